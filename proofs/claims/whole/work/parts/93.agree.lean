/-! written by wip/whole/gen/walk.py out of 93.agree.txt -/
def offs : List Int32 → am_ts → am_ts
  | [], o => o
  | t :: l, o => offs l (offA t o)
theorem offs_none {l : List Int32} : offs l none = none := by
  induction l with
  | nil => rfl
  | cons t l ih => exact ih
theorem offs_app {l l' : List Int32} {o : am_ts} : offs (l ++ l') o = offs l' (offs l o) := by
  induction l generalizing o with
  | nil => rfl
  | cons t l ih => exact ih
theorem it_offs {t : Int32} {n : Nat} {o : am_ts} : itA (offA t) n o = offs (List.replicate n t) o := by
  induction n generalizing o with
  | zero => rfl
  | succ n ih =>
    rw [List.replicate_succ]
    exact ih
theorem offs_pops {l : List Int32} (hl : ∀ t ∈ l, ¬ t = 0) {L : Int32} : ∀ {R : Int32} {h : Nat}, h < 16 → offs l (some (L, R, nI h)) = (pops l R (nI h)).map (fun q => (L, q)) := by
  induction l with
  | nil =>
    intro R h hh
    rfl
  | cons t l ih =>
    intro R h hh
    have ht := hl t (List.mem_cons_self ..)
    unfold offs pops offA
    rcases h with _ | h
    · rw [tk_0.1, if_neg (fun q => ht q.symm)]
      have e0 : nI 0 = 0 := rfl
      simp only [e0, if_true]
      rw [offs_none]
      rfl
    · obtain ⟨a, b, c⟩ := @tk_s R h (by omega)
      have e0 : ¬ nI (h + 1) = 0 := by rw [nI_z (by omega)]; omega
      simp only [if_neg e0, a, b, c, nI_p]
      by_cases e : ty_at R (nI h) = t
      · rw [if_pos (Or.inr e), if_pos e]
        exact ih (fun t ht => hl t (List.mem_cons_of_mem _ ht)) (by omega)
      · rw [if_neg (fun q => q.elim ht e), if_neg e, offs_none]
        rfl
def resA (P : am_S) (m : Nat) (hei op n L R H : Int32) : am_ts := if ty_rl op = 0 ∨ ty_at L n = ty_rl op then (match ss P m op n R H with
  | some q => if q.2.toInt ≤ hei.toInt then some (lw op n L, q.1, q.2) else none
  | none => none) else none
theorem put_res {hei v L R : Int32} {h : Nat} (hv : v = 0 ∨ v = 1 ∨ v = 2) (h8 : hei.toInt ≤ 8) (hh : (h : Int) ≤ hei.toInt) : putA hei v (some (L, R, nI h)) = if (puH (nI h) v).toInt ≤ hei.toInt then some (L, puR R (nI h) v, puH (nI h) v) else none := by
  unfold putA
  by_cases e : v = 0
  · rw [if_pos e, e, pu_0.1, (@pu_0 R _).2, nI_t (by omega), if_pos hh]
  · rw [if_neg e]
    have hv := hv.resolve_left e
    rw [(pu_12 hv).1, pv_12 hv, nI_t (by omega)]
    unfold onA
    simp only
    by_cases e2 : nI h = hei
    · rw [if_pos e2, if_neg]
      rw [← e2, nI_t (by omega)]
      omega
    · rw [if_neg e2, if_pos, nI_s]
      rw [i32_eq, nI_t (by omega)] at e2
      omega
def genA (hei op n : Int32) (o : am_ts) : am_ts := putA hei (ty_pt op) ((fun o => if ty_wr op = 0 then o else wrA n (ty_wr op) o) (offs (ty_du op) (if ty_rl op = 0 then o else chA n (ty_rl op) o)))
theorem pt_c {op : Int32} : ty_pt op = 0 ∨ ty_pt op = 1 ∨ ty_pt op = 2 := by
  unfold ty_pt
  split
  · exact Or.inr (Or.inl rfl)
  · split
    · exact Or.inr (Or.inr rfl)
    · exact Or.inl rfl
theorem du_n0 {op : Int32} : ∀ t ∈ ty_du op, ¬ t = 0 := by
  intro t ht
  rcases du_nz t ht with h | h <;> rw [h] <;> decide
theorem wr_none {op n : Int32} : (if ty_wr op = 0 then (none : am_ts) else wrA n (ty_wr op) none) = none := by
  split <;> rfl
theorem put_none {hei v : Int32} : putA hei v none = none := by
  unfold putA
  split <;> rfl
theorem gen_res {P : am_S} {m h : Nat} {hei op n L R : Int32} (h8 : hei.toInt ≤ 8) (hh : (h : Int) ≤ hei.toInt) (w : wfR R h) (h1 : ¬ op = 87) (h2 : ¬ op = 89) (h3 : ¬ op = 95) (h4 : ¬ op = 184) (h5 : op = 172 → ¬ P 6 m = 0) (h6 : op = 177 → P 6 m = 0) : genA hei op n (some (L, R, nI h)) = resA P m hei op n L R (nI h) := by
  unfold genA resA
  rw [ss_pl h1 h2 h3 h4 h5 h6]
  by_cases e : ty_rl op = 0 ∨ ty_at L n = ty_rl op
  · rw [if_pos e]
    have e1 : (if ty_rl op = 0 then some (L, R, nI h) else chA n (ty_rl op) (some (L, R, nI h))) = some (L, R, nI h) := by
      by_cases e0 : ty_rl op = 0
      · rw [if_pos e0]
      · rw [if_neg e0]
        unfold chA
        simp only
        rw [if_pos (e.resolve_left e0)]
    rw [e1, offs_pops du_n0 (by omega)]
    rcases hp : pops (ty_du op) R (nI h) with _ | ⟨R1, H1⟩
    · simp only [Option.map_none]
      rw [wr_none, put_none]
    · obtain ⟨k, k1, k2, k3⟩ := pops_wf du_n0 (by omega) w hp
      subst k2
      simp only [Option.map_some]
      have e2 : (if ty_wr op = 0 then some (L, R1, nI k) else wrA n (ty_wr op) (some (L, R1, nI k))) = some (lw op n L, R1, nI k) := by
        unfold lw
        by_cases e0 : ty_wr op = 0
        · rw [if_pos e0, if_pos e0]
        · rw [if_neg e0, if_neg e0]
          rfl
      rw [e2]
      exact put_res pt_c h8 (by omega)
  · rw [if_neg e]
    have e0 : ¬ ty_rl op = 0 := fun q => e (Or.inl q)
    have e1 : (if ty_rl op = 0 then some (L, R, nI h) else chA n (ty_rl op) (some (L, R, nI h))) = none := by
      rw [if_neg e0]
      unfold chA
      simp only
      rw [if_neg (fun q => e (Or.inr q))]
    rw [e1, offs_none]
    simp only
    rw [wr_none, put_none]
theorem pl_gen {b hei n : Int32} {o : am_ts} (h : is_pl b) : plA hei b n o = genA hei (dO b) n o := by
  have c1 : dO 1 = 1 := by decide
  have c178 : dO 178 = 178 := by decide
  unfold plA
  by_cases e1 : b = 1
  · subst e1
    rw [if_pos rfl, c1]
    rfl
  · rw [if_neg e1]
    by_cases e2 : dO b = 17 ∨ b = 178
    · rw [if_pos e2]
      rcases e2 with e2 | e2
      · rw [e2]
        rfl
      · subst e2
        rw [c178]
        rfl
    · rw [if_neg e2]
      rw [not_or] at e2
      rcases h with h | h | h | h
      · exact absurd h e1
      · exact absurd h e2.1
      · exact absurd h e2.2
      · unfold op_loc at h
        rcases h with h | h | h | h | h
        · rw [h, if_pos rfl]
          rfl
        · rw [h, if_neg (by decide), if_neg (by decide), if_pos rfl]
          rfl
        · rw [h, if_neg (by decide), if_neg (by decide), if_neg (by decide), if_pos rfl]
          rfl
        · rw [h, if_neg (by decide), if_neg (by decide), if_neg (by decide), if_neg (by decide)]
          rfl
        · rw [h, if_neg (by decide), if_pos rfl]
          rfl
theorem ot_f {b : Int32} (h0 : 0 ≤ b.toInt) (h1 : b.toInt ≤ 255) : ¬ is_pl b → dO b = b ∧ ty_rl b = 0 ∧ ty_wr b = 0 ∧ mo_p b = ty_pt b ∧ List.replicate (mo_i b).toInt.toNat (1 : Int32) ++ List.replicate (mo_r b).toInt.toNat 2 = ty_du b := by
  refine by_dec (Q := fun b => ¬ is_pl b → dO b = b ∧ ty_rl b = 0 ∧ ty_wr b = 0 ∧ mo_p b = ty_pt b ∧ List.replicate (mo_i b).toInt.toNat (1 : Int32) ++ List.replicate (mo_r b).toInt.toNat 2 = ty_du b) ?_ h0 h1
  unfold is_pl op_loc dO ty_rl ty_wr mo_p ty_pt mo_i mo_r ty_du
  decide +kernel
theorem off0 {L R : Int32} {h : Nat} (hh : h < 16) : offA 0 (some (L, R, nI (h + 1))) = some (L, ty_with R (nI h) 0, nI h) ∧ topT (some (L, R, nI (h + 1))) = ty_at R (nI h) := by
  have e0 : ¬ nI (h + 1) = 0 := by rw [nI_z (by omega)]; omega
  unfold offA topT
  simp only [if_neg e0, nI_p]
  rw [if_pos (Or.inl trivial)]
  exact ⟨rfl, trivial⟩
theorem off00 {L R : Int32} : offA 0 (some (L, R, nI 0)) = none := by
  have e0 : nI 0 = 0 := rfl
  unfold offA
  simp only [e0, if_true]
theorem on_lt {hei t L R : Int32} {h : Nat} (h8 : hei.toInt ≤ 8) (hh : (h : Int) < hei.toInt) : onA hei t (some (L, R, nI h)) = some (L, ty_with R (nI h) t, nI (h + 1)) := by
  unfold onA
  simp only
  rw [if_neg, nI_s]
  rw [i32_eq, nI_t (by omega)]
  omega
theorem on_eq {hei t L R : Int32} {h : Nat} (h8 : hei.toInt ≤ 8) (hh : (h : Int) = hei.toInt) : onA hei t (some (L, R, nI h)) = none := by
  unfold onA
  simp only
  rw [if_pos]
  rw [i32_eq, nI_t (by omega)]
  exact hh
theorem res_sp {P : am_S} {m : Nat} {hei op n L R H : Int32} (h : op = 87 ∨ op = 89 ∨ op = 95 ∨ op = 184 ∨ op = 177) : resA P m hei op n L R H = match ss P m op n R H with
  | some q => if q.2.toInt ≤ hei.toInt then some (L, q.1, q.2) else none
  | none => none := by
  obtain ⟨a, b⟩ := rw_sp h
  unfold resA
  rw [if_pos (Or.inl a)]
  simp only [b]
theorem ot_res {P : am_S} {m h : Nat} {hei b n L R : Int32} (hv : VP P) (h0 : 0 ≤ b.toInt) (h1 : b.toInt ≤ 255) (h8 : hei.toInt ≤ 8) (hh : (h : Int) ≤ hei.toInt) (w : wfR R h) (hp : ¬ is_pl b) (hn : b = 184 → 0 ≤ n.toInt ∧ n.toNatClampNeg < nM P) : otA P m hei b n (some (L, R, nI h)) = resA P m hei (dO b) n L R (nI h) := by
  obtain ⟨f1, f2, f3, f4, f5⟩ := ot_f h0 h1 hp
  rw [f1]
  unfold otA
  by_cases b1 : b = 89
  · rw [if_pos b1, b1, res_sp (by decide), ss_89]
    rcases h with _ | h
    · rw [off00, tk_0.1, if_pos rfl]
      rfl
    · obtain ⟨t1, t2, t3⟩ := @tk_s R h (by omega)
      have v := w.2 h (by omega)
      have v0 : ¬ ty_at R (nI h) = 0 := by rcases v with v | v <;> rw [v] <;> decide
      rw [(off0 (by omega)).1, (@off0 L R h (by omega)).2, t1, t2, t3, if_neg v0, on_lt h8 (by omega), (pu_12 v).1, pv_12 v, (pu_12 v).1, pv_12 v]
      simp only
      rw [nI_t (by omega)]
      by_cases e : ((h + 1 : Nat) : Int) = hei.toInt
      · rw [on_eq h8 e, if_neg (by omega)]
      · rw [on_lt h8 (by omega), if_pos (by omega)]
  · rw [if_neg b1]
    by_cases b2 : b = 95
    · rw [if_pos b2, b2, res_sp (by decide), ss_95]
      rcases h with _ | h
      · rw [off00, tk_0.1, if_pos (Or.inl rfl)]
        rfl
      · obtain ⟨t1, t2, t3⟩ := @tk_s R h (by omega)
        have v := w.2 h (by omega)
        have v0 : ¬ ty_at R (nI h) = 0 := by rcases v with v | v <;> rw [v] <;> decide
        have w1 := wf_pop (by omega) w
        rw [(off0 (by omega)).1, (@off0 L R h (by omega)).2, t1, t2, t3]
        rcases h with _ | h
        · rw [off00, tk_0.1, if_pos (Or.inr rfl)]
          rfl
        · obtain ⟨u1, u2, u3⟩ := @tk_s (ty_with R (nI (h + 1)) 0) h (by omega)
          have x := w1.2 h (by omega)
          have x0 : ¬ ty_at (ty_with R (nI (h + 1)) 0) (nI h) = 0 := by rcases x with x | x <;> rw [x] <;> decide
          rw [(off0 (by omega)).1, (@off0 L (ty_with R (nI (h + 1)) 0) h (by omega)).2, u1, u2, u3, if_neg (fun q => q.elim v0 x0), on_lt h8 (by omega), on_lt h8 (by omega), (pu_12 v).1, pv_12 v, (pu_12 x).1, pv_12 x]
          simp only
          rw [nI_t (by omega), if_pos (by omega)]
    · rw [if_neg b2]
      by_cases b3 : b = 184
      · rw [if_pos b3, b3, res_sp (by decide), ss_184, it_offs, ← nn_eq]
        have hl : ∀ t ∈ List.replicate (P 3 n.toNatClampNeg).toNatClampNeg (1 : Int32), ¬ t = 0 := by
          intro t ht
          rw [List.eq_of_mem_replicate ht]
          decide
        rw [offs_pops hl (by omega)]
        rcases hq : pops (List.replicate (P 3 n.toNatClampNeg).toNatClampNeg 1) R (nI h) with _ | ⟨R1, H1⟩
        · simp only [Option.map_none]
          rw [put_none]
        · obtain ⟨k, k1, k2, k3⟩ := pops_wf hl (by omega) w hq
          subst k2
          simp only [Option.map_some]
          exact put_res (by split <;> decide) h8 (by omega)
      · rw [if_neg b3]
        by_cases b4 : b = 87
        · subst b4
          have c : (¬ (87 : Int32) = 172 ∨ ¬ P 6 m = 0) ∧ (¬ (87 : Int32) = 177 ∨ P 6 m = 0) := ⟨Or.inl (by decide), Or.inl (by decide)⟩
          have cp : mo_p 87 = 0 := by decide
          have ci : (mo_i 87).toInt.toNat = 0 := by decide
          have cr : (mo_r 87).toInt.toNat = 0 := by decide
          rw [if_pos rfl, cp, ci, cr, res_sp (by decide), ss_87]
          unfold ifA putA
          rw [if_pos c, if_pos rfl]
          unfold itA itA
          rcases h with _ | h
          · rw [off00, tk_0.1, if_pos rfl]
          · obtain ⟨t1, t2, t3⟩ := @tk_s R h (by omega)
            have v := w.2 h (by omega)
            have v0 : ¬ ty_at R (nI h) = 0 := by rcases v with v | v <;> rw [v] <;> decide
            rw [(off0 (by omega)).1, t1, t2, t3, if_neg v0]
            simp only
            rw [nI_t (by omega), if_pos (by omega)]
        · rw [if_neg b4, it_offs, it_offs, ← offs_app, f5, f4]
          unfold ifA
          by_cases c : (¬ b = 172 ∨ ¬ P 6 m = 0) ∧ (¬ b = 177 ∨ P 6 m = 0)
          · rw [if_pos c, ← gen_res (P := P) (m := m) h8 hh w b4 b1 b2 b3 (fun q => c.1.resolve_left (fun z => z q)) (fun q => c.2.resolve_left (fun z => z q))]
            unfold genA
            simp only [f2, f3, if_true]
          · rw [if_neg c]
            unfold resA
            rw [if_pos (Or.inl f2), ss_bad]
            by_cases c1 : b = 172
            · refine Or.inl ⟨c1, Decidable.byContradiction fun q => c ⟨Or.inr q, Or.inl ?_⟩⟩
              rw [c1]
              decide
            · refine Or.inr ⟨Decidable.byContradiction fun q => c ⟨Or.inl c1, Or.inl q⟩, fun q => c ⟨Or.inl c1, Or.inr q⟩⟩
theorem pl_res {P : am_S} {m h : Nat} {hei b n L R : Int32} (h0 : 0 ≤ b.toInt) (h1 : b.toInt ≤ 255) (h8 : hei.toInt ≤ 8) (hh : (h : Int) ≤ hei.toInt) (w : wfR R h) (hp : is_pl b) : plA hei b n (some (L, R, nI h)) = resA P m hei (dO b) n L R (nI h) := by
  have key : ∀ b : Fin 256, is_pl (nI b.val) → ¬ dO (nI b.val) = 87 ∧ ¬ dO (nI b.val) = 89 ∧ ¬ dO (nI b.val) = 95 ∧ ¬ dO (nI b.val) = 184 ∧ ¬ dO (nI b.val) = 172 ∧ ¬ dO (nI b.val) = 177 := by
    unfold is_pl op_loc dO
    decide +kernel
  obtain ⟨a1, a2, a3, a4, a5, a6⟩ := by_dec (Q := fun b => is_pl b → ¬ dO b = 87 ∧ ¬ dO b = 89 ∧ ¬ dO b = 95 ∧ ¬ dO b = 184 ∧ ¬ dO b = 172 ∧ ¬ dO b = 177) key h0 h1 hp
  rw [pl_gen hp]
  exact gen_res h8 hh w a1 a2 a3 a4 (fun q => absurd q a5) (fun q => absurd q a6)

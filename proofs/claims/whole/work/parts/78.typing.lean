/-! Types that flow: states, the effect of one instruction, typings of a method, and their order. -/
theorem nI_t {n : Nat} (h : n < 2147483648) : (nI n).toInt = n := by
  unfold nI
  exact Int32.toInt_ofNat_of_lt (by simpa using h)
theorem nI_s {n : Nat} : nI n + 1 = nI (n + 1) := by
  unfold nI
  rw [Int32.ofNat_add]
  rfl
theorem nI_p {n : Nat} : nI (n + 1) - 1 = nI n := by
  rw [← nI_s]
  exact Int32.add_sub_cancel _ _
theorem nI_z {n : Nat} (h : n < 2147483648) : nI n = 0 ↔ n = 0 := by
  rw [i32_eq, nI_t h]
  simp only [Int32.reduceToInt]
  omega
theorem nI_i {a b : Nat} (ha : a < 2147483648) (hb : b < 2147483648) : nI a = nI b ↔ a = b := by
  rw [i32_eq, nI_t ha, nI_t hb]
  omega
theorem nI_c {n : Nat} (h : n < 2147483648) : (nI n).toNatClampNeg = n := by
  rw [nn_eq, nI_t h]
  omega
theorem nI_f {x : Int32} {n : Nat} (h : x.toInt = n) : x = nI n := by
  have := (i32_rg x).2
  rw [i32_eq, nI_t (by omega), h]
-- what is taken, what is put
def tkT (R H : Int32) : Int32 := if H = 0 then 0 else ty_at R (H - 1)
def tkR (R H : Int32) : Int32 := if H = 0 then R else ty_with R (H - 1) 0
def tkH (H : Int32) : Int32 := if H = 0 then H else H - 1
def puR (R H k : Int32) : Int32 := if k = 0 then R else ty_with R H k
def puH (H k : Int32) : Int32 := if k = 0 then H else H + 1
def pops : List Int32 → Int32 → Int32 → Option (Int32 × Int32)
  | [], R, H => some (R, H)
  | t :: l, R, H => if tkT R H = t then pops l (tkR R H) (tkH H) else none
def ty_rl (op : Int32) : Int32 := if op = 21 ∨ op = 132 then 1 else if op = 25 then 2 else 0
def ty_wr (op : Int32) : Int32 := if op = 54 then 1 else if op = 58 then 2 else 0
def ty_pt (op : Int32) : Int32 := if op.toInt ∈ [96, 100, 104, 108, 112, 120, 122, 124, 126, 128, 130, 17, 21, 46, 116, 178, 190] then 1 else if op = 1 ∨ op = 25 ∨ op = 188 then 2 else 0
def ty_du (op : Int32) : List Int32 := if op.toInt ∈ [96, 100, 104, 108, 112, 120, 122, 124, 126, 128, 130, 159, 160, 161, 162, 163, 164] then [1, 1] else if op.toInt ∈ [153, 154, 155, 156, 157, 158, 54, 116, 172, 179, 188] then [1] else if op = 165 ∨ op = 166 then [2, 2] else if op.toInt ∈ [58, 190, 198, 199] then [2] else if op = 46 then [1, 2] else if op = 79 then [1, 1, 2] else []
def dues (P : am_S) (op n : Int32) : List Int32 := if op = 184 then List.replicate (P 3 n.toNatClampNeg).toNatClampNeg 1 else ty_du op
def puts (P : am_S) (op n : Int32) : Int32 := if op = 184 then (if P 6 n.toNatClampNeg = 0 then 0 else 1) else ty_pt op
def ss (P : am_S) (m : Nat) (op n R H : Int32) : Option (Int32 × Int32) :=
  if op = 87 then (if tkT R H = 0 then none else some (tkR R H, tkH H))
  else if op = 89 then (if tkT R H = 0 then none else some (puR (puR (tkR R H) (tkH H) (tkT R H)) (puH (tkH H) (tkT R H)) (tkT R H), puH (puH (tkH H) (tkT R H)) (tkT R H)))
  else if op = 95 then (if tkT R H = 0 ∨ tkT (tkR R H) (tkH H) = 0 then none else some (puR (puR (tkR (tkR R H) (tkH H)) (tkH (tkH H)) (tkT R H)) (puH (tkH (tkH H)) (tkT R H)) (tkT (tkR R H) (tkH H)), puH (puH (tkH (tkH H)) (tkT R H)) (tkT (tkR R H) (tkH H))))
  else if (op = 172 ∧ P 6 m = 0) ∨ (op = 177 ∧ ¬ P 6 m = 0) then none
  else (pops (dues P op n) R H).map (fun q => (puR q.1 q.2 (puts P op n), puH q.2 (puts P op n)))
def lw (op n L : Int32) : Int32 := if ty_wr op = 0 then L else ty_with L n (ty_wr op)
-- states in good form
def wfR (R : Int32) (h : Nat) : Prop := (∀ k, h ≤ k → k < 16 → ty_at R (nI k) = 0) ∧ ∀ k, k < h → ty_at R (nI k) = 1 ∨ ty_at R (nI k) = 2
def wfL (L : Int32) : Prop := (∀ k, 8 ≤ k → k < 16 → ty_at L (nI k) = 0) ∧ ∀ k, k < 8 → ty_at L (nI k) = 0 ∨ ty_at L (nI k) = 1 ∨ ty_at L (nI k) = 2
theorem at_w0 {r : Int32} {k j : Nat} (hk : k < 16) (hj : j < 16) : ty_at (ty_with r (nI k) 0) (nI j) = if j = k then 0 else ty_at r (nI j) := by
  have e : (0 : Int32) = nI 0 := rfl
  rw [e]
  by_cases h : j = k
  · subst h
    rw [if_pos rfl, at_with_eq hk (by omega)]
  · rw [if_neg h, at_with_ne hk hj (by omega) h]
theorem at_w12 {r v : Int32} {k j : Nat} (hv : v = 1 ∨ v = 2) (hk : k < 16) (hj : j < 16) : ty_at (ty_with r (nI k) v) (nI j) = if j = k then v else ty_at r (nI j) := by
  have e : ∃ n, n < 4 ∧ v = nI n := by
    rcases hv with h | h
    · exact ⟨1, by omega, h⟩
    · exact ⟨2, by omega, h⟩
  obtain ⟨n, h4, e⟩ := e
  rw [e]
  by_cases h : j = k
  · subst h
    rw [if_pos rfl, at_with_eq hk h4]
  · rw [if_neg h, at_with_ne hk hj h4 h]
theorem tk_0 {R : Int32} : tkT R (nI 0) = 0 ∧ tkR R (nI 0) = R ∧ tkH (nI 0) = nI 0 := by
  have e : nI 0 = 0 := rfl
  unfold tkT tkR tkH
  rw [if_pos e, if_pos e, if_pos e]
  exact ⟨rfl, rfl, rfl⟩
theorem tk_s {R : Int32} {h : Nat} (hh : h < 16) : tkT R (nI (h + 1)) = ty_at R (nI h) ∧ tkR R (nI (h + 1)) = ty_with R (nI h) 0 ∧ tkH (nI (h + 1)) = nI h := by
  have e : ¬ nI (h + 1) = 0 := by rw [nI_z (by omega)]; omega
  unfold tkT tkR tkH
  rw [if_neg e, if_neg e, if_neg e, nI_p]
  exact ⟨rfl, rfl, rfl⟩
theorem wf_pop {R : Int32} {h : Nat} (hh : h < 15) (w : wfR R (h + 1)) : wfR (ty_with R (nI h) 0) h := by
  refine ⟨fun k a b => ?_, fun k a => ?_⟩
  · rw [at_w0 (by omega) b]
    by_cases e : k = h
    · rw [if_pos e]
    · rw [if_neg e]
      exact w.1 k (by omega) b
  · rw [at_w0 (by omega) (by omega), if_neg (by omega)]
    exact w.2 k (by omega)
theorem wf_push {R v : Int32} {h : Nat} (hv : v = 1 ∨ v = 2) (hh : h < 15) (w : wfR R h) : wfR (ty_with R (nI h) v) (h + 1) := by
  refine ⟨fun k a b => ?_, fun k a => ?_⟩
  · rw [at_w12 hv (by omega) b, if_neg (by omega)]
    exact w.1 k (by omega) b
  · rw [at_w12 hv (by omega) (by omega)]
    by_cases e : k = h
    · rw [if_pos e]
      exact hv
    · rw [if_neg e]
      exact w.2 k (by omega)
theorem pu_12 {R k : Int32} {h : Nat} (hk : k = 1 ∨ k = 2) : puR R (nI h) k = ty_with R (nI h) k ∧ puH (nI h) k = nI (h + 1) := by
  have e : ¬ k = 0 := by rcases hk with h | h <;> rw [h] <;> decide
  unfold puR puH
  rw [if_neg e, if_neg e, nI_s]
  exact ⟨rfl, rfl⟩
theorem pv_12 {k : Int32} {h : Nat} (hk : k = 1 ∨ k = 2) : puH (nI h) k = nI (h + 1) := (@pu_12 0 k h hk).2
theorem pu_0 {R H : Int32} : puR R H 0 = R ∧ puH H 0 = H := by
  unfold puR puH
  rw [if_pos rfl, if_pos rfl]
  exact ⟨rfl, rfl⟩
theorem pops_wf {l : List Int32} (hl : ∀ t ∈ l, ¬ t = 0) : ∀ {R R' H' : Int32} {h : Nat}, h < 16 → wfR R h → pops l R (nI h) = some (R', H') → ∃ h', h' ≤ h ∧ H' = nI h' ∧ wfR R' h' := by
  induction l with
  | nil =>
    intro R R' H' h hh w e
    unfold pops at e
    rw [Option.some.injEq, Prod.mk.injEq] at e
    exact ⟨h, Nat.le_refl _, e.2.symm, e.1 ▸ w⟩
  | cons t l ih =>
    intro R R' H' h hh w e
    unfold pops at e
    split at e
    · rename_i e2
      rcases h with _ | h
      · rw [tk_0.1] at e2
        exact absurd e2.symm (hl t (List.mem_cons_self ..))
      · rw [(@tk_s R h (by omega)).2.1, (@tk_s R h (by omega)).2.2] at e
        obtain ⟨h', a, b, c⟩ := ih (fun t ht => hl t (List.mem_cons_of_mem _ ht)) (by omega) (wf_pop (by omega) w) e
        exact ⟨h', by omega, b, c⟩
    · cases e
theorem du_nz {op : Int32} : ∀ t ∈ ty_du op, t = 1 ∨ t = 2 := by
  unfold ty_du
  intro t
  repeat' split
  all_goals
    intro h
    simp only [List.mem_cons, List.not_mem_nil, or_false] at h
    try first | exact Or.inl h | exact Or.inr h | (rcases h with h | h <;> first | exact Or.inl h | exact Or.inr h) | (rcases h with h | h | h <;> first | exact Or.inl h | exact Or.inr h) | exact h.elim
theorem dues_nz {P : am_S} {op n : Int32} : ∀ t ∈ dues P op n, ¬ t = 0 := by
  intro t ht
  unfold dues at ht
  split at ht
  · rw [List.eq_of_mem_replicate ht]
    decide
  · rcases du_nz t ht with h | h <;> rw [h] <;> decide
theorem puts_c {P : am_S} {op n : Int32} : puts P op n = 0 ∨ puts P op n = 1 ∨ puts P op n = 2 := by
  unfold puts ty_pt
  repeat' split
  all_goals simp
theorem put_wf {R v : Int32} {h : Nat} (hv : v = 0 ∨ v = 1 ∨ v = 2) (hh : h < 15) (w : wfR R h) : ∃ h', h' ≤ h + 1 ∧ puH (nI h) v = nI h' ∧ wfR (puR R (nI h) v) h' := by
  rcases hv with e | e
  · subst e
    rw [pu_0.1, (@pu_0 R _).2]
    exact ⟨h, by omega, rfl, w⟩
  · rw [(pu_12 e).1, pv_12 e]
    exact ⟨h + 1, by omega, rfl, wf_push e hh w⟩
theorem tkT_c {R : Int32} {h : Nat} (hh : h < 16) (w : wfR R h) (e : ¬ tkT R (nI h) = 0) : ∃ h', h = h' + 1 ∧ tkT R (nI h) = ty_at R (nI h') ∧ (tkT R (nI h) = 1 ∨ tkT R (nI h) = 2) ∧ tkR R (nI h) = ty_with R (nI h') 0 ∧ tkH (nI h) = nI h' := by
  rcases h with _ | h
  · exact absurd tk_0.1 e
  · obtain ⟨a, b, c⟩ := @tk_s R h (by omega)
    refine ⟨h, rfl, a, ?_, b, c⟩
    rw [a]
    exact w.2 h (by omega)
theorem ss_wf {P : am_S} {m : Nat} {op n R R' H' : Int32} {h : Nat} (hh : h ≤ 8) (w : wfR R h) (e : ss P m op n R (nI h) = some (R', H')) : ∃ h', h' ≤ 9 ∧ H' = nI h' ∧ wfR R' h' := by
  unfold ss at e
  split at e
  · split at e
    · cases e
    · rename_i e2
      obtain ⟨h', a, b, c, d, f⟩ := tkT_c (by omega) w e2
      rw [Option.some.injEq, Prod.mk.injEq] at e
      subst a
      exact ⟨h', by omega, by rw [← e.2, f], by rw [← e.1, d]; exact wf_pop (by omega) w⟩
  · split at e
    · split at e
      · cases e
      · rename_i e2
        obtain ⟨h', a, b, c, d, f⟩ := tkT_c (by omega) w e2
        subst a
        have w1 := wf_pop (by omega) w
        have w2 := wf_push c (by omega) w1
        have w3 := wf_push c (by omega) w2
        rw [Option.some.injEq, Prod.mk.injEq, d, f, (pu_12 c).1, pv_12 c, (pu_12 c).1, pv_12 c] at e
        exact ⟨h' + 1 + 1, by omega, e.2.symm, e.1 ▸ w3⟩
    · split at e
      · split at e
        · cases e
        · rename_i e2
          rw [not_or] at e2
          obtain ⟨h', a, b, c, d, f⟩ := tkT_c (by omega) w e2.1
          subst a
          rw [d, f] at e2 e
          have w1 := wf_pop (by omega) w
          obtain ⟨h2, a2, b2, c2, d2, f2⟩ := tkT_c (by omega) w1 e2.2
          subst a2
          rw [d2, f2] at e
          have w2 := wf_pop (by omega) w1
          have w3 := wf_push c (by omega) w2
          have w4 := wf_push c2 (by omega) w3
          rw [Option.some.injEq, Prod.mk.injEq, (pu_12 c).1, pv_12 c, (pu_12 c2).1, pv_12 c2] at e
          exact ⟨h2 + 1 + 1, by omega, e.2.symm, e.1 ▸ w4⟩
      · split at e
        · cases e
        · rw [Option.map_eq_some_iff] at e
          obtain ⟨⟨R1, H1⟩, e1, e2⟩ := e
          obtain ⟨h1, a, b, c⟩ := pops_wf dues_nz (by omega) w e1
          subst b
          obtain ⟨h', a2, b2, c2⟩ := @put_wf R1 _ h1 puts_c (by omega) c
          rw [Prod.mk.injEq] at e2
          simp only at e2
          exact ⟨h', by omega, by rw [← e2.2, b2], by rw [← e2.1]; exact c2⟩
-- locals: more and less known
def lel (L L' : Int32) : Prop := ∀ k, k < 8 → ty_at L' (nI k) = ty_at L (nI k) ∨ ty_at L' (nI k) = 0
theorem lel_refl {L : Int32} : lel L L := fun _ _ => Or.inl rfl
theorem lel_trans {A B C : Int32} (h : lel A B) (h' : lel B C) : lel A C := by
  intro k hk
  rcases h' k hk with a | a
  · rw [a]
    exact h k hk
  · exact Or.inr a
theorem lel_anti {A B : Int32} (wa : wfL A) (wb : wfL B) (h : lel A B) (h' : lel B A) : A = B := by
  refine at_ext fun k hk => ?_
  by_cases e : k < 8
  · rcases h k e with a | a
    · exact a.symm
    · rcases h' k e with b | b
      · exact b
      · rw [a, b]
  · rw [wa.1 k (by omega) hk, wb.1 k (by omega) hk]
theorem lel_com1 {A B : Int32} : lel A (ty_com A B) := by
  intro k hk
  rw [at_com hk]
  split
  · exact Or.inl rfl
  · exact Or.inr rfl
theorem lel_com2 {A B : Int32} : lel B (ty_com A B) := by
  intro k hk
  rw [at_com hk]
  split
  · rename_i h
    exact Or.inl h
  · exact Or.inr rfl
theorem lel_com {A B C : Int32} (h : lel A C) (h' : lel B C) : lel (ty_com A B) C := by
  intro k hk
  rw [at_com hk]
  split
  · exact h k hk
  · rename_i e
    rcases h k hk with a | a
    · rcases h' k hk with b | b
      · exact absurd (a.symm.trans b) e
      · exact Or.inr b
    · exact Or.inr a
theorem wfL_com {A B : Int32} (h : wfL A) : wfL (ty_com A B) := by
  refine ⟨fun k a b => ?_, fun k a => ?_⟩
  · rw [at_com_hi b a]
    exact h.1 k a b
  · rw [at_com a]
    split
    · exact h.2 k a
    · exact Or.inl rfl
theorem wr_c {op : Int32} : ty_wr op = 0 ∨ ty_wr op = 1 ∨ ty_wr op = 2 := by
  unfold ty_wr
  split
  · exact Or.inr (Or.inl rfl)
  · split
    · exact Or.inr (Or.inr rfl)
    · exact Or.inl rfl
theorem lw_wf {op L : Int32} {n : Nat} (hn : ¬ ty_wr op = 0 → n < 8) (h : wfL L) : wfL (lw op (nI n) L) := by
  have hv := @wr_c op
  unfold lw
  by_cases e : ty_wr op = 0
  · rw [if_pos e]
    exact h
  · rw [if_neg e]
    have hv := hv.resolve_left e
    have hn := hn e
    refine ⟨fun k a b => ?_, fun k a => ?_⟩
    · rw [at_w12 hv (by omega) b, if_neg (by omega)]
      exact h.1 k a b
    · rw [at_w12 hv (by omega) (by omega)]
      split
      · exact Or.inr hv
      · exact h.2 k a
theorem lw_lel {op L L' : Int32} {n : Nat} (hn : ¬ ty_wr op = 0 → n < 8) (h : lel L L') : lel (lw op (nI n) L) (lw op (nI n) L') := by
  have hv := @wr_c op
  unfold lw
  by_cases e : ty_wr op = 0
  · rw [if_pos e, if_pos e]
    exact h
  · rw [if_neg e, if_neg e]
    have hv := hv.resolve_left e
    have hn := hn e
    intro k hk
    rw [at_w12 hv (by omega) (by omega), at_w12 hv (by omega) (by omega)]
    split
    · exact Or.inl rfl
    · exact h k hk
-- what is found at the places of a method: T 0 locals, T 1 row, T 2 height (-1: nothing)
abbrev am_T : Type := Nat → Nat → Int32
def le (N : Nat) (T U : am_T) : Prop := ∀ p, p < N → ¬ T 2 p = -1 → U 2 p = T 2 p ∧ U 1 p = T 1 p ∧ lel (T 0 p) (U 0 p)
def Ar (N : Nat) (T : am_T) (z : Int) (L R H : Int32) : Prop := 0 ≤ z ∧ z < (N : Int) ∧ ¬ T 2 z.toNat = -1 ∧ T 2 z.toNat = H ∧ T 1 z.toNat = R ∧ lel L (T 0 z.toNat)
theorem le_refl' {N : Nat} {T : am_T} : le N T T := fun _ _ _ => ⟨rfl, rfl, lel_refl⟩
theorem le_trans' {N : Nat} {T U V : am_T} (h : le N T U) (h' : le N U V) : le N T V := by
  intro p hp e
  obtain ⟨a, b, c⟩ := h p hp e
  obtain ⟨a', b', c'⟩ := h' p hp (by rw [a]; exact e)
  exact ⟨a'.trans a, b'.trans b, lel_trans c c'⟩
theorem Ar_le {N : Nat} {T U : am_T} {z : Int} {L R H : Int32} (h : Ar N T z L R H) (h' : le N T U) : Ar N U z L R H := by
  obtain ⟨a, b, c, d, e, f⟩ := h
  obtain ⟨a', b', c'⟩ := h' z.toNat (by omega) c
  exact ⟨a, b, by rw [a']; exact c, a'.trans d, b'.trans e, lel_trans f c'⟩
theorem Ar_lel {N : Nat} {T : am_T} {z : Int} {L L' R H : Int32} (h : Ar N T z L' R H) (h' : lel L L') : Ar N T z L R H := ⟨h.1, h.2.1, h.2.2.1, h.2.2.2.1, h.2.2.2.2.1, lel_trans h' h.2.2.2.2.2⟩
def cov (P : am_S) (h p : Nat) : Prop := (P 8 h).toInt ≤ p ∧ (p : Int) < (P 9 h).toInt
/-- what an instruction at p that is reached with L, R, H asks of what is found -/
def SO (P : am_S) (m : Nat) (T : am_T) (p : Nat) (L R H : Int32) : Prop :=
  (∀ k, k < (P 7 m).toInt.toNat → cov P (4 * m + k) p → 1 ≤ (P 5 m).toInt ∧ Ar (nl P m) T (P 10 (4 * m + k)).toInt L 1 1) ∧
  (ty_rl (pO P (nb P m + p)) = 0 ∨ ty_at L (pN P (nb P m + p)) = ty_rl (pO P (nb P m + p))) ∧
  ∃ R' H', ss P m (pO P (nb P m + p)) (pN P (nb P m + p)) R H = some (R', H') ∧ H'.toInt ≤ (P 5 m).toInt ∧
    (∀ k, k < (P 7 m).toInt.toNat → cov P (4 * m + k) p → Ar (nl P m) T (P 10 (4 * m + k)).toInt (lw (pO P (nb P m + p)) (pN P (nb P m + p)) L) 1 1) ∧
    (op_jump (pO P (nb P m + p)) → Ar (nl P m) T ((p : Int) + (pN P (nb P m + p)).toInt) (lw (pO P (nb P m + p)) (pN P (nb P m + p)) L) R' H') ∧
    (¬ pO P (nb P m + p) = 167 ∧ ¬ pO P (nb P m + p) = 172 ∧ ¬ pO P (nb P m + p) = 177 → Ar (nl P m) T ((p : Int) + (pZ P (nb P m + p)).toInt) (lw (pO P (nb P m + p)) (pN P (nb P m + p)) L) R' H')
theorem SO_le {P : am_S} {m p : Nat} {T U : am_T} {L R H : Int32} (h : SO P m T p L R H) (h' : le (nl P m) T U) : SO P m U p L R H := by
  obtain ⟨a, b, R', H', c, d, e, f, g⟩ := h
  exact ⟨fun k hk hc => ⟨(a k hk hc).1, Ar_le (a k hk hc).2 h'⟩, b, R', H', c, d, fun k hk hc => Ar_le (e k hk hc) h', fun q => Ar_le (f q) h', fun q => Ar_le (g q) h'⟩
/-- the first types of a method's locals -/
def ini : Nat → Int32
  | 0 => 0
  | n + 1 => ty_with (ini n) (nI n) 1
def Typ (P : am_S) (m : Nat) (T : am_T) : Prop := Ar (nl P m) T 0 (ini (P 3 m).toInt.toNat) 0 0 ∧ ∀ p, p < nl P m → ¬ T 2 p = -1 → SO P m T p (T 0 p) (T 1 p) (T 2 p)
/-- numbers of locals of an instruction that is shaped -/
theorem okI_n {P : am_S} {m p : Nat} (hv : VP P) (hm : m < nM P) (h : okI P m p) : (op_loc (pO P (nb P m + p)) → ∃ n, n < 8 ∧ pN P (nb P m + p) = nI n) := by
  intro h1
  have h2 := h.2.2
  rw [oh_loc h1, i32_lt] at h2
  have h3 := hv.2.2 m hm
  unfold VM at h3
  have hb := hv.2.1 (nb P m + p)
  have hc := hv.2.1 (nb P m + p + 1)
  have key : 0 ≤ (pN P (nb P m + p)).toInt := by
    by_cases e : P 0 (nb P m + p) = 21 ∨ P 0 (nb P m + p) = 25 ∨ P 0 (nb P m + p) = 54 ∨ P 0 (nb P m + p) = 58 ∨ P 0 (nb P m + p) = 132
    · have := (@lo_1 _ (P 0 (nb P m + p + 1)) (P 0 (nb P m + p + 2)) e).2.1
      unfold pN
      rw [this]
      exact hc.1
    · by_cases e2 : mo_sh (P 0 (nb P m + p))
      · obtain ⟨-, a, b, c, d⟩ := @lo_2 _ (P 0 (nb P m + p + 1)) (P 0 (nb P m + p + 2)) hb.1 hb.2 e2
        unfold pN
        unfold mo_sh at e2
        simp only [i32_le, i32_lt, Int32.reduceToInt] at a b c d e2
        rcases e2 with e2 | e2 | e2 | e2
        · rw [a (by omega), i32_subw]
          simp only [Int32.reduceToInt]
          omega
        · rw [b (by omega), i32_subw]
          simp only [Int32.reduceToInt]
          omega
        · rw [c (by omega), i32_subw]
          simp only [Int32.reduceToInt]
          omega
        · rw [d (by omega), i32_subw]
          simp only [Int32.reduceToInt]
          omega
      · exact absurd h1 (lo_3 hb.1 hb.2 e e2)
  exact ⟨(pN P (nb P m + p)).toInt.toNat, by omega, nI_f (by omega)⟩
theorem wr_loc {op : Int32} (h : ¬ ty_wr op = 0) : op_loc op := by
  unfold ty_wr at h
  unfold op_loc
  split at h
  · rename_i e
    exact Or.inr (Or.inr (Or.inl e))
  · split at h
    · rename_i e
      exact Or.inr (Or.inr (Or.inr (Or.inl e)))
    · exact absurd rfl h
theorem rl_loc {op : Int32} (h : ¬ ty_rl op = 0) : op_loc op := by
  unfold ty_rl at h
  unfold op_loc
  split at h
  · rename_i e
    rcases e with e | e
    · exact Or.inl e
    · exact Or.inr (Or.inr (Or.inr (Or.inr e)))
  · split at h
    · rename_i e
      exact Or.inr (Or.inl e)
    · exact absurd rfl h
theorem lwn {P : am_S} {m p : Nat} (hv : VP P) (hm : m < nM P) (h : okI P m p) : ∃ n, (¬ ty_wr (pO P (nb P m + p)) = 0 → n < 8) ∧ ∀ L, lw (pO P (nb P m + p)) (pN P (nb P m + p)) L = lw (pO P (nb P m + p)) (nI n) L := by
  by_cases e : ty_wr (pO P (nb P m + p)) = 0
  · exact ⟨0, fun q => absurd e q, fun L => by unfold lw; rw [if_pos e, if_pos e]⟩
  · obtain ⟨n, a, b⟩ := okI_n hv hm h (wr_loc e)
    exact ⟨n, fun _ => a, fun L => by rw [b]⟩
theorem SO_lel {P : am_S} {m p : Nat} {U : am_T} {L L' R H : Int32} (hv : VP P) (hm : m < nM P) (ho : okI P m p) (h : SO P m U p L' R H) (h' : lel L L') : SO P m U p L R H := by
  obtain ⟨n, n1, n2⟩ := lwn hv hm ho
  have n3 : lel (lw (pO P (nb P m + p)) (pN P (nb P m + p)) L) (lw (pO P (nb P m + p)) (pN P (nb P m + p)) L') := by
    rw [n2, n2]
    exact lw_lel n1 h'
  obtain ⟨a, b, R', H', c, d, e, f, g⟩ := h
  refine ⟨fun k hk hc => ⟨(a k hk hc).1, Ar_lel (a k hk hc).2 h'⟩, ?_, R', H', c, d, fun k hk hc => Ar_lel (e k hk hc) n3, fun q => Ar_lel (f q) n3, fun q => Ar_lel (g q) n3⟩
  by_cases e0 : ty_rl (pO P (nb P m + p)) = 0
  · exact Or.inl e0
  · obtain ⟨j, j1, j2⟩ := okI_n hv hm ho (rl_loc e0)
    have b := b.resolve_left e0
    refine Or.inr ?_
    rw [j2] at b ⊢
    rcases h' j j1 with q | q
    · rw [← q]
      exact b
    · rw [q] at b
      exact absurd b.symm e0
/-- one more arrival: what is found then -/
def cm (T : am_T) (p : Nat) (L R H : Int32) : am_T := fun j q => if q = p then (if T 2 p = -1 then (if j = 0 then L else if j = 1 then R else H) else if j = 0 then ty_com (T 0 p) L else T j q) else T j q
theorem cm_le {N : Nat} {T : am_T} {p : Nat} {L R H : Int32} : le N T (cm T p L R H) := by
  intro q hq e
  unfold cm
  by_cases a : q = p
  · subst a
    simp only [if_true, e, if_false]
    exact ⟨rfl, rfl, lel_com1⟩
  · simp only [a, if_false]
    exact ⟨trivial, trivial, lel_refl⟩
theorem cm_Ar {N : Nat} {T : am_T} {p : Nat} {L R H : Int32} (hp : p < N) (hH : ¬ H = -1) (hc : T 2 p = -1 ∨ (T 2 p = H ∧ T 1 p = R)) : Ar N (cm T p L R H) (p : Int) L R H := by
  refine ⟨by omega, by omega, ?_⟩
  rw [Int.toNat_natCast]
  unfold cm
  by_cases e : T 2 p = -1
  · simp only [if_true, e]
    exact ⟨hH, rfl, rfl, lel_refl⟩
  · have hc := hc.resolve_left e
    simp only [if_true, e, if_false]
    exact ⟨e, hc.1, hc.2, lel_com2⟩
theorem cm_lb {N : Nat} {T U : am_T} {p : Nat} {L R H : Int32} (h : le N T U) (ha : Ar N U (p : Int) L R H) : le N (cm T p L R H) U := by
  obtain ⟨a1, a2, a3, a4, a5, a6⟩ := ha
  rw [Int.toNat_natCast] at *
  intro q hq e
  unfold cm at e ⊢
  by_cases a : q = p
  · subst a
    by_cases e2 : T 2 q = -1
    · simp only [if_true, e2]
      exact ⟨a4, a5, a6⟩
    · simp only [if_true, e2, if_false]
      obtain ⟨b1, b2, b3⟩ := h q hq e2
      exact ⟨b1, b2, lel_com b3 a6⟩
  · simp only [a, if_false] at e ⊢
    exact h q hq e
theorem cm_bad {N : Nat} {T U : am_T} {p : Nat} {L R H : Int32} (h : le N T U) (ha : Ar N U (p : Int) L R H) : T 2 p = -1 ∨ (T 2 p = H ∧ T 1 p = R) := by
  obtain ⟨a1, a2, a3, a4, a5, a6⟩ := ha
  rw [Int.toNat_natCast] at *
  by_cases e : T 2 p = -1
  · exact Or.inl e
  · obtain ⟨b1, b2, b3⟩ := h p (by omega) e
    exact Or.inr ⟨b1.symm.trans a4, b2.symm.trans a5⟩

/-! Arrays keep types. -/
theorem TX_heap {P A A' : am_S} {T : Nat → am_T} {D D' : Nat → Prop} {q : Nat} {L R H : Int32} (e : ∀ b, ¬ b = 606 → ¬ b = 2161 → A' b = A b) (hD : ∀ i, D i → D' i) (hp : HP D' A') (hx : TX P T D A q L R H) : TX P T D' A' q L R H := by
  have e1 := e 610 (by decide) (by decide)
  have e3 := e 608 (by decide) (by decide)
  have e5 := e 2162 (by decide) (by decide)
  have e6 := e 2163 (by decide) (by decide)
  have e7 := e 2164 (by decide) (by decide)
  have e8 := e 2165 (by decide) (by decide)
  have e9 := e 2166 (by decide) (by decide)
  obtain ⟨⟨b1, b2, -⟩, lo, at', f⟩ := hx
  have hn : fn A' = fn A := by unfold fn; rw [e1]
  have hl : lf A' = lf A := by unfold lf; rw [hn]
  refine ⟨⟨?_, by rw [hn]; exact b2, hp⟩, ?_, ?_, ?_⟩
  · unfold BV FV en flo fhe fm fb ft lf fn at *
    rw [e1, e3, e6, e8, e9]
    exact b1
  · exact low_top b1 hn hD e6 e9 (fun _ _ => by rw [e7]) (fun _ _ => by rw [e8]) (fun _ _ => by rw [e5]) lo
  · rw [hl]
    unfold AT fm at *
    rw [e6, e7]
    exact at'
  · rw [hl]
    refine FT_mono hD (FT_cells (b1.2.1 (lf A) (by unfold lf; omega)).2.2.2.1 (by rw [e6]) (by rw [e8]) (by rw [e9]) (fun _ _ => by rw [e5]) f)
theorem wr_1 {A : am_S} {r i : Int32} (h : ¬ o_wr A r i = -1) : ¬ o_wr A r i + 2 = 1 := by
  rcases @wr_c' A r i with w | w | w
  · rw [w]
    decide
  · rw [w]
    decide
  · exact absurd w h
theorem mvC_no {P A : am_S} {op n : Int32} (h : op = 46 ∨ op = 79 ∨ op = 172 ∨ op = 177 ∨ op = 184 ∨ op = 188 ∨ op = 190) : mvC P A op n := by
  rcases h with w | w | w | w | w | w | w <;> subst w <;> exact ⟨fun w => absurd w (by decide), fun w => absurd w (by decide), fun w => absurd w (by decide), fun w => absurd w (by decide), fun w => absurd w (by decide)⟩
theorem op_no {op : Int32} (h : op = 46 ∨ op = 79 ∨ op = 172 ∨ op = 177 ∨ op = 184 ∨ op = 188 ∨ op = 190) : (¬ op_calc op ∧ ¬ op_jump op ∧ ¬ op_loc op) ∧ ty_wr op = 0 ∧ (¬ op = 87 ∧ ¬ op = 89 ∧ ¬ op = 95) := by
  rcases h with w | w | w | w | w | w | w <;> subst w <;> exact ⟨⟨fun w => absurd (calc_m.mp w) (by decide), by unfold op_jump; decide, by unfold op_loc; decide⟩, by decide, by decide⟩
theorem ty_46 {P A : am_S} {T : Nat → am_T} {D : Nat → Prop} {q h : Nat} {n g z : Int32} (hT : PT P T) (hx : TX P T D A q (T (fm A (lf A)) 0 q) (T (fm A (lf A)) 1 q) (nI h)) (hw : wfR (T (fm A (lf A)) 1 q) h) (h5 : h ≤ fhe P A (lf A) ∧ fhe P A (lf A) ≤ 8 ∧ flo P A (lf A) ≤ 8) {R' H' : Int32} (e : ss P (fm A (lf A)) 46 n (T (fm A (lf A)) 1 q) (nI h) = some (R', H')) (ha : Ar (nl P (fm A (lf A))) (T (fm A (lf A))) ((q : Int) + z.toInt) (T (fm A (lf A)) 0 q) R' H') : ∃ A', stC P A 46 n g z A' ∧ TY P T D A' := by
  obtain ⟨n1, n2, n3⟩ := op_no (op := 46) (Or.inl rfl)
  obtain ⟨-, R2, H2, e1, e2, e3⟩ := ss_map n3 e
  have d1 : dues P 46 n = [1, 2] := by unfold dues; rw [if_neg (by decide)]; rfl
  have d2 : puts P 46 n = 1 := by unfold puts; rw [if_neg (by decide)]; rfl
  rw [d1] at e1
  obtain ⟨R1, h1, a1, a2, a3, a4, a5, a6⟩ := TX_due (Or.inl rfl) (by omega) hw hx e1
  obtain ⟨R3, h3, b1, b2, b3, b4, b5, b6⟩ := TX_due (Or.inr rfl) (by omega) a5 a4 a6
  simp only [pops, Option.some.injEq, Prod.mk.injEq] at b6
  rw [d2, ← b6.1, ← b6.2, (pu_12 (Or.inl rfl)).1] at e2
  rw [d2, ← b6.2, pv_12 (Or.inl rfl)] at e3
  have hvv : hv A (o_val P (o_pop A)) := rv_hv hx.1.2.2 b3
  refine ⟨_, Or.inr (Or.inr (Or.inr ⟨n1, ⟨fun _ => ⟨by omega, (TX_trap (k := 0) hT (by decide) b4).1, hvv⟩, fun w => absurd w (by decide), fun w => absurd w (by decide), fun w => absurd w (by decide), fun w => absurd w (by decide), fun w => absurd w (by decide), fun w => absurd w (by decide), mvC_no (Or.inl rfl), hx.1.2.2.1⟩, rfl⟩)), ?_⟩
  have eo : o_ot P A 46 n z = o_al P A z := rfl
  rw [eo]
  unfold o_al
  by_cases c : o_wr A (o_val P (o_pop A)) (o_val P A) = -1
  · rw [if_pos c]
    have hfe : fhe P (o_pop (o_pop A)) (lf (o_pop (o_pop A))) = fhe P A (lf A) := rfl
    have tp := TX_push (t := 1) (v := A 2161 (o_val P (o_pop A) + 1 + o_val P A).toNatClampNeg) (Or.inl rfl) (by omega) (by rw [hfe]; omega) rv_1 b4
    rw [← e2, ← e3] at tp
    exact TX_go hT.1 tp ha
  · rw [if_neg c]
    exact (TX_trap hT (wr_1 c) b4).2
theorem ty_190 {P A : am_S} {T : Nat → am_T} {D : Nat → Prop} {q h : Nat} {n g z : Int32} (hT : PT P T) (hx : TX P T D A q (T (fm A (lf A)) 0 q) (T (fm A (lf A)) 1 q) (nI h)) (hw : wfR (T (fm A (lf A)) 1 q) h) (h5 : h ≤ fhe P A (lf A) ∧ fhe P A (lf A) ≤ 8 ∧ flo P A (lf A) ≤ 8) {R' H' : Int32} (e : ss P (fm A (lf A)) 190 n (T (fm A (lf A)) 1 q) (nI h) = some (R', H')) (ha : Ar (nl P (fm A (lf A))) (T (fm A (lf A))) ((q : Int) + z.toInt) (T (fm A (lf A)) 0 q) R' H') : ∃ A', stC P A 190 n g z A' ∧ TY P T D A' := by
  obtain ⟨n1, n2, n3⟩ := op_no (op := 190) (by decide)
  obtain ⟨-, R2, H2, e1, e2, e3⟩ := ss_map n3 e
  have d1 : dues P 190 n = [2] := by unfold dues; rw [if_neg (by decide)]; rfl
  have d2 : puts P 190 n = 1 := by unfold puts; rw [if_neg (by decide)]; rfl
  rw [d1] at e1
  obtain ⟨R1, h1, a1, a2, a3, a4, a5, a6⟩ := TX_due (Or.inr rfl) (by omega) hw hx e1
  simp only [pops, Option.some.injEq, Prod.mk.injEq] at a6
  rw [d2, ← a6.1, ← a6.2, (pu_12 (Or.inl rfl)).1] at e2
  rw [d2, ← a6.2, pv_12 (Or.inl rfl)] at e3
  have hvv : hv A (o_val P A) := rv_hv hx.1.2.2 a3
  refine ⟨_, Or.inr (Or.inr (Or.inr ⟨n1, ⟨fun w => absurd w (by decide), fun w => absurd w (by decide), fun w => absurd w (by decide), fun _ => ⟨by omega, (TX_trap (k := 0) hT (by decide) a4).1, hvv⟩, fun w => absurd w (by decide), fun w => absurd w (by decide), fun w => absurd w (by decide), mvC_no (by decide), hx.1.2.2.1⟩, rfl⟩)), ?_⟩
  have eo : o_ot P A 190 n z = o_len P (o_pop A) (o_val P A) z := rfl
  rw [eo]
  unfold o_len
  by_cases c : o_val P A = -1
  · rw [if_pos c]
    exact (TX_trap hT (by decide) a4).2
  · rw [if_neg c]
    have hfe : fhe P (o_pop A) (lf (o_pop A)) = fhe P A (lf A) := rfl
    have tp := TX_push (t := 1) (v := o_pop A 2161 (o_val P A).toNatClampNeg) (Or.inl rfl) (by omega) (by rw [hfe]; omega) rv_1 a4
    rw [← e2, ← e3] at tp
    exact TX_go hT.1 tp ha
theorem HP_hp {D : Nat → Prop} {A : am_S} {r i v : Int32} (h : HP D A) (hr : rv D 2 r) (hw : o_wr A r i = -1) : HP D (o_hp A (r + 1 + i).toNatClampNeg v) := by
  have hvv := rv_hv h hr
  obtain ⟨w1, w2, w3, w4, w5, w6⟩ := wr_in h.1 hvv hw
  have hDr : D r.toNatClampNeg := by
    rcases hr rfl with u | u
    · rw [u] at w1
      exact absurd w1 (by decide)
    · exact u.2
  have en : (r + 1 + i).toNatClampNeg = r.toNatClampNeg + 1 + i.toInt.toNat := by
    rw [@nn_eq (r + 1 + i), @nn_eq r, w5]
    omega
  have rn : (r.toNatClampNeg : Int) = r.toInt := by
    rw [nn_eq]
    omega
  have key : ∀ x, D x → o_hp A (r + 1 + i).toNatClampNeg v 2161 x = A 2161 x := by
    intro x hx
    refine am_up_ne (fun w => ?_)
    have hx' := w.2
    rw [en] at hx'
    have g := h.2.2 _ _ hDr hx (by omega)
    omega
  obtain ⟨a1, a2, a3⟩ := h
  refine ⟨a1, fun x hx => ?_, fun x y hx hy hxy => ?_⟩
  · rw [key x hx]
    exact a2 x hx
  · rw [key x hx]
    exact a3 x y hx hy hxy
theorem ty_79 {P A : am_S} {T : Nat → am_T} {D : Nat → Prop} {q h : Nat} {n g z : Int32} (hT : PT P T) (hx : TX P T D A q (T (fm A (lf A)) 0 q) (T (fm A (lf A)) 1 q) (nI h)) (hw : wfR (T (fm A (lf A)) 1 q) h) (h5 : h ≤ fhe P A (lf A) ∧ fhe P A (lf A) ≤ 8 ∧ flo P A (lf A) ≤ 8) {R' H' : Int32} (e : ss P (fm A (lf A)) 79 n (T (fm A (lf A)) 1 q) (nI h) = some (R', H')) (ha : Ar (nl P (fm A (lf A))) (T (fm A (lf A))) ((q : Int) + z.toInt) (T (fm A (lf A)) 0 q) R' H') : ∃ A', stC P A 79 n g z A' ∧ TY P T D A' := by
  obtain ⟨n1, n2, n3⟩ := op_no (op := 79) (by decide)
  obtain ⟨-, R2, H2, e1, e2, e3⟩ := ss_map n3 e
  have d1 : dues P 79 n = [1, 1, 2] := by unfold dues; rw [if_neg (by decide)]; rfl
  have d2 : puts P 79 n = 0 := by unfold puts; rw [if_neg (by decide)]; rfl
  rw [d1] at e1
  obtain ⟨R1, h1, a1, a2, a3, a4, a5, a6⟩ := TX_due (Or.inl rfl) (by omega) hw hx e1
  obtain ⟨R3, h3, b1, b2, b3, b4, b5, b6⟩ := TX_due (Or.inl rfl) (by omega) a5 a4 a6
  obtain ⟨R4, h4, c1, c2, c3, c4, c5, c6⟩ := TX_due (Or.inr rfl) (by omega) b5 b4 b6
  simp only [pops, Option.some.injEq, Prod.mk.injEq] at c6
  rw [d2, pu_0.1, ← c6.1] at e2
  rw [d2, (@pu_0 0 H2).2, ← c6.2] at e3
  have hvv : hv A (o_val P (o_pop (o_pop A))) := rv_hv hx.1.2.2 c3
  refine ⟨_, Or.inr (Or.inr (Or.inr ⟨n1, ⟨fun w => absurd w (by decide), fun _ => ⟨by omega, (TX_trap (k := 0) hT (by decide) c4).1, hvv⟩, fun w => absurd w (by decide), fun w => absurd w (by decide), fun w => absurd w (by decide), fun w => absurd w (by decide), fun w => absurd w (by decide), mvC_no (by decide), hx.1.2.2.1⟩, rfl⟩)), ?_⟩
  have eo : o_ot P A 79 n z = o_as P A z := rfl
  rw [eo]
  unfold o_as
  by_cases c : o_wr A (o_val P (o_pop (o_pop A))) (o_val P (o_pop A)) = -1
  · rw [if_pos c]
    rw [e2, e3] at ha
    refine TX_go hT.1 (TX_heap (A := o_pop (o_pop (o_pop A))) (D := D) (fun b _ hb => am_up_bank hb) (fun _ x => x) ?_ c4) ha
    exact HP_hp (A := o_pop (o_pop (o_pop A))) c4.1.2.2 c3 c
  · rw [if_neg c]
    exact (TX_trap hT (wr_1 c) c4).2
theorem HP_new {D : Nat → Prop} {A : am_S} {n : Int32} (h : HP D A) (h0 : ¬ n < 0) (h1 : ¬ 120 - A 606 0 ≤ n) : HP (fun i => D i ∨ i = (A 606 0).toInt.toNat) (o_new A n) := by
  obtain ⟨f1, f2, f3⟩ := new_fit h.1 h0 h1
  obtain ⟨a1, a2, a3⟩ := h
  have a1' := a1
  unfold hb at a1'
  have old : ∀ x, D x → o_new A n 2161 x = A 2161 x := by
    intro x hx
    have := a2 x hx
    rw [new_h, if_neg (by omega), if_neg (by omega)]
  have new : o_new A n 2161 (A 606 0).toInt.toNat = n := by
    rw [new_h, if_neg (by omega), if_pos rfl]
  refine ⟨?_, fun x hx => ?_, fun x y hx hy hxy => ?_⟩
  · unfold hb
    rw [new_606]
    omega
  · rw [new_606, f3]
    rcases hx with hx | hx
    · rw [old x hx]
      have := a2 x hx
      omega
    · rw [hx, new]
      omega
  · rcases hx with hx | hx
    · rw [old x hx]
      have g := a2 x hx
      rcases hy with hy | hy
      · exact a3 x y hx hy hxy
      · omega
    · rcases hy with hy | hy
      · have g := a2 y hy
        omega
      · omega
theorem ty_188 {P A : am_S} {T : Nat → am_T} {D : Nat → Prop} {q h : Nat} {n g z : Int32} (hT : PT P T) (hx : TX P T D A q (T (fm A (lf A)) 0 q) (T (fm A (lf A)) 1 q) (nI h)) (hw : wfR (T (fm A (lf A)) 1 q) h) (h5 : h ≤ fhe P A (lf A) ∧ fhe P A (lf A) ≤ 8 ∧ flo P A (lf A) ≤ 8) {R' H' : Int32} (e : ss P (fm A (lf A)) 188 n (T (fm A (lf A)) 1 q) (nI h) = some (R', H')) (ha : Ar (nl P (fm A (lf A))) (T (fm A (lf A))) ((q : Int) + z.toInt) (T (fm A (lf A)) 0 q) R' H') : ∃ A' D', stC P A 188 n g z A' ∧ TY P T D' A' := by
  obtain ⟨n1, n2, n3⟩ := op_no (op := 188) (by decide)
  obtain ⟨-, R2, H2, e1, e2, e3⟩ := ss_map n3 e
  have d1 : dues P 188 n = [1] := by unfold dues; rw [if_neg (by decide)]; rfl
  have d2 : puts P 188 n = 2 := by unfold puts; rw [if_neg (by decide)]; rfl
  rw [d1] at e1
  obtain ⟨R1, h1, a1, a2, a3, a4, a5, a6⟩ := TX_due (Or.inl rfl) (by omega) hw hx e1
  simp only [pops, Option.some.injEq, Prod.mk.injEq] at a6
  rw [d2, ← a6.1, ← a6.2, (pu_12 (Or.inr rfl)).1] at e2
  rw [d2, ← a6.2, pv_12 (Or.inr rfl)] at e3
  have st : stC P A 188 n g z (o_na P (o_pop A) (o_val P A) z) := Or.inr (Or.inr (Or.inr ⟨n1, ⟨fun w => absurd w (by decide), fun w => absurd w (by decide), fun _ => ⟨by omega, (TX_trap (k := 0) hT (by decide) a4).1⟩, fun w => absurd w (by decide), fun w => absurd w (by decide), fun w => absurd w (by decide), fun w => absurd w (by decide), mvC_no (by decide), hx.1.2.2.1⟩, rfl⟩))
  by_cases c : o_val P A < 0
  · refine ⟨_, D, st, ?_⟩
    unfold o_na
    rw [if_pos c]
    exact (TX_trap hT (by decide) a4).2
  · by_cases c' : 120 - o_pop A 606 0 ≤ o_val P A
    · refine ⟨_, D, st, ?_⟩
      unfold o_na
      rw [if_neg c, if_pos c']
      exact TY_stop (by decide) a4.1.2.2
    · have hp := HP_new a4.1.2.2 c c'
      refine ⟨_, (fun i => D i ∨ i = (o_pop A 606 0).toInt.toNat), st, ?_⟩
      unfold o_na
      rw [if_neg c, if_neg c']
      have hfe : fhe P (o_new (o_pop A) (o_val P A)) (lf (o_new (o_pop A) (o_val P A))) = fhe P A (lf A) := by
        unfold fhe fm
        rw [new_o (by decide)]
        rfl
      have tx := TX_heap (A' := o_new (o_pop A) (o_val P A)) (fun b b1 b2 => new_o ⟨b1, b2⟩) (fun i hi => Or.inl hi) hp a4
      have hb' := hx.1.2.2.1
      unfold hb at hb'
      have tp := TX_push (t := 2) (v := o_pop A 606 0) (Or.inr rfl) (by omega) (by rw [hfe]; omega) (fun _ => Or.inr ⟨hb'.1, Or.inr rfl⟩) tx
      rw [← e2, ← e3] at tp
      refine TX_go hT.1 tp ?_
      have ef : fm (o_push P (o_new (o_pop A) (o_val P A)) (o_pop A 606 0)) (lf (o_push P (o_new (o_pop A) (o_val P A)) (o_pop A 606 0))) = fm A (lf A) := by
        unfold fm
        rw [push_o (by decide), new_o (by decide)]
        rfl
      rw [ef]
      exact ha

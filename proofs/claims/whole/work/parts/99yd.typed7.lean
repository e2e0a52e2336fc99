/-! A typed machine that runs can make a step, and stays typed. -/
theorem TY_step {P A : am_S} {T : Nat → am_T} {D : Nat → Prop} (hT : PT P T) (hY : TY P T D A) (hn : 0 < fn A) : ∃ (p : Nat) (A' : am_S) (D' : Nat → Prop), ((A 2164 (lf A)).toInt = (p : Int) ∧ p < nl P (fm A (lf A)) ∧ p + (pZ P (nb P (fm A (lf A)) + p)).toInt.toNat ≤ nl P (fm A (lf A))) ∧ stC P A (pO P (nb P (fm A (lf A)) + p)) (pN P (nb P (fm A (lf A)) + p)) (pG P (nb P (fm A (lf A)) + p)) (pZ P (nb P (fm A (lf A)) + p)) A' ∧ (¬ pZ P (nb P (fm A (lf A)) + p) = 0 ∧ (pO P (nb P (fm A (lf A)) + p) = 172 → ¬ P 6 (fm A (lf A)) = 0) ∧ (pO P (nb P (fm A (lf A)) + p) = 177 → P 6 (fm A (lf A)) = 0)) ∧ TY P T D' A' := by
  obtain ⟨q, h, hx, ⟨hq, hw, hwl, h5a, h5b, h5c⟩, ⟨hm, hbg, hok, hql⟩, so⟩ := TY_top hT hY hn
  have ok2 := hok
  obtain ⟨z0, zl, hoH⟩ := ok2
  obtain ⟨-, hr, R', H', s1, s2, -, sj, sn⟩ := so
  have hbb := hT.1.2.1 (nb P (fm A (lf A)) + q)
  have h5 : h ≤ fhe P A (lf A) ∧ fhe P A (lf A) ≤ 8 ∧ flo P A (lf A) ≤ 8 := ⟨h5a, h5b, h5c⟩
  have s2' : H'.toInt ≤ (fhe P A (lf A) : Int) := by
    unfold fhe
    omega
  have c172 : pO P (nb P (fm A (lf A)) + q) = 172 → ¬ P 6 (fm A (lf A)) = 0 := by
    intro w
    rw [w] at s1
    exact fun u => (ss_map (by decide) s1).1 (Or.inl ⟨rfl, u⟩)
  have c177 : pO P (nb P (fm A (lf A)) + q) = 177 → P 6 (fm A (lf A)) = 0 := by
    intro w
    rw [w] at s1
    exact Classical.byContradiction fun u => (ss_map (by decide) s1).1 (Or.inr ⟨rfl, u⟩)
  suffices hs : ∃ (A' : am_S) (D' : Nat → Prop), stC P A (pO P (nb P (fm A (lf A)) + q)) (pN P (nb P (fm A (lf A)) + q)) (pG P (nb P (fm A (lf A)) + q)) (pZ P (nb P (fm A (lf A)) + q)) A' ∧ TY P T D' A' by
    obtain ⟨A', D', w1, w2⟩ := hs
    exact ⟨q, A', D', ⟨hx.2.2.1.1, hql, zl⟩, w1, ⟨z0, c172, c177⟩, w2⟩
  by_cases k1 : op_calc (pO P (nb P (fm A (lf A)) + q))
  · obtain ⟨A', w⟩ := ty_calc (g := pG P (nb P (fm A (lf A)) + q)) hT hx hw ⟨h5a, h5b⟩ k1 s1 sn
    exact ⟨A', D, w⟩
  by_cases k2 : op_jump (pO P (nb P (fm A (lf A)) + q))
  · obtain ⟨A', w⟩ := ty_jump (g := pG P (nb P (fm A (lf A)) + q)) hT hx hw ⟨h5a, h5b⟩ k2 s1 (sj k2) sn
    exact ⟨A', D, w⟩
  by_cases k3 : op_loc (pO P (nb P (fm A (lf A)) + q))
  · obtain ⟨k, kk, ek⟩ := okI_n hT.1 hm hok k3
    have kl : k < flo P A (lf A) := by
      rcases hoH with w | w
      · have w2 := w.2
        rw [ek, i32_lt, nI_t (by omega)] at w2
        unfold flo
        omega
      · exact absurd k3 w.1
    rw [ek] at hr s1 sn ⊢
    obtain ⟨A', w⟩ := ty_loc (g := pG P (nb P (fm A (lf A)) + q)) hT hx hw h5 k3 kl hr s1 s2' sn
    exact ⟨A', D, w⟩
  have hoH' := hoH.resolve_left (fun w => k3 w.1)
  rcases st_F hbb.1 hbb.2 ⟨z0, k1, k2, k3⟩ with ⟨m0, m1⟩ | m1
  · have eo : pO P (nb P (fm A (lf A)) + q) = P 0 (nb P (fm A (lf A)) + q) := m0
    rw [← eo] at m1
    clear m0 eo
    have nw : pO P (nb P (fm A (lf A)) + q) = 46 ∨ pO P (nb P (fm A (lf A)) + q) = 79 ∨ pO P (nb P (fm A (lf A)) + q) = 188 ∨ pO P (nb P (fm A (lf A)) + q) = 190 → Ar (nl P (fm A (lf A))) (T (fm A (lf A))) ((q : Int) + (pZ P (nb P (fm A (lf A)) + q)).toInt) (T (fm A (lf A)) 0 q) R' H' := by
      intro w
      have := sn (by rcases w with w | w | w | w <;> (rw [w]; decide))
      have el : lw (pO P (nb P (fm A (lf A)) + q)) (pN P (nb P (fm A (lf A)) + q)) (T (fm A (lf A)) 0 q) = T (fm A (lf A)) 0 q := by
        unfold lw
        rw [if_pos (by rcases w with w | w | w | w <;> (rw [w]; decide))]
      rw [el] at this
      exact this
    rcases m1 with w | w | w | w | w | w | w | w
    · have nw' := nw (Or.inl w)
      rw [w] at s1 ⊢
      obtain ⟨A', v⟩ := ty_46 (g := pG P (nb P (fm A (lf A)) + q)) hT hx hw h5 s1 nw'
      exact ⟨A', D, v⟩
    · have nw' := nw (Or.inr (Or.inl w))
      rw [w] at s1 ⊢
      obtain ⟨A', v⟩ := ty_79 (g := pG P (nb P (fm A (lf A)) + q)) hT hx hw h5 s1 nw'
      exact ⟨A', D, v⟩
    · obtain ⟨A', v⟩ := ty_mv (g := pG P (nb P (fm A (lf A)) + q)) hT hx hw h5 (by rw [w]; decide) (fun u => absurd u (by rw [w]; decide)) s1 s2' sn
      exact ⟨A', D, v⟩
    · rw [w] at s1 ⊢
      obtain ⟨A', v⟩ := (ty_172 (g := pG P (nb P (fm A (lf A)) + q)) (z := pZ P (nb P (fm A (lf A)) + q)) hT hx hw h5 s1).2
      exact ⟨A', D, v⟩
    · rw [w] at s1 ⊢
      obtain ⟨A', v⟩ := (ty_177 (g := pG P (nb P (fm A (lf A)) + q)) (z := pZ P (nb P (fm A (lf A)) + q)) hT hx s1).2
      exact ⟨A', D, v⟩
    · have hmm : 0 ≤ (pN P (nb P (fm A (lf A)) + q)).toInt ∧ (pN P (nb P (fm A (lf A)) + q)).toNatClampNeg < nM P := by
        rcases hoH'.2 with u | u | u | u
        · exact absurd u.1 (by rw [w]; decide)
        · have u2 := u.2
          rw [i32_le, i32_lt] at u2
          simp only [Int32.reduceToInt] at u2
          refine ⟨u2.1, ?_⟩
          rw [nn_eq]
          unfold nM
          omega
        · exact absurd u.1 (by rw [w]; decide)
        · exact absurd w u.2.2.1
      have wo := w
      rw [w] at s1 ⊢
      obtain ⟨A', v⟩ := ty_184 (g := pG P (nb P (fm A (lf A)) + q)) (z := pZ P (nb P (fm A (lf A)) + q)) hT hx hw hq h5 wo hmm s1
      exact ⟨A', D, v⟩
    · have nw' := nw (Or.inr (Or.inr (Or.inl w)))
      rw [w] at s1 ⊢
      exact ty_188 (g := pG P (nb P (fm A (lf A)) + q)) hT hx hw h5 s1 nw'
    · have nw' := nw (Or.inr (Or.inr (Or.inr w)))
      rw [w] at s1 ⊢
      obtain ⟨A', v⟩ := ty_190 (g := pG P (nb P (fm A (lf A)) + q)) hT hx hw h5 s1 nw'
      exact ⟨A', D, v⟩
  · have m2 : pO P (nb P (fm A (lf A)) + q) = 1 ∨ pO P (nb P (fm A (lf A)) + q) = 17 ∨ pO P (nb P (fm A (lf A)) + q) = 87 ∨ pO P (nb P (fm A (lf A)) + q) = 89 ∨ pO P (nb P (fm A (lf A)) + q) = 95 ∨ pO P (nb P (fm A (lf A)) + q) = 178 ∨ pO P (nb P (fm A (lf A)) + q) = 179 := m1
    have hn8 : pO P (nb P (fm A (lf A)) + q) = 178 ∨ pO P (nb P (fm A (lf A)) + q) = 179 → 0 ≤ (pN P (nb P (fm A (lf A)) + q)).toInt ∧ (pN P (nb P (fm A (lf A)) + q)).toInt < 8 := by
      intro w
      rcases hoH'.2 with u | u | u | u
      · have u2 := u.2
        rw [i32_le, i32_lt] at u2
        simp only [Int32.reduceToInt] at u2
        exact u2
      · exfalso
        rw [u.1] at w
        exact absurd w (by decide)
      · exfalso
        rw [u.1] at w
        exact absurd w (by decide)
      · exact absurd w (not_or.mpr ⟨u.1, u.2.1⟩)
    obtain ⟨A', v⟩ := ty_mv (g := pG P (nb P (fm A (lf A)) + q)) hT hx hw h5 (by rcases m2 with w | w | w | w | w | w | w <;> (rw [w]; decide)) hn8 s1 s2' sn
    exact ⟨A', D, v⟩

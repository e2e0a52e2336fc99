/-! Turns that look at the machine. -/
theorem LK {j : Nat} {st : am_S} (w : pu_INV j st) : (st 519 0 = 0 ∧ ¬ st 603 0 = 1 ∧ st 610 0 = 0) ∨ (st 603 0 = 1 ∧ ∃ A, (BV (iP st) A ∧ 0 < fn A) ∧ RC (iP st) st A ∧ RM st A) := by
  obtain ⟨⟨wA, wG⟩, T, wT, A, D, ⟨wC, wM⟩, wX⟩ := w
  have e3 : st 603 = A 603 := wM 603 rfl
  have e0 : st 610 = A 610 := wM 610 rfl
  rcases wX with c | c
  · exact Or.inl ⟨by rw [wC.1.1, c.1], by rw [e3]; exact c.2.1, by rw [e0, c.1]⟩
  · exact Or.inr ⟨by rw [e3]; exact c.2.1, A, ⟨c.2.2.1, c.2.2.2.2.2 c.2.1⟩, wC, wM⟩
theorem LKm {j : Nat} {st : am_S} (w : pu_INV j st) : st 521 0 = st 603 0 ∧ (st 522 0 = if st 603 0 = 2 then st 604 0 else 0) ∧ (∀ n, n < 8 → st 2139 n = st 2160 n) ∧ (0 ≤ (st 520 0).toInt ∧ (st 520 0).toInt ≤ 120) ∧ st 606 0 = st 520 0 ∧ ∀ n, n < (st 520 0).toNatClampNeg → st 2140 n = st 2161 n := by
  obtain ⟨⟨wA, wG⟩, T, wT, A, D, ⟨wC, wM⟩, wX⟩ := w
  have hb : hb A := by
    rcases wX with c | c
    · exact c.2.2
    · exact c.2.2.2.1.1
  obtain ⟨-, -, -, c4, ⟨c5, c6⟩, c7, c8⟩ := wC
  rw [wM 603 rfl, wM 604 rfl, wM 2160 rfl, wM 606 rfl, wM 2161 rfl]
  refine ⟨c7, c8, c4, by rw [c5]; exact hb, c5.symm, fun n hn => c6 n ?_⟩
  rw [c5, nn_eq] at hn
  exact hn
theorem tn_11 {j : Nat} {st : am_S} (w : pu_INV j st) : st 519 0 = if st 603 0 = 1 then st 610 0 else 0 := by
  rcases LK w with ⟨c1, c2, c3⟩ | ⟨c1, A, -, c2, c3⟩
  · rw [if_neg c2, c1]
  · rw [if_pos c1, c2.1.1, c3 610 rfl]
section LQ
variable {j : Nat} {L : Nat} {xs : Nat → Int32} {K : Int32 → am_S → Prop} {i : Int32} {a b : Option am_V} {st : am_S}
theorem tn_12 (w : pu_INV j st) (i0 : 0 ≤ i.toInt) (i6 : i.toInt + 6 ≤ (L : Int)) (iL : L ≤ 3072) (h : K i (am_up st 576 0 0)) : am_AW code (g_law L xs (lw_P1 L xs K)) lw_k 616 (lw_lv i a b) [] st := by
  rcases LK w with ⟨c1, c2, c3⟩ | ⟨c1, A, ⟨hB, hn⟩, hC, hM⟩
  · have no : ¬ (0 ≤ xs (i + 1).toNatClampNeg ∧ xs (i + 1).toNatClampNeg < st 519 0) := by
      rw [c1, i32_le, i32_lt]
      simp only [Int32.reduceToInt]
      omega
    refine lb_12 i0 i6 iL (by rw [c1]; decide) (by rw [c1]; decide) (fun k => absurd k no) (by rw [c3]; decide) (by rw [c3]; decide) ⟨fun k => absurd k no, fun k => absurd k.1 c2⟩ (fun k => absurd k no) (fun k => absurd k no) (fun k => absurd k no) h
  · have e9 : st 519 0 = A 610 0 := hC.1.1
    have e0 : st 610 = A 610 := hM 610 rfl
    have b0 := hB.1
    have b8 := BV_fn hB
    have hV := w.1.1.1.2.1
    unfold fn at b8 hn
    have key : (0 ≤ xs (i + 1).toNatClampNeg ∧ xs (i + 1).toNatClampNeg < A 610 0) → ∃ f, f < fn A ∧ (A 610 0 - 1 - xs (i + 1).toNatClampNeg).toNatClampNeg = f := by
      intro k
      rw [i32_le, i32_lt] at k
      simp only [Int32.reduceToInt] at k
      refine ⟨_, ?_, rfl⟩
      unfold fn
      rw [nn_eq, i32_subw, i32_subw]
      simp only [Int32.reduceToInt]
      omega
    refine lb_12 i0 i6 iL (by rw [e9]; omega) (by rw [e9]; omega) (fun k => ?_) (by rw [e0]; omega) (by rw [e0]; omega) ⟨fun k => ⟨c1, k.1, by rw [e0, ← e9]; exact k.2⟩, fun k => ⟨k.2.1, by rw [e9, ← e0]; exact k.2.2⟩⟩ (fun k => ?_) (fun k => ?_) (fun k => ?_) h
    · rw [e9] at k ⊢
      obtain ⟨f, f1, f2⟩ := key k
      rw [f2, (hC.2.1 f f1).1]
      have := (hB.2.1 f f1).1.2
      have h12 := hV.1
      unfold fm nM at this
      omega
    · rw [e9] at k
      rw [e9, e0]
      obtain ⟨f, f1, f2⟩ := key k
      rw [f2, (hC.2.1 f f1).1, hM 2163 rfl]
      exact nI_back (hB.2.1 f f1).1.1
    · rw [e9] at k
      rw [e9, e0]
      obtain ⟨f, f1, f2⟩ := key k
      rw [f2, (hC.2.1 f f1).2.1, hM 2164 rfl]
    · rw [e9] at k
      rw [e9, e0]
      obtain ⟨f, f1, f2⟩ := key k
      rw [f2, (hC.2.1 f f1).2.2.2, hM 2165 rfl]
theorem tn_13 (w : pu_INV j st) (i0 : 0 ≤ i.toInt) (i6 : i.toInt + 6 ≤ (L : Int)) (iL : L ≤ 3072) (h : K i (am_up st 576 0 0)) : am_AW code (g_law L xs (lw_P1 L xs K)) lw_k 653 (lw_lv i a b) [] st := by
  rcases LK w with ⟨c1, c2, c3⟩ | ⟨c1, A, ⟨hB, hn⟩, hC, hM⟩
  · have no : ¬ 0 < st 519 0 := by
      rw [c1]
      decide
    exact lb_13 i0 i6 iL (fun k => absurd k no) (fun k => absurd k c2) (fun k => absurd k c2) (fun k => absurd k c2) ⟨fun k => absurd k.1 no, fun k => absurd k.1 c2⟩ (fun k => absurd k.1 no) h
  · have hV := w.1.1.1.2.1
    obtain ⟨t1, t2, t3, t4, t5, t6, t7, t8, t9, t10⟩ := RC_tw iP_pc hV hB hC hn
    obtain ⟨r1, r2, r3, r4, r5, r6, r7, r8, r9⟩ := RM_tw w.1.1.1.1 hV hB hM hn
    have e9 : 0 < st 519 0 := by
      rw [hC.1.1, ← hM 610 rfl, i32_lt]
      simp only [Int32.reduceToInt]
      omega
    have el : st 70 (st 0 (st 518 0).toNatClampNeg).toNatClampNeg = st 2146 (st 2163 (st 610 0 - 1).toNatClampNeg).toNatClampNeg := by
      rw [i32_eq, t7, r7]
    refine lb_13 i0 i6 iL (fun _ => ⟨⟨t2, t4⟩, by rw [t5]; omega, by rw [t5, t7]; omega⟩) (fun _ => r3) (fun _ => r4.2) (fun _ => ⟨by rw [r5]; omega, by rw [r5, r7]; omega⟩) ⟨fun k => ⟨c1, k.2.1, by rw [← el]; exact k.2.2⟩, fun k => ⟨e9, k.2.1, by rw [el]; exact k.2.2⟩⟩ (fun k => ?_) h
    have k1 := k.2.1
    have k2 := k.2.2
    rw [i32_le] at k1
    rw [i32_lt, t7] at k2
    simp only [Int32.reduceToInt] at k1
    have i1 : (st 2 (st 518 0).toNatClampNeg + xs (i + 1).toNatClampNeg).toNatClampNeg = fb A (lf A) + (xs (i + 1).toNatClampNeg).toInt.toNat := by
      rw [nn_eq, i32_addw, t5]
      omega
    have i2 : (st 2166 (st 610 0 - 1).toNatClampNeg + xs (i + 1).toNatClampNeg).toNatClampNeg = fb A (lf A) + (xs (i + 1).toNatClampNeg).toInt.toNat := by
      rw [nn_eq, i32_addw, r5]
      omega
    rw [i1, i2, hM 2162 rfl]
    exact hC.2.2.1 (lf A) (by unfold lf; omega) _ (by omega)
theorem tn_14 (w : pu_INV j st) (i0 : 0 ≤ i.toInt) (i6 : i.toInt + 6 ≤ (L : Int)) (iL : L ≤ 3072) (h : K i (am_up st 576 0 0)) : am_AW code (g_law L xs (lw_P1 L xs K)) lw_k 678 (lw_lv i a b) [] st := by
  rcases LK w with ⟨c1, c2, c3⟩ | ⟨c1, A, ⟨hB, hn⟩, hC, hM⟩
  · have no : ¬ 0 < st 519 0 := by
      rw [c1]
      decide
    exact lb_14 i0 i6 iL (fun k => absurd k no) (fun k => absurd k c2) (fun k => absurd k c2) (fun k => absurd k c2) ⟨fun k => absurd k.1 no, fun k => absurd k.1 c2⟩ (fun k => absurd k.1 no) h
  · have hV := w.1.1.1.2.1
    obtain ⟨t1, t2, t3, t4, t5, t6, t7, t8, t9, t10⟩ := RC_tw iP_pc hV hB hC hn
    obtain ⟨r1, r2, r3, r4, r5, r6, r7, r8, r9⟩ := RM_tw w.1.1.1.1 hV hB hM hn
    have e9 : 0 < st 519 0 := by
      rw [hC.1.1, ← hM 610 rfl, i32_lt]
      simp only [Int32.reduceToInt]
      omega
    have el : st 3 (st 518 0).toNatClampNeg = st 2165 (st 610 0 - 1).toNatClampNeg := by
      rw [i32_eq, t6, r6]
    refine lb_14 i0 i6 iL (fun _ => ⟨⟨t2, t4⟩, by rw [t5]; omega, by rw [t7]; omega, by rw [t5, t7, t6]; omega⟩) (fun _ => r3) (fun _ => r4.2) (fun _ => ⟨by rw [r5]; omega, by rw [r7]; omega, by rw [r5, r7, r6]; omega⟩) ⟨fun k => ⟨c1, k.2.1, by rw [← el]; exact k.2.2⟩, fun k => ⟨e9, k.2.1, by rw [el]; exact k.2.2⟩⟩ (fun k => ?_) h
    have k1 := k.2.1
    have k2 := k.2.2
    rw [i32_le] at k1
    rw [i32_lt, t6] at k2
    simp only [Int32.reduceToInt] at k1
    have key : ∀ (p q r : Int32), p.toInt = (fb A (lf A) : Int) → q.toInt = (flo (iP st) A (lf A) : Int) → r.toInt = (sD A : Int) → (p + q + r - 1 - xs (i + 1).toNatClampNeg).toNatClampNeg = fb A (lf A) + (flo (iP st) A (lf A) + (sD A - 1 - (xs (i + 1).toNatClampNeg).toInt.toNat)) := by
      intro p q r hp hq hr
      have a1 : (p + q).toInt = (fb A (lf A) : Int) + flo (iP st) A (lf A) := by
        rw [i32_addw, hp, hq]
        omega
      have a2 : (p + q + r).toInt = (fb A (lf A) : Int) + flo (iP st) A (lf A) + sD A := by
        rw [i32_addw, a1, hr]
        omega
      have a3 : (p + q + r - 1).toInt = (fb A (lf A) : Int) + flo (iP st) A (lf A) + sD A - 1 := by
        rw [i32_subw, a2]
        simp only [Int32.reduceToInt]
        omega
      rw [nn_eq, i32_subw, a3]
      omega
    rw [key _ _ _ t5 t7 t6, key _ _ _ r5 r7 r6, hM 2162 rfl]
    refine hC.2.2.1 (lf A) (by unfold lf; omega) _ ?_
    unfold sD at *
    omega
end LQ

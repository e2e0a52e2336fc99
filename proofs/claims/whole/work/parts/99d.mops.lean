/-! written by wip/whole/gen/walk.py out of 99d.mops.txt -/
theorem RM_up {st A : am_S} {b i : Nat} {v : Int32} (h : RM st A) : RM (am_up st b i v) (am_up A b i v) := by
  intro b' hb
  funext i'
  unfold am_up
  rw [h b' hb]
theorem RM_fill {st A : am_S} {b lo n : Nat} {v : Int32} (h : RM st A) : RM (am_fill st b lo n v) (am_fill A b lo n v) := by
  intro b' hb
  funext i'
  unfold am_fill
  rw [h b' hb]
/-- what a walk of the reference wants to know of the frame on top -/
theorem RM_tw {P st A : am_S} (hP : PM st P) (hV : VP P) (hB : BV P A) (h : RM st A) (h1 : 0 < fn A) : (st 610 0 - 1).toNatClampNeg = lf A ∧ (0 ≤ (st 610 0 - 1).toInt ∧ (st 610 0 - 1).toInt < 80) ∧ (1 ≤ (st 610 0).toInt ∧ (st 610 0).toInt ≤ 80) ∧ ((st 2163 (st 610 0 - 1).toNatClampNeg).toNatClampNeg = fm A (lf A) ∧ 0 ≤ (st 2163 (st 610 0 - 1).toNatClampNeg).toInt ∧ (st 2163 (st 610 0 - 1).toNatClampNeg).toInt < 8) ∧ (st 2166 (st 610 0 - 1).toNatClampNeg).toInt = (fb A (lf A) : Int) ∧ (st 2165 (st 610 0 - 1).toNatClampNeg).toInt = (sD A : Int) ∧ (st 2146 (st 2163 (st 610 0 - 1).toNatClampNeg).toNatClampNeg).toInt = (flo P A (lf A) : Int) ∧ fb A (lf A) + flo P A (lf A) + fhe P A (lf A) + 1 ≤ 80 ∧ sD A ≤ fhe P A (lf A) := by
  obtain ⟨a1, a2, a3, a4, a5⟩ := top_r hB h1
  obtain ⟨⟨b1, b2⟩, b3, -, -, -⟩ := a1
  have hfn := BV_fn hB
  have g80 := BV_80 hB a2
  unfold en at g80
  have e610 := fn_I hB.1
  have c := mf hP hV b2
  have i1 : (st 610 0 - 1).toInt = (fn A : Int) - 1 := by
    rw [h 610 rfl, i32_subw]
    simp only [Int32.reduceToInt]
    omega
  have i2 : (st 610 0 - 1).toNatClampNeg = lf A := by
    rw [nn_eq, i1]
    unfold lf
    omega
  rw [i2, h 610 rfl, h 2163 rfl, h 2166 rfl, h 2165 rfl]
  rw [h 610 rfl] at i1
  refine ⟨rfl, by omega, by omega, ⟨rfl, b1, ?_⟩, ?_, a3, ?_, g80, a4⟩
  · have := c.1
    unfold fm at this
    rw [nn_eq] at this
    omega
  · unfold fb
    omega
  · have e : (A 2163 (lf A)).toNatClampNeg = fm A (lf A) := rfl
    rw [e, hP.1.2.2.2.2.1]
    unfold flo
    have := c.2.2.1.2.2.1
    have := c.2.2.1.1
    rw [hP.1.2.2.2.2.1, hP.1.2.2.2.1] at *
    omega
theorem sp_MO_push {P st0 A : am_S} {v : Int32} {st : am_S} {f : am_S → Prop} (c1 : PM st0 P) (c2 : VP P) (c3 : BV P A) (c4 : 0 < fn A) (c5 : sD A < fhe P A (lf A)) (c6 : QM st0 A st) (h1 : ∀ q : {q : am_S // QM st0 (o_push P A v) q}, f q.1) : wp_MO_push [.inr (.inl 128), .inl v] st (am_kv f) := by
  refine ⟨⟨rfl, Nat.le_of_ble_eq_true rfl⟩, ?_⟩
  obtain ⟨t1, t2, t3, ⟨t4, t5, t6⟩, t7, t8, t9, t10, t11⟩ := RM_tw (pm_oR c1 c6.1) c2 c3 c6.2 c4
  have ei : (st 2166 (st 610 0 - 1).toNatClampNeg + st 2146 (st 2163 (st 610 0 - 1).toNatClampNeg).toNatClampNeg + st 2165 (st 610 0 - 1).toNatClampNeg).toNatClampNeg = sx P A := by
    rw [nn_eq, i32_addw, i32_addw, sx_D]
    omega
  have vi : vp_in (st 2166 (st 610 0 - 1).toNatClampNeg + st 2146 (st 2163 (st 610 0 - 1).toNatClampNeg).toNatClampNeg + st 2165 (st 610 0 - 1).toNatClampNeg) 80 := by
    refine vp_of ?_ ?_ <;> (rw [i32_addw, i32_addw]; omega)
  have vl : vp_in (st 610 0 - 1) 80 := vp_of t2.1 t2.2
  have e65 : A 2165 (lf A) = st 2165 (st 610 0 - 1).toNatClampNeg := by rw [t1, c6.2 2165 rfl]
  have kQ : RM (am_up (am_up st 2162 (sx P A) v) 2165 (lf A) (A 2165 (lf A) + 1)) (o_push P A v) := RM_up (RM_up c6.2)
  have kF := hs h1 ⟨md_up (md_up c6.1 rfl) rfl, kQ⟩
  rw [e65, ← ei, ← t1] at kF
  clear h1 kQ c6 c3
  refine r_al0 (q := 1) d_MO_push_0 rfl ?_
  refine gt_MO_cell (q := 4) d_MO_push_1 rfl rfl ?_
  refine r_al0 (q := 5) d_MO_push_4 rfl ?_
  refine r_vi0 mo_MO_stackAt d_MO_push_5 rfl rfl rfl (q := 8) rfl ?_
  refine sp_MO_stackAt (by first | assumption | (refine pc_of hP ?_; (repeat (first | assumption | exact md_refl | refine md_up ?_ rfl | refine md_fill ?_ rfl | (unfold ik; refine md_up ?_ rfl))); done) | (refine pc_oS hP ?_; (repeat (first | assumption | exact md_refl | refine md_up ?_ rfl | refine md_fill ?_ rfl | (unfold ik; refine md_up ?_ rfl))); done) | (refine pm_of hP ?_; (repeat (first | assumption | exact md_refl | refine md_up ?_ rfl | refine md_fill ?_ rfl | (unfold ik; refine md_up ?_ rfl))); done) | omega | decide | ((try simp +decide only [b01, b10, b11, am_up, ik, and_true, and_false, true_and, false_and, if_true, if_false, nn_eq] at *) <;> (try simp only [sw_or, sw_all, or_false, and_true, i32_lt, i32_le, i32_eq, i32_addw, i32_subw, i32_mulw, Int32.reduceToInt] at *) <;> omega) | (apply_assumption; done)) (by first | assumption | (refine pc_of hP ?_; (repeat (first | assumption | exact md_refl | refine md_up ?_ rfl | refine md_fill ?_ rfl | (unfold ik; refine md_up ?_ rfl))); done) | (refine pc_oS hP ?_; (repeat (first | assumption | exact md_refl | refine md_up ?_ rfl | refine md_fill ?_ rfl | (unfold ik; refine md_up ?_ rfl))); done) | (refine pm_of hP ?_; (repeat (first | assumption | exact md_refl | refine md_up ?_ rfl | refine md_fill ?_ rfl | (unfold ik; refine md_up ?_ rfl))); done) | omega | decide | ((try simp +decide only [b01, b10, b11, am_up, ik, and_true, and_false, true_and, false_and, if_true, if_false, nn_eq] at *) <;> (try simp only [sw_or, sw_all, or_false, and_true, i32_lt, i32_le, i32_eq, i32_addw, i32_subw, i32_mulw, Int32.reduceToInt] at *) <;> omega) | (apply_assumption; done)) (by first | assumption | (refine pc_of hP ?_; (repeat (first | assumption | exact md_refl | refine md_up ?_ rfl | refine md_fill ?_ rfl | (unfold ik; refine md_up ?_ rfl))); done) | (refine pc_oS hP ?_; (repeat (first | assumption | exact md_refl | refine md_up ?_ rfl | refine md_fill ?_ rfl | (unfold ik; refine md_up ?_ rfl))); done) | (refine pm_of hP ?_; (repeat (first | assumption | exact md_refl | refine md_up ?_ rfl | refine md_fill ?_ rfl | (unfold ik; refine md_up ?_ rfl))); done) | omega | decide | ((try simp +decide only [b01, b10, b11, am_up, ik, and_true, and_false, true_and, false_and, if_true, if_false, nn_eq] at *) <;> (try simp only [sw_or, sw_all, or_false, and_true, i32_lt, i32_le, i32_eq, i32_addw, i32_subw, i32_mulw, Int32.reduceToInt] at *) <;> omega) | (apply_assumption; done)) (by first | assumption | (refine pc_of hP ?_; (repeat (first | assumption | exact md_refl | refine md_up ?_ rfl | refine md_fill ?_ rfl | (unfold ik; refine md_up ?_ rfl))); done) | (refine pc_oS hP ?_; (repeat (first | assumption | exact md_refl | refine md_up ?_ rfl | refine md_fill ?_ rfl | (unfold ik; refine md_up ?_ rfl))); done) | (refine pm_of hP ?_; (repeat (first | assumption | exact md_refl | refine md_up ?_ rfl | refine md_fill ?_ rfl | (unfold ik; refine md_up ?_ rfl))); done) | omega | decide | ((try simp +decide only [b01, b10, b11, am_up, ik, and_true, and_false, true_and, false_and, if_true, if_false, nn_eq] at *) <;> (try simp only [sw_or, sw_all, or_false, and_true, i32_lt, i32_le, i32_eq, i32_addw, i32_subw, i32_mulw, Int32.reduceToInt] at *) <;> omega) | (apply_assumption; done)) ?_
  refine r_il1 (q := 9) d_MO_push_8 rfl ?_
  refine sv_162 (q := 10) d_MO_push_9 ?_ rfl ?_
  · first | exact vi | exact vl
  refine r_al0 (q := 11) d_MO_push_10 rfl ?_
  refine gt_MO_frameTop (q := 14) d_MO_push_11 rfl rfl ?_
  refine r_al0 (q := 15) d_MO_push_14 rfl ?_
  refine r_vi0 mo_MO_latest d_MO_push_15 rfl rfl rfl (q := 18) rfl ?_
  refine sp_MO_latest ?_
  refine r_dup2 (q := 19) d_MO_push_18 rfl ?_
  refine ld_165 (q := 20) d_MO_push_19 ?_ rfl ?_
  · first | exact vi | exact vl
  refine r_ic (v := 1) (q := 21) d_MO_push_20 rfl rfl ?_
  refine r_iadd (q := 22) d_MO_push_21 rfl ?_
  refine sv_165 (q := 23) d_MO_push_22 ?_ rfl ?_
  · first | exact vi | exact vl
  refine r_rv d_MO_push_23 ?_
  exact kF
theorem sp_MO_pop {P st0 A : am_S} {st : am_S} {f : Int32 → am_S → Prop} (c1 : PM st0 P) (c2 : VP P) (c3 : BV P A) (c4 : 0 < fn A) (c5 : 0 < sD A) (c6 : QM st0 A st) (h1 : ∀ q : {q : am_S // QM st0 (o_pop A) q}, f (o_val P A) q.1) : wp_MO_pop [.inr (.inl 128)] st (am_ki f) := by
  refine ⟨⟨rfl, Nat.le_of_ble_eq_true rfl⟩, ?_⟩
  obtain ⟨t1, t2, t3, ⟨t4, t5, t6⟩, t7, t8, t9, t10, t11⟩ := RM_tw (pm_oR c1 c6.1) c2 c3 c6.2 c4
  have ei : (st 2166 (st 610 0 - 1).toNatClampNeg + st 2146 (st 2163 (st 610 0 - 1).toNatClampNeg).toNatClampNeg + (st 2165 (st 610 0 - 1).toNatClampNeg - 1)).toNatClampNeg = sx P A - 1 := by
    rw [nn_eq, i32_addw, i32_addw, i32_subw, sx_D]
    simp only [Int32.reduceToInt]
    omega
  have vi : vp_in (st 2166 (st 610 0 - 1).toNatClampNeg + st 2146 (st 2163 (st 610 0 - 1).toNatClampNeg).toNatClampNeg + (st 2165 (st 610 0 - 1).toNatClampNeg - 1)) 80 := by
    refine vp_of ?_ ?_ <;> (rw [i32_addw, i32_addw, i32_subw]; simp only [Int32.reduceToInt]; omega)
  have vl : vp_in (st 610 0 - 1) 80 := vp_of t2.1 t2.2
  have e65 : A 2165 (lf A) = st 2165 (st 610 0 - 1).toNatClampNeg := by rw [t1, c6.2 2165 rfl]
  have kQ : RM (am_up st 2165 (lf A) (A 2165 (lf A) - 1)) (o_pop A) := RM_up c6.2
  have hv : st 2162 (sx P A - 1) = o_val P A := by rw [c6.2 2162 rfl]; rfl
  have kF := hs (f := f (o_val P A)) h1 ⟨md_up c6.1 rfl, kQ⟩
  rw [e65, ← hv, ← ei, ← t1] at kF
  clear h1 kQ c6 c3 hv
  refine r_al0 (q := 1) d_MO_pop_0 rfl ?_
  refine gt_MO_frameTop (q := 4) d_MO_pop_1 rfl rfl ?_
  refine r_al0 (q := 5) d_MO_pop_4 rfl ?_
  refine r_vi0 mo_MO_latest d_MO_pop_5 rfl rfl rfl (q := 8) rfl ?_
  refine sp_MO_latest ?_
  refine r_dup2 (q := 9) d_MO_pop_8 rfl ?_
  refine ld_165 (q := 10) d_MO_pop_9 ?_ rfl ?_
  · first | exact vl | (simp only [am_up_bank (show ¬ (610 : Nat) = 2165 by decide), am_up_bank (show ¬ (2166 : Nat) = 2165 by decide), am_up_bank (show ¬ (2146 : Nat) = 2165 by decide), am_up_bank (show ¬ (2163 : Nat) = 2165 by decide), am_up_eq]; exact vi)
  refine r_ic (v := 1) (q := 11) d_MO_pop_10 rfl rfl ?_
  refine r_isub (q := 12) d_MO_pop_11 rfl ?_
  refine sv_165 (q := 13) d_MO_pop_12 ?_ rfl ?_
  · first | exact vl | (simp only [am_up_bank (show ¬ (610 : Nat) = 2165 by decide), am_up_bank (show ¬ (2166 : Nat) = 2165 by decide), am_up_bank (show ¬ (2146 : Nat) = 2165 by decide), am_up_bank (show ¬ (2163 : Nat) = 2165 by decide), am_up_eq]; exact vi)
  refine r_al0 (q := 14) d_MO_pop_13 rfl ?_
  refine gt_MO_cell (q := 17) d_MO_pop_14 rfl rfl ?_
  refine r_al0 (q := 18) d_MO_pop_17 rfl ?_
  refine r_vi0 mo_MO_stackAt d_MO_pop_18 rfl rfl rfl (q := 21) rfl ?_
  refine sp_MO_stackAt (by first | assumption | (refine pc_of hP ?_; (repeat (first | assumption | exact md_refl | refine md_up ?_ rfl | refine md_fill ?_ rfl | (unfold ik; refine md_up ?_ rfl))); done) | (refine pc_oS hP ?_; (repeat (first | assumption | exact md_refl | refine md_up ?_ rfl | refine md_fill ?_ rfl | (unfold ik; refine md_up ?_ rfl))); done) | (refine pm_of hP ?_; (repeat (first | assumption | exact md_refl | refine md_up ?_ rfl | refine md_fill ?_ rfl | (unfold ik; refine md_up ?_ rfl))); done) | omega | decide | ((try simp +decide only [b01, b10, b11, am_up, ik, and_true, and_false, true_and, false_and, if_true, if_false, nn_eq] at *) <;> (try simp only [sw_or, sw_all, or_false, and_true, i32_lt, i32_le, i32_eq, i32_addw, i32_subw, i32_mulw, Int32.reduceToInt] at *) <;> omega) | (apply_assumption; done)) (by first | assumption | (refine pc_of hP ?_; (repeat (first | assumption | exact md_refl | refine md_up ?_ rfl | refine md_fill ?_ rfl | (unfold ik; refine md_up ?_ rfl))); done) | (refine pc_oS hP ?_; (repeat (first | assumption | exact md_refl | refine md_up ?_ rfl | refine md_fill ?_ rfl | (unfold ik; refine md_up ?_ rfl))); done) | (refine pm_of hP ?_; (repeat (first | assumption | exact md_refl | refine md_up ?_ rfl | refine md_fill ?_ rfl | (unfold ik; refine md_up ?_ rfl))); done) | omega | decide | ((try simp +decide only [b01, b10, b11, am_up, ik, and_true, and_false, true_and, false_and, if_true, if_false, nn_eq] at *) <;> (try simp only [sw_or, sw_all, or_false, and_true, i32_lt, i32_le, i32_eq, i32_addw, i32_subw, i32_mulw, Int32.reduceToInt] at *) <;> omega) | (apply_assumption; done)) (by first | assumption | (refine pc_of hP ?_; (repeat (first | assumption | exact md_refl | refine md_up ?_ rfl | refine md_fill ?_ rfl | (unfold ik; refine md_up ?_ rfl))); done) | (refine pc_oS hP ?_; (repeat (first | assumption | exact md_refl | refine md_up ?_ rfl | refine md_fill ?_ rfl | (unfold ik; refine md_up ?_ rfl))); done) | (refine pm_of hP ?_; (repeat (first | assumption | exact md_refl | refine md_up ?_ rfl | refine md_fill ?_ rfl | (unfold ik; refine md_up ?_ rfl))); done) | omega | decide | ((try simp +decide only [b01, b10, b11, am_up, ik, and_true, and_false, true_and, false_and, if_true, if_false, nn_eq] at *) <;> (try simp only [sw_or, sw_all, or_false, and_true, i32_lt, i32_le, i32_eq, i32_addw, i32_subw, i32_mulw, Int32.reduceToInt] at *) <;> omega) | (apply_assumption; done)) (by first | assumption | (refine pc_of hP ?_; (repeat (first | assumption | exact md_refl | refine md_up ?_ rfl | refine md_fill ?_ rfl | (unfold ik; refine md_up ?_ rfl))); done) | (refine pc_oS hP ?_; (repeat (first | assumption | exact md_refl | refine md_up ?_ rfl | refine md_fill ?_ rfl | (unfold ik; refine md_up ?_ rfl))); done) | (refine pm_of hP ?_; (repeat (first | assumption | exact md_refl | refine md_up ?_ rfl | refine md_fill ?_ rfl | (unfold ik; refine md_up ?_ rfl))); done) | omega | decide | ((try simp +decide only [b01, b10, b11, am_up, ik, and_true, and_false, true_and, false_and, if_true, if_false, nn_eq] at *) <;> (try simp only [sw_or, sw_all, or_false, and_true, i32_lt, i32_le, i32_eq, i32_addw, i32_subw, i32_mulw, Int32.reduceToInt] at *) <;> omega) | (apply_assumption; done)) ?_
  refine ld_162 (q := 22) d_MO_pop_21 ?_ rfl ?_
  · first | exact vl | (simp only [am_up_bank (show ¬ (610 : Nat) = 2165 by decide), am_up_bank (show ¬ (2166 : Nat) = 2165 by decide), am_up_bank (show ¬ (2146 : Nat) = 2165 by decide), am_up_bank (show ¬ (2163 : Nat) = 2165 by decide), am_up_eq]; exact vi)
  refine r_ri d_MO_pop_22 ?_
  (simp only [am_up_bank (show ¬ (610 : Nat) = 2165 by decide), am_up_bank (show ¬ (2166 : Nat) = 2165 by decide), am_up_bank (show ¬ (2146 : Nat) = 2165 by decide), am_up_bank (show ¬ (2163 : Nat) = 2165 by decide), am_up_bank (show ¬ (2162 : Nat) = 2165 by decide), am_up_eq]; exact kF)
theorem sp_MO_leave {P st0 A : am_S} {st : am_S} {f : am_S → Prop} (c3 : BV P A) (c4 : 0 < fn A) (c6 : QM st0 A st) (h1 : ∀ q : {q : am_S // QM st0 (o_close A) q}, f q.1) : wp_MO_leave [.inr (.inl 128)] st (am_kv f) := by
  refine ⟨⟨rfl, Nat.le_of_ble_eq_true rfl⟩, ?_⟩
  have hn := fn_I c3.1
  have h8 := BV_fn c3
  have e610 : A 610 0 = st 610 0 := by rw [c6.2 610 rfl]
  have i1 : (st 610 0 - 1).toInt = (fn A : Int) - 1 := by
    rw [← e610, i32_subw]
    simp only [Int32.reduceToInt]
    omega
  have i2 : lf A = (st 610 0 - 1).toNatClampNeg := by
    rw [nn_eq, i1]
    unfold lf
    omega
  have vl : vp_in (st 610 0 - 1) 80 := vp_of (by omega) (by omega)
  have e66 : A 2166 (lf A) = st 2166 (lf A) := by rw [c6.2 2166 rfl]
  have kQ : RM (am_up (am_up st 610 0 (A 610 0 - 1)) 608 0 (A 2166 (lf A))) (o_close A) := RM_up (RM_up c6.2)
  have kF := hs h1 ⟨md_up (md_up c6.1 rfl) rfl, kQ⟩
  rw [e66, e610, i2] at kF
  clear h1 kQ c6 c3
  refine r_al0 (q := 1) d_MO_leave_0 rfl ?_
  refine r_dupr (q := 2) d_MO_leave_1 rfl ?_
  refine gt_MO_frames (q := 5) d_MO_leave_2 rfl rfl ?_
  refine r_ic (v := 1) (q := 6) d_MO_leave_5 rfl rfl ?_
  refine r_isub (q := 7) d_MO_leave_6 rfl ?_
  refine pt_MO_frames (q := 10) d_MO_leave_7 rfl rfl ?_
  refine r_al0 (q := 11) d_MO_leave_10 rfl ?_
  refine r_al0 (q := 12) d_MO_leave_11 rfl ?_
  refine gt_MO_frameBase (q := 15) d_MO_leave_12 rfl rfl ?_
  refine r_al0 (q := 16) d_MO_leave_15 rfl ?_
  refine gt_MO_frames (q := 19) d_MO_leave_16 rfl rfl ?_
  refine ld_166 (q := 20) d_MO_leave_19 ?_ rfl ?_
  · exact vl
  refine pt_MO_used (q := 23) d_MO_leave_20 rfl rfl ?_
  refine r_rv d_MO_leave_23 ?_
  exact kF
theorem sp_MO_stop {st0 A : am_S} {w : Int32} {st : am_S} {f : am_S → Prop} (c6 : QM st0 A st) (h1 : ∀ q : {q : am_S // QM st0 (o_stop A w) q}, f q.1) : wp_MO_stop [.inr (.inl 128), .inl w] st (am_kv f) := by
  refine ⟨⟨rfl, Nat.le_of_ble_eq_true rfl⟩, ?_⟩
  have kQ : RM (am_up (am_up (am_up st 603 0 w) 610 0 0) 608 0 0) (o_stop A w) := RM_up (RM_up (RM_up c6.2))
  have kF := hs h1 ⟨md_up (md_up (md_up c6.1 rfl) rfl) rfl, kQ⟩
  clear h1 kQ c6
  refine r_al0 (q := 1) d_MO_stop_0 rfl ?_
  refine r_il1 (q := 2) d_MO_stop_1 rfl ?_
  refine pt_MO_state (q := 5) d_MO_stop_2 rfl rfl ?_
  refine r_al0 (q := 6) d_MO_stop_5 rfl ?_
  refine r_ic (v := 0) (q := 7) d_MO_stop_6 rfl rfl ?_
  refine pt_MO_frames (q := 10) d_MO_stop_7 rfl rfl ?_
  refine r_al0 (q := 11) d_MO_stop_10 rfl ?_
  refine r_ic (v := 0) (q := 12) d_MO_stop_11 rfl rfl ?_
  refine pt_MO_used (q := 15) d_MO_stop_12 rfl rfl ?_
  refine r_rv d_MO_stop_15 ?_
  exact kF

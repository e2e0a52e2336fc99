/-! written by wip/whole/gen/walk.py out of 99yh.cstart.txt -/
theorem sp_FW_start {P : am_S} (A : am_S) {y : Int32} {st : am_S} {f : Int32 → am_S → Prop} {g : Nat → am_S → Prop} (c1 : PC st P) (c2 : VP P) (h1 : (0 ≤ y.toInt ∧ y.toNatClampNeg < nM P) ∧ P 3 y.toNatClampNeg = st 261 0 → ¬ st 262 0 = 0 → ∀ q : {q : am_S // am_md cR st q ∧ RC P q (o_beg P A y.toNatClampNeg (st 2141))}, f 1 (am_up q.1 261 0 0)) (h2 : ¬ ((0 ≤ y.toInt ∧ y.toNatClampNeg < nM P) ∧ P 3 y.toNatClampNeg = st 261 0) → g 1 st) (h3 : (0 ≤ y.toInt ∧ y.toNatClampNeg < nM P) ∧ P 3 y.toNatClampNeg = st 261 0 → st 262 0 = 0 → g 2 st) : wp_FW_start [.inr (.inl 123), .inl y] st (am_kt f g) := by
  refine ⟨⟨rfl, Nat.le_of_ble_eq_true rfl⟩, ?_⟩
  have hm : 0 ≤ y ∧ y < st 323 0 ↔ (0 ≤ y.toInt ∧ y.toNatClampNeg < nM P) := by
    have e : st 323 0 = P 12 0 := by rw [c1.2.2.2.2.2.2.1]
    have := c2.1
    rw [i32_le, i32_lt, e, nn_eq]
    simp only [Int32.reduceToInt]
    unfold nM
    omega
  have e69 : st 69 y.toNatClampNeg = P 3 y.toNatClampNeg := by rw [c1.1.2.2.2.1]
  have v8 : 0 ≤ y ∧ y < st 323 0 → vp_in y 8 ∧ y.toNatClampNeg < 8 := by
    intro w
    have w' := hm.mp w
    have := c2.1
    have h8 : y.toNatClampNeg < 8 := by unfold nM at w'; omega
    refine ⟨vp_of w'.1 ?_, h8⟩
    rw [nn_eq] at h8
    omega
  have k53 : (0 ≤ y ∧ y < st 323 0) → st 69 y.toNatClampNeg = st 261 0 → ¬ st 262 0 = 0 → am_AW c_FW_start g_FW_start (fun o st' => am_ok (some .boolean) o ∧ am_kt f g o st') 53 [some (.inr (.inl 123)), some (.inl y)] [] st := by
    intro w1 w2 w3
    have w1' := hm.mp w1
    have kE := h1 ⟨w1', by rw [← e69]; exact w2⟩ w3
    have ny : nI y.toNatClampNeg = y := nI_back w1'.1
    have n8 := w1'.2
    clear h1 h2 h3 v8 hm
    generalize hmm : y.toNatClampNeg = m at *
    subst ny
    refine r_al0 (q := 54) d_FW_start_53 rfl ?_
    refine gt_FW_machine (q := 57) d_FW_start_54 rfl rfl ?_
    refine r_il1 (q := 58) d_FW_start_57 rfl ?_
    refine r_al0 (q := 59) d_FW_start_58 rfl ?_
    refine gt_FW_given (q := 62) d_FW_start_59 rfl rfl ?_
    refine r_vv2 mo_MA_begin d_FW_start_62 rfl rfl rfl (q := 65) rfl ?_
    refine sp_MA_begin (P := P) (A := A) (m := m) (by first | exact c1 | exact n8 | assumption | (refine pc_of hP ?_; (repeat (first | assumption | exact md_refl | refine md_up ?_ rfl | refine md_fill ?_ rfl | (unfold ik; refine md_up ?_ rfl))); done) | (refine pc_oS hP ?_; (repeat (first | assumption | exact md_refl | refine md_up ?_ rfl | refine md_fill ?_ rfl | (unfold ik; refine md_up ?_ rfl))); done) | (refine pm_of hP ?_; (repeat (first | assumption | exact md_refl | refine md_up ?_ rfl | refine md_fill ?_ rfl | (unfold ik; refine md_up ?_ rfl))); done) | omega | decide | ((try simp +decide only [b01, b10, b11, am_up, ik, and_true, and_false, true_and, false_and, if_true, if_false, nn_eq] at *) <;> (try simp only [sw_or, sw_all, or_false, and_true, i32_lt, i32_le, i32_eq, i32_addw, i32_subw, i32_mulw, Int32.reduceToInt] at *) <;> omega) | (apply_assumption; done)) (by first | exact c1 | exact n8 | assumption | (refine pc_of hP ?_; (repeat (first | assumption | exact md_refl | refine md_up ?_ rfl | refine md_fill ?_ rfl | (unfold ik; refine md_up ?_ rfl))); done) | (refine pc_oS hP ?_; (repeat (first | assumption | exact md_refl | refine md_up ?_ rfl | refine md_fill ?_ rfl | (unfold ik; refine md_up ?_ rfl))); done) | (refine pm_of hP ?_; (repeat (first | assumption | exact md_refl | refine md_up ?_ rfl | refine md_fill ?_ rfl | (unfold ik; refine md_up ?_ rfl))); done) | omega | decide | ((try simp +decide only [b01, b10, b11, am_up, ik, and_true, and_false, true_and, false_and, if_true, if_false, nn_eq] at *) <;> (try simp only [sw_or, sw_all, or_false, and_true, i32_lt, i32_le, i32_eq, i32_addw, i32_subw, i32_mulw, Int32.reduceToInt] at *) <;> omega) | (apply_assumption; done)) (by first | exact c1 | exact n8 | assumption | (refine pc_of hP ?_; (repeat (first | assumption | exact md_refl | refine md_up ?_ rfl | refine md_fill ?_ rfl | (unfold ik; refine md_up ?_ rfl))); done) | (refine pc_oS hP ?_; (repeat (first | assumption | exact md_refl | refine md_up ?_ rfl | refine md_fill ?_ rfl | (unfold ik; refine md_up ?_ rfl))); done) | (refine pm_of hP ?_; (repeat (first | assumption | exact md_refl | refine md_up ?_ rfl | refine md_fill ?_ rfl | (unfold ik; refine md_up ?_ rfl))); done) | omega | decide | ((try simp +decide only [b01, b10, b11, am_up, ik, and_true, and_false, true_and, false_and, if_true, if_false, nn_eq] at *) <;> (try simp only [sw_or, sw_all, or_false, and_true, i32_lt, i32_le, i32_eq, i32_addw, i32_subw, i32_mulw, Int32.reduceToInt] at *) <;> omega) | (apply_assumption; done)) (fun e62 => ?_)
    · skip
      refine r_al0 (q := 66) d_FW_start_65 rfl ?_
      refine r_ic (v := 0) (q := 67) d_FW_start_66 rfl rfl ?_
      refine pt_FW_givenCount (q := 70) d_FW_start_67 rfl rfl ?_
      refine r_ic (v := 1) (q := 71) d_FW_start_70 rfl rfl ?_
      refine r_tz d_FW_start_71 (by first | exact c1 | exact n8 | assumption | (refine pc_of hP ?_; (repeat (first | assumption | exact md_refl | refine md_up ?_ rfl | refine md_fill ?_ rfl | (unfold ik; refine md_up ?_ rfl))); done) | (refine pc_oS hP ?_; (repeat (first | assumption | exact md_refl | refine md_up ?_ rfl | refine md_fill ?_ rfl | (unfold ik; refine md_up ?_ rfl))); done) | (refine pm_of hP ?_; (repeat (first | assumption | exact md_refl | refine md_up ?_ rfl | refine md_fill ?_ rfl | (unfold ik; refine md_up ?_ rfl))); done) | omega | decide | ((try simp +decide only [b01, b10, b11, am_up, ik, and_true, and_false, true_and, false_and, if_true, if_false, nn_eq] at *) <;> (try simp only [sw_or, sw_all, or_false, and_true, i32_lt, i32_le, i32_eq, i32_addw, i32_subw, i32_mulw, Int32.reduceToInt] at *) <;> omega) | (apply_assumption; done)) ?_
      exact kE e62
  clear h1
  refine r_al0 (q := 1) d_FW_start_0 rfl ?_
  refine gt_FW_code (q := 4) d_FW_start_1 rfl rfl ?_
  refine r_il1 (q := 5) d_FW_start_4 rfl ?_
  refine r_vi1 mo_CO_hasMethod d_FW_start_5 rfl rfl rfl (q := 8) rfl ?_
  refine sq_CO_hasMethod (fun e5 => ?_) (fun e5 => ?_)
  · skip
    refine r_zeq (tgt := 30) (q := 11) d_FW_start_8 rfl rfl (fun e8 => by exfalso; revert e8; decide) (fun e8 => ?_)
    refine r_al0 (q := 12) d_FW_start_11 rfl ?_
    refine gt_FW_code (q := 15) d_FW_start_12 rfl rfl ?_
    refine gt_CO_methods (q := 18) d_FW_start_15 rfl rfl ?_
    refine r_il1 (q := 19) d_FW_start_18 rfl ?_
    refine ld_130 (q := 20) d_FW_start_19 ?_ rfl ?_
    · exact (v8 e5).1
    refine gt_ME_arguments (q := 23) d_FW_start_20 rfl (by first | exact (v8 e5).2 | assumption | (refine pc_of hP ?_; (repeat (first | assumption | exact md_refl | refine md_up ?_ rfl | refine md_fill ?_ rfl | (unfold ik; refine md_up ?_ rfl))); done) | (refine pc_oS hP ?_; (repeat (first | assumption | exact md_refl | refine md_up ?_ rfl | refine md_fill ?_ rfl | (unfold ik; refine md_up ?_ rfl))); done) | (refine pm_of hP ?_; (repeat (first | assumption | exact md_refl | refine md_up ?_ rfl | refine md_fill ?_ rfl | (unfold ik; refine md_up ?_ rfl))); done) | omega | decide | ((try simp +decide only [b01, b10, b11, am_up, ik, and_true, and_false, true_and, false_and, if_true, if_false, nn_eq] at *) <;> (try simp only [sw_or, sw_all, or_false, and_true, i32_lt, i32_le, i32_eq, i32_addw, i32_subw, i32_mulw, Int32.reduceToInt] at *) <;> omega) | (apply_assumption; done)) rfl ?_
    refine r_al0 (q := 24) d_FW_start_23 rfl ?_
    refine gt_FW_givenCount (q := 27) d_FW_start_24 rfl rfl ?_
    refine r_ceq (tgt := 38) (q := 30) d_FW_start_27 rfl rfl (fun e27 => ?_) (fun e27 => ?_)
    · skip
      refine r_al0 (q := 39) d_FW_start_38 rfl ?_
      refine gt_FW_verified (q := 42) d_FW_start_39 rfl rfl ?_
      refine r_zne (tgt := 53) (q := 45) d_FW_start_42 rfl rfl (fun e42 => ?_) (fun e42 => ?_)
      · skip
        exact k53 e5 e27 e42
      · skip
        refine r_ttz d_FW_start_45 d_FW_start_48 d_FW_start_49 d_FW_start_52 rfl ?_
        first | exact h2 (fun w => e5 (hm.mpr w.1)) | exact h2 (fun w => e27 (e69.trans w.2)) | exact h3 ⟨hm.mp e5, e69.symm.trans e27⟩ e42
    · skip
      refine r_ttz d_FW_start_30 d_FW_start_33 d_FW_start_34 d_FW_start_37 rfl ?_
      first | exact h2 (fun w => e5 (hm.mpr w.1)) | exact h2 (fun w => e27 (e69.trans w.2)) | exact h3 ⟨hm.mp e5, e69.symm.trans e27⟩ e42
  · skip
    refine r_zeq (tgt := 30) (q := 11) d_FW_start_8 rfl rfl (fun e8 => ?_) (fun e8 => by exfalso; revert e8; decide)
    refine r_ttz d_FW_start_30 d_FW_start_33 d_FW_start_34 d_FW_start_37 rfl ?_
    first | exact h2 (fun w => e5 (hm.mpr w.1)) | exact h2 (fun w => e27 (e69.trans w.2)) | exact h3 ⟨hm.mp e5, e69.symm.trans e27⟩ e42

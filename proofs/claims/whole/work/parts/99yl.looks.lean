/-! written by wip/whole/gen/walk.py out of 99yl.looks.txt -/
theorem i32_nle {a b : Int32} (h : ¬ a ≤ b) : b < a := by
  rw [i32_le] at h
  rw [i32_lt]
  omega
theorem i32_nlt {a b : Int32} (h : ¬ a < b) : b ≤ a := by
  rw [i32_lt] at h
  rw [i32_le]
  omega
theorem sq_MA_showLocal {x : Int32} {st : am_S} {f : Int32 → am_S → Prop} (c1 : 0 < st 519 0 → ((st 518 0).toNatClampNeg < 80 ∧ (st 0 (st 518 0).toNatClampNeg).toNatClampNeg < 8) ∧ 0 ≤ (st 2 (st 518 0).toNatClampNeg).toInt ∧ (st 2 (st 518 0).toNatClampNeg).toInt + (st 70 (st 0 (st 518 0).toNatClampNeg).toNatClampNeg).toInt ≤ 80) (h1 : 0 < st 519 0 ∧ 0 ≤ x ∧ x < st 70 (st 0 (st 518 0).toNatClampNeg).toNatClampNeg → f (st 2137 (st 2 (st 518 0).toNatClampNeg + x).toNatClampNeg) st) (h2 : ¬ (0 < st 519 0 ∧ 0 ≤ x ∧ x < st 70 (st 0 (st 518 0).toNatClampNeg).toNatClampNeg) → f 0 st) : wp_MA_showLocal [.inr (.inl 127), .inl x] st (am_ki f) := by
  refine ⟨⟨rfl, Nat.le_of_ble_eq_true rfl⟩, ?_⟩
  have c1' : ¬ st 519 0 ≤ 0 → _ := fun w => c1 (i32_nle w)
  refine r_al0 (q := 1) d_MA_showLocal_0 rfl ?_
  refine gt_MA_frameCount (q := 4) d_MA_showLocal_1 rfl rfl ?_
  refine r_zle (tgt := 42) (q := 7) d_MA_showLocal_4 rfl rfl (fun e4 => ?_) (fun e4 => ?_)
  · skip
    refine r_ic (v := 0) (q := 43) d_MA_showLocal_42 rfl rfl ?_
    refine r_ri d_MA_showLocal_43 ?_
    first | (refine h1 ?_ <;> ((try simp +decide only [b01, b10, b11, am_up, ik, and_true, and_false, true_and, false_and, if_true, if_false, nn_eq] at *) <;> (try simp only [sw_or, sw_all, or_false, and_true, i32_lt, i32_le, i32_eq, i32_addw, i32_subw, i32_mulw, Int32.reduceToInt] at *) <;> omega)) | (refine h2 ?_ <;> ((try simp +decide only [b01, b10, b11, am_up, ik, and_true, and_false, true_and, false_and, if_true, if_false, nn_eq] at *) <;> (try simp only [sw_or, sw_all, or_false, and_true, i32_lt, i32_le, i32_eq, i32_addw, i32_subw, i32_mulw, Int32.reduceToInt] at *) <;> omega)) | (exfalso; ((try simp +decide only [b01, b10, b11, am_up, ik, and_true, and_false, true_and, false_and, if_true, if_false, nn_eq] at *) <;> (try simp only [sw_or, sw_all, or_false, and_true, i32_lt, i32_le, i32_eq, i32_addw, i32_subw, i32_mulw, Int32.reduceToInt] at *) <;> omega))
  · skip
    refine r_il1 (q := 8) d_MA_showLocal_7 rfl ?_
    refine r_zlt (tgt := 42) (q := 11) d_MA_showLocal_8 rfl rfl (fun e8 => ?_) (fun e8 => ?_)
    · skip
      refine r_ic (v := 0) (q := 43) d_MA_showLocal_42 rfl rfl ?_
      refine r_ri d_MA_showLocal_43 ?_
      first | (refine h1 ?_ <;> ((try simp +decide only [b01, b10, b11, am_up, ik, and_true, and_false, true_and, false_and, if_true, if_false, nn_eq] at *) <;> (try simp only [sw_or, sw_all, or_false, and_true, i32_lt, i32_le, i32_eq, i32_addw, i32_subw, i32_mulw, Int32.reduceToInt] at *) <;> omega)) | (refine h2 ?_ <;> ((try simp +decide only [b01, b10, b11, am_up, ik, and_true, and_false, true_and, false_and, if_true, if_false, nn_eq] at *) <;> (try simp only [sw_or, sw_all, or_false, and_true, i32_lt, i32_le, i32_eq, i32_addw, i32_subw, i32_mulw, Int32.reduceToInt] at *) <;> omega)) | (exfalso; ((try simp +decide only [b01, b10, b11, am_up, ik, and_true, and_false, true_and, false_and, if_true, if_false, nn_eq] at *) <;> (try simp only [sw_or, sw_all, or_false, and_true, i32_lt, i32_le, i32_eq, i32_addw, i32_subw, i32_mulw, Int32.reduceToInt] at *) <;> omega))
    · skip
      refine r_il1 (q := 12) d_MA_showLocal_11 rfl ?_
      refine r_al0 (q := 13) d_MA_showLocal_12 rfl ?_
      refine gt_MA_latest (q := 16) d_MA_showLocal_13 rfl rfl ?_
      refine gt_FR_body (q := 19) d_MA_showLocal_16 rfl (by first | exact (c1' e4).1.1 | exact (c1' e4).1.2 | assumption | (refine pc_of hP ?_; (repeat (first | assumption | exact md_refl | refine md_up ?_ rfl | refine md_fill ?_ rfl | (unfold ik; refine md_up ?_ rfl))); done) | (refine pc_oS hP ?_; (repeat (first | assumption | exact md_refl | refine md_up ?_ rfl | refine md_fill ?_ rfl | (unfold ik; refine md_up ?_ rfl))); done) | (refine pm_of hP ?_; (repeat (first | assumption | exact md_refl | refine md_up ?_ rfl | refine md_fill ?_ rfl | (unfold ik; refine md_up ?_ rfl))); done) | omega | decide | ((try simp +decide only [b01, b10, b11, am_up, ik, and_true, and_false, true_and, false_and, if_true, if_false, nn_eq] at *) <;> (try simp only [sw_or, sw_all, or_false, and_true, i32_lt, i32_le, i32_eq, i32_addw, i32_subw, i32_mulw, Int32.reduceToInt] at *) <;> omega) | (apply_assumption; done)) rfl ?_
      refine gt_ME_locals (q := 22) d_MA_showLocal_19 rfl (by first | exact (c1' e4).1.1 | exact (c1' e4).1.2 | assumption | (refine pc_of hP ?_; (repeat (first | assumption | exact md_refl | refine md_up ?_ rfl | refine md_fill ?_ rfl | (unfold ik; refine md_up ?_ rfl))); done) | (refine pc_oS hP ?_; (repeat (first | assumption | exact md_refl | refine md_up ?_ rfl | refine md_fill ?_ rfl | (unfold ik; refine md_up ?_ rfl))); done) | (refine pm_of hP ?_; (repeat (first | assumption | exact md_refl | refine md_up ?_ rfl | refine md_fill ?_ rfl | (unfold ik; refine md_up ?_ rfl))); done) | omega | decide | ((try simp +decide only [b01, b10, b11, am_up, ik, and_true, and_false, true_and, false_and, if_true, if_false, nn_eq] at *) <;> (try simp only [sw_or, sw_all, or_false, and_true, i32_lt, i32_le, i32_eq, i32_addw, i32_subw, i32_mulw, Int32.reduceToInt] at *) <;> omega) | (apply_assumption; done)) rfl ?_
      refine r_cge (tgt := 42) (q := 25) d_MA_showLocal_22 rfl rfl (fun e22 => ?_) (fun e22 => ?_)
      · skip
        refine r_ic (v := 0) (q := 43) d_MA_showLocal_42 rfl rfl ?_
        refine r_ri d_MA_showLocal_43 ?_
        first | (refine h1 ?_ <;> ((try simp +decide only [b01, b10, b11, am_up, ik, and_true, and_false, true_and, false_and, if_true, if_false, nn_eq] at *) <;> (try simp only [sw_or, sw_all, or_false, and_true, i32_lt, i32_le, i32_eq, i32_addw, i32_subw, i32_mulw, Int32.reduceToInt] at *) <;> omega)) | (refine h2 ?_ <;> ((try simp +decide only [b01, b10, b11, am_up, ik, and_true, and_false, true_and, false_and, if_true, if_false, nn_eq] at *) <;> (try simp only [sw_or, sw_all, or_false, and_true, i32_lt, i32_le, i32_eq, i32_addw, i32_subw, i32_mulw, Int32.reduceToInt] at *) <;> omega)) | (exfalso; ((try simp +decide only [b01, b10, b11, am_up, ik, and_true, and_false, true_and, false_and, if_true, if_false, nn_eq] at *) <;> (try simp only [sw_or, sw_all, or_false, and_true, i32_lt, i32_le, i32_eq, i32_addw, i32_subw, i32_mulw, Int32.reduceToInt] at *) <;> omega))
      · skip
        refine r_al0 (q := 26) d_MA_showLocal_25 rfl ?_
        refine gt_MA_cells (q := 29) d_MA_showLocal_26 rfl rfl ?_
        refine r_al0 (q := 30) d_MA_showLocal_29 rfl ?_
        refine gt_MA_latest (q := 33) d_MA_showLocal_30 rfl rfl ?_
        refine gt_FR_firstCell (q := 36) d_MA_showLocal_33 rfl (by first | exact (c1' e4).1.1 | exact (c1' e4).1.2 | assumption | (refine pc_of hP ?_; (repeat (first | assumption | exact md_refl | refine md_up ?_ rfl | refine md_fill ?_ rfl | (unfold ik; refine md_up ?_ rfl))); done) | (refine pc_oS hP ?_; (repeat (first | assumption | exact md_refl | refine md_up ?_ rfl | refine md_fill ?_ rfl | (unfold ik; refine md_up ?_ rfl))); done) | (refine pm_of hP ?_; (repeat (first | assumption | exact md_refl | refine md_up ?_ rfl | refine md_fill ?_ rfl | (unfold ik; refine md_up ?_ rfl))); done) | omega | decide | ((try simp +decide only [b01, b10, b11, am_up, ik, and_true, and_false, true_and, false_and, if_true, if_false, nn_eq] at *) <;> (try simp only [sw_or, sw_all, or_false, and_true, i32_lt, i32_le, i32_eq, i32_addw, i32_subw, i32_mulw, Int32.reduceToInt] at *) <;> omega) | (apply_assumption; done)) rfl ?_
        refine r_il1 (q := 37) d_MA_showLocal_36 rfl ?_
        refine r_iadd (q := 38) d_MA_showLocal_37 rfl ?_
        refine ld_137 (q := 39) d_MA_showLocal_38 ?_ rfl ?_
        · (have w := (c1' e4).2; clear c1 c1' h1 h2; (refine vp_of ?_ ?_ <;> (((try simp +decide only [b01, b10, b11, am_up, ik, and_true, and_false, true_and, false_and, if_true, if_false, nn_eq] at *) <;> (try simp only [sw_or, sw_all, or_false, and_true, i32_lt, i32_le, i32_eq, i32_addw, i32_subw, i32_mulw, Int32.reduceToInt] at *) <;> omega))))
        refine am_go (tgt := 43) d_MA_showLocal_39 rfl ?_
        refine r_ri d_MA_showLocal_43 ?_
        first | (refine h1 ?_ <;> ((try simp +decide only [b01, b10, b11, am_up, ik, and_true, and_false, true_and, false_and, if_true, if_false, nn_eq] at *) <;> (try simp only [sw_or, sw_all, or_false, and_true, i32_lt, i32_le, i32_eq, i32_addw, i32_subw, i32_mulw, Int32.reduceToInt] at *) <;> omega)) | (refine h2 ?_ <;> ((try simp +decide only [b01, b10, b11, am_up, ik, and_true, and_false, true_and, false_and, if_true, if_false, nn_eq] at *) <;> (try simp only [sw_or, sw_all, or_false, and_true, i32_lt, i32_le, i32_eq, i32_addw, i32_subw, i32_mulw, Int32.reduceToInt] at *) <;> omega)) | (exfalso; ((try simp +decide only [b01, b10, b11, am_up, ik, and_true, and_false, true_and, false_and, if_true, if_false, nn_eq] at *) <;> (try simp only [sw_or, sw_all, or_false, and_true, i32_lt, i32_le, i32_eq, i32_addw, i32_subw, i32_mulw, Int32.reduceToInt] at *) <;> omega))
theorem sq_FW_local {x : Int32} {st : am_S} {f : Int32 → am_S → Prop} (c1 : 0 < st 519 0 → ((st 518 0).toNatClampNeg < 80 ∧ (st 0 (st 518 0).toNatClampNeg).toNatClampNeg < 8) ∧ 0 ≤ (st 2 (st 518 0).toNatClampNeg).toInt ∧ (st 2 (st 518 0).toNatClampNeg).toInt + (st 70 (st 0 (st 518 0).toNatClampNeg).toNatClampNeg).toInt ≤ 80) (h1 : 0 < st 519 0 ∧ 0 ≤ x ∧ x < st 70 (st 0 (st 518 0).toNatClampNeg).toNatClampNeg → f (st 2137 (st 2 (st 518 0).toNatClampNeg + x).toNatClampNeg) st) (h2 : ¬ (0 < st 519 0 ∧ 0 ≤ x ∧ x < st 70 (st 0 (st 518 0).toNatClampNeg).toNatClampNeg) → f 0 st) : wp_FW_local [.inr (.inl 123), .inl x] st (am_ki f) := by
  refine ⟨⟨rfl, Nat.le_of_ble_eq_true rfl⟩, ?_⟩
  refine r_al0 (q := 1) d_FW_local_0 rfl ?_
  refine gt_FW_machine (q := 4) d_FW_local_1 rfl rfl ?_
  refine r_il1 (q := 5) d_FW_local_4 rfl ?_
  refine r_vi1 mo_MA_showLocal d_FW_local_5 rfl rfl rfl (q := 8) rfl ?_
  refine sq_MA_showLocal (by first | assumption | (refine pc_of hP ?_; (repeat (first | assumption | exact md_refl | refine md_up ?_ rfl | refine md_fill ?_ rfl | (unfold ik; refine md_up ?_ rfl))); done) | (refine pc_oS hP ?_; (repeat (first | assumption | exact md_refl | refine md_up ?_ rfl | refine md_fill ?_ rfl | (unfold ik; refine md_up ?_ rfl))); done) | (refine pm_of hP ?_; (repeat (first | assumption | exact md_refl | refine md_up ?_ rfl | refine md_fill ?_ rfl | (unfold ik; refine md_up ?_ rfl))); done) | omega | decide | ((try simp +decide only [b01, b10, b11, am_up, ik, and_true, and_false, true_and, false_and, if_true, if_false, nn_eq] at *) <;> (try simp only [sw_or, sw_all, or_false, and_true, i32_lt, i32_le, i32_eq, i32_addw, i32_subw, i32_mulw, Int32.reduceToInt] at *) <;> omega) | (apply_assumption; done)) (fun e5 => ?_) (fun e5 => ?_)
  · skip
    refine r_ri d_FW_local_8 ?_
    first | (refine h1 ?_ <;> ((try simp +decide only [b01, b10, b11, am_up, ik, and_true, and_false, true_and, false_and, if_true, if_false, nn_eq] at *) <;> (try simp only [sw_or, sw_all, or_false, and_true, i32_lt, i32_le, i32_eq, i32_addw, i32_subw, i32_mulw, Int32.reduceToInt] at *) <;> omega)) | (refine h2 ?_ <;> ((try simp +decide only [b01, b10, b11, am_up, ik, and_true, and_false, true_and, false_and, if_true, if_false, nn_eq] at *) <;> (try simp only [sw_or, sw_all, or_false, and_true, i32_lt, i32_le, i32_eq, i32_addw, i32_subw, i32_mulw, Int32.reduceToInt] at *) <;> omega)) | (exfalso; ((try simp +decide only [b01, b10, b11, am_up, ik, and_true, and_false, true_and, false_and, if_true, if_false, nn_eq] at *) <;> (try simp only [sw_or, sw_all, or_false, and_true, i32_lt, i32_le, i32_eq, i32_addw, i32_subw, i32_mulw, Int32.reduceToInt] at *) <;> omega))
  · skip
    refine r_ri d_FW_local_8 ?_
    first | (refine h1 ?_ <;> ((try simp +decide only [b01, b10, b11, am_up, ik, and_true, and_false, true_and, false_and, if_true, if_false, nn_eq] at *) <;> (try simp only [sw_or, sw_all, or_false, and_true, i32_lt, i32_le, i32_eq, i32_addw, i32_subw, i32_mulw, Int32.reduceToInt] at *) <;> omega)) | (refine h2 ?_ <;> ((try simp +decide only [b01, b10, b11, am_up, ik, and_true, and_false, true_and, false_and, if_true, if_false, nn_eq] at *) <;> (try simp only [sw_or, sw_all, or_false, and_true, i32_lt, i32_le, i32_eq, i32_addw, i32_subw, i32_mulw, Int32.reduceToInt] at *) <;> omega)) | (exfalso; ((try simp +decide only [b01, b10, b11, am_up, ik, and_true, and_false, true_and, false_and, if_true, if_false, nn_eq] at *) <;> (try simp only [sw_or, sw_all, or_false, and_true, i32_lt, i32_le, i32_eq, i32_addw, i32_subw, i32_mulw, Int32.reduceToInt] at *) <;> omega))
theorem sq_MA_showStack {x : Int32} {st : am_S} {f : Int32 → am_S → Prop} (c1 : 0 < st 519 0 → ((st 518 0).toNatClampNeg < 80 ∧ (st 0 (st 518 0).toNatClampNeg).toNatClampNeg < 8) ∧ 0 ≤ (st 2 (st 518 0).toNatClampNeg).toInt ∧ 0 ≤ (st 70 (st 0 (st 518 0).toNatClampNeg).toNatClampNeg).toInt ∧ (st 2 (st 518 0).toNatClampNeg).toInt + (st 70 (st 0 (st 518 0).toNatClampNeg).toNatClampNeg).toInt + (st 3 (st 518 0).toNatClampNeg).toInt ≤ 80) (h1 : 0 < st 519 0 ∧ 0 ≤ x ∧ x < st 3 (st 518 0).toNatClampNeg → f (st 2137 (st 2 (st 518 0).toNatClampNeg + st 70 (st 0 (st 518 0).toNatClampNeg).toNatClampNeg + st 3 (st 518 0).toNatClampNeg - 1 - x).toNatClampNeg) st) (h2 : ¬ (0 < st 519 0 ∧ 0 ≤ x ∧ x < st 3 (st 518 0).toNatClampNeg) → f 0 st) : wp_MA_showStack [.inr (.inl 127), .inl x] st (am_ki f) := by
  refine ⟨⟨rfl, Nat.le_of_ble_eq_true rfl⟩, ?_⟩
  have c1' : ¬ st 519 0 ≤ 0 → _ := fun w => c1 (i32_nle w)
  refine r_al0 (q := 1) d_MA_showStack_0 rfl ?_
  refine gt_MA_frameCount (q := 4) d_MA_showStack_1 rfl rfl ?_
  refine r_zle (tgt := 49) (q := 7) d_MA_showStack_4 rfl rfl (fun e4 => ?_) (fun e4 => ?_)
  · skip
    refine r_ic (v := 0) (q := 50) d_MA_showStack_49 rfl rfl ?_
    refine r_ri d_MA_showStack_50 ?_
    first | (refine h1 ?_ <;> ((try simp +decide only [b01, b10, b11, am_up, ik, and_true, and_false, true_and, false_and, if_true, if_false, nn_eq] at *) <;> (try simp only [sw_or, sw_all, or_false, and_true, i32_lt, i32_le, i32_eq, i32_addw, i32_subw, i32_mulw, Int32.reduceToInt] at *) <;> omega)) | (refine h2 ?_ <;> ((try simp +decide only [b01, b10, b11, am_up, ik, and_true, and_false, true_and, false_and, if_true, if_false, nn_eq] at *) <;> (try simp only [sw_or, sw_all, or_false, and_true, i32_lt, i32_le, i32_eq, i32_addw, i32_subw, i32_mulw, Int32.reduceToInt] at *) <;> omega)) | (exfalso; ((try simp +decide only [b01, b10, b11, am_up, ik, and_true, and_false, true_and, false_and, if_true, if_false, nn_eq] at *) <;> (try simp only [sw_or, sw_all, or_false, and_true, i32_lt, i32_le, i32_eq, i32_addw, i32_subw, i32_mulw, Int32.reduceToInt] at *) <;> omega))
  · skip
    refine r_il1 (q := 8) d_MA_showStack_7 rfl ?_
    refine r_zlt (tgt := 49) (q := 11) d_MA_showStack_8 rfl rfl (fun e8 => ?_) (fun e8 => ?_)
    · skip
      refine r_ic (v := 0) (q := 50) d_MA_showStack_49 rfl rfl ?_
      refine r_ri d_MA_showStack_50 ?_
      first | (refine h1 ?_ <;> ((try simp +decide only [b01, b10, b11, am_up, ik, and_true, and_false, true_and, false_and, if_true, if_false, nn_eq] at *) <;> (try simp only [sw_or, sw_all, or_false, and_true, i32_lt, i32_le, i32_eq, i32_addw, i32_subw, i32_mulw, Int32.reduceToInt] at *) <;> omega)) | (refine h2 ?_ <;> ((try simp +decide only [b01, b10, b11, am_up, ik, and_true, and_false, true_and, false_and, if_true, if_false, nn_eq] at *) <;> (try simp only [sw_or, sw_all, or_false, and_true, i32_lt, i32_le, i32_eq, i32_addw, i32_subw, i32_mulw, Int32.reduceToInt] at *) <;> omega)) | (exfalso; ((try simp +decide only [b01, b10, b11, am_up, ik, and_true, and_false, true_and, false_and, if_true, if_false, nn_eq] at *) <;> (try simp only [sw_or, sw_all, or_false, and_true, i32_lt, i32_le, i32_eq, i32_addw, i32_subw, i32_mulw, Int32.reduceToInt] at *) <;> omega))
    · skip
      refine r_il1 (q := 12) d_MA_showStack_11 rfl ?_
      refine r_al0 (q := 13) d_MA_showStack_12 rfl ?_
      refine gt_MA_latest (q := 16) d_MA_showStack_13 rfl rfl ?_
      refine gt_FR_high (q := 19) d_MA_showStack_16 rfl (by first | exact (c1' e4).1.1 | exact (c1' e4).1.2 | assumption | (refine pc_of hP ?_; (repeat (first | assumption | exact md_refl | refine md_up ?_ rfl | refine md_fill ?_ rfl | (unfold ik; refine md_up ?_ rfl))); done) | (refine pc_oS hP ?_; (repeat (first | assumption | exact md_refl | refine md_up ?_ rfl | refine md_fill ?_ rfl | (unfold ik; refine md_up ?_ rfl))); done) | (refine pm_of hP ?_; (repeat (first | assumption | exact md_refl | refine md_up ?_ rfl | refine md_fill ?_ rfl | (unfold ik; refine md_up ?_ rfl))); done) | omega | decide | ((try simp +decide only [b01, b10, b11, am_up, ik, and_true, and_false, true_and, false_and, if_true, if_false, nn_eq] at *) <;> (try simp only [sw_or, sw_all, or_false, and_true, i32_lt, i32_le, i32_eq, i32_addw, i32_subw, i32_mulw, Int32.reduceToInt] at *) <;> omega) | (apply_assumption; done)) rfl ?_
      refine r_cge (tgt := 49) (q := 22) d_MA_showStack_19 rfl rfl (fun e19 => ?_) (fun e19 => ?_)
      · skip
        refine r_ic (v := 0) (q := 50) d_MA_showStack_49 rfl rfl ?_
        refine r_ri d_MA_showStack_50 ?_
        first | (refine h1 ?_ <;> ((try simp +decide only [b01, b10, b11, am_up, ik, and_true, and_false, true_and, false_and, if_true, if_false, nn_eq] at *) <;> (try simp only [sw_or, sw_all, or_false, and_true, i32_lt, i32_le, i32_eq, i32_addw, i32_subw, i32_mulw, Int32.reduceToInt] at *) <;> omega)) | (refine h2 ?_ <;> ((try simp +decide only [b01, b10, b11, am_up, ik, and_true, and_false, true_and, false_and, if_true, if_false, nn_eq] at *) <;> (try simp only [sw_or, sw_all, or_false, and_true, i32_lt, i32_le, i32_eq, i32_addw, i32_subw, i32_mulw, Int32.reduceToInt] at *) <;> omega)) | (exfalso; ((try simp +decide only [b01, b10, b11, am_up, ik, and_true, and_false, true_and, false_and, if_true, if_false, nn_eq] at *) <;> (try simp only [sw_or, sw_all, or_false, and_true, i32_lt, i32_le, i32_eq, i32_addw, i32_subw, i32_mulw, Int32.reduceToInt] at *) <;> omega))
      · skip
        refine r_al0 (q := 23) d_MA_showStack_22 rfl ?_
        refine gt_MA_cells (q := 26) d_MA_showStack_23 rfl rfl ?_
        refine r_al0 (q := 27) d_MA_showStack_26 rfl ?_
        refine gt_MA_latest (q := 30) d_MA_showStack_27 rfl rfl ?_
        refine r_vi0 mo_FR_firstStackCell d_MA_showStack_30 rfl (r_kF (by first | exact (c1' e4).1.1 | exact (c1' e4).1.2 | assumption | (refine pc_of hP ?_; (repeat (first | assumption | exact md_refl | refine md_up ?_ rfl | refine md_fill ?_ rfl | (unfold ik; refine md_up ?_ rfl))); done) | (refine pc_oS hP ?_; (repeat (first | assumption | exact md_refl | refine md_up ?_ rfl | refine md_fill ?_ rfl | (unfold ik; refine md_up ?_ rfl))); done) | (refine pm_of hP ?_; (repeat (first | assumption | exact md_refl | refine md_up ?_ rfl | refine md_fill ?_ rfl | (unfold ik; refine md_up ?_ rfl))); done) | omega | decide | ((try simp +decide only [b01, b10, b11, am_up, ik, and_true, and_false, true_and, false_and, if_true, if_false, nn_eq] at *) <;> (try simp only [sw_or, sw_all, or_false, and_true, i32_lt, i32_le, i32_eq, i32_addw, i32_subw, i32_mulw, Int32.reduceToInt] at *) <;> omega) | (apply_assumption; done))) rfl (q := 33) rfl ?_
        refine sp_FR_firstStackCell (by first | exact (c1' e4).1.1 | exact (c1' e4).1.2 | assumption | (refine pc_of hP ?_; (repeat (first | assumption | exact md_refl | refine md_up ?_ rfl | refine md_fill ?_ rfl | (unfold ik; refine md_up ?_ rfl))); done) | (refine pc_oS hP ?_; (repeat (first | assumption | exact md_refl | refine md_up ?_ rfl | refine md_fill ?_ rfl | (unfold ik; refine md_up ?_ rfl))); done) | (refine pm_of hP ?_; (repeat (first | assumption | exact md_refl | refine md_up ?_ rfl | refine md_fill ?_ rfl | (unfold ik; refine md_up ?_ rfl))); done) | omega | decide | ((try simp +decide only [b01, b10, b11, am_up, ik, and_true, and_false, true_and, false_and, if_true, if_false, nn_eq] at *) <;> (try simp only [sw_or, sw_all, or_false, and_true, i32_lt, i32_le, i32_eq, i32_addw, i32_subw, i32_mulw, Int32.reduceToInt] at *) <;> omega) | (apply_assumption; done)) (by first | exact (c1' e4).1.1 | exact (c1' e4).1.2 | assumption | (refine pc_of hP ?_; (repeat (first | assumption | exact md_refl | refine md_up ?_ rfl | refine md_fill ?_ rfl | (unfold ik; refine md_up ?_ rfl))); done) | (refine pc_oS hP ?_; (repeat (first | assumption | exact md_refl | refine md_up ?_ rfl | refine md_fill ?_ rfl | (unfold ik; refine md_up ?_ rfl))); done) | (refine pm_of hP ?_; (repeat (first | assumption | exact md_refl | refine md_up ?_ rfl | refine md_fill ?_ rfl | (unfold ik; refine md_up ?_ rfl))); done) | omega | decide | ((try simp +decide only [b01, b10, b11, am_up, ik, and_true, and_false, true_and, false_and, if_true, if_false, nn_eq] at *) <;> (try simp only [sw_or, sw_all, or_false, and_true, i32_lt, i32_le, i32_eq, i32_addw, i32_subw, i32_mulw, Int32.reduceToInt] at *) <;> omega) | (apply_assumption; done)) ?_
        refine r_al0 (q := 34) d_MA_showStack_33 rfl ?_
        refine gt_MA_latest (q := 37) d_MA_showStack_34 rfl rfl ?_
        refine gt_FR_high (q := 40) d_MA_showStack_37 rfl (by first | exact (c1' e4).1.1 | exact (c1' e4).1.2 | assumption | (refine pc_of hP ?_; (repeat (first | assumption | exact md_refl | refine md_up ?_ rfl | refine md_fill ?_ rfl | (unfold ik; refine md_up ?_ rfl))); done) | (refine pc_oS hP ?_; (repeat (first | assumption | exact md_refl | refine md_up ?_ rfl | refine md_fill ?_ rfl | (unfold ik; refine md_up ?_ rfl))); done) | (refine pm_of hP ?_; (repeat (first | assumption | exact md_refl | refine md_up ?_ rfl | refine md_fill ?_ rfl | (unfold ik; refine md_up ?_ rfl))); done) | omega | decide | ((try simp +decide only [b01, b10, b11, am_up, ik, and_true, and_false, true_and, false_and, if_true, if_false, nn_eq] at *) <;> (try simp only [sw_or, sw_all, or_false, and_true, i32_lt, i32_le, i32_eq, i32_addw, i32_subw, i32_mulw, Int32.reduceToInt] at *) <;> omega) | (apply_assumption; done)) rfl ?_
        refine r_iadd (q := 41) d_MA_showStack_40 rfl ?_
        refine r_ic (v := 1) (q := 42) d_MA_showStack_41 rfl rfl ?_
        refine r_isub (q := 43) d_MA_showStack_42 rfl ?_
        refine r_il1 (q := 44) d_MA_showStack_43 rfl ?_
        refine r_isub (q := 45) d_MA_showStack_44 rfl ?_
        refine ld_137 (q := 46) d_MA_showStack_45 ?_ rfl ?_
        · (have w := (c1' e4).2; clear c1 c1' h1 h2; (refine vp_of ?_ ?_ <;> (((try simp +decide only [b01, b10, b11, am_up, ik, and_true, and_false, true_and, false_and, if_true, if_false, nn_eq] at *) <;> (try simp only [sw_or, sw_all, or_false, and_true, i32_lt, i32_le, i32_eq, i32_addw, i32_subw, i32_mulw, Int32.reduceToInt] at *) <;> omega))))
        refine am_go (tgt := 50) d_MA_showStack_46 rfl ?_
        refine r_ri d_MA_showStack_50 ?_
        first | (refine h1 ?_ <;> ((try simp +decide only [b01, b10, b11, am_up, ik, and_true, and_false, true_and, false_and, if_true, if_false, nn_eq] at *) <;> (try simp only [sw_or, sw_all, or_false, and_true, i32_lt, i32_le, i32_eq, i32_addw, i32_subw, i32_mulw, Int32.reduceToInt] at *) <;> omega)) | (refine h2 ?_ <;> ((try simp +decide only [b01, b10, b11, am_up, ik, and_true, and_false, true_and, false_and, if_true, if_false, nn_eq] at *) <;> (try simp only [sw_or, sw_all, or_false, and_true, i32_lt, i32_le, i32_eq, i32_addw, i32_subw, i32_mulw, Int32.reduceToInt] at *) <;> omega)) | (exfalso; ((try simp +decide only [b01, b10, b11, am_up, ik, and_true, and_false, true_and, false_and, if_true, if_false, nn_eq] at *) <;> (try simp only [sw_or, sw_all, or_false, and_true, i32_lt, i32_le, i32_eq, i32_addw, i32_subw, i32_mulw, Int32.reduceToInt] at *) <;> omega))
theorem sq_FW_stack {x : Int32} {st : am_S} {f : Int32 → am_S → Prop} (c1 : 0 < st 519 0 → ((st 518 0).toNatClampNeg < 80 ∧ (st 0 (st 518 0).toNatClampNeg).toNatClampNeg < 8) ∧ 0 ≤ (st 2 (st 518 0).toNatClampNeg).toInt ∧ 0 ≤ (st 70 (st 0 (st 518 0).toNatClampNeg).toNatClampNeg).toInt ∧ (st 2 (st 518 0).toNatClampNeg).toInt + (st 70 (st 0 (st 518 0).toNatClampNeg).toNatClampNeg).toInt + (st 3 (st 518 0).toNatClampNeg).toInt ≤ 80) (h1 : 0 < st 519 0 ∧ 0 ≤ x ∧ x < st 3 (st 518 0).toNatClampNeg → f (st 2137 (st 2 (st 518 0).toNatClampNeg + st 70 (st 0 (st 518 0).toNatClampNeg).toNatClampNeg + st 3 (st 518 0).toNatClampNeg - 1 - x).toNatClampNeg) st) (h2 : ¬ (0 < st 519 0 ∧ 0 ≤ x ∧ x < st 3 (st 518 0).toNatClampNeg) → f 0 st) : wp_FW_stack [.inr (.inl 123), .inl x] st (am_ki f) := by
  refine ⟨⟨rfl, Nat.le_of_ble_eq_true rfl⟩, ?_⟩
  refine r_al0 (q := 1) d_FW_stack_0 rfl ?_
  refine gt_FW_machine (q := 4) d_FW_stack_1 rfl rfl ?_
  refine r_il1 (q := 5) d_FW_stack_4 rfl ?_
  refine r_vi1 mo_MA_showStack d_FW_stack_5 rfl rfl rfl (q := 8) rfl ?_
  refine sq_MA_showStack (by first | assumption | (refine pc_of hP ?_; (repeat (first | assumption | exact md_refl | refine md_up ?_ rfl | refine md_fill ?_ rfl | (unfold ik; refine md_up ?_ rfl))); done) | (refine pc_oS hP ?_; (repeat (first | assumption | exact md_refl | refine md_up ?_ rfl | refine md_fill ?_ rfl | (unfold ik; refine md_up ?_ rfl))); done) | (refine pm_of hP ?_; (repeat (first | assumption | exact md_refl | refine md_up ?_ rfl | refine md_fill ?_ rfl | (unfold ik; refine md_up ?_ rfl))); done) | omega | decide | ((try simp +decide only [b01, b10, b11, am_up, ik, and_true, and_false, true_and, false_and, if_true, if_false, nn_eq] at *) <;> (try simp only [sw_or, sw_all, or_false, and_true, i32_lt, i32_le, i32_eq, i32_addw, i32_subw, i32_mulw, Int32.reduceToInt] at *) <;> omega) | (apply_assumption; done)) (fun e5 => ?_) (fun e5 => ?_)
  · skip
    refine r_ri d_FW_stack_8 ?_
    first | (refine h1 ?_ <;> ((try simp +decide only [b01, b10, b11, am_up, ik, and_true, and_false, true_and, false_and, if_true, if_false, nn_eq] at *) <;> (try simp only [sw_or, sw_all, or_false, and_true, i32_lt, i32_le, i32_eq, i32_addw, i32_subw, i32_mulw, Int32.reduceToInt] at *) <;> omega)) | (refine h2 ?_ <;> ((try simp +decide only [b01, b10, b11, am_up, ik, and_true, and_false, true_and, false_and, if_true, if_false, nn_eq] at *) <;> (try simp only [sw_or, sw_all, or_false, and_true, i32_lt, i32_le, i32_eq, i32_addw, i32_subw, i32_mulw, Int32.reduceToInt] at *) <;> omega)) | (exfalso; ((try simp +decide only [b01, b10, b11, am_up, ik, and_true, and_false, true_and, false_and, if_true, if_false, nn_eq] at *) <;> (try simp only [sw_or, sw_all, or_false, and_true, i32_lt, i32_le, i32_eq, i32_addw, i32_subw, i32_mulw, Int32.reduceToInt] at *) <;> omega))
  · skip
    refine r_ri d_FW_stack_8 ?_
    first | (refine h1 ?_ <;> ((try simp +decide only [b01, b10, b11, am_up, ik, and_true, and_false, true_and, false_and, if_true, if_false, nn_eq] at *) <;> (try simp only [sw_or, sw_all, or_false, and_true, i32_lt, i32_le, i32_eq, i32_addw, i32_subw, i32_mulw, Int32.reduceToInt] at *) <;> omega)) | (refine h2 ?_ <;> ((try simp +decide only [b01, b10, b11, am_up, ik, and_true, and_false, true_and, false_and, if_true, if_false, nn_eq] at *) <;> (try simp only [sw_or, sw_all, or_false, and_true, i32_lt, i32_le, i32_eq, i32_addw, i32_subw, i32_mulw, Int32.reduceToInt] at *) <;> omega)) | (exfalso; ((try simp +decide only [b01, b10, b11, am_up, ik, and_true, and_false, true_and, false_and, if_true, if_false, nn_eq] at *) <;> (try simp only [sw_or, sw_all, or_false, and_true, i32_lt, i32_le, i32_eq, i32_addw, i32_subw, i32_mulw, Int32.reduceToInt] at *) <;> omega))
theorem sq_FW_frame {x w : Int32} {st : am_S} {f : Int32 → am_S → Prop} (c1 : 0 ≤ (st 519 0).toInt) (c2 : (st 519 0).toInt ≤ 80) (c3 : 0 ≤ x ∧ x < st 519 0 → (st 0 (st 519 0 - 1 - x).toNatClampNeg).toNatClampNeg < 8) (h1 : ¬ (0 ≤ x ∧ x < st 519 0) ∨ ¬ (0 ≤ w ∧ w ≤ 2) → f (-1) st) (h2 : (0 ≤ x ∧ x < st 519 0) ∧ w = 0 → f (nI (st 0 (st 519 0 - 1 - x).toNatClampNeg).toNatClampNeg) st) (h3 : (0 ≤ x ∧ x < st 519 0) ∧ w = 1 → f (st 1 (st 519 0 - 1 - x).toNatClampNeg) st) (h4 : (0 ≤ x ∧ x < st 519 0) ∧ w = 2 → f (st 3 (st 519 0 - 1 - x).toNatClampNeg) st) : wp_FW_frame [.inr (.inl 123), .inl x, .inl w] st (am_ki f) := by
  refine ⟨⟨rfl, Nat.le_of_ble_eq_true rfl⟩, ?_⟩
  have c3' : ¬ x < 0 → x < st 519 0 → _ := fun w w' => c3 ⟨i32_nlt w, w'⟩
  refine r_il1 (q := 1) d_FW_frame_0 rfl ?_
  refine r_zlt (tgt := 15) (q := 4) d_FW_frame_1 rfl rfl (fun e1 => ?_) (fun e1 => ?_)
  · skip
    refine r_ic (v := -1) (q := 16) d_FW_frame_15 rfl rfl ?_
    refine r_ri d_FW_frame_16 ?_
    first | (refine h1 ?_ <;> ((try simp +decide only [b01, b10, b11, am_up, ik, and_true, and_false, true_and, false_and, if_true, if_false, nn_eq] at *) <;> (try simp only [sw_or, sw_all, or_false, and_true, i32_lt, i32_le, i32_eq, i32_addw, i32_subw, i32_mulw, Int32.reduceToInt] at *) <;> omega)) | (refine h2 ?_ <;> ((try simp +decide only [b01, b10, b11, am_up, ik, and_true, and_false, true_and, false_and, if_true, if_false, nn_eq] at *) <;> (try simp only [sw_or, sw_all, or_false, and_true, i32_lt, i32_le, i32_eq, i32_addw, i32_subw, i32_mulw, Int32.reduceToInt] at *) <;> omega)) | (refine h3 ?_ <;> ((try simp +decide only [b01, b10, b11, am_up, ik, and_true, and_false, true_and, false_and, if_true, if_false, nn_eq] at *) <;> (try simp only [sw_or, sw_all, or_false, and_true, i32_lt, i32_le, i32_eq, i32_addw, i32_subw, i32_mulw, Int32.reduceToInt] at *) <;> omega)) | (refine h4 ?_ <;> ((try simp +decide only [b01, b10, b11, am_up, ik, and_true, and_false, true_and, false_and, if_true, if_false, nn_eq] at *) <;> (try simp only [sw_or, sw_all, or_false, and_true, i32_lt, i32_le, i32_eq, i32_addw, i32_subw, i32_mulw, Int32.reduceToInt] at *) <;> omega)) | (exfalso; ((try simp +decide only [b01, b10, b11, am_up, ik, and_true, and_false, true_and, false_and, if_true, if_false, nn_eq] at *) <;> (try simp only [sw_or, sw_all, or_false, and_true, i32_lt, i32_le, i32_eq, i32_addw, i32_subw, i32_mulw, Int32.reduceToInt] at *) <;> omega))
  · skip
    refine r_il1 (q := 5) d_FW_frame_4 rfl ?_
    refine r_al0 (q := 6) d_FW_frame_5 rfl ?_
    refine gt_FW_machine (q := 9) d_FW_frame_6 rfl rfl ?_
    refine gt_MA_frameCount (q := 12) d_FW_frame_9 rfl rfl ?_
    refine r_clt (tgt := 17) (q := 15) d_FW_frame_12 rfl rfl (fun e12 => ?_) (fun e12 => ?_)
    · skip
      refine r_al0 (q := 18) d_FW_frame_17 rfl ?_
      refine gt_FW_machine (q := 21) d_FW_frame_18 rfl rfl ?_
      refine r_il1 (q := 22) d_FW_frame_21 rfl ?_
      refine r_vr1 mo_MA_frameBelow d_FW_frame_22 rfl rfl rfl (q := 25) rfl ?_
      refine sp_MA_frameBelow (by first | exact c3' e1 e12 | assumption | (refine pc_of hP ?_; (repeat (first | assumption | exact md_refl | refine md_up ?_ rfl | refine md_fill ?_ rfl | (unfold ik; refine md_up ?_ rfl))); done) | (refine pc_oS hP ?_; (repeat (first | assumption | exact md_refl | refine md_up ?_ rfl | refine md_fill ?_ rfl | (unfold ik; refine md_up ?_ rfl))); done) | (refine pm_of hP ?_; (repeat (first | assumption | exact md_refl | refine md_up ?_ rfl | refine md_fill ?_ rfl | (unfold ik; refine md_up ?_ rfl))); done) | omega | decide | ((try simp +decide only [b01, b10, b11, am_up, ik, and_true, and_false, true_and, false_and, if_true, if_false, nn_eq] at *) <;> (try simp only [sw_or, sw_all, or_false, and_true, i32_lt, i32_le, i32_eq, i32_addw, i32_subw, i32_mulw, Int32.reduceToInt] at *) <;> omega) | (apply_assumption; done)) (by first | exact c3' e1 e12 | assumption | (refine pc_of hP ?_; (repeat (first | assumption | exact md_refl | refine md_up ?_ rfl | refine md_fill ?_ rfl | (unfold ik; refine md_up ?_ rfl))); done) | (refine pc_oS hP ?_; (repeat (first | assumption | exact md_refl | refine md_up ?_ rfl | refine md_fill ?_ rfl | (unfold ik; refine md_up ?_ rfl))); done) | (refine pm_of hP ?_; (repeat (first | assumption | exact md_refl | refine md_up ?_ rfl | refine md_fill ?_ rfl | (unfold ik; refine md_up ?_ rfl))); done) | omega | decide | ((try simp +decide only [b01, b10, b11, am_up, ik, and_true, and_false, true_and, false_and, if_true, if_false, nn_eq] at *) <;> (try simp only [sw_or, sw_all, or_false, and_true, i32_lt, i32_le, i32_eq, i32_addw, i32_subw, i32_mulw, Int32.reduceToInt] at *) <;> omega) | (apply_assumption; done)) (by first | exact c3' e1 e12 | assumption | (refine pc_of hP ?_; (repeat (first | assumption | exact md_refl | refine md_up ?_ rfl | refine md_fill ?_ rfl | (unfold ik; refine md_up ?_ rfl))); done) | (refine pc_oS hP ?_; (repeat (first | assumption | exact md_refl | refine md_up ?_ rfl | refine md_fill ?_ rfl | (unfold ik; refine md_up ?_ rfl))); done) | (refine pm_of hP ?_; (repeat (first | assumption | exact md_refl | refine md_up ?_ rfl | refine md_fill ?_ rfl | (unfold ik; refine md_up ?_ rfl))); done) | omega | decide | ((try simp +decide only [b01, b10, b11, am_up, ik, and_true, and_false, true_and, false_and, if_true, if_false, nn_eq] at *) <;> (try simp only [sw_or, sw_all, or_false, and_true, i32_lt, i32_le, i32_eq, i32_addw, i32_subw, i32_mulw, Int32.reduceToInt] at *) <;> omega) | (apply_assumption; done)) ?_
      refine r_as3 (q := 26) d_FW_frame_25 rfl ?_
      refine r_il2 (q := 27) d_FW_frame_26 rfl ?_
      refine r_tsw [([0], 52), ([1], 60), ([2], 65)] (tgt := 70) d_FW_frame_27 (by decide +kernel) (And.intro (fun e27 => ?_) (And.intro (fun e27 => ?_) (And.intro (fun e27 => ?_) trivial))) (fun e27 => ?_)
      · skip
        refine r_al3 (q := 53) d_FW_frame_52 rfl ?_
        refine gt_FR_body (q := 56) d_FW_frame_53 rfl (by first | exact c3' e1 e12 | assumption | (refine pc_of hP ?_; (repeat (first | assumption | exact md_refl | refine md_up ?_ rfl | refine md_fill ?_ rfl | (unfold ik; refine md_up ?_ rfl))); done) | (refine pc_oS hP ?_; (repeat (first | assumption | exact md_refl | refine md_up ?_ rfl | refine md_fill ?_ rfl | (unfold ik; refine md_up ?_ rfl))); done) | (refine pm_of hP ?_; (repeat (first | assumption | exact md_refl | refine md_up ?_ rfl | refine md_fill ?_ rfl | (unfold ik; refine md_up ?_ rfl))); done) | omega | decide | ((try simp +decide only [b01, b10, b11, am_up, ik, and_true, and_false, true_and, false_and, if_true, if_false, nn_eq] at *) <;> (try simp only [sw_or, sw_all, or_false, and_true, i32_lt, i32_le, i32_eq, i32_addw, i32_subw, i32_mulw, Int32.reduceToInt] at *) <;> omega) | (apply_assumption; done)) rfl ?_
        refine gt_ME_number (q := 59) d_FW_frame_56 rfl (by first | exact c3' e1 e12 | assumption | (refine pc_of hP ?_; (repeat (first | assumption | exact md_refl | refine md_up ?_ rfl | refine md_fill ?_ rfl | (unfold ik; refine md_up ?_ rfl))); done) | (refine pc_oS hP ?_; (repeat (first | assumption | exact md_refl | refine md_up ?_ rfl | refine md_fill ?_ rfl | (unfold ik; refine md_up ?_ rfl))); done) | (refine pm_of hP ?_; (repeat (first | assumption | exact md_refl | refine md_up ?_ rfl | refine md_fill ?_ rfl | (unfold ik; refine md_up ?_ rfl))); done) | omega | decide | ((try simp +decide only [b01, b10, b11, am_up, ik, and_true, and_false, true_and, false_and, if_true, if_false, nn_eq] at *) <;> (try simp only [sw_or, sw_all, or_false, and_true, i32_lt, i32_le, i32_eq, i32_addw, i32_subw, i32_mulw, Int32.reduceToInt] at *) <;> omega) | (apply_assumption; done)) rfl ?_
        refine r_ri d_FW_frame_59 ?_
        first | (refine h1 ?_ <;> ((try simp +decide only [b01, b10, b11, am_up, ik, and_true, and_false, true_and, false_and, if_true, if_false, nn_eq] at *) <;> (try simp only [sw_or, sw_all, or_false, and_true, i32_lt, i32_le, i32_eq, i32_addw, i32_subw, i32_mulw, Int32.reduceToInt] at *) <;> omega)) | (refine h2 ?_ <;> ((try simp +decide only [b01, b10, b11, am_up, ik, and_true, and_false, true_and, false_and, if_true, if_false, nn_eq] at *) <;> (try simp only [sw_or, sw_all, or_false, and_true, i32_lt, i32_le, i32_eq, i32_addw, i32_subw, i32_mulw, Int32.reduceToInt] at *) <;> omega)) | (refine h3 ?_ <;> ((try simp +decide only [b01, b10, b11, am_up, ik, and_true, and_false, true_and, false_and, if_true, if_false, nn_eq] at *) <;> (try simp only [sw_or, sw_all, or_false, and_true, i32_lt, i32_le, i32_eq, i32_addw, i32_subw, i32_mulw, Int32.reduceToInt] at *) <;> omega)) | (refine h4 ?_ <;> ((try simp +decide only [b01, b10, b11, am_up, ik, and_true, and_false, true_and, false_and, if_true, if_false, nn_eq] at *) <;> (try simp only [sw_or, sw_all, or_false, and_true, i32_lt, i32_le, i32_eq, i32_addw, i32_subw, i32_mulw, Int32.reduceToInt] at *) <;> omega)) | (exfalso; ((try simp +decide only [b01, b10, b11, am_up, ik, and_true, and_false, true_and, false_and, if_true, if_false, nn_eq] at *) <;> (try simp only [sw_or, sw_all, or_false, and_true, i32_lt, i32_le, i32_eq, i32_addw, i32_subw, i32_mulw, Int32.reduceToInt] at *) <;> omega))
      · skip
        refine r_al3 (q := 61) d_FW_frame_60 rfl ?_
        refine gt_FR_place (q := 64) d_FW_frame_61 rfl (by first | exact c3' e1 e12 | assumption | (refine pc_of hP ?_; (repeat (first | assumption | exact md_refl | refine md_up ?_ rfl | refine md_fill ?_ rfl | (unfold ik; refine md_up ?_ rfl))); done) | (refine pc_oS hP ?_; (repeat (first | assumption | exact md_refl | refine md_up ?_ rfl | refine md_fill ?_ rfl | (unfold ik; refine md_up ?_ rfl))); done) | (refine pm_of hP ?_; (repeat (first | assumption | exact md_refl | refine md_up ?_ rfl | refine md_fill ?_ rfl | (unfold ik; refine md_up ?_ rfl))); done) | omega | decide | ((try simp +decide only [b01, b10, b11, am_up, ik, and_true, and_false, true_and, false_and, if_true, if_false, nn_eq] at *) <;> (try simp only [sw_or, sw_all, or_false, and_true, i32_lt, i32_le, i32_eq, i32_addw, i32_subw, i32_mulw, Int32.reduceToInt] at *) <;> omega) | (apply_assumption; done)) rfl ?_
        refine r_ri d_FW_frame_64 ?_
        first | (refine h1 ?_ <;> ((try simp +decide only [b01, b10, b11, am_up, ik, and_true, and_false, true_and, false_and, if_true, if_false, nn_eq] at *) <;> (try simp only [sw_or, sw_all, or_false, and_true, i32_lt, i32_le, i32_eq, i32_addw, i32_subw, i32_mulw, Int32.reduceToInt] at *) <;> omega)) | (refine h2 ?_ <;> ((try simp +decide only [b01, b10, b11, am_up, ik, and_true, and_false, true_and, false_and, if_true, if_false, nn_eq] at *) <;> (try simp only [sw_or, sw_all, or_false, and_true, i32_lt, i32_le, i32_eq, i32_addw, i32_subw, i32_mulw, Int32.reduceToInt] at *) <;> omega)) | (refine h3 ?_ <;> ((try simp +decide only [b01, b10, b11, am_up, ik, and_true, and_false, true_and, false_and, if_true, if_false, nn_eq] at *) <;> (try simp only [sw_or, sw_all, or_false, and_true, i32_lt, i32_le, i32_eq, i32_addw, i32_subw, i32_mulw, Int32.reduceToInt] at *) <;> omega)) | (refine h4 ?_ <;> ((try simp +decide only [b01, b10, b11, am_up, ik, and_true, and_false, true_and, false_and, if_true, if_false, nn_eq] at *) <;> (try simp only [sw_or, sw_all, or_false, and_true, i32_lt, i32_le, i32_eq, i32_addw, i32_subw, i32_mulw, Int32.reduceToInt] at *) <;> omega)) | (exfalso; ((try simp +decide only [b01, b10, b11, am_up, ik, and_true, and_false, true_and, false_and, if_true, if_false, nn_eq] at *) <;> (try simp only [sw_or, sw_all, or_false, and_true, i32_lt, i32_le, i32_eq, i32_addw, i32_subw, i32_mulw, Int32.reduceToInt] at *) <;> omega))
      · skip
        refine r_al3 (q := 66) d_FW_frame_65 rfl ?_
        refine gt_FR_high (q := 69) d_FW_frame_66 rfl (by first | exact c3' e1 e12 | assumption | (refine pc_of hP ?_; (repeat (first | assumption | exact md_refl | refine md_up ?_ rfl | refine md_fill ?_ rfl | (unfold ik; refine md_up ?_ rfl))); done) | (refine pc_oS hP ?_; (repeat (first | assumption | exact md_refl | refine md_up ?_ rfl | refine md_fill ?_ rfl | (unfold ik; refine md_up ?_ rfl))); done) | (refine pm_of hP ?_; (repeat (first | assumption | exact md_refl | refine md_up ?_ rfl | refine md_fill ?_ rfl | (unfold ik; refine md_up ?_ rfl))); done) | omega | decide | ((try simp +decide only [b01, b10, b11, am_up, ik, and_true, and_false, true_and, false_and, if_true, if_false, nn_eq] at *) <;> (try simp only [sw_or, sw_all, or_false, and_true, i32_lt, i32_le, i32_eq, i32_addw, i32_subw, i32_mulw, Int32.reduceToInt] at *) <;> omega) | (apply_assumption; done)) rfl ?_
        refine r_ri d_FW_frame_69 ?_
        first | (refine h1 ?_ <;> ((try simp +decide only [b01, b10, b11, am_up, ik, and_true, and_false, true_and, false_and, if_true, if_false, nn_eq] at *) <;> (try simp only [sw_or, sw_all, or_false, and_true, i32_lt, i32_le, i32_eq, i32_addw, i32_subw, i32_mulw, Int32.reduceToInt] at *) <;> omega)) | (refine h2 ?_ <;> ((try simp +decide only [b01, b10, b11, am_up, ik, and_true, and_false, true_and, false_and, if_true, if_false, nn_eq] at *) <;> (try simp only [sw_or, sw_all, or_false, and_true, i32_lt, i32_le, i32_eq, i32_addw, i32_subw, i32_mulw, Int32.reduceToInt] at *) <;> omega)) | (refine h3 ?_ <;> ((try simp +decide only [b01, b10, b11, am_up, ik, and_true, and_false, true_and, false_and, if_true, if_false, nn_eq] at *) <;> (try simp only [sw_or, sw_all, or_false, and_true, i32_lt, i32_le, i32_eq, i32_addw, i32_subw, i32_mulw, Int32.reduceToInt] at *) <;> omega)) | (refine h4 ?_ <;> ((try simp +decide only [b01, b10, b11, am_up, ik, and_true, and_false, true_and, false_and, if_true, if_false, nn_eq] at *) <;> (try simp only [sw_or, sw_all, or_false, and_true, i32_lt, i32_le, i32_eq, i32_addw, i32_subw, i32_mulw, Int32.reduceToInt] at *) <;> omega)) | (exfalso; ((try simp +decide only [b01, b10, b11, am_up, ik, and_true, and_false, true_and, false_and, if_true, if_false, nn_eq] at *) <;> (try simp only [sw_or, sw_all, or_false, and_true, i32_lt, i32_le, i32_eq, i32_addw, i32_subw, i32_mulw, Int32.reduceToInt] at *) <;> omega))
      · skip
        refine r_ic (v := -1) (q := 71) d_FW_frame_70 rfl rfl ?_
        refine r_ri d_FW_frame_71 ?_
        first | (refine h1 ?_ <;> ((try simp +decide only [b01, b10, b11, am_up, ik, and_true, and_false, true_and, false_and, if_true, if_false, nn_eq] at *) <;> (try simp only [sw_or, sw_all, or_false, and_true, i32_lt, i32_le, i32_eq, i32_addw, i32_subw, i32_mulw, Int32.reduceToInt] at *) <;> omega)) | (refine h2 ?_ <;> ((try simp +decide only [b01, b10, b11, am_up, ik, and_true, and_false, true_and, false_and, if_true, if_false, nn_eq] at *) <;> (try simp only [sw_or, sw_all, or_false, and_true, i32_lt, i32_le, i32_eq, i32_addw, i32_subw, i32_mulw, Int32.reduceToInt] at *) <;> omega)) | (refine h3 ?_ <;> ((try simp +decide only [b01, b10, b11, am_up, ik, and_true, and_false, true_and, false_and, if_true, if_false, nn_eq] at *) <;> (try simp only [sw_or, sw_all, or_false, and_true, i32_lt, i32_le, i32_eq, i32_addw, i32_subw, i32_mulw, Int32.reduceToInt] at *) <;> omega)) | (refine h4 ?_ <;> ((try simp +decide only [b01, b10, b11, am_up, ik, and_true, and_false, true_and, false_and, if_true, if_false, nn_eq] at *) <;> (try simp only [sw_or, sw_all, or_false, and_true, i32_lt, i32_le, i32_eq, i32_addw, i32_subw, i32_mulw, Int32.reduceToInt] at *) <;> omega)) | (exfalso; ((try simp +decide only [b01, b10, b11, am_up, ik, and_true, and_false, true_and, false_and, if_true, if_false, nn_eq] at *) <;> (try simp only [sw_or, sw_all, or_false, and_true, i32_lt, i32_le, i32_eq, i32_addw, i32_subw, i32_mulw, Int32.reduceToInt] at *) <;> omega))
    · skip
      refine r_ic (v := -1) (q := 16) d_FW_frame_15 rfl rfl ?_
      refine r_ri d_FW_frame_16 ?_
      first | (refine h1 ?_ <;> ((try simp +decide only [b01, b10, b11, am_up, ik, and_true, and_false, true_and, false_and, if_true, if_false, nn_eq] at *) <;> (try simp only [sw_or, sw_all, or_false, and_true, i32_lt, i32_le, i32_eq, i32_addw, i32_subw, i32_mulw, Int32.reduceToInt] at *) <;> omega)) | (refine h2 ?_ <;> ((try simp +decide only [b01, b10, b11, am_up, ik, and_true, and_false, true_and, false_and, if_true, if_false, nn_eq] at *) <;> (try simp only [sw_or, sw_all, or_false, and_true, i32_lt, i32_le, i32_eq, i32_addw, i32_subw, i32_mulw, Int32.reduceToInt] at *) <;> omega)) | (refine h3 ?_ <;> ((try simp +decide only [b01, b10, b11, am_up, ik, and_true, and_false, true_and, false_and, if_true, if_false, nn_eq] at *) <;> (try simp only [sw_or, sw_all, or_false, and_true, i32_lt, i32_le, i32_eq, i32_addw, i32_subw, i32_mulw, Int32.reduceToInt] at *) <;> omega)) | (refine h4 ?_ <;> ((try simp +decide only [b01, b10, b11, am_up, ik, and_true, and_false, true_and, false_and, if_true, if_false, nn_eq] at *) <;> (try simp only [sw_or, sw_all, or_false, and_true, i32_lt, i32_le, i32_eq, i32_addw, i32_subw, i32_mulw, Int32.reduceToInt] at *) <;> omega)) | (exfalso; ((try simp +decide only [b01, b10, b11, am_up, ik, and_true, and_false, true_and, false_and, if_true, if_false, nn_eq] at *) <;> (try simp only [sw_or, sw_all, or_false, and_true, i32_lt, i32_le, i32_eq, i32_addw, i32_subw, i32_mulw, Int32.reduceToInt] at *) <;> omega))
theorem lb_12 {L : Nat} {xs : Nat → Int32} {K : Int32 → am_S → Prop} {i : Int32} {a b : Option am_V} {st : am_S} (i0 : 0 ≤ i.toInt) (i6 : i.toInt + 6 ≤ (L : Int)) (iL : L ≤ 3072) (c1 : 0 ≤ (st 519 0).toInt) (c2 : (st 519 0).toInt ≤ 80) (c3 : 0 ≤ (xs (i + 1).toNatClampNeg) ∧ (xs (i + 1).toNatClampNeg) < st 519 0 → (st 0 (st 519 0 - 1 - (xs (i + 1).toNatClampNeg)).toNatClampNeg).toNatClampNeg < 8) (d1 : 0 ≤ (st 610 0).toInt) (d2 : (st 610 0).toInt ≤ 80) (c6 : (0 ≤ (xs (i + 1).toNatClampNeg) ∧ (xs (i + 1).toNatClampNeg) < st 519 0) ↔ (st 603 0 = 1 ∧ 0 ≤ (xs (i + 1).toNatClampNeg) ∧ (xs (i + 1).toNatClampNeg) < st 610 0)) (c7 : (0 ≤ (xs (i + 1).toNatClampNeg) ∧ (xs (i + 1).toNatClampNeg) < st 519 0) → nI (st 0 (st 519 0 - 1 - (xs (i + 1).toNatClampNeg)).toNatClampNeg).toNatClampNeg = st 2163 (st 610 0 - 1 - (xs (i + 1).toNatClampNeg)).toNatClampNeg) (c8 : (0 ≤ (xs (i + 1).toNatClampNeg) ∧ (xs (i + 1).toNatClampNeg) < st 519 0) → st 1 (st 519 0 - 1 - (xs (i + 1).toNatClampNeg)).toNatClampNeg = st 2164 (st 610 0 - 1 - (xs (i + 1).toNatClampNeg)).toNatClampNeg) (c9 : (0 ≤ (xs (i + 1).toNatClampNeg) ∧ (xs (i + 1).toNatClampNeg) < st 519 0) → st 3 (st 519 0 - 1 - (xs (i + 1).toNatClampNeg)).toNatClampNeg = st 2165 (st 610 0 - 1 - (xs (i + 1).toNatClampNeg)).toNatClampNeg) (h : K i (am_up st 576 0 0)) : am_AW code (g_law L xs (lw_P1 L xs K)) lw_k 616 (lw_lv i a b) [] st := by
  refine r_al1 (q := 617) d_law_616 rfl ?_
  refine r_al0 (q := 618) d_law_617 rfl ?_
  refine r_il4 (q := 620) d_law_618 rfl ?_
  refine r_ic (v := 1) (q := 621) d_law_620 rfl rfl ?_
  refine r_iadd (q := 622) d_law_621 rfl ?_
  refine am_sl (q := 623) d_law_622 rfl ?_ rfl ?_
  · (refine vp_of ?_ ?_ <;> (((try simp +decide only [b01, b10, b11, am_up, ik, and_true, and_false, true_and, false_and, if_true, if_false, nn_eq] at *) <;> (try simp only [sw_or, sw_all, or_false, and_true, i32_lt, i32_le, i32_eq, i32_addw, i32_subw, i32_mulw, Int32.reduceToInt] at *) <;> omega)))
  refine r_al0 (q := 624) d_law_623 rfl ?_
  refine r_il4 (q := 626) d_law_624 rfl ?_
  refine r_ic (v := 2) (q := 627) d_law_626 rfl rfl ?_
  refine r_iadd (q := 628) d_law_627 rfl ?_
  refine am_sl (q := 629) d_law_628 rfl ?_ rfl ?_
  · (refine vp_of ?_ ?_ <;> (((try simp +decide only [b01, b10, b11, am_up, ik, and_true, and_false, true_and, false_and, if_true, if_false, nn_eq] at *) <;> (try simp only [sw_or, sw_all, or_false, and_true, i32_lt, i32_le, i32_eq, i32_addw, i32_subw, i32_mulw, Int32.reduceToInt] at *) <;> omega)))
  refine r_vi2 mo_FW_frame d_law_629 rfl rfl rfl (q := 632) rfl ?_
  refine sq_FW_frame (by first | assumption | (refine pc_of hP ?_; (repeat (first | assumption | exact md_refl | refine md_up ?_ rfl | refine md_fill ?_ rfl | (unfold ik; refine md_up ?_ rfl))); done) | (refine pc_oS hP ?_; (repeat (first | assumption | exact md_refl | refine md_up ?_ rfl | refine md_fill ?_ rfl | (unfold ik; refine md_up ?_ rfl))); done) | (refine pm_of hP ?_; (repeat (first | assumption | exact md_refl | refine md_up ?_ rfl | refine md_fill ?_ rfl | (unfold ik; refine md_up ?_ rfl))); done) | omega | decide | ((try simp +decide only [b01, b10, b11, am_up, ik, and_true, and_false, true_and, false_and, if_true, if_false, nn_eq] at *) <;> (try simp only [sw_or, sw_all, or_false, and_true, i32_lt, i32_le, i32_eq, i32_addw, i32_subw, i32_mulw, Int32.reduceToInt] at *) <;> omega) | (apply_assumption; done)) (by first | assumption | (refine pc_of hP ?_; (repeat (first | assumption | exact md_refl | refine md_up ?_ rfl | refine md_fill ?_ rfl | (unfold ik; refine md_up ?_ rfl))); done) | (refine pc_oS hP ?_; (repeat (first | assumption | exact md_refl | refine md_up ?_ rfl | refine md_fill ?_ rfl | (unfold ik; refine md_up ?_ rfl))); done) | (refine pm_of hP ?_; (repeat (first | assumption | exact md_refl | refine md_up ?_ rfl | refine md_fill ?_ rfl | (unfold ik; refine md_up ?_ rfl))); done) | omega | decide | ((try simp +decide only [b01, b10, b11, am_up, ik, and_true, and_false, true_and, false_and, if_true, if_false, nn_eq] at *) <;> (try simp only [sw_or, sw_all, or_false, and_true, i32_lt, i32_le, i32_eq, i32_addw, i32_subw, i32_mulw, Int32.reduceToInt] at *) <;> omega) | (apply_assumption; done)) (by first | assumption | (refine pc_of hP ?_; (repeat (first | assumption | exact md_refl | refine md_up ?_ rfl | refine md_fill ?_ rfl | (unfold ik; refine md_up ?_ rfl))); done) | (refine pc_oS hP ?_; (repeat (first | assumption | exact md_refl | refine md_up ?_ rfl | refine md_fill ?_ rfl | (unfold ik; refine md_up ?_ rfl))); done) | (refine pm_of hP ?_; (repeat (first | assumption | exact md_refl | refine md_up ?_ rfl | refine md_fill ?_ rfl | (unfold ik; refine md_up ?_ rfl))); done) | omega | decide | ((try simp +decide only [b01, b10, b11, am_up, ik, and_true, and_false, true_and, false_and, if_true, if_false, nn_eq] at *) <;> (try simp only [sw_or, sw_all, or_false, and_true, i32_lt, i32_le, i32_eq, i32_addw, i32_subw, i32_mulw, Int32.reduceToInt] at *) <;> omega) | (apply_assumption; done)) (fun e629 => ?_) (fun e629 => ?_) (fun e629 => ?_) (fun e629 => ?_)
  · skip
    refine r_al2 (q := 633) d_law_632 rfl ?_
    refine r_al0 (q := 634) d_law_633 rfl ?_
    refine r_il4 (q := 636) d_law_634 rfl ?_
    refine r_ic (v := 1) (q := 637) d_law_636 rfl rfl ?_
    refine r_iadd (q := 638) d_law_637 rfl ?_
    refine am_sl (q := 639) d_law_638 rfl ?_ rfl ?_
    · (refine vp_of ?_ ?_ <;> (((try simp +decide only [b01, b10, b11, am_up, ik, and_true, and_false, true_and, false_and, if_true, if_false, nn_eq] at *) <;> (try simp only [sw_or, sw_all, or_false, and_true, i32_lt, i32_le, i32_eq, i32_addw, i32_subw, i32_mulw, Int32.reduceToInt] at *) <;> omega)))
    refine r_al0 (q := 640) d_law_639 rfl ?_
    refine r_il4 (q := 642) d_law_640 rfl ?_
    refine r_ic (v := 2) (q := 643) d_law_642 rfl rfl ?_
    refine r_iadd (q := 644) d_law_643 rfl ?_
    refine am_sl (q := 645) d_law_644 rfl ?_ rfl ?_
    · (refine vp_of ?_ ?_ <;> (((try simp +decide only [b01, b10, b11, am_up, ik, and_true, and_false, true_and, false_and, if_true, if_false, nn_eq] at *) <;> (try simp only [sw_or, sw_all, or_false, and_true, i32_lt, i32_le, i32_eq, i32_addw, i32_subw, i32_mulw, Int32.reduceToInt] at *) <;> omega)))
    refine r_vi2 mo_MO_frame d_law_645 rfl rfl rfl (q := 648) rfl ?_
    refine sp_MO_frame (by first | assumption | (refine pc_of hP ?_; (repeat (first | assumption | exact md_refl | refine md_up ?_ rfl | refine md_fill ?_ rfl | (unfold ik; refine md_up ?_ rfl))); done) | (refine pc_oS hP ?_; (repeat (first | assumption | exact md_refl | refine md_up ?_ rfl | refine md_fill ?_ rfl | (unfold ik; refine md_up ?_ rfl))); done) | (refine pm_of hP ?_; (repeat (first | assumption | exact md_refl | refine md_up ?_ rfl | refine md_fill ?_ rfl | (unfold ik; refine md_up ?_ rfl))); done) | omega | decide | ((try simp +decide only [b01, b10, b11, am_up, ik, and_true, and_false, true_and, false_and, if_true, if_false, nn_eq] at *) <;> (try simp only [sw_or, sw_all, or_false, and_true, i32_lt, i32_le, i32_eq, i32_addw, i32_subw, i32_mulw, Int32.reduceToInt] at *) <;> omega) | (apply_assumption; done)) (by first | assumption | (refine pc_of hP ?_; (repeat (first | assumption | exact md_refl | refine md_up ?_ rfl | refine md_fill ?_ rfl | (unfold ik; refine md_up ?_ rfl))); done) | (refine pc_oS hP ?_; (repeat (first | assumption | exact md_refl | refine md_up ?_ rfl | refine md_fill ?_ rfl | (unfold ik; refine md_up ?_ rfl))); done) | (refine pm_of hP ?_; (repeat (first | assumption | exact md_refl | refine md_up ?_ rfl | refine md_fill ?_ rfl | (unfold ik; refine md_up ?_ rfl))); done) | omega | decide | ((try simp +decide only [b01, b10, b11, am_up, ik, and_true, and_false, true_and, false_and, if_true, if_false, nn_eq] at *) <;> (try simp only [sw_or, sw_all, or_false, and_true, i32_lt, i32_le, i32_eq, i32_addw, i32_subw, i32_mulw, Int32.reduceToInt] at *) <;> omega) | (apply_assumption; done)) (fun e645 => ?_) (fun e645 => ?_) (fun e645 => ?_) (fun e645 => ?_)
    · skip
      refine r_ceq (tgt := 802) (q := 651) d_law_648 rfl rfl (fun e648 => ?_) (fun e648 => ?_)
      · skip
        exact am_cut (Or.inl ⟨rfl, rfl, _, _, _, rfl, h⟩)
      · skip
        refine r_ic (v := 0) (q := 652) d_law_651 rfl rfl ?_
        exfalso; first | exact absurd rfl e648 | exact absurd (c7 e629.1) e648 | exact absurd (c8 e629.1) e648 | exact absurd (c9 e629.1) e648 | (clear c7 c8 c9 c3; ((try simp +decide only [b01, b10, b11, am_up, ik, and_true, and_false, true_and, false_and, if_true, if_false, nn_eq] at *) <;> (try simp only [sw_or, sw_all, or_false, and_true, i32_lt, i32_le, i32_eq, i32_addw, i32_subw, i32_mulw, Int32.reduceToInt] at *) <;> omega))
    · skip
      refine r_ceq (tgt := 802) (q := 651) d_law_648 rfl rfl (fun e648 => ?_) (fun e648 => ?_)
      · skip
        exact am_cut (Or.inl ⟨rfl, rfl, _, _, _, rfl, h⟩)
      · skip
        refine r_ic (v := 0) (q := 652) d_law_651 rfl rfl ?_
        exfalso; first | exact absurd rfl e648 | exact absurd (c7 e629.1) e648 | exact absurd (c8 e629.1) e648 | exact absurd (c9 e629.1) e648 | (clear c7 c8 c9 c3; ((try simp +decide only [b01, b10, b11, am_up, ik, and_true, and_false, true_and, false_and, if_true, if_false, nn_eq] at *) <;> (try simp only [sw_or, sw_all, or_false, and_true, i32_lt, i32_le, i32_eq, i32_addw, i32_subw, i32_mulw, Int32.reduceToInt] at *) <;> omega))
    · skip
      refine r_ceq (tgt := 802) (q := 651) d_law_648 rfl rfl (fun e648 => ?_) (fun e648 => ?_)
      · skip
        exact am_cut (Or.inl ⟨rfl, rfl, _, _, _, rfl, h⟩)
      · skip
        refine r_ic (v := 0) (q := 652) d_law_651 rfl rfl ?_
        exfalso; first | exact absurd rfl e648 | exact absurd (c7 e629.1) e648 | exact absurd (c8 e629.1) e648 | exact absurd (c9 e629.1) e648 | (clear c7 c8 c9 c3; ((try simp +decide only [b01, b10, b11, am_up, ik, and_true, and_false, true_and, false_and, if_true, if_false, nn_eq] at *) <;> (try simp only [sw_or, sw_all, or_false, and_true, i32_lt, i32_le, i32_eq, i32_addw, i32_subw, i32_mulw, Int32.reduceToInt] at *) <;> omega))
    · skip
      refine r_ceq (tgt := 802) (q := 651) d_law_648 rfl rfl (fun e648 => ?_) (fun e648 => ?_)
      · skip
        exact am_cut (Or.inl ⟨rfl, rfl, _, _, _, rfl, h⟩)
      · skip
        refine r_ic (v := 0) (q := 652) d_law_651 rfl rfl ?_
        exfalso; first | exact absurd rfl e648 | exact absurd (c7 e629.1) e648 | exact absurd (c8 e629.1) e648 | exact absurd (c9 e629.1) e648 | (clear c7 c8 c9 c3; ((try simp +decide only [b01, b10, b11, am_up, ik, and_true, and_false, true_and, false_and, if_true, if_false, nn_eq] at *) <;> (try simp only [sw_or, sw_all, or_false, and_true, i32_lt, i32_le, i32_eq, i32_addw, i32_subw, i32_mulw, Int32.reduceToInt] at *) <;> omega))
  · skip
    refine r_al2 (q := 633) d_law_632 rfl ?_
    refine r_al0 (q := 634) d_law_633 rfl ?_
    refine r_il4 (q := 636) d_law_634 rfl ?_
    refine r_ic (v := 1) (q := 637) d_law_636 rfl rfl ?_
    refine r_iadd (q := 638) d_law_637 rfl ?_
    refine am_sl (q := 639) d_law_638 rfl ?_ rfl ?_
    · (refine vp_of ?_ ?_ <;> (((try simp +decide only [b01, b10, b11, am_up, ik, and_true, and_false, true_and, false_and, if_true, if_false, nn_eq] at *) <;> (try simp only [sw_or, sw_all, or_false, and_true, i32_lt, i32_le, i32_eq, i32_addw, i32_subw, i32_mulw, Int32.reduceToInt] at *) <;> omega)))
    refine r_al0 (q := 640) d_law_639 rfl ?_
    refine r_il4 (q := 642) d_law_640 rfl ?_
    refine r_ic (v := 2) (q := 643) d_law_642 rfl rfl ?_
    refine r_iadd (q := 644) d_law_643 rfl ?_
    refine am_sl (q := 645) d_law_644 rfl ?_ rfl ?_
    · (refine vp_of ?_ ?_ <;> (((try simp +decide only [b01, b10, b11, am_up, ik, and_true, and_false, true_and, false_and, if_true, if_false, nn_eq] at *) <;> (try simp only [sw_or, sw_all, or_false, and_true, i32_lt, i32_le, i32_eq, i32_addw, i32_subw, i32_mulw, Int32.reduceToInt] at *) <;> omega)))
    refine r_vi2 mo_MO_frame d_law_645 rfl rfl rfl (q := 648) rfl ?_
    refine sp_MO_frame (by first | assumption | (refine pc_of hP ?_; (repeat (first | assumption | exact md_refl | refine md_up ?_ rfl | refine md_fill ?_ rfl | (unfold ik; refine md_up ?_ rfl))); done) | (refine pc_oS hP ?_; (repeat (first | assumption | exact md_refl | refine md_up ?_ rfl | refine md_fill ?_ rfl | (unfold ik; refine md_up ?_ rfl))); done) | (refine pm_of hP ?_; (repeat (first | assumption | exact md_refl | refine md_up ?_ rfl | refine md_fill ?_ rfl | (unfold ik; refine md_up ?_ rfl))); done) | omega | decide | ((try simp +decide only [b01, b10, b11, am_up, ik, and_true, and_false, true_and, false_and, if_true, if_false, nn_eq] at *) <;> (try simp only [sw_or, sw_all, or_false, and_true, i32_lt, i32_le, i32_eq, i32_addw, i32_subw, i32_mulw, Int32.reduceToInt] at *) <;> omega) | (apply_assumption; done)) (by first | assumption | (refine pc_of hP ?_; (repeat (first | assumption | exact md_refl | refine md_up ?_ rfl | refine md_fill ?_ rfl | (unfold ik; refine md_up ?_ rfl))); done) | (refine pc_oS hP ?_; (repeat (first | assumption | exact md_refl | refine md_up ?_ rfl | refine md_fill ?_ rfl | (unfold ik; refine md_up ?_ rfl))); done) | (refine pm_of hP ?_; (repeat (first | assumption | exact md_refl | refine md_up ?_ rfl | refine md_fill ?_ rfl | (unfold ik; refine md_up ?_ rfl))); done) | omega | decide | ((try simp +decide only [b01, b10, b11, am_up, ik, and_true, and_false, true_and, false_and, if_true, if_false, nn_eq] at *) <;> (try simp only [sw_or, sw_all, or_false, and_true, i32_lt, i32_le, i32_eq, i32_addw, i32_subw, i32_mulw, Int32.reduceToInt] at *) <;> omega) | (apply_assumption; done)) (fun e645 => ?_) (fun e645 => ?_) (fun e645 => ?_) (fun e645 => ?_)
    · skip
      refine r_ceq (tgt := 802) (q := 651) d_law_648 rfl rfl (fun e648 => ?_) (fun e648 => ?_)
      · skip
        exact am_cut (Or.inl ⟨rfl, rfl, _, _, _, rfl, h⟩)
      · skip
        refine r_ic (v := 0) (q := 652) d_law_651 rfl rfl ?_
        exfalso; first | exact absurd rfl e648 | exact absurd (c7 e629.1) e648 | exact absurd (c8 e629.1) e648 | exact absurd (c9 e629.1) e648 | (clear c7 c8 c9 c3; ((try simp +decide only [b01, b10, b11, am_up, ik, and_true, and_false, true_and, false_and, if_true, if_false, nn_eq] at *) <;> (try simp only [sw_or, sw_all, or_false, and_true, i32_lt, i32_le, i32_eq, i32_addw, i32_subw, i32_mulw, Int32.reduceToInt] at *) <;> omega))
    · skip
      refine r_ceq (tgt := 802) (q := 651) d_law_648 rfl rfl (fun e648 => ?_) (fun e648 => ?_)
      · skip
        exact am_cut (Or.inl ⟨rfl, rfl, _, _, _, rfl, h⟩)
      · skip
        refine r_ic (v := 0) (q := 652) d_law_651 rfl rfl ?_
        exfalso; first | exact absurd rfl e648 | exact absurd (c7 e629.1) e648 | exact absurd (c8 e629.1) e648 | exact absurd (c9 e629.1) e648 | (clear c7 c8 c9 c3; ((try simp +decide only [b01, b10, b11, am_up, ik, and_true, and_false, true_and, false_and, if_true, if_false, nn_eq] at *) <;> (try simp only [sw_or, sw_all, or_false, and_true, i32_lt, i32_le, i32_eq, i32_addw, i32_subw, i32_mulw, Int32.reduceToInt] at *) <;> omega))
    · skip
      refine r_ceq (tgt := 802) (q := 651) d_law_648 rfl rfl (fun e648 => ?_) (fun e648 => ?_)
      · skip
        exact am_cut (Or.inl ⟨rfl, rfl, _, _, _, rfl, h⟩)
      · skip
        refine r_ic (v := 0) (q := 652) d_law_651 rfl rfl ?_
        exfalso; first | exact absurd rfl e648 | exact absurd (c7 e629.1) e648 | exact absurd (c8 e629.1) e648 | exact absurd (c9 e629.1) e648 | (clear c7 c8 c9 c3; ((try simp +decide only [b01, b10, b11, am_up, ik, and_true, and_false, true_and, false_and, if_true, if_false, nn_eq] at *) <;> (try simp only [sw_or, sw_all, or_false, and_true, i32_lt, i32_le, i32_eq, i32_addw, i32_subw, i32_mulw, Int32.reduceToInt] at *) <;> omega))
    · skip
      refine r_ceq (tgt := 802) (q := 651) d_law_648 rfl rfl (fun e648 => ?_) (fun e648 => ?_)
      · skip
        exact am_cut (Or.inl ⟨rfl, rfl, _, _, _, rfl, h⟩)
      · skip
        refine r_ic (v := 0) (q := 652) d_law_651 rfl rfl ?_
        exfalso; first | exact absurd rfl e648 | exact absurd (c7 e629.1) e648 | exact absurd (c8 e629.1) e648 | exact absurd (c9 e629.1) e648 | (clear c7 c8 c9 c3; ((try simp +decide only [b01, b10, b11, am_up, ik, and_true, and_false, true_and, false_and, if_true, if_false, nn_eq] at *) <;> (try simp only [sw_or, sw_all, or_false, and_true, i32_lt, i32_le, i32_eq, i32_addw, i32_subw, i32_mulw, Int32.reduceToInt] at *) <;> omega))
  · skip
    refine r_al2 (q := 633) d_law_632 rfl ?_
    refine r_al0 (q := 634) d_law_633 rfl ?_
    refine r_il4 (q := 636) d_law_634 rfl ?_
    refine r_ic (v := 1) (q := 637) d_law_636 rfl rfl ?_
    refine r_iadd (q := 638) d_law_637 rfl ?_
    refine am_sl (q := 639) d_law_638 rfl ?_ rfl ?_
    · (refine vp_of ?_ ?_ <;> (((try simp +decide only [b01, b10, b11, am_up, ik, and_true, and_false, true_and, false_and, if_true, if_false, nn_eq] at *) <;> (try simp only [sw_or, sw_all, or_false, and_true, i32_lt, i32_le, i32_eq, i32_addw, i32_subw, i32_mulw, Int32.reduceToInt] at *) <;> omega)))
    refine r_al0 (q := 640) d_law_639 rfl ?_
    refine r_il4 (q := 642) d_law_640 rfl ?_
    refine r_ic (v := 2) (q := 643) d_law_642 rfl rfl ?_
    refine r_iadd (q := 644) d_law_643 rfl ?_
    refine am_sl (q := 645) d_law_644 rfl ?_ rfl ?_
    · (refine vp_of ?_ ?_ <;> (((try simp +decide only [b01, b10, b11, am_up, ik, and_true, and_false, true_and, false_and, if_true, if_false, nn_eq] at *) <;> (try simp only [sw_or, sw_all, or_false, and_true, i32_lt, i32_le, i32_eq, i32_addw, i32_subw, i32_mulw, Int32.reduceToInt] at *) <;> omega)))
    refine r_vi2 mo_MO_frame d_law_645 rfl rfl rfl (q := 648) rfl ?_
    refine sp_MO_frame (by first | assumption | (refine pc_of hP ?_; (repeat (first | assumption | exact md_refl | refine md_up ?_ rfl | refine md_fill ?_ rfl | (unfold ik; refine md_up ?_ rfl))); done) | (refine pc_oS hP ?_; (repeat (first | assumption | exact md_refl | refine md_up ?_ rfl | refine md_fill ?_ rfl | (unfold ik; refine md_up ?_ rfl))); done) | (refine pm_of hP ?_; (repeat (first | assumption | exact md_refl | refine md_up ?_ rfl | refine md_fill ?_ rfl | (unfold ik; refine md_up ?_ rfl))); done) | omega | decide | ((try simp +decide only [b01, b10, b11, am_up, ik, and_true, and_false, true_and, false_and, if_true, if_false, nn_eq] at *) <;> (try simp only [sw_or, sw_all, or_false, and_true, i32_lt, i32_le, i32_eq, i32_addw, i32_subw, i32_mulw, Int32.reduceToInt] at *) <;> omega) | (apply_assumption; done)) (by first | assumption | (refine pc_of hP ?_; (repeat (first | assumption | exact md_refl | refine md_up ?_ rfl | refine md_fill ?_ rfl | (unfold ik; refine md_up ?_ rfl))); done) | (refine pc_oS hP ?_; (repeat (first | assumption | exact md_refl | refine md_up ?_ rfl | refine md_fill ?_ rfl | (unfold ik; refine md_up ?_ rfl))); done) | (refine pm_of hP ?_; (repeat (first | assumption | exact md_refl | refine md_up ?_ rfl | refine md_fill ?_ rfl | (unfold ik; refine md_up ?_ rfl))); done) | omega | decide | ((try simp +decide only [b01, b10, b11, am_up, ik, and_true, and_false, true_and, false_and, if_true, if_false, nn_eq] at *) <;> (try simp only [sw_or, sw_all, or_false, and_true, i32_lt, i32_le, i32_eq, i32_addw, i32_subw, i32_mulw, Int32.reduceToInt] at *) <;> omega) | (apply_assumption; done)) (fun e645 => ?_) (fun e645 => ?_) (fun e645 => ?_) (fun e645 => ?_)
    · skip
      refine r_ceq (tgt := 802) (q := 651) d_law_648 rfl rfl (fun e648 => ?_) (fun e648 => ?_)
      · skip
        exact am_cut (Or.inl ⟨rfl, rfl, _, _, _, rfl, h⟩)
      · skip
        refine r_ic (v := 0) (q := 652) d_law_651 rfl rfl ?_
        exfalso; first | exact absurd rfl e648 | exact absurd (c7 e629.1) e648 | exact absurd (c8 e629.1) e648 | exact absurd (c9 e629.1) e648 | (clear c7 c8 c9 c3; ((try simp +decide only [b01, b10, b11, am_up, ik, and_true, and_false, true_and, false_and, if_true, if_false, nn_eq] at *) <;> (try simp only [sw_or, sw_all, or_false, and_true, i32_lt, i32_le, i32_eq, i32_addw, i32_subw, i32_mulw, Int32.reduceToInt] at *) <;> omega))
    · skip
      refine r_ceq (tgt := 802) (q := 651) d_law_648 rfl rfl (fun e648 => ?_) (fun e648 => ?_)
      · skip
        exact am_cut (Or.inl ⟨rfl, rfl, _, _, _, rfl, h⟩)
      · skip
        refine r_ic (v := 0) (q := 652) d_law_651 rfl rfl ?_
        exfalso; first | exact absurd rfl e648 | exact absurd (c7 e629.1) e648 | exact absurd (c8 e629.1) e648 | exact absurd (c9 e629.1) e648 | (clear c7 c8 c9 c3; ((try simp +decide only [b01, b10, b11, am_up, ik, and_true, and_false, true_and, false_and, if_true, if_false, nn_eq] at *) <;> (try simp only [sw_or, sw_all, or_false, and_true, i32_lt, i32_le, i32_eq, i32_addw, i32_subw, i32_mulw, Int32.reduceToInt] at *) <;> omega))
    · skip
      refine r_ceq (tgt := 802) (q := 651) d_law_648 rfl rfl (fun e648 => ?_) (fun e648 => ?_)
      · skip
        exact am_cut (Or.inl ⟨rfl, rfl, _, _, _, rfl, h⟩)
      · skip
        refine r_ic (v := 0) (q := 652) d_law_651 rfl rfl ?_
        exfalso; first | exact absurd rfl e648 | exact absurd (c7 e629.1) e648 | exact absurd (c8 e629.1) e648 | exact absurd (c9 e629.1) e648 | (clear c7 c8 c9 c3; ((try simp +decide only [b01, b10, b11, am_up, ik, and_true, and_false, true_and, false_and, if_true, if_false, nn_eq] at *) <;> (try simp only [sw_or, sw_all, or_false, and_true, i32_lt, i32_le, i32_eq, i32_addw, i32_subw, i32_mulw, Int32.reduceToInt] at *) <;> omega))
    · skip
      refine r_ceq (tgt := 802) (q := 651) d_law_648 rfl rfl (fun e648 => ?_) (fun e648 => ?_)
      · skip
        exact am_cut (Or.inl ⟨rfl, rfl, _, _, _, rfl, h⟩)
      · skip
        refine r_ic (v := 0) (q := 652) d_law_651 rfl rfl ?_
        exfalso; first | exact absurd rfl e648 | exact absurd (c7 e629.1) e648 | exact absurd (c8 e629.1) e648 | exact absurd (c9 e629.1) e648 | (clear c7 c8 c9 c3; ((try simp +decide only [b01, b10, b11, am_up, ik, and_true, and_false, true_and, false_and, if_true, if_false, nn_eq] at *) <;> (try simp only [sw_or, sw_all, or_false, and_true, i32_lt, i32_le, i32_eq, i32_addw, i32_subw, i32_mulw, Int32.reduceToInt] at *) <;> omega))
  · skip
    refine r_al2 (q := 633) d_law_632 rfl ?_
    refine r_al0 (q := 634) d_law_633 rfl ?_
    refine r_il4 (q := 636) d_law_634 rfl ?_
    refine r_ic (v := 1) (q := 637) d_law_636 rfl rfl ?_
    refine r_iadd (q := 638) d_law_637 rfl ?_
    refine am_sl (q := 639) d_law_638 rfl ?_ rfl ?_
    · (refine vp_of ?_ ?_ <;> (((try simp +decide only [b01, b10, b11, am_up, ik, and_true, and_false, true_and, false_and, if_true, if_false, nn_eq] at *) <;> (try simp only [sw_or, sw_all, or_false, and_true, i32_lt, i32_le, i32_eq, i32_addw, i32_subw, i32_mulw, Int32.reduceToInt] at *) <;> omega)))
    refine r_al0 (q := 640) d_law_639 rfl ?_
    refine r_il4 (q := 642) d_law_640 rfl ?_
    refine r_ic (v := 2) (q := 643) d_law_642 rfl rfl ?_
    refine r_iadd (q := 644) d_law_643 rfl ?_
    refine am_sl (q := 645) d_law_644 rfl ?_ rfl ?_
    · (refine vp_of ?_ ?_ <;> (((try simp +decide only [b01, b10, b11, am_up, ik, and_true, and_false, true_and, false_and, if_true, if_false, nn_eq] at *) <;> (try simp only [sw_or, sw_all, or_false, and_true, i32_lt, i32_le, i32_eq, i32_addw, i32_subw, i32_mulw, Int32.reduceToInt] at *) <;> omega)))
    refine r_vi2 mo_MO_frame d_law_645 rfl rfl rfl (q := 648) rfl ?_
    refine sp_MO_frame (by first | assumption | (refine pc_of hP ?_; (repeat (first | assumption | exact md_refl | refine md_up ?_ rfl | refine md_fill ?_ rfl | (unfold ik; refine md_up ?_ rfl))); done) | (refine pc_oS hP ?_; (repeat (first | assumption | exact md_refl | refine md_up ?_ rfl | refine md_fill ?_ rfl | (unfold ik; refine md_up ?_ rfl))); done) | (refine pm_of hP ?_; (repeat (first | assumption | exact md_refl | refine md_up ?_ rfl | refine md_fill ?_ rfl | (unfold ik; refine md_up ?_ rfl))); done) | omega | decide | ((try simp +decide only [b01, b10, b11, am_up, ik, and_true, and_false, true_and, false_and, if_true, if_false, nn_eq] at *) <;> (try simp only [sw_or, sw_all, or_false, and_true, i32_lt, i32_le, i32_eq, i32_addw, i32_subw, i32_mulw, Int32.reduceToInt] at *) <;> omega) | (apply_assumption; done)) (by first | assumption | (refine pc_of hP ?_; (repeat (first | assumption | exact md_refl | refine md_up ?_ rfl | refine md_fill ?_ rfl | (unfold ik; refine md_up ?_ rfl))); done) | (refine pc_oS hP ?_; (repeat (first | assumption | exact md_refl | refine md_up ?_ rfl | refine md_fill ?_ rfl | (unfold ik; refine md_up ?_ rfl))); done) | (refine pm_of hP ?_; (repeat (first | assumption | exact md_refl | refine md_up ?_ rfl | refine md_fill ?_ rfl | (unfold ik; refine md_up ?_ rfl))); done) | omega | decide | ((try simp +decide only [b01, b10, b11, am_up, ik, and_true, and_false, true_and, false_and, if_true, if_false, nn_eq] at *) <;> (try simp only [sw_or, sw_all, or_false, and_true, i32_lt, i32_le, i32_eq, i32_addw, i32_subw, i32_mulw, Int32.reduceToInt] at *) <;> omega) | (apply_assumption; done)) (fun e645 => ?_) (fun e645 => ?_) (fun e645 => ?_) (fun e645 => ?_)
    · skip
      refine r_ceq (tgt := 802) (q := 651) d_law_648 rfl rfl (fun e648 => ?_) (fun e648 => ?_)
      · skip
        exact am_cut (Or.inl ⟨rfl, rfl, _, _, _, rfl, h⟩)
      · skip
        refine r_ic (v := 0) (q := 652) d_law_651 rfl rfl ?_
        exfalso; first | exact absurd rfl e648 | exact absurd (c7 e629.1) e648 | exact absurd (c8 e629.1) e648 | exact absurd (c9 e629.1) e648 | (clear c7 c8 c9 c3; ((try simp +decide only [b01, b10, b11, am_up, ik, and_true, and_false, true_and, false_and, if_true, if_false, nn_eq] at *) <;> (try simp only [sw_or, sw_all, or_false, and_true, i32_lt, i32_le, i32_eq, i32_addw, i32_subw, i32_mulw, Int32.reduceToInt] at *) <;> omega))
    · skip
      refine r_ceq (tgt := 802) (q := 651) d_law_648 rfl rfl (fun e648 => ?_) (fun e648 => ?_)
      · skip
        exact am_cut (Or.inl ⟨rfl, rfl, _, _, _, rfl, h⟩)
      · skip
        refine r_ic (v := 0) (q := 652) d_law_651 rfl rfl ?_
        exfalso; first | exact absurd rfl e648 | exact absurd (c7 e629.1) e648 | exact absurd (c8 e629.1) e648 | exact absurd (c9 e629.1) e648 | (clear c7 c8 c9 c3; ((try simp +decide only [b01, b10, b11, am_up, ik, and_true, and_false, true_and, false_and, if_true, if_false, nn_eq] at *) <;> (try simp only [sw_or, sw_all, or_false, and_true, i32_lt, i32_le, i32_eq, i32_addw, i32_subw, i32_mulw, Int32.reduceToInt] at *) <;> omega))
    · skip
      refine r_ceq (tgt := 802) (q := 651) d_law_648 rfl rfl (fun e648 => ?_) (fun e648 => ?_)
      · skip
        exact am_cut (Or.inl ⟨rfl, rfl, _, _, _, rfl, h⟩)
      · skip
        refine r_ic (v := 0) (q := 652) d_law_651 rfl rfl ?_
        exfalso; first | exact absurd rfl e648 | exact absurd (c7 e629.1) e648 | exact absurd (c8 e629.1) e648 | exact absurd (c9 e629.1) e648 | (clear c7 c8 c9 c3; ((try simp +decide only [b01, b10, b11, am_up, ik, and_true, and_false, true_and, false_and, if_true, if_false, nn_eq] at *) <;> (try simp only [sw_or, sw_all, or_false, and_true, i32_lt, i32_le, i32_eq, i32_addw, i32_subw, i32_mulw, Int32.reduceToInt] at *) <;> omega))
    · skip
      refine r_ceq (tgt := 802) (q := 651) d_law_648 rfl rfl (fun e648 => ?_) (fun e648 => ?_)
      · skip
        exact am_cut (Or.inl ⟨rfl, rfl, _, _, _, rfl, h⟩)
      · skip
        refine r_ic (v := 0) (q := 652) d_law_651 rfl rfl ?_
        exfalso; first | exact absurd rfl e648 | exact absurd (c7 e629.1) e648 | exact absurd (c8 e629.1) e648 | exact absurd (c9 e629.1) e648 | (clear c7 c8 c9 c3; ((try simp +decide only [b01, b10, b11, am_up, ik, and_true, and_false, true_and, false_and, if_true, if_false, nn_eq] at *) <;> (try simp only [sw_or, sw_all, or_false, and_true, i32_lt, i32_le, i32_eq, i32_addw, i32_subw, i32_mulw, Int32.reduceToInt] at *) <;> omega))
theorem lb_13 {L : Nat} {xs : Nat → Int32} {K : Int32 → am_S → Prop} {i : Int32} {a b : Option am_V} {st : am_S} (i0 : 0 ≤ i.toInt) (i6 : i.toInt + 6 ≤ (L : Int)) (iL : L ≤ 3072) (c1 : 0 < st 519 0 → ((st 518 0).toNatClampNeg < 80 ∧ (st 0 (st 518 0).toNatClampNeg).toNatClampNeg < 8) ∧ 0 ≤ (st 2 (st 518 0).toNatClampNeg).toInt ∧ (st 2 (st 518 0).toNatClampNeg).toInt + (st 70 (st 0 (st 518 0).toNatClampNeg).toNatClampNeg).toInt ≤ 80) (d1 : st 603 0 = 1 → 1 ≤ (st 610 0).toInt ∧ (st 610 0).toInt ≤ 80) (d2 : st 603 0 = 1 → 0 ≤ (st 2163 (st 610 0 - 1).toNatClampNeg).toInt ∧ (st 2163 (st 610 0 - 1).toNatClampNeg).toInt < 8) (d3 : st 603 0 = 1 → 0 ≤ (st 2166 (st 610 0 - 1).toNatClampNeg).toInt ∧ (st 2166 (st 610 0 - 1).toNatClampNeg).toInt + (st 2146 (st 2163 (st 610 0 - 1).toNatClampNeg).toNatClampNeg).toInt ≤ 80) (c6 : (0 < st 519 0 ∧ 0 ≤ (xs (i + 1).toNatClampNeg) ∧ (xs (i + 1).toNatClampNeg) < st 70 (st 0 (st 518 0).toNatClampNeg).toNatClampNeg) ↔ (st 603 0 = 1 ∧ 0 ≤ (xs (i + 1).toNatClampNeg) ∧ (xs (i + 1).toNatClampNeg) < st 2146 (st 2163 (st 610 0 - 1).toNatClampNeg).toNatClampNeg)) (c7 : (0 < st 519 0 ∧ 0 ≤ (xs (i + 1).toNatClampNeg) ∧ (xs (i + 1).toNatClampNeg) < st 70 (st 0 (st 518 0).toNatClampNeg).toNatClampNeg) → st 2137 (st 2 (st 518 0).toNatClampNeg + (xs (i + 1).toNatClampNeg)).toNatClampNeg = st 2162 (st 2166 (st 610 0 - 1).toNatClampNeg + (xs (i + 1).toNatClampNeg)).toNatClampNeg) (h : K i (am_up st 576 0 0)) : am_AW code (g_law L xs (lw_P1 L xs K)) lw_k 653 (lw_lv i a b) [] st := by
  refine r_al1 (q := 654) d_law_653 rfl ?_
  refine r_al0 (q := 655) d_law_654 rfl ?_
  refine r_il4 (q := 657) d_law_655 rfl ?_
  refine r_ic (v := 1) (q := 658) d_law_657 rfl rfl ?_
  refine r_iadd (q := 659) d_law_658 rfl ?_
  refine am_sl (q := 660) d_law_659 rfl ?_ rfl ?_
  · (refine vp_of ?_ ?_ <;> (((try simp +decide only [b01, b10, b11, am_up, ik, and_true, and_false, true_and, false_and, if_true, if_false, nn_eq] at *) <;> (try simp only [sw_or, sw_all, or_false, and_true, i32_lt, i32_le, i32_eq, i32_addw, i32_subw, i32_mulw, Int32.reduceToInt] at *) <;> omega)))
  refine r_vi1 mo_FW_local d_law_660 rfl rfl rfl (q := 663) rfl ?_
  refine sq_FW_local (by first | assumption | (refine pc_of hP ?_; (repeat (first | assumption | exact md_refl | refine md_up ?_ rfl | refine md_fill ?_ rfl | (unfold ik; refine md_up ?_ rfl))); done) | (refine pc_oS hP ?_; (repeat (first | assumption | exact md_refl | refine md_up ?_ rfl | refine md_fill ?_ rfl | (unfold ik; refine md_up ?_ rfl))); done) | (refine pm_of hP ?_; (repeat (first | assumption | exact md_refl | refine md_up ?_ rfl | refine md_fill ?_ rfl | (unfold ik; refine md_up ?_ rfl))); done) | omega | decide | ((try simp +decide only [b01, b10, b11, am_up, ik, and_true, and_false, true_and, false_and, if_true, if_false, nn_eq] at *) <;> (try simp only [sw_or, sw_all, or_false, and_true, i32_lt, i32_le, i32_eq, i32_addw, i32_subw, i32_mulw, Int32.reduceToInt] at *) <;> omega) | (apply_assumption; done)) (fun e660 => ?_) (fun e660 => ?_)
  · skip
    refine r_al2 (q := 664) d_law_663 rfl ?_
    refine r_al0 (q := 665) d_law_664 rfl ?_
    refine r_il4 (q := 667) d_law_665 rfl ?_
    refine r_ic (v := 1) (q := 668) d_law_667 rfl rfl ?_
    refine r_iadd (q := 669) d_law_668 rfl ?_
    refine am_sl (q := 670) d_law_669 rfl ?_ rfl ?_
    · (refine vp_of ?_ ?_ <;> (((try simp +decide only [b01, b10, b11, am_up, ik, and_true, and_false, true_and, false_and, if_true, if_false, nn_eq] at *) <;> (try simp only [sw_or, sw_all, or_false, and_true, i32_lt, i32_le, i32_eq, i32_addw, i32_subw, i32_mulw, Int32.reduceToInt] at *) <;> omega)))
    refine r_vi1 mo_MO_local d_law_670 rfl rfl rfl (q := 673) rfl ?_
    refine sp_MO_local (by first | assumption | (refine pc_of hP ?_; (repeat (first | assumption | exact md_refl | refine md_up ?_ rfl | refine md_fill ?_ rfl | (unfold ik; refine md_up ?_ rfl))); done) | (refine pc_oS hP ?_; (repeat (first | assumption | exact md_refl | refine md_up ?_ rfl | refine md_fill ?_ rfl | (unfold ik; refine md_up ?_ rfl))); done) | (refine pm_of hP ?_; (repeat (first | assumption | exact md_refl | refine md_up ?_ rfl | refine md_fill ?_ rfl | (unfold ik; refine md_up ?_ rfl))); done) | omega | decide | ((try simp +decide only [b01, b10, b11, am_up, ik, and_true, and_false, true_and, false_and, if_true, if_false, nn_eq] at *) <;> (try simp only [sw_or, sw_all, or_false, and_true, i32_lt, i32_le, i32_eq, i32_addw, i32_subw, i32_mulw, Int32.reduceToInt] at *) <;> omega) | (apply_assumption; done)) (by first | assumption | (refine pc_of hP ?_; (repeat (first | assumption | exact md_refl | refine md_up ?_ rfl | refine md_fill ?_ rfl | (unfold ik; refine md_up ?_ rfl))); done) | (refine pc_oS hP ?_; (repeat (first | assumption | exact md_refl | refine md_up ?_ rfl | refine md_fill ?_ rfl | (unfold ik; refine md_up ?_ rfl))); done) | (refine pm_of hP ?_; (repeat (first | assumption | exact md_refl | refine md_up ?_ rfl | refine md_fill ?_ rfl | (unfold ik; refine md_up ?_ rfl))); done) | omega | decide | ((try simp +decide only [b01, b10, b11, am_up, ik, and_true, and_false, true_and, false_and, if_true, if_false, nn_eq] at *) <;> (try simp only [sw_or, sw_all, or_false, and_true, i32_lt, i32_le, i32_eq, i32_addw, i32_subw, i32_mulw, Int32.reduceToInt] at *) <;> omega) | (apply_assumption; done)) (by first | assumption | (refine pc_of hP ?_; (repeat (first | assumption | exact md_refl | refine md_up ?_ rfl | refine md_fill ?_ rfl | (unfold ik; refine md_up ?_ rfl))); done) | (refine pc_oS hP ?_; (repeat (first | assumption | exact md_refl | refine md_up ?_ rfl | refine md_fill ?_ rfl | (unfold ik; refine md_up ?_ rfl))); done) | (refine pm_of hP ?_; (repeat (first | assumption | exact md_refl | refine md_up ?_ rfl | refine md_fill ?_ rfl | (unfold ik; refine md_up ?_ rfl))); done) | omega | decide | ((try simp +decide only [b01, b10, b11, am_up, ik, and_true, and_false, true_and, false_and, if_true, if_false, nn_eq] at *) <;> (try simp only [sw_or, sw_all, or_false, and_true, i32_lt, i32_le, i32_eq, i32_addw, i32_subw, i32_mulw, Int32.reduceToInt] at *) <;> omega) | (apply_assumption; done)) (fun e670 => ?_) (fun e670 => ?_)
    · skip
      refine r_ceq (tgt := 802) (q := 676) d_law_673 rfl rfl (fun e673 => ?_) (fun e673 => ?_)
      · skip
        exact am_cut (Or.inl ⟨rfl, rfl, _, _, _, rfl, h⟩)
      · skip
        refine r_ic (v := 0) (q := 677) d_law_676 rfl rfl ?_
        exfalso; first | exact absurd (c7 e660) e673 | exact absurd (c6.mp e660) e670 | exact absurd (c6.mpr e670) e660 | exact absurd rfl e673
    · skip
      refine r_ceq (tgt := 802) (q := 676) d_law_673 rfl rfl (fun e673 => ?_) (fun e673 => ?_)
      · skip
        exact am_cut (Or.inl ⟨rfl, rfl, _, _, _, rfl, h⟩)
      · skip
        refine r_ic (v := 0) (q := 677) d_law_676 rfl rfl ?_
        exfalso; first | exact absurd (c7 e660) e673 | exact absurd (c6.mp e660) e670 | exact absurd (c6.mpr e670) e660 | exact absurd rfl e673
  · skip
    refine r_al2 (q := 664) d_law_663 rfl ?_
    refine r_al0 (q := 665) d_law_664 rfl ?_
    refine r_il4 (q := 667) d_law_665 rfl ?_
    refine r_ic (v := 1) (q := 668) d_law_667 rfl rfl ?_
    refine r_iadd (q := 669) d_law_668 rfl ?_
    refine am_sl (q := 670) d_law_669 rfl ?_ rfl ?_
    · (refine vp_of ?_ ?_ <;> (((try simp +decide only [b01, b10, b11, am_up, ik, and_true, and_false, true_and, false_and, if_true, if_false, nn_eq] at *) <;> (try simp only [sw_or, sw_all, or_false, and_true, i32_lt, i32_le, i32_eq, i32_addw, i32_subw, i32_mulw, Int32.reduceToInt] at *) <;> omega)))
    refine r_vi1 mo_MO_local d_law_670 rfl rfl rfl (q := 673) rfl ?_
    refine sp_MO_local (by first | assumption | (refine pc_of hP ?_; (repeat (first | assumption | exact md_refl | refine md_up ?_ rfl | refine md_fill ?_ rfl | (unfold ik; refine md_up ?_ rfl))); done) | (refine pc_oS hP ?_; (repeat (first | assumption | exact md_refl | refine md_up ?_ rfl | refine md_fill ?_ rfl | (unfold ik; refine md_up ?_ rfl))); done) | (refine pm_of hP ?_; (repeat (first | assumption | exact md_refl | refine md_up ?_ rfl | refine md_fill ?_ rfl | (unfold ik; refine md_up ?_ rfl))); done) | omega | decide | ((try simp +decide only [b01, b10, b11, am_up, ik, and_true, and_false, true_and, false_and, if_true, if_false, nn_eq] at *) <;> (try simp only [sw_or, sw_all, or_false, and_true, i32_lt, i32_le, i32_eq, i32_addw, i32_subw, i32_mulw, Int32.reduceToInt] at *) <;> omega) | (apply_assumption; done)) (by first | assumption | (refine pc_of hP ?_; (repeat (first | assumption | exact md_refl | refine md_up ?_ rfl | refine md_fill ?_ rfl | (unfold ik; refine md_up ?_ rfl))); done) | (refine pc_oS hP ?_; (repeat (first | assumption | exact md_refl | refine md_up ?_ rfl | refine md_fill ?_ rfl | (unfold ik; refine md_up ?_ rfl))); done) | (refine pm_of hP ?_; (repeat (first | assumption | exact md_refl | refine md_up ?_ rfl | refine md_fill ?_ rfl | (unfold ik; refine md_up ?_ rfl))); done) | omega | decide | ((try simp +decide only [b01, b10, b11, am_up, ik, and_true, and_false, true_and, false_and, if_true, if_false, nn_eq] at *) <;> (try simp only [sw_or, sw_all, or_false, and_true, i32_lt, i32_le, i32_eq, i32_addw, i32_subw, i32_mulw, Int32.reduceToInt] at *) <;> omega) | (apply_assumption; done)) (by first | assumption | (refine pc_of hP ?_; (repeat (first | assumption | exact md_refl | refine md_up ?_ rfl | refine md_fill ?_ rfl | (unfold ik; refine md_up ?_ rfl))); done) | (refine pc_oS hP ?_; (repeat (first | assumption | exact md_refl | refine md_up ?_ rfl | refine md_fill ?_ rfl | (unfold ik; refine md_up ?_ rfl))); done) | (refine pm_of hP ?_; (repeat (first | assumption | exact md_refl | refine md_up ?_ rfl | refine md_fill ?_ rfl | (unfold ik; refine md_up ?_ rfl))); done) | omega | decide | ((try simp +decide only [b01, b10, b11, am_up, ik, and_true, and_false, true_and, false_and, if_true, if_false, nn_eq] at *) <;> (try simp only [sw_or, sw_all, or_false, and_true, i32_lt, i32_le, i32_eq, i32_addw, i32_subw, i32_mulw, Int32.reduceToInt] at *) <;> omega) | (apply_assumption; done)) (fun e670 => ?_) (fun e670 => ?_)
    · skip
      refine r_ceq (tgt := 802) (q := 676) d_law_673 rfl rfl (fun e673 => ?_) (fun e673 => ?_)
      · skip
        exact am_cut (Or.inl ⟨rfl, rfl, _, _, _, rfl, h⟩)
      · skip
        refine r_ic (v := 0) (q := 677) d_law_676 rfl rfl ?_
        exfalso; first | exact absurd (c7 e660) e673 | exact absurd (c6.mp e660) e670 | exact absurd (c6.mpr e670) e660 | exact absurd rfl e673
    · skip
      refine r_ceq (tgt := 802) (q := 676) d_law_673 rfl rfl (fun e673 => ?_) (fun e673 => ?_)
      · skip
        exact am_cut (Or.inl ⟨rfl, rfl, _, _, _, rfl, h⟩)
      · skip
        refine r_ic (v := 0) (q := 677) d_law_676 rfl rfl ?_
        exfalso; first | exact absurd (c7 e660) e673 | exact absurd (c6.mp e660) e670 | exact absurd (c6.mpr e670) e660 | exact absurd rfl e673
theorem lb_14 {L : Nat} {xs : Nat → Int32} {K : Int32 → am_S → Prop} {i : Int32} {a b : Option am_V} {st : am_S} (i0 : 0 ≤ i.toInt) (i6 : i.toInt + 6 ≤ (L : Int)) (iL : L ≤ 3072) (c1 : 0 < st 519 0 → ((st 518 0).toNatClampNeg < 80 ∧ (st 0 (st 518 0).toNatClampNeg).toNatClampNeg < 8) ∧ 0 ≤ (st 2 (st 518 0).toNatClampNeg).toInt ∧ 0 ≤ (st 70 (st 0 (st 518 0).toNatClampNeg).toNatClampNeg).toInt ∧ (st 2 (st 518 0).toNatClampNeg).toInt + (st 70 (st 0 (st 518 0).toNatClampNeg).toNatClampNeg).toInt + (st 3 (st 518 0).toNatClampNeg).toInt ≤ 80) (d1 : st 603 0 = 1 → 1 ≤ (st 610 0).toInt ∧ (st 610 0).toInt ≤ 80) (d2 : st 603 0 = 1 → 0 ≤ (st 2163 (st 610 0 - 1).toNatClampNeg).toInt ∧ (st 2163 (st 610 0 - 1).toNatClampNeg).toInt < 8) (d3 : st 603 0 = 1 → 0 ≤ (st 2166 (st 610 0 - 1).toNatClampNeg).toInt ∧ 0 ≤ (st 2146 (st 2163 (st 610 0 - 1).toNatClampNeg).toNatClampNeg).toInt ∧ (st 2166 (st 610 0 - 1).toNatClampNeg).toInt + (st 2146 (st 2163 (st 610 0 - 1).toNatClampNeg).toNatClampNeg).toInt + (st 2165 (st 610 0 - 1).toNatClampNeg).toInt ≤ 80) (c6 : (0 < st 519 0 ∧ 0 ≤ (xs (i + 1).toNatClampNeg) ∧ (xs (i + 1).toNatClampNeg) < st 3 (st 518 0).toNatClampNeg) ↔ (st 603 0 = 1 ∧ 0 ≤ (xs (i + 1).toNatClampNeg) ∧ (xs (i + 1).toNatClampNeg) < st 2165 (st 610 0 - 1).toNatClampNeg)) (c7 : (0 < st 519 0 ∧ 0 ≤ (xs (i + 1).toNatClampNeg) ∧ (xs (i + 1).toNatClampNeg) < st 3 (st 518 0).toNatClampNeg) → st 2137 (st 2 (st 518 0).toNatClampNeg + st 70 (st 0 (st 518 0).toNatClampNeg).toNatClampNeg + st 3 (st 518 0).toNatClampNeg - 1 - (xs (i + 1).toNatClampNeg)).toNatClampNeg = st 2162 (st 2166 (st 610 0 - 1).toNatClampNeg + st 2146 (st 2163 (st 610 0 - 1).toNatClampNeg).toNatClampNeg + st 2165 (st 610 0 - 1).toNatClampNeg - 1 - (xs (i + 1).toNatClampNeg)).toNatClampNeg) (h : K i (am_up st 576 0 0)) : am_AW code (g_law L xs (lw_P1 L xs K)) lw_k 678 (lw_lv i a b) [] st := by
  refine r_al1 (q := 679) d_law_678 rfl ?_
  refine r_al0 (q := 680) d_law_679 rfl ?_
  refine r_il4 (q := 682) d_law_680 rfl ?_
  refine r_ic (v := 1) (q := 683) d_law_682 rfl rfl ?_
  refine r_iadd (q := 684) d_law_683 rfl ?_
  refine am_sl (q := 685) d_law_684 rfl ?_ rfl ?_
  · (refine vp_of ?_ ?_ <;> (((try simp +decide only [b01, b10, b11, am_up, ik, and_true, and_false, true_and, false_and, if_true, if_false, nn_eq] at *) <;> (try simp only [sw_or, sw_all, or_false, and_true, i32_lt, i32_le, i32_eq, i32_addw, i32_subw, i32_mulw, Int32.reduceToInt] at *) <;> omega)))
  refine r_vi1 mo_FW_stack d_law_685 rfl rfl rfl (q := 688) rfl ?_
  refine sq_FW_stack (by first | assumption | (refine pc_of hP ?_; (repeat (first | assumption | exact md_refl | refine md_up ?_ rfl | refine md_fill ?_ rfl | (unfold ik; refine md_up ?_ rfl))); done) | (refine pc_oS hP ?_; (repeat (first | assumption | exact md_refl | refine md_up ?_ rfl | refine md_fill ?_ rfl | (unfold ik; refine md_up ?_ rfl))); done) | (refine pm_of hP ?_; (repeat (first | assumption | exact md_refl | refine md_up ?_ rfl | refine md_fill ?_ rfl | (unfold ik; refine md_up ?_ rfl))); done) | omega | decide | ((try simp +decide only [b01, b10, b11, am_up, ik, and_true, and_false, true_and, false_and, if_true, if_false, nn_eq] at *) <;> (try simp only [sw_or, sw_all, or_false, and_true, i32_lt, i32_le, i32_eq, i32_addw, i32_subw, i32_mulw, Int32.reduceToInt] at *) <;> omega) | (apply_assumption; done)) (fun e685 => ?_) (fun e685 => ?_)
  · skip
    refine r_al2 (q := 689) d_law_688 rfl ?_
    refine r_al0 (q := 690) d_law_689 rfl ?_
    refine r_il4 (q := 692) d_law_690 rfl ?_
    refine r_ic (v := 1) (q := 693) d_law_692 rfl rfl ?_
    refine r_iadd (q := 694) d_law_693 rfl ?_
    refine am_sl (q := 695) d_law_694 rfl ?_ rfl ?_
    · (refine vp_of ?_ ?_ <;> (((try simp +decide only [b01, b10, b11, am_up, ik, and_true, and_false, true_and, false_and, if_true, if_false, nn_eq] at *) <;> (try simp only [sw_or, sw_all, or_false, and_true, i32_lt, i32_le, i32_eq, i32_addw, i32_subw, i32_mulw, Int32.reduceToInt] at *) <;> omega)))
    refine r_vi1 mo_MO_stack d_law_695 rfl rfl rfl (q := 698) rfl ?_
    refine sp_MO_stack (by first | assumption | (refine pc_of hP ?_; (repeat (first | assumption | exact md_refl | refine md_up ?_ rfl | refine md_fill ?_ rfl | (unfold ik; refine md_up ?_ rfl))); done) | (refine pc_oS hP ?_; (repeat (first | assumption | exact md_refl | refine md_up ?_ rfl | refine md_fill ?_ rfl | (unfold ik; refine md_up ?_ rfl))); done) | (refine pm_of hP ?_; (repeat (first | assumption | exact md_refl | refine md_up ?_ rfl | refine md_fill ?_ rfl | (unfold ik; refine md_up ?_ rfl))); done) | omega | decide | ((try simp +decide only [b01, b10, b11, am_up, ik, and_true, and_false, true_and, false_and, if_true, if_false, nn_eq] at *) <;> (try simp only [sw_or, sw_all, or_false, and_true, i32_lt, i32_le, i32_eq, i32_addw, i32_subw, i32_mulw, Int32.reduceToInt] at *) <;> omega) | (apply_assumption; done)) (by first | assumption | (refine pc_of hP ?_; (repeat (first | assumption | exact md_refl | refine md_up ?_ rfl | refine md_fill ?_ rfl | (unfold ik; refine md_up ?_ rfl))); done) | (refine pc_oS hP ?_; (repeat (first | assumption | exact md_refl | refine md_up ?_ rfl | refine md_fill ?_ rfl | (unfold ik; refine md_up ?_ rfl))); done) | (refine pm_of hP ?_; (repeat (first | assumption | exact md_refl | refine md_up ?_ rfl | refine md_fill ?_ rfl | (unfold ik; refine md_up ?_ rfl))); done) | omega | decide | ((try simp +decide only [b01, b10, b11, am_up, ik, and_true, and_false, true_and, false_and, if_true, if_false, nn_eq] at *) <;> (try simp only [sw_or, sw_all, or_false, and_true, i32_lt, i32_le, i32_eq, i32_addw, i32_subw, i32_mulw, Int32.reduceToInt] at *) <;> omega) | (apply_assumption; done)) (by first | assumption | (refine pc_of hP ?_; (repeat (first | assumption | exact md_refl | refine md_up ?_ rfl | refine md_fill ?_ rfl | (unfold ik; refine md_up ?_ rfl))); done) | (refine pc_oS hP ?_; (repeat (first | assumption | exact md_refl | refine md_up ?_ rfl | refine md_fill ?_ rfl | (unfold ik; refine md_up ?_ rfl))); done) | (refine pm_of hP ?_; (repeat (first | assumption | exact md_refl | refine md_up ?_ rfl | refine md_fill ?_ rfl | (unfold ik; refine md_up ?_ rfl))); done) | omega | decide | ((try simp +decide only [b01, b10, b11, am_up, ik, and_true, and_false, true_and, false_and, if_true, if_false, nn_eq] at *) <;> (try simp only [sw_or, sw_all, or_false, and_true, i32_lt, i32_le, i32_eq, i32_addw, i32_subw, i32_mulw, Int32.reduceToInt] at *) <;> omega) | (apply_assumption; done)) (fun e695 => ?_) (fun e695 => ?_)
    · skip
      refine r_ceq (tgt := 802) (q := 701) d_law_698 rfl rfl (fun e698 => ?_) (fun e698 => ?_)
      · skip
        exact am_cut (Or.inl ⟨rfl, rfl, _, _, _, rfl, h⟩)
      · skip
        refine r_ic (v := 0) (q := 702) d_law_701 rfl rfl ?_
        exfalso; first | exact absurd (c7 e685) e698 | exact absurd (c6.mp e685) e695 | exact absurd (c6.mpr e695) e685 | exact absurd rfl e698
    · skip
      refine r_ceq (tgt := 802) (q := 701) d_law_698 rfl rfl (fun e698 => ?_) (fun e698 => ?_)
      · skip
        exact am_cut (Or.inl ⟨rfl, rfl, _, _, _, rfl, h⟩)
      · skip
        refine r_ic (v := 0) (q := 702) d_law_701 rfl rfl ?_
        exfalso; first | exact absurd (c7 e685) e698 | exact absurd (c6.mp e685) e695 | exact absurd (c6.mpr e695) e685 | exact absurd rfl e698
  · skip
    refine r_al2 (q := 689) d_law_688 rfl ?_
    refine r_al0 (q := 690) d_law_689 rfl ?_
    refine r_il4 (q := 692) d_law_690 rfl ?_
    refine r_ic (v := 1) (q := 693) d_law_692 rfl rfl ?_
    refine r_iadd (q := 694) d_law_693 rfl ?_
    refine am_sl (q := 695) d_law_694 rfl ?_ rfl ?_
    · (refine vp_of ?_ ?_ <;> (((try simp +decide only [b01, b10, b11, am_up, ik, and_true, and_false, true_and, false_and, if_true, if_false, nn_eq] at *) <;> (try simp only [sw_or, sw_all, or_false, and_true, i32_lt, i32_le, i32_eq, i32_addw, i32_subw, i32_mulw, Int32.reduceToInt] at *) <;> omega)))
    refine r_vi1 mo_MO_stack d_law_695 rfl rfl rfl (q := 698) rfl ?_
    refine sp_MO_stack (by first | assumption | (refine pc_of hP ?_; (repeat (first | assumption | exact md_refl | refine md_up ?_ rfl | refine md_fill ?_ rfl | (unfold ik; refine md_up ?_ rfl))); done) | (refine pc_oS hP ?_; (repeat (first | assumption | exact md_refl | refine md_up ?_ rfl | refine md_fill ?_ rfl | (unfold ik; refine md_up ?_ rfl))); done) | (refine pm_of hP ?_; (repeat (first | assumption | exact md_refl | refine md_up ?_ rfl | refine md_fill ?_ rfl | (unfold ik; refine md_up ?_ rfl))); done) | omega | decide | ((try simp +decide only [b01, b10, b11, am_up, ik, and_true, and_false, true_and, false_and, if_true, if_false, nn_eq] at *) <;> (try simp only [sw_or, sw_all, or_false, and_true, i32_lt, i32_le, i32_eq, i32_addw, i32_subw, i32_mulw, Int32.reduceToInt] at *) <;> omega) | (apply_assumption; done)) (by first | assumption | (refine pc_of hP ?_; (repeat (first | assumption | exact md_refl | refine md_up ?_ rfl | refine md_fill ?_ rfl | (unfold ik; refine md_up ?_ rfl))); done) | (refine pc_oS hP ?_; (repeat (first | assumption | exact md_refl | refine md_up ?_ rfl | refine md_fill ?_ rfl | (unfold ik; refine md_up ?_ rfl))); done) | (refine pm_of hP ?_; (repeat (first | assumption | exact md_refl | refine md_up ?_ rfl | refine md_fill ?_ rfl | (unfold ik; refine md_up ?_ rfl))); done) | omega | decide | ((try simp +decide only [b01, b10, b11, am_up, ik, and_true, and_false, true_and, false_and, if_true, if_false, nn_eq] at *) <;> (try simp only [sw_or, sw_all, or_false, and_true, i32_lt, i32_le, i32_eq, i32_addw, i32_subw, i32_mulw, Int32.reduceToInt] at *) <;> omega) | (apply_assumption; done)) (by first | assumption | (refine pc_of hP ?_; (repeat (first | assumption | exact md_refl | refine md_up ?_ rfl | refine md_fill ?_ rfl | (unfold ik; refine md_up ?_ rfl))); done) | (refine pc_oS hP ?_; (repeat (first | assumption | exact md_refl | refine md_up ?_ rfl | refine md_fill ?_ rfl | (unfold ik; refine md_up ?_ rfl))); done) | (refine pm_of hP ?_; (repeat (first | assumption | exact md_refl | refine md_up ?_ rfl | refine md_fill ?_ rfl | (unfold ik; refine md_up ?_ rfl))); done) | omega | decide | ((try simp +decide only [b01, b10, b11, am_up, ik, and_true, and_false, true_and, false_and, if_true, if_false, nn_eq] at *) <;> (try simp only [sw_or, sw_all, or_false, and_true, i32_lt, i32_le, i32_eq, i32_addw, i32_subw, i32_mulw, Int32.reduceToInt] at *) <;> omega) | (apply_assumption; done)) (fun e695 => ?_) (fun e695 => ?_)
    · skip
      refine r_ceq (tgt := 802) (q := 701) d_law_698 rfl rfl (fun e698 => ?_) (fun e698 => ?_)
      · skip
        exact am_cut (Or.inl ⟨rfl, rfl, _, _, _, rfl, h⟩)
      · skip
        refine r_ic (v := 0) (q := 702) d_law_701 rfl rfl ?_
        exfalso; first | exact absurd (c7 e685) e698 | exact absurd (c6.mp e685) e695 | exact absurd (c6.mpr e695) e685 | exact absurd rfl e698
    · skip
      refine r_ceq (tgt := 802) (q := 701) d_law_698 rfl rfl (fun e698 => ?_) (fun e698 => ?_)
      · skip
        exact am_cut (Or.inl ⟨rfl, rfl, _, _, _, rfl, h⟩)
      · skip
        refine r_ic (v := 0) (q := 702) d_law_701 rfl rfl ?_
        exfalso; first | exact absurd (c7 e685) e698 | exact absurd (c6.mp e685) e695 | exact absurd (c6.mpr e695) e685 | exact absurd rfl e698

/-! written by wip/whole/gen/walk.py out of 41.simple.txt -/
theorem sp_MO_thrown {st : am_S} {f : Int32 → am_S → Prop} (h : f (st 576 0) st) : wp_MO_thrown [.inr (.inl 128)] st (am_ki f) := by
  refine ⟨⟨rfl, Nat.le_of_ble_eq_true rfl⟩, ?_⟩
  refine r_al0 (q := 1) d_MO_thrown_0 rfl ?_
  refine gt_MO_thrown (q := 4) d_MO_thrown_1 rfl rfl ?_
  refine r_ri d_MO_thrown_4 ?_
  exact h
theorem sp_MO_in {v lo hi : Int32} {st : am_S} {f : Int32 → am_S → Prop} (h : f (if lo ≤ v ∧ v ≤ hi then 1 else 0) st) : wp_MO_in [.inl v, .inl lo, .inl hi] st (am_ki f) := by
  refine ⟨⟨rfl, Nat.le_of_ble_eq_true rfl⟩, ?_⟩
  refine r_il0 (q := 1) d_MO_in_0 rfl ?_
  refine r_il1 (q := 2) d_MO_in_1 rfl ?_
  refine r_clt (tgt := 14) (q := 5) d_MO_in_2 rfl rfl (fun e2 => ?_) (fun e2 => ?_)
  · skip
    refine r_ic (v := 0) (q := 15) d_MO_in_14 rfl rfl ?_
    refine r_rz d_MO_in_15 (by first | assumption | omega | decide | ((try simp +decide only [b01, b10, b11, am_up, and_true, and_false, true_and, false_and, if_true, if_false, nn_eq] at *) <;> (try simp only [sw_or, sw_all, or_false, and_true, i32_lt, i32_le, i32_eq, i32_addw, i32_subw, i32_mulw, Int32.reduceToInt] at *) <;> omega) | (apply_assumption; done)) ?_
    first | exact h | (split at h <;> first | exact h | (exfalso; ((try simp +decide only [b01, b10, b11, am_up, and_true, and_false, true_and, false_and, if_true, if_false, nn_eq] at *) <;> (try simp only [sw_or, sw_all, or_false, and_true, i32_lt, i32_le, i32_eq, i32_addw, i32_subw, i32_mulw, Int32.reduceToInt] at *) <;> omega)) | (split at h <;> first | exact h | (exfalso; ((try simp +decide only [b01, b10, b11, am_up, and_true, and_false, true_and, false_and, if_true, if_false, nn_eq] at *) <;> (try simp only [sw_or, sw_all, or_false, and_true, i32_lt, i32_le, i32_eq, i32_addw, i32_subw, i32_mulw, Int32.reduceToInt] at *) <;> omega))))
  · skip
    refine r_il0 (q := 6) d_MO_in_5 rfl ?_
    refine r_il2 (q := 7) d_MO_in_6 rfl ?_
    refine r_cgt (tgt := 14) (q := 10) d_MO_in_7 rfl rfl (fun e7 => ?_) (fun e7 => ?_)
    · skip
      refine r_ic (v := 0) (q := 15) d_MO_in_14 rfl rfl ?_
      refine r_rz d_MO_in_15 (by first | assumption | omega | decide | ((try simp +decide only [b01, b10, b11, am_up, and_true, and_false, true_and, false_and, if_true, if_false, nn_eq] at *) <;> (try simp only [sw_or, sw_all, or_false, and_true, i32_lt, i32_le, i32_eq, i32_addw, i32_subw, i32_mulw, Int32.reduceToInt] at *) <;> omega) | (apply_assumption; done)) ?_
      first | exact h | (split at h <;> first | exact h | (exfalso; ((try simp +decide only [b01, b10, b11, am_up, and_true, and_false, true_and, false_and, if_true, if_false, nn_eq] at *) <;> (try simp only [sw_or, sw_all, or_false, and_true, i32_lt, i32_le, i32_eq, i32_addw, i32_subw, i32_mulw, Int32.reduceToInt] at *) <;> omega)) | (split at h <;> first | exact h | (exfalso; ((try simp +decide only [b01, b10, b11, am_up, and_true, and_false, true_and, false_and, if_true, if_false, nn_eq] at *) <;> (try simp only [sw_or, sw_all, or_false, and_true, i32_lt, i32_le, i32_eq, i32_addw, i32_subw, i32_mulw, Int32.reduceToInt] at *) <;> omega))))
    · skip
      refine r_ic (v := 1) (q := 11) d_MO_in_10 rfl rfl ?_
      refine am_go (tgt := 15) d_MO_in_11 rfl ?_
      refine r_rz d_MO_in_15 (by first | assumption | omega | decide | ((try simp +decide only [b01, b10, b11, am_up, and_true, and_false, true_and, false_and, if_true, if_false, nn_eq] at *) <;> (try simp only [sw_or, sw_all, or_false, and_true, i32_lt, i32_le, i32_eq, i32_addw, i32_subw, i32_mulw, Int32.reduceToInt] at *) <;> omega) | (apply_assumption; done)) ?_
      first | exact h | (split at h <;> first | exact h | (exfalso; ((try simp +decide only [b01, b10, b11, am_up, and_true, and_false, true_and, false_and, if_true, if_false, nn_eq] at *) <;> (try simp only [sw_or, sw_all, or_false, and_true, i32_lt, i32_le, i32_eq, i32_addw, i32_subw, i32_mulw, Int32.reduceToInt] at *) <;> omega)) | (split at h <;> first | exact h | (exfalso; ((try simp +decide only [b01, b10, b11, am_up, and_true, and_false, true_and, false_and, if_true, if_false, nn_eq] at *) <;> (try simp only [sw_or, sw_all, or_false, and_true, i32_lt, i32_le, i32_eq, i32_addw, i32_subw, i32_mulw, Int32.reduceToInt] at *) <;> omega))))
theorem sp_FW_fault {st : am_S} {f : Int32 → am_S → Prop} (h : f (st 263 0) st) : wp_FW_fault [.inr (.inl 123)] st (am_ki f) := by
  refine ⟨⟨rfl, Nat.le_of_ble_eq_true rfl⟩, ?_⟩
  refine r_al0 (q := 1) d_FW_fault_0 rfl ?_
  refine gt_FW_latestFault (q := 4) d_FW_fault_1 rfl rfl ?_
  refine r_ri d_FW_fault_4 ?_
  exact h
theorem sp_MO_fault {st : am_S} {f : Int32 → am_S → Prop} (h : f (st 592 0) (am_up st 576 0 0)) : wp_MO_fault [.inr (.inl 128)] st (am_ki f) := by
  refine ⟨⟨rfl, Nat.le_of_ble_eq_true rfl⟩, ?_⟩
  refine r_al0 (q := 1) d_MO_fault_0 rfl ?_
  refine r_ic (v := 0) (q := 2) d_MO_fault_1 rfl rfl ?_
  refine pt_MO_thrown (q := 5) d_MO_fault_2 rfl rfl ?_
  refine r_al0 (q := 6) d_MO_fault_5 rfl ?_
  refine gt_MO_fault (q := 9) d_MO_fault_6 rfl rfl ?_
  refine r_ri d_MO_fault_9 ?_
  exact h
theorem sp_FW_state {st : am_S} {f : Int32 → am_S → Prop} (h : f (st 521 0) st) : wp_FW_state [.inr (.inl 123)] st (am_ki f) := by
  refine ⟨⟨rfl, Nat.le_of_ble_eq_true rfl⟩, ?_⟩
  refine r_al0 (q := 1) d_FW_state_0 rfl ?_
  refine gt_FW_machine (q := 4) d_FW_state_1 rfl rfl ?_
  refine gt_MA_condition (q := 7) d_FW_state_4 rfl rfl ?_
  refine r_ri d_FW_state_7 ?_
  exact h
theorem sp_MO_state {st : am_S} {f : Int32 → am_S → Prop} (h : f (st 603 0) (am_up st 576 0 0)) : wp_MO_state [.inr (.inl 128)] st (am_ki f) := by
  refine ⟨⟨rfl, Nat.le_of_ble_eq_true rfl⟩, ?_⟩
  refine r_al0 (q := 1) d_MO_state_0 rfl ?_
  refine r_ic (v := 0) (q := 2) d_MO_state_1 rfl rfl ?_
  refine pt_MO_thrown (q := 5) d_MO_state_2 rfl rfl ?_
  refine r_al0 (q := 6) d_MO_state_5 rfl ?_
  refine gt_MO_state (q := 9) d_MO_state_6 rfl rfl ?_
  refine r_ri d_MO_state_9 ?_
  exact h
theorem sp_FW_result {st : am_S} {f : Int32 → am_S → Prop} (h : f (st 522 0) st) : wp_FW_result [.inr (.inl 123)] st (am_ki f) := by
  refine ⟨⟨rfl, Nat.le_of_ble_eq_true rfl⟩, ?_⟩
  refine r_al0 (q := 1) d_FW_result_0 rfl ?_
  refine gt_FW_machine (q := 4) d_FW_result_1 rfl rfl ?_
  refine gt_MA_outcome (q := 7) d_FW_result_4 rfl rfl ?_
  refine r_ri d_FW_result_7 ?_
  exact h
theorem sp_MO_result {st : am_S} {f : Int32 → am_S → Prop} (h : f (if st 603 0 = 2 then st 604 0 else 0) (am_up st 576 0 0)) : wp_MO_result [.inr (.inl 128)] st (am_ki f) := by
  refine ⟨⟨rfl, Nat.le_of_ble_eq_true rfl⟩, ?_⟩
  refine r_al0 (q := 1) d_MO_result_0 rfl ?_
  refine r_ic (v := 0) (q := 2) d_MO_result_1 rfl rfl ?_
  refine pt_MO_thrown (q := 5) d_MO_result_2 rfl rfl ?_
  refine r_al0 (q := 6) d_MO_result_5 rfl ?_
  refine gt_MO_state (q := 9) d_MO_result_6 rfl rfl ?_
  refine r_ic (v := 2) (q := 10) d_MO_result_9 rfl rfl ?_
  refine r_cne (tgt := 20) (q := 13) d_MO_result_10 rfl rfl (fun e10 => ?_) (fun e10 => ?_)
  · skip
    refine r_ic (v := 0) (q := 21) d_MO_result_20 rfl rfl ?_
    refine r_ri d_MO_result_21 ?_
    first | exact h | (split at h <;> first | exact h | (exfalso; ((try simp +decide only [b01, b10, b11, am_up, and_true, and_false, true_and, false_and, if_true, if_false, nn_eq] at *) <;> (try simp only [sw_or, sw_all, or_false, and_true, i32_lt, i32_le, i32_eq, i32_addw, i32_subw, i32_mulw, Int32.reduceToInt] at *) <;> omega)) | (simp_all [am_up]; done) | (split at h <;> first | exact h | (exfalso; ((try simp +decide only [b01, b10, b11, am_up, and_true, and_false, true_and, false_and, if_true, if_false, nn_eq] at *) <;> (try simp only [sw_or, sw_all, or_false, and_true, i32_lt, i32_le, i32_eq, i32_addw, i32_subw, i32_mulw, Int32.reduceToInt] at *) <;> omega))))
  · skip
    refine r_al0 (q := 14) d_MO_result_13 rfl ?_
    refine gt_MO_result (q := 17) d_MO_result_14 rfl rfl ?_
    refine am_go (tgt := 21) d_MO_result_17 rfl ?_
    refine r_ri d_MO_result_21 ?_
    first | exact h | (split at h <;> first | exact h | (exfalso; ((try simp +decide only [b01, b10, b11, am_up, and_true, and_false, true_and, false_and, if_true, if_false, nn_eq] at *) <;> (try simp only [sw_or, sw_all, or_false, and_true, i32_lt, i32_le, i32_eq, i32_addw, i32_subw, i32_mulw, Int32.reduceToInt] at *) <;> omega)) | (simp_all [am_up]; done) | (split at h <;> first | exact h | (exfalso; ((try simp +decide only [b01, b10, b11, am_up, and_true, and_false, true_and, false_and, if_true, if_false, nn_eq] at *) <;> (try simp only [sw_or, sw_all, or_false, and_true, i32_lt, i32_le, i32_eq, i32_addw, i32_subw, i32_mulw, Int32.reduceToInt] at *) <;> omega))))
theorem sp_FW_depth {st : am_S} {f : Int32 → am_S → Prop} (h : f (st 519 0) st) : wp_FW_depth [.inr (.inl 123)] st (am_ki f) := by
  refine ⟨⟨rfl, Nat.le_of_ble_eq_true rfl⟩, ?_⟩
  refine r_al0 (q := 1) d_FW_depth_0 rfl ?_
  refine gt_FW_machine (q := 4) d_FW_depth_1 rfl rfl ?_
  refine gt_MA_frameCount (q := 7) d_FW_depth_4 rfl rfl ?_
  refine r_ri d_FW_depth_7 ?_
  exact h
theorem sp_MO_depth {st : am_S} {f : Int32 → am_S → Prop} (h : f (if st 603 0 = 1 then st 610 0 else 0) (am_up st 576 0 0)) : wp_MO_depth [.inr (.inl 128)] st (am_ki f) := by
  refine ⟨⟨rfl, Nat.le_of_ble_eq_true rfl⟩, ?_⟩
  refine r_al0 (q := 1) d_MO_depth_0 rfl ?_
  refine r_ic (v := 0) (q := 2) d_MO_depth_1 rfl rfl ?_
  refine pt_MO_thrown (q := 5) d_MO_depth_2 rfl rfl ?_
  refine r_al0 (q := 6) d_MO_depth_5 rfl ?_
  refine gt_MO_state (q := 9) d_MO_depth_6 rfl rfl ?_
  refine r_ic (v := 1) (q := 10) d_MO_depth_9 rfl rfl ?_
  refine r_cne (tgt := 20) (q := 13) d_MO_depth_10 rfl rfl (fun e10 => ?_) (fun e10 => ?_)
  · skip
    refine r_ic (v := 0) (q := 21) d_MO_depth_20 rfl rfl ?_
    refine r_ri d_MO_depth_21 ?_
    first | exact h | (split at h <;> first | exact h | (exfalso; ((try simp +decide only [b01, b10, b11, am_up, and_true, and_false, true_and, false_and, if_true, if_false, nn_eq] at *) <;> (try simp only [sw_or, sw_all, or_false, and_true, i32_lt, i32_le, i32_eq, i32_addw, i32_subw, i32_mulw, Int32.reduceToInt] at *) <;> omega)) | (simp_all [am_up]; done) | (split at h <;> first | exact h | (exfalso; ((try simp +decide only [b01, b10, b11, am_up, and_true, and_false, true_and, false_and, if_true, if_false, nn_eq] at *) <;> (try simp only [sw_or, sw_all, or_false, and_true, i32_lt, i32_le, i32_eq, i32_addw, i32_subw, i32_mulw, Int32.reduceToInt] at *) <;> omega))))
  · skip
    refine r_al0 (q := 14) d_MO_depth_13 rfl ?_
    refine gt_MO_frames (q := 17) d_MO_depth_14 rfl rfl ?_
    refine am_go (tgt := 21) d_MO_depth_17 rfl ?_
    refine r_ri d_MO_depth_21 ?_
    first | exact h | (split at h <;> first | exact h | (exfalso; ((try simp +decide only [b01, b10, b11, am_up, and_true, and_false, true_and, false_and, if_true, if_false, nn_eq] at *) <;> (try simp only [sw_or, sw_all, or_false, and_true, i32_lt, i32_le, i32_eq, i32_addw, i32_subw, i32_mulw, Int32.reduceToInt] at *) <;> omega)) | (simp_all [am_up]; done) | (split at h <;> first | exact h | (exfalso; ((try simp +decide only [b01, b10, b11, am_up, and_true, and_false, true_and, false_and, if_true, if_false, nn_eq] at *) <;> (try simp only [sw_or, sw_all, or_false, and_true, i32_lt, i32_le, i32_eq, i32_addw, i32_subw, i32_mulw, Int32.reduceToInt] at *) <;> omega))))
theorem sp_MA_showStatic {x : Int32} {st : am_S} {f : Int32 → am_S → Prop} (h : f (if 0 ≤ x ∧ x < 8 then st 2139 x.toNatClampNeg else 0) st) : wp_MA_showStatic [.inr (.inl 127), .inl x] st (am_ki f) := by
  refine ⟨⟨rfl, Nat.le_of_ble_eq_true rfl⟩, ?_⟩
  refine r_il1 (q := 1) d_MA_showStatic_0 rfl ?_
  refine r_zlt (tgt := 19) (q := 4) d_MA_showStatic_1 rfl rfl (fun e1 => ?_) (fun e1 => ?_)
  · skip
    refine r_ic (v := 0) (q := 20) d_MA_showStatic_19 rfl rfl ?_
    refine r_ri d_MA_showStatic_20 ?_
    first | exact h | (split at h <;> first | exact h | (exfalso; ((try simp +decide only [b01, b10, b11, am_up, and_true, and_false, true_and, false_and, if_true, if_false, nn_eq] at *) <;> (try simp only [sw_or, sw_all, or_false, and_true, i32_lt, i32_le, i32_eq, i32_addw, i32_subw, i32_mulw, Int32.reduceToInt] at *) <;> omega)) | (split at h <;> first | exact h | (exfalso; ((try simp +decide only [b01, b10, b11, am_up, and_true, and_false, true_and, false_and, if_true, if_false, nn_eq] at *) <;> (try simp only [sw_or, sw_all, or_false, and_true, i32_lt, i32_le, i32_eq, i32_addw, i32_subw, i32_mulw, Int32.reduceToInt] at *) <;> omega))))
  · skip
    refine r_il1 (q := 5) d_MA_showStatic_4 rfl ?_
    refine r_bp (v := 8) (q := 7) d_MA_showStatic_5 rfl rfl ?_
    refine r_cge (tgt := 19) (q := 10) d_MA_showStatic_7 rfl rfl (fun e7 => ?_) (fun e7 => ?_)
    · skip
      refine r_ic (v := 0) (q := 20) d_MA_showStatic_19 rfl rfl ?_
      refine r_ri d_MA_showStatic_20 ?_
      first | exact h | (split at h <;> first | exact h | (exfalso; ((try simp +decide only [b01, b10, b11, am_up, and_true, and_false, true_and, false_and, if_true, if_false, nn_eq] at *) <;> (try simp only [sw_or, sw_all, or_false, and_true, i32_lt, i32_le, i32_eq, i32_addw, i32_subw, i32_mulw, Int32.reduceToInt] at *) <;> omega)) | (split at h <;> first | exact h | (exfalso; ((try simp +decide only [b01, b10, b11, am_up, and_true, and_false, true_and, false_and, if_true, if_false, nn_eq] at *) <;> (try simp only [sw_or, sw_all, or_false, and_true, i32_lt, i32_le, i32_eq, i32_addw, i32_subw, i32_mulw, Int32.reduceToInt] at *) <;> omega))))
    · skip
      refine r_al0 (q := 11) d_MA_showStatic_10 rfl ?_
      refine gt_MA_statics (q := 14) d_MA_showStatic_11 rfl rfl ?_
      refine r_il1 (q := 15) d_MA_showStatic_14 rfl ?_
      refine ld_139 (q := 16) d_MA_showStatic_15 ?_ rfl ?_
      · (refine vp_of ?_ ?_ <;> (((try simp +decide only [b01, b10, b11, am_up, and_true, and_false, true_and, false_and, if_true, if_false, nn_eq] at *) <;> (try simp only [sw_or, sw_all, or_false, and_true, i32_lt, i32_le, i32_eq, i32_addw, i32_subw, i32_mulw, Int32.reduceToInt] at *) <;> omega)))
      refine am_go (tgt := 20) d_MA_showStatic_16 rfl ?_
      refine r_ri d_MA_showStatic_20 ?_
      first | exact h | (split at h <;> first | exact h | (exfalso; ((try simp +decide only [b01, b10, b11, am_up, and_true, and_false, true_and, false_and, if_true, if_false, nn_eq] at *) <;> (try simp only [sw_or, sw_all, or_false, and_true, i32_lt, i32_le, i32_eq, i32_addw, i32_subw, i32_mulw, Int32.reduceToInt] at *) <;> omega)) | (split at h <;> first | exact h | (exfalso; ((try simp +decide only [b01, b10, b11, am_up, and_true, and_false, true_and, false_and, if_true, if_false, nn_eq] at *) <;> (try simp only [sw_or, sw_all, or_false, and_true, i32_lt, i32_le, i32_eq, i32_addw, i32_subw, i32_mulw, Int32.reduceToInt] at *) <;> omega))))
theorem sp_FW_getStatic {x : Int32} {st : am_S} {f : Int32 → am_S → Prop} (h : f (if 0 ≤ x ∧ x < 8 then st 2139 x.toNatClampNeg else 0) st) : wp_FW_getStatic [.inr (.inl 123), .inl x] st (am_ki f) := by
  refine ⟨⟨rfl, Nat.le_of_ble_eq_true rfl⟩, ?_⟩
  refine r_al0 (q := 1) d_FW_getStatic_0 rfl ?_
  refine gt_FW_machine (q := 4) d_FW_getStatic_1 rfl rfl ?_
  refine r_il1 (q := 5) d_FW_getStatic_4 rfl ?_
  refine r_vi1 mo_MA_showStatic d_FW_getStatic_5 rfl rfl rfl (q := 8) rfl ?_
  refine sp_MA_showStatic ?_
  refine r_ri d_FW_getStatic_8 ?_
  exact h
theorem sp_MO_getStatic {x : Int32} {st : am_S} {f : Int32 → am_S → Prop} (h : f (if 0 ≤ x ∧ x ≤ 7 then st 2160 x.toNatClampNeg else 0) (am_up st 576 0 0)) : wp_MO_getStatic [.inr (.inl 128), .inl x] st (am_ki f) := by
  refine ⟨⟨rfl, Nat.le_of_ble_eq_true rfl⟩, ?_⟩
  refine r_al0 (q := 1) d_MO_getStatic_0 rfl ?_
  refine r_ic (v := 0) (q := 2) d_MO_getStatic_1 rfl rfl ?_
  refine pt_MO_thrown (q := 5) d_MO_getStatic_2 rfl rfl ?_
  refine r_il1 (q := 6) d_MO_getStatic_5 rfl ?_
  refine r_ic (v := 0) (q := 7) d_MO_getStatic_6 rfl rfl ?_
  refine r_bp (v := 7) (q := 9) d_MO_getStatic_7 rfl rfl ?_
  refine r_si3 mo_MO_in d_MO_getStatic_9 rfl rfl (q := 12) rfl ?_
  refine sp_MO_in ?_
  refine r_zeq (tgt := 24) (q := 15) d_MO_getStatic_12 rfl rfl (fun e12 => ?_) (fun e12 => ?_)
  · skip
    refine r_ic (v := 0) (q := 25) d_MO_getStatic_24 rfl rfl ?_
    refine r_ri d_MO_getStatic_25 ?_
    first | exact h | (split at h <;> first | exact h | (exfalso; ((try simp +decide only [b01, b10, b11, am_up, and_true, and_false, true_and, false_and, if_true, if_false, nn_eq] at *) <;> (try simp only [sw_or, sw_all, or_false, and_true, i32_lt, i32_le, i32_eq, i32_addw, i32_subw, i32_mulw, Int32.reduceToInt] at *) <;> omega)) | (simp_all [am_up]; done) | (split at h <;> first | exact h | (exfalso; ((try simp +decide only [b01, b10, b11, am_up, and_true, and_false, true_and, false_and, if_true, if_false, nn_eq] at *) <;> (try simp only [sw_or, sw_all, or_false, and_true, i32_lt, i32_le, i32_eq, i32_addw, i32_subw, i32_mulw, Int32.reduceToInt] at *) <;> omega))))
  · skip
    refine r_al0 (q := 16) d_MO_getStatic_15 rfl ?_
    refine gt_MO_statics (q := 19) d_MO_getStatic_16 rfl rfl ?_
    refine r_il1 (q := 20) d_MO_getStatic_19 rfl ?_
    refine ld_160 (q := 21) d_MO_getStatic_20 ?_ rfl ?_
    · (refine vp_of ?_ ?_ <;> (((try simp +decide only [b01, b10, b11, am_up, and_true, and_false, true_and, false_and, if_true, if_false, nn_eq] at *) <;> (try simp only [sw_or, sw_all, or_false, and_true, i32_lt, i32_le, i32_eq, i32_addw, i32_subw, i32_mulw, Int32.reduceToInt] at *) <;> omega)))
    refine am_go (tgt := 25) d_MO_getStatic_21 rfl ?_
    refine r_ri d_MO_getStatic_25 ?_
    first | exact h | (split at h <;> first | exact h | (exfalso; ((try simp +decide only [b01, b10, b11, am_up, and_true, and_false, true_and, false_and, if_true, if_false, nn_eq] at *) <;> (try simp only [sw_or, sw_all, or_false, and_true, i32_lt, i32_le, i32_eq, i32_addw, i32_subw, i32_mulw, Int32.reduceToInt] at *) <;> omega)) | (simp_all [am_up]; done) | (split at h <;> first | exact h | (exfalso; ((try simp +decide only [b01, b10, b11, am_up, and_true, and_false, true_and, false_and, if_true, if_false, nn_eq] at *) <;> (try simp only [sw_or, sw_all, or_false, and_true, i32_lt, i32_le, i32_eq, i32_addw, i32_subw, i32_mulw, Int32.reduceToInt] at *) <;> omega))))
theorem sp_MA_showHeap {x : Int32} {st : am_S} {f : Int32 → am_S → Prop} (c1 : (st 520 0).toInt ≤ 120) (h : f (if 0 ≤ x ∧ x < st 520 0 then st 2140 x.toNatClampNeg else 0) st) : wp_MA_showHeap [.inr (.inl 127), .inl x] st (am_ki f) := by
  refine ⟨⟨rfl, Nat.le_of_ble_eq_true rfl⟩, ?_⟩
  refine r_il1 (q := 1) d_MA_showHeap_0 rfl ?_
  refine r_zlt (tgt := 21) (q := 4) d_MA_showHeap_1 rfl rfl (fun e1 => ?_) (fun e1 => ?_)
  · skip
    refine r_ic (v := 0) (q := 22) d_MA_showHeap_21 rfl rfl ?_
    refine r_ri d_MA_showHeap_22 ?_
    first | exact h | (split at h <;> first | exact h | (exfalso; ((try simp +decide only [b01, b10, b11, am_up, and_true, and_false, true_and, false_and, if_true, if_false, nn_eq] at *) <;> (try simp only [sw_or, sw_all, or_false, and_true, i32_lt, i32_le, i32_eq, i32_addw, i32_subw, i32_mulw, Int32.reduceToInt] at *) <;> omega)) | (split at h <;> first | exact h | (exfalso; ((try simp +decide only [b01, b10, b11, am_up, and_true, and_false, true_and, false_and, if_true, if_false, nn_eq] at *) <;> (try simp only [sw_or, sw_all, or_false, and_true, i32_lt, i32_le, i32_eq, i32_addw, i32_subw, i32_mulw, Int32.reduceToInt] at *) <;> omega))))
  · skip
    refine r_il1 (q := 5) d_MA_showHeap_4 rfl ?_
    refine r_al0 (q := 6) d_MA_showHeap_5 rfl ?_
    refine gt_MA_heapTaken (q := 9) d_MA_showHeap_6 rfl rfl ?_
    refine r_cge (tgt := 21) (q := 12) d_MA_showHeap_9 rfl rfl (fun e9 => ?_) (fun e9 => ?_)
    · skip
      refine r_ic (v := 0) (q := 22) d_MA_showHeap_21 rfl rfl ?_
      refine r_ri d_MA_showHeap_22 ?_
      first | exact h | (split at h <;> first | exact h | (exfalso; ((try simp +decide only [b01, b10, b11, am_up, and_true, and_false, true_and, false_and, if_true, if_false, nn_eq] at *) <;> (try simp only [sw_or, sw_all, or_false, and_true, i32_lt, i32_le, i32_eq, i32_addw, i32_subw, i32_mulw, Int32.reduceToInt] at *) <;> omega)) | (split at h <;> first | exact h | (exfalso; ((try simp +decide only [b01, b10, b11, am_up, and_true, and_false, true_and, false_and, if_true, if_false, nn_eq] at *) <;> (try simp only [sw_or, sw_all, or_false, and_true, i32_lt, i32_le, i32_eq, i32_addw, i32_subw, i32_mulw, Int32.reduceToInt] at *) <;> omega))))
    · skip
      refine r_al0 (q := 13) d_MA_showHeap_12 rfl ?_
      refine gt_MA_heapCells (q := 16) d_MA_showHeap_13 rfl rfl ?_
      refine r_il1 (q := 17) d_MA_showHeap_16 rfl ?_
      refine ld_140 (q := 18) d_MA_showHeap_17 ?_ rfl ?_
      · (refine vp_of ?_ ?_ <;> (((try simp +decide only [b01, b10, b11, am_up, and_true, and_false, true_and, false_and, if_true, if_false, nn_eq] at *) <;> (try simp only [sw_or, sw_all, or_false, and_true, i32_lt, i32_le, i32_eq, i32_addw, i32_subw, i32_mulw, Int32.reduceToInt] at *) <;> omega)))
      refine am_go (tgt := 22) d_MA_showHeap_18 rfl ?_
      refine r_ri d_MA_showHeap_22 ?_
      first | exact h | (split at h <;> first | exact h | (exfalso; ((try simp +decide only [b01, b10, b11, am_up, and_true, and_false, true_and, false_and, if_true, if_false, nn_eq] at *) <;> (try simp only [sw_or, sw_all, or_false, and_true, i32_lt, i32_le, i32_eq, i32_addw, i32_subw, i32_mulw, Int32.reduceToInt] at *) <;> omega)) | (split at h <;> first | exact h | (exfalso; ((try simp +decide only [b01, b10, b11, am_up, and_true, and_false, true_and, false_and, if_true, if_false, nn_eq] at *) <;> (try simp only [sw_or, sw_all, or_false, and_true, i32_lt, i32_le, i32_eq, i32_addw, i32_subw, i32_mulw, Int32.reduceToInt] at *) <;> omega))))
theorem sp_FW_heap {x : Int32} {st : am_S} {f : Int32 → am_S → Prop} (c1 : (st 520 0).toInt ≤ 120) (h : f (if x = -1 then st 520 0 else if 0 ≤ x ∧ x < st 520 0 then st 2140 x.toNatClampNeg else 0) st) : wp_FW_heap [.inr (.inl 123), .inl x] st (am_ki f) := by
  refine ⟨⟨rfl, Nat.le_of_ble_eq_true rfl⟩, ?_⟩
  refine r_il1 (q := 1) d_FW_heap_0 rfl ?_
  refine r_ic (v := -1) (q := 2) d_FW_heap_1 rfl rfl ?_
  refine r_cne (tgt := 15) (q := 5) d_FW_heap_2 rfl rfl (fun e2 => ?_) (fun e2 => ?_)
  · skip
    refine r_al0 (q := 16) d_FW_heap_15 rfl ?_
    refine gt_FW_machine (q := 19) d_FW_heap_16 rfl rfl ?_
    refine r_il1 (q := 20) d_FW_heap_19 rfl ?_
    refine r_vi1 mo_MA_showHeap d_FW_heap_20 rfl rfl rfl (q := 23) rfl ?_
    refine sp_MA_showHeap (by first | assumption | omega | decide | ((try simp +decide only [b01, b10, b11, am_up, and_true, and_false, true_and, false_and, if_true, if_false, nn_eq] at *) <;> (try simp only [sw_or, sw_all, or_false, and_true, i32_lt, i32_le, i32_eq, i32_addw, i32_subw, i32_mulw, Int32.reduceToInt] at *) <;> omega) | (apply_assumption; done)) ?_
    refine r_ri d_FW_heap_23 ?_
    first | exact h | (split at h <;> first | exact h | (exfalso; ((try simp +decide only [b01, b10, b11, am_up, and_true, and_false, true_and, false_and, if_true, if_false, nn_eq] at *) <;> (try simp only [sw_or, sw_all, or_false, and_true, i32_lt, i32_le, i32_eq, i32_addw, i32_subw, i32_mulw, Int32.reduceToInt] at *) <;> omega)) | (split at h <;> first | exact h | (exfalso; ((try simp +decide only [b01, b10, b11, am_up, and_true, and_false, true_and, false_and, if_true, if_false, nn_eq] at *) <;> (try simp only [sw_or, sw_all, or_false, and_true, i32_lt, i32_le, i32_eq, i32_addw, i32_subw, i32_mulw, Int32.reduceToInt] at *) <;> omega))))
  · skip
    refine r_al0 (q := 6) d_FW_heap_5 rfl ?_
    refine gt_FW_machine (q := 9) d_FW_heap_6 rfl rfl ?_
    refine gt_MA_heapTaken (q := 12) d_FW_heap_9 rfl rfl ?_
    refine am_go (tgt := 23) d_FW_heap_12 rfl ?_
    refine r_ri d_FW_heap_23 ?_
    first | exact h | (split at h <;> first | exact h | (exfalso; ((try simp +decide only [b01, b10, b11, am_up, and_true, and_false, true_and, false_and, if_true, if_false, nn_eq] at *) <;> (try simp only [sw_or, sw_all, or_false, and_true, i32_lt, i32_le, i32_eq, i32_addw, i32_subw, i32_mulw, Int32.reduceToInt] at *) <;> omega)) | (split at h <;> first | exact h | (exfalso; ((try simp +decide only [b01, b10, b11, am_up, and_true, and_false, true_and, false_and, if_true, if_false, nn_eq] at *) <;> (try simp only [sw_or, sw_all, or_false, and_true, i32_lt, i32_le, i32_eq, i32_addw, i32_subw, i32_mulw, Int32.reduceToInt] at *) <;> omega))))
theorem sp_FW_argument {x : Int32} {st : am_S} {f : Int32 → am_S → Prop} (c1 : 0 ≤ (st 261 0).toInt) (h1 : 4 ≤ st 261 0 → f 0 st) (h2 : st 261 0 < 4 → f 1 (am_up (am_up st 2141 (st 261 0).toNatClampNeg x) 261 0 (st 261 0 + 1))) : wp_FW_argument [.inr (.inl 123), .inl x] st (am_ki f) := by
  refine ⟨⟨rfl, Nat.le_of_ble_eq_true rfl⟩, ?_⟩
  refine r_al0 (q := 1) d_FW_argument_0 rfl ?_
  refine gt_FW_givenCount (q := 4) d_FW_argument_1 rfl rfl ?_
  refine r_ic (v := 4) (q := 5) d_FW_argument_4 rfl rfl ?_
  refine r_clt (tgt := 10) (q := 8) d_FW_argument_5 rfl rfl (fun e5 => ?_) (fun e5 => ?_)
  · skip
    refine r_al0 (q := 11) d_FW_argument_10 rfl ?_
    refine gt_FW_given (q := 14) d_FW_argument_11 rfl rfl ?_
    refine r_al0 (q := 15) d_FW_argument_14 rfl ?_
    refine gt_FW_givenCount (q := 18) d_FW_argument_15 rfl rfl ?_
    refine r_il1 (q := 19) d_FW_argument_18 rfl ?_
    refine sv_141 (q := 20) d_FW_argument_19 ?_ rfl ?_
    · (refine vp_of ?_ ?_ <;> (((try simp +decide only [b01, b10, b11, am_up, and_true, and_false, true_and, false_and, if_true, if_false, nn_eq] at *) <;> (try simp only [sw_or, sw_all, or_false, and_true, i32_lt, i32_le, i32_eq, i32_addw, i32_subw, i32_mulw, Int32.reduceToInt] at *) <;> omega)))
    refine r_al0 (q := 21) d_FW_argument_20 rfl ?_
    refine r_dupr (q := 22) d_FW_argument_21 rfl ?_
    refine gt_FW_givenCount (q := 25) d_FW_argument_22 rfl rfl ?_
    refine r_ic (v := 1) (q := 26) d_FW_argument_25 rfl rfl ?_
    refine r_iadd (q := 27) d_FW_argument_26 rfl ?_
    refine pt_FW_givenCount (q := 30) d_FW_argument_27 rfl rfl ?_
    refine r_ic (v := 1) (q := 31) d_FW_argument_30 rfl rfl ?_
    refine r_rz d_FW_argument_31 (by first | assumption | omega | decide | ((try simp +decide only [b01, b10, b11, am_up, and_true, and_false, true_and, false_and, if_true, if_false, nn_eq] at *) <;> (try simp only [sw_or, sw_all, or_false, and_true, i32_lt, i32_le, i32_eq, i32_addw, i32_subw, i32_mulw, Int32.reduceToInt] at *) <;> omega) | (apply_assumption; done)) ?_
    first | (refine h1 ?_ <;> ((try simp +decide only [b01, b10, b11, am_up, and_true, and_false, true_and, false_and, if_true, if_false, nn_eq] at *) <;> (try simp only [sw_or, sw_all, or_false, and_true, i32_lt, i32_le, i32_eq, i32_addw, i32_subw, i32_mulw, Int32.reduceToInt] at *) <;> omega)) | (refine h2 ?_ <;> ((try simp +decide only [b01, b10, b11, am_up, and_true, and_false, true_and, false_and, if_true, if_false, nn_eq] at *) <;> (try simp only [sw_or, sw_all, or_false, and_true, i32_lt, i32_le, i32_eq, i32_addw, i32_subw, i32_mulw, Int32.reduceToInt] at *) <;> omega)) | (exfalso; ((try simp +decide only [b01, b10, b11, am_up, and_true, and_false, true_and, false_and, if_true, if_false, nn_eq] at *) <;> (try simp only [sw_or, sw_all, or_false, and_true, i32_lt, i32_le, i32_eq, i32_addw, i32_subw, i32_mulw, Int32.reduceToInt] at *) <;> omega))
  · skip
    refine r_ic (v := 0) (q := 9) d_FW_argument_8 rfl rfl ?_
    refine r_rz d_FW_argument_9 (by first | assumption | omega | decide | ((try simp +decide only [b01, b10, b11, am_up, and_true, and_false, true_and, false_and, if_true, if_false, nn_eq] at *) <;> (try simp only [sw_or, sw_all, or_false, and_true, i32_lt, i32_le, i32_eq, i32_addw, i32_subw, i32_mulw, Int32.reduceToInt] at *) <;> omega) | (apply_assumption; done)) ?_
    first | (refine h1 ?_ <;> ((try simp +decide only [b01, b10, b11, am_up, and_true, and_false, true_and, false_and, if_true, if_false, nn_eq] at *) <;> (try simp only [sw_or, sw_all, or_false, and_true, i32_lt, i32_le, i32_eq, i32_addw, i32_subw, i32_mulw, Int32.reduceToInt] at *) <;> omega)) | (refine h2 ?_ <;> ((try simp +decide only [b01, b10, b11, am_up, and_true, and_false, true_and, false_and, if_true, if_false, nn_eq] at *) <;> (try simp only [sw_or, sw_all, or_false, and_true, i32_lt, i32_le, i32_eq, i32_addw, i32_subw, i32_mulw, Int32.reduceToInt] at *) <;> omega)) | (exfalso; ((try simp +decide only [b01, b10, b11, am_up, and_true, and_false, true_and, false_and, if_true, if_false, nn_eq] at *) <;> (try simp only [sw_or, sw_all, or_false, and_true, i32_lt, i32_le, i32_eq, i32_addw, i32_subw, i32_mulw, Int32.reduceToInt] at *) <;> omega))
theorem sp_MO_argument {x : Int32} {st : am_S} {f : Int32 → am_S → Prop} (c1 : 0 ≤ (st 601 0).toInt) (c2 : (st 601 0).toInt ≤ 4) (h1 : st 601 0 = 4 → f 0 (am_up st 576 0 0)) (h2 : ¬ st 601 0 = 4 → f 1 (am_up (am_up (am_up st 576 0 0) 2159 (st 601 0).toNatClampNeg x) 601 0 (st 601 0 + 1))) : wp_MO_argument [.inr (.inl 128), .inl x] st (am_ki f) := by
  refine ⟨⟨rfl, Nat.le_of_ble_eq_true rfl⟩, ?_⟩
  refine r_al0 (q := 1) d_MO_argument_0 rfl ?_
  refine r_ic (v := 0) (q := 2) d_MO_argument_1 rfl rfl ?_
  refine pt_MO_thrown (q := 5) d_MO_argument_2 rfl rfl ?_
  refine r_al0 (q := 6) d_MO_argument_5 rfl ?_
  refine gt_MO_arguments (q := 9) d_MO_argument_6 rfl rfl ?_
  refine r_ic (v := 4) (q := 10) d_MO_argument_9 rfl rfl ?_
  refine r_cne (tgt := 15) (q := 13) d_MO_argument_10 rfl rfl (fun e10 => ?_) (fun e10 => ?_)
  · skip
    refine r_al0 (q := 16) d_MO_argument_15 rfl ?_
    refine gt_MO_argument (q := 19) d_MO_argument_16 rfl rfl ?_
    refine r_al0 (q := 20) d_MO_argument_19 rfl ?_
    refine gt_MO_arguments (q := 23) d_MO_argument_20 rfl rfl ?_
    refine r_il1 (q := 24) d_MO_argument_23 rfl ?_
    refine sv_159 (q := 25) d_MO_argument_24 ?_ rfl ?_
    · (refine vp_of ?_ ?_ <;> (((try simp +decide only [b01, b10, b11, am_up, and_true, and_false, true_and, false_and, if_true, if_false, nn_eq] at *) <;> (try simp only [sw_or, sw_all, or_false, and_true, i32_lt, i32_le, i32_eq, i32_addw, i32_subw, i32_mulw, Int32.reduceToInt] at *) <;> omega)))
    refine r_al0 (q := 26) d_MO_argument_25 rfl ?_
    refine r_dupr (q := 27) d_MO_argument_26 rfl ?_
    refine gt_MO_arguments (q := 30) d_MO_argument_27 rfl rfl ?_
    refine r_ic (v := 1) (q := 31) d_MO_argument_30 rfl rfl ?_
    refine r_iadd (q := 32) d_MO_argument_31 rfl ?_
    refine pt_MO_arguments (q := 35) d_MO_argument_32 rfl rfl ?_
    refine r_ic (v := 1) (q := 36) d_MO_argument_35 rfl rfl ?_
    refine r_rz d_MO_argument_36 (by first | assumption | omega | decide | ((try simp +decide only [b01, b10, b11, am_up, and_true, and_false, true_and, false_and, if_true, if_false, nn_eq] at *) <;> (try simp only [sw_or, sw_all, or_false, and_true, i32_lt, i32_le, i32_eq, i32_addw, i32_subw, i32_mulw, Int32.reduceToInt] at *) <;> omega) | (apply_assumption; done)) ?_
    first | (refine h1 ?_ <;> ((try simp +decide only [b01, b10, b11, am_up, and_true, and_false, true_and, false_and, if_true, if_false, nn_eq] at *) <;> (try simp only [sw_or, sw_all, or_false, and_true, i32_lt, i32_le, i32_eq, i32_addw, i32_subw, i32_mulw, Int32.reduceToInt] at *) <;> omega)) | (refine h2 ?_ <;> ((try simp +decide only [b01, b10, b11, am_up, and_true, and_false, true_and, false_and, if_true, if_false, nn_eq] at *) <;> (try simp only [sw_or, sw_all, or_false, and_true, i32_lt, i32_le, i32_eq, i32_addw, i32_subw, i32_mulw, Int32.reduceToInt] at *) <;> omega)) | (exfalso; ((try simp +decide only [b01, b10, b11, am_up, and_true, and_false, true_and, false_and, if_true, if_false, nn_eq] at *) <;> (try simp only [sw_or, sw_all, or_false, and_true, i32_lt, i32_le, i32_eq, i32_addw, i32_subw, i32_mulw, Int32.reduceToInt] at *) <;> omega))
  · skip
    refine r_ic (v := 0) (q := 14) d_MO_argument_13 rfl rfl ?_
    refine r_rz d_MO_argument_14 (by first | assumption | omega | decide | ((try simp +decide only [b01, b10, b11, am_up, and_true, and_false, true_and, false_and, if_true, if_false, nn_eq] at *) <;> (try simp only [sw_or, sw_all, or_false, and_true, i32_lt, i32_le, i32_eq, i32_addw, i32_subw, i32_mulw, Int32.reduceToInt] at *) <;> omega) | (apply_assumption; done)) ?_
    first | (refine h1 ?_ <;> ((try simp +decide only [b01, b10, b11, am_up, and_true, and_false, true_and, false_and, if_true, if_false, nn_eq] at *) <;> (try simp only [sw_or, sw_all, or_false, and_true, i32_lt, i32_le, i32_eq, i32_addw, i32_subw, i32_mulw, Int32.reduceToInt] at *) <;> omega)) | (refine h2 ?_ <;> ((try simp +decide only [b01, b10, b11, am_up, and_true, and_false, true_and, false_and, if_true, if_false, nn_eq] at *) <;> (try simp only [sw_or, sw_all, or_false, and_true, i32_lt, i32_le, i32_eq, i32_addw, i32_subw, i32_mulw, Int32.reduceToInt] at *) <;> omega)) | (exfalso; ((try simp +decide only [b01, b10, b11, am_up, and_true, and_false, true_and, false_and, if_true, if_false, nn_eq] at *) <;> (try simp only [sw_or, sw_all, or_false, and_true, i32_lt, i32_le, i32_eq, i32_addw, i32_subw, i32_mulw, Int32.reduceToInt] at *) <;> omega))

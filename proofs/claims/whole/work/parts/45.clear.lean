/-! written by wip/whole/gen/walk.py out of 45.clear.txt -/
theorem lp_MA_empty : ∀ (d : Nat) (x : Int32) (st : am_S) {f : am_S → Prop}, 0 ≤ x.toInt → x.toInt + d = 8 → f (am_up (am_fill st 2139 x.toNatClampNeg d 0) 520 0 0) → am_AW c_MA_emptyStaticsAndHeap g_MA_emptyStaticsAndHeap (fun o st' => am_ok none o ∧ am_kv f o st') 2 [some (.inr (.inl 127)), some (.inl x)] [] st := by
  intro d
  induction d with
  | zero =>
    intro x st f c1 c2 h
    rw [am_fill_zero] at h
    refine r_il1 (q := 3) d_MA_emptyStaticsAndHeap_2 rfl ?_
    refine r_bp (v := 8) (q := 5) d_MA_emptyStaticsAndHeap_3 rfl rfl ?_
    refine r_cge (tgt := 21) (q := 8) d_MA_emptyStaticsAndHeap_5 rfl rfl (fun e5 => ?_) (fun e5 => ?_)
    · skip
      refine r_al0 (q := 22) d_MA_emptyStaticsAndHeap_21 rfl ?_
      refine r_ic (v := 0) (q := 23) d_MA_emptyStaticsAndHeap_22 rfl rfl ?_
      refine pt_MA_heapTaken (q := 26) d_MA_emptyStaticsAndHeap_23 rfl rfl ?_
      refine r_rv d_MA_emptyStaticsAndHeap_26 ?_
      exact h
    · skip
      refine r_al0 (q := 9) d_MA_emptyStaticsAndHeap_8 rfl ?_
      refine gt_MA_statics (q := 12) d_MA_emptyStaticsAndHeap_9 rfl rfl ?_
      refine r_il1 (q := 13) d_MA_emptyStaticsAndHeap_12 rfl ?_
      refine r_ic (v := 0) (q := 14) d_MA_emptyStaticsAndHeap_13 rfl rfl ?_
      refine sv_139 (q := 15) d_MA_emptyStaticsAndHeap_14 ?_ rfl ?_
      · (refine vp_of ?_ ?_ <;> (((try simp +decide only [b01, b10, b11, am_up, and_true, and_false, true_and, false_and, if_true, if_false, nn_eq] at *) <;> (try simp only [sw_or, sw_all, or_false, and_true, i32_lt, i32_le, i32_eq, i32_addw, i32_subw, i32_mulw, Int32.reduceToInt] at *) <;> omega)))
      refine r_in1 (v := 1) (q := 18) d_MA_emptyStaticsAndHeap_15 rfl rfl ?_
      refine am_go (tgt := 2) d_MA_emptyStaticsAndHeap_18 rfl ?_
      exfalso; ((try simp +decide only [b01, b10, b11, am_up, and_true, and_false, true_and, false_and, if_true, if_false, nn_eq] at *) <;> (try simp only [sw_or, sw_all, or_false, and_true, i32_lt, i32_le, i32_eq, i32_addw, i32_subw, i32_mulw, Int32.reduceToInt] at *) <;> omega)
  | succ d ih =>
    intro x st f c1 c2 h
    refine r_il1 (q := 3) d_MA_emptyStaticsAndHeap_2 rfl ?_
    refine r_bp (v := 8) (q := 5) d_MA_emptyStaticsAndHeap_3 rfl rfl ?_
    refine r_cge (tgt := 21) (q := 8) d_MA_emptyStaticsAndHeap_5 rfl rfl (fun e5 => ?_) (fun e5 => ?_)
    · skip
      refine r_al0 (q := 22) d_MA_emptyStaticsAndHeap_21 rfl ?_
      refine r_ic (v := 0) (q := 23) d_MA_emptyStaticsAndHeap_22 rfl rfl ?_
      refine pt_MA_heapTaken (q := 26) d_MA_emptyStaticsAndHeap_23 rfl rfl ?_
      refine r_rv d_MA_emptyStaticsAndHeap_26 ?_
      exfalso; ((try simp +decide only [b01, b10, b11, am_up, and_true, and_false, true_and, false_and, if_true, if_false, nn_eq] at *) <;> (try simp only [sw_or, sw_all, or_false, and_true, i32_lt, i32_le, i32_eq, i32_addw, i32_subw, i32_mulw, Int32.reduceToInt] at *) <;> omega)
    · skip
      refine r_al0 (q := 9) d_MA_emptyStaticsAndHeap_8 rfl ?_
      refine gt_MA_statics (q := 12) d_MA_emptyStaticsAndHeap_9 rfl rfl ?_
      refine r_il1 (q := 13) d_MA_emptyStaticsAndHeap_12 rfl ?_
      refine r_ic (v := 0) (q := 14) d_MA_emptyStaticsAndHeap_13 rfl rfl ?_
      refine sv_139 (q := 15) d_MA_emptyStaticsAndHeap_14 ?_ rfl ?_
      · (refine vp_of ?_ ?_ <;> (((try simp +decide only [b01, b10, b11, am_up, and_true, and_false, true_and, false_and, if_true, if_false, nn_eq] at *) <;> (try simp only [sw_or, sw_all, or_false, and_true, i32_lt, i32_le, i32_eq, i32_addw, i32_subw, i32_mulw, Int32.reduceToInt] at *) <;> omega)))
      refine r_in1 (v := 1) (q := 18) d_MA_emptyStaticsAndHeap_15 rfl rfl ?_
      refine am_go (tgt := 2) d_MA_emptyStaticsAndHeap_18 rfl ?_
      refine ih _ _ (by first | assumption | omega | decide | ((try simp +decide only [b01, b10, b11, am_up, and_true, and_false, true_and, false_and, if_true, if_false, nn_eq] at *) <;> (try simp only [sw_or, sw_all, or_false, and_true, i32_lt, i32_le, i32_eq, i32_addw, i32_subw, i32_mulw, Int32.reduceToInt] at *) <;> omega) | (apply_assumption; done)) (by first | assumption | omega | decide | ((try simp +decide only [b01, b10, b11, am_up, and_true, and_false, true_and, false_and, if_true, if_false, nn_eq] at *) <;> (try simp only [sw_or, sw_all, or_false, and_true, i32_lt, i32_le, i32_eq, i32_addw, i32_subw, i32_mulw, Int32.reduceToInt] at *) <;> omega) | (apply_assumption; done)) ?_; rw [am_fill_step (by first | assumption | omega | decide | ((try simp +decide only [b01, b10, b11, am_up, and_true, and_false, true_and, false_and, if_true, if_false, nn_eq] at *) <;> (try simp only [sw_or, sw_all, or_false, and_true, i32_lt, i32_le, i32_eq, i32_addw, i32_subw, i32_mulw, Int32.reduceToInt] at *) <;> omega) | (apply_assumption; done))]; exact h
theorem sp_MA_emptyStaticsAndHeap {st : am_S} {f : am_S → Prop} (h : f (am_up (am_fill st 2139 0 8 0) 520 0 0)) : wp_MA_emptyStaticsAndHeap [.inr (.inl 127)] st (am_kv f) := by
  refine ⟨⟨rfl, Nat.le_of_ble_eq_true rfl⟩, ?_⟩
  refine r_ic (v := 0) (q := 1) d_MA_emptyStaticsAndHeap_0 rfl rfl ?_
  refine r_is1 (q := 2) d_MA_emptyStaticsAndHeap_1 rfl ?_
  exact lp_MA_empty 8 0 st (by decide) (by decide) h
theorem sp_MA_forget {st : am_S} {f : am_S → Prop} (h : f (am_up (am_fill (am_up (am_up (am_up st 521 0 0) 522 0 0) 519 0 0) 2139 0 8 0) 520 0 0)) : wp_MA_forget [.inr (.inl 127)] st (am_kv f) := by
  refine ⟨⟨rfl, Nat.le_of_ble_eq_true rfl⟩, ?_⟩
  refine r_al0 (q := 1) d_MA_forget_0 rfl ?_
  refine r_ic (v := 0) (q := 2) d_MA_forget_1 rfl rfl ?_
  refine r_vv1 mo_MA_end d_MA_forget_2 rfl rfl rfl (q := 5) rfl ?_
  refine sp_MA_end ?_
  refine r_al0 (q := 6) d_MA_forget_5 rfl ?_
  refine r_vv0 mo_MA_emptyStaticsAndHeap d_MA_forget_6 rfl rfl rfl (q := 9) rfl ?_
  refine sp_MA_emptyStaticsAndHeap ?_
  refine r_rv d_MA_forget_9 ?_
  exact h
theorem sp_FW_clear {st : am_S} {f : am_S → Prop} (h : f (am_up (am_up (am_up (am_up (am_fill (am_up (am_up (am_up (am_up (am_up st 322 0 0) 323 0 0) 521 0 0) 522 0 0) 519 0 0) 2139 0 8 0) 520 0 0) 261 0 0) 262 0 0) 263 0 (-1))) : wp_FW_clear [.inr (.inl 123)] st (am_kv f) := by
  refine ⟨⟨rfl, Nat.le_of_ble_eq_true rfl⟩, ?_⟩
  refine r_al0 (q := 1) d_FW_clear_0 rfl ?_
  refine gt_FW_code (q := 4) d_FW_clear_1 rfl rfl ?_
  refine r_vv0 mo_CO_forget d_FW_clear_4 rfl rfl rfl (q := 7) rfl ?_
  refine sp_CO_forget ?_
  refine r_al0 (q := 8) d_FW_clear_7 rfl ?_
  refine gt_FW_machine (q := 11) d_FW_clear_8 rfl rfl ?_
  refine r_vv0 mo_MA_forget d_FW_clear_11 rfl rfl rfl (q := 14) rfl ?_
  refine sp_MA_forget ?_
  refine r_al0 (q := 15) d_FW_clear_14 rfl ?_
  refine r_ic (v := 0) (q := 16) d_FW_clear_15 rfl rfl ?_
  refine pt_FW_givenCount (q := 19) d_FW_clear_16 rfl rfl ?_
  refine r_al0 (q := 20) d_FW_clear_19 rfl ?_
  refine r_ic (v := 0) (q := 21) d_FW_clear_20 rfl rfl ?_
  refine pt_FW_verified (q := 24) d_FW_clear_21 rfl (by first | assumption | omega | decide | ((try simp +decide only [b01, b10, b11, am_up, and_true, and_false, true_and, false_and, if_true, if_false, nn_eq] at *) <;> (try simp only [sw_or, sw_all, or_false, and_true, i32_lt, i32_le, i32_eq, i32_addw, i32_subw, i32_mulw, Int32.reduceToInt] at *) <;> omega) | (apply_assumption; done)) rfl ?_
  refine r_al0 (q := 25) d_FW_clear_24 rfl ?_
  refine r_ic (v := -1) (q := 26) d_FW_clear_25 rfl rfl ?_
  refine pt_FW_latestFault (q := 29) d_FW_clear_26 rfl rfl ?_
  refine r_rv d_FW_clear_29 ?_
  exact h
theorem lp_MO_clear : ∀ (d : Nat) (x : Int32) (st : am_S) {f : am_S → Prop}, 0 ≤ x.toInt → x.toInt + d = 8 → f (am_fill st 2160 x.toNatClampNeg d 0) → am_AW c_MO_clear g_MO_clear (fun o st' => am_ok none o ∧ am_kv f o st') 52 [some (.inr (.inl 128)), some (.inl x)] [] st := by
  intro d
  induction d with
  | zero =>
    intro x st f c1 c2 h
    rw [am_fill_zero] at h
    refine r_il1 (q := 53) d_MO_clear_52 rfl ?_
    refine r_bp (v := 8) (q := 55) d_MO_clear_53 rfl rfl ?_
    refine r_cge (tgt := 71) (q := 58) d_MO_clear_55 rfl rfl (fun e55 => ?_) (fun e55 => ?_)
    · skip
      refine r_rv d_MO_clear_71 ?_
      exact h
    · skip
      refine r_al0 (q := 59) d_MO_clear_58 rfl ?_
      refine gt_MO_statics (q := 62) d_MO_clear_59 rfl rfl ?_
      refine r_il1 (q := 63) d_MO_clear_62 rfl ?_
      refine r_ic (v := 0) (q := 64) d_MO_clear_63 rfl rfl ?_
      refine sv_160 (q := 65) d_MO_clear_64 ?_ rfl ?_
      · (refine vp_of ?_ ?_ <;> (((try simp +decide only [b01, b10, b11, am_up, and_true, and_false, true_and, false_and, if_true, if_false, nn_eq] at *) <;> (try simp only [sw_or, sw_all, or_false, and_true, i32_lt, i32_le, i32_eq, i32_addw, i32_subw, i32_mulw, Int32.reduceToInt] at *) <;> omega)))
      refine r_in1 (v := 1) (q := 68) d_MO_clear_65 rfl rfl ?_
      refine am_go (tgt := 52) d_MO_clear_68 rfl ?_
      exfalso; ((try simp +decide only [b01, b10, b11, am_up, and_true, and_false, true_and, false_and, if_true, if_false, nn_eq] at *) <;> (try simp only [sw_or, sw_all, or_false, and_true, i32_lt, i32_le, i32_eq, i32_addw, i32_subw, i32_mulw, Int32.reduceToInt] at *) <;> omega)
  | succ d ih =>
    intro x st f c1 c2 h
    refine r_il1 (q := 53) d_MO_clear_52 rfl ?_
    refine r_bp (v := 8) (q := 55) d_MO_clear_53 rfl rfl ?_
    refine r_cge (tgt := 71) (q := 58) d_MO_clear_55 rfl rfl (fun e55 => ?_) (fun e55 => ?_)
    · skip
      refine r_rv d_MO_clear_71 ?_
      exfalso; ((try simp +decide only [b01, b10, b11, am_up, and_true, and_false, true_and, false_and, if_true, if_false, nn_eq] at *) <;> (try simp only [sw_or, sw_all, or_false, and_true, i32_lt, i32_le, i32_eq, i32_addw, i32_subw, i32_mulw, Int32.reduceToInt] at *) <;> omega)
    · skip
      refine r_al0 (q := 59) d_MO_clear_58 rfl ?_
      refine gt_MO_statics (q := 62) d_MO_clear_59 rfl rfl ?_
      refine r_il1 (q := 63) d_MO_clear_62 rfl ?_
      refine r_ic (v := 0) (q := 64) d_MO_clear_63 rfl rfl ?_
      refine sv_160 (q := 65) d_MO_clear_64 ?_ rfl ?_
      · (refine vp_of ?_ ?_ <;> (((try simp +decide only [b01, b10, b11, am_up, and_true, and_false, true_and, false_and, if_true, if_false, nn_eq] at *) <;> (try simp only [sw_or, sw_all, or_false, and_true, i32_lt, i32_le, i32_eq, i32_addw, i32_subw, i32_mulw, Int32.reduceToInt] at *) <;> omega)))
      refine r_in1 (v := 1) (q := 68) d_MO_clear_65 rfl rfl ?_
      refine am_go (tgt := 52) d_MO_clear_68 rfl ?_
      refine ih _ _ (by first | assumption | omega | decide | ((try simp +decide only [b01, b10, b11, am_up, and_true, and_false, true_and, false_and, if_true, if_false, nn_eq] at *) <;> (try simp only [sw_or, sw_all, or_false, and_true, i32_lt, i32_le, i32_eq, i32_addw, i32_subw, i32_mulw, Int32.reduceToInt] at *) <;> omega) | (apply_assumption; done)) (by first | assumption | omega | decide | ((try simp +decide only [b01, b10, b11, am_up, and_true, and_false, true_and, false_and, if_true, if_false, nn_eq] at *) <;> (try simp only [sw_or, sw_all, or_false, and_true, i32_lt, i32_le, i32_eq, i32_addw, i32_subw, i32_mulw, Int32.reduceToInt] at *) <;> omega) | (apply_assumption; done)) ?_; rw [am_fill_step (by first | assumption | omega | decide | ((try simp +decide only [b01, b10, b11, am_up, and_true, and_false, true_and, false_and, if_true, if_false, nn_eq] at *) <;> (try simp only [sw_or, sw_all, or_false, and_true, i32_lt, i32_le, i32_eq, i32_addw, i32_subw, i32_mulw, Int32.reduceToInt] at *) <;> omega) | (apply_assumption; done))]; exact h
theorem sp_MO_clear {st : am_S} {f : am_S → Prop} (h : f (am_fill (am_up (am_up (am_up (am_up (am_up (am_up (am_up (am_up (am_up (am_up st 576 0 0) 577 0 0) 579 0 0) 591 0 0) 592 0 (-1)) 601 0 0) 603 0 0) 604 0 0) 610 0 0) 606 0 0) 2160 0 8 0)) : wp_MO_clear [.inr (.inl 128)] st (am_kv f) := by
  refine ⟨⟨rfl, Nat.le_of_ble_eq_true rfl⟩, ?_⟩
  refine r_al0 (q := 1) d_MO_clear_0 rfl ?_
  refine r_ic (v := 0) (q := 2) d_MO_clear_1 rfl rfl ?_
  refine pt_MO_thrown (q := 5) d_MO_clear_2 rfl rfl ?_
  refine r_al0 (q := 6) d_MO_clear_5 rfl ?_
  refine r_ic (v := 0) (q := 7) d_MO_clear_6 rfl rfl ?_
  refine pt_MO_bytes (q := 10) d_MO_clear_7 rfl rfl ?_
  refine r_al0 (q := 11) d_MO_clear_10 rfl ?_
  refine r_ic (v := 0) (q := 12) d_MO_clear_11 rfl rfl ?_
  refine pt_MO_methods (q := 15) d_MO_clear_12 rfl rfl ?_
  refine r_al0 (q := 16) d_MO_clear_15 rfl ?_
  refine r_ic (v := 0) (q := 17) d_MO_clear_16 rfl rfl ?_
  refine pt_MO_verified (q := 20) d_MO_clear_17 rfl (by first | assumption | omega | decide | ((try simp +decide only [b01, b10, b11, am_up, and_true, and_false, true_and, false_and, if_true, if_false, nn_eq] at *) <;> (try simp only [sw_or, sw_all, or_false, and_true, i32_lt, i32_le, i32_eq, i32_addw, i32_subw, i32_mulw, Int32.reduceToInt] at *) <;> omega) | (apply_assumption; done)) rfl ?_
  refine r_al0 (q := 21) d_MO_clear_20 rfl ?_
  refine r_ic (v := -1) (q := 22) d_MO_clear_21 rfl rfl ?_
  refine pt_MO_fault (q := 25) d_MO_clear_22 rfl rfl ?_
  refine r_al0 (q := 26) d_MO_clear_25 rfl ?_
  refine r_ic (v := 0) (q := 27) d_MO_clear_26 rfl rfl ?_
  refine pt_MO_arguments (q := 30) d_MO_clear_27 rfl rfl ?_
  refine r_al0 (q := 31) d_MO_clear_30 rfl ?_
  refine r_ic (v := 0) (q := 32) d_MO_clear_31 rfl rfl ?_
  refine pt_MO_state (q := 35) d_MO_clear_32 rfl rfl ?_
  refine r_al0 (q := 36) d_MO_clear_35 rfl ?_
  refine r_ic (v := 0) (q := 37) d_MO_clear_36 rfl rfl ?_
  refine pt_MO_result (q := 40) d_MO_clear_37 rfl rfl ?_
  refine r_al0 (q := 41) d_MO_clear_40 rfl ?_
  refine r_ic (v := 0) (q := 42) d_MO_clear_41 rfl rfl ?_
  refine pt_MO_frames (q := 45) d_MO_clear_42 rfl rfl ?_
  refine r_al0 (q := 46) d_MO_clear_45 rfl ?_
  refine r_ic (v := 0) (q := 47) d_MO_clear_46 rfl rfl ?_
  refine pt_MO_taken (q := 50) d_MO_clear_47 rfl rfl ?_
  refine r_ic (v := 0) (q := 51) d_MO_clear_50 rfl rfl ?_
  refine r_is1 (q := 52) d_MO_clear_51 rfl ?_
  exact lp_MO_clear 8 0 _ (by decide) (by decide) h

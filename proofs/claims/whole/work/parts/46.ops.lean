/-! written by wip/whole/gen/walk.py out of 46.ops.txt -/
def op_calc (x : Int32) : Prop := sw_or x.toInt [96, 100, 104, 108, 112, 120, 122, 124, 126, 128, 130]
def op_jump (x : Int32) : Prop := (153 ≤ x ∧ x ≤ 167) ∨ x = 198 ∨ x = 199
def op_loc (x : Int32) : Prop := x = 21 ∨ x = 25 ∨ x = 54 ∨ x = 58 ∨ x = 132
def op_s1 (x : Int32) : Prop := sw_or x.toInt [1, 46, 79, 87, 89, 95, 116, 172, 177, 190]
def op_s2 (x : Int32) : Prop := sw_or x.toInt [21, 25, 54, 58, 188]
def op_s3 (x : Int32) : Prop := sw_or x.toInt [17, 132, 178, 179, 184]
theorem sp_OP_isShort {x y : Int32} {st : am_S} {f : Int32 → am_S → Prop} (h1 : y ≤ x ∧ x < y + 4 → f 1 st) (h2 : ¬ (y ≤ x ∧ x < y + 4) → f 0 st) : wp_OP_isShort [.inl x, .inl y] st (am_ki f) := by
  refine ⟨⟨rfl, Nat.le_of_ble_eq_true rfl⟩, ?_⟩
  refine r_il0 (q := 1) d_OP_isShort_0 rfl ?_
  refine r_il1 (q := 2) d_OP_isShort_1 rfl ?_
  refine r_clt (tgt := 16) (q := 5) d_OP_isShort_2 rfl rfl (fun e2 => ?_) (fun e2 => ?_)
  · skip
    refine r_ic (v := 0) (q := 17) d_OP_isShort_16 rfl rfl ?_
    refine r_rz d_OP_isShort_17 (by first | assumption | omega | decide | ((try simp +decide only [b01, b10, b11, am_up, and_true, and_false, true_and, false_and, if_true, if_false, nn_eq] at *) <;> (try simp only [sw_or, sw_all, or_false, and_true, i32_lt, i32_le, i32_eq, i32_addw, i32_subw, i32_mulw, Int32.reduceToInt] at *) <;> omega) | (apply_assumption; done)) ?_
    first | (refine h1 ?_ <;> ((try simp +decide only [b01, b10, b11, am_up, and_true, and_false, true_and, false_and, if_true, if_false, nn_eq] at *) <;> (try simp only [sw_or, sw_all, or_false, and_true, i32_lt, i32_le, i32_eq, i32_addw, i32_subw, i32_mulw, Int32.reduceToInt] at *) <;> omega)) | (refine h2 ?_ <;> ((try simp +decide only [b01, b10, b11, am_up, and_true, and_false, true_and, false_and, if_true, if_false, nn_eq] at *) <;> (try simp only [sw_or, sw_all, or_false, and_true, i32_lt, i32_le, i32_eq, i32_addw, i32_subw, i32_mulw, Int32.reduceToInt] at *) <;> omega)) | (exfalso; ((try simp +decide only [b01, b10, b11, am_up, and_true, and_false, true_and, false_and, if_true, if_false, nn_eq] at *) <;> (try simp only [sw_or, sw_all, or_false, and_true, i32_lt, i32_le, i32_eq, i32_addw, i32_subw, i32_mulw, Int32.reduceToInt] at *) <;> omega))
  · skip
    refine r_il0 (q := 6) d_OP_isShort_5 rfl ?_
    refine r_il1 (q := 7) d_OP_isShort_6 rfl ?_
    refine r_ic (v := 4) (q := 8) d_OP_isShort_7 rfl rfl ?_
    refine r_iadd (q := 9) d_OP_isShort_8 rfl ?_
    refine r_cge (tgt := 16) (q := 12) d_OP_isShort_9 rfl rfl (fun e9 => ?_) (fun e9 => ?_)
    · skip
      refine r_ic (v := 0) (q := 17) d_OP_isShort_16 rfl rfl ?_
      refine r_rz d_OP_isShort_17 (by first | assumption | omega | decide | ((try simp +decide only [b01, b10, b11, am_up, and_true, and_false, true_and, false_and, if_true, if_false, nn_eq] at *) <;> (try simp only [sw_or, sw_all, or_false, and_true, i32_lt, i32_le, i32_eq, i32_addw, i32_subw, i32_mulw, Int32.reduceToInt] at *) <;> omega) | (apply_assumption; done)) ?_
      first | (refine h1 ?_ <;> ((try simp +decide only [b01, b10, b11, am_up, and_true, and_false, true_and, false_and, if_true, if_false, nn_eq] at *) <;> (try simp only [sw_or, sw_all, or_false, and_true, i32_lt, i32_le, i32_eq, i32_addw, i32_subw, i32_mulw, Int32.reduceToInt] at *) <;> omega)) | (refine h2 ?_ <;> ((try simp +decide only [b01, b10, b11, am_up, and_true, and_false, true_and, false_and, if_true, if_false, nn_eq] at *) <;> (try simp only [sw_or, sw_all, or_false, and_true, i32_lt, i32_le, i32_eq, i32_addw, i32_subw, i32_mulw, Int32.reduceToInt] at *) <;> omega)) | (exfalso; ((try simp +decide only [b01, b10, b11, am_up, and_true, and_false, true_and, false_and, if_true, if_false, nn_eq] at *) <;> (try simp only [sw_or, sw_all, or_false, and_true, i32_lt, i32_le, i32_eq, i32_addw, i32_subw, i32_mulw, Int32.reduceToInt] at *) <;> omega))
    · skip
      refine r_ic (v := 1) (q := 13) d_OP_isShort_12 rfl rfl ?_
      refine am_go (tgt := 17) d_OP_isShort_13 rfl ?_
      refine r_rz d_OP_isShort_17 (by first | assumption | omega | decide | ((try simp +decide only [b01, b10, b11, am_up, and_true, and_false, true_and, false_and, if_true, if_false, nn_eq] at *) <;> (try simp only [sw_or, sw_all, or_false, and_true, i32_lt, i32_le, i32_eq, i32_addw, i32_subw, i32_mulw, Int32.reduceToInt] at *) <;> omega) | (apply_assumption; done)) ?_
      first | (refine h1 ?_ <;> ((try simp +decide only [b01, b10, b11, am_up, and_true, and_false, true_and, false_and, if_true, if_false, nn_eq] at *) <;> (try simp only [sw_or, sw_all, or_false, and_true, i32_lt, i32_le, i32_eq, i32_addw, i32_subw, i32_mulw, Int32.reduceToInt] at *) <;> omega)) | (refine h2 ?_ <;> ((try simp +decide only [b01, b10, b11, am_up, and_true, and_false, true_and, false_and, if_true, if_false, nn_eq] at *) <;> (try simp only [sw_or, sw_all, or_false, and_true, i32_lt, i32_le, i32_eq, i32_addw, i32_subw, i32_mulw, Int32.reduceToInt] at *) <;> omega)) | (exfalso; ((try simp +decide only [b01, b10, b11, am_up, and_true, and_false, true_and, false_and, if_true, if_false, nn_eq] at *) <;> (try simp only [sw_or, sw_all, or_false, and_true, i32_lt, i32_le, i32_eq, i32_addw, i32_subw, i32_mulw, Int32.reduceToInt] at *) <;> omega))
theorem sp_OP_isSmallPush {x : Int32} {st : am_S} {f : Int32 → am_S → Prop} (h1 : 2 ≤ x ∧ x ≤ 8 → f 1 st) (h2 : ¬ (2 ≤ x ∧ x ≤ 8) → f 0 st) : wp_OP_isSmallPush [.inl x] st (am_ki f) := by
  refine ⟨⟨rfl, Nat.le_of_ble_eq_true rfl⟩, ?_⟩
  refine r_il0 (q := 1) d_OP_isSmallPush_0 rfl ?_
  refine r_ic (v := 2) (q := 2) d_OP_isSmallPush_1 rfl rfl ?_
  refine r_clt (tgt := 15) (q := 5) d_OP_isSmallPush_2 rfl rfl (fun e2 => ?_) (fun e2 => ?_)
  · skip
    refine r_ic (v := 0) (q := 16) d_OP_isSmallPush_15 rfl rfl ?_
    refine r_rz d_OP_isSmallPush_16 (by first | assumption | omega | decide | ((try simp +decide only [b01, b10, b11, am_up, and_true, and_false, true_and, false_and, if_true, if_false, nn_eq] at *) <;> (try simp only [sw_or, sw_all, or_false, and_true, i32_lt, i32_le, i32_eq, i32_addw, i32_subw, i32_mulw, Int32.reduceToInt] at *) <;> omega) | (apply_assumption; done)) ?_
    first | (refine h1 ?_ <;> ((try simp +decide only [b01, b10, b11, am_up, and_true, and_false, true_and, false_and, if_true, if_false, nn_eq] at *) <;> (try simp only [sw_or, sw_all, or_false, and_true, i32_lt, i32_le, i32_eq, i32_addw, i32_subw, i32_mulw, Int32.reduceToInt] at *) <;> omega)) | (refine h2 ?_ <;> ((try simp +decide only [b01, b10, b11, am_up, and_true, and_false, true_and, false_and, if_true, if_false, nn_eq] at *) <;> (try simp only [sw_or, sw_all, or_false, and_true, i32_lt, i32_le, i32_eq, i32_addw, i32_subw, i32_mulw, Int32.reduceToInt] at *) <;> omega)) | (exfalso; ((try simp +decide only [b01, b10, b11, am_up, and_true, and_false, true_and, false_and, if_true, if_false, nn_eq] at *) <;> (try simp only [sw_or, sw_all, or_false, and_true, i32_lt, i32_le, i32_eq, i32_addw, i32_subw, i32_mulw, Int32.reduceToInt] at *) <;> omega))
  · skip
    refine r_il0 (q := 6) d_OP_isSmallPush_5 rfl ?_
    refine r_bp (v := 8) (q := 8) d_OP_isSmallPush_6 rfl rfl ?_
    refine r_cgt (tgt := 15) (q := 11) d_OP_isSmallPush_8 rfl rfl (fun e8 => ?_) (fun e8 => ?_)
    · skip
      refine r_ic (v := 0) (q := 16) d_OP_isSmallPush_15 rfl rfl ?_
      refine r_rz d_OP_isSmallPush_16 (by first | assumption | omega | decide | ((try simp +decide only [b01, b10, b11, am_up, and_true, and_false, true_and, false_and, if_true, if_false, nn_eq] at *) <;> (try simp only [sw_or, sw_all, or_false, and_true, i32_lt, i32_le, i32_eq, i32_addw, i32_subw, i32_mulw, Int32.reduceToInt] at *) <;> omega) | (apply_assumption; done)) ?_
      first | (refine h1 ?_ <;> ((try simp +decide only [b01, b10, b11, am_up, and_true, and_false, true_and, false_and, if_true, if_false, nn_eq] at *) <;> (try simp only [sw_or, sw_all, or_false, and_true, i32_lt, i32_le, i32_eq, i32_addw, i32_subw, i32_mulw, Int32.reduceToInt] at *) <;> omega)) | (refine h2 ?_ <;> ((try simp +decide only [b01, b10, b11, am_up, and_true, and_false, true_and, false_and, if_true, if_false, nn_eq] at *) <;> (try simp only [sw_or, sw_all, or_false, and_true, i32_lt, i32_le, i32_eq, i32_addw, i32_subw, i32_mulw, Int32.reduceToInt] at *) <;> omega)) | (exfalso; ((try simp +decide only [b01, b10, b11, am_up, and_true, and_false, true_and, false_and, if_true, if_false, nn_eq] at *) <;> (try simp only [sw_or, sw_all, or_false, and_true, i32_lt, i32_le, i32_eq, i32_addw, i32_subw, i32_mulw, Int32.reduceToInt] at *) <;> omega))
    · skip
      refine r_ic (v := 1) (q := 12) d_OP_isSmallPush_11 rfl rfl ?_
      refine am_go (tgt := 16) d_OP_isSmallPush_12 rfl ?_
      refine r_rz d_OP_isSmallPush_16 (by first | assumption | omega | decide | ((try simp +decide only [b01, b10, b11, am_up, and_true, and_false, true_and, false_and, if_true, if_false, nn_eq] at *) <;> (try simp only [sw_or, sw_all, or_false, and_true, i32_lt, i32_le, i32_eq, i32_addw, i32_subw, i32_mulw, Int32.reduceToInt] at *) <;> omega) | (apply_assumption; done)) ?_
      first | (refine h1 ?_ <;> ((try simp +decide only [b01, b10, b11, am_up, and_true, and_false, true_and, false_and, if_true, if_false, nn_eq] at *) <;> (try simp only [sw_or, sw_all, or_false, and_true, i32_lt, i32_le, i32_eq, i32_addw, i32_subw, i32_mulw, Int32.reduceToInt] at *) <;> omega)) | (refine h2 ?_ <;> ((try simp +decide only [b01, b10, b11, am_up, and_true, and_false, true_and, false_and, if_true, if_false, nn_eq] at *) <;> (try simp only [sw_or, sw_all, or_false, and_true, i32_lt, i32_le, i32_eq, i32_addw, i32_subw, i32_mulw, Int32.reduceToInt] at *) <;> omega)) | (exfalso; ((try simp +decide only [b01, b10, b11, am_up, and_true, and_false, true_and, false_and, if_true, if_false, nn_eq] at *) <;> (try simp only [sw_or, sw_all, or_false, and_true, i32_lt, i32_le, i32_eq, i32_addw, i32_subw, i32_mulw, Int32.reduceToInt] at *) <;> omega))
theorem sp_OP_isJump {x : Int32} {st : am_S} {f : Int32 → am_S → Prop} (h1 : op_jump x → f 1 st) (h2 : ¬ op_jump x → f 0 st) : wp_OP_isJump [.inl x] st (am_ki f) := by
  refine ⟨⟨rfl, Nat.le_of_ble_eq_true rfl⟩, ?_⟩
  unfold op_jump at h1 h2
  refine r_il0 (q := 1) d_OP_isJump_0 rfl ?_
  refine r_sp (v := 153) (q := 4) d_OP_isJump_1 rfl rfl ?_
  refine r_clt (tgt := 14) (q := 7) d_OP_isJump_4 rfl rfl (fun e4 => ?_) (fun e4 => ?_)
  · skip
    refine r_il0 (q := 15) d_OP_isJump_14 rfl ?_
    refine r_sp (v := 198) (q := 18) d_OP_isJump_15 rfl rfl ?_
    refine r_ceq (tgt := 28) (q := 21) d_OP_isJump_18 rfl rfl (fun e18 => ?_) (fun e18 => ?_)
    · skip
      refine r_ic (v := 1) (q := 29) d_OP_isJump_28 rfl rfl ?_
      refine am_go (tgt := 33) d_OP_isJump_29 rfl ?_
      refine r_rz d_OP_isJump_33 (by first | assumption | omega | decide | ((try simp +decide only [b01, b10, b11, am_up, and_true, and_false, true_and, false_and, if_true, if_false, nn_eq] at *) <;> (try simp only [sw_or, sw_all, or_false, and_true, i32_lt, i32_le, i32_eq, i32_addw, i32_subw, i32_mulw, Int32.reduceToInt] at *) <;> omega) | (apply_assumption; done)) ?_
      first | (refine h1 ?_ <;> ((try simp +decide only [b01, b10, b11, am_up, and_true, and_false, true_and, false_and, if_true, if_false, nn_eq] at *) <;> (try simp only [sw_or, sw_all, or_false, and_true, i32_lt, i32_le, i32_eq, i32_addw, i32_subw, i32_mulw, Int32.reduceToInt] at *) <;> omega)) | (refine h2 ?_ <;> ((try simp +decide only [b01, b10, b11, am_up, and_true, and_false, true_and, false_and, if_true, if_false, nn_eq] at *) <;> (try simp only [sw_or, sw_all, or_false, and_true, i32_lt, i32_le, i32_eq, i32_addw, i32_subw, i32_mulw, Int32.reduceToInt] at *) <;> omega)) | (exfalso; ((try simp +decide only [b01, b10, b11, am_up, and_true, and_false, true_and, false_and, if_true, if_false, nn_eq] at *) <;> (try simp only [sw_or, sw_all, or_false, and_true, i32_lt, i32_le, i32_eq, i32_addw, i32_subw, i32_mulw, Int32.reduceToInt] at *) <;> omega))
    · skip
      refine r_il0 (q := 22) d_OP_isJump_21 rfl ?_
      refine r_sp (v := 199) (q := 25) d_OP_isJump_22 rfl rfl ?_
      refine r_cne (tgt := 32) (q := 28) d_OP_isJump_25 rfl rfl (fun e25 => ?_) (fun e25 => ?_)
      · skip
        refine r_ic (v := 0) (q := 33) d_OP_isJump_32 rfl rfl ?_
        refine r_rz d_OP_isJump_33 (by first | assumption | omega | decide | ((try simp +decide only [b01, b10, b11, am_up, and_true, and_false, true_and, false_and, if_true, if_false, nn_eq] at *) <;> (try simp only [sw_or, sw_all, or_false, and_true, i32_lt, i32_le, i32_eq, i32_addw, i32_subw, i32_mulw, Int32.reduceToInt] at *) <;> omega) | (apply_assumption; done)) ?_
        first | (refine h1 ?_ <;> ((try simp +decide only [b01, b10, b11, am_up, and_true, and_false, true_and, false_and, if_true, if_false, nn_eq] at *) <;> (try simp only [sw_or, sw_all, or_false, and_true, i32_lt, i32_le, i32_eq, i32_addw, i32_subw, i32_mulw, Int32.reduceToInt] at *) <;> omega)) | (refine h2 ?_ <;> ((try simp +decide only [b01, b10, b11, am_up, and_true, and_false, true_and, false_and, if_true, if_false, nn_eq] at *) <;> (try simp only [sw_or, sw_all, or_false, and_true, i32_lt, i32_le, i32_eq, i32_addw, i32_subw, i32_mulw, Int32.reduceToInt] at *) <;> omega)) | (exfalso; ((try simp +decide only [b01, b10, b11, am_up, and_true, and_false, true_and, false_and, if_true, if_false, nn_eq] at *) <;> (try simp only [sw_or, sw_all, or_false, and_true, i32_lt, i32_le, i32_eq, i32_addw, i32_subw, i32_mulw, Int32.reduceToInt] at *) <;> omega))
      · skip
        refine r_ic (v := 1) (q := 29) d_OP_isJump_28 rfl rfl ?_
        refine am_go (tgt := 33) d_OP_isJump_29 rfl ?_
        refine r_rz d_OP_isJump_33 (by first | assumption | omega | decide | ((try simp +decide only [b01, b10, b11, am_up, and_true, and_false, true_and, false_and, if_true, if_false, nn_eq] at *) <;> (try simp only [sw_or, sw_all, or_false, and_true, i32_lt, i32_le, i32_eq, i32_addw, i32_subw, i32_mulw, Int32.reduceToInt] at *) <;> omega) | (apply_assumption; done)) ?_
        first | (refine h1 ?_ <;> ((try simp +decide only [b01, b10, b11, am_up, and_true, and_false, true_and, false_and, if_true, if_false, nn_eq] at *) <;> (try simp only [sw_or, sw_all, or_false, and_true, i32_lt, i32_le, i32_eq, i32_addw, i32_subw, i32_mulw, Int32.reduceToInt] at *) <;> omega)) | (refine h2 ?_ <;> ((try simp +decide only [b01, b10, b11, am_up, and_true, and_false, true_and, false_and, if_true, if_false, nn_eq] at *) <;> (try simp only [sw_or, sw_all, or_false, and_true, i32_lt, i32_le, i32_eq, i32_addw, i32_subw, i32_mulw, Int32.reduceToInt] at *) <;> omega)) | (exfalso; ((try simp +decide only [b01, b10, b11, am_up, and_true, and_false, true_and, false_and, if_true, if_false, nn_eq] at *) <;> (try simp only [sw_or, sw_all, or_false, and_true, i32_lt, i32_le, i32_eq, i32_addw, i32_subw, i32_mulw, Int32.reduceToInt] at *) <;> omega))
  · skip
    refine r_il0 (q := 8) d_OP_isJump_7 rfl ?_
    refine r_sp (v := 167) (q := 11) d_OP_isJump_8 rfl rfl ?_
    refine r_cle (tgt := 28) (q := 14) d_OP_isJump_11 rfl rfl (fun e11 => ?_) (fun e11 => ?_)
    · skip
      refine r_ic (v := 1) (q := 29) d_OP_isJump_28 rfl rfl ?_
      refine am_go (tgt := 33) d_OP_isJump_29 rfl ?_
      refine r_rz d_OP_isJump_33 (by first | assumption | omega | decide | ((try simp +decide only [b01, b10, b11, am_up, and_true, and_false, true_and, false_and, if_true, if_false, nn_eq] at *) <;> (try simp only [sw_or, sw_all, or_false, and_true, i32_lt, i32_le, i32_eq, i32_addw, i32_subw, i32_mulw, Int32.reduceToInt] at *) <;> omega) | (apply_assumption; done)) ?_
      first | (refine h1 ?_ <;> ((try simp +decide only [b01, b10, b11, am_up, and_true, and_false, true_and, false_and, if_true, if_false, nn_eq] at *) <;> (try simp only [sw_or, sw_all, or_false, and_true, i32_lt, i32_le, i32_eq, i32_addw, i32_subw, i32_mulw, Int32.reduceToInt] at *) <;> omega)) | (refine h2 ?_ <;> ((try simp +decide only [b01, b10, b11, am_up, and_true, and_false, true_and, false_and, if_true, if_false, nn_eq] at *) <;> (try simp only [sw_or, sw_all, or_false, and_true, i32_lt, i32_le, i32_eq, i32_addw, i32_subw, i32_mulw, Int32.reduceToInt] at *) <;> omega)) | (exfalso; ((try simp +decide only [b01, b10, b11, am_up, and_true, and_false, true_and, false_and, if_true, if_false, nn_eq] at *) <;> (try simp only [sw_or, sw_all, or_false, and_true, i32_lt, i32_le, i32_eq, i32_addw, i32_subw, i32_mulw, Int32.reduceToInt] at *) <;> omega))
    · skip
      refine r_il0 (q := 15) d_OP_isJump_14 rfl ?_
      refine r_sp (v := 198) (q := 18) d_OP_isJump_15 rfl rfl ?_
      refine r_ceq (tgt := 28) (q := 21) d_OP_isJump_18 rfl rfl (fun e18 => ?_) (fun e18 => ?_)
      · skip
        refine r_ic (v := 1) (q := 29) d_OP_isJump_28 rfl rfl ?_
        refine am_go (tgt := 33) d_OP_isJump_29 rfl ?_
        refine r_rz d_OP_isJump_33 (by first | assumption | omega | decide | ((try simp +decide only [b01, b10, b11, am_up, and_true, and_false, true_and, false_and, if_true, if_false, nn_eq] at *) <;> (try simp only [sw_or, sw_all, or_false, and_true, i32_lt, i32_le, i32_eq, i32_addw, i32_subw, i32_mulw, Int32.reduceToInt] at *) <;> omega) | (apply_assumption; done)) ?_
        first | (refine h1 ?_ <;> ((try simp +decide only [b01, b10, b11, am_up, and_true, and_false, true_and, false_and, if_true, if_false, nn_eq] at *) <;> (try simp only [sw_or, sw_all, or_false, and_true, i32_lt, i32_le, i32_eq, i32_addw, i32_subw, i32_mulw, Int32.reduceToInt] at *) <;> omega)) | (refine h2 ?_ <;> ((try simp +decide only [b01, b10, b11, am_up, and_true, and_false, true_and, false_and, if_true, if_false, nn_eq] at *) <;> (try simp only [sw_or, sw_all, or_false, and_true, i32_lt, i32_le, i32_eq, i32_addw, i32_subw, i32_mulw, Int32.reduceToInt] at *) <;> omega)) | (exfalso; ((try simp +decide only [b01, b10, b11, am_up, and_true, and_false, true_and, false_and, if_true, if_false, nn_eq] at *) <;> (try simp only [sw_or, sw_all, or_false, and_true, i32_lt, i32_le, i32_eq, i32_addw, i32_subw, i32_mulw, Int32.reduceToInt] at *) <;> omega))
      · skip
        refine r_il0 (q := 22) d_OP_isJump_21 rfl ?_
        refine r_sp (v := 199) (q := 25) d_OP_isJump_22 rfl rfl ?_
        refine r_cne (tgt := 32) (q := 28) d_OP_isJump_25 rfl rfl (fun e25 => ?_) (fun e25 => ?_)
        · skip
          refine r_ic (v := 0) (q := 33) d_OP_isJump_32 rfl rfl ?_
          refine r_rz d_OP_isJump_33 (by first | assumption | omega | decide | ((try simp +decide only [b01, b10, b11, am_up, and_true, and_false, true_and, false_and, if_true, if_false, nn_eq] at *) <;> (try simp only [sw_or, sw_all, or_false, and_true, i32_lt, i32_le, i32_eq, i32_addw, i32_subw, i32_mulw, Int32.reduceToInt] at *) <;> omega) | (apply_assumption; done)) ?_
          first | (refine h1 ?_ <;> ((try simp +decide only [b01, b10, b11, am_up, and_true, and_false, true_and, false_and, if_true, if_false, nn_eq] at *) <;> (try simp only [sw_or, sw_all, or_false, and_true, i32_lt, i32_le, i32_eq, i32_addw, i32_subw, i32_mulw, Int32.reduceToInt] at *) <;> omega)) | (refine h2 ?_ <;> ((try simp +decide only [b01, b10, b11, am_up, and_true, and_false, true_and, false_and, if_true, if_false, nn_eq] at *) <;> (try simp only [sw_or, sw_all, or_false, and_true, i32_lt, i32_le, i32_eq, i32_addw, i32_subw, i32_mulw, Int32.reduceToInt] at *) <;> omega)) | (exfalso; ((try simp +decide only [b01, b10, b11, am_up, and_true, and_false, true_and, false_and, if_true, if_false, nn_eq] at *) <;> (try simp only [sw_or, sw_all, or_false, and_true, i32_lt, i32_le, i32_eq, i32_addw, i32_subw, i32_mulw, Int32.reduceToInt] at *) <;> omega))
        · skip
          refine r_ic (v := 1) (q := 29) d_OP_isJump_28 rfl rfl ?_
          refine am_go (tgt := 33) d_OP_isJump_29 rfl ?_
          refine r_rz d_OP_isJump_33 (by first | assumption | omega | decide | ((try simp +decide only [b01, b10, b11, am_up, and_true, and_false, true_and, false_and, if_true, if_false, nn_eq] at *) <;> (try simp only [sw_or, sw_all, or_false, and_true, i32_lt, i32_le, i32_eq, i32_addw, i32_subw, i32_mulw, Int32.reduceToInt] at *) <;> omega) | (apply_assumption; done)) ?_
          first | (refine h1 ?_ <;> ((try simp +decide only [b01, b10, b11, am_up, and_true, and_false, true_and, false_and, if_true, if_false, nn_eq] at *) <;> (try simp only [sw_or, sw_all, or_false, and_true, i32_lt, i32_le, i32_eq, i32_addw, i32_subw, i32_mulw, Int32.reduceToInt] at *) <;> omega)) | (refine h2 ?_ <;> ((try simp +decide only [b01, b10, b11, am_up, and_true, and_false, true_and, false_and, if_true, if_false, nn_eq] at *) <;> (try simp only [sw_or, sw_all, or_false, and_true, i32_lt, i32_le, i32_eq, i32_addw, i32_subw, i32_mulw, Int32.reduceToInt] at *) <;> omega)) | (exfalso; ((try simp +decide only [b01, b10, b11, am_up, and_true, and_false, true_and, false_and, if_true, if_false, nn_eq] at *) <;> (try simp only [sw_or, sw_all, or_false, and_true, i32_lt, i32_le, i32_eq, i32_addw, i32_subw, i32_mulw, Int32.reduceToInt] at *) <;> omega))
theorem sp_OP_usesLocal {x : Int32} {st : am_S} {f : Int32 → am_S → Prop} (h1 : op_loc x → f 1 st) (h2 : ¬ op_loc x → f 0 st) : wp_OP_usesLocal [.inl x] st (am_ki f) := by
  refine ⟨⟨rfl, Nat.le_of_ble_eq_true rfl⟩, ?_⟩
  unfold op_loc at h1 h2
  refine r_il0 (q := 1) d_OP_usesLocal_0 rfl ?_
  refine r_bp (v := 21) (q := 3) d_OP_usesLocal_1 rfl rfl ?_
  refine r_ceq (tgt := 31) (q := 6) d_OP_usesLocal_3 rfl rfl (fun e3 => ?_) (fun e3 => ?_)
  · skip
    refine r_ic (v := 1) (q := 32) d_OP_usesLocal_31 rfl rfl ?_
    refine am_go (tgt := 36) d_OP_usesLocal_32 rfl ?_
    refine r_rz d_OP_usesLocal_36 (by first | assumption | omega | decide | ((try simp +decide only [b01, b10, b11, am_up, and_true, and_false, true_and, false_and, if_true, if_false, nn_eq] at *) <;> (try simp only [sw_or, sw_all, or_false, and_true, i32_lt, i32_le, i32_eq, i32_addw, i32_subw, i32_mulw, Int32.reduceToInt] at *) <;> omega) | (apply_assumption; done)) ?_
    first | (refine h1 ?_ <;> ((try simp +decide only [b01, b10, b11, am_up, and_true, and_false, true_and, false_and, if_true, if_false, nn_eq] at *) <;> (try simp only [sw_or, sw_all, or_false, and_true, i32_lt, i32_le, i32_eq, i32_addw, i32_subw, i32_mulw, Int32.reduceToInt] at *) <;> omega)) | (refine h2 ?_ <;> ((try simp +decide only [b01, b10, b11, am_up, and_true, and_false, true_and, false_and, if_true, if_false, nn_eq] at *) <;> (try simp only [sw_or, sw_all, or_false, and_true, i32_lt, i32_le, i32_eq, i32_addw, i32_subw, i32_mulw, Int32.reduceToInt] at *) <;> omega)) | (exfalso; ((try simp +decide only [b01, b10, b11, am_up, and_true, and_false, true_and, false_and, if_true, if_false, nn_eq] at *) <;> (try simp only [sw_or, sw_all, or_false, and_true, i32_lt, i32_le, i32_eq, i32_addw, i32_subw, i32_mulw, Int32.reduceToInt] at *) <;> omega))
  · skip
    refine r_il0 (q := 7) d_OP_usesLocal_6 rfl ?_
    refine r_bp (v := 25) (q := 9) d_OP_usesLocal_7 rfl rfl ?_
    refine r_ceq (tgt := 31) (q := 12) d_OP_usesLocal_9 rfl rfl (fun e9 => ?_) (fun e9 => ?_)
    · skip
      refine r_ic (v := 1) (q := 32) d_OP_usesLocal_31 rfl rfl ?_
      refine am_go (tgt := 36) d_OP_usesLocal_32 rfl ?_
      refine r_rz d_OP_usesLocal_36 (by first | assumption | omega | decide | ((try simp +decide only [b01, b10, b11, am_up, and_true, and_false, true_and, false_and, if_true, if_false, nn_eq] at *) <;> (try simp only [sw_or, sw_all, or_false, and_true, i32_lt, i32_le, i32_eq, i32_addw, i32_subw, i32_mulw, Int32.reduceToInt] at *) <;> omega) | (apply_assumption; done)) ?_
      first | (refine h1 ?_ <;> ((try simp +decide only [b01, b10, b11, am_up, and_true, and_false, true_and, false_and, if_true, if_false, nn_eq] at *) <;> (try simp only [sw_or, sw_all, or_false, and_true, i32_lt, i32_le, i32_eq, i32_addw, i32_subw, i32_mulw, Int32.reduceToInt] at *) <;> omega)) | (refine h2 ?_ <;> ((try simp +decide only [b01, b10, b11, am_up, and_true, and_false, true_and, false_and, if_true, if_false, nn_eq] at *) <;> (try simp only [sw_or, sw_all, or_false, and_true, i32_lt, i32_le, i32_eq, i32_addw, i32_subw, i32_mulw, Int32.reduceToInt] at *) <;> omega)) | (exfalso; ((try simp +decide only [b01, b10, b11, am_up, and_true, and_false, true_and, false_and, if_true, if_false, nn_eq] at *) <;> (try simp only [sw_or, sw_all, or_false, and_true, i32_lt, i32_le, i32_eq, i32_addw, i32_subw, i32_mulw, Int32.reduceToInt] at *) <;> omega))
    · skip
      refine r_il0 (q := 13) d_OP_usesLocal_12 rfl ?_
      refine r_bp (v := 54) (q := 15) d_OP_usesLocal_13 rfl rfl ?_
      refine r_ceq (tgt := 31) (q := 18) d_OP_usesLocal_15 rfl rfl (fun e15 => ?_) (fun e15 => ?_)
      · skip
        refine r_ic (v := 1) (q := 32) d_OP_usesLocal_31 rfl rfl ?_
        refine am_go (tgt := 36) d_OP_usesLocal_32 rfl ?_
        refine r_rz d_OP_usesLocal_36 (by first | assumption | omega | decide | ((try simp +decide only [b01, b10, b11, am_up, and_true, and_false, true_and, false_and, if_true, if_false, nn_eq] at *) <;> (try simp only [sw_or, sw_all, or_false, and_true, i32_lt, i32_le, i32_eq, i32_addw, i32_subw, i32_mulw, Int32.reduceToInt] at *) <;> omega) | (apply_assumption; done)) ?_
        first | (refine h1 ?_ <;> ((try simp +decide only [b01, b10, b11, am_up, and_true, and_false, true_and, false_and, if_true, if_false, nn_eq] at *) <;> (try simp only [sw_or, sw_all, or_false, and_true, i32_lt, i32_le, i32_eq, i32_addw, i32_subw, i32_mulw, Int32.reduceToInt] at *) <;> omega)) | (refine h2 ?_ <;> ((try simp +decide only [b01, b10, b11, am_up, and_true, and_false, true_and, false_and, if_true, if_false, nn_eq] at *) <;> (try simp only [sw_or, sw_all, or_false, and_true, i32_lt, i32_le, i32_eq, i32_addw, i32_subw, i32_mulw, Int32.reduceToInt] at *) <;> omega)) | (exfalso; ((try simp +decide only [b01, b10, b11, am_up, and_true, and_false, true_and, false_and, if_true, if_false, nn_eq] at *) <;> (try simp only [sw_or, sw_all, or_false, and_true, i32_lt, i32_le, i32_eq, i32_addw, i32_subw, i32_mulw, Int32.reduceToInt] at *) <;> omega))
      · skip
        refine r_il0 (q := 19) d_OP_usesLocal_18 rfl ?_
        refine r_bp (v := 58) (q := 21) d_OP_usesLocal_19 rfl rfl ?_
        refine r_ceq (tgt := 31) (q := 24) d_OP_usesLocal_21 rfl rfl (fun e21 => ?_) (fun e21 => ?_)
        · skip
          refine r_ic (v := 1) (q := 32) d_OP_usesLocal_31 rfl rfl ?_
          refine am_go (tgt := 36) d_OP_usesLocal_32 rfl ?_
          refine r_rz d_OP_usesLocal_36 (by first | assumption | omega | decide | ((try simp +decide only [b01, b10, b11, am_up, and_true, and_false, true_and, false_and, if_true, if_false, nn_eq] at *) <;> (try simp only [sw_or, sw_all, or_false, and_true, i32_lt, i32_le, i32_eq, i32_addw, i32_subw, i32_mulw, Int32.reduceToInt] at *) <;> omega) | (apply_assumption; done)) ?_
          first | (refine h1 ?_ <;> ((try simp +decide only [b01, b10, b11, am_up, and_true, and_false, true_and, false_and, if_true, if_false, nn_eq] at *) <;> (try simp only [sw_or, sw_all, or_false, and_true, i32_lt, i32_le, i32_eq, i32_addw, i32_subw, i32_mulw, Int32.reduceToInt] at *) <;> omega)) | (refine h2 ?_ <;> ((try simp +decide only [b01, b10, b11, am_up, and_true, and_false, true_and, false_and, if_true, if_false, nn_eq] at *) <;> (try simp only [sw_or, sw_all, or_false, and_true, i32_lt, i32_le, i32_eq, i32_addw, i32_subw, i32_mulw, Int32.reduceToInt] at *) <;> omega)) | (exfalso; ((try simp +decide only [b01, b10, b11, am_up, and_true, and_false, true_and, false_and, if_true, if_false, nn_eq] at *) <;> (try simp only [sw_or, sw_all, or_false, and_true, i32_lt, i32_le, i32_eq, i32_addw, i32_subw, i32_mulw, Int32.reduceToInt] at *) <;> omega))
        · skip
          refine r_il0 (q := 25) d_OP_usesLocal_24 rfl ?_
          refine r_sp (v := 132) (q := 28) d_OP_usesLocal_25 rfl rfl ?_
          refine r_cne (tgt := 35) (q := 31) d_OP_usesLocal_28 rfl rfl (fun e28 => ?_) (fun e28 => ?_)
          · skip
            refine r_ic (v := 0) (q := 36) d_OP_usesLocal_35 rfl rfl ?_
            refine r_rz d_OP_usesLocal_36 (by first | assumption | omega | decide | ((try simp +decide only [b01, b10, b11, am_up, and_true, and_false, true_and, false_and, if_true, if_false, nn_eq] at *) <;> (try simp only [sw_or, sw_all, or_false, and_true, i32_lt, i32_le, i32_eq, i32_addw, i32_subw, i32_mulw, Int32.reduceToInt] at *) <;> omega) | (apply_assumption; done)) ?_
            first | (refine h1 ?_ <;> ((try simp +decide only [b01, b10, b11, am_up, and_true, and_false, true_and, false_and, if_true, if_false, nn_eq] at *) <;> (try simp only [sw_or, sw_all, or_false, and_true, i32_lt, i32_le, i32_eq, i32_addw, i32_subw, i32_mulw, Int32.reduceToInt] at *) <;> omega)) | (refine h2 ?_ <;> ((try simp +decide only [b01, b10, b11, am_up, and_true, and_false, true_and, false_and, if_true, if_false, nn_eq] at *) <;> (try simp only [sw_or, sw_all, or_false, and_true, i32_lt, i32_le, i32_eq, i32_addw, i32_subw, i32_mulw, Int32.reduceToInt] at *) <;> omega)) | (exfalso; ((try simp +decide only [b01, b10, b11, am_up, and_true, and_false, true_and, false_and, if_true, if_false, nn_eq] at *) <;> (try simp only [sw_or, sw_all, or_false, and_true, i32_lt, i32_le, i32_eq, i32_addw, i32_subw, i32_mulw, Int32.reduceToInt] at *) <;> omega))
          · skip
            refine r_ic (v := 1) (q := 32) d_OP_usesLocal_31 rfl rfl ?_
            refine am_go (tgt := 36) d_OP_usesLocal_32 rfl ?_
            refine r_rz d_OP_usesLocal_36 (by first | assumption | omega | decide | ((try simp +decide only [b01, b10, b11, am_up, and_true, and_false, true_and, false_and, if_true, if_false, nn_eq] at *) <;> (try simp only [sw_or, sw_all, or_false, and_true, i32_lt, i32_le, i32_eq, i32_addw, i32_subw, i32_mulw, Int32.reduceToInt] at *) <;> omega) | (apply_assumption; done)) ?_
            first | (refine h1 ?_ <;> ((try simp +decide only [b01, b10, b11, am_up, and_true, and_false, true_and, false_and, if_true, if_false, nn_eq] at *) <;> (try simp only [sw_or, sw_all, or_false, and_true, i32_lt, i32_le, i32_eq, i32_addw, i32_subw, i32_mulw, Int32.reduceToInt] at *) <;> omega)) | (refine h2 ?_ <;> ((try simp +decide only [b01, b10, b11, am_up, and_true, and_false, true_and, false_and, if_true, if_false, nn_eq] at *) <;> (try simp only [sw_or, sw_all, or_false, and_true, i32_lt, i32_le, i32_eq, i32_addw, i32_subw, i32_mulw, Int32.reduceToInt] at *) <;> omega)) | (exfalso; ((try simp +decide only [b01, b10, b11, am_up, and_true, and_false, true_and, false_and, if_true, if_false, nn_eq] at *) <;> (try simp only [sw_or, sw_all, or_false, and_true, i32_lt, i32_le, i32_eq, i32_addw, i32_subw, i32_mulw, Int32.reduceToInt] at *) <;> omega))
theorem sp_OP_isCalculation {x : Int32} {st : am_S} {f : Int32 → am_S → Prop} (h1 : op_calc x → f 1 st) (h2 : ¬ op_calc x → f 0 st) : wp_OP_isCalculation [.inl x] st (am_ki f) := by
  refine ⟨⟨rfl, Nat.le_of_ble_eq_true rfl⟩, ?_⟩
  refine r_il0 (q := 1) d_OP_isCalculation_0 rfl ?_
  refine r_tsw [([96, 100, 104, 108, 112, 120, 122, 124, 126, 128, 130], 156)] (tgt := 158) d_OP_isCalculation_1 (by decide +kernel) (And.intro (fun e1 => ?_) trivial) (fun e1 => ?_)
  · skip
    refine r_ic (v := 1) (q := 157) d_OP_isCalculation_156 rfl rfl ?_
    refine r_rz d_OP_isCalculation_157 (by first | assumption | omega | decide | ((try simp +decide only [b01, b10, b11, am_up, and_true, and_false, true_and, false_and, if_true, if_false, nn_eq] at *) <;> (try simp only [sw_or, sw_all, or_false, and_true, i32_lt, i32_le, i32_eq, i32_addw, i32_subw, i32_mulw, Int32.reduceToInt] at *) <;> omega) | (apply_assumption; done)) ?_
    first | exact h1 e1 | exact h2 e1.1
  · skip
    refine r_ic (v := 0) (q := 159) d_OP_isCalculation_158 rfl rfl ?_
    refine r_rz d_OP_isCalculation_159 (by first | assumption | omega | decide | ((try simp +decide only [b01, b10, b11, am_up, and_true, and_false, true_and, false_and, if_true, if_false, nn_eq] at *) <;> (try simp only [sw_or, sw_all, or_false, and_true, i32_lt, i32_le, i32_eq, i32_addw, i32_subw, i32_mulw, Int32.reduceToInt] at *) <;> omega) | (apply_assumption; done)) ?_
    first | exact h1 e1 | exact h2 e1.1
theorem sz_OP_sizeOf {x : Int32} {st : am_S} {f : Int32 → am_S → Prop} (h1 : op_jump x → f 3 st) (h2 : ¬ op_jump x ∧ op_calc x → f 1 st) (h3 : ¬ op_jump x ∧ ¬ op_calc x ∧ op_s1 x → f 1 st) (h4 : ¬ op_jump x ∧ ¬ op_calc x ∧ op_s2 x → f 2 st) (h5 : ¬ op_jump x ∧ ¬ op_calc x ∧ op_s3 x → f 3 st) (h6 : ¬ op_jump x ∧ ¬ op_calc x ∧ ¬ op_s1 x ∧ ¬ op_s2 x ∧ ¬ op_s3 x → f 0 st) : wp_OP_sizeOf [.inl x] st (am_ki f) := by
  refine ⟨⟨rfl, Nat.le_of_ble_eq_true rfl⟩, ?_⟩
  refine r_il0 (q := 1) d_OP_sizeOf_0 rfl ?_
  refine r_si1 mo_OP_isJump d_OP_sizeOf_1 rfl rfl (q := 4) rfl ?_
  refine sp_OP_isJump (fun e1 => ?_) (fun e1 => ?_)
  · skip
    refine r_zeq (tgt := 9) (q := 7) d_OP_sizeOf_4 rfl rfl (fun e4 => ?_) (fun e4 => ?_)
    · skip
      refine r_il0 (q := 10) d_OP_sizeOf_9 rfl ?_
      refine r_si1 mo_OP_isCalculation d_OP_sizeOf_10 rfl rfl (q := 13) rfl ?_
      refine sp_OP_isCalculation (fun e10 => ?_) (fun e10 => ?_)
      · skip
        refine r_zeq (tgt := 18) (q := 16) d_OP_sizeOf_13 rfl rfl (fun e13 => ?_) (fun e13 => ?_)
        · skip
          refine r_il0 (q := 19) d_OP_sizeOf_18 rfl ?_
          refine r_lsw [([1, 46, 79, 87, 89, 95, 116, 172, 177, 190], 188), ([17, 132, 178, 179, 184], 192), ([21, 25, 54, 58, 188], 190)] (tgt := 194) d_OP_sizeOf_19 (by decide +kernel) (And.intro (fun e19 => ?_) (And.intro (fun e19 => ?_) (And.intro (fun e19 => ?_) trivial))) (fun e19 => ?_)
          · skip
            refine r_ic (v := 1) (q := 189) d_OP_sizeOf_188 rfl rfl ?_
            refine r_ri d_OP_sizeOf_189 ?_
            first | exact h1 e1 | exact h2 ⟨e1, e10⟩ | exact h3 ⟨e1, e10, e19⟩ | exact h4 ⟨e1, e10, e19⟩ | exact h5 ⟨e1, e10, e19⟩ | exact h6 ⟨e1, e10, e19.1, e19.2.2.1, e19.2.1⟩ | (exfalso; ((try simp +decide only [b01, b10, b11, am_up, and_true, and_false, true_and, false_and, if_true, if_false, nn_eq] at *) <;> (try simp only [sw_or, sw_all, or_false, and_true, i32_lt, i32_le, i32_eq, i32_addw, i32_subw, i32_mulw, Int32.reduceToInt] at *) <;> omega))
          · skip
            refine r_ic (v := 3) (q := 193) d_OP_sizeOf_192 rfl rfl ?_
            refine r_ri d_OP_sizeOf_193 ?_
            first | exact h1 e1 | exact h2 ⟨e1, e10⟩ | exact h3 ⟨e1, e10, e19⟩ | exact h4 ⟨e1, e10, e19⟩ | exact h5 ⟨e1, e10, e19⟩ | exact h6 ⟨e1, e10, e19.1, e19.2.2.1, e19.2.1⟩ | (exfalso; ((try simp +decide only [b01, b10, b11, am_up, and_true, and_false, true_and, false_and, if_true, if_false, nn_eq] at *) <;> (try simp only [sw_or, sw_all, or_false, and_true, i32_lt, i32_le, i32_eq, i32_addw, i32_subw, i32_mulw, Int32.reduceToInt] at *) <;> omega))
          · skip
            refine r_ic (v := 2) (q := 191) d_OP_sizeOf_190 rfl rfl ?_
            refine r_ri d_OP_sizeOf_191 ?_
            first | exact h1 e1 | exact h2 ⟨e1, e10⟩ | exact h3 ⟨e1, e10, e19⟩ | exact h4 ⟨e1, e10, e19⟩ | exact h5 ⟨e1, e10, e19⟩ | exact h6 ⟨e1, e10, e19.1, e19.2.2.1, e19.2.1⟩ | (exfalso; ((try simp +decide only [b01, b10, b11, am_up, and_true, and_false, true_and, false_and, if_true, if_false, nn_eq] at *) <;> (try simp only [sw_or, sw_all, or_false, and_true, i32_lt, i32_le, i32_eq, i32_addw, i32_subw, i32_mulw, Int32.reduceToInt] at *) <;> omega))
          · skip
            refine r_ic (v := 0) (q := 195) d_OP_sizeOf_194 rfl rfl ?_
            refine r_ri d_OP_sizeOf_195 ?_
            first | exact h1 e1 | exact h2 ⟨e1, e10⟩ | exact h3 ⟨e1, e10, e19⟩ | exact h4 ⟨e1, e10, e19⟩ | exact h5 ⟨e1, e10, e19⟩ | exact h6 ⟨e1, e10, e19.1, e19.2.2.1, e19.2.1⟩ | (exfalso; ((try simp +decide only [b01, b10, b11, am_up, and_true, and_false, true_and, false_and, if_true, if_false, nn_eq] at *) <;> (try simp only [sw_or, sw_all, or_false, and_true, i32_lt, i32_le, i32_eq, i32_addw, i32_subw, i32_mulw, Int32.reduceToInt] at *) <;> omega))
        · skip
          refine r_ic (v := 1) (q := 17) d_OP_sizeOf_16 rfl rfl ?_
          refine r_ri d_OP_sizeOf_17 ?_
          first | exact h1 e1 | exact h2 ⟨e1, e10⟩ | exact h3 ⟨e1, e10, e19⟩ | exact h4 ⟨e1, e10, e19⟩ | exact h5 ⟨e1, e10, e19⟩ | exact h6 ⟨e1, e10, e19.1, e19.2.2.1, e19.2.1⟩ | (exfalso; ((try simp +decide only [b01, b10, b11, am_up, and_true, and_false, true_and, false_and, if_true, if_false, nn_eq] at *) <;> (try simp only [sw_or, sw_all, or_false, and_true, i32_lt, i32_le, i32_eq, i32_addw, i32_subw, i32_mulw, Int32.reduceToInt] at *) <;> omega))
      · skip
        refine r_zeq (tgt := 18) (q := 16) d_OP_sizeOf_13 rfl rfl (fun e13 => ?_) (fun e13 => ?_)
        · skip
          refine r_il0 (q := 19) d_OP_sizeOf_18 rfl ?_
          refine r_lsw [([1, 46, 79, 87, 89, 95, 116, 172, 177, 190], 188), ([17, 132, 178, 179, 184], 192), ([21, 25, 54, 58, 188], 190)] (tgt := 194) d_OP_sizeOf_19 (by decide +kernel) (And.intro (fun e19 => ?_) (And.intro (fun e19 => ?_) (And.intro (fun e19 => ?_) trivial))) (fun e19 => ?_)
          · skip
            refine r_ic (v := 1) (q := 189) d_OP_sizeOf_188 rfl rfl ?_
            refine r_ri d_OP_sizeOf_189 ?_
            first | exact h1 e1 | exact h2 ⟨e1, e10⟩ | exact h3 ⟨e1, e10, e19⟩ | exact h4 ⟨e1, e10, e19⟩ | exact h5 ⟨e1, e10, e19⟩ | exact h6 ⟨e1, e10, e19.1, e19.2.2.1, e19.2.1⟩ | (exfalso; ((try simp +decide only [b01, b10, b11, am_up, and_true, and_false, true_and, false_and, if_true, if_false, nn_eq] at *) <;> (try simp only [sw_or, sw_all, or_false, and_true, i32_lt, i32_le, i32_eq, i32_addw, i32_subw, i32_mulw, Int32.reduceToInt] at *) <;> omega))
          · skip
            refine r_ic (v := 3) (q := 193) d_OP_sizeOf_192 rfl rfl ?_
            refine r_ri d_OP_sizeOf_193 ?_
            first | exact h1 e1 | exact h2 ⟨e1, e10⟩ | exact h3 ⟨e1, e10, e19⟩ | exact h4 ⟨e1, e10, e19⟩ | exact h5 ⟨e1, e10, e19⟩ | exact h6 ⟨e1, e10, e19.1, e19.2.2.1, e19.2.1⟩ | (exfalso; ((try simp +decide only [b01, b10, b11, am_up, and_true, and_false, true_and, false_and, if_true, if_false, nn_eq] at *) <;> (try simp only [sw_or, sw_all, or_false, and_true, i32_lt, i32_le, i32_eq, i32_addw, i32_subw, i32_mulw, Int32.reduceToInt] at *) <;> omega))
          · skip
            refine r_ic (v := 2) (q := 191) d_OP_sizeOf_190 rfl rfl ?_
            refine r_ri d_OP_sizeOf_191 ?_
            first | exact h1 e1 | exact h2 ⟨e1, e10⟩ | exact h3 ⟨e1, e10, e19⟩ | exact h4 ⟨e1, e10, e19⟩ | exact h5 ⟨e1, e10, e19⟩ | exact h6 ⟨e1, e10, e19.1, e19.2.2.1, e19.2.1⟩ | (exfalso; ((try simp +decide only [b01, b10, b11, am_up, and_true, and_false, true_and, false_and, if_true, if_false, nn_eq] at *) <;> (try simp only [sw_or, sw_all, or_false, and_true, i32_lt, i32_le, i32_eq, i32_addw, i32_subw, i32_mulw, Int32.reduceToInt] at *) <;> omega))
          · skip
            refine r_ic (v := 0) (q := 195) d_OP_sizeOf_194 rfl rfl ?_
            refine r_ri d_OP_sizeOf_195 ?_
            first | exact h1 e1 | exact h2 ⟨e1, e10⟩ | exact h3 ⟨e1, e10, e19⟩ | exact h4 ⟨e1, e10, e19⟩ | exact h5 ⟨e1, e10, e19⟩ | exact h6 ⟨e1, e10, e19.1, e19.2.2.1, e19.2.1⟩ | (exfalso; ((try simp +decide only [b01, b10, b11, am_up, and_true, and_false, true_and, false_and, if_true, if_false, nn_eq] at *) <;> (try simp only [sw_or, sw_all, or_false, and_true, i32_lt, i32_le, i32_eq, i32_addw, i32_subw, i32_mulw, Int32.reduceToInt] at *) <;> omega))
        · skip
          refine r_ic (v := 1) (q := 17) d_OP_sizeOf_16 rfl rfl ?_
          refine r_ri d_OP_sizeOf_17 ?_
          first | exact h1 e1 | exact h2 ⟨e1, e10⟩ | exact h3 ⟨e1, e10, e19⟩ | exact h4 ⟨e1, e10, e19⟩ | exact h5 ⟨e1, e10, e19⟩ | exact h6 ⟨e1, e10, e19.1, e19.2.2.1, e19.2.1⟩ | (exfalso; ((try simp +decide only [b01, b10, b11, am_up, and_true, and_false, true_and, false_and, if_true, if_false, nn_eq] at *) <;> (try simp only [sw_or, sw_all, or_false, and_true, i32_lt, i32_le, i32_eq, i32_addw, i32_subw, i32_mulw, Int32.reduceToInt] at *) <;> omega))
    · skip
      refine r_ic (v := 3) (q := 8) d_OP_sizeOf_7 rfl rfl ?_
      refine r_ri d_OP_sizeOf_8 ?_
      first | exact h1 e1 | exact h2 ⟨e1, e10⟩ | exact h3 ⟨e1, e10, e19⟩ | exact h4 ⟨e1, e10, e19⟩ | exact h5 ⟨e1, e10, e19⟩ | exact h6 ⟨e1, e10, e19.1, e19.2.2.1, e19.2.1⟩ | (exfalso; ((try simp +decide only [b01, b10, b11, am_up, and_true, and_false, true_and, false_and, if_true, if_false, nn_eq] at *) <;> (try simp only [sw_or, sw_all, or_false, and_true, i32_lt, i32_le, i32_eq, i32_addw, i32_subw, i32_mulw, Int32.reduceToInt] at *) <;> omega))
  · skip
    refine r_zeq (tgt := 9) (q := 7) d_OP_sizeOf_4 rfl rfl (fun e4 => ?_) (fun e4 => ?_)
    · skip
      refine r_il0 (q := 10) d_OP_sizeOf_9 rfl ?_
      refine r_si1 mo_OP_isCalculation d_OP_sizeOf_10 rfl rfl (q := 13) rfl ?_
      refine sp_OP_isCalculation (fun e10 => ?_) (fun e10 => ?_)
      · skip
        refine r_zeq (tgt := 18) (q := 16) d_OP_sizeOf_13 rfl rfl (fun e13 => ?_) (fun e13 => ?_)
        · skip
          refine r_il0 (q := 19) d_OP_sizeOf_18 rfl ?_
          refine r_lsw [([1, 46, 79, 87, 89, 95, 116, 172, 177, 190], 188), ([17, 132, 178, 179, 184], 192), ([21, 25, 54, 58, 188], 190)] (tgt := 194) d_OP_sizeOf_19 (by decide +kernel) (And.intro (fun e19 => ?_) (And.intro (fun e19 => ?_) (And.intro (fun e19 => ?_) trivial))) (fun e19 => ?_)
          · skip
            refine r_ic (v := 1) (q := 189) d_OP_sizeOf_188 rfl rfl ?_
            refine r_ri d_OP_sizeOf_189 ?_
            first | exact h1 e1 | exact h2 ⟨e1, e10⟩ | exact h3 ⟨e1, e10, e19⟩ | exact h4 ⟨e1, e10, e19⟩ | exact h5 ⟨e1, e10, e19⟩ | exact h6 ⟨e1, e10, e19.1, e19.2.2.1, e19.2.1⟩ | (exfalso; ((try simp +decide only [b01, b10, b11, am_up, and_true, and_false, true_and, false_and, if_true, if_false, nn_eq] at *) <;> (try simp only [sw_or, sw_all, or_false, and_true, i32_lt, i32_le, i32_eq, i32_addw, i32_subw, i32_mulw, Int32.reduceToInt] at *) <;> omega))
          · skip
            refine r_ic (v := 3) (q := 193) d_OP_sizeOf_192 rfl rfl ?_
            refine r_ri d_OP_sizeOf_193 ?_
            first | exact h1 e1 | exact h2 ⟨e1, e10⟩ | exact h3 ⟨e1, e10, e19⟩ | exact h4 ⟨e1, e10, e19⟩ | exact h5 ⟨e1, e10, e19⟩ | exact h6 ⟨e1, e10, e19.1, e19.2.2.1, e19.2.1⟩ | (exfalso; ((try simp +decide only [b01, b10, b11, am_up, and_true, and_false, true_and, false_and, if_true, if_false, nn_eq] at *) <;> (try simp only [sw_or, sw_all, or_false, and_true, i32_lt, i32_le, i32_eq, i32_addw, i32_subw, i32_mulw, Int32.reduceToInt] at *) <;> omega))
          · skip
            refine r_ic (v := 2) (q := 191) d_OP_sizeOf_190 rfl rfl ?_
            refine r_ri d_OP_sizeOf_191 ?_
            first | exact h1 e1 | exact h2 ⟨e1, e10⟩ | exact h3 ⟨e1, e10, e19⟩ | exact h4 ⟨e1, e10, e19⟩ | exact h5 ⟨e1, e10, e19⟩ | exact h6 ⟨e1, e10, e19.1, e19.2.2.1, e19.2.1⟩ | (exfalso; ((try simp +decide only [b01, b10, b11, am_up, and_true, and_false, true_and, false_and, if_true, if_false, nn_eq] at *) <;> (try simp only [sw_or, sw_all, or_false, and_true, i32_lt, i32_le, i32_eq, i32_addw, i32_subw, i32_mulw, Int32.reduceToInt] at *) <;> omega))
          · skip
            refine r_ic (v := 0) (q := 195) d_OP_sizeOf_194 rfl rfl ?_
            refine r_ri d_OP_sizeOf_195 ?_
            first | exact h1 e1 | exact h2 ⟨e1, e10⟩ | exact h3 ⟨e1, e10, e19⟩ | exact h4 ⟨e1, e10, e19⟩ | exact h5 ⟨e1, e10, e19⟩ | exact h6 ⟨e1, e10, e19.1, e19.2.2.1, e19.2.1⟩ | (exfalso; ((try simp +decide only [b01, b10, b11, am_up, and_true, and_false, true_and, false_and, if_true, if_false, nn_eq] at *) <;> (try simp only [sw_or, sw_all, or_false, and_true, i32_lt, i32_le, i32_eq, i32_addw, i32_subw, i32_mulw, Int32.reduceToInt] at *) <;> omega))
        · skip
          refine r_ic (v := 1) (q := 17) d_OP_sizeOf_16 rfl rfl ?_
          refine r_ri d_OP_sizeOf_17 ?_
          first | exact h1 e1 | exact h2 ⟨e1, e10⟩ | exact h3 ⟨e1, e10, e19⟩ | exact h4 ⟨e1, e10, e19⟩ | exact h5 ⟨e1, e10, e19⟩ | exact h6 ⟨e1, e10, e19.1, e19.2.2.1, e19.2.1⟩ | (exfalso; ((try simp +decide only [b01, b10, b11, am_up, and_true, and_false, true_and, false_and, if_true, if_false, nn_eq] at *) <;> (try simp only [sw_or, sw_all, or_false, and_true, i32_lt, i32_le, i32_eq, i32_addw, i32_subw, i32_mulw, Int32.reduceToInt] at *) <;> omega))
      · skip
        refine r_zeq (tgt := 18) (q := 16) d_OP_sizeOf_13 rfl rfl (fun e13 => ?_) (fun e13 => ?_)
        · skip
          refine r_il0 (q := 19) d_OP_sizeOf_18 rfl ?_
          refine r_lsw [([1, 46, 79, 87, 89, 95, 116, 172, 177, 190], 188), ([17, 132, 178, 179, 184], 192), ([21, 25, 54, 58, 188], 190)] (tgt := 194) d_OP_sizeOf_19 (by decide +kernel) (And.intro (fun e19 => ?_) (And.intro (fun e19 => ?_) (And.intro (fun e19 => ?_) trivial))) (fun e19 => ?_)
          · skip
            refine r_ic (v := 1) (q := 189) d_OP_sizeOf_188 rfl rfl ?_
            refine r_ri d_OP_sizeOf_189 ?_
            first | exact h1 e1 | exact h2 ⟨e1, e10⟩ | exact h3 ⟨e1, e10, e19⟩ | exact h4 ⟨e1, e10, e19⟩ | exact h5 ⟨e1, e10, e19⟩ | exact h6 ⟨e1, e10, e19.1, e19.2.2.1, e19.2.1⟩ | (exfalso; ((try simp +decide only [b01, b10, b11, am_up, and_true, and_false, true_and, false_and, if_true, if_false, nn_eq] at *) <;> (try simp only [sw_or, sw_all, or_false, and_true, i32_lt, i32_le, i32_eq, i32_addw, i32_subw, i32_mulw, Int32.reduceToInt] at *) <;> omega))
          · skip
            refine r_ic (v := 3) (q := 193) d_OP_sizeOf_192 rfl rfl ?_
            refine r_ri d_OP_sizeOf_193 ?_
            first | exact h1 e1 | exact h2 ⟨e1, e10⟩ | exact h3 ⟨e1, e10, e19⟩ | exact h4 ⟨e1, e10, e19⟩ | exact h5 ⟨e1, e10, e19⟩ | exact h6 ⟨e1, e10, e19.1, e19.2.2.1, e19.2.1⟩ | (exfalso; ((try simp +decide only [b01, b10, b11, am_up, and_true, and_false, true_and, false_and, if_true, if_false, nn_eq] at *) <;> (try simp only [sw_or, sw_all, or_false, and_true, i32_lt, i32_le, i32_eq, i32_addw, i32_subw, i32_mulw, Int32.reduceToInt] at *) <;> omega))
          · skip
            refine r_ic (v := 2) (q := 191) d_OP_sizeOf_190 rfl rfl ?_
            refine r_ri d_OP_sizeOf_191 ?_
            first | exact h1 e1 | exact h2 ⟨e1, e10⟩ | exact h3 ⟨e1, e10, e19⟩ | exact h4 ⟨e1, e10, e19⟩ | exact h5 ⟨e1, e10, e19⟩ | exact h6 ⟨e1, e10, e19.1, e19.2.2.1, e19.2.1⟩ | (exfalso; ((try simp +decide only [b01, b10, b11, am_up, and_true, and_false, true_and, false_and, if_true, if_false, nn_eq] at *) <;> (try simp only [sw_or, sw_all, or_false, and_true, i32_lt, i32_le, i32_eq, i32_addw, i32_subw, i32_mulw, Int32.reduceToInt] at *) <;> omega))
          · skip
            refine r_ic (v := 0) (q := 195) d_OP_sizeOf_194 rfl rfl ?_
            refine r_ri d_OP_sizeOf_195 ?_
            first | exact h1 e1 | exact h2 ⟨e1, e10⟩ | exact h3 ⟨e1, e10, e19⟩ | exact h4 ⟨e1, e10, e19⟩ | exact h5 ⟨e1, e10, e19⟩ | exact h6 ⟨e1, e10, e19.1, e19.2.2.1, e19.2.1⟩ | (exfalso; ((try simp +decide only [b01, b10, b11, am_up, and_true, and_false, true_and, false_and, if_true, if_false, nn_eq] at *) <;> (try simp only [sw_or, sw_all, or_false, and_true, i32_lt, i32_le, i32_eq, i32_addw, i32_subw, i32_mulw, Int32.reduceToInt] at *) <;> omega))
        · skip
          refine r_ic (v := 1) (q := 17) d_OP_sizeOf_16 rfl rfl ?_
          refine r_ri d_OP_sizeOf_17 ?_
          first | exact h1 e1 | exact h2 ⟨e1, e10⟩ | exact h3 ⟨e1, e10, e19⟩ | exact h4 ⟨e1, e10, e19⟩ | exact h5 ⟨e1, e10, e19⟩ | exact h6 ⟨e1, e10, e19.1, e19.2.2.1, e19.2.1⟩ | (exfalso; ((try simp +decide only [b01, b10, b11, am_up, and_true, and_false, true_and, false_and, if_true, if_false, nn_eq] at *) <;> (try simp only [sw_or, sw_all, or_false, and_true, i32_lt, i32_le, i32_eq, i32_addw, i32_subw, i32_mulw, Int32.reduceToInt] at *) <;> omega))
    · skip
      refine r_ic (v := 3) (q := 8) d_OP_sizeOf_7 rfl rfl ?_
      refine r_ri d_OP_sizeOf_8 ?_
      first | exact h1 e1 | exact h2 ⟨e1, e10⟩ | exact h3 ⟨e1, e10, e19⟩ | exact h4 ⟨e1, e10, e19⟩ | exact h5 ⟨e1, e10, e19⟩ | exact h6 ⟨e1, e10, e19.1, e19.2.2.1, e19.2.1⟩ | (exfalso; ((try simp +decide only [b01, b10, b11, am_up, and_true, and_false, true_and, false_and, if_true, if_false, nn_eq] at *) <;> (try simp only [sw_or, sw_all, or_false, and_true, i32_lt, i32_le, i32_eq, i32_addw, i32_subw, i32_mulw, Int32.reduceToInt] at *) <;> omega))

/-! written by wip/whole/gen/walk.py out of 80.apply.txt -/
def fs (st : am_S) (R H : Int32) : am_S := am_up (am_up st 458 0 H) 457 0 R
theorem fs_R {st : am_S} {R H : Int32} : fs st R H 457 0 = R := am_up_eq
theorem fs_H {st : am_S} {R H : Int32} : fs st R H 458 0 = H := rfl
theorem fs_n {st : am_S} {R H : Int32} {b : Nat} (h : ¬ b = 457 ∧ ¬ b = 458) : fs st R H b = st b := by
  unfold fs
  rw [am_up_bank h.1, am_up_bank h.2]
theorem fs_fs {st : am_S} {R H R' H' : Int32} : fs (fs st R H) R' H' = fs st R' H' := by
  funext b i
  unfold fs am_up
  by_cases h1 : b = 457 ∧ i = 0
  · simp only [if_pos h1]
  · by_cases h2 : b = 458 ∧ i = 0
    · simp only [if_neg h1, if_pos h2]
    · simp only [if_neg h1, if_neg h2]
theorem fs_self {st : am_S} {R H : Int32} (h1 : R = st 457 0) (h2 : H = st 458 0) : fs st R H = st := by
  unfold fs
  rw [am_up_self (v := H) h2, am_up_self h1]
theorem fs_com {st : am_S} {R H : Int32} : am_up (am_up st 457 0 R) 458 0 H = fs st R H := by
  funext b i
  unfold fs am_up
  by_cases h1 : b = 457 ∧ i = 0
  · rw [if_neg (by omega), if_pos h1, if_pos h1]
  · by_cases h2 : b = 458 ∧ i = 0
    · rw [if_pos h2, if_neg h1, if_pos h2]
    · rw [if_neg h2, if_neg h1, if_neg h1, if_neg h2]
theorem sp_FL_takeAny {st : am_S} {f : Int32 → am_S → Prop} (h : f (tkT (st 457 0) (st 458 0)) (fs st (tkR (st 457 0) (st 458 0)) (tkH (st 458 0)))) : wp_FL_takeAny [.inr (.inl 126)] st (am_ki f) := by
  refine ⟨⟨rfl, Nat.le_of_ble_eq_true rfl⟩, ?_⟩
  by_cases e : st 458 0 = 0
  · unfold tkT tkR tkH at h
    rw [if_pos e, if_pos e, if_pos e, fs_self rfl rfl] at h
    refine r_al0 (q := 1) d_FL_takeAny_0 rfl ?_
    refine gt_FL_height (q := 4) d_FL_takeAny_1 rfl rfl ?_
    refine r_zne (tgt := 9) (q := 7) d_FL_takeAny_4 rfl rfl (fun e4 => ?_) (fun e4 => ?_)
    · skip
      exact absurd e e4
    · skip
      refine r_ic (v := 0) (q := 8) d_FL_takeAny_7 rfl rfl ?_
      refine r_ri d_FL_takeAny_8 ?_
      exact h
  · unfold tkT tkR tkH at h
    rw [if_neg e, if_neg e, if_neg e] at h
    refine r_al0 (q := 1) d_FL_takeAny_0 rfl ?_
    refine gt_FL_height (q := 4) d_FL_takeAny_1 rfl rfl ?_
    refine r_zne (tgt := 9) (q := 7) d_FL_takeAny_4 rfl rfl (fun e4 => ?_) (fun e4 => ?_)
    · skip
      refine r_al0 (q := 10) d_FL_takeAny_9 rfl ?_
      refine r_dupr (q := 11) d_FL_takeAny_10 rfl ?_
      refine gt_FL_height (q := 14) d_FL_takeAny_11 rfl rfl ?_
      refine r_ic (v := 1) (q := 15) d_FL_takeAny_14 rfl rfl ?_
      refine r_isub (q := 16) d_FL_takeAny_15 rfl ?_
      refine pt_FL_height (q := 19) d_FL_takeAny_16 rfl rfl ?_
      refine r_al0 (q := 20) d_FL_takeAny_19 rfl ?_
      refine gt_FL_row (q := 23) d_FL_takeAny_20 rfl rfl ?_
      refine r_al0 (q := 24) d_FL_takeAny_23 rfl ?_
      refine gt_FL_height (q := 27) d_FL_takeAny_24 rfl rfl ?_
      refine r_si2 mo_TY_at d_FL_takeAny_27 rfl rfl (q := 30) rfl ?_
      refine sp_TY_at ?_
      refine r_is1 (q := 31) d_FL_takeAny_30 rfl ?_
      refine r_al0 (q := 32) d_FL_takeAny_31 rfl ?_
      refine r_al0 (q := 33) d_FL_takeAny_32 rfl ?_
      refine gt_FL_row (q := 36) d_FL_takeAny_33 rfl rfl ?_
      refine r_al0 (q := 37) d_FL_takeAny_36 rfl ?_
      refine gt_FL_height (q := 40) d_FL_takeAny_37 rfl rfl ?_
      refine r_ic (v := 0) (q := 41) d_FL_takeAny_40 rfl rfl ?_
      refine r_si3 mo_TY_with d_FL_takeAny_41 rfl rfl (q := 44) rfl ?_
      refine sp_TY_with ?_
      refine pt_FL_row (q := 47) d_FL_takeAny_44 rfl rfl ?_
      refine r_il1 (q := 48) d_FL_takeAny_47 rfl ?_
      refine r_ri d_FL_takeAny_48 ?_
      exact h
    · skip
      exact absurd e4 e
theorem sp_FL_put {k : Int32} {st : am_S} {f : am_S → Prop} (h : f (fs st (puR (st 457 0) (st 458 0) k) (puH (st 458 0) k))) : wp_FL_put [.inr (.inl 126), .inl k] st (am_kv f) := by
  refine ⟨⟨rfl, Nat.le_of_ble_eq_true rfl⟩, ?_⟩
  by_cases e : k = 0
  · unfold puR puH at h
    rw [if_pos e, if_pos e, fs_self rfl rfl] at h
    refine r_il1 (q := 1) d_FL_put_0 rfl ?_
    refine r_zeq (tgt := 30) (q := 4) d_FL_put_1 rfl rfl (fun e1 => ?_) (fun e1 => ?_)
    · skip
      refine r_rv d_FL_put_30 ?_
      exact h
    · skip
      exact absurd e e1
  · unfold puR puH at h
    rw [if_neg e, if_neg e, ← fs_com] at h
    refine r_il1 (q := 1) d_FL_put_0 rfl ?_
    refine r_zeq (tgt := 30) (q := 4) d_FL_put_1 rfl rfl (fun e1 => ?_) (fun e1 => ?_)
    · skip
      refine r_rv d_FL_put_30 ?_
      first | exact absurd e1 e | exact h
    · skip
      refine r_al0 (q := 5) d_FL_put_4 rfl ?_
      refine r_al0 (q := 6) d_FL_put_5 rfl ?_
      refine gt_FL_row (q := 9) d_FL_put_6 rfl rfl ?_
      refine r_al0 (q := 10) d_FL_put_9 rfl ?_
      refine gt_FL_height (q := 13) d_FL_put_10 rfl rfl ?_
      refine r_il1 (q := 14) d_FL_put_13 rfl ?_
      refine r_si3 mo_TY_with d_FL_put_14 rfl rfl (q := 17) rfl ?_
      refine sp_TY_with ?_
      refine pt_FL_row (q := 20) d_FL_put_17 rfl rfl ?_
      refine r_al0 (q := 21) d_FL_put_20 rfl ?_
      refine r_dupr (q := 22) d_FL_put_21 rfl ?_
      refine gt_FL_height (q := 25) d_FL_put_22 rfl rfl ?_
      refine r_ic (v := 1) (q := 26) d_FL_put_25 rfl rfl ?_
      refine r_iadd (q := 27) d_FL_put_26 rfl ?_
      refine pt_FL_height (q := 30) d_FL_put_27 rfl rfl ?_
      refine r_rv d_FL_put_30 ?_
      first | exact absurd e1 e | exact h
theorem sp_TY_readFromLocal {x : Int32} {st : am_S} {f : Int32 → am_S → Prop} (h : f (ty_rl x) st) : wp_TY_readFromLocal [.inl x] st (am_ki f) := by
  refine ⟨⟨rfl, Nat.le_of_ble_eq_true rfl⟩, ?_⟩
  unfold ty_rl at h
  refine r_il0 (q := 1) d_TY_readFromLocal_0 rfl ?_
  refine r_lsw [([21, 132], 36), ([25], 38)] (tgt := 40) d_TY_readFromLocal_1 (by decide +kernel) (And.intro (fun e1 => ?_) (And.intro (fun e1 => ?_) trivial)) (fun e1 => ?_)
  · skip
    refine r_ic (v := 1) (q := 37) d_TY_readFromLocal_36 rfl rfl ?_
    refine r_ri d_TY_readFromLocal_37 ?_
    first | exact h | (split at h <;> first | exact h | (exfalso; ((try simp +decide only [b01, b10, b11, am_up, ik, and_true, and_false, true_and, false_and, if_true, if_false, nn_eq] at *) <;> (try simp only [sw_or, sw_all, or_false, and_true, i32_lt, i32_le, i32_eq, i32_addw, i32_subw, i32_mulw, Int32.reduceToInt] at *) <;> omega)) | (split at h <;> first | exact h | (exfalso; ((try simp +decide only [b01, b10, b11, am_up, ik, and_true, and_false, true_and, false_and, if_true, if_false, nn_eq] at *) <;> (try simp only [sw_or, sw_all, or_false, and_true, i32_lt, i32_le, i32_eq, i32_addw, i32_subw, i32_mulw, Int32.reduceToInt] at *) <;> omega))))
  · skip
    refine r_ic (v := 2) (q := 39) d_TY_readFromLocal_38 rfl rfl ?_
    refine r_ri d_TY_readFromLocal_39 ?_
    first | exact h | (split at h <;> first | exact h | (exfalso; ((try simp +decide only [b01, b10, b11, am_up, ik, and_true, and_false, true_and, false_and, if_true, if_false, nn_eq] at *) <;> (try simp only [sw_or, sw_all, or_false, and_true, i32_lt, i32_le, i32_eq, i32_addw, i32_subw, i32_mulw, Int32.reduceToInt] at *) <;> omega)) | (split at h <;> first | exact h | (exfalso; ((try simp +decide only [b01, b10, b11, am_up, ik, and_true, and_false, true_and, false_and, if_true, if_false, nn_eq] at *) <;> (try simp only [sw_or, sw_all, or_false, and_true, i32_lt, i32_le, i32_eq, i32_addw, i32_subw, i32_mulw, Int32.reduceToInt] at *) <;> omega))))
  · skip
    refine r_ic (v := 0) (q := 41) d_TY_readFromLocal_40 rfl rfl ?_
    refine r_ri d_TY_readFromLocal_41 ?_
    first | exact h | (split at h <;> first | exact h | (exfalso; ((try simp +decide only [b01, b10, b11, am_up, ik, and_true, and_false, true_and, false_and, if_true, if_false, nn_eq] at *) <;> (try simp only [sw_or, sw_all, or_false, and_true, i32_lt, i32_le, i32_eq, i32_addw, i32_subw, i32_mulw, Int32.reduceToInt] at *) <;> omega)) | (split at h <;> first | exact h | (exfalso; ((try simp +decide only [b01, b10, b11, am_up, ik, and_true, and_false, true_and, false_and, if_true, if_false, nn_eq] at *) <;> (try simp only [sw_or, sw_all, or_false, and_true, i32_lt, i32_le, i32_eq, i32_addw, i32_subw, i32_mulw, Int32.reduceToInt] at *) <;> omega))))
theorem sp_TY_writtenToLocal {x : Int32} {st : am_S} {f : Int32 → am_S → Prop} (h : f (ty_wr x) st) : wp_TY_writtenToLocal [.inl x] st (am_ki f) := by
  refine ⟨⟨rfl, Nat.le_of_ble_eq_true rfl⟩, ?_⟩
  unfold ty_wr at h
  refine r_il0 (q := 1) d_TY_writtenToLocal_0 rfl ?_
  refine r_lsw [([54], 28), ([58], 30)] (tgt := 32) d_TY_writtenToLocal_1 (by decide +kernel) (And.intro (fun e1 => ?_) (And.intro (fun e1 => ?_) trivial)) (fun e1 => ?_)
  · skip
    refine r_ic (v := 1) (q := 29) d_TY_writtenToLocal_28 rfl rfl ?_
    refine r_ri d_TY_writtenToLocal_29 ?_
    first | exact h | (split at h <;> first | exact h | (exfalso; ((try simp +decide only [b01, b10, b11, am_up, ik, and_true, and_false, true_and, false_and, if_true, if_false, nn_eq] at *) <;> (try simp only [sw_or, sw_all, or_false, and_true, i32_lt, i32_le, i32_eq, i32_addw, i32_subw, i32_mulw, Int32.reduceToInt] at *) <;> omega)) | (split at h <;> first | exact h | (exfalso; ((try simp +decide only [b01, b10, b11, am_up, ik, and_true, and_false, true_and, false_and, if_true, if_false, nn_eq] at *) <;> (try simp only [sw_or, sw_all, or_false, and_true, i32_lt, i32_le, i32_eq, i32_addw, i32_subw, i32_mulw, Int32.reduceToInt] at *) <;> omega))))
  · skip
    refine r_ic (v := 2) (q := 31) d_TY_writtenToLocal_30 rfl rfl ?_
    refine r_ri d_TY_writtenToLocal_31 ?_
    first | exact h | (split at h <;> first | exact h | (exfalso; ((try simp +decide only [b01, b10, b11, am_up, ik, and_true, and_false, true_and, false_and, if_true, if_false, nn_eq] at *) <;> (try simp only [sw_or, sw_all, or_false, and_true, i32_lt, i32_le, i32_eq, i32_addw, i32_subw, i32_mulw, Int32.reduceToInt] at *) <;> omega)) | (split at h <;> first | exact h | (exfalso; ((try simp +decide only [b01, b10, b11, am_up, ik, and_true, and_false, true_and, false_and, if_true, if_false, nn_eq] at *) <;> (try simp only [sw_or, sw_all, or_false, and_true, i32_lt, i32_le, i32_eq, i32_addw, i32_subw, i32_mulw, Int32.reduceToInt] at *) <;> omega))))
  · skip
    refine r_ic (v := 0) (q := 33) d_TY_writtenToLocal_32 rfl rfl ?_
    refine r_ri d_TY_writtenToLocal_33 ?_
    first | exact h | (split at h <;> first | exact h | (exfalso; ((try simp +decide only [b01, b10, b11, am_up, ik, and_true, and_false, true_and, false_and, if_true, if_false, nn_eq] at *) <;> (try simp only [sw_or, sw_all, or_false, and_true, i32_lt, i32_le, i32_eq, i32_addw, i32_subw, i32_mulw, Int32.reduceToInt] at *) <;> omega)) | (split at h <;> first | exact h | (exfalso; ((try simp +decide only [b01, b10, b11, am_up, ik, and_true, and_false, true_and, false_and, if_true, if_false, nn_eq] at *) <;> (try simp only [sw_or, sw_all, or_false, and_true, i32_lt, i32_le, i32_eq, i32_addw, i32_subw, i32_mulw, Int32.reduceToInt] at *) <;> omega))))
theorem sp_TY_put {x : Int32} {st : am_S} {f : Int32 → am_S → Prop} (h : f (ty_pt x) st) : wp_TY_put [.inl x] st (am_ki f) := by
  refine ⟨⟨rfl, Nat.le_of_ble_eq_true rfl⟩, ?_⟩
  unfold ty_pt at h
  simp only [List.mem_cons, List.not_mem_nil, or_false] at h
  refine r_il0 (q := 1) d_TY_put_0 rfl ?_
  refine r_si1 mo_OP_isCalculation d_TY_put_1 rfl rfl (q := 4) rfl ?_
  refine sp_OP_isCalculation (fun e1 => ?_) (fun e1 => ?_)
  · skip
    refine r_zeq (tgt := 9) (q := 7) d_TY_put_4 rfl rfl (fun e4 => by exfalso; revert e4; decide) (fun e4 => ?_)
    refine r_ic (v := 1) (q := 8) d_TY_put_7 rfl rfl ?_
    refine r_ri d_TY_put_8 ?_
    (try unfold op_calc at e1); first | exact h | (split at h <;> first | exact h | (exfalso; ((try simp +decide only [b01, b10, b11, am_up, ik, and_true, and_false, true_and, false_and, if_true, if_false, nn_eq] at *) <;> (try simp only [sw_or, sw_all, or_false, and_true, i32_lt, i32_le, i32_eq, i32_addw, i32_subw, i32_mulw, Int32.reduceToInt] at *) <;> omega)) | (split at h <;> first | exact h | (exfalso; ((try simp +decide only [b01, b10, b11, am_up, ik, and_true, and_false, true_and, false_and, if_true, if_false, nn_eq] at *) <;> (try simp only [sw_or, sw_all, or_false, and_true, i32_lt, i32_le, i32_eq, i32_addw, i32_subw, i32_mulw, Int32.reduceToInt] at *) <;> omega))))
  · skip
    refine r_zeq (tgt := 9) (q := 7) d_TY_put_4 rfl rfl (fun e4 => ?_) (fun e4 => by exfalso; revert e4; decide)
    refine r_il0 (q := 10) d_TY_put_9 rfl ?_
    refine r_lsw [([1, 25, 188], 94), ([17, 21, 46, 116, 178, 190], 92)] (tgt := 96) d_TY_put_10 (by decide +kernel) (And.intro (fun e10 => ?_) (And.intro (fun e10 => ?_) trivial)) (fun e10 => ?_)
    · skip
      refine r_ic (v := 2) (q := 95) d_TY_put_94 rfl rfl ?_
      refine r_ri d_TY_put_95 ?_
      (try unfold op_calc at e1); first | exact h | (split at h <;> first | exact h | (exfalso; ((try simp +decide only [b01, b10, b11, am_up, ik, and_true, and_false, true_and, false_and, if_true, if_false, nn_eq] at *) <;> (try simp only [sw_or, sw_all, or_false, and_true, i32_lt, i32_le, i32_eq, i32_addw, i32_subw, i32_mulw, Int32.reduceToInt] at *) <;> omega)) | (split at h <;> first | exact h | (exfalso; ((try simp +decide only [b01, b10, b11, am_up, ik, and_true, and_false, true_and, false_and, if_true, if_false, nn_eq] at *) <;> (try simp only [sw_or, sw_all, or_false, and_true, i32_lt, i32_le, i32_eq, i32_addw, i32_subw, i32_mulw, Int32.reduceToInt] at *) <;> omega))))
    · skip
      refine r_ic (v := 1) (q := 93) d_TY_put_92 rfl rfl ?_
      refine r_ri d_TY_put_93 ?_
      (try unfold op_calc at e1); first | exact h | (split at h <;> first | exact h | (exfalso; ((try simp +decide only [b01, b10, b11, am_up, ik, and_true, and_false, true_and, false_and, if_true, if_false, nn_eq] at *) <;> (try simp only [sw_or, sw_all, or_false, and_true, i32_lt, i32_le, i32_eq, i32_addw, i32_subw, i32_mulw, Int32.reduceToInt] at *) <;> omega)) | (split at h <;> first | exact h | (exfalso; ((try simp +decide only [b01, b10, b11, am_up, ik, and_true, and_false, true_and, false_and, if_true, if_false, nn_eq] at *) <;> (try simp only [sw_or, sw_all, or_false, and_true, i32_lt, i32_le, i32_eq, i32_addw, i32_subw, i32_mulw, Int32.reduceToInt] at *) <;> omega))))
    · skip
      refine r_ic (v := 0) (q := 97) d_TY_put_96 rfl rfl ?_
      refine r_ri d_TY_put_97 ?_
      (try unfold op_calc at e1); first | exact h | (split at h <;> first | exact h | (exfalso; ((try simp +decide only [b01, b10, b11, am_up, ik, and_true, and_false, true_and, false_and, if_true, if_false, nn_eq] at *) <;> (try simp only [sw_or, sw_all, or_false, and_true, i32_lt, i32_le, i32_eq, i32_addw, i32_subw, i32_mulw, Int32.reduceToInt] at *) <;> omega)) | (split at h <;> first | exact h | (exfalso; ((try simp +decide only [b01, b10, b11, am_up, ik, and_true, and_false, true_and, false_and, if_true, if_false, nn_eq] at *) <;> (try simp only [sw_or, sw_all, or_false, and_true, i32_lt, i32_le, i32_eq, i32_addw, i32_subw, i32_mulw, Int32.reduceToInt] at *) <;> omega))))
def ty_tk (op : Int32) : Int32 := if op.toInt ∈ [96, 100, 104, 108, 112, 120, 122, 124, 126, 128, 130, 159, 160, 161, 162, 163, 164] then 5 else if op.toInt ∈ [153, 154, 155, 156, 157, 158, 54, 116, 172, 179, 188] then 1 else if op = 165 ∨ op = 166 then 10 else if op.toInt ∈ [58, 190, 198, 199] then 2 else if op = 46 then 9 else if op = 79 then 37 else 0
theorem sp_TY_taken {x : Int32} {st : am_S} {f : Int32 → am_S → Prop} (h : f (ty_tk x) st) : wp_TY_taken [.inl x] st (am_ki f) := by
  refine ⟨⟨rfl, Nat.le_of_ble_eq_true rfl⟩, ?_⟩
  unfold ty_tk at h
  simp only [List.mem_cons, List.not_mem_nil, or_false] at h
  refine r_il0 (q := 1) d_TY_taken_0 rfl ?_
  refine r_si1 mo_OP_isCalculation d_TY_taken_1 rfl rfl (q := 4) rfl ?_
  refine sp_OP_isCalculation (fun e1 => ?_) (fun e1 => ?_)
  · skip
    refine r_zne (tgt := 21) (q := 7) d_TY_taken_4 rfl rfl (fun e4 => ?_) (fun e4 => by exfalso; revert e4; decide)
    refine r_ic (v := 5) (q := 22) d_TY_taken_21 rfl rfl ?_
    refine r_ri d_TY_taken_22 ?_
    (try unfold op_calc at e1); (repeat' split at h) <;> first | exact h | (exfalso; clear h; ((try simp +decide only [b01, b10, b11, am_up, ik, and_true, and_false, true_and, false_and, if_true, if_false, nn_eq] at *) <;> (try simp only [sw_or, sw_all, or_false, and_true, i32_lt, i32_le, i32_eq, i32_addw, i32_subw, i32_mulw, Int32.reduceToInt] at *) <;> omega))
  · skip
    refine r_zne (tgt := 21) (q := 7) d_TY_taken_4 rfl rfl (fun e4 => by exfalso; revert e4; decide) (fun e4 => ?_)
    refine r_il0 (q := 8) d_TY_taken_7 rfl ?_
    refine r_sp (v := 159) (q := 11) d_TY_taken_8 rfl rfl ?_
    refine r_clt (tgt := 23) (q := 14) d_TY_taken_11 rfl rfl (fun e11 => ?_) (fun e11 => ?_)
    · skip
      refine r_il0 (q := 24) d_TY_taken_23 rfl ?_
      refine r_sp (v := 153) (q := 27) d_TY_taken_24 rfl rfl ?_
      refine r_clt (tgt := 39) (q := 30) d_TY_taken_27 rfl rfl (fun e27 => ?_) (fun e27 => ?_)
      · skip
        refine r_il0 (q := 40) d_TY_taken_39 rfl ?_
        refine r_sp (v := 165) (q := 43) d_TY_taken_40 rfl rfl ?_
        refine r_clt (tgt := 56) (q := 46) d_TY_taken_43 rfl rfl (fun e43 => ?_) (fun e43 => ?_)
        · skip
          refine r_il0 (q := 57) d_TY_taken_56 rfl ?_
          refine r_lsw [([46], 160), ([54, 116, 172, 179, 188], 156), ([58, 190, 198, 199], 158), ([79], 163)] (tgt := 166) d_TY_taken_57 (by decide +kernel) (And.intro (fun e57 => ?_) (And.intro (fun e57 => ?_) (And.intro (fun e57 => ?_) (And.intro (fun e57 => ?_) trivial)))) (fun e57 => ?_)
          · skip
            refine r_bp (v := 9) (q := 162) d_TY_taken_160 rfl rfl ?_
            refine r_ri d_TY_taken_162 ?_
            (try unfold op_calc at e1); (repeat' split at h) <;> first | exact h | (exfalso; clear h; ((try simp +decide only [b01, b10, b11, am_up, ik, and_true, and_false, true_and, false_and, if_true, if_false, nn_eq] at *) <;> (try simp only [sw_or, sw_all, or_false, and_true, i32_lt, i32_le, i32_eq, i32_addw, i32_subw, i32_mulw, Int32.reduceToInt] at *) <;> omega))
          · skip
            refine r_ic (v := 1) (q := 157) d_TY_taken_156 rfl rfl ?_
            refine r_ri d_TY_taken_157 ?_
            (try unfold op_calc at e1); (repeat' split at h) <;> first | exact h | (exfalso; clear h; ((try simp +decide only [b01, b10, b11, am_up, ik, and_true, and_false, true_and, false_and, if_true, if_false, nn_eq] at *) <;> (try simp only [sw_or, sw_all, or_false, and_true, i32_lt, i32_le, i32_eq, i32_addw, i32_subw, i32_mulw, Int32.reduceToInt] at *) <;> omega))
          · skip
            refine r_ic (v := 2) (q := 159) d_TY_taken_158 rfl rfl ?_
            refine r_ri d_TY_taken_159 ?_
            (try unfold op_calc at e1); (repeat' split at h) <;> first | exact h | (exfalso; clear h; ((try simp +decide only [b01, b10, b11, am_up, ik, and_true, and_false, true_and, false_and, if_true, if_false, nn_eq] at *) <;> (try simp only [sw_or, sw_all, or_false, and_true, i32_lt, i32_le, i32_eq, i32_addw, i32_subw, i32_mulw, Int32.reduceToInt] at *) <;> omega))
          · skip
            refine r_bp (v := 37) (q := 165) d_TY_taken_163 rfl rfl ?_
            refine r_ri d_TY_taken_165 ?_
            (try unfold op_calc at e1); (repeat' split at h) <;> first | exact h | (exfalso; clear h; ((try simp +decide only [b01, b10, b11, am_up, ik, and_true, and_false, true_and, false_and, if_true, if_false, nn_eq] at *) <;> (try simp only [sw_or, sw_all, or_false, and_true, i32_lt, i32_le, i32_eq, i32_addw, i32_subw, i32_mulw, Int32.reduceToInt] at *) <;> omega))
          · skip
            refine r_ic (v := 0) (q := 167) d_TY_taken_166 rfl rfl ?_
            refine r_ri d_TY_taken_167 ?_
            (try unfold op_calc at e1); (repeat' split at h) <;> first | exact h | (exfalso; clear h; ((try simp +decide only [b01, b10, b11, am_up, ik, and_true, and_false, true_and, false_and, if_true, if_false, nn_eq] at *) <;> (try simp only [sw_or, sw_all, or_false, and_true, i32_lt, i32_le, i32_eq, i32_addw, i32_subw, i32_mulw, Int32.reduceToInt] at *) <;> omega))
        · skip
          refine r_il0 (q := 47) d_TY_taken_46 rfl ?_
          refine r_sp (v := 167) (q := 50) d_TY_taken_47 rfl rfl ?_
          refine r_cge (tgt := 56) (q := 53) d_TY_taken_50 rfl rfl (fun e50 => ?_) (fun e50 => ?_)
          · skip
            refine r_il0 (q := 57) d_TY_taken_56 rfl ?_
            refine r_lsw [([46], 160), ([54, 116, 172, 179, 188], 156), ([58, 190, 198, 199], 158), ([79], 163)] (tgt := 166) d_TY_taken_57 (by decide +kernel) (And.intro (fun e57 => ?_) (And.intro (fun e57 => ?_) (And.intro (fun e57 => ?_) (And.intro (fun e57 => ?_) trivial)))) (fun e57 => ?_)
            · skip
              refine r_bp (v := 9) (q := 162) d_TY_taken_160 rfl rfl ?_
              refine r_ri d_TY_taken_162 ?_
              (try unfold op_calc at e1); (repeat' split at h) <;> first | exact h | (exfalso; clear h; ((try simp +decide only [b01, b10, b11, am_up, ik, and_true, and_false, true_and, false_and, if_true, if_false, nn_eq] at *) <;> (try simp only [sw_or, sw_all, or_false, and_true, i32_lt, i32_le, i32_eq, i32_addw, i32_subw, i32_mulw, Int32.reduceToInt] at *) <;> omega))
            · skip
              refine r_ic (v := 1) (q := 157) d_TY_taken_156 rfl rfl ?_
              refine r_ri d_TY_taken_157 ?_
              (try unfold op_calc at e1); (repeat' split at h) <;> first | exact h | (exfalso; clear h; ((try simp +decide only [b01, b10, b11, am_up, ik, and_true, and_false, true_and, false_and, if_true, if_false, nn_eq] at *) <;> (try simp only [sw_or, sw_all, or_false, and_true, i32_lt, i32_le, i32_eq, i32_addw, i32_subw, i32_mulw, Int32.reduceToInt] at *) <;> omega))
            · skip
              refine r_ic (v := 2) (q := 159) d_TY_taken_158 rfl rfl ?_
              refine r_ri d_TY_taken_159 ?_
              (try unfold op_calc at e1); (repeat' split at h) <;> first | exact h | (exfalso; clear h; ((try simp +decide only [b01, b10, b11, am_up, ik, and_true, and_false, true_and, false_and, if_true, if_false, nn_eq] at *) <;> (try simp only [sw_or, sw_all, or_false, and_true, i32_lt, i32_le, i32_eq, i32_addw, i32_subw, i32_mulw, Int32.reduceToInt] at *) <;> omega))
            · skip
              refine r_bp (v := 37) (q := 165) d_TY_taken_163 rfl rfl ?_
              refine r_ri d_TY_taken_165 ?_
              (try unfold op_calc at e1); (repeat' split at h) <;> first | exact h | (exfalso; clear h; ((try simp +decide only [b01, b10, b11, am_up, ik, and_true, and_false, true_and, false_and, if_true, if_false, nn_eq] at *) <;> (try simp only [sw_or, sw_all, or_false, and_true, i32_lt, i32_le, i32_eq, i32_addw, i32_subw, i32_mulw, Int32.reduceToInt] at *) <;> omega))
            · skip
              refine r_ic (v := 0) (q := 167) d_TY_taken_166 rfl rfl ?_
              refine r_ri d_TY_taken_167 ?_
              (try unfold op_calc at e1); (repeat' split at h) <;> first | exact h | (exfalso; clear h; ((try simp +decide only [b01, b10, b11, am_up, ik, and_true, and_false, true_and, false_and, if_true, if_false, nn_eq] at *) <;> (try simp only [sw_or, sw_all, or_false, and_true, i32_lt, i32_le, i32_eq, i32_addw, i32_subw, i32_mulw, Int32.reduceToInt] at *) <;> omega))
          · skip
            refine r_bp (v := 10) (q := 55) d_TY_taken_53 rfl rfl ?_
            refine r_ri d_TY_taken_55 ?_
            (try unfold op_calc at e1); (repeat' split at h) <;> first | exact h | (exfalso; clear h; ((try simp +decide only [b01, b10, b11, am_up, ik, and_true, and_false, true_and, false_and, if_true, if_false, nn_eq] at *) <;> (try simp only [sw_or, sw_all, or_false, and_true, i32_lt, i32_le, i32_eq, i32_addw, i32_subw, i32_mulw, Int32.reduceToInt] at *) <;> omega))
      · skip
        refine r_il0 (q := 31) d_TY_taken_30 rfl ?_
        refine r_sp (v := 159) (q := 34) d_TY_taken_31 rfl rfl ?_
        refine r_cge (tgt := 39) (q := 37) d_TY_taken_34 rfl rfl (fun e34 => ?_) (fun e34 => ?_)
        · skip
          refine r_il0 (q := 40) d_TY_taken_39 rfl ?_
          refine r_sp (v := 165) (q := 43) d_TY_taken_40 rfl rfl ?_
          refine r_clt (tgt := 56) (q := 46) d_TY_taken_43 rfl rfl (fun e43 => ?_) (fun e43 => ?_)
          · skip
            refine r_il0 (q := 57) d_TY_taken_56 rfl ?_
            refine r_lsw [([46], 160), ([54, 116, 172, 179, 188], 156), ([58, 190, 198, 199], 158), ([79], 163)] (tgt := 166) d_TY_taken_57 (by decide +kernel) (And.intro (fun e57 => ?_) (And.intro (fun e57 => ?_) (And.intro (fun e57 => ?_) (And.intro (fun e57 => ?_) trivial)))) (fun e57 => ?_)
            · skip
              refine r_bp (v := 9) (q := 162) d_TY_taken_160 rfl rfl ?_
              refine r_ri d_TY_taken_162 ?_
              (try unfold op_calc at e1); (repeat' split at h) <;> first | exact h | (exfalso; clear h; ((try simp +decide only [b01, b10, b11, am_up, ik, and_true, and_false, true_and, false_and, if_true, if_false, nn_eq] at *) <;> (try simp only [sw_or, sw_all, or_false, and_true, i32_lt, i32_le, i32_eq, i32_addw, i32_subw, i32_mulw, Int32.reduceToInt] at *) <;> omega))
            · skip
              refine r_ic (v := 1) (q := 157) d_TY_taken_156 rfl rfl ?_
              refine r_ri d_TY_taken_157 ?_
              (try unfold op_calc at e1); (repeat' split at h) <;> first | exact h | (exfalso; clear h; ((try simp +decide only [b01, b10, b11, am_up, ik, and_true, and_false, true_and, false_and, if_true, if_false, nn_eq] at *) <;> (try simp only [sw_or, sw_all, or_false, and_true, i32_lt, i32_le, i32_eq, i32_addw, i32_subw, i32_mulw, Int32.reduceToInt] at *) <;> omega))
            · skip
              refine r_ic (v := 2) (q := 159) d_TY_taken_158 rfl rfl ?_
              refine r_ri d_TY_taken_159 ?_
              (try unfold op_calc at e1); (repeat' split at h) <;> first | exact h | (exfalso; clear h; ((try simp +decide only [b01, b10, b11, am_up, ik, and_true, and_false, true_and, false_and, if_true, if_false, nn_eq] at *) <;> (try simp only [sw_or, sw_all, or_false, and_true, i32_lt, i32_le, i32_eq, i32_addw, i32_subw, i32_mulw, Int32.reduceToInt] at *) <;> omega))
            · skip
              refine r_bp (v := 37) (q := 165) d_TY_taken_163 rfl rfl ?_
              refine r_ri d_TY_taken_165 ?_
              (try unfold op_calc at e1); (repeat' split at h) <;> first | exact h | (exfalso; clear h; ((try simp +decide only [b01, b10, b11, am_up, ik, and_true, and_false, true_and, false_and, if_true, if_false, nn_eq] at *) <;> (try simp only [sw_or, sw_all, or_false, and_true, i32_lt, i32_le, i32_eq, i32_addw, i32_subw, i32_mulw, Int32.reduceToInt] at *) <;> omega))
            · skip
              refine r_ic (v := 0) (q := 167) d_TY_taken_166 rfl rfl ?_
              refine r_ri d_TY_taken_167 ?_
              (try unfold op_calc at e1); (repeat' split at h) <;> first | exact h | (exfalso; clear h; ((try simp +decide only [b01, b10, b11, am_up, ik, and_true, and_false, true_and, false_and, if_true, if_false, nn_eq] at *) <;> (try simp only [sw_or, sw_all, or_false, and_true, i32_lt, i32_le, i32_eq, i32_addw, i32_subw, i32_mulw, Int32.reduceToInt] at *) <;> omega))
          · skip
            refine r_il0 (q := 47) d_TY_taken_46 rfl ?_
            refine r_sp (v := 167) (q := 50) d_TY_taken_47 rfl rfl ?_
            refine r_cge (tgt := 56) (q := 53) d_TY_taken_50 rfl rfl (fun e50 => ?_) (fun e50 => ?_)
            · skip
              refine r_il0 (q := 57) d_TY_taken_56 rfl ?_
              refine r_lsw [([46], 160), ([54, 116, 172, 179, 188], 156), ([58, 190, 198, 199], 158), ([79], 163)] (tgt := 166) d_TY_taken_57 (by decide +kernel) (And.intro (fun e57 => ?_) (And.intro (fun e57 => ?_) (And.intro (fun e57 => ?_) (And.intro (fun e57 => ?_) trivial)))) (fun e57 => ?_)
              · skip
                refine r_bp (v := 9) (q := 162) d_TY_taken_160 rfl rfl ?_
                refine r_ri d_TY_taken_162 ?_
                (try unfold op_calc at e1); (repeat' split at h) <;> first | exact h | (exfalso; clear h; ((try simp +decide only [b01, b10, b11, am_up, ik, and_true, and_false, true_and, false_and, if_true, if_false, nn_eq] at *) <;> (try simp only [sw_or, sw_all, or_false, and_true, i32_lt, i32_le, i32_eq, i32_addw, i32_subw, i32_mulw, Int32.reduceToInt] at *) <;> omega))
              · skip
                refine r_ic (v := 1) (q := 157) d_TY_taken_156 rfl rfl ?_
                refine r_ri d_TY_taken_157 ?_
                (try unfold op_calc at e1); (repeat' split at h) <;> first | exact h | (exfalso; clear h; ((try simp +decide only [b01, b10, b11, am_up, ik, and_true, and_false, true_and, false_and, if_true, if_false, nn_eq] at *) <;> (try simp only [sw_or, sw_all, or_false, and_true, i32_lt, i32_le, i32_eq, i32_addw, i32_subw, i32_mulw, Int32.reduceToInt] at *) <;> omega))
              · skip
                refine r_ic (v := 2) (q := 159) d_TY_taken_158 rfl rfl ?_
                refine r_ri d_TY_taken_159 ?_
                (try unfold op_calc at e1); (repeat' split at h) <;> first | exact h | (exfalso; clear h; ((try simp +decide only [b01, b10, b11, am_up, ik, and_true, and_false, true_and, false_and, if_true, if_false, nn_eq] at *) <;> (try simp only [sw_or, sw_all, or_false, and_true, i32_lt, i32_le, i32_eq, i32_addw, i32_subw, i32_mulw, Int32.reduceToInt] at *) <;> omega))
              · skip
                refine r_bp (v := 37) (q := 165) d_TY_taken_163 rfl rfl ?_
                refine r_ri d_TY_taken_165 ?_
                (try unfold op_calc at e1); (repeat' split at h) <;> first | exact h | (exfalso; clear h; ((try simp +decide only [b01, b10, b11, am_up, ik, and_true, and_false, true_and, false_and, if_true, if_false, nn_eq] at *) <;> (try simp only [sw_or, sw_all, or_false, and_true, i32_lt, i32_le, i32_eq, i32_addw, i32_subw, i32_mulw, Int32.reduceToInt] at *) <;> omega))
              · skip
                refine r_ic (v := 0) (q := 167) d_TY_taken_166 rfl rfl ?_
                refine r_ri d_TY_taken_167 ?_
                (try unfold op_calc at e1); (repeat' split at h) <;> first | exact h | (exfalso; clear h; ((try simp +decide only [b01, b10, b11, am_up, ik, and_true, and_false, true_and, false_and, if_true, if_false, nn_eq] at *) <;> (try simp only [sw_or, sw_all, or_false, and_true, i32_lt, i32_le, i32_eq, i32_addw, i32_subw, i32_mulw, Int32.reduceToInt] at *) <;> omega))
            · skip
              refine r_bp (v := 10) (q := 55) d_TY_taken_53 rfl rfl ?_
              refine r_ri d_TY_taken_55 ?_
              (try unfold op_calc at e1); (repeat' split at h) <;> first | exact h | (exfalso; clear h; ((try simp +decide only [b01, b10, b11, am_up, ik, and_true, and_false, true_and, false_and, if_true, if_false, nn_eq] at *) <;> (try simp only [sw_or, sw_all, or_false, and_true, i32_lt, i32_le, i32_eq, i32_addw, i32_subw, i32_mulw, Int32.reduceToInt] at *) <;> omega))
        · skip
          refine r_ic (v := 1) (q := 38) d_TY_taken_37 rfl rfl ?_
          refine r_ri d_TY_taken_38 ?_
          (try unfold op_calc at e1); (repeat' split at h) <;> first | exact h | (exfalso; clear h; ((try simp +decide only [b01, b10, b11, am_up, ik, and_true, and_false, true_and, false_and, if_true, if_false, nn_eq] at *) <;> (try simp only [sw_or, sw_all, or_false, and_true, i32_lt, i32_le, i32_eq, i32_addw, i32_subw, i32_mulw, Int32.reduceToInt] at *) <;> omega))
    · skip
      refine r_il0 (q := 15) d_TY_taken_14 rfl ?_
      refine r_sp (v := 165) (q := 18) d_TY_taken_15 rfl rfl ?_
      refine r_cge (tgt := 23) (q := 21) d_TY_taken_18 rfl rfl (fun e18 => ?_) (fun e18 => ?_)
      · skip
        refine r_il0 (q := 24) d_TY_taken_23 rfl ?_
        refine r_sp (v := 153) (q := 27) d_TY_taken_24 rfl rfl ?_
        refine r_clt (tgt := 39) (q := 30) d_TY_taken_27 rfl rfl (fun e27 => ?_) (fun e27 => ?_)
        · skip
          refine r_il0 (q := 40) d_TY_taken_39 rfl ?_
          refine r_sp (v := 165) (q := 43) d_TY_taken_40 rfl rfl ?_
          refine r_clt (tgt := 56) (q := 46) d_TY_taken_43 rfl rfl (fun e43 => ?_) (fun e43 => ?_)
          · skip
            refine r_il0 (q := 57) d_TY_taken_56 rfl ?_
            refine r_lsw [([46], 160), ([54, 116, 172, 179, 188], 156), ([58, 190, 198, 199], 158), ([79], 163)] (tgt := 166) d_TY_taken_57 (by decide +kernel) (And.intro (fun e57 => ?_) (And.intro (fun e57 => ?_) (And.intro (fun e57 => ?_) (And.intro (fun e57 => ?_) trivial)))) (fun e57 => ?_)
            · skip
              refine r_bp (v := 9) (q := 162) d_TY_taken_160 rfl rfl ?_
              refine r_ri d_TY_taken_162 ?_
              (try unfold op_calc at e1); (repeat' split at h) <;> first | exact h | (exfalso; clear h; ((try simp +decide only [b01, b10, b11, am_up, ik, and_true, and_false, true_and, false_and, if_true, if_false, nn_eq] at *) <;> (try simp only [sw_or, sw_all, or_false, and_true, i32_lt, i32_le, i32_eq, i32_addw, i32_subw, i32_mulw, Int32.reduceToInt] at *) <;> omega))
            · skip
              refine r_ic (v := 1) (q := 157) d_TY_taken_156 rfl rfl ?_
              refine r_ri d_TY_taken_157 ?_
              (try unfold op_calc at e1); (repeat' split at h) <;> first | exact h | (exfalso; clear h; ((try simp +decide only [b01, b10, b11, am_up, ik, and_true, and_false, true_and, false_and, if_true, if_false, nn_eq] at *) <;> (try simp only [sw_or, sw_all, or_false, and_true, i32_lt, i32_le, i32_eq, i32_addw, i32_subw, i32_mulw, Int32.reduceToInt] at *) <;> omega))
            · skip
              refine r_ic (v := 2) (q := 159) d_TY_taken_158 rfl rfl ?_
              refine r_ri d_TY_taken_159 ?_
              (try unfold op_calc at e1); (repeat' split at h) <;> first | exact h | (exfalso; clear h; ((try simp +decide only [b01, b10, b11, am_up, ik, and_true, and_false, true_and, false_and, if_true, if_false, nn_eq] at *) <;> (try simp only [sw_or, sw_all, or_false, and_true, i32_lt, i32_le, i32_eq, i32_addw, i32_subw, i32_mulw, Int32.reduceToInt] at *) <;> omega))
            · skip
              refine r_bp (v := 37) (q := 165) d_TY_taken_163 rfl rfl ?_
              refine r_ri d_TY_taken_165 ?_
              (try unfold op_calc at e1); (repeat' split at h) <;> first | exact h | (exfalso; clear h; ((try simp +decide only [b01, b10, b11, am_up, ik, and_true, and_false, true_and, false_and, if_true, if_false, nn_eq] at *) <;> (try simp only [sw_or, sw_all, or_false, and_true, i32_lt, i32_le, i32_eq, i32_addw, i32_subw, i32_mulw, Int32.reduceToInt] at *) <;> omega))
            · skip
              refine r_ic (v := 0) (q := 167) d_TY_taken_166 rfl rfl ?_
              refine r_ri d_TY_taken_167 ?_
              (try unfold op_calc at e1); (repeat' split at h) <;> first | exact h | (exfalso; clear h; ((try simp +decide only [b01, b10, b11, am_up, ik, and_true, and_false, true_and, false_and, if_true, if_false, nn_eq] at *) <;> (try simp only [sw_or, sw_all, or_false, and_true, i32_lt, i32_le, i32_eq, i32_addw, i32_subw, i32_mulw, Int32.reduceToInt] at *) <;> omega))
          · skip
            refine r_il0 (q := 47) d_TY_taken_46 rfl ?_
            refine r_sp (v := 167) (q := 50) d_TY_taken_47 rfl rfl ?_
            refine r_cge (tgt := 56) (q := 53) d_TY_taken_50 rfl rfl (fun e50 => ?_) (fun e50 => ?_)
            · skip
              refine r_il0 (q := 57) d_TY_taken_56 rfl ?_
              refine r_lsw [([46], 160), ([54, 116, 172, 179, 188], 156), ([58, 190, 198, 199], 158), ([79], 163)] (tgt := 166) d_TY_taken_57 (by decide +kernel) (And.intro (fun e57 => ?_) (And.intro (fun e57 => ?_) (And.intro (fun e57 => ?_) (And.intro (fun e57 => ?_) trivial)))) (fun e57 => ?_)
              · skip
                refine r_bp (v := 9) (q := 162) d_TY_taken_160 rfl rfl ?_
                refine r_ri d_TY_taken_162 ?_
                (try unfold op_calc at e1); (repeat' split at h) <;> first | exact h | (exfalso; clear h; ((try simp +decide only [b01, b10, b11, am_up, ik, and_true, and_false, true_and, false_and, if_true, if_false, nn_eq] at *) <;> (try simp only [sw_or, sw_all, or_false, and_true, i32_lt, i32_le, i32_eq, i32_addw, i32_subw, i32_mulw, Int32.reduceToInt] at *) <;> omega))
              · skip
                refine r_ic (v := 1) (q := 157) d_TY_taken_156 rfl rfl ?_
                refine r_ri d_TY_taken_157 ?_
                (try unfold op_calc at e1); (repeat' split at h) <;> first | exact h | (exfalso; clear h; ((try simp +decide only [b01, b10, b11, am_up, ik, and_true, and_false, true_and, false_and, if_true, if_false, nn_eq] at *) <;> (try simp only [sw_or, sw_all, or_false, and_true, i32_lt, i32_le, i32_eq, i32_addw, i32_subw, i32_mulw, Int32.reduceToInt] at *) <;> omega))
              · skip
                refine r_ic (v := 2) (q := 159) d_TY_taken_158 rfl rfl ?_
                refine r_ri d_TY_taken_159 ?_
                (try unfold op_calc at e1); (repeat' split at h) <;> first | exact h | (exfalso; clear h; ((try simp +decide only [b01, b10, b11, am_up, ik, and_true, and_false, true_and, false_and, if_true, if_false, nn_eq] at *) <;> (try simp only [sw_or, sw_all, or_false, and_true, i32_lt, i32_le, i32_eq, i32_addw, i32_subw, i32_mulw, Int32.reduceToInt] at *) <;> omega))
              · skip
                refine r_bp (v := 37) (q := 165) d_TY_taken_163 rfl rfl ?_
                refine r_ri d_TY_taken_165 ?_
                (try unfold op_calc at e1); (repeat' split at h) <;> first | exact h | (exfalso; clear h; ((try simp +decide only [b01, b10, b11, am_up, ik, and_true, and_false, true_and, false_and, if_true, if_false, nn_eq] at *) <;> (try simp only [sw_or, sw_all, or_false, and_true, i32_lt, i32_le, i32_eq, i32_addw, i32_subw, i32_mulw, Int32.reduceToInt] at *) <;> omega))
              · skip
                refine r_ic (v := 0) (q := 167) d_TY_taken_166 rfl rfl ?_
                refine r_ri d_TY_taken_167 ?_
                (try unfold op_calc at e1); (repeat' split at h) <;> first | exact h | (exfalso; clear h; ((try simp +decide only [b01, b10, b11, am_up, ik, and_true, and_false, true_and, false_and, if_true, if_false, nn_eq] at *) <;> (try simp only [sw_or, sw_all, or_false, and_true, i32_lt, i32_le, i32_eq, i32_addw, i32_subw, i32_mulw, Int32.reduceToInt] at *) <;> omega))
            · skip
              refine r_bp (v := 10) (q := 55) d_TY_taken_53 rfl rfl ?_
              refine r_ri d_TY_taken_55 ?_
              (try unfold op_calc at e1); (repeat' split at h) <;> first | exact h | (exfalso; clear h; ((try simp +decide only [b01, b10, b11, am_up, ik, and_true, and_false, true_and, false_and, if_true, if_false, nn_eq] at *) <;> (try simp only [sw_or, sw_all, or_false, and_true, i32_lt, i32_le, i32_eq, i32_addw, i32_subw, i32_mulw, Int32.reduceToInt] at *) <;> omega))
        · skip
          refine r_il0 (q := 31) d_TY_taken_30 rfl ?_
          refine r_sp (v := 159) (q := 34) d_TY_taken_31 rfl rfl ?_
          refine r_cge (tgt := 39) (q := 37) d_TY_taken_34 rfl rfl (fun e34 => ?_) (fun e34 => ?_)
          · skip
            refine r_il0 (q := 40) d_TY_taken_39 rfl ?_
            refine r_sp (v := 165) (q := 43) d_TY_taken_40 rfl rfl ?_
            refine r_clt (tgt := 56) (q := 46) d_TY_taken_43 rfl rfl (fun e43 => ?_) (fun e43 => ?_)
            · skip
              refine r_il0 (q := 57) d_TY_taken_56 rfl ?_
              refine r_lsw [([46], 160), ([54, 116, 172, 179, 188], 156), ([58, 190, 198, 199], 158), ([79], 163)] (tgt := 166) d_TY_taken_57 (by decide +kernel) (And.intro (fun e57 => ?_) (And.intro (fun e57 => ?_) (And.intro (fun e57 => ?_) (And.intro (fun e57 => ?_) trivial)))) (fun e57 => ?_)
              · skip
                refine r_bp (v := 9) (q := 162) d_TY_taken_160 rfl rfl ?_
                refine r_ri d_TY_taken_162 ?_
                (try unfold op_calc at e1); (repeat' split at h) <;> first | exact h | (exfalso; clear h; ((try simp +decide only [b01, b10, b11, am_up, ik, and_true, and_false, true_and, false_and, if_true, if_false, nn_eq] at *) <;> (try simp only [sw_or, sw_all, or_false, and_true, i32_lt, i32_le, i32_eq, i32_addw, i32_subw, i32_mulw, Int32.reduceToInt] at *) <;> omega))
              · skip
                refine r_ic (v := 1) (q := 157) d_TY_taken_156 rfl rfl ?_
                refine r_ri d_TY_taken_157 ?_
                (try unfold op_calc at e1); (repeat' split at h) <;> first | exact h | (exfalso; clear h; ((try simp +decide only [b01, b10, b11, am_up, ik, and_true, and_false, true_and, false_and, if_true, if_false, nn_eq] at *) <;> (try simp only [sw_or, sw_all, or_false, and_true, i32_lt, i32_le, i32_eq, i32_addw, i32_subw, i32_mulw, Int32.reduceToInt] at *) <;> omega))
              · skip
                refine r_ic (v := 2) (q := 159) d_TY_taken_158 rfl rfl ?_
                refine r_ri d_TY_taken_159 ?_
                (try unfold op_calc at e1); (repeat' split at h) <;> first | exact h | (exfalso; clear h; ((try simp +decide only [b01, b10, b11, am_up, ik, and_true, and_false, true_and, false_and, if_true, if_false, nn_eq] at *) <;> (try simp only [sw_or, sw_all, or_false, and_true, i32_lt, i32_le, i32_eq, i32_addw, i32_subw, i32_mulw, Int32.reduceToInt] at *) <;> omega))
              · skip
                refine r_bp (v := 37) (q := 165) d_TY_taken_163 rfl rfl ?_
                refine r_ri d_TY_taken_165 ?_
                (try unfold op_calc at e1); (repeat' split at h) <;> first | exact h | (exfalso; clear h; ((try simp +decide only [b01, b10, b11, am_up, ik, and_true, and_false, true_and, false_and, if_true, if_false, nn_eq] at *) <;> (try simp only [sw_or, sw_all, or_false, and_true, i32_lt, i32_le, i32_eq, i32_addw, i32_subw, i32_mulw, Int32.reduceToInt] at *) <;> omega))
              · skip
                refine r_ic (v := 0) (q := 167) d_TY_taken_166 rfl rfl ?_
                refine r_ri d_TY_taken_167 ?_
                (try unfold op_calc at e1); (repeat' split at h) <;> first | exact h | (exfalso; clear h; ((try simp +decide only [b01, b10, b11, am_up, ik, and_true, and_false, true_and, false_and, if_true, if_false, nn_eq] at *) <;> (try simp only [sw_or, sw_all, or_false, and_true, i32_lt, i32_le, i32_eq, i32_addw, i32_subw, i32_mulw, Int32.reduceToInt] at *) <;> omega))
            · skip
              refine r_il0 (q := 47) d_TY_taken_46 rfl ?_
              refine r_sp (v := 167) (q := 50) d_TY_taken_47 rfl rfl ?_
              refine r_cge (tgt := 56) (q := 53) d_TY_taken_50 rfl rfl (fun e50 => ?_) (fun e50 => ?_)
              · skip
                refine r_il0 (q := 57) d_TY_taken_56 rfl ?_
                refine r_lsw [([46], 160), ([54, 116, 172, 179, 188], 156), ([58, 190, 198, 199], 158), ([79], 163)] (tgt := 166) d_TY_taken_57 (by decide +kernel) (And.intro (fun e57 => ?_) (And.intro (fun e57 => ?_) (And.intro (fun e57 => ?_) (And.intro (fun e57 => ?_) trivial)))) (fun e57 => ?_)
                · skip
                  refine r_bp (v := 9) (q := 162) d_TY_taken_160 rfl rfl ?_
                  refine r_ri d_TY_taken_162 ?_
                  (try unfold op_calc at e1); (repeat' split at h) <;> first | exact h | (exfalso; clear h; ((try simp +decide only [b01, b10, b11, am_up, ik, and_true, and_false, true_and, false_and, if_true, if_false, nn_eq] at *) <;> (try simp only [sw_or, sw_all, or_false, and_true, i32_lt, i32_le, i32_eq, i32_addw, i32_subw, i32_mulw, Int32.reduceToInt] at *) <;> omega))
                · skip
                  refine r_ic (v := 1) (q := 157) d_TY_taken_156 rfl rfl ?_
                  refine r_ri d_TY_taken_157 ?_
                  (try unfold op_calc at e1); (repeat' split at h) <;> first | exact h | (exfalso; clear h; ((try simp +decide only [b01, b10, b11, am_up, ik, and_true, and_false, true_and, false_and, if_true, if_false, nn_eq] at *) <;> (try simp only [sw_or, sw_all, or_false, and_true, i32_lt, i32_le, i32_eq, i32_addw, i32_subw, i32_mulw, Int32.reduceToInt] at *) <;> omega))
                · skip
                  refine r_ic (v := 2) (q := 159) d_TY_taken_158 rfl rfl ?_
                  refine r_ri d_TY_taken_159 ?_
                  (try unfold op_calc at e1); (repeat' split at h) <;> first | exact h | (exfalso; clear h; ((try simp +decide only [b01, b10, b11, am_up, ik, and_true, and_false, true_and, false_and, if_true, if_false, nn_eq] at *) <;> (try simp only [sw_or, sw_all, or_false, and_true, i32_lt, i32_le, i32_eq, i32_addw, i32_subw, i32_mulw, Int32.reduceToInt] at *) <;> omega))
                · skip
                  refine r_bp (v := 37) (q := 165) d_TY_taken_163 rfl rfl ?_
                  refine r_ri d_TY_taken_165 ?_
                  (try unfold op_calc at e1); (repeat' split at h) <;> first | exact h | (exfalso; clear h; ((try simp +decide only [b01, b10, b11, am_up, ik, and_true, and_false, true_and, false_and, if_true, if_false, nn_eq] at *) <;> (try simp only [sw_or, sw_all, or_false, and_true, i32_lt, i32_le, i32_eq, i32_addw, i32_subw, i32_mulw, Int32.reduceToInt] at *) <;> omega))
                · skip
                  refine r_ic (v := 0) (q := 167) d_TY_taken_166 rfl rfl ?_
                  refine r_ri d_TY_taken_167 ?_
                  (try unfold op_calc at e1); (repeat' split at h) <;> first | exact h | (exfalso; clear h; ((try simp +decide only [b01, b10, b11, am_up, ik, and_true, and_false, true_and, false_and, if_true, if_false, nn_eq] at *) <;> (try simp only [sw_or, sw_all, or_false, and_true, i32_lt, i32_le, i32_eq, i32_addw, i32_subw, i32_mulw, Int32.reduceToInt] at *) <;> omega))
              · skip
                refine r_bp (v := 10) (q := 55) d_TY_taken_53 rfl rfl ?_
                refine r_ri d_TY_taken_55 ?_
                (try unfold op_calc at e1); (repeat' split at h) <;> first | exact h | (exfalso; clear h; ((try simp +decide only [b01, b10, b11, am_up, ik, and_true, and_false, true_and, false_and, if_true, if_false, nn_eq] at *) <;> (try simp only [sw_or, sw_all, or_false, and_true, i32_lt, i32_le, i32_eq, i32_addw, i32_subw, i32_mulw, Int32.reduceToInt] at *) <;> omega))
          · skip
            refine r_ic (v := 1) (q := 38) d_TY_taken_37 rfl rfl ?_
            refine r_ri d_TY_taken_38 ?_
            (try unfold op_calc at e1); (repeat' split at h) <;> first | exact h | (exfalso; clear h; ((try simp +decide only [b01, b10, b11, am_up, ik, and_true, and_false, true_and, false_and, if_true, if_false, nn_eq] at *) <;> (try simp only [sw_or, sw_all, or_false, and_true, i32_lt, i32_le, i32_eq, i32_addw, i32_subw, i32_mulw, Int32.reduceToInt] at *) <;> omega))
      · skip
        refine r_ic (v := 5) (q := 22) d_TY_taken_21 rfl rfl ?_
        refine r_ri d_TY_taken_22 ?_
        (try unfold op_calc at e1); (repeat' split at h) <;> first | exact h | (exfalso; clear h; ((try simp +decide only [b01, b10, b11, am_up, ik, and_true, and_false, true_and, false_and, if_true, if_false, nn_eq] at *) <;> (try simp only [sw_or, sw_all, or_false, and_true, i32_lt, i32_le, i32_eq, i32_addw, i32_subw, i32_mulw, Int32.reduceToInt] at *) <;> omega))
def popz : List Int32 → Int32 → Int32 → Option (Int32 × Int32)
  | [], R, H => some (R, H)
  | t :: l, R, H => if t = 0 then popz l R H else if tkT R H = t then popz l (tkR R H) (tkH H) else none
theorem popz_du {op R H : Int32} : popz [ty_at (ty_tk op) (nI 0), ty_at (ty_tk op) (nI 1), ty_at (ty_tk op) (nI 2)] R H = pops (ty_du op) R H := by
  have h5 : [ty_at 5 (nI 0), ty_at 5 (nI 1), ty_at 5 (nI 2)] = [1, 1, 0] := by decide
  have h1 : [ty_at 1 (nI 0), ty_at 1 (nI 1), ty_at 1 (nI 2)] = [1, 0, 0] := by decide
  have h10 : [ty_at 10 (nI 0), ty_at 10 (nI 1), ty_at 10 (nI 2)] = [2, 2, 0] := by decide
  have h2 : [ty_at 2 (nI 0), ty_at 2 (nI 1), ty_at 2 (nI 2)] = [2, 0, 0] := by decide
  have h9 : [ty_at 9 (nI 0), ty_at 9 (nI 1), ty_at 9 (nI 2)] = [1, 2, 0] := by decide
  have h37 : [ty_at 37 (nI 0), ty_at 37 (nI 1), ty_at 37 (nI 2)] = [1, 1, 2] := by decide
  have h0 : [ty_at 0 (nI 0), ty_at 0 (nI 1), ty_at 0 (nI 2)] = [0, 0, 0] := by decide
  unfold ty_tk ty_du
  repeat' split
  · rw [h5]
    simp +decide [popz, pops]
  · rw [h1]
    simp +decide [popz, pops]
  · rw [h10]
    simp +decide [popz, pops]
  · rw [h2]
    simp +decide [popz, pops]
  · rw [h9]
    simp +decide [popz, pops]
  · rw [h37]
    simp +decide [popz, pops]
  · rw [h0]
    simp +decide [popz, pops]
theorem sp_FL_applyDup {st : am_S} {f : Int32 → am_S → Prop} (h1 : ¬ tkT (st 457 0) (st 458 0) = 0 → f 1 (fs st (puR (puR (tkR (st 457 0) (st 458 0)) (tkH (st 458 0)) (tkT (st 457 0) (st 458 0))) (puH (tkH (st 458 0)) (tkT (st 457 0) (st 458 0))) (tkT (st 457 0) (st 458 0))) (puH (puH (tkH (st 458 0)) (tkT (st 457 0) (st 458 0))) (tkT (st 457 0) (st 458 0))))) (h2 : ∀ p : {p : Int32 × Int32 // tkT (st 457 0) (st 458 0) = 0}, f 0 (fs st p.1.1 p.1.2)) : wp_FL_applyDup [.inr (.inl 126)] st (am_ki f) := by
  refine ⟨⟨rfl, Nat.le_of_ble_eq_true rfl⟩, ?_⟩
  refine r_al0 (q := 1) d_FL_applyDup_0 rfl ?_
  refine r_vi0 mo_FL_takeAny d_FL_applyDup_1 rfl rfl rfl (q := 4) rfl ?_
  refine sp_FL_takeAny ?_
  refine r_is1 (q := 5) d_FL_applyDup_4 rfl ?_
  refine r_al0 (q := 6) d_FL_applyDup_5 rfl ?_
  refine r_il1 (q := 7) d_FL_applyDup_6 rfl ?_
  refine r_vv1 mo_FL_put d_FL_applyDup_7 rfl rfl rfl (q := 10) rfl ?_
  refine sp_FL_put ?_
  refine r_al0 (q := 11) d_FL_applyDup_10 rfl ?_
  refine r_il1 (q := 12) d_FL_applyDup_11 rfl ?_
  refine r_vv1 mo_FL_put d_FL_applyDup_12 rfl rfl rfl (q := 15) rfl ?_
  refine sp_FL_put ?_
  refine r_il1 (q := 16) d_FL_applyDup_15 rfl ?_
  refine r_zeq (tgt := 23) (q := 19) d_FL_applyDup_16 rfl rfl (fun e16 => ?_) (fun e16 => ?_)
  · skip
    refine r_ic (v := 0) (q := 24) d_FL_applyDup_23 rfl rfl ?_
    refine r_rz d_FL_applyDup_24 (by first | assumption | (refine pc_of hP ?_; (repeat (first | assumption | exact md_refl | refine md_up ?_ rfl | refine md_fill ?_ rfl | (unfold ik; refine md_up ?_ rfl))); done) | (refine pm_of hP ?_; (repeat (first | assumption | exact md_refl | refine md_up ?_ rfl | refine md_fill ?_ rfl | (unfold ik; refine md_up ?_ rfl))); done) | omega | decide | ((try simp +decide only [b01, b10, b11, am_up, ik, and_true, and_false, true_and, false_and, if_true, if_false, nn_eq] at *) <;> (try simp only [sw_or, sw_all, or_false, and_true, i32_lt, i32_le, i32_eq, i32_addw, i32_subw, i32_mulw, Int32.reduceToInt] at *) <;> omega) | (apply_assumption; done)) ?_
    simp only [fs_fs, fs_R, fs_H]; first | exact h1 e16 | exact h2 ⟨(_, _), e16⟩
  · skip
    refine r_ic (v := 1) (q := 20) d_FL_applyDup_19 rfl rfl ?_
    refine am_go (tgt := 24) d_FL_applyDup_20 rfl ?_
    refine r_rz d_FL_applyDup_24 (by first | assumption | (refine pc_of hP ?_; (repeat (first | assumption | exact md_refl | refine md_up ?_ rfl | refine md_fill ?_ rfl | (unfold ik; refine md_up ?_ rfl))); done) | (refine pm_of hP ?_; (repeat (first | assumption | exact md_refl | refine md_up ?_ rfl | refine md_fill ?_ rfl | (unfold ik; refine md_up ?_ rfl))); done) | omega | decide | ((try simp +decide only [b01, b10, b11, am_up, ik, and_true, and_false, true_and, false_and, if_true, if_false, nn_eq] at *) <;> (try simp only [sw_or, sw_all, or_false, and_true, i32_lt, i32_le, i32_eq, i32_addw, i32_subw, i32_mulw, Int32.reduceToInt] at *) <;> omega) | (apply_assumption; done)) ?_
    simp only [fs_fs, fs_R, fs_H]; first | exact h1 e16 | exact h2 ⟨(_, _), e16⟩
theorem sp_FL_applySwap {st : am_S} {f : Int32 → am_S → Prop} (h1 : ¬ (tkT (st 457 0) (st 458 0) = 0 ∨ tkT (tkR (st 457 0) (st 458 0)) (tkH (st 458 0)) = 0) → f 1 (fs st (puR (puR (tkR (tkR (st 457 0) (st 458 0)) (tkH (st 458 0))) (tkH (tkH (st 458 0))) (tkT (st 457 0) (st 458 0))) (puH (tkH (tkH (st 458 0))) (tkT (st 457 0) (st 458 0))) (tkT (tkR (st 457 0) (st 458 0)) (tkH (st 458 0)))) (puH (puH (tkH (tkH (st 458 0))) (tkT (st 457 0) (st 458 0))) (tkT (tkR (st 457 0) (st 458 0)) (tkH (st 458 0)))))) (h2 : ∀ p : {p : Int32 × Int32 // tkT (st 457 0) (st 458 0) = 0 ∨ tkT (tkR (st 457 0) (st 458 0)) (tkH (st 458 0)) = 0}, f 0 (fs st p.1.1 p.1.2)) : wp_FL_applySwap [.inr (.inl 126)] st (am_ki f) := by
  refine ⟨⟨rfl, Nat.le_of_ble_eq_true rfl⟩, ?_⟩
  refine r_al0 (q := 1) d_FL_applySwap_0 rfl ?_
  refine r_vi0 mo_FL_takeAny d_FL_applySwap_1 rfl rfl rfl (q := 4) rfl ?_
  refine sp_FL_takeAny ?_
  refine r_is1 (q := 5) d_FL_applySwap_4 rfl ?_
  refine r_al0 (q := 6) d_FL_applySwap_5 rfl ?_
  refine r_vi0 mo_FL_takeAny d_FL_applySwap_6 rfl rfl rfl (q := 9) rfl ?_
  refine sp_FL_takeAny ?_
  refine r_is2 (q := 10) d_FL_applySwap_9 rfl ?_
  refine r_al0 (q := 11) d_FL_applySwap_10 rfl ?_
  refine r_il1 (q := 12) d_FL_applySwap_11 rfl ?_
  refine r_vv1 mo_FL_put d_FL_applySwap_12 rfl rfl rfl (q := 15) rfl ?_
  refine sp_FL_put ?_
  refine r_al0 (q := 16) d_FL_applySwap_15 rfl ?_
  refine r_il2 (q := 17) d_FL_applySwap_16 rfl ?_
  refine r_vv1 mo_FL_put d_FL_applySwap_17 rfl rfl rfl (q := 20) rfl ?_
  refine sp_FL_put ?_
  refine r_il1 (q := 21) d_FL_applySwap_20 rfl ?_
  refine r_zeq (tgt := 32) (q := 24) d_FL_applySwap_21 rfl rfl (fun e21 => ?_) (fun e21 => ?_)
  · skip
    refine r_ic (v := 0) (q := 33) d_FL_applySwap_32 rfl rfl ?_
    refine r_rz d_FL_applySwap_33 (by first | assumption | (refine pc_of hP ?_; (repeat (first | assumption | exact md_refl | refine md_up ?_ rfl | refine md_fill ?_ rfl | (unfold ik; refine md_up ?_ rfl))); done) | (refine pm_of hP ?_; (repeat (first | assumption | exact md_refl | refine md_up ?_ rfl | refine md_fill ?_ rfl | (unfold ik; refine md_up ?_ rfl))); done) | omega | decide | ((try simp +decide only [b01, b10, b11, am_up, ik, and_true, and_false, true_and, false_and, if_true, if_false, nn_eq] at *) <;> (try simp only [sw_or, sw_all, or_false, and_true, i32_lt, i32_le, i32_eq, i32_addw, i32_subw, i32_mulw, Int32.reduceToInt] at *) <;> omega) | (apply_assumption; done)) ?_
    simp only [fs_fs, fs_R, fs_H] at *; first | exact h1 (fun q => q.elim e21 e25) | exact h2 ⟨(_, _), Or.inl e21⟩ | exact h2 ⟨(_, _), Or.inr e25⟩
  · skip
    refine r_il2 (q := 25) d_FL_applySwap_24 rfl ?_
    refine r_zeq (tgt := 32) (q := 28) d_FL_applySwap_25 rfl rfl (fun e25 => ?_) (fun e25 => ?_)
    · skip
      refine r_ic (v := 0) (q := 33) d_FL_applySwap_32 rfl rfl ?_
      refine r_rz d_FL_applySwap_33 (by first | assumption | (refine pc_of hP ?_; (repeat (first | assumption | exact md_refl | refine md_up ?_ rfl | refine md_fill ?_ rfl | (unfold ik; refine md_up ?_ rfl))); done) | (refine pm_of hP ?_; (repeat (first | assumption | exact md_refl | refine md_up ?_ rfl | refine md_fill ?_ rfl | (unfold ik; refine md_up ?_ rfl))); done) | omega | decide | ((try simp +decide only [b01, b10, b11, am_up, ik, and_true, and_false, true_and, false_and, if_true, if_false, nn_eq] at *) <;> (try simp only [sw_or, sw_all, or_false, and_true, i32_lt, i32_le, i32_eq, i32_addw, i32_subw, i32_mulw, Int32.reduceToInt] at *) <;> omega) | (apply_assumption; done)) ?_
      simp only [fs_fs, fs_R, fs_H] at *; first | exact h1 (fun q => q.elim e21 e25) | exact h2 ⟨(_, _), Or.inl e21⟩ | exact h2 ⟨(_, _), Or.inr e25⟩
    · skip
      refine r_ic (v := 1) (q := 29) d_FL_applySwap_28 rfl rfl ?_
      refine am_go (tgt := 33) d_FL_applySwap_29 rfl ?_
      refine r_rz d_FL_applySwap_33 (by first | assumption | (refine pc_of hP ?_; (repeat (first | assumption | exact md_refl | refine md_up ?_ rfl | refine md_fill ?_ rfl | (unfold ik; refine md_up ?_ rfl))); done) | (refine pm_of hP ?_; (repeat (first | assumption | exact md_refl | refine md_up ?_ rfl | refine md_fill ?_ rfl | (unfold ik; refine md_up ?_ rfl))); done) | omega | decide | ((try simp +decide only [b01, b10, b11, am_up, ik, and_true, and_false, true_and, false_and, if_true, if_false, nn_eq] at *) <;> (try simp only [sw_or, sw_all, or_false, and_true, i32_lt, i32_le, i32_eq, i32_addw, i32_subw, i32_mulw, Int32.reduceToInt] at *) <;> omega) | (apply_assumption; done)) ?_
      simp only [fs_fs, fs_R, fs_H] at *; first | exact h1 (fun q => q.elim e21 e25) | exact h2 ⟨(_, _), Or.inl e21⟩ | exact h2 ⟨(_, _), Or.inr e25⟩
theorem sq_CO_hasMethod {x : Int32} {st : am_S} {f : Int32 → am_S → Prop} (h1 : 0 ≤ x ∧ x < st 323 0 → f 1 st) (h2 : ¬ (0 ≤ x ∧ x < st 323 0) → f 0 st) : wp_CO_hasMethod [.inr (.inl 124), .inl x] st (am_ki f) := by
  refine ⟨⟨rfl, Nat.le_of_ble_eq_true rfl⟩, ?_⟩
  refine r_il1 (q := 1) d_CO_hasMethod_0 rfl ?_
  refine r_zlt (tgt := 16) (q := 4) d_CO_hasMethod_1 rfl rfl (fun e1 => ?_) (fun e1 => ?_)
  · skip
    refine r_ic (v := 0) (q := 17) d_CO_hasMethod_16 rfl rfl ?_
    refine r_rz d_CO_hasMethod_17 (by first | assumption | (refine pc_of hP ?_; (repeat (first | assumption | exact md_refl | refine md_up ?_ rfl | refine md_fill ?_ rfl | (unfold ik; refine md_up ?_ rfl))); done) | (refine pm_of hP ?_; (repeat (first | assumption | exact md_refl | refine md_up ?_ rfl | refine md_fill ?_ rfl | (unfold ik; refine md_up ?_ rfl))); done) | omega | decide | ((try simp +decide only [b01, b10, b11, am_up, ik, and_true, and_false, true_and, false_and, if_true, if_false, nn_eq] at *) <;> (try simp only [sw_or, sw_all, or_false, and_true, i32_lt, i32_le, i32_eq, i32_addw, i32_subw, i32_mulw, Int32.reduceToInt] at *) <;> omega) | (apply_assumption; done)) ?_
    first | (refine h1 ?_ <;> ((try simp +decide only [b01, b10, b11, am_up, ik, and_true, and_false, true_and, false_and, if_true, if_false, nn_eq] at *) <;> (try simp only [sw_or, sw_all, or_false, and_true, i32_lt, i32_le, i32_eq, i32_addw, i32_subw, i32_mulw, Int32.reduceToInt] at *) <;> omega)) | (refine h2 ?_ <;> ((try simp +decide only [b01, b10, b11, am_up, ik, and_true, and_false, true_and, false_and, if_true, if_false, nn_eq] at *) <;> (try simp only [sw_or, sw_all, or_false, and_true, i32_lt, i32_le, i32_eq, i32_addw, i32_subw, i32_mulw, Int32.reduceToInt] at *) <;> omega)) | (exfalso; ((try simp +decide only [b01, b10, b11, am_up, ik, and_true, and_false, true_and, false_and, if_true, if_false, nn_eq] at *) <;> (try simp only [sw_or, sw_all, or_false, and_true, i32_lt, i32_le, i32_eq, i32_addw, i32_subw, i32_mulw, Int32.reduceToInt] at *) <;> omega))
  · skip
    refine r_il1 (q := 5) d_CO_hasMethod_4 rfl ?_
    refine r_al0 (q := 6) d_CO_hasMethod_5 rfl ?_
    refine gt_CO_methodCount (q := 9) d_CO_hasMethod_6 rfl rfl ?_
    refine r_cge (tgt := 16) (q := 12) d_CO_hasMethod_9 rfl rfl (fun e9 => ?_) (fun e9 => ?_)
    · skip
      refine r_ic (v := 0) (q := 17) d_CO_hasMethod_16 rfl rfl ?_
      refine r_rz d_CO_hasMethod_17 (by first | assumption | (refine pc_of hP ?_; (repeat (first | assumption | exact md_refl | refine md_up ?_ rfl | refine md_fill ?_ rfl | (unfold ik; refine md_up ?_ rfl))); done) | (refine pm_of hP ?_; (repeat (first | assumption | exact md_refl | refine md_up ?_ rfl | refine md_fill ?_ rfl | (unfold ik; refine md_up ?_ rfl))); done) | omega | decide | ((try simp +decide only [b01, b10, b11, am_up, ik, and_true, and_false, true_and, false_and, if_true, if_false, nn_eq] at *) <;> (try simp only [sw_or, sw_all, or_false, and_true, i32_lt, i32_le, i32_eq, i32_addw, i32_subw, i32_mulw, Int32.reduceToInt] at *) <;> omega) | (apply_assumption; done)) ?_
      first | (refine h1 ?_ <;> ((try simp +decide only [b01, b10, b11, am_up, ik, and_true, and_false, true_and, false_and, if_true, if_false, nn_eq] at *) <;> (try simp only [sw_or, sw_all, or_false, and_true, i32_lt, i32_le, i32_eq, i32_addw, i32_subw, i32_mulw, Int32.reduceToInt] at *) <;> omega)) | (refine h2 ?_ <;> ((try simp +decide only [b01, b10, b11, am_up, ik, and_true, and_false, true_and, false_and, if_true, if_false, nn_eq] at *) <;> (try simp only [sw_or, sw_all, or_false, and_true, i32_lt, i32_le, i32_eq, i32_addw, i32_subw, i32_mulw, Int32.reduceToInt] at *) <;> omega)) | (exfalso; ((try simp +decide only [b01, b10, b11, am_up, ik, and_true, and_false, true_and, false_and, if_true, if_false, nn_eq] at *) <;> (try simp only [sw_or, sw_all, or_false, and_true, i32_lt, i32_le, i32_eq, i32_addw, i32_subw, i32_mulw, Int32.reduceToInt] at *) <;> omega))
    · skip
      refine r_ic (v := 1) (q := 13) d_CO_hasMethod_12 rfl rfl ?_
      refine am_go (tgt := 17) d_CO_hasMethod_13 rfl ?_
      refine r_rz d_CO_hasMethod_17 (by first | assumption | (refine pc_of hP ?_; (repeat (first | assumption | exact md_refl | refine md_up ?_ rfl | refine md_fill ?_ rfl | (unfold ik; refine md_up ?_ rfl))); done) | (refine pm_of hP ?_; (repeat (first | assumption | exact md_refl | refine md_up ?_ rfl | refine md_fill ?_ rfl | (unfold ik; refine md_up ?_ rfl))); done) | omega | decide | ((try simp +decide only [b01, b10, b11, am_up, ik, and_true, and_false, true_and, false_and, if_true, if_false, nn_eq] at *) <;> (try simp only [sw_or, sw_all, or_false, and_true, i32_lt, i32_le, i32_eq, i32_addw, i32_subw, i32_mulw, Int32.reduceToInt] at *) <;> omega) | (apply_assumption; done)) ?_
      first | (refine h1 ?_ <;> ((try simp +decide only [b01, b10, b11, am_up, ik, and_true, and_false, true_and, false_and, if_true, if_false, nn_eq] at *) <;> (try simp only [sw_or, sw_all, or_false, and_true, i32_lt, i32_le, i32_eq, i32_addw, i32_subw, i32_mulw, Int32.reduceToInt] at *) <;> omega)) | (refine h2 ?_ <;> ((try simp +decide only [b01, b10, b11, am_up, ik, and_true, and_false, true_and, false_and, if_true, if_false, nn_eq] at *) <;> (try simp only [sw_or, sw_all, or_false, and_true, i32_lt, i32_le, i32_eq, i32_addw, i32_subw, i32_mulw, Int32.reduceToInt] at *) <;> omega)) | (exfalso; ((try simp +decide only [b01, b10, b11, am_up, ik, and_true, and_false, true_and, false_and, if_true, if_false, nn_eq] at *) <;> (try simp only [sw_or, sw_all, or_false, and_true, i32_lt, i32_le, i32_eq, i32_addw, i32_subw, i32_mulw, Int32.reduceToInt] at *) <;> omega))

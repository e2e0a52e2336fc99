/-! written by wip/whole/gen/walk.py out of 49.size.txt -/
def op_z (x : Int32) : Int32 := if (153 ≤ x ∧ x ≤ 167) ∨ x = 198 ∨ x = 199 then 3 else if x.toInt ∈ [96, 100, 104, 108, 112, 120, 122, 124, 126, 128, 130] then 1 else if x.toInt ∈ [1, 46, 79, 87, 89, 95, 116, 172, 177, 190] then 1 else if x.toInt ∈ [21, 25, 54, 58, 188] then 2 else if x.toInt ∈ [17, 132, 178, 179, 184] then 3 else 0
theorem sp_OP_sizeOf {x : Int32} {st : am_S} {f : Int32 → am_S → Prop} (h : f (op_z x) st) : wp_OP_sizeOf [.inl x] st (am_ki f) := by
  unfold op_z at h
  refine sz_OP_sizeOf (fun e => ?_) (fun e => ?_) (fun e => ?_) (fun e => ?_) (fun e => ?_) (fun e => ?_)
  · simp only [op_jump, op_calc, op_s1, op_s2, op_s3] at e
    rw [if_pos e] at h
    exact h
  · simp only [op_jump, op_calc, op_s1, op_s2, op_s3] at e
    rw [if_neg e.1, if_pos (sw_or_iff.mp e.2)] at h
    exact h
  · simp only [op_jump, op_calc, op_s1, op_s2, op_s3] at e
    rw [if_neg e.1, if_neg (fun q => e.2.1 (sw_or_iff.mpr q)), if_pos (sw_or_iff.mp e.2.2)] at h
    exact h
  · simp only [op_jump, op_calc, op_s1, op_s2, op_s3] at e
    have e3 : ¬ x.toInt ∈ [1, 46, 79, 87, 89, 95, 116, 172, 177, 190] := by
      have := sw_or_iff.mp e.2.2
      simp only [List.mem_cons, List.not_mem_nil, or_false] at *
      omega
    rw [if_neg e.1, if_neg (fun q => e.2.1 (sw_or_iff.mpr q)), if_neg e3, if_pos (sw_or_iff.mp e.2.2)] at h
    exact h
  · simp only [op_jump, op_calc, op_s1, op_s2, op_s3] at e
    have e3 : ¬ x.toInt ∈ [1, 46, 79, 87, 89, 95, 116, 172, 177, 190] ∧ ¬ x.toInt ∈ [21, 25, 54, 58, 188] := by
      have := sw_or_iff.mp e.2.2
      simp only [List.mem_cons, List.not_mem_nil, or_false] at *
      omega
    rw [if_neg e.1, if_neg (fun q => e.2.1 (sw_or_iff.mpr q)), if_neg e3.1, if_neg e3.2, if_pos (sw_or_iff.mp e.2.2)] at h
    exact h
  · simp only [op_jump, op_calc, op_s1, op_s2, op_s3] at e
    rw [if_neg e.1, if_neg (fun q => e.2.1 (sw_or_iff.mpr q)), if_neg (fun q => e.2.2.1 (sw_or_iff.mpr q)), if_neg (fun q => e.2.2.2.1 (sw_or_iff.mpr q)), if_neg (fun q => e.2.2.2.2 (sw_or_iff.mpr q))] at h
    exact h
theorem sp_IN_readLong {o : Nat} {t s u : Int32} {st : am_S} {f : am_S → Prop} (c1 : o < 3) (h1 : op_z t = 3 ∧ ¬ t = 132 → f (am_up (ik st o t (s <<< 8 ||| u).toInt16.toInt32 (op_z t)) 194 o u.toInt8.toInt32)) (h2 : ¬ (op_z t = 3 ∧ ¬ t = 132) → f (am_up (ik st o t s (op_z t)) 194 o u.toInt8.toInt32)) : wp_IN_readLong [.inr (.inl (o + 120)), .inl t, .inl s, .inl u] st (am_kv f) := by
  refine ⟨⟨rfl, Nat.le_of_ble_eq_true rfl⟩, ?_⟩
  refine r_il1 (q := 1) d_IN_readLong_0 rfl ?_
  refine r_si1 mo_OP_sizeOf d_IN_readLong_1 rfl rfl (q := 4) rfl ?_
  refine sp_OP_sizeOf ?_
  refine r_is4 (q := 6) d_IN_readLong_4 rfl ?_
  refine r_il4 (q := 8) d_IN_readLong_6 rfl ?_
  refine r_ic (v := 3) (q := 9) d_IN_readLong_8 rfl rfl ?_
  refine r_cne (tgt := 23) (q := 12) d_IN_readLong_9 rfl rfl (fun e9 => ?_) (fun e9 => ?_)
  · skip
    refine r_ic (v := 0) (q := 24) d_IN_readLong_23 rfl rfl ?_
    refine r_is5 (q := 26) d_IN_readLong_24 rfl ?_
    refine r_al0 (q := 27) d_IN_readLong_26 rfl ?_
    refine r_il1 (q := 28) d_IN_readLong_27 rfl ?_
    refine r_il5 (q := 30) d_IN_readLong_28 rfl ?_
    refine r_zeq (tgt := 43) (q := 33) d_IN_readLong_30 rfl rfl (fun e30 => ?_) (fun e30 => ?_)
    · skip
      refine r_il2 (q := 44) d_IN_readLong_43 rfl ?_
      refine r_il4 (q := 46) d_IN_readLong_44 rfl ?_
      refine r_vv3 mo_IN_keep d_IN_readLong_46 rfl (r_kI (by first | assumption | omega | decide | ((try simp +decide only [b01, b10, b11, am_up, and_true, and_false, true_and, false_and, if_true, if_false, nn_eq] at *) <;> (try simp only [sw_or, sw_all, or_false, and_true, i32_lt, i32_le, i32_eq, i32_addw, i32_subw, i32_mulw, Int32.reduceToInt] at *) <;> omega) | (apply_assumption; done))) rfl (q := 49) rfl ?_
      refine sp_IN_keep (by first | assumption | omega | decide | ((try simp +decide only [b01, b10, b11, am_up, and_true, and_false, true_and, false_and, if_true, if_false, nn_eq] at *) <;> (try simp only [sw_or, sw_all, or_false, and_true, i32_lt, i32_le, i32_eq, i32_addw, i32_subw, i32_mulw, Int32.reduceToInt] at *) <;> omega) | (apply_assumption; done)) ?_
      refine r_al0 (q := 50) d_IN_readLong_49 rfl ?_
      refine r_il3 (q := 51) d_IN_readLong_50 rfl ?_
      refine r_i2b (q := 52) d_IN_readLong_51 rfl ?_
      refine pt_IN_growth (q := 55) d_IN_readLong_52 rfl (by first | assumption | omega | decide | ((try simp +decide only [b01, b10, b11, am_up, and_true, and_false, true_and, false_and, if_true, if_false, nn_eq] at *) <;> (try simp only [sw_or, sw_all, or_false, and_true, i32_lt, i32_le, i32_eq, i32_addw, i32_subw, i32_mulw, Int32.reduceToInt] at *) <;> omega) | (apply_assumption; done)) rfl ?_
      refine r_rv d_IN_readLong_55 ?_
      first | (refine h1 ?_ <;> ((try simp +decide only [b01, b10, b11, am_up, and_true, and_false, true_and, false_and, if_true, if_false, nn_eq] at *) <;> (try simp only [sw_or, sw_all, or_false, and_true, i32_lt, i32_le, i32_eq, i32_addw, i32_subw, i32_mulw, Int32.reduceToInt] at *) <;> omega)) | (refine h2 ?_ <;> ((try simp +decide only [b01, b10, b11, am_up, and_true, and_false, true_and, false_and, if_true, if_false, nn_eq] at *) <;> (try simp only [sw_or, sw_all, or_false, and_true, i32_lt, i32_le, i32_eq, i32_addw, i32_subw, i32_mulw, Int32.reduceToInt] at *) <;> omega)) | (exfalso; ((try simp +decide only [b01, b10, b11, am_up, and_true, and_false, true_and, false_and, if_true, if_false, nn_eq] at *) <;> (try simp only [sw_or, sw_all, or_false, and_true, i32_lt, i32_le, i32_eq, i32_addw, i32_subw, i32_mulw, Int32.reduceToInt] at *) <;> omega))
    · skip
      refine r_il2 (q := 34) d_IN_readLong_33 rfl ?_
      refine r_bp (v := 8) (q := 36) d_IN_readLong_34 rfl rfl ?_
      refine r_ishl (q := 37) d_IN_readLong_36 rfl ?_
      refine r_il3 (q := 38) d_IN_readLong_37 rfl ?_
      refine r_ior (q := 39) d_IN_readLong_38 rfl ?_
      refine r_i2s (q := 40) d_IN_readLong_39 rfl ?_
      refine am_go (tgt := 44) d_IN_readLong_40 rfl ?_
      refine r_il4 (q := 46) d_IN_readLong_44 rfl ?_
      refine r_vv3 mo_IN_keep d_IN_readLong_46 rfl (r_kI (by first | assumption | omega | decide | ((try simp +decide only [b01, b10, b11, am_up, and_true, and_false, true_and, false_and, if_true, if_false, nn_eq] at *) <;> (try simp only [sw_or, sw_all, or_false, and_true, i32_lt, i32_le, i32_eq, i32_addw, i32_subw, i32_mulw, Int32.reduceToInt] at *) <;> omega) | (apply_assumption; done))) rfl (q := 49) rfl ?_
      refine sp_IN_keep (by first | assumption | omega | decide | ((try simp +decide only [b01, b10, b11, am_up, and_true, and_false, true_and, false_and, if_true, if_false, nn_eq] at *) <;> (try simp only [sw_or, sw_all, or_false, and_true, i32_lt, i32_le, i32_eq, i32_addw, i32_subw, i32_mulw, Int32.reduceToInt] at *) <;> omega) | (apply_assumption; done)) ?_
      refine r_al0 (q := 50) d_IN_readLong_49 rfl ?_
      refine r_il3 (q := 51) d_IN_readLong_50 rfl ?_
      refine r_i2b (q := 52) d_IN_readLong_51 rfl ?_
      refine pt_IN_growth (q := 55) d_IN_readLong_52 rfl (by first | assumption | omega | decide | ((try simp +decide only [b01, b10, b11, am_up, and_true, and_false, true_and, false_and, if_true, if_false, nn_eq] at *) <;> (try simp only [sw_or, sw_all, or_false, and_true, i32_lt, i32_le, i32_eq, i32_addw, i32_subw, i32_mulw, Int32.reduceToInt] at *) <;> omega) | (apply_assumption; done)) rfl ?_
      refine r_rv d_IN_readLong_55 ?_
      first | (refine h1 ?_ <;> ((try simp +decide only [b01, b10, b11, am_up, and_true, and_false, true_and, false_and, if_true, if_false, nn_eq] at *) <;> (try simp only [sw_or, sw_all, or_false, and_true, i32_lt, i32_le, i32_eq, i32_addw, i32_subw, i32_mulw, Int32.reduceToInt] at *) <;> omega)) | (refine h2 ?_ <;> ((try simp +decide only [b01, b10, b11, am_up, and_true, and_false, true_and, false_and, if_true, if_false, nn_eq] at *) <;> (try simp only [sw_or, sw_all, or_false, and_true, i32_lt, i32_le, i32_eq, i32_addw, i32_subw, i32_mulw, Int32.reduceToInt] at *) <;> omega)) | (exfalso; ((try simp +decide only [b01, b10, b11, am_up, and_true, and_false, true_and, false_and, if_true, if_false, nn_eq] at *) <;> (try simp only [sw_or, sw_all, or_false, and_true, i32_lt, i32_le, i32_eq, i32_addw, i32_subw, i32_mulw, Int32.reduceToInt] at *) <;> omega))
  · skip
    refine r_il1 (q := 13) d_IN_readLong_12 rfl ?_
    refine r_sp (v := 132) (q := 16) d_IN_readLong_13 rfl rfl ?_
    refine r_ceq (tgt := 23) (q := 19) d_IN_readLong_16 rfl rfl (fun e16 => ?_) (fun e16 => ?_)
    · skip
      refine r_ic (v := 0) (q := 24) d_IN_readLong_23 rfl rfl ?_
      refine r_is5 (q := 26) d_IN_readLong_24 rfl ?_
      refine r_al0 (q := 27) d_IN_readLong_26 rfl ?_
      refine r_il1 (q := 28) d_IN_readLong_27 rfl ?_
      refine r_il5 (q := 30) d_IN_readLong_28 rfl ?_
      refine r_zeq (tgt := 43) (q := 33) d_IN_readLong_30 rfl rfl (fun e30 => ?_) (fun e30 => ?_)
      · skip
        refine r_il2 (q := 44) d_IN_readLong_43 rfl ?_
        refine r_il4 (q := 46) d_IN_readLong_44 rfl ?_
        refine r_vv3 mo_IN_keep d_IN_readLong_46 rfl (r_kI (by first | assumption | omega | decide | ((try simp +decide only [b01, b10, b11, am_up, and_true, and_false, true_and, false_and, if_true, if_false, nn_eq] at *) <;> (try simp only [sw_or, sw_all, or_false, and_true, i32_lt, i32_le, i32_eq, i32_addw, i32_subw, i32_mulw, Int32.reduceToInt] at *) <;> omega) | (apply_assumption; done))) rfl (q := 49) rfl ?_
        refine sp_IN_keep (by first | assumption | omega | decide | ((try simp +decide only [b01, b10, b11, am_up, and_true, and_false, true_and, false_and, if_true, if_false, nn_eq] at *) <;> (try simp only [sw_or, sw_all, or_false, and_true, i32_lt, i32_le, i32_eq, i32_addw, i32_subw, i32_mulw, Int32.reduceToInt] at *) <;> omega) | (apply_assumption; done)) ?_
        refine r_al0 (q := 50) d_IN_readLong_49 rfl ?_
        refine r_il3 (q := 51) d_IN_readLong_50 rfl ?_
        refine r_i2b (q := 52) d_IN_readLong_51 rfl ?_
        refine pt_IN_growth (q := 55) d_IN_readLong_52 rfl (by first | assumption | omega | decide | ((try simp +decide only [b01, b10, b11, am_up, and_true, and_false, true_and, false_and, if_true, if_false, nn_eq] at *) <;> (try simp only [sw_or, sw_all, or_false, and_true, i32_lt, i32_le, i32_eq, i32_addw, i32_subw, i32_mulw, Int32.reduceToInt] at *) <;> omega) | (apply_assumption; done)) rfl ?_
        refine r_rv d_IN_readLong_55 ?_
        first | (refine h1 ?_ <;> ((try simp +decide only [b01, b10, b11, am_up, and_true, and_false, true_and, false_and, if_true, if_false, nn_eq] at *) <;> (try simp only [sw_or, sw_all, or_false, and_true, i32_lt, i32_le, i32_eq, i32_addw, i32_subw, i32_mulw, Int32.reduceToInt] at *) <;> omega)) | (refine h2 ?_ <;> ((try simp +decide only [b01, b10, b11, am_up, and_true, and_false, true_and, false_and, if_true, if_false, nn_eq] at *) <;> (try simp only [sw_or, sw_all, or_false, and_true, i32_lt, i32_le, i32_eq, i32_addw, i32_subw, i32_mulw, Int32.reduceToInt] at *) <;> omega)) | (exfalso; ((try simp +decide only [b01, b10, b11, am_up, and_true, and_false, true_and, false_and, if_true, if_false, nn_eq] at *) <;> (try simp only [sw_or, sw_all, or_false, and_true, i32_lt, i32_le, i32_eq, i32_addw, i32_subw, i32_mulw, Int32.reduceToInt] at *) <;> omega))
      · skip
        refine r_il2 (q := 34) d_IN_readLong_33 rfl ?_
        refine r_bp (v := 8) (q := 36) d_IN_readLong_34 rfl rfl ?_
        refine r_ishl (q := 37) d_IN_readLong_36 rfl ?_
        refine r_il3 (q := 38) d_IN_readLong_37 rfl ?_
        refine r_ior (q := 39) d_IN_readLong_38 rfl ?_
        refine r_i2s (q := 40) d_IN_readLong_39 rfl ?_
        refine am_go (tgt := 44) d_IN_readLong_40 rfl ?_
        refine r_il4 (q := 46) d_IN_readLong_44 rfl ?_
        refine r_vv3 mo_IN_keep d_IN_readLong_46 rfl (r_kI (by first | assumption | omega | decide | ((try simp +decide only [b01, b10, b11, am_up, and_true, and_false, true_and, false_and, if_true, if_false, nn_eq] at *) <;> (try simp only [sw_or, sw_all, or_false, and_true, i32_lt, i32_le, i32_eq, i32_addw, i32_subw, i32_mulw, Int32.reduceToInt] at *) <;> omega) | (apply_assumption; done))) rfl (q := 49) rfl ?_
        refine sp_IN_keep (by first | assumption | omega | decide | ((try simp +decide only [b01, b10, b11, am_up, and_true, and_false, true_and, false_and, if_true, if_false, nn_eq] at *) <;> (try simp only [sw_or, sw_all, or_false, and_true, i32_lt, i32_le, i32_eq, i32_addw, i32_subw, i32_mulw, Int32.reduceToInt] at *) <;> omega) | (apply_assumption; done)) ?_
        refine r_al0 (q := 50) d_IN_readLong_49 rfl ?_
        refine r_il3 (q := 51) d_IN_readLong_50 rfl ?_
        refine r_i2b (q := 52) d_IN_readLong_51 rfl ?_
        refine pt_IN_growth (q := 55) d_IN_readLong_52 rfl (by first | assumption | omega | decide | ((try simp +decide only [b01, b10, b11, am_up, and_true, and_false, true_and, false_and, if_true, if_false, nn_eq] at *) <;> (try simp only [sw_or, sw_all, or_false, and_true, i32_lt, i32_le, i32_eq, i32_addw, i32_subw, i32_mulw, Int32.reduceToInt] at *) <;> omega) | (apply_assumption; done)) rfl ?_
        refine r_rv d_IN_readLong_55 ?_
        first | (refine h1 ?_ <;> ((try simp +decide only [b01, b10, b11, am_up, and_true, and_false, true_and, false_and, if_true, if_false, nn_eq] at *) <;> (try simp only [sw_or, sw_all, or_false, and_true, i32_lt, i32_le, i32_eq, i32_addw, i32_subw, i32_mulw, Int32.reduceToInt] at *) <;> omega)) | (refine h2 ?_ <;> ((try simp +decide only [b01, b10, b11, am_up, and_true, and_false, true_and, false_and, if_true, if_false, nn_eq] at *) <;> (try simp only [sw_or, sw_all, or_false, and_true, i32_lt, i32_le, i32_eq, i32_addw, i32_subw, i32_mulw, Int32.reduceToInt] at *) <;> omega)) | (exfalso; ((try simp +decide only [b01, b10, b11, am_up, and_true, and_false, true_and, false_and, if_true, if_false, nn_eq] at *) <;> (try simp only [sw_or, sw_all, or_false, and_true, i32_lt, i32_le, i32_eq, i32_addw, i32_subw, i32_mulw, Int32.reduceToInt] at *) <;> omega))
    · skip
      refine r_ic (v := 1) (q := 20) d_IN_readLong_19 rfl rfl ?_
      refine am_go (tgt := 24) d_IN_readLong_20 rfl ?_
      refine r_is5 (q := 26) d_IN_readLong_24 rfl ?_
      refine r_al0 (q := 27) d_IN_readLong_26 rfl ?_
      refine r_il1 (q := 28) d_IN_readLong_27 rfl ?_
      refine r_il5 (q := 30) d_IN_readLong_28 rfl ?_
      refine r_zeq (tgt := 43) (q := 33) d_IN_readLong_30 rfl rfl (fun e30 => ?_) (fun e30 => ?_)
      · skip
        refine r_il2 (q := 44) d_IN_readLong_43 rfl ?_
        refine r_il4 (q := 46) d_IN_readLong_44 rfl ?_
        refine r_vv3 mo_IN_keep d_IN_readLong_46 rfl (r_kI (by first | assumption | omega | decide | ((try simp +decide only [b01, b10, b11, am_up, and_true, and_false, true_and, false_and, if_true, if_false, nn_eq] at *) <;> (try simp only [sw_or, sw_all, or_false, and_true, i32_lt, i32_le, i32_eq, i32_addw, i32_subw, i32_mulw, Int32.reduceToInt] at *) <;> omega) | (apply_assumption; done))) rfl (q := 49) rfl ?_
        refine sp_IN_keep (by first | assumption | omega | decide | ((try simp +decide only [b01, b10, b11, am_up, and_true, and_false, true_and, false_and, if_true, if_false, nn_eq] at *) <;> (try simp only [sw_or, sw_all, or_false, and_true, i32_lt, i32_le, i32_eq, i32_addw, i32_subw, i32_mulw, Int32.reduceToInt] at *) <;> omega) | (apply_assumption; done)) ?_
        refine r_al0 (q := 50) d_IN_readLong_49 rfl ?_
        refine r_il3 (q := 51) d_IN_readLong_50 rfl ?_
        refine r_i2b (q := 52) d_IN_readLong_51 rfl ?_
        refine pt_IN_growth (q := 55) d_IN_readLong_52 rfl (by first | assumption | omega | decide | ((try simp +decide only [b01, b10, b11, am_up, and_true, and_false, true_and, false_and, if_true, if_false, nn_eq] at *) <;> (try simp only [sw_or, sw_all, or_false, and_true, i32_lt, i32_le, i32_eq, i32_addw, i32_subw, i32_mulw, Int32.reduceToInt] at *) <;> omega) | (apply_assumption; done)) rfl ?_
        refine r_rv d_IN_readLong_55 ?_
        first | (refine h1 ?_ <;> ((try simp +decide only [b01, b10, b11, am_up, and_true, and_false, true_and, false_and, if_true, if_false, nn_eq] at *) <;> (try simp only [sw_or, sw_all, or_false, and_true, i32_lt, i32_le, i32_eq, i32_addw, i32_subw, i32_mulw, Int32.reduceToInt] at *) <;> omega)) | (refine h2 ?_ <;> ((try simp +decide only [b01, b10, b11, am_up, and_true, and_false, true_and, false_and, if_true, if_false, nn_eq] at *) <;> (try simp only [sw_or, sw_all, or_false, and_true, i32_lt, i32_le, i32_eq, i32_addw, i32_subw, i32_mulw, Int32.reduceToInt] at *) <;> omega)) | (exfalso; ((try simp +decide only [b01, b10, b11, am_up, and_true, and_false, true_and, false_and, if_true, if_false, nn_eq] at *) <;> (try simp only [sw_or, sw_all, or_false, and_true, i32_lt, i32_le, i32_eq, i32_addw, i32_subw, i32_mulw, Int32.reduceToInt] at *) <;> omega))
      · skip
        refine r_il2 (q := 34) d_IN_readLong_33 rfl ?_
        refine r_bp (v := 8) (q := 36) d_IN_readLong_34 rfl rfl ?_
        refine r_ishl (q := 37) d_IN_readLong_36 rfl ?_
        refine r_il3 (q := 38) d_IN_readLong_37 rfl ?_
        refine r_ior (q := 39) d_IN_readLong_38 rfl ?_
        refine r_i2s (q := 40) d_IN_readLong_39 rfl ?_
        refine am_go (tgt := 44) d_IN_readLong_40 rfl ?_
        refine r_il4 (q := 46) d_IN_readLong_44 rfl ?_
        refine r_vv3 mo_IN_keep d_IN_readLong_46 rfl (r_kI (by first | assumption | omega | decide | ((try simp +decide only [b01, b10, b11, am_up, and_true, and_false, true_and, false_and, if_true, if_false, nn_eq] at *) <;> (try simp only [sw_or, sw_all, or_false, and_true, i32_lt, i32_le, i32_eq, i32_addw, i32_subw, i32_mulw, Int32.reduceToInt] at *) <;> omega) | (apply_assumption; done))) rfl (q := 49) rfl ?_
        refine sp_IN_keep (by first | assumption | omega | decide | ((try simp +decide only [b01, b10, b11, am_up, and_true, and_false, true_and, false_and, if_true, if_false, nn_eq] at *) <;> (try simp only [sw_or, sw_all, or_false, and_true, i32_lt, i32_le, i32_eq, i32_addw, i32_subw, i32_mulw, Int32.reduceToInt] at *) <;> omega) | (apply_assumption; done)) ?_
        refine r_al0 (q := 50) d_IN_readLong_49 rfl ?_
        refine r_il3 (q := 51) d_IN_readLong_50 rfl ?_
        refine r_i2b (q := 52) d_IN_readLong_51 rfl ?_
        refine pt_IN_growth (q := 55) d_IN_readLong_52 rfl (by first | assumption | omega | decide | ((try simp +decide only [b01, b10, b11, am_up, and_true, and_false, true_and, false_and, if_true, if_false, nn_eq] at *) <;> (try simp only [sw_or, sw_all, or_false, and_true, i32_lt, i32_le, i32_eq, i32_addw, i32_subw, i32_mulw, Int32.reduceToInt] at *) <;> omega) | (apply_assumption; done)) rfl ?_
        refine r_rv d_IN_readLong_55 ?_
        first | (refine h1 ?_ <;> ((try simp +decide only [b01, b10, b11, am_up, and_true, and_false, true_and, false_and, if_true, if_false, nn_eq] at *) <;> (try simp only [sw_or, sw_all, or_false, and_true, i32_lt, i32_le, i32_eq, i32_addw, i32_subw, i32_mulw, Int32.reduceToInt] at *) <;> omega)) | (refine h2 ?_ <;> ((try simp +decide only [b01, b10, b11, am_up, and_true, and_false, true_and, false_and, if_true, if_false, nn_eq] at *) <;> (try simp only [sw_or, sw_all, or_false, and_true, i32_lt, i32_le, i32_eq, i32_addw, i32_subw, i32_mulw, Int32.reduceToInt] at *) <;> omega)) | (exfalso; ((try simp +decide only [b01, b10, b11, am_up, and_true, and_false, true_and, false_and, if_true, if_false, nn_eq] at *) <;> (try simp only [sw_or, sw_all, or_false, and_true, i32_lt, i32_le, i32_eq, i32_addw, i32_subw, i32_mulw, Int32.reduceToInt] at *) <;> omega))

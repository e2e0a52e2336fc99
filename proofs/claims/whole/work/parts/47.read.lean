/-! written by wip/whole/gen/walk.py out of 47.read.txt -/
def cb (st : am_S) (x : Int32) : Int32 := if 0 ≤ x ∧ x < st 322 0 then st 2129 x.toNatClampNeg else 0
theorem sp_CO_byteAt {x : Int32} {st : am_S} {f : Int32 → am_S → Prop} (c1 : (st 322 0).toInt ≤ 200) (h : f (cb st x) st) : wp_CO_byteAt [.inr (.inl 124), .inl x] st (am_ki f) := by
  refine ⟨⟨rfl, Nat.le_of_ble_eq_true rfl⟩, ?_⟩
  unfold cb at h
  refine r_il1 (q := 1) d_CO_byteAt_0 rfl ?_
  refine r_zlt (tgt := 21) (q := 4) d_CO_byteAt_1 rfl rfl (fun e1 => ?_) (fun e1 => ?_)
  · skip
    refine r_ic (v := 0) (q := 22) d_CO_byteAt_21 rfl rfl ?_
    refine r_ri d_CO_byteAt_22 ?_
    first | exact h | (split at h <;> first | exact h | (exfalso; ((try simp +decide only [b01, b10, b11, am_up, and_true, and_false, true_and, false_and, if_true, if_false, nn_eq] at *) <;> (try simp only [sw_or, sw_all, or_false, and_true, i32_lt, i32_le, i32_eq, i32_addw, i32_subw, i32_mulw, Int32.reduceToInt] at *) <;> omega)) | (split at h <;> first | exact h | (exfalso; ((try simp +decide only [b01, b10, b11, am_up, and_true, and_false, true_and, false_and, if_true, if_false, nn_eq] at *) <;> (try simp only [sw_or, sw_all, or_false, and_true, i32_lt, i32_le, i32_eq, i32_addw, i32_subw, i32_mulw, Int32.reduceToInt] at *) <;> omega))))
  · skip
    refine r_il1 (q := 5) d_CO_byteAt_4 rfl ?_
    refine r_al0 (q := 6) d_CO_byteAt_5 rfl ?_
    refine gt_CO_byteCount (q := 9) d_CO_byteAt_6 rfl rfl ?_
    refine r_cge (tgt := 21) (q := 12) d_CO_byteAt_9 rfl rfl (fun e9 => ?_) (fun e9 => ?_)
    · skip
      refine r_ic (v := 0) (q := 22) d_CO_byteAt_21 rfl rfl ?_
      refine r_ri d_CO_byteAt_22 ?_
      first | exact h | (split at h <;> first | exact h | (exfalso; ((try simp +decide only [b01, b10, b11, am_up, and_true, and_false, true_and, false_and, if_true, if_false, nn_eq] at *) <;> (try simp only [sw_or, sw_all, or_false, and_true, i32_lt, i32_le, i32_eq, i32_addw, i32_subw, i32_mulw, Int32.reduceToInt] at *) <;> omega)) | (split at h <;> first | exact h | (exfalso; ((try simp +decide only [b01, b10, b11, am_up, and_true, and_false, true_and, false_and, if_true, if_false, nn_eq] at *) <;> (try simp only [sw_or, sw_all, or_false, and_true, i32_lt, i32_le, i32_eq, i32_addw, i32_subw, i32_mulw, Int32.reduceToInt] at *) <;> omega))))
    · skip
      refine r_al0 (q := 13) d_CO_byteAt_12 rfl ?_
      refine gt_CO_bytes (q := 16) d_CO_byteAt_13 rfl rfl ?_
      refine r_il1 (q := 17) d_CO_byteAt_16 rfl ?_
      refine ld_129 (q := 18) d_CO_byteAt_17 ?_ rfl ?_
      · (refine vp_of ?_ ?_ <;> (((try simp +decide only [b01, b10, b11, am_up, and_true, and_false, true_and, false_and, if_true, if_false, nn_eq] at *) <;> (try simp only [sw_or, sw_all, or_false, and_true, i32_lt, i32_le, i32_eq, i32_addw, i32_subw, i32_mulw, Int32.reduceToInt] at *) <;> omega)))
      refine am_go (tgt := 22) d_CO_byteAt_18 rfl ?_
      refine r_ri d_CO_byteAt_22 ?_
      first | exact h | (split at h <;> first | exact h | (exfalso; ((try simp +decide only [b01, b10, b11, am_up, and_true, and_false, true_and, false_and, if_true, if_false, nn_eq] at *) <;> (try simp only [sw_or, sw_all, or_false, and_true, i32_lt, i32_le, i32_eq, i32_addw, i32_subw, i32_mulw, Int32.reduceToInt] at *) <;> omega)) | (split at h <;> first | exact h | (exfalso; ((try simp +decide only [b01, b10, b11, am_up, and_true, and_false, true_and, false_and, if_true, if_false, nn_eq] at *) <;> (try simp only [sw_or, sw_all, or_false, and_true, i32_lt, i32_le, i32_eq, i32_addw, i32_subw, i32_mulw, Int32.reduceToInt] at *) <;> omega))))
def ik (st : am_S) (o : Nat) (a n z : Int32) : am_S := am_up (am_up (am_up st 192 o a) 193 o n) 195 o z
theorem sp_IN_keep {o : Nat} {a n z : Int32} {st : am_S} {f : am_S → Prop} (c1 : o < 3) (h : f (ik st o a n z)) : wp_IN_keep [.inr (.inl (o + 120)), .inl a, .inl n, .inl z] st (am_kv f) := by
  refine ⟨⟨rfl, Nat.le_of_ble_eq_true rfl⟩, ?_⟩
  refine r_al0 (q := 1) d_IN_keep_0 rfl ?_
  refine r_il1 (q := 2) d_IN_keep_1 rfl ?_
  refine pt_IN_operation (q := 5) d_IN_keep_2 rfl (by first | assumption | omega | decide | ((try simp +decide only [b01, b10, b11, am_up, and_true, and_false, true_and, false_and, if_true, if_false, nn_eq] at *) <;> (try simp only [sw_or, sw_all, or_false, and_true, i32_lt, i32_le, i32_eq, i32_addw, i32_subw, i32_mulw, Int32.reduceToInt] at *) <;> omega) | (apply_assumption; done)) rfl ?_
  refine r_al0 (q := 6) d_IN_keep_5 rfl ?_
  refine r_il2 (q := 7) d_IN_keep_6 rfl ?_
  refine pt_IN_number (q := 10) d_IN_keep_7 rfl (by first | assumption | omega | decide | ((try simp +decide only [b01, b10, b11, am_up, and_true, and_false, true_and, false_and, if_true, if_false, nn_eq] at *) <;> (try simp only [sw_or, sw_all, or_false, and_true, i32_lt, i32_le, i32_eq, i32_addw, i32_subw, i32_mulw, Int32.reduceToInt] at *) <;> omega) | (apply_assumption; done)) rfl ?_
  refine r_al0 (q := 11) d_IN_keep_10 rfl ?_
  refine r_il3 (q := 12) d_IN_keep_11 rfl ?_
  refine pt_IN_size (q := 15) d_IN_keep_12 rfl (by first | assumption | omega | decide | ((try simp +decide only [b01, b10, b11, am_up, and_true, and_false, true_and, false_and, if_true, if_false, nn_eq] at *) <;> (try simp only [sw_or, sw_all, or_false, and_true, i32_lt, i32_le, i32_eq, i32_addw, i32_subw, i32_mulw, Int32.reduceToInt] at *) <;> omega) | (apply_assumption; done)) rfl ?_
  refine r_rv d_IN_keep_15 ?_
  exact h
theorem sp_IN_readPush {o : Nat} {t s : Int32} {st : am_S} {f : Int32 → am_S → Prop} (c1 : o < 3) (h1 : 2 ≤ t ∧ t ≤ 8 → f 1 (ik st o 17 (t - 2 - 1) 1)) (h2 : t = 16 → f 1 (ik st o 17 s.toInt8.toInt32 2)) (h3 : ¬ (2 ≤ t ∧ t ≤ 8) ∧ ¬ t = 16 → f 0 st) : wp_IN_readPush [.inr (.inl (o + 120)), .inl t, .inl s] st (am_ki f) := by
  refine ⟨⟨rfl, Nat.le_of_ble_eq_true rfl⟩, ?_⟩
  refine r_il1 (q := 1) d_IN_readPush_0 rfl ?_
  refine r_si1 mo_OP_isSmallPush d_IN_readPush_1 rfl rfl (q := 4) rfl ?_
  refine sp_OP_isSmallPush (fun e1 => ?_) (fun e1 => ?_)
  · skip
    refine r_zeq (tgt := 21) (q := 7) d_IN_readPush_4 rfl rfl (fun e4 => ?_) (fun e4 => ?_)
    · skip
      refine r_il1 (q := 22) d_IN_readPush_21 rfl ?_
      refine r_bp (v := 16) (q := 24) d_IN_readPush_22 rfl rfl ?_
      refine r_cne (tgt := 38) (q := 27) d_IN_readPush_24 rfl rfl (fun e24 => ?_) (fun e24 => ?_)
      · skip
        refine r_ic (v := 0) (q := 39) d_IN_readPush_38 rfl rfl ?_
        refine r_rz d_IN_readPush_39 (by first | assumption | omega | decide | ((try simp +decide only [b01, b10, b11, am_up, and_true, and_false, true_and, false_and, if_true, if_false, nn_eq] at *) <;> (try simp only [sw_or, sw_all, or_false, and_true, i32_lt, i32_le, i32_eq, i32_addw, i32_subw, i32_mulw, Int32.reduceToInt] at *) <;> omega) | (apply_assumption; done)) ?_
        first | (refine h1 ?_ <;> ((try simp +decide only [b01, b10, b11, am_up, and_true, and_false, true_and, false_and, if_true, if_false, nn_eq] at *) <;> (try simp only [sw_or, sw_all, or_false, and_true, i32_lt, i32_le, i32_eq, i32_addw, i32_subw, i32_mulw, Int32.reduceToInt] at *) <;> omega)) | (refine h2 ?_ <;> ((try simp +decide only [b01, b10, b11, am_up, and_true, and_false, true_and, false_and, if_true, if_false, nn_eq] at *) <;> (try simp only [sw_or, sw_all, or_false, and_true, i32_lt, i32_le, i32_eq, i32_addw, i32_subw, i32_mulw, Int32.reduceToInt] at *) <;> omega)) | (refine h3 ?_ <;> ((try simp +decide only [b01, b10, b11, am_up, and_true, and_false, true_and, false_and, if_true, if_false, nn_eq] at *) <;> (try simp only [sw_or, sw_all, or_false, and_true, i32_lt, i32_le, i32_eq, i32_addw, i32_subw, i32_mulw, Int32.reduceToInt] at *) <;> omega)) | (exfalso; ((try simp +decide only [b01, b10, b11, am_up, and_true, and_false, true_and, false_and, if_true, if_false, nn_eq] at *) <;> (try simp only [sw_or, sw_all, or_false, and_true, i32_lt, i32_le, i32_eq, i32_addw, i32_subw, i32_mulw, Int32.reduceToInt] at *) <;> omega))
      · skip
        refine r_al0 (q := 28) d_IN_readPush_27 rfl ?_
        refine r_bp (v := 17) (q := 30) d_IN_readPush_28 rfl rfl ?_
        refine r_il2 (q := 31) d_IN_readPush_30 rfl ?_
        refine r_i2b (q := 32) d_IN_readPush_31 rfl ?_
        refine r_ic (v := 2) (q := 33) d_IN_readPush_32 rfl rfl ?_
        refine r_vv3 mo_IN_keep d_IN_readPush_33 rfl (r_kI (by first | assumption | omega | decide | ((try simp +decide only [b01, b10, b11, am_up, and_true, and_false, true_and, false_and, if_true, if_false, nn_eq] at *) <;> (try simp only [sw_or, sw_all, or_false, and_true, i32_lt, i32_le, i32_eq, i32_addw, i32_subw, i32_mulw, Int32.reduceToInt] at *) <;> omega) | (apply_assumption; done))) rfl (q := 36) rfl ?_
        refine sp_IN_keep (by first | assumption | omega | decide | ((try simp +decide only [b01, b10, b11, am_up, and_true, and_false, true_and, false_and, if_true, if_false, nn_eq] at *) <;> (try simp only [sw_or, sw_all, or_false, and_true, i32_lt, i32_le, i32_eq, i32_addw, i32_subw, i32_mulw, Int32.reduceToInt] at *) <;> omega) | (apply_assumption; done)) ?_
        refine r_ic (v := 1) (q := 37) d_IN_readPush_36 rfl rfl ?_
        refine r_rz d_IN_readPush_37 (by first | assumption | omega | decide | ((try simp +decide only [b01, b10, b11, am_up, and_true, and_false, true_and, false_and, if_true, if_false, nn_eq] at *) <;> (try simp only [sw_or, sw_all, or_false, and_true, i32_lt, i32_le, i32_eq, i32_addw, i32_subw, i32_mulw, Int32.reduceToInt] at *) <;> omega) | (apply_assumption; done)) ?_
        first | (refine h1 ?_ <;> ((try simp +decide only [b01, b10, b11, am_up, and_true, and_false, true_and, false_and, if_true, if_false, nn_eq] at *) <;> (try simp only [sw_or, sw_all, or_false, and_true, i32_lt, i32_le, i32_eq, i32_addw, i32_subw, i32_mulw, Int32.reduceToInt] at *) <;> omega)) | (refine h2 ?_ <;> ((try simp +decide only [b01, b10, b11, am_up, and_true, and_false, true_and, false_and, if_true, if_false, nn_eq] at *) <;> (try simp only [sw_or, sw_all, or_false, and_true, i32_lt, i32_le, i32_eq, i32_addw, i32_subw, i32_mulw, Int32.reduceToInt] at *) <;> omega)) | (refine h3 ?_ <;> ((try simp +decide only [b01, b10, b11, am_up, and_true, and_false, true_and, false_and, if_true, if_false, nn_eq] at *) <;> (try simp only [sw_or, sw_all, or_false, and_true, i32_lt, i32_le, i32_eq, i32_addw, i32_subw, i32_mulw, Int32.reduceToInt] at *) <;> omega)) | (exfalso; ((try simp +decide only [b01, b10, b11, am_up, and_true, and_false, true_and, false_and, if_true, if_false, nn_eq] at *) <;> (try simp only [sw_or, sw_all, or_false, and_true, i32_lt, i32_le, i32_eq, i32_addw, i32_subw, i32_mulw, Int32.reduceToInt] at *) <;> omega))
    · skip
      refine r_al0 (q := 8) d_IN_readPush_7 rfl ?_
      refine r_bp (v := 17) (q := 10) d_IN_readPush_8 rfl rfl ?_
      refine r_il1 (q := 11) d_IN_readPush_10 rfl ?_
      refine r_ic (v := 2) (q := 12) d_IN_readPush_11 rfl rfl ?_
      refine r_isub (q := 13) d_IN_readPush_12 rfl ?_
      refine r_ic (v := 1) (q := 14) d_IN_readPush_13 rfl rfl ?_
      refine r_isub (q := 15) d_IN_readPush_14 rfl ?_
      refine r_ic (v := 1) (q := 16) d_IN_readPush_15 rfl rfl ?_
      refine r_vv3 mo_IN_keep d_IN_readPush_16 rfl (r_kI (by first | assumption | omega | decide | ((try simp +decide only [b01, b10, b11, am_up, and_true, and_false, true_and, false_and, if_true, if_false, nn_eq] at *) <;> (try simp only [sw_or, sw_all, or_false, and_true, i32_lt, i32_le, i32_eq, i32_addw, i32_subw, i32_mulw, Int32.reduceToInt] at *) <;> omega) | (apply_assumption; done))) rfl (q := 19) rfl ?_
      refine sp_IN_keep (by first | assumption | omega | decide | ((try simp +decide only [b01, b10, b11, am_up, and_true, and_false, true_and, false_and, if_true, if_false, nn_eq] at *) <;> (try simp only [sw_or, sw_all, or_false, and_true, i32_lt, i32_le, i32_eq, i32_addw, i32_subw, i32_mulw, Int32.reduceToInt] at *) <;> omega) | (apply_assumption; done)) ?_
      refine r_ic (v := 1) (q := 20) d_IN_readPush_19 rfl rfl ?_
      refine r_rz d_IN_readPush_20 (by first | assumption | omega | decide | ((try simp +decide only [b01, b10, b11, am_up, and_true, and_false, true_and, false_and, if_true, if_false, nn_eq] at *) <;> (try simp only [sw_or, sw_all, or_false, and_true, i32_lt, i32_le, i32_eq, i32_addw, i32_subw, i32_mulw, Int32.reduceToInt] at *) <;> omega) | (apply_assumption; done)) ?_
      first | (refine h1 ?_ <;> ((try simp +decide only [b01, b10, b11, am_up, and_true, and_false, true_and, false_and, if_true, if_false, nn_eq] at *) <;> (try simp only [sw_or, sw_all, or_false, and_true, i32_lt, i32_le, i32_eq, i32_addw, i32_subw, i32_mulw, Int32.reduceToInt] at *) <;> omega)) | (refine h2 ?_ <;> ((try simp +decide only [b01, b10, b11, am_up, and_true, and_false, true_and, false_and, if_true, if_false, nn_eq] at *) <;> (try simp only [sw_or, sw_all, or_false, and_true, i32_lt, i32_le, i32_eq, i32_addw, i32_subw, i32_mulw, Int32.reduceToInt] at *) <;> omega)) | (refine h3 ?_ <;> ((try simp +decide only [b01, b10, b11, am_up, and_true, and_false, true_and, false_and, if_true, if_false, nn_eq] at *) <;> (try simp only [sw_or, sw_all, or_false, and_true, i32_lt, i32_le, i32_eq, i32_addw, i32_subw, i32_mulw, Int32.reduceToInt] at *) <;> omega)) | (exfalso; ((try simp +decide only [b01, b10, b11, am_up, and_true, and_false, true_and, false_and, if_true, if_false, nn_eq] at *) <;> (try simp only [sw_or, sw_all, or_false, and_true, i32_lt, i32_le, i32_eq, i32_addw, i32_subw, i32_mulw, Int32.reduceToInt] at *) <;> omega))
  · skip
    refine r_zeq (tgt := 21) (q := 7) d_IN_readPush_4 rfl rfl (fun e4 => ?_) (fun e4 => ?_)
    · skip
      refine r_il1 (q := 22) d_IN_readPush_21 rfl ?_
      refine r_bp (v := 16) (q := 24) d_IN_readPush_22 rfl rfl ?_
      refine r_cne (tgt := 38) (q := 27) d_IN_readPush_24 rfl rfl (fun e24 => ?_) (fun e24 => ?_)
      · skip
        refine r_ic (v := 0) (q := 39) d_IN_readPush_38 rfl rfl ?_
        refine r_rz d_IN_readPush_39 (by first | assumption | omega | decide | ((try simp +decide only [b01, b10, b11, am_up, and_true, and_false, true_and, false_and, if_true, if_false, nn_eq] at *) <;> (try simp only [sw_or, sw_all, or_false, and_true, i32_lt, i32_le, i32_eq, i32_addw, i32_subw, i32_mulw, Int32.reduceToInt] at *) <;> omega) | (apply_assumption; done)) ?_
        first | (refine h1 ?_ <;> ((try simp +decide only [b01, b10, b11, am_up, and_true, and_false, true_and, false_and, if_true, if_false, nn_eq] at *) <;> (try simp only [sw_or, sw_all, or_false, and_true, i32_lt, i32_le, i32_eq, i32_addw, i32_subw, i32_mulw, Int32.reduceToInt] at *) <;> omega)) | (refine h2 ?_ <;> ((try simp +decide only [b01, b10, b11, am_up, and_true, and_false, true_and, false_and, if_true, if_false, nn_eq] at *) <;> (try simp only [sw_or, sw_all, or_false, and_true, i32_lt, i32_le, i32_eq, i32_addw, i32_subw, i32_mulw, Int32.reduceToInt] at *) <;> omega)) | (refine h3 ?_ <;> ((try simp +decide only [b01, b10, b11, am_up, and_true, and_false, true_and, false_and, if_true, if_false, nn_eq] at *) <;> (try simp only [sw_or, sw_all, or_false, and_true, i32_lt, i32_le, i32_eq, i32_addw, i32_subw, i32_mulw, Int32.reduceToInt] at *) <;> omega)) | (exfalso; ((try simp +decide only [b01, b10, b11, am_up, and_true, and_false, true_and, false_and, if_true, if_false, nn_eq] at *) <;> (try simp only [sw_or, sw_all, or_false, and_true, i32_lt, i32_le, i32_eq, i32_addw, i32_subw, i32_mulw, Int32.reduceToInt] at *) <;> omega))
      · skip
        refine r_al0 (q := 28) d_IN_readPush_27 rfl ?_
        refine r_bp (v := 17) (q := 30) d_IN_readPush_28 rfl rfl ?_
        refine r_il2 (q := 31) d_IN_readPush_30 rfl ?_
        refine r_i2b (q := 32) d_IN_readPush_31 rfl ?_
        refine r_ic (v := 2) (q := 33) d_IN_readPush_32 rfl rfl ?_
        refine r_vv3 mo_IN_keep d_IN_readPush_33 rfl (r_kI (by first | assumption | omega | decide | ((try simp +decide only [b01, b10, b11, am_up, and_true, and_false, true_and, false_and, if_true, if_false, nn_eq] at *) <;> (try simp only [sw_or, sw_all, or_false, and_true, i32_lt, i32_le, i32_eq, i32_addw, i32_subw, i32_mulw, Int32.reduceToInt] at *) <;> omega) | (apply_assumption; done))) rfl (q := 36) rfl ?_
        refine sp_IN_keep (by first | assumption | omega | decide | ((try simp +decide only [b01, b10, b11, am_up, and_true, and_false, true_and, false_and, if_true, if_false, nn_eq] at *) <;> (try simp only [sw_or, sw_all, or_false, and_true, i32_lt, i32_le, i32_eq, i32_addw, i32_subw, i32_mulw, Int32.reduceToInt] at *) <;> omega) | (apply_assumption; done)) ?_
        refine r_ic (v := 1) (q := 37) d_IN_readPush_36 rfl rfl ?_
        refine r_rz d_IN_readPush_37 (by first | assumption | omega | decide | ((try simp +decide only [b01, b10, b11, am_up, and_true, and_false, true_and, false_and, if_true, if_false, nn_eq] at *) <;> (try simp only [sw_or, sw_all, or_false, and_true, i32_lt, i32_le, i32_eq, i32_addw, i32_subw, i32_mulw, Int32.reduceToInt] at *) <;> omega) | (apply_assumption; done)) ?_
        first | (refine h1 ?_ <;> ((try simp +decide only [b01, b10, b11, am_up, and_true, and_false, true_and, false_and, if_true, if_false, nn_eq] at *) <;> (try simp only [sw_or, sw_all, or_false, and_true, i32_lt, i32_le, i32_eq, i32_addw, i32_subw, i32_mulw, Int32.reduceToInt] at *) <;> omega)) | (refine h2 ?_ <;> ((try simp +decide only [b01, b10, b11, am_up, and_true, and_false, true_and, false_and, if_true, if_false, nn_eq] at *) <;> (try simp only [sw_or, sw_all, or_false, and_true, i32_lt, i32_le, i32_eq, i32_addw, i32_subw, i32_mulw, Int32.reduceToInt] at *) <;> omega)) | (refine h3 ?_ <;> ((try simp +decide only [b01, b10, b11, am_up, and_true, and_false, true_and, false_and, if_true, if_false, nn_eq] at *) <;> (try simp only [sw_or, sw_all, or_false, and_true, i32_lt, i32_le, i32_eq, i32_addw, i32_subw, i32_mulw, Int32.reduceToInt] at *) <;> omega)) | (exfalso; ((try simp +decide only [b01, b10, b11, am_up, and_true, and_false, true_and, false_and, if_true, if_false, nn_eq] at *) <;> (try simp only [sw_or, sw_all, or_false, and_true, i32_lt, i32_le, i32_eq, i32_addw, i32_subw, i32_mulw, Int32.reduceToInt] at *) <;> omega))
    · skip
      refine r_al0 (q := 8) d_IN_readPush_7 rfl ?_
      refine r_bp (v := 17) (q := 10) d_IN_readPush_8 rfl rfl ?_
      refine r_il1 (q := 11) d_IN_readPush_10 rfl ?_
      refine r_ic (v := 2) (q := 12) d_IN_readPush_11 rfl rfl ?_
      refine r_isub (q := 13) d_IN_readPush_12 rfl ?_
      refine r_ic (v := 1) (q := 14) d_IN_readPush_13 rfl rfl ?_
      refine r_isub (q := 15) d_IN_readPush_14 rfl ?_
      refine r_ic (v := 1) (q := 16) d_IN_readPush_15 rfl rfl ?_
      refine r_vv3 mo_IN_keep d_IN_readPush_16 rfl (r_kI (by first | assumption | omega | decide | ((try simp +decide only [b01, b10, b11, am_up, and_true, and_false, true_and, false_and, if_true, if_false, nn_eq] at *) <;> (try simp only [sw_or, sw_all, or_false, and_true, i32_lt, i32_le, i32_eq, i32_addw, i32_subw, i32_mulw, Int32.reduceToInt] at *) <;> omega) | (apply_assumption; done))) rfl (q := 19) rfl ?_
      refine sp_IN_keep (by first | assumption | omega | decide | ((try simp +decide only [b01, b10, b11, am_up, and_true, and_false, true_and, false_and, if_true, if_false, nn_eq] at *) <;> (try simp only [sw_or, sw_all, or_false, and_true, i32_lt, i32_le, i32_eq, i32_addw, i32_subw, i32_mulw, Int32.reduceToInt] at *) <;> omega) | (apply_assumption; done)) ?_
      refine r_ic (v := 1) (q := 20) d_IN_readPush_19 rfl rfl ?_
      refine r_rz d_IN_readPush_20 (by first | assumption | omega | decide | ((try simp +decide only [b01, b10, b11, am_up, and_true, and_false, true_and, false_and, if_true, if_false, nn_eq] at *) <;> (try simp only [sw_or, sw_all, or_false, and_true, i32_lt, i32_le, i32_eq, i32_addw, i32_subw, i32_mulw, Int32.reduceToInt] at *) <;> omega) | (apply_assumption; done)) ?_
      first | (refine h1 ?_ <;> ((try simp +decide only [b01, b10, b11, am_up, and_true, and_false, true_and, false_and, if_true, if_false, nn_eq] at *) <;> (try simp only [sw_or, sw_all, or_false, and_true, i32_lt, i32_le, i32_eq, i32_addw, i32_subw, i32_mulw, Int32.reduceToInt] at *) <;> omega)) | (refine h2 ?_ <;> ((try simp +decide only [b01, b10, b11, am_up, and_true, and_false, true_and, false_and, if_true, if_false, nn_eq] at *) <;> (try simp only [sw_or, sw_all, or_false, and_true, i32_lt, i32_le, i32_eq, i32_addw, i32_subw, i32_mulw, Int32.reduceToInt] at *) <;> omega)) | (refine h3 ?_ <;> ((try simp +decide only [b01, b10, b11, am_up, and_true, and_false, true_and, false_and, if_true, if_false, nn_eq] at *) <;> (try simp only [sw_or, sw_all, or_false, and_true, i32_lt, i32_le, i32_eq, i32_addw, i32_subw, i32_mulw, Int32.reduceToInt] at *) <;> omega)) | (exfalso; ((try simp +decide only [b01, b10, b11, am_up, and_true, and_false, true_and, false_and, if_true, if_false, nn_eq] at *) <;> (try simp only [sw_or, sw_all, or_false, and_true, i32_lt, i32_le, i32_eq, i32_addw, i32_subw, i32_mulw, Int32.reduceToInt] at *) <;> omega))
theorem sp_IN_readShort {o : Nat} {t y l : Int32} {st : am_S} {f : Int32 → am_S → Prop} (c1 : o < 3) (h1 : y ≤ t ∧ t < y + 4 → f 1 (ik st o l (t - y) 1)) (h2 : ¬ (y ≤ t ∧ t < y + 4) → f 0 st) : wp_IN_readShort [.inr (.inl (o + 120)), .inl t, .inl y, .inl l] st (am_ki f) := by
  refine ⟨⟨rfl, Nat.le_of_ble_eq_true rfl⟩, ?_⟩
  refine r_il1 (q := 1) d_IN_readShort_0 rfl ?_
  refine r_il2 (q := 2) d_IN_readShort_1 rfl ?_
  refine r_si2 mo_OP_isShort d_IN_readShort_2 rfl rfl (q := 5) rfl ?_
  refine sp_OP_isShort (fun e2 => ?_) (fun e2 => ?_)
  · skip
    refine r_zne (tgt := 10) (q := 8) d_IN_readShort_5 rfl rfl (fun e5 => ?_) (fun e5 => ?_)
    · skip
      refine r_al0 (q := 11) d_IN_readShort_10 rfl ?_
      refine r_il3 (q := 12) d_IN_readShort_11 rfl ?_
      refine r_il1 (q := 13) d_IN_readShort_12 rfl ?_
      refine r_il2 (q := 14) d_IN_readShort_13 rfl ?_
      refine r_isub (q := 15) d_IN_readShort_14 rfl ?_
      refine r_ic (v := 1) (q := 16) d_IN_readShort_15 rfl rfl ?_
      refine r_vv3 mo_IN_keep d_IN_readShort_16 rfl (r_kI (by first | assumption | omega | decide | ((try simp +decide only [b01, b10, b11, am_up, and_true, and_false, true_and, false_and, if_true, if_false, nn_eq] at *) <;> (try simp only [sw_or, sw_all, or_false, and_true, i32_lt, i32_le, i32_eq, i32_addw, i32_subw, i32_mulw, Int32.reduceToInt] at *) <;> omega) | (apply_assumption; done))) rfl (q := 19) rfl ?_
      refine sp_IN_keep (by first | assumption | omega | decide | ((try simp +decide only [b01, b10, b11, am_up, and_true, and_false, true_and, false_and, if_true, if_false, nn_eq] at *) <;> (try simp only [sw_or, sw_all, or_false, and_true, i32_lt, i32_le, i32_eq, i32_addw, i32_subw, i32_mulw, Int32.reduceToInt] at *) <;> omega) | (apply_assumption; done)) ?_
      refine r_ic (v := 1) (q := 20) d_IN_readShort_19 rfl rfl ?_
      refine r_rz d_IN_readShort_20 (by first | assumption | omega | decide | ((try simp +decide only [b01, b10, b11, am_up, and_true, and_false, true_and, false_and, if_true, if_false, nn_eq] at *) <;> (try simp only [sw_or, sw_all, or_false, and_true, i32_lt, i32_le, i32_eq, i32_addw, i32_subw, i32_mulw, Int32.reduceToInt] at *) <;> omega) | (apply_assumption; done)) ?_
      first | exact h1 e2 | exact h2 e2 | (exfalso; ((try simp +decide only [b01, b10, b11, am_up, and_true, and_false, true_and, false_and, if_true, if_false, nn_eq] at *) <;> (try simp only [sw_or, sw_all, or_false, and_true, i32_lt, i32_le, i32_eq, i32_addw, i32_subw, i32_mulw, Int32.reduceToInt] at *) <;> omega))
    · skip
      refine r_ic (v := 0) (q := 9) d_IN_readShort_8 rfl rfl ?_
      refine r_rz d_IN_readShort_9 (by first | assumption | omega | decide | ((try simp +decide only [b01, b10, b11, am_up, and_true, and_false, true_and, false_and, if_true, if_false, nn_eq] at *) <;> (try simp only [sw_or, sw_all, or_false, and_true, i32_lt, i32_le, i32_eq, i32_addw, i32_subw, i32_mulw, Int32.reduceToInt] at *) <;> omega) | (apply_assumption; done)) ?_
      first | exact h1 e2 | exact h2 e2 | (exfalso; ((try simp +decide only [b01, b10, b11, am_up, and_true, and_false, true_and, false_and, if_true, if_false, nn_eq] at *) <;> (try simp only [sw_or, sw_all, or_false, and_true, i32_lt, i32_le, i32_eq, i32_addw, i32_subw, i32_mulw, Int32.reduceToInt] at *) <;> omega))
  · skip
    refine r_zne (tgt := 10) (q := 8) d_IN_readShort_5 rfl rfl (fun e5 => ?_) (fun e5 => ?_)
    · skip
      refine r_al0 (q := 11) d_IN_readShort_10 rfl ?_
      refine r_il3 (q := 12) d_IN_readShort_11 rfl ?_
      refine r_il1 (q := 13) d_IN_readShort_12 rfl ?_
      refine r_il2 (q := 14) d_IN_readShort_13 rfl ?_
      refine r_isub (q := 15) d_IN_readShort_14 rfl ?_
      refine r_ic (v := 1) (q := 16) d_IN_readShort_15 rfl rfl ?_
      refine r_vv3 mo_IN_keep d_IN_readShort_16 rfl (r_kI (by first | assumption | omega | decide | ((try simp +decide only [b01, b10, b11, am_up, and_true, and_false, true_and, false_and, if_true, if_false, nn_eq] at *) <;> (try simp only [sw_or, sw_all, or_false, and_true, i32_lt, i32_le, i32_eq, i32_addw, i32_subw, i32_mulw, Int32.reduceToInt] at *) <;> omega) | (apply_assumption; done))) rfl (q := 19) rfl ?_
      refine sp_IN_keep (by first | assumption | omega | decide | ((try simp +decide only [b01, b10, b11, am_up, and_true, and_false, true_and, false_and, if_true, if_false, nn_eq] at *) <;> (try simp only [sw_or, sw_all, or_false, and_true, i32_lt, i32_le, i32_eq, i32_addw, i32_subw, i32_mulw, Int32.reduceToInt] at *) <;> omega) | (apply_assumption; done)) ?_
      refine r_ic (v := 1) (q := 20) d_IN_readShort_19 rfl rfl ?_
      refine r_rz d_IN_readShort_20 (by first | assumption | omega | decide | ((try simp +decide only [b01, b10, b11, am_up, and_true, and_false, true_and, false_and, if_true, if_false, nn_eq] at *) <;> (try simp only [sw_or, sw_all, or_false, and_true, i32_lt, i32_le, i32_eq, i32_addw, i32_subw, i32_mulw, Int32.reduceToInt] at *) <;> omega) | (apply_assumption; done)) ?_
      first | exact h1 e2 | exact h2 e2 | (exfalso; ((try simp +decide only [b01, b10, b11, am_up, and_true, and_false, true_and, false_and, if_true, if_false, nn_eq] at *) <;> (try simp only [sw_or, sw_all, or_false, and_true, i32_lt, i32_le, i32_eq, i32_addw, i32_subw, i32_mulw, Int32.reduceToInt] at *) <;> omega))
    · skip
      refine r_ic (v := 0) (q := 9) d_IN_readShort_8 rfl rfl ?_
      refine r_rz d_IN_readShort_9 (by first | assumption | omega | decide | ((try simp +decide only [b01, b10, b11, am_up, and_true, and_false, true_and, false_and, if_true, if_false, nn_eq] at *) <;> (try simp only [sw_or, sw_all, or_false, and_true, i32_lt, i32_le, i32_eq, i32_addw, i32_subw, i32_mulw, Int32.reduceToInt] at *) <;> omega) | (apply_assumption; done)) ?_
      first | exact h1 e2 | exact h2 e2 | (exfalso; ((try simp +decide only [b01, b10, b11, am_up, and_true, and_false, true_and, false_and, if_true, if_false, nn_eq] at *) <;> (try simp only [sw_or, sw_all, or_false, and_true, i32_lt, i32_le, i32_eq, i32_addw, i32_subw, i32_mulw, Int32.reduceToInt] at *) <;> omega))

/-! written by wip/whole/gen/walk.py out of 40.code.txt -/
theorem sp_FR_firstStackCell {o : Nat} {st : am_S} {f : Int32 → am_S → Prop} (c1 : o < 80) (c2 : (st 0 o).toNatClampNeg < 8) (h : f (st 2 o + st 70 (st 0 o).toNatClampNeg) st) : wp_FR_firstStackCell [.inr (.inl o)] st (am_ki f) := by
  refine ⟨⟨rfl, Nat.le_of_ble_eq_true rfl⟩, ?_⟩
  refine r_al0 (q := 1) d_FR_firstStackCell_0 rfl ?_
  refine gt_FR_firstCell (q := 4) d_FR_firstStackCell_1 rfl (by first | assumption | omega | decide | ((try simp +decide only [b01, b10, b11, am_up, and_true, and_false, true_and, false_and, if_true, if_false, nn_eq] at *) <;> (try simp only [i32_lt, i32_le, i32_eq, i32_addw, i32_subw, i32_mulw, Int32.reduceToInt] at *) <;> omega)) rfl ?_
  refine r_al0 (q := 5) d_FR_firstStackCell_4 rfl ?_
  refine gt_FR_body (q := 8) d_FR_firstStackCell_5 rfl (by first | assumption | omega | decide | ((try simp +decide only [b01, b10, b11, am_up, and_true, and_false, true_and, false_and, if_true, if_false, nn_eq] at *) <;> (try simp only [i32_lt, i32_le, i32_eq, i32_addw, i32_subw, i32_mulw, Int32.reduceToInt] at *) <;> omega)) rfl ?_
  refine gt_ME_locals (q := 11) d_FR_firstStackCell_8 rfl (by first | assumption | omega | decide | ((try simp +decide only [b01, b10, b11, am_up, and_true, and_false, true_and, false_and, if_true, if_false, nn_eq] at *) <;> (try simp only [i32_lt, i32_le, i32_eq, i32_addw, i32_subw, i32_mulw, Int32.reduceToInt] at *) <;> omega)) rfl ?_
  refine r_iadd (q := 12) d_FR_firstStackCell_11 rfl ?_
  refine r_ri d_FR_firstStackCell_12 ?_
  exact h
theorem sp_ME_end {o : Nat} {st : am_S} {f : Int32 → am_S → Prop} (c1 : o < 8) (h : f (st 67 o + st 68 o) st) : wp_ME_end [.inr (.inl (o + 80))] st (am_ki f) := by
  refine ⟨⟨rfl, Nat.le_of_ble_eq_true rfl⟩, ?_⟩
  refine r_al0 (q := 1) d_ME_end_0 rfl ?_
  refine gt_ME_first (q := 4) d_ME_end_1 rfl (by first | assumption | omega | decide | ((try simp +decide only [b01, b10, b11, am_up, and_true, and_false, true_and, false_and, if_true, if_false, nn_eq] at *) <;> (try simp only [i32_lt, i32_le, i32_eq, i32_addw, i32_subw, i32_mulw, Int32.reduceToInt] at *) <;> omega)) rfl ?_
  refine r_al0 (q := 5) d_ME_end_4 rfl ?_
  refine gt_ME_length (q := 8) d_ME_end_5 rfl (by first | assumption | omega | decide | ((try simp +decide only [b01, b10, b11, am_up, and_true, and_false, true_and, false_and, if_true, if_false, nn_eq] at *) <;> (try simp only [i32_lt, i32_le, i32_eq, i32_addw, i32_subw, i32_mulw, Int32.reduceToInt] at *) <;> omega)) rfl ?_
  refine r_iadd (q := 9) d_ME_end_8 rfl ?_
  refine r_ri d_ME_end_9 ?_
  exact h
theorem sp_ME_cellsNeeded {o : Nat} {st : am_S} {f : Int32 → am_S → Prop} (c1 : o < 8) (h : f (st 70 o + st 71 o + 1) st) : wp_ME_cellsNeeded [.inr (.inl (o + 80))] st (am_ki f) := by
  refine ⟨⟨rfl, Nat.le_of_ble_eq_true rfl⟩, ?_⟩
  refine r_al0 (q := 1) d_ME_cellsNeeded_0 rfl ?_
  refine gt_ME_locals (q := 4) d_ME_cellsNeeded_1 rfl (by first | assumption | omega | decide | ((try simp +decide only [b01, b10, b11, am_up, and_true, and_false, true_and, false_and, if_true, if_false, nn_eq] at *) <;> (try simp only [i32_lt, i32_le, i32_eq, i32_addw, i32_subw, i32_mulw, Int32.reduceToInt] at *) <;> omega)) rfl ?_
  refine r_al0 (q := 5) d_ME_cellsNeeded_4 rfl ?_
  refine gt_ME_height (q := 8) d_ME_cellsNeeded_5 rfl (by first | assumption | omega | decide | ((try simp +decide only [b01, b10, b11, am_up, and_true, and_false, true_and, false_and, if_true, if_false, nn_eq] at *) <;> (try simp only [i32_lt, i32_le, i32_eq, i32_addw, i32_subw, i32_mulw, Int32.reduceToInt] at *) <;> omega)) rfl ?_
  refine r_iadd (q := 9) d_ME_cellsNeeded_8 rfl ?_
  refine r_ic (v := 1) (q := 10) d_ME_cellsNeeded_9 rfl rfl ?_
  refine r_iadd (q := 11) d_ME_cellsNeeded_10 rfl ?_
  refine r_ri d_ME_cellsNeeded_11 ?_
  exact h
theorem sp_HA_covers {o : Nat} {x : Int32} {st : am_S} {f : Int32 → am_S → Prop} (c1 : o < 32) (h : f (if st 128 o ≤ x ∧ x < st 129 o then 1 else 0) st) : wp_HA_covers [.inr (.inl (o + 88)), .inl x] st (am_ki f) := by
  refine ⟨⟨rfl, Nat.le_of_ble_eq_true rfl⟩, ?_⟩
  refine r_al0 (q := 1) d_HA_covers_0 rfl ?_
  refine gt_HA_from (q := 4) d_HA_covers_1 rfl (by first | assumption | omega | decide | ((try simp +decide only [b01, b10, b11, am_up, and_true, and_false, true_and, false_and, if_true, if_false, nn_eq] at *) <;> (try simp only [i32_lt, i32_le, i32_eq, i32_addw, i32_subw, i32_mulw, Int32.reduceToInt] at *) <;> omega)) rfl ?_
  refine r_il1 (q := 5) d_HA_covers_4 rfl ?_
  refine r_cgt (tgt := 20) (q := 8) d_HA_covers_5 rfl rfl (fun e5 => ?_) (fun e5 => ?_)
  · skip
    refine r_ic (v := 0) (q := 21) d_HA_covers_20 rfl rfl ?_
    refine r_rz d_HA_covers_21 (by first | assumption | omega | decide | ((try simp +decide only [b01, b10, b11, am_up, and_true, and_false, true_and, false_and, if_true, if_false, nn_eq] at *) <;> (try simp only [i32_lt, i32_le, i32_eq, i32_addw, i32_subw, i32_mulw, Int32.reduceToInt] at *) <;> omega)) ?_
    first | exact h | (split at h <;> first | exact h | (exfalso; ((try simp +decide only [b01, b10, b11, am_up, and_true, and_false, true_and, false_and, if_true, if_false, nn_eq] at *) <;> (try simp only [i32_lt, i32_le, i32_eq, i32_addw, i32_subw, i32_mulw, Int32.reduceToInt] at *) <;> omega)) | (split at h <;> first | exact h | (exfalso; ((try simp +decide only [b01, b10, b11, am_up, and_true, and_false, true_and, false_and, if_true, if_false, nn_eq] at *) <;> (try simp only [i32_lt, i32_le, i32_eq, i32_addw, i32_subw, i32_mulw, Int32.reduceToInt] at *) <;> omega))))
  · skip
    refine r_il1 (q := 9) d_HA_covers_8 rfl ?_
    refine r_al0 (q := 10) d_HA_covers_9 rfl ?_
    refine gt_HA_to (q := 13) d_HA_covers_10 rfl (by first | assumption | omega | decide | ((try simp +decide only [b01, b10, b11, am_up, and_true, and_false, true_and, false_and, if_true, if_false, nn_eq] at *) <;> (try simp only [i32_lt, i32_le, i32_eq, i32_addw, i32_subw, i32_mulw, Int32.reduceToInt] at *) <;> omega)) rfl ?_
    refine r_cge (tgt := 20) (q := 16) d_HA_covers_13 rfl rfl (fun e13 => ?_) (fun e13 => ?_)
    · skip
      refine r_ic (v := 0) (q := 21) d_HA_covers_20 rfl rfl ?_
      refine r_rz d_HA_covers_21 (by first | assumption | omega | decide | ((try simp +decide only [b01, b10, b11, am_up, and_true, and_false, true_and, false_and, if_true, if_false, nn_eq] at *) <;> (try simp only [i32_lt, i32_le, i32_eq, i32_addw, i32_subw, i32_mulw, Int32.reduceToInt] at *) <;> omega)) ?_
      first | exact h | (split at h <;> first | exact h | (exfalso; ((try simp +decide only [b01, b10, b11, am_up, and_true, and_false, true_and, false_and, if_true, if_false, nn_eq] at *) <;> (try simp only [i32_lt, i32_le, i32_eq, i32_addw, i32_subw, i32_mulw, Int32.reduceToInt] at *) <;> omega)) | (split at h <;> first | exact h | (exfalso; ((try simp +decide only [b01, b10, b11, am_up, and_true, and_false, true_and, false_and, if_true, if_false, nn_eq] at *) <;> (try simp only [i32_lt, i32_le, i32_eq, i32_addw, i32_subw, i32_mulw, Int32.reduceToInt] at *) <;> omega))))
    · skip
      refine r_ic (v := 1) (q := 17) d_HA_covers_16 rfl rfl ?_
      refine am_go (tgt := 21) d_HA_covers_17 rfl ?_
      refine r_rz d_HA_covers_21 (by first | assumption | omega | decide | ((try simp +decide only [b01, b10, b11, am_up, and_true, and_false, true_and, false_and, if_true, if_false, nn_eq] at *) <;> (try simp only [i32_lt, i32_le, i32_eq, i32_addw, i32_subw, i32_mulw, Int32.reduceToInt] at *) <;> omega)) ?_
      first | exact h | (split at h <;> first | exact h | (exfalso; ((try simp +decide only [b01, b10, b11, am_up, and_true, and_false, true_and, false_and, if_true, if_false, nn_eq] at *) <;> (try simp only [i32_lt, i32_le, i32_eq, i32_addw, i32_subw, i32_mulw, Int32.reduceToInt] at *) <;> omega)) | (split at h <;> first | exact h | (exfalso; ((try simp +decide only [b01, b10, b11, am_up, and_true, and_false, true_and, false_and, if_true, if_false, nn_eq] at *) <;> (try simp only [i32_lt, i32_le, i32_eq, i32_addw, i32_subw, i32_mulw, Int32.reduceToInt] at *) <;> omega))))
theorem sp_CO_forget {st : am_S} {f : am_S → Prop} (h : f (am_up (am_up st 322 0 0) 323 0 0)) : wp_CO_forget [.inr (.inl 124)] st (am_kv f) := by
  refine ⟨⟨rfl, Nat.le_of_ble_eq_true rfl⟩, ?_⟩
  refine r_al0 (q := 1) d_CO_forget_0 rfl ?_
  refine r_ic (v := 0) (q := 2) d_CO_forget_1 rfl rfl ?_
  refine pt_CO_byteCount (q := 5) d_CO_forget_2 rfl rfl ?_
  refine r_al0 (q := 6) d_CO_forget_5 rfl ?_
  refine r_ic (v := 0) (q := 7) d_CO_forget_6 rfl rfl ?_
  refine pt_CO_methodCount (q := 10) d_CO_forget_7 rfl rfl ?_
  refine r_rv d_CO_forget_10 ?_
  exact h
theorem sp_CO_hasMethod {x : Int32} {st : am_S} {f : Int32 → am_S → Prop} (h : f (if 0 ≤ x ∧ x < st 323 0 then 1 else 0) st) : wp_CO_hasMethod [.inr (.inl 124), .inl x] st (am_ki f) := by
  refine ⟨⟨rfl, Nat.le_of_ble_eq_true rfl⟩, ?_⟩
  refine r_il1 (q := 1) d_CO_hasMethod_0 rfl ?_
  refine r_zlt (tgt := 16) (q := 4) d_CO_hasMethod_1 rfl rfl (fun e1 => ?_) (fun e1 => ?_)
  · skip
    refine r_ic (v := 0) (q := 17) d_CO_hasMethod_16 rfl rfl ?_
    refine r_rz d_CO_hasMethod_17 (by first | assumption | omega | decide | ((try simp +decide only [b01, b10, b11, am_up, and_true, and_false, true_and, false_and, if_true, if_false, nn_eq] at *) <;> (try simp only [i32_lt, i32_le, i32_eq, i32_addw, i32_subw, i32_mulw, Int32.reduceToInt] at *) <;> omega)) ?_
    first | exact h | (split at h <;> first | exact h | (exfalso; ((try simp +decide only [b01, b10, b11, am_up, and_true, and_false, true_and, false_and, if_true, if_false, nn_eq] at *) <;> (try simp only [i32_lt, i32_le, i32_eq, i32_addw, i32_subw, i32_mulw, Int32.reduceToInt] at *) <;> omega)) | (split at h <;> first | exact h | (exfalso; ((try simp +decide only [b01, b10, b11, am_up, and_true, and_false, true_and, false_and, if_true, if_false, nn_eq] at *) <;> (try simp only [i32_lt, i32_le, i32_eq, i32_addw, i32_subw, i32_mulw, Int32.reduceToInt] at *) <;> omega))))
  · skip
    refine r_il1 (q := 5) d_CO_hasMethod_4 rfl ?_
    refine r_al0 (q := 6) d_CO_hasMethod_5 rfl ?_
    refine gt_CO_methodCount (q := 9) d_CO_hasMethod_6 rfl rfl ?_
    refine r_cge (tgt := 16) (q := 12) d_CO_hasMethod_9 rfl rfl (fun e9 => ?_) (fun e9 => ?_)
    · skip
      refine r_ic (v := 0) (q := 17) d_CO_hasMethod_16 rfl rfl ?_
      refine r_rz d_CO_hasMethod_17 (by first | assumption | omega | decide | ((try simp +decide only [b01, b10, b11, am_up, and_true, and_false, true_and, false_and, if_true, if_false, nn_eq] at *) <;> (try simp only [i32_lt, i32_le, i32_eq, i32_addw, i32_subw, i32_mulw, Int32.reduceToInt] at *) <;> omega)) ?_
      first | exact h | (split at h <;> first | exact h | (exfalso; ((try simp +decide only [b01, b10, b11, am_up, and_true, and_false, true_and, false_and, if_true, if_false, nn_eq] at *) <;> (try simp only [i32_lt, i32_le, i32_eq, i32_addw, i32_subw, i32_mulw, Int32.reduceToInt] at *) <;> omega)) | (split at h <;> first | exact h | (exfalso; ((try simp +decide only [b01, b10, b11, am_up, and_true, and_false, true_and, false_and, if_true, if_false, nn_eq] at *) <;> (try simp only [i32_lt, i32_le, i32_eq, i32_addw, i32_subw, i32_mulw, Int32.reduceToInt] at *) <;> omega))))
    · skip
      refine r_ic (v := 1) (q := 13) d_CO_hasMethod_12 rfl rfl ?_
      refine am_go (tgt := 17) d_CO_hasMethod_13 rfl ?_
      refine r_rz d_CO_hasMethod_17 (by first | assumption | omega | decide | ((try simp +decide only [b01, b10, b11, am_up, and_true, and_false, true_and, false_and, if_true, if_false, nn_eq] at *) <;> (try simp only [i32_lt, i32_le, i32_eq, i32_addw, i32_subw, i32_mulw, Int32.reduceToInt] at *) <;> omega)) ?_
      first | exact h | (split at h <;> first | exact h | (exfalso; ((try simp +decide only [b01, b10, b11, am_up, and_true, and_false, true_and, false_and, if_true, if_false, nn_eq] at *) <;> (try simp only [i32_lt, i32_le, i32_eq, i32_addw, i32_subw, i32_mulw, Int32.reduceToInt] at *) <;> omega)) | (split at h <;> first | exact h | (exfalso; ((try simp +decide only [b01, b10, b11, am_up, and_true, and_false, true_and, false_and, if_true, if_false, nn_eq] at *) <;> (try simp only [i32_lt, i32_le, i32_eq, i32_addw, i32_subw, i32_mulw, Int32.reduceToInt] at *) <;> omega))))

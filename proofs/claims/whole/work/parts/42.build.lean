/-! written by wip/whole/gen/walk.py out of 42.build.txt -/
theorem sp_MO_heap {x : Int32} {st : am_S} {f : Int32 → am_S → Prop} (c1 : 0 ≤ (st 606 0).toInt) (c2 : (st 606 0).toInt ≤ 120) (h1 : x = -1 → f (st 606 0) (am_up st 576 0 0)) (h2 : ¬ x = -1 ∧ 0 ≤ x ∧ x ≤ st 606 0 - 1 → f (st 2161 x.toNatClampNeg) (am_up st 576 0 0)) (h3 : ¬ x = -1 ∧ ¬ (0 ≤ x ∧ x ≤ st 606 0 - 1) → f 0 (am_up st 576 0 0)) : wp_MO_heap [.inr (.inl 128), .inl x] st (am_ki f) := by
  refine ⟨⟨rfl, Nat.le_of_ble_eq_true rfl⟩, ?_⟩
  refine r_al0 (q := 1) d_MO_heap_0 rfl ?_
  refine r_ic (v := 0) (q := 2) d_MO_heap_1 rfl rfl ?_
  refine pt_MO_thrown (q := 5) d_MO_heap_2 rfl rfl ?_
  refine r_il1 (q := 6) d_MO_heap_5 rfl ?_
  refine r_ic (v := -1) (q := 7) d_MO_heap_6 rfl rfl ?_
  refine r_cne (tgt := 17) (q := 10) d_MO_heap_7 rfl rfl (fun h7 => ?_) (fun h7 => ?_)
  · skip
    refine r_il1 (q := 18) d_MO_heap_17 rfl ?_
    refine r_ic (v := 0) (q := 19) d_MO_heap_18 rfl rfl ?_
    refine r_al0 (q := 20) d_MO_heap_19 rfl ?_
    refine gt_MO_taken (q := 23) d_MO_heap_20 rfl rfl ?_
    refine r_ic (v := 1) (q := 24) d_MO_heap_23 rfl rfl ?_
    refine r_isub (q := 25) d_MO_heap_24 rfl ?_
    refine r_si3 mo_MO_in d_MO_heap_25 rfl rfl (q := 28) rfl ?_
    refine sp_MO_in ?_
    refine r_zeq (tgt := 40) (q := 31) d_MO_heap_28 rfl rfl (fun h28 => ?_) (fun h28 => ?_)
    · skip
      refine r_ic (v := 0) (q := 41) d_MO_heap_40 rfl rfl ?_
      refine r_ri d_MO_heap_41 ?_
      first | (refine h1 ?_ <;> ((try simp +decide only [b01, b10, b11, am_up, and_true, and_false, true_and, false_and, if_true, if_false, nn_eq] at *) <;> (try simp only [i32_lt, i32_le, i32_eq, Int32.reduceToInt] at *) <;> (try simp (disch := (simp only [Int32.reduceToInt]; omega)) only [i32_add, i32_sub, Int32.reduceToInt] at *) <;> omega)) | (refine h2 ?_ <;> ((try simp +decide only [b01, b10, b11, am_up, and_true, and_false, true_and, false_and, if_true, if_false, nn_eq] at *) <;> (try simp only [i32_lt, i32_le, i32_eq, Int32.reduceToInt] at *) <;> (try simp (disch := (simp only [Int32.reduceToInt]; omega)) only [i32_add, i32_sub, Int32.reduceToInt] at *) <;> omega)) | (refine h3 ?_ <;> ((try simp +decide only [b01, b10, b11, am_up, and_true, and_false, true_and, false_and, if_true, if_false, nn_eq] at *) <;> (try simp only [i32_lt, i32_le, i32_eq, Int32.reduceToInt] at *) <;> (try simp (disch := (simp only [Int32.reduceToInt]; omega)) only [i32_add, i32_sub, Int32.reduceToInt] at *) <;> omega)) | (exfalso; ((try simp +decide only [b01, b10, b11, am_up, and_true, and_false, true_and, false_and, if_true, if_false, nn_eq] at *) <;> (try simp only [i32_lt, i32_le, i32_eq, Int32.reduceToInt] at *) <;> (try simp (disch := (simp only [Int32.reduceToInt]; omega)) only [i32_add, i32_sub, Int32.reduceToInt] at *) <;> omega))
    · skip
      refine r_al0 (q := 32) d_MO_heap_31 rfl ?_
      refine gt_MO_heap (q := 35) d_MO_heap_32 rfl rfl ?_
      refine r_il1 (q := 36) d_MO_heap_35 rfl ?_
      refine ld_161 (q := 37) d_MO_heap_36 ?_ rfl ?_
      · (refine vp_of ?_ ?_ <;> (((try simp +decide only [b01, b10, b11, am_up, and_true, and_false, true_and, false_and, if_true, if_false, nn_eq] at *) <;> (try simp only [i32_lt, i32_le, i32_eq, Int32.reduceToInt] at *) <;> (try simp (disch := (simp only [Int32.reduceToInt]; omega)) only [i32_add, i32_sub, Int32.reduceToInt] at *) <;> omega)))
      refine am_go (tgt := 41) d_MO_heap_37 rfl ?_
      refine r_ri d_MO_heap_41 ?_
      first | (refine h1 ?_ <;> ((try simp +decide only [b01, b10, b11, am_up, and_true, and_false, true_and, false_and, if_true, if_false, nn_eq] at *) <;> (try simp only [i32_lt, i32_le, i32_eq, Int32.reduceToInt] at *) <;> (try simp (disch := (simp only [Int32.reduceToInt]; omega)) only [i32_add, i32_sub, Int32.reduceToInt] at *) <;> omega)) | (refine h2 ?_ <;> ((try simp +decide only [b01, b10, b11, am_up, and_true, and_false, true_and, false_and, if_true, if_false, nn_eq] at *) <;> (try simp only [i32_lt, i32_le, i32_eq, Int32.reduceToInt] at *) <;> (try simp (disch := (simp only [Int32.reduceToInt]; omega)) only [i32_add, i32_sub, Int32.reduceToInt] at *) <;> omega)) | (refine h3 ?_ <;> ((try simp +decide only [b01, b10, b11, am_up, and_true, and_false, true_and, false_and, if_true, if_false, nn_eq] at *) <;> (try simp only [i32_lt, i32_le, i32_eq, Int32.reduceToInt] at *) <;> (try simp (disch := (simp only [Int32.reduceToInt]; omega)) only [i32_add, i32_sub, Int32.reduceToInt] at *) <;> omega)) | (exfalso; ((try simp +decide only [b01, b10, b11, am_up, and_true, and_false, true_and, false_and, if_true, if_false, nn_eq] at *) <;> (try simp only [i32_lt, i32_le, i32_eq, Int32.reduceToInt] at *) <;> (try simp (disch := (simp only [Int32.reduceToInt]; omega)) only [i32_add, i32_sub, Int32.reduceToInt] at *) <;> omega))
  · skip
    refine r_al0 (q := 11) d_MO_heap_10 rfl ?_
    refine gt_MO_taken (q := 14) d_MO_heap_11 rfl rfl ?_
    refine am_go (tgt := 41) d_MO_heap_14 rfl ?_
    refine r_ri d_MO_heap_41 ?_
    first | (refine h1 ?_ <;> ((try simp +decide only [b01, b10, b11, am_up, and_true, and_false, true_and, false_and, if_true, if_false, nn_eq] at *) <;> (try simp only [i32_lt, i32_le, i32_eq, Int32.reduceToInt] at *) <;> (try simp (disch := (simp only [Int32.reduceToInt]; omega)) only [i32_add, i32_sub, Int32.reduceToInt] at *) <;> omega)) | (refine h2 ?_ <;> ((try simp +decide only [b01, b10, b11, am_up, and_true, and_false, true_and, false_and, if_true, if_false, nn_eq] at *) <;> (try simp only [i32_lt, i32_le, i32_eq, Int32.reduceToInt] at *) <;> (try simp (disch := (simp only [Int32.reduceToInt]; omega)) only [i32_add, i32_sub, Int32.reduceToInt] at *) <;> omega)) | (refine h3 ?_ <;> ((try simp +decide only [b01, b10, b11, am_up, and_true, and_false, true_and, false_and, if_true, if_false, nn_eq] at *) <;> (try simp only [i32_lt, i32_le, i32_eq, Int32.reduceToInt] at *) <;> (try simp (disch := (simp only [Int32.reduceToInt]; omega)) only [i32_add, i32_sub, Int32.reduceToInt] at *) <;> omega)) | (exfalso; ((try simp +decide only [b01, b10, b11, am_up, and_true, and_false, true_and, false_and, if_true, if_false, nn_eq] at *) <;> (try simp only [i32_lt, i32_le, i32_eq, Int32.reduceToInt] at *) <;> (try simp (disch := (simp only [Int32.reduceToInt]; omega)) only [i32_add, i32_sub, Int32.reduceToInt] at *) <;> omega))
theorem sp_CO_addByte {x : Int32} {st : am_S} {f : Int32 → am_S → Prop} (c1 : 0 ≤ (st 322 0).toInt) (h1 : 200 ≤ st 322 0 → f 0 st) (h2 : st 322 0 < 200 → f 1 (am_up (am_up st 2129 (st 322 0).toNatClampNeg (x &&& 255)) 322 0 (st 322 0 + 1))) : wp_CO_addByte [.inr (.inl 124), .inl x] st (am_ki f) := by
  refine ⟨⟨rfl, Nat.le_of_ble_eq_true rfl⟩, ?_⟩
  refine r_al0 (q := 1) d_CO_addByte_0 rfl ?_
  refine gt_CO_byteCount (q := 4) d_CO_addByte_1 rfl rfl ?_
  refine r_sp (v := 200) (q := 7) d_CO_addByte_4 rfl rfl ?_
  refine r_clt (tgt := 12) (q := 10) d_CO_addByte_7 rfl rfl (fun h7 => ?_) (fun h7 => ?_)
  · skip
    refine r_al0 (q := 13) d_CO_addByte_12 rfl ?_
    refine gt_CO_bytes (q := 16) d_CO_addByte_13 rfl rfl ?_
    refine r_al0 (q := 17) d_CO_addByte_16 rfl ?_
    refine gt_CO_byteCount (q := 20) d_CO_addByte_17 rfl rfl ?_
    refine r_il1 (q := 21) d_CO_addByte_20 rfl ?_
    refine r_sp (v := 255) (q := 24) d_CO_addByte_21 rfl rfl ?_
    refine r_iand (q := 25) d_CO_addByte_24 rfl ?_
    refine sv_129 (q := 26) d_CO_addByte_25 ?_ rfl ?_
    · (refine vp_of ?_ ?_ <;> (((try simp +decide only [b01, b10, b11, am_up, and_true, and_false, true_and, false_and, if_true, if_false, nn_eq] at *) <;> (try simp only [i32_lt, i32_le, i32_eq, Int32.reduceToInt] at *) <;> (try simp (disch := (simp only [Int32.reduceToInt]; omega)) only [i32_add, i32_sub, Int32.reduceToInt] at *) <;> omega)))
    refine r_al0 (q := 27) d_CO_addByte_26 rfl ?_
    refine r_dupr (q := 28) d_CO_addByte_27 rfl ?_
    refine gt_CO_byteCount (q := 31) d_CO_addByte_28 rfl rfl ?_
    refine r_ic (v := 1) (q := 32) d_CO_addByte_31 rfl rfl ?_
    refine r_iadd (q := 33) d_CO_addByte_32 rfl ?_
    refine pt_CO_byteCount (q := 36) d_CO_addByte_33 rfl rfl ?_
    refine r_ic (v := 1) (q := 37) d_CO_addByte_36 rfl rfl ?_
    refine r_rz d_CO_addByte_37 (by first | assumption | omega | decide | ((try simp +decide only [b01, b10, b11, am_up, and_true, and_false, true_and, false_and, if_true, if_false, nn_eq] at *) <;> (try simp only [i32_lt, i32_le, i32_eq, Int32.reduceToInt] at *) <;> (try simp (disch := (simp only [Int32.reduceToInt]; omega)) only [i32_add, i32_sub, Int32.reduceToInt] at *) <;> omega)) ?_
    first | (refine h1 ?_ <;> ((try simp +decide only [b01, b10, b11, am_up, and_true, and_false, true_and, false_and, if_true, if_false, nn_eq] at *) <;> (try simp only [i32_lt, i32_le, i32_eq, Int32.reduceToInt] at *) <;> (try simp (disch := (simp only [Int32.reduceToInt]; omega)) only [i32_add, i32_sub, Int32.reduceToInt] at *) <;> omega)) | (refine h2 ?_ <;> ((try simp +decide only [b01, b10, b11, am_up, and_true, and_false, true_and, false_and, if_true, if_false, nn_eq] at *) <;> (try simp only [i32_lt, i32_le, i32_eq, Int32.reduceToInt] at *) <;> (try simp (disch := (simp only [Int32.reduceToInt]; omega)) only [i32_add, i32_sub, Int32.reduceToInt] at *) <;> omega)) | (exfalso; ((try simp +decide only [b01, b10, b11, am_up, and_true, and_false, true_and, false_and, if_true, if_false, nn_eq] at *) <;> (try simp only [i32_lt, i32_le, i32_eq, Int32.reduceToInt] at *) <;> (try simp (disch := (simp only [Int32.reduceToInt]; omega)) only [i32_add, i32_sub, Int32.reduceToInt] at *) <;> omega))
  · skip
    refine r_ic (v := 0) (q := 11) d_CO_addByte_10 rfl rfl ?_
    refine r_rz d_CO_addByte_11 (by first | assumption | omega | decide | ((try simp +decide only [b01, b10, b11, am_up, and_true, and_false, true_and, false_and, if_true, if_false, nn_eq] at *) <;> (try simp only [i32_lt, i32_le, i32_eq, Int32.reduceToInt] at *) <;> (try simp (disch := (simp only [Int32.reduceToInt]; omega)) only [i32_add, i32_sub, Int32.reduceToInt] at *) <;> omega)) ?_
    first | (refine h1 ?_ <;> ((try simp +decide only [b01, b10, b11, am_up, and_true, and_false, true_and, false_and, if_true, if_false, nn_eq] at *) <;> (try simp only [i32_lt, i32_le, i32_eq, Int32.reduceToInt] at *) <;> (try simp (disch := (simp only [Int32.reduceToInt]; omega)) only [i32_add, i32_sub, Int32.reduceToInt] at *) <;> omega)) | (refine h2 ?_ <;> ((try simp +decide only [b01, b10, b11, am_up, and_true, and_false, true_and, false_and, if_true, if_false, nn_eq] at *) <;> (try simp only [i32_lt, i32_le, i32_eq, Int32.reduceToInt] at *) <;> (try simp (disch := (simp only [Int32.reduceToInt]; omega)) only [i32_add, i32_sub, Int32.reduceToInt] at *) <;> omega)) | (exfalso; ((try simp +decide only [b01, b10, b11, am_up, and_true, and_false, true_and, false_and, if_true, if_false, nn_eq] at *) <;> (try simp only [i32_lt, i32_le, i32_eq, Int32.reduceToInt] at *) <;> (try simp (disch := (simp only [Int32.reduceToInt]; omega)) only [i32_add, i32_sub, Int32.reduceToInt] at *) <;> omega))
theorem sp_CO_methodsEnd {st : am_S} {f : Int32 → am_S → Prop} (c1 : 0 ≤ (st 323 0).toInt) (c2 : (st 323 0).toInt ≤ 8) (h1 : st 323 0 = 0 → f 0 st) (h2 : ¬ st 323 0 = 0 → f (st 67 (st 323 0 - 1).toNatClampNeg + st 68 (st 323 0 - 1).toNatClampNeg) st) : wp_CO_methodsEnd [.inr (.inl 124)] st (am_ki f) := by
  refine ⟨⟨rfl, Nat.le_of_ble_eq_true rfl⟩, ?_⟩
  refine r_al0 (q := 1) d_CO_methodsEnd_0 rfl ?_
  refine gt_CO_methodCount (q := 4) d_CO_methodsEnd_1 rfl rfl ?_
  refine r_zne (tgt := 11) (q := 7) d_CO_methodsEnd_4 rfl rfl (fun h4 => ?_) (fun h4 => ?_)
  · skip
    refine r_al0 (q := 12) d_CO_methodsEnd_11 rfl ?_
    refine gt_CO_methods (q := 15) d_CO_methodsEnd_12 rfl rfl ?_
    refine r_al0 (q := 16) d_CO_methodsEnd_15 rfl ?_
    refine gt_CO_methodCount (q := 19) d_CO_methodsEnd_16 rfl rfl ?_
    refine r_ic (v := 1) (q := 20) d_CO_methodsEnd_19 rfl rfl ?_
    refine r_isub (q := 21) d_CO_methodsEnd_20 rfl ?_
    refine ld_130 (q := 22) d_CO_methodsEnd_21 ?_ rfl ?_
    · (refine vp_of ?_ ?_ <;> (((try simp +decide only [b01, b10, b11, am_up, and_true, and_false, true_and, false_and, if_true, if_false, nn_eq] at *) <;> (try simp only [i32_lt, i32_le, i32_eq, Int32.reduceToInt] at *) <;> (try simp (disch := (simp only [Int32.reduceToInt]; omega)) only [i32_add, i32_sub, Int32.reduceToInt] at *) <;> omega)))
    refine r_vi0 mo_ME_end d_CO_methodsEnd_22 rfl (r_kM (by first | assumption | omega | decide | ((try simp +decide only [b01, b10, b11, am_up, and_true, and_false, true_and, false_and, if_true, if_false, nn_eq] at *) <;> (try simp only [i32_lt, i32_le, i32_eq, Int32.reduceToInt] at *) <;> (try simp (disch := (simp only [Int32.reduceToInt]; omega)) only [i32_add, i32_sub, Int32.reduceToInt] at *) <;> omega))) rfl (q := 25) rfl ?_
    refine sp_ME_end (by first | assumption | omega | decide | ((try simp +decide only [b01, b10, b11, am_up, and_true, and_false, true_and, false_and, if_true, if_false, nn_eq] at *) <;> (try simp only [i32_lt, i32_le, i32_eq, Int32.reduceToInt] at *) <;> (try simp (disch := (simp only [Int32.reduceToInt]; omega)) only [i32_add, i32_sub, Int32.reduceToInt] at *) <;> omega)) ?_
    refine r_ri d_CO_methodsEnd_25 ?_
    first | (refine h1 ?_ <;> ((try simp +decide only [b01, b10, b11, am_up, and_true, and_false, true_and, false_and, if_true, if_false, nn_eq] at *) <;> (try simp only [i32_lt, i32_le, i32_eq, Int32.reduceToInt] at *) <;> (try simp (disch := (simp only [Int32.reduceToInt]; omega)) only [i32_add, i32_sub, Int32.reduceToInt] at *) <;> omega)) | (refine h2 ?_ <;> ((try simp +decide only [b01, b10, b11, am_up, and_true, and_false, true_and, false_and, if_true, if_false, nn_eq] at *) <;> (try simp only [i32_lt, i32_le, i32_eq, Int32.reduceToInt] at *) <;> (try simp (disch := (simp only [Int32.reduceToInt]; omega)) only [i32_add, i32_sub, Int32.reduceToInt] at *) <;> omega)) | (exfalso; ((try simp +decide only [b01, b10, b11, am_up, and_true, and_false, true_and, false_and, if_true, if_false, nn_eq] at *) <;> (try simp only [i32_lt, i32_le, i32_eq, Int32.reduceToInt] at *) <;> (try simp (disch := (simp only [Int32.reduceToInt]; omega)) only [i32_add, i32_sub, Int32.reduceToInt] at *) <;> omega))
  · skip
    refine r_ic (v := 0) (q := 8) d_CO_methodsEnd_7 rfl rfl ?_
    refine am_go (tgt := 25) d_CO_methodsEnd_8 rfl ?_
    refine r_ri d_CO_methodsEnd_25 ?_
    first | (refine h1 ?_ <;> ((try simp +decide only [b01, b10, b11, am_up, and_true, and_false, true_and, false_and, if_true, if_false, nn_eq] at *) <;> (try simp only [i32_lt, i32_le, i32_eq, Int32.reduceToInt] at *) <;> (try simp (disch := (simp only [Int32.reduceToInt]; omega)) only [i32_add, i32_sub, Int32.reduceToInt] at *) <;> omega)) | (refine h2 ?_ <;> ((try simp +decide only [b01, b10, b11, am_up, and_true, and_false, true_and, false_and, if_true, if_false, nn_eq] at *) <;> (try simp only [i32_lt, i32_le, i32_eq, Int32.reduceToInt] at *) <;> (try simp (disch := (simp only [Int32.reduceToInt]; omega)) only [i32_add, i32_sub, Int32.reduceToInt] at *) <;> omega)) | (exfalso; ((try simp +decide only [b01, b10, b11, am_up, and_true, and_false, true_and, false_and, if_true, if_false, nn_eq] at *) <;> (try simp only [i32_lt, i32_le, i32_eq, Int32.reduceToInt] at *) <;> (try simp (disch := (simp only [Int32.reduceToInt]; omega)) only [i32_add, i32_sub, Int32.reduceToInt] at *) <;> omega))
theorem sp_FW_feed {x : Int32} {st : am_S} {f : Int32 → am_S → Prop} {g : Nat → am_S → Prop} (c1 : 0 ≤ (st 322 0).toInt) (h1 : ¬ st 262 0 = 0 ∨ 200 ≤ st 322 0 → g 2 st) (h2 : st 262 0 = 0 ∧ st 322 0 < 200 → f (st 322 0 + 1) (am_up (am_up st 2129 (st 322 0).toNatClampNeg (x &&& 255)) 322 0 (st 322 0 + 1))) : wp_FW_feed [.inr (.inl 123), .inl x] st (am_kt f g) := by
  refine ⟨⟨rfl, Nat.le_of_ble_eq_true rfl⟩, ?_⟩
  refine r_al0 (q := 1) d_FW_feed_0 rfl ?_
  refine gt_FW_verified (q := 4) d_FW_feed_1 rfl rfl ?_
  refine r_zne (tgt := 18) (q := 7) d_FW_feed_4 rfl rfl (fun h4 => ?_) (fun h4 => ?_)
  · skip
    refine r_tti d_FW_feed_18 d_FW_feed_21 d_FW_feed_22 d_FW_feed_25 rfl ?_
    first | (refine h1 ?_ <;> ((try simp +decide only [b01, b10, b11, am_up, and_true, and_false, true_and, false_and, if_true, if_false, nn_eq] at *) <;> (try simp only [i32_lt, i32_le, i32_eq, Int32.reduceToInt] at *) <;> (try simp (disch := (simp only [Int32.reduceToInt]; omega)) only [i32_add, i32_sub, Int32.reduceToInt] at *) <;> omega)) | (refine h2 ?_ <;> ((try simp +decide only [b01, b10, b11, am_up, and_true, and_false, true_and, false_and, if_true, if_false, nn_eq] at *) <;> (try simp only [i32_lt, i32_le, i32_eq, Int32.reduceToInt] at *) <;> (try simp (disch := (simp only [Int32.reduceToInt]; omega)) only [i32_add, i32_sub, Int32.reduceToInt] at *) <;> omega)) | (exfalso; ((try simp +decide only [b01, b10, b11, am_up, and_true, and_false, true_and, false_and, if_true, if_false, nn_eq] at *) <;> (try simp only [i32_lt, i32_le, i32_eq, Int32.reduceToInt] at *) <;> (try simp (disch := (simp only [Int32.reduceToInt]; omega)) only [i32_add, i32_sub, Int32.reduceToInt] at *) <;> omega))
  · skip
    refine r_al0 (q := 8) d_FW_feed_7 rfl ?_
    refine gt_FW_code (q := 11) d_FW_feed_8 rfl rfl ?_
    refine r_il1 (q := 12) d_FW_feed_11 rfl ?_
    refine r_vi1 mo_CO_addByte d_FW_feed_12 rfl rfl rfl (q := 15) rfl ?_
    refine sp_CO_addByte (by first | assumption | omega | decide | ((try simp +decide only [b01, b10, b11, am_up, and_true, and_false, true_and, false_and, if_true, if_false, nn_eq] at *) <;> (try simp only [i32_lt, i32_le, i32_eq, Int32.reduceToInt] at *) <;> (try simp (disch := (simp only [Int32.reduceToInt]; omega)) only [i32_add, i32_sub, Int32.reduceToInt] at *) <;> omega)) (fun h12 => ?_) (fun h12 => ?_)
    · skip
      refine r_zne (tgt := 26) (q := 18) d_FW_feed_15 rfl rfl (fun h15 => ?_) (fun h15 => ?_)
      · skip
        refine r_al0 (q := 27) d_FW_feed_26 rfl ?_
        refine gt_FW_code (q := 30) d_FW_feed_27 rfl rfl ?_
        refine gt_CO_byteCount (q := 33) d_FW_feed_30 rfl rfl ?_
        refine r_ti d_FW_feed_33 ?_
        first | (refine h1 ?_ <;> ((try simp +decide only [b01, b10, b11, am_up, and_true, and_false, true_and, false_and, if_true, if_false, nn_eq] at *) <;> (try simp only [i32_lt, i32_le, i32_eq, Int32.reduceToInt] at *) <;> (try simp (disch := (simp only [Int32.reduceToInt]; omega)) only [i32_add, i32_sub, Int32.reduceToInt] at *) <;> omega)) | (refine h2 ?_ <;> ((try simp +decide only [b01, b10, b11, am_up, and_true, and_false, true_and, false_and, if_true, if_false, nn_eq] at *) <;> (try simp only [i32_lt, i32_le, i32_eq, Int32.reduceToInt] at *) <;> (try simp (disch := (simp only [Int32.reduceToInt]; omega)) only [i32_add, i32_sub, Int32.reduceToInt] at *) <;> omega)) | (exfalso; ((try simp +decide only [b01, b10, b11, am_up, and_true, and_false, true_and, false_and, if_true, if_false, nn_eq] at *) <;> (try simp only [i32_lt, i32_le, i32_eq, Int32.reduceToInt] at *) <;> (try simp (disch := (simp only [Int32.reduceToInt]; omega)) only [i32_add, i32_sub, Int32.reduceToInt] at *) <;> omega))
      · skip
        refine r_tti d_FW_feed_18 d_FW_feed_21 d_FW_feed_22 d_FW_feed_25 rfl ?_
        first | (refine h1 ?_ <;> ((try simp +decide only [b01, b10, b11, am_up, and_true, and_false, true_and, false_and, if_true, if_false, nn_eq] at *) <;> (try simp only [i32_lt, i32_le, i32_eq, Int32.reduceToInt] at *) <;> (try simp (disch := (simp only [Int32.reduceToInt]; omega)) only [i32_add, i32_sub, Int32.reduceToInt] at *) <;> omega)) | (refine h2 ?_ <;> ((try simp +decide only [b01, b10, b11, am_up, and_true, and_false, true_and, false_and, if_true, if_false, nn_eq] at *) <;> (try simp only [i32_lt, i32_le, i32_eq, Int32.reduceToInt] at *) <;> (try simp (disch := (simp only [Int32.reduceToInt]; omega)) only [i32_add, i32_sub, Int32.reduceToInt] at *) <;> omega)) | (exfalso; ((try simp +decide only [b01, b10, b11, am_up, and_true, and_false, true_and, false_and, if_true, if_false, nn_eq] at *) <;> (try simp only [i32_lt, i32_le, i32_eq, Int32.reduceToInt] at *) <;> (try simp (disch := (simp only [Int32.reduceToInt]; omega)) only [i32_add, i32_sub, Int32.reduceToInt] at *) <;> omega))
    · skip
      refine r_zne (tgt := 26) (q := 18) d_FW_feed_15 rfl rfl (fun h15 => ?_) (fun h15 => ?_)
      · skip
        refine r_al0 (q := 27) d_FW_feed_26 rfl ?_
        refine gt_FW_code (q := 30) d_FW_feed_27 rfl rfl ?_
        refine gt_CO_byteCount (q := 33) d_FW_feed_30 rfl rfl ?_
        refine r_ti d_FW_feed_33 ?_
        first | (refine h1 ?_ <;> ((try simp +decide only [b01, b10, b11, am_up, and_true, and_false, true_and, false_and, if_true, if_false, nn_eq] at *) <;> (try simp only [i32_lt, i32_le, i32_eq, Int32.reduceToInt] at *) <;> (try simp (disch := (simp only [Int32.reduceToInt]; omega)) only [i32_add, i32_sub, Int32.reduceToInt] at *) <;> omega)) | (refine h2 ?_ <;> ((try simp +decide only [b01, b10, b11, am_up, and_true, and_false, true_and, false_and, if_true, if_false, nn_eq] at *) <;> (try simp only [i32_lt, i32_le, i32_eq, Int32.reduceToInt] at *) <;> (try simp (disch := (simp only [Int32.reduceToInt]; omega)) only [i32_add, i32_sub, Int32.reduceToInt] at *) <;> omega)) | (exfalso; ((try simp +decide only [b01, b10, b11, am_up, and_true, and_false, true_and, false_and, if_true, if_false, nn_eq] at *) <;> (try simp only [i32_lt, i32_le, i32_eq, Int32.reduceToInt] at *) <;> (try simp (disch := (simp only [Int32.reduceToInt]; omega)) only [i32_add, i32_sub, Int32.reduceToInt] at *) <;> omega))
      · skip
        refine r_tti d_FW_feed_18 d_FW_feed_21 d_FW_feed_22 d_FW_feed_25 rfl ?_
        first | (refine h1 ?_ <;> ((try simp +decide only [b01, b10, b11, am_up, and_true, and_false, true_and, false_and, if_true, if_false, nn_eq] at *) <;> (try simp only [i32_lt, i32_le, i32_eq, Int32.reduceToInt] at *) <;> (try simp (disch := (simp only [Int32.reduceToInt]; omega)) only [i32_add, i32_sub, Int32.reduceToInt] at *) <;> omega)) | (refine h2 ?_ <;> ((try simp +decide only [b01, b10, b11, am_up, and_true, and_false, true_and, false_and, if_true, if_false, nn_eq] at *) <;> (try simp only [i32_lt, i32_le, i32_eq, Int32.reduceToInt] at *) <;> (try simp (disch := (simp only [Int32.reduceToInt]; omega)) only [i32_add, i32_sub, Int32.reduceToInt] at *) <;> omega)) | (exfalso; ((try simp +decide only [b01, b10, b11, am_up, and_true, and_false, true_and, false_and, if_true, if_false, nn_eq] at *) <;> (try simp only [i32_lt, i32_le, i32_eq, Int32.reduceToInt] at *) <;> (try simp (disch := (simp only [Int32.reduceToInt]; omega)) only [i32_add, i32_sub, Int32.reduceToInt] at *) <;> omega))
theorem sp_MO_feed {x : Int32} {st : am_S} {f : Int32 → am_S → Prop} (c1 : 0 ≤ (st 577 0).toInt) (c2 : (st 577 0).toInt ≤ 200) (h1 : ¬ st 591 0 = 0 ∨ st 577 0 = 200 → f 0 (am_up st 576 0 1)) (h2 : st 591 0 = 0 ∧ ¬ st 577 0 = 200 → f (st 577 0 + 1) (am_up (am_up (am_up st 576 0 0) 2142 (st 577 0).toNatClampNeg (x &&& 255)) 577 0 (st 577 0 + 1))) : wp_MO_feed [.inr (.inl 128), .inl x] st (am_ki f) := by
  refine ⟨⟨rfl, Nat.le_of_ble_eq_true rfl⟩, ?_⟩
  refine r_al0 (q := 1) d_MO_feed_0 rfl ?_
  refine r_al0 (q := 2) d_MO_feed_1 rfl ?_
  refine gt_MO_bytes (q := 5) d_MO_feed_2 rfl rfl ?_
  refine r_sp (v := 200) (q := 8) d_MO_feed_5 rfl rfl ?_
  refine r_ceq (tgt := 18) (q := 11) d_MO_feed_8 rfl rfl (fun h8 => ?_) (fun h8 => ?_)
  · skip
    refine r_ic (v := 1) (q := 19) d_MO_feed_18 rfl rfl ?_
    refine am_go (tgt := 23) d_MO_feed_19 rfl ?_
    refine pt_MO_thrown (q := 26) d_MO_feed_23 rfl rfl ?_
    refine r_al0 (q := 27) d_MO_feed_26 rfl ?_
    refine gt_MO_thrown (q := 30) d_MO_feed_27 rfl rfl ?_
    refine r_zle (tgt := 35) (q := 33) d_MO_feed_30 rfl rfl (fun h30 => ?_) (fun h30 => ?_)
    · skip
      refine r_al0 (q := 36) d_MO_feed_35 rfl ?_
      refine gt_MO_code (q := 39) d_MO_feed_36 rfl rfl ?_
      refine r_al0 (q := 40) d_MO_feed_39 rfl ?_
      refine gt_MO_bytes (q := 43) d_MO_feed_40 rfl rfl ?_
      refine r_il1 (q := 44) d_MO_feed_43 rfl ?_
      refine r_sp (v := 255) (q := 47) d_MO_feed_44 rfl rfl ?_
      refine r_iand (q := 48) d_MO_feed_47 rfl ?_
      refine sv_142 (q := 49) d_MO_feed_48 ?_ rfl ?_
      · (refine vp_of ?_ ?_ <;> (((try simp +decide only [b01, b10, b11, am_up, and_true, and_false, true_and, false_and, if_true, if_false, nn_eq] at *) <;> (try simp only [i32_lt, i32_le, i32_eq, Int32.reduceToInt] at *) <;> (try simp (disch := (simp only [Int32.reduceToInt]; omega)) only [i32_add, i32_sub, Int32.reduceToInt] at *) <;> omega)))
      refine r_al0 (q := 50) d_MO_feed_49 rfl ?_
      refine r_dupr (q := 51) d_MO_feed_50 rfl ?_
      refine gt_MO_bytes (q := 54) d_MO_feed_51 rfl rfl ?_
      refine r_ic (v := 1) (q := 55) d_MO_feed_54 rfl rfl ?_
      refine r_iadd (q := 56) d_MO_feed_55 rfl ?_
      refine pt_MO_bytes (q := 59) d_MO_feed_56 rfl rfl ?_
      refine r_al0 (q := 60) d_MO_feed_59 rfl ?_
      refine gt_MO_bytes (q := 63) d_MO_feed_60 rfl rfl ?_
      refine r_ri d_MO_feed_63 ?_
      first | (refine h1 ?_ <;> ((try simp +decide only [b01, b10, b11, am_up, and_true, and_false, true_and, false_and, if_true, if_false, nn_eq] at *) <;> (try simp only [i32_lt, i32_le, i32_eq, Int32.reduceToInt] at *) <;> (try simp (disch := (simp only [Int32.reduceToInt]; omega)) only [i32_add, i32_sub, Int32.reduceToInt] at *) <;> omega)) | (refine h2 ?_ <;> ((try simp +decide only [b01, b10, b11, am_up, and_true, and_false, true_and, false_and, if_true, if_false, nn_eq] at *) <;> (try simp only [i32_lt, i32_le, i32_eq, Int32.reduceToInt] at *) <;> (try simp (disch := (simp only [Int32.reduceToInt]; omega)) only [i32_add, i32_sub, Int32.reduceToInt] at *) <;> omega)) | (exfalso; ((try simp +decide only [b01, b10, b11, am_up, and_true, and_false, true_and, false_and, if_true, if_false, nn_eq] at *) <;> (try simp only [i32_lt, i32_le, i32_eq, Int32.reduceToInt] at *) <;> (try simp (disch := (simp only [Int32.reduceToInt]; omega)) only [i32_add, i32_sub, Int32.reduceToInt] at *) <;> omega))
    · skip
      refine r_ic (v := 0) (q := 34) d_MO_feed_33 rfl rfl ?_
      refine r_ri d_MO_feed_34 ?_
      first | (refine h1 ?_ <;> ((try simp +decide only [b01, b10, b11, am_up, and_true, and_false, true_and, false_and, if_true, if_false, nn_eq] at *) <;> (try simp only [i32_lt, i32_le, i32_eq, Int32.reduceToInt] at *) <;> (try simp (disch := (simp only [Int32.reduceToInt]; omega)) only [i32_add, i32_sub, Int32.reduceToInt] at *) <;> omega)) | (refine h2 ?_ <;> ((try simp +decide only [b01, b10, b11, am_up, and_true, and_false, true_and, false_and, if_true, if_false, nn_eq] at *) <;> (try simp only [i32_lt, i32_le, i32_eq, Int32.reduceToInt] at *) <;> (try simp (disch := (simp only [Int32.reduceToInt]; omega)) only [i32_add, i32_sub, Int32.reduceToInt] at *) <;> omega)) | (exfalso; ((try simp +decide only [b01, b10, b11, am_up, and_true, and_false, true_and, false_and, if_true, if_false, nn_eq] at *) <;> (try simp only [i32_lt, i32_le, i32_eq, Int32.reduceToInt] at *) <;> (try simp (disch := (simp only [Int32.reduceToInt]; omega)) only [i32_add, i32_sub, Int32.reduceToInt] at *) <;> omega))
  · skip
    refine r_al0 (q := 12) d_MO_feed_11 rfl ?_
    refine gt_MO_verified (q := 15) d_MO_feed_12 rfl rfl ?_
    refine r_zeq (tgt := 22) (q := 18) d_MO_feed_15 rfl rfl (fun h15 => ?_) (fun h15 => ?_)
    · skip
      refine r_ic (v := 0) (q := 23) d_MO_feed_22 rfl rfl ?_
      refine pt_MO_thrown (q := 26) d_MO_feed_23 rfl rfl ?_
      refine r_al0 (q := 27) d_MO_feed_26 rfl ?_
      refine gt_MO_thrown (q := 30) d_MO_feed_27 rfl rfl ?_
      refine r_zle (tgt := 35) (q := 33) d_MO_feed_30 rfl rfl (fun h30 => ?_) (fun h30 => ?_)
      · skip
        refine r_al0 (q := 36) d_MO_feed_35 rfl ?_
        refine gt_MO_code (q := 39) d_MO_feed_36 rfl rfl ?_
        refine r_al0 (q := 40) d_MO_feed_39 rfl ?_
        refine gt_MO_bytes (q := 43) d_MO_feed_40 rfl rfl ?_
        refine r_il1 (q := 44) d_MO_feed_43 rfl ?_
        refine r_sp (v := 255) (q := 47) d_MO_feed_44 rfl rfl ?_
        refine r_iand (q := 48) d_MO_feed_47 rfl ?_
        refine sv_142 (q := 49) d_MO_feed_48 ?_ rfl ?_
        · (refine vp_of ?_ ?_ <;> (((try simp +decide only [b01, b10, b11, am_up, and_true, and_false, true_and, false_and, if_true, if_false, nn_eq] at *) <;> (try simp only [i32_lt, i32_le, i32_eq, Int32.reduceToInt] at *) <;> (try simp (disch := (simp only [Int32.reduceToInt]; omega)) only [i32_add, i32_sub, Int32.reduceToInt] at *) <;> omega)))
        refine r_al0 (q := 50) d_MO_feed_49 rfl ?_
        refine r_dupr (q := 51) d_MO_feed_50 rfl ?_
        refine gt_MO_bytes (q := 54) d_MO_feed_51 rfl rfl ?_
        refine r_ic (v := 1) (q := 55) d_MO_feed_54 rfl rfl ?_
        refine r_iadd (q := 56) d_MO_feed_55 rfl ?_
        refine pt_MO_bytes (q := 59) d_MO_feed_56 rfl rfl ?_
        refine r_al0 (q := 60) d_MO_feed_59 rfl ?_
        refine gt_MO_bytes (q := 63) d_MO_feed_60 rfl rfl ?_
        refine r_ri d_MO_feed_63 ?_
        first | (refine h1 ?_ <;> ((try simp +decide only [b01, b10, b11, am_up, and_true, and_false, true_and, false_and, if_true, if_false, nn_eq] at *) <;> (try simp only [i32_lt, i32_le, i32_eq, Int32.reduceToInt] at *) <;> (try simp (disch := (simp only [Int32.reduceToInt]; omega)) only [i32_add, i32_sub, Int32.reduceToInt] at *) <;> omega)) | (refine h2 ?_ <;> ((try simp +decide only [b01, b10, b11, am_up, and_true, and_false, true_and, false_and, if_true, if_false, nn_eq] at *) <;> (try simp only [i32_lt, i32_le, i32_eq, Int32.reduceToInt] at *) <;> (try simp (disch := (simp only [Int32.reduceToInt]; omega)) only [i32_add, i32_sub, Int32.reduceToInt] at *) <;> omega)) | (exfalso; ((try simp +decide only [b01, b10, b11, am_up, and_true, and_false, true_and, false_and, if_true, if_false, nn_eq] at *) <;> (try simp only [i32_lt, i32_le, i32_eq, Int32.reduceToInt] at *) <;> (try simp (disch := (simp only [Int32.reduceToInt]; omega)) only [i32_add, i32_sub, Int32.reduceToInt] at *) <;> omega))
      · skip
        refine r_ic (v := 0) (q := 34) d_MO_feed_33 rfl rfl ?_
        refine r_ri d_MO_feed_34 ?_
        first | (refine h1 ?_ <;> ((try simp +decide only [b01, b10, b11, am_up, and_true, and_false, true_and, false_and, if_true, if_false, nn_eq] at *) <;> (try simp only [i32_lt, i32_le, i32_eq, Int32.reduceToInt] at *) <;> (try simp (disch := (simp only [Int32.reduceToInt]; omega)) only [i32_add, i32_sub, Int32.reduceToInt] at *) <;> omega)) | (refine h2 ?_ <;> ((try simp +decide only [b01, b10, b11, am_up, and_true, and_false, true_and, false_and, if_true, if_false, nn_eq] at *) <;> (try simp only [i32_lt, i32_le, i32_eq, Int32.reduceToInt] at *) <;> (try simp (disch := (simp only [Int32.reduceToInt]; omega)) only [i32_add, i32_sub, Int32.reduceToInt] at *) <;> omega)) | (exfalso; ((try simp +decide only [b01, b10, b11, am_up, and_true, and_false, true_and, false_and, if_true, if_false, nn_eq] at *) <;> (try simp only [i32_lt, i32_le, i32_eq, Int32.reduceToInt] at *) <;> (try simp (disch := (simp only [Int32.reduceToInt]; omega)) only [i32_add, i32_sub, Int32.reduceToInt] at *) <;> omega))
    · skip
      refine r_ic (v := 1) (q := 19) d_MO_feed_18 rfl rfl ?_
      refine am_go (tgt := 23) d_MO_feed_19 rfl ?_
      refine pt_MO_thrown (q := 26) d_MO_feed_23 rfl rfl ?_
      refine r_al0 (q := 27) d_MO_feed_26 rfl ?_
      refine gt_MO_thrown (q := 30) d_MO_feed_27 rfl rfl ?_
      refine r_zle (tgt := 35) (q := 33) d_MO_feed_30 rfl rfl (fun h30 => ?_) (fun h30 => ?_)
      · skip
        refine r_al0 (q := 36) d_MO_feed_35 rfl ?_
        refine gt_MO_code (q := 39) d_MO_feed_36 rfl rfl ?_
        refine r_al0 (q := 40) d_MO_feed_39 rfl ?_
        refine gt_MO_bytes (q := 43) d_MO_feed_40 rfl rfl ?_
        refine r_il1 (q := 44) d_MO_feed_43 rfl ?_
        refine r_sp (v := 255) (q := 47) d_MO_feed_44 rfl rfl ?_
        refine r_iand (q := 48) d_MO_feed_47 rfl ?_
        refine sv_142 (q := 49) d_MO_feed_48 ?_ rfl ?_
        · (refine vp_of ?_ ?_ <;> (((try simp +decide only [b01, b10, b11, am_up, and_true, and_false, true_and, false_and, if_true, if_false, nn_eq] at *) <;> (try simp only [i32_lt, i32_le, i32_eq, Int32.reduceToInt] at *) <;> (try simp (disch := (simp only [Int32.reduceToInt]; omega)) only [i32_add, i32_sub, Int32.reduceToInt] at *) <;> omega)))
        refine r_al0 (q := 50) d_MO_feed_49 rfl ?_
        refine r_dupr (q := 51) d_MO_feed_50 rfl ?_
        refine gt_MO_bytes (q := 54) d_MO_feed_51 rfl rfl ?_
        refine r_ic (v := 1) (q := 55) d_MO_feed_54 rfl rfl ?_
        refine r_iadd (q := 56) d_MO_feed_55 rfl ?_
        refine pt_MO_bytes (q := 59) d_MO_feed_56 rfl rfl ?_
        refine r_al0 (q := 60) d_MO_feed_59 rfl ?_
        refine gt_MO_bytes (q := 63) d_MO_feed_60 rfl rfl ?_
        refine r_ri d_MO_feed_63 ?_
        first | (refine h1 ?_ <;> ((try simp +decide only [b01, b10, b11, am_up, and_true, and_false, true_and, false_and, if_true, if_false, nn_eq] at *) <;> (try simp only [i32_lt, i32_le, i32_eq, Int32.reduceToInt] at *) <;> (try simp (disch := (simp only [Int32.reduceToInt]; omega)) only [i32_add, i32_sub, Int32.reduceToInt] at *) <;> omega)) | (refine h2 ?_ <;> ((try simp +decide only [b01, b10, b11, am_up, and_true, and_false, true_and, false_and, if_true, if_false, nn_eq] at *) <;> (try simp only [i32_lt, i32_le, i32_eq, Int32.reduceToInt] at *) <;> (try simp (disch := (simp only [Int32.reduceToInt]; omega)) only [i32_add, i32_sub, Int32.reduceToInt] at *) <;> omega)) | (exfalso; ((try simp +decide only [b01, b10, b11, am_up, and_true, and_false, true_and, false_and, if_true, if_false, nn_eq] at *) <;> (try simp only [i32_lt, i32_le, i32_eq, Int32.reduceToInt] at *) <;> (try simp (disch := (simp only [Int32.reduceToInt]; omega)) only [i32_add, i32_sub, Int32.reduceToInt] at *) <;> omega))
      · skip
        refine r_ic (v := 0) (q := 34) d_MO_feed_33 rfl rfl ?_
        refine r_ri d_MO_feed_34 ?_
        first | (refine h1 ?_ <;> ((try simp +decide only [b01, b10, b11, am_up, and_true, and_false, true_and, false_and, if_true, if_false, nn_eq] at *) <;> (try simp only [i32_lt, i32_le, i32_eq, Int32.reduceToInt] at *) <;> (try simp (disch := (simp only [Int32.reduceToInt]; omega)) only [i32_add, i32_sub, Int32.reduceToInt] at *) <;> omega)) | (refine h2 ?_ <;> ((try simp +decide only [b01, b10, b11, am_up, and_true, and_false, true_and, false_and, if_true, if_false, nn_eq] at *) <;> (try simp only [i32_lt, i32_le, i32_eq, Int32.reduceToInt] at *) <;> (try simp (disch := (simp only [Int32.reduceToInt]; omega)) only [i32_add, i32_sub, Int32.reduceToInt] at *) <;> omega)) | (exfalso; ((try simp +decide only [b01, b10, b11, am_up, and_true, and_false, true_and, false_and, if_true, if_false, nn_eq] at *) <;> (try simp only [i32_lt, i32_le, i32_eq, Int32.reduceToInt] at *) <;> (try simp (disch := (simp only [Int32.reduceToInt]; omega)) only [i32_add, i32_sub, Int32.reduceToInt] at *) <;> omega))

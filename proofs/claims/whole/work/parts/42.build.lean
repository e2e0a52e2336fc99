/-! written by wip/whole/gen/walk.py out of 42.build.txt -/
theorem sp_MO_heap {x : Int32} {st : am_S} {f : Int32 → am_S → Prop} (c1 : 0 ≤ (st 606 0).toInt) (c2 : (st 606 0).toInt ≤ 120) (h1 : x = -1 → f (st 606 0) (am_up st 576 0 0)) (h2 : ¬ x = -1 ∧ 0 ≤ x ∧ x ≤ st 606 0 - 1 → f (st 2161 x.toNatClampNeg) (am_up st 576 0 0)) (h3 : ¬ x = -1 ∧ ¬ (0 ≤ x ∧ x ≤ st 606 0 - 1) → f 0 (am_up st 576 0 0)) : wp_MO_heap [.inr (.inl 128), .inl x] st (am_ki f) := by
  refine ⟨⟨rfl, Nat.le_of_ble_eq_true rfl⟩, ?_⟩
  refine r_al0 (q := 1) d_MO_heap_0 rfl ?_
  refine r_ic (v := 0) (q := 2) d_MO_heap_1 rfl rfl ?_
  refine pt_MO_thrown (q := 5) d_MO_heap_2 rfl rfl ?_
  refine r_il1 (q := 6) d_MO_heap_5 rfl ?_
  refine r_ic (v := -1) (q := 7) d_MO_heap_6 rfl rfl ?_
  refine r_cne (tgt := 17) (q := 10) d_MO_heap_7 rfl rfl (fun e7 => ?_) (fun e7 => ?_)
  · skip
    refine r_il1 (q := 18) d_MO_heap_17 rfl ?_
    refine r_ic (v := 0) (q := 19) d_MO_heap_18 rfl rfl ?_
    refine r_al0 (q := 20) d_MO_heap_19 rfl ?_
    refine gt_MO_taken (q := 23) d_MO_heap_20 rfl rfl ?_
    refine r_ic (v := 1) (q := 24) d_MO_heap_23 rfl rfl ?_
    refine r_isub (q := 25) d_MO_heap_24 rfl ?_
    refine r_si3 mo_MO_in d_MO_heap_25 rfl rfl (q := 28) rfl ?_
    refine sp_MO_in ?_
    refine r_zeq (tgt := 40) (q := 31) d_MO_heap_28 rfl rfl (fun e28 => ?_) (fun e28 => ?_)
    · skip
      refine r_ic (v := 0) (q := 41) d_MO_heap_40 rfl rfl ?_
      refine r_ri d_MO_heap_41 ?_
      first | (refine h1 ?_ <;> ((try simp +decide only [b01, b10, b11, am_up, and_true, and_false, true_and, false_and, if_true, if_false, nn_eq] at *) <;> (try simp only [i32_lt, i32_le, i32_eq, i32_addw, i32_subw, i32_mulw, Int32.reduceToInt] at *) <;> omega)) | (refine h2 ?_ <;> ((try simp +decide only [b01, b10, b11, am_up, and_true, and_false, true_and, false_and, if_true, if_false, nn_eq] at *) <;> (try simp only [i32_lt, i32_le, i32_eq, i32_addw, i32_subw, i32_mulw, Int32.reduceToInt] at *) <;> omega)) | (refine h3 ?_ <;> ((try simp +decide only [b01, b10, b11, am_up, and_true, and_false, true_and, false_and, if_true, if_false, nn_eq] at *) <;> (try simp only [i32_lt, i32_le, i32_eq, i32_addw, i32_subw, i32_mulw, Int32.reduceToInt] at *) <;> omega)) | (exfalso; ((try simp +decide only [b01, b10, b11, am_up, and_true, and_false, true_and, false_and, if_true, if_false, nn_eq] at *) <;> (try simp only [i32_lt, i32_le, i32_eq, i32_addw, i32_subw, i32_mulw, Int32.reduceToInt] at *) <;> omega))
    · skip
      refine r_al0 (q := 32) d_MO_heap_31 rfl ?_
      refine gt_MO_heap (q := 35) d_MO_heap_32 rfl rfl ?_
      refine r_il1 (q := 36) d_MO_heap_35 rfl ?_
      refine ld_161 (q := 37) d_MO_heap_36 ?_ rfl ?_
      · (refine vp_of ?_ ?_ <;> (((try simp +decide only [b01, b10, b11, am_up, and_true, and_false, true_and, false_and, if_true, if_false, nn_eq] at *) <;> (try simp only [i32_lt, i32_le, i32_eq, i32_addw, i32_subw, i32_mulw, Int32.reduceToInt] at *) <;> omega)))
      refine am_go (tgt := 41) d_MO_heap_37 rfl ?_
      refine r_ri d_MO_heap_41 ?_
      first | (refine h1 ?_ <;> ((try simp +decide only [b01, b10, b11, am_up, and_true, and_false, true_and, false_and, if_true, if_false, nn_eq] at *) <;> (try simp only [i32_lt, i32_le, i32_eq, i32_addw, i32_subw, i32_mulw, Int32.reduceToInt] at *) <;> omega)) | (refine h2 ?_ <;> ((try simp +decide only [b01, b10, b11, am_up, and_true, and_false, true_and, false_and, if_true, if_false, nn_eq] at *) <;> (try simp only [i32_lt, i32_le, i32_eq, i32_addw, i32_subw, i32_mulw, Int32.reduceToInt] at *) <;> omega)) | (refine h3 ?_ <;> ((try simp +decide only [b01, b10, b11, am_up, and_true, and_false, true_and, false_and, if_true, if_false, nn_eq] at *) <;> (try simp only [i32_lt, i32_le, i32_eq, i32_addw, i32_subw, i32_mulw, Int32.reduceToInt] at *) <;> omega)) | (exfalso; ((try simp +decide only [b01, b10, b11, am_up, and_true, and_false, true_and, false_and, if_true, if_false, nn_eq] at *) <;> (try simp only [i32_lt, i32_le, i32_eq, i32_addw, i32_subw, i32_mulw, Int32.reduceToInt] at *) <;> omega))
  · skip
    refine r_al0 (q := 11) d_MO_heap_10 rfl ?_
    refine gt_MO_taken (q := 14) d_MO_heap_11 rfl rfl ?_
    refine am_go (tgt := 41) d_MO_heap_14 rfl ?_
    refine r_ri d_MO_heap_41 ?_
    first | (refine h1 ?_ <;> ((try simp +decide only [b01, b10, b11, am_up, and_true, and_false, true_and, false_and, if_true, if_false, nn_eq] at *) <;> (try simp only [i32_lt, i32_le, i32_eq, i32_addw, i32_subw, i32_mulw, Int32.reduceToInt] at *) <;> omega)) | (refine h2 ?_ <;> ((try simp +decide only [b01, b10, b11, am_up, and_true, and_false, true_and, false_and, if_true, if_false, nn_eq] at *) <;> (try simp only [i32_lt, i32_le, i32_eq, i32_addw, i32_subw, i32_mulw, Int32.reduceToInt] at *) <;> omega)) | (refine h3 ?_ <;> ((try simp +decide only [b01, b10, b11, am_up, and_true, and_false, true_and, false_and, if_true, if_false, nn_eq] at *) <;> (try simp only [i32_lt, i32_le, i32_eq, i32_addw, i32_subw, i32_mulw, Int32.reduceToInt] at *) <;> omega)) | (exfalso; ((try simp +decide only [b01, b10, b11, am_up, and_true, and_false, true_and, false_and, if_true, if_false, nn_eq] at *) <;> (try simp only [i32_lt, i32_le, i32_eq, i32_addw, i32_subw, i32_mulw, Int32.reduceToInt] at *) <;> omega))
theorem sp_CO_addByte {x : Int32} {st : am_S} {f : Int32 → am_S → Prop} (c1 : 0 ≤ (st 322 0).toInt) (h1 : 200 ≤ st 322 0 → f 0 st) (h2 : st 322 0 < 200 → f 1 (am_up (am_up st 2129 (st 322 0).toNatClampNeg (x &&& 255)) 322 0 (st 322 0 + 1))) : wp_CO_addByte [.inr (.inl 124), .inl x] st (am_ki f) := by
  refine ⟨⟨rfl, Nat.le_of_ble_eq_true rfl⟩, ?_⟩
  refine r_al0 (q := 1) d_CO_addByte_0 rfl ?_
  refine gt_CO_byteCount (q := 4) d_CO_addByte_1 rfl rfl ?_
  refine r_sp (v := 200) (q := 7) d_CO_addByte_4 rfl rfl ?_
  refine r_clt (tgt := 12) (q := 10) d_CO_addByte_7 rfl rfl (fun e7 => ?_) (fun e7 => ?_)
  · skip
    refine r_al0 (q := 13) d_CO_addByte_12 rfl ?_
    refine gt_CO_bytes (q := 16) d_CO_addByte_13 rfl rfl ?_
    refine r_al0 (q := 17) d_CO_addByte_16 rfl ?_
    refine gt_CO_byteCount (q := 20) d_CO_addByte_17 rfl rfl ?_
    refine r_il1 (q := 21) d_CO_addByte_20 rfl ?_
    refine r_sp (v := 255) (q := 24) d_CO_addByte_21 rfl rfl ?_
    refine r_iand (q := 25) d_CO_addByte_24 rfl ?_
    refine sv_129 (q := 26) d_CO_addByte_25 ?_ rfl ?_
    · (refine vp_of ?_ ?_ <;> (((try simp +decide only [b01, b10, b11, am_up, and_true, and_false, true_and, false_and, if_true, if_false, nn_eq] at *) <;> (try simp only [i32_lt, i32_le, i32_eq, i32_addw, i32_subw, i32_mulw, Int32.reduceToInt] at *) <;> omega)))
    refine r_al0 (q := 27) d_CO_addByte_26 rfl ?_
    refine r_dupr (q := 28) d_CO_addByte_27 rfl ?_
    refine gt_CO_byteCount (q := 31) d_CO_addByte_28 rfl rfl ?_
    refine r_ic (v := 1) (q := 32) d_CO_addByte_31 rfl rfl ?_
    refine r_iadd (q := 33) d_CO_addByte_32 rfl ?_
    refine pt_CO_byteCount (q := 36) d_CO_addByte_33 rfl rfl ?_
    refine r_ic (v := 1) (q := 37) d_CO_addByte_36 rfl rfl ?_
    refine r_rz d_CO_addByte_37 (by first | assumption | omega | decide | ((try simp +decide only [b01, b10, b11, am_up, and_true, and_false, true_and, false_and, if_true, if_false, nn_eq] at *) <;> (try simp only [i32_lt, i32_le, i32_eq, i32_addw, i32_subw, i32_mulw, Int32.reduceToInt] at *) <;> omega)) ?_
    first | (refine h1 ?_ <;> ((try simp +decide only [b01, b10, b11, am_up, and_true, and_false, true_and, false_and, if_true, if_false, nn_eq] at *) <;> (try simp only [i32_lt, i32_le, i32_eq, i32_addw, i32_subw, i32_mulw, Int32.reduceToInt] at *) <;> omega)) | (refine h2 ?_ <;> ((try simp +decide only [b01, b10, b11, am_up, and_true, and_false, true_and, false_and, if_true, if_false, nn_eq] at *) <;> (try simp only [i32_lt, i32_le, i32_eq, i32_addw, i32_subw, i32_mulw, Int32.reduceToInt] at *) <;> omega)) | (exfalso; ((try simp +decide only [b01, b10, b11, am_up, and_true, and_false, true_and, false_and, if_true, if_false, nn_eq] at *) <;> (try simp only [i32_lt, i32_le, i32_eq, i32_addw, i32_subw, i32_mulw, Int32.reduceToInt] at *) <;> omega))
  · skip
    refine r_ic (v := 0) (q := 11) d_CO_addByte_10 rfl rfl ?_
    refine r_rz d_CO_addByte_11 (by first | assumption | omega | decide | ((try simp +decide only [b01, b10, b11, am_up, and_true, and_false, true_and, false_and, if_true, if_false, nn_eq] at *) <;> (try simp only [i32_lt, i32_le, i32_eq, i32_addw, i32_subw, i32_mulw, Int32.reduceToInt] at *) <;> omega)) ?_
    first | (refine h1 ?_ <;> ((try simp +decide only [b01, b10, b11, am_up, and_true, and_false, true_and, false_and, if_true, if_false, nn_eq] at *) <;> (try simp only [i32_lt, i32_le, i32_eq, i32_addw, i32_subw, i32_mulw, Int32.reduceToInt] at *) <;> omega)) | (refine h2 ?_ <;> ((try simp +decide only [b01, b10, b11, am_up, and_true, and_false, true_and, false_and, if_true, if_false, nn_eq] at *) <;> (try simp only [i32_lt, i32_le, i32_eq, i32_addw, i32_subw, i32_mulw, Int32.reduceToInt] at *) <;> omega)) | (exfalso; ((try simp +decide only [b01, b10, b11, am_up, and_true, and_false, true_and, false_and, if_true, if_false, nn_eq] at *) <;> (try simp only [i32_lt, i32_le, i32_eq, i32_addw, i32_subw, i32_mulw, Int32.reduceToInt] at *) <;> omega))
def cs_E (st : am_S) : Int32 := if st 323 0 = 0 then 0 else st 67 (st 323 0 - 1).toNatClampNeg + st 68 (st 323 0 - 1).toNatClampNeg
theorem sp_CO_methodsEnd {st : am_S} {f : Int32 → am_S → Prop} (c1 : 0 ≤ (st 323 0).toInt) (c2 : (st 323 0).toInt ≤ 8) (h : f (cs_E st) st) : wp_CO_methodsEnd [.inr (.inl 124)] st (am_ki f) := by
  refine ⟨⟨rfl, Nat.le_of_ble_eq_true rfl⟩, ?_⟩
  unfold cs_E at h
  refine r_al0 (q := 1) d_CO_methodsEnd_0 rfl ?_
  refine gt_CO_methodCount (q := 4) d_CO_methodsEnd_1 rfl rfl ?_
  refine r_zne (tgt := 11) (q := 7) d_CO_methodsEnd_4 rfl rfl (fun e4 => ?_) (fun e4 => ?_)
  · skip
    refine r_al0 (q := 12) d_CO_methodsEnd_11 rfl ?_
    refine gt_CO_methods (q := 15) d_CO_methodsEnd_12 rfl rfl ?_
    refine r_al0 (q := 16) d_CO_methodsEnd_15 rfl ?_
    refine gt_CO_methodCount (q := 19) d_CO_methodsEnd_16 rfl rfl ?_
    refine r_ic (v := 1) (q := 20) d_CO_methodsEnd_19 rfl rfl ?_
    refine r_isub (q := 21) d_CO_methodsEnd_20 rfl ?_
    refine ld_130 (q := 22) d_CO_methodsEnd_21 ?_ rfl ?_
    · (refine vp_of ?_ ?_ <;> (((try simp +decide only [b01, b10, b11, am_up, and_true, and_false, true_and, false_and, if_true, if_false, nn_eq] at *) <;> (try simp only [i32_lt, i32_le, i32_eq, i32_addw, i32_subw, i32_mulw, Int32.reduceToInt] at *) <;> omega)))
    refine r_vi0 mo_ME_end d_CO_methodsEnd_22 rfl (r_kM (by first | assumption | omega | decide | ((try simp +decide only [b01, b10, b11, am_up, and_true, and_false, true_and, false_and, if_true, if_false, nn_eq] at *) <;> (try simp only [i32_lt, i32_le, i32_eq, i32_addw, i32_subw, i32_mulw, Int32.reduceToInt] at *) <;> omega))) rfl (q := 25) rfl ?_
    refine sp_ME_end (by first | assumption | omega | decide | ((try simp +decide only [b01, b10, b11, am_up, and_true, and_false, true_and, false_and, if_true, if_false, nn_eq] at *) <;> (try simp only [i32_lt, i32_le, i32_eq, i32_addw, i32_subw, i32_mulw, Int32.reduceToInt] at *) <;> omega)) ?_
    refine r_ri d_CO_methodsEnd_25 ?_
    first | exact h | (split at h <;> first | exact h | (exfalso; ((try simp +decide only [b01, b10, b11, am_up, and_true, and_false, true_and, false_and, if_true, if_false, nn_eq] at *) <;> (try simp only [i32_lt, i32_le, i32_eq, i32_addw, i32_subw, i32_mulw, Int32.reduceToInt] at *) <;> omega)) | (split at h <;> first | exact h | (exfalso; ((try simp +decide only [b01, b10, b11, am_up, and_true, and_false, true_and, false_and, if_true, if_false, nn_eq] at *) <;> (try simp only [i32_lt, i32_le, i32_eq, i32_addw, i32_subw, i32_mulw, Int32.reduceToInt] at *) <;> omega))))
  · skip
    refine r_ic (v := 0) (q := 8) d_CO_methodsEnd_7 rfl rfl ?_
    refine am_go (tgt := 25) d_CO_methodsEnd_8 rfl ?_
    refine r_ri d_CO_methodsEnd_25 ?_
    first | exact h | (split at h <;> first | exact h | (exfalso; ((try simp +decide only [b01, b10, b11, am_up, and_true, and_false, true_and, false_and, if_true, if_false, nn_eq] at *) <;> (try simp only [i32_lt, i32_le, i32_eq, i32_addw, i32_subw, i32_mulw, Int32.reduceToInt] at *) <;> omega)) | (split at h <;> first | exact h | (exfalso; ((try simp +decide only [b01, b10, b11, am_up, and_true, and_false, true_and, false_and, if_true, if_false, nn_eq] at *) <;> (try simp only [i32_lt, i32_le, i32_eq, i32_addw, i32_subw, i32_mulw, Int32.reduceToInt] at *) <;> omega))))
theorem sp_CO_bytesLeft {st : am_S} {f : Int32 → am_S → Prop} (c1 : 0 ≤ (st 323 0).toInt) (c2 : (st 323 0).toInt ≤ 8) (h : f (st 322 0 - cs_E st) st) : wp_CO_bytesLeft [.inr (.inl 124)] st (am_ki f) := by
  refine ⟨⟨rfl, Nat.le_of_ble_eq_true rfl⟩, ?_⟩
  refine r_al0 (q := 1) d_CO_bytesLeft_0 rfl ?_
  refine gt_CO_byteCount (q := 4) d_CO_bytesLeft_1 rfl rfl ?_
  refine r_al0 (q := 5) d_CO_bytesLeft_4 rfl ?_
  refine r_vi0 mo_CO_methodsEnd d_CO_bytesLeft_5 rfl rfl rfl (q := 8) rfl ?_
  refine sp_CO_methodsEnd (by first | assumption | omega | decide | ((try simp +decide only [b01, b10, b11, am_up, and_true, and_false, true_and, false_and, if_true, if_false, nn_eq] at *) <;> (try simp only [i32_lt, i32_le, i32_eq, i32_addw, i32_subw, i32_mulw, Int32.reduceToInt] at *) <;> omega)) (by first | assumption | omega | decide | ((try simp +decide only [b01, b10, b11, am_up, and_true, and_false, true_and, false_and, if_true, if_false, nn_eq] at *) <;> (try simp only [i32_lt, i32_le, i32_eq, i32_addw, i32_subw, i32_mulw, Int32.reduceToInt] at *) <;> omega)) ?_
  refine r_isub (q := 9) d_CO_bytesLeft_8 rfl ?_
  refine r_ri d_CO_bytesLeft_9 ?_
  exact h
def cs_ad (st : am_S) (n : Nat) (E len a l h g : Int32) : am_S := am_up (am_up (am_up (am_up (am_up (am_up (am_up st 67 n E) 68 n len) 69 n a) 70 n l) 71 n h) 72 n g) 66 n 0
theorem sp_CO_addMethod {len a l hg g : Int32} {st : am_S} {f : Int32 → am_S → Prop} (c1 : 0 ≤ (st 323 0).toInt) (c2 : (st 323 0).toInt < 8) (c3 : g = 0 ∨ g = 1) (h : f (nI (st 323 0).toNatClampNeg) (am_up (cs_ad st (st 323 0).toNatClampNeg (cs_E st) len a l hg g) 323 0 (st 323 0 + 1))) : wp_CO_addMethod [.inr (.inl 124), .inl len, .inl a, .inl l, .inl hg, .inl g] st (am_ki f) := by
  refine ⟨⟨rfl, Nat.le_of_ble_eq_true rfl⟩, ?_⟩
  refine r_al0 (q := 1) d_CO_addMethod_0 rfl ?_
  refine gt_CO_methods (q := 4) d_CO_addMethod_1 rfl rfl ?_
  refine r_al0 (q := 5) d_CO_addMethod_4 rfl ?_
  refine gt_CO_methodCount (q := 8) d_CO_addMethod_5 rfl rfl ?_
  refine ld_130 (q := 9) d_CO_addMethod_8 ?_ rfl ?_
  · (refine vp_of ?_ ?_ <;> (((try simp +decide only [b01, b10, b11, am_up, and_true, and_false, true_and, false_and, if_true, if_false, nn_eq] at *) <;> (try simp only [i32_lt, i32_le, i32_eq, i32_addw, i32_subw, i32_mulw, Int32.reduceToInt] at *) <;> omega)))
  refine r_as6 (q := 11) d_CO_addMethod_9 rfl ?_
  refine r_al6 (q := 13) d_CO_addMethod_11 rfl ?_
  refine r_al0 (q := 14) d_CO_addMethod_13 rfl ?_
  refine r_vi0 mo_CO_methodsEnd d_CO_addMethod_14 rfl rfl rfl (q := 17) rfl ?_
  refine sp_CO_methodsEnd (by first | assumption | omega | decide | ((try simp +decide only [b01, b10, b11, am_up, and_true, and_false, true_and, false_and, if_true, if_false, nn_eq] at *) <;> (try simp only [i32_lt, i32_le, i32_eq, i32_addw, i32_subw, i32_mulw, Int32.reduceToInt] at *) <;> omega)) (by first | assumption | omega | decide | ((try simp +decide only [b01, b10, b11, am_up, and_true, and_false, true_and, false_and, if_true, if_false, nn_eq] at *) <;> (try simp only [i32_lt, i32_le, i32_eq, i32_addw, i32_subw, i32_mulw, Int32.reduceToInt] at *) <;> omega)) ?_
  refine pt_ME_first (q := 20) d_CO_addMethod_17 rfl (by first | assumption | omega | decide | ((try simp +decide only [b01, b10, b11, am_up, and_true, and_false, true_and, false_and, if_true, if_false, nn_eq] at *) <;> (try simp only [i32_lt, i32_le, i32_eq, i32_addw, i32_subw, i32_mulw, Int32.reduceToInt] at *) <;> omega)) rfl ?_
  refine r_al6 (q := 22) d_CO_addMethod_20 rfl ?_
  refine r_il1 (q := 23) d_CO_addMethod_22 rfl ?_
  refine pt_ME_length (q := 26) d_CO_addMethod_23 rfl (by first | assumption | omega | decide | ((try simp +decide only [b01, b10, b11, am_up, and_true, and_false, true_and, false_and, if_true, if_false, nn_eq] at *) <;> (try simp only [i32_lt, i32_le, i32_eq, i32_addw, i32_subw, i32_mulw, Int32.reduceToInt] at *) <;> omega)) rfl ?_
  refine r_al6 (q := 28) d_CO_addMethod_26 rfl ?_
  refine r_il2 (q := 29) d_CO_addMethod_28 rfl ?_
  refine pt_ME_arguments (q := 32) d_CO_addMethod_29 rfl (by first | assumption | omega | decide | ((try simp +decide only [b01, b10, b11, am_up, and_true, and_false, true_and, false_and, if_true, if_false, nn_eq] at *) <;> (try simp only [i32_lt, i32_le, i32_eq, i32_addw, i32_subw, i32_mulw, Int32.reduceToInt] at *) <;> omega)) rfl ?_
  refine r_al6 (q := 34) d_CO_addMethod_32 rfl ?_
  refine r_il3 (q := 35) d_CO_addMethod_34 rfl ?_
  refine pt_ME_locals (q := 38) d_CO_addMethod_35 rfl (by first | assumption | omega | decide | ((try simp +decide only [b01, b10, b11, am_up, and_true, and_false, true_and, false_and, if_true, if_false, nn_eq] at *) <;> (try simp only [i32_lt, i32_le, i32_eq, i32_addw, i32_subw, i32_mulw, Int32.reduceToInt] at *) <;> omega)) rfl ?_
  refine r_al6 (q := 40) d_CO_addMethod_38 rfl ?_
  refine r_il4 (q := 42) d_CO_addMethod_40 rfl ?_
  refine pt_ME_height (q := 45) d_CO_addMethod_42 rfl (by first | assumption | omega | decide | ((try simp +decide only [b01, b10, b11, am_up, and_true, and_false, true_and, false_and, if_true, if_false, nn_eq] at *) <;> (try simp only [i32_lt, i32_le, i32_eq, i32_addw, i32_subw, i32_mulw, Int32.reduceToInt] at *) <;> omega)) rfl ?_
  refine r_al6 (q := 47) d_CO_addMethod_45 rfl ?_
  refine r_il5 (q := 49) d_CO_addMethod_47 rfl ?_
  refine pt_ME_givesInt (q := 52) d_CO_addMethod_49 rfl (by first | assumption | omega | decide | ((try simp +decide only [b01, b10, b11, am_up, and_true, and_false, true_and, false_and, if_true, if_false, nn_eq] at *) <;> (try simp only [i32_lt, i32_le, i32_eq, i32_addw, i32_subw, i32_mulw, Int32.reduceToInt] at *) <;> omega)) (by first | assumption | omega | decide | ((try simp +decide only [b01, b10, b11, am_up, and_true, and_false, true_and, false_and, if_true, if_false, nn_eq] at *) <;> (try simp only [i32_lt, i32_le, i32_eq, i32_addw, i32_subw, i32_mulw, Int32.reduceToInt] at *) <;> omega)) rfl ?_
  refine r_al6 (q := 54) d_CO_addMethod_52 rfl ?_
  refine r_ic (v := 0) (q := 55) d_CO_addMethod_54 rfl rfl ?_
  refine pt_ME_handlerCount (q := 58) d_CO_addMethod_55 rfl (by first | assumption | omega | decide | ((try simp +decide only [b01, b10, b11, am_up, and_true, and_false, true_and, false_and, if_true, if_false, nn_eq] at *) <;> (try simp only [i32_lt, i32_le, i32_eq, i32_addw, i32_subw, i32_mulw, Int32.reduceToInt] at *) <;> omega)) rfl ?_
  refine r_al0 (q := 59) d_CO_addMethod_58 rfl ?_
  refine r_dupr (q := 60) d_CO_addMethod_59 rfl ?_
  refine gt_CO_methodCount (q := 63) d_CO_addMethod_60 rfl rfl ?_
  refine r_ic (v := 1) (q := 64) d_CO_addMethod_63 rfl rfl ?_
  refine r_iadd (q := 65) d_CO_addMethod_64 rfl ?_
  refine pt_CO_methodCount (q := 68) d_CO_addMethod_65 rfl rfl ?_
  refine r_al6 (q := 70) d_CO_addMethod_68 rfl ?_
  refine gt_ME_number (q := 73) d_CO_addMethod_70 rfl (by first | assumption | omega | decide | ((try simp +decide only [b01, b10, b11, am_up, and_true, and_false, true_and, false_and, if_true, if_false, nn_eq] at *) <;> (try simp only [i32_lt, i32_le, i32_eq, i32_addw, i32_subw, i32_mulw, Int32.reduceToInt] at *) <;> omega)) rfl ?_
  refine r_ri d_CO_addMethod_73 ?_
  exact h
def cs_nm (a l h : Int32) : Prop := 0 ≤ a ∧ a ≤ 4 ∧ a ≤ l ∧ l ≤ 8 ∧ 0 ≤ h ∧ h ≤ 8
theorem sp_FW_areMethodNumbers {a l hg : Int32} {st : am_S} {f : Int32 → am_S → Prop} (h1 : cs_nm a l hg → f 1 st) (h2 : ¬ cs_nm a l hg → f 0 st) : wp_FW_areMethodNumbers [.inl a, .inl l, .inl hg] st (am_ki f) := by
  refine ⟨⟨rfl, Nat.le_of_ble_eq_true rfl⟩, ?_⟩
  unfold cs_nm at h1 h2
  refine r_il0 (q := 1) d_FW_areMethodNumbers_0 rfl ?_
  refine r_zlt (tgt := 34) (q := 4) d_FW_areMethodNumbers_1 rfl rfl (fun e1 => ?_) (fun e1 => ?_)
  · skip
    refine r_ic (v := 0) (q := 35) d_FW_areMethodNumbers_34 rfl rfl ?_
    refine r_rz d_FW_areMethodNumbers_35 (by first | assumption | omega | decide | ((try simp +decide only [b01, b10, b11, am_up, and_true, and_false, true_and, false_and, if_true, if_false, nn_eq] at *) <;> (try simp only [i32_lt, i32_le, i32_eq, i32_addw, i32_subw, i32_mulw, Int32.reduceToInt] at *) <;> omega)) ?_
    first | (refine h1 ?_ <;> ((try simp +decide only [b01, b10, b11, am_up, and_true, and_false, true_and, false_and, if_true, if_false, nn_eq] at *) <;> (try simp only [i32_lt, i32_le, i32_eq, i32_addw, i32_subw, i32_mulw, Int32.reduceToInt] at *) <;> omega)) | (refine h2 ?_ <;> ((try simp +decide only [b01, b10, b11, am_up, and_true, and_false, true_and, false_and, if_true, if_false, nn_eq] at *) <;> (try simp only [i32_lt, i32_le, i32_eq, i32_addw, i32_subw, i32_mulw, Int32.reduceToInt] at *) <;> omega)) | (exfalso; ((try simp +decide only [b01, b10, b11, am_up, and_true, and_false, true_and, false_and, if_true, if_false, nn_eq] at *) <;> (try simp only [i32_lt, i32_le, i32_eq, i32_addw, i32_subw, i32_mulw, Int32.reduceToInt] at *) <;> omega))
  · skip
    refine r_il0 (q := 5) d_FW_areMethodNumbers_4 rfl ?_
    refine r_ic (v := 4) (q := 6) d_FW_areMethodNumbers_5 rfl rfl ?_
    refine r_cgt (tgt := 34) (q := 9) d_FW_areMethodNumbers_6 rfl rfl (fun e6 => ?_) (fun e6 => ?_)
    · skip
      refine r_ic (v := 0) (q := 35) d_FW_areMethodNumbers_34 rfl rfl ?_
      refine r_rz d_FW_areMethodNumbers_35 (by first | assumption | omega | decide | ((try simp +decide only [b01, b10, b11, am_up, and_true, and_false, true_and, false_and, if_true, if_false, nn_eq] at *) <;> (try simp only [i32_lt, i32_le, i32_eq, i32_addw, i32_subw, i32_mulw, Int32.reduceToInt] at *) <;> omega)) ?_
      first | (refine h1 ?_ <;> ((try simp +decide only [b01, b10, b11, am_up, and_true, and_false, true_and, false_and, if_true, if_false, nn_eq] at *) <;> (try simp only [i32_lt, i32_le, i32_eq, i32_addw, i32_subw, i32_mulw, Int32.reduceToInt] at *) <;> omega)) | (refine h2 ?_ <;> ((try simp +decide only [b01, b10, b11, am_up, and_true, and_false, true_and, false_and, if_true, if_false, nn_eq] at *) <;> (try simp only [i32_lt, i32_le, i32_eq, i32_addw, i32_subw, i32_mulw, Int32.reduceToInt] at *) <;> omega)) | (exfalso; ((try simp +decide only [b01, b10, b11, am_up, and_true, and_false, true_and, false_and, if_true, if_false, nn_eq] at *) <;> (try simp only [i32_lt, i32_le, i32_eq, i32_addw, i32_subw, i32_mulw, Int32.reduceToInt] at *) <;> omega))
    · skip
      refine r_il1 (q := 10) d_FW_areMethodNumbers_9 rfl ?_
      refine r_il0 (q := 11) d_FW_areMethodNumbers_10 rfl ?_
      refine r_clt (tgt := 34) (q := 14) d_FW_areMethodNumbers_11 rfl rfl (fun e11 => ?_) (fun e11 => ?_)
      · skip
        refine r_ic (v := 0) (q := 35) d_FW_areMethodNumbers_34 rfl rfl ?_
        refine r_rz d_FW_areMethodNumbers_35 (by first | assumption | omega | decide | ((try simp +decide only [b01, b10, b11, am_up, and_true, and_false, true_and, false_and, if_true, if_false, nn_eq] at *) <;> (try simp only [i32_lt, i32_le, i32_eq, i32_addw, i32_subw, i32_mulw, Int32.reduceToInt] at *) <;> omega)) ?_
        first | (refine h1 ?_ <;> ((try simp +decide only [b01, b10, b11, am_up, and_true, and_false, true_and, false_and, if_true, if_false, nn_eq] at *) <;> (try simp only [i32_lt, i32_le, i32_eq, i32_addw, i32_subw, i32_mulw, Int32.reduceToInt] at *) <;> omega)) | (refine h2 ?_ <;> ((try simp +decide only [b01, b10, b11, am_up, and_true, and_false, true_and, false_and, if_true, if_false, nn_eq] at *) <;> (try simp only [i32_lt, i32_le, i32_eq, i32_addw, i32_subw, i32_mulw, Int32.reduceToInt] at *) <;> omega)) | (exfalso; ((try simp +decide only [b01, b10, b11, am_up, and_true, and_false, true_and, false_and, if_true, if_false, nn_eq] at *) <;> (try simp only [i32_lt, i32_le, i32_eq, i32_addw, i32_subw, i32_mulw, Int32.reduceToInt] at *) <;> omega))
      · skip
        refine r_il1 (q := 15) d_FW_areMethodNumbers_14 rfl ?_
        refine r_bp (v := 8) (q := 17) d_FW_areMethodNumbers_15 rfl rfl ?_
        refine r_cgt (tgt := 34) (q := 20) d_FW_areMethodNumbers_17 rfl rfl (fun e17 => ?_) (fun e17 => ?_)
        · skip
          refine r_ic (v := 0) (q := 35) d_FW_areMethodNumbers_34 rfl rfl ?_
          refine r_rz d_FW_areMethodNumbers_35 (by first | assumption | omega | decide | ((try simp +decide only [b01, b10, b11, am_up, and_true, and_false, true_and, false_and, if_true, if_false, nn_eq] at *) <;> (try simp only [i32_lt, i32_le, i32_eq, i32_addw, i32_subw, i32_mulw, Int32.reduceToInt] at *) <;> omega)) ?_
          first | (refine h1 ?_ <;> ((try simp +decide only [b01, b10, b11, am_up, and_true, and_false, true_and, false_and, if_true, if_false, nn_eq] at *) <;> (try simp only [i32_lt, i32_le, i32_eq, i32_addw, i32_subw, i32_mulw, Int32.reduceToInt] at *) <;> omega)) | (refine h2 ?_ <;> ((try simp +decide only [b01, b10, b11, am_up, and_true, and_false, true_and, false_and, if_true, if_false, nn_eq] at *) <;> (try simp only [i32_lt, i32_le, i32_eq, i32_addw, i32_subw, i32_mulw, Int32.reduceToInt] at *) <;> omega)) | (exfalso; ((try simp +decide only [b01, b10, b11, am_up, and_true, and_false, true_and, false_and, if_true, if_false, nn_eq] at *) <;> (try simp only [i32_lt, i32_le, i32_eq, i32_addw, i32_subw, i32_mulw, Int32.reduceToInt] at *) <;> omega))
        · skip
          refine r_il2 (q := 21) d_FW_areMethodNumbers_20 rfl ?_
          refine r_zlt (tgt := 34) (q := 24) d_FW_areMethodNumbers_21 rfl rfl (fun e21 => ?_) (fun e21 => ?_)
          · skip
            refine r_ic (v := 0) (q := 35) d_FW_areMethodNumbers_34 rfl rfl ?_
            refine r_rz d_FW_areMethodNumbers_35 (by first | assumption | omega | decide | ((try simp +decide only [b01, b10, b11, am_up, and_true, and_false, true_and, false_and, if_true, if_false, nn_eq] at *) <;> (try simp only [i32_lt, i32_le, i32_eq, i32_addw, i32_subw, i32_mulw, Int32.reduceToInt] at *) <;> omega)) ?_
            first | (refine h1 ?_ <;> ((try simp +decide only [b01, b10, b11, am_up, and_true, and_false, true_and, false_and, if_true, if_false, nn_eq] at *) <;> (try simp only [i32_lt, i32_le, i32_eq, i32_addw, i32_subw, i32_mulw, Int32.reduceToInt] at *) <;> omega)) | (refine h2 ?_ <;> ((try simp +decide only [b01, b10, b11, am_up, and_true, and_false, true_and, false_and, if_true, if_false, nn_eq] at *) <;> (try simp only [i32_lt, i32_le, i32_eq, i32_addw, i32_subw, i32_mulw, Int32.reduceToInt] at *) <;> omega)) | (exfalso; ((try simp +decide only [b01, b10, b11, am_up, and_true, and_false, true_and, false_and, if_true, if_false, nn_eq] at *) <;> (try simp only [i32_lt, i32_le, i32_eq, i32_addw, i32_subw, i32_mulw, Int32.reduceToInt] at *) <;> omega))
          · skip
            refine r_il2 (q := 25) d_FW_areMethodNumbers_24 rfl ?_
            refine r_bp (v := 8) (q := 27) d_FW_areMethodNumbers_25 rfl rfl ?_
            refine r_cgt (tgt := 34) (q := 30) d_FW_areMethodNumbers_27 rfl rfl (fun e27 => ?_) (fun e27 => ?_)
            · skip
              refine r_ic (v := 0) (q := 35) d_FW_areMethodNumbers_34 rfl rfl ?_
              refine r_rz d_FW_areMethodNumbers_35 (by first | assumption | omega | decide | ((try simp +decide only [b01, b10, b11, am_up, and_true, and_false, true_and, false_and, if_true, if_false, nn_eq] at *) <;> (try simp only [i32_lt, i32_le, i32_eq, i32_addw, i32_subw, i32_mulw, Int32.reduceToInt] at *) <;> omega)) ?_
              first | (refine h1 ?_ <;> ((try simp +decide only [b01, b10, b11, am_up, and_true, and_false, true_and, false_and, if_true, if_false, nn_eq] at *) <;> (try simp only [i32_lt, i32_le, i32_eq, i32_addw, i32_subw, i32_mulw, Int32.reduceToInt] at *) <;> omega)) | (refine h2 ?_ <;> ((try simp +decide only [b01, b10, b11, am_up, and_true, and_false, true_and, false_and, if_true, if_false, nn_eq] at *) <;> (try simp only [i32_lt, i32_le, i32_eq, i32_addw, i32_subw, i32_mulw, Int32.reduceToInt] at *) <;> omega)) | (exfalso; ((try simp +decide only [b01, b10, b11, am_up, and_true, and_false, true_and, false_and, if_true, if_false, nn_eq] at *) <;> (try simp only [i32_lt, i32_le, i32_eq, i32_addw, i32_subw, i32_mulw, Int32.reduceToInt] at *) <;> omega))
            · skip
              refine r_ic (v := 1) (q := 31) d_FW_areMethodNumbers_30 rfl rfl ?_
              refine am_go (tgt := 35) d_FW_areMethodNumbers_31 rfl ?_
              refine r_rz d_FW_areMethodNumbers_35 (by first | assumption | omega | decide | ((try simp +decide only [b01, b10, b11, am_up, and_true, and_false, true_and, false_and, if_true, if_false, nn_eq] at *) <;> (try simp only [i32_lt, i32_le, i32_eq, i32_addw, i32_subw, i32_mulw, Int32.reduceToInt] at *) <;> omega)) ?_
              first | (refine h1 ?_ <;> ((try simp +decide only [b01, b10, b11, am_up, and_true, and_false, true_and, false_and, if_true, if_false, nn_eq] at *) <;> (try simp only [i32_lt, i32_le, i32_eq, i32_addw, i32_subw, i32_mulw, Int32.reduceToInt] at *) <;> omega)) | (refine h2 ?_ <;> ((try simp +decide only [b01, b10, b11, am_up, and_true, and_false, true_and, false_and, if_true, if_false, nn_eq] at *) <;> (try simp only [i32_lt, i32_le, i32_eq, i32_addw, i32_subw, i32_mulw, Int32.reduceToInt] at *) <;> omega)) | (exfalso; ((try simp +decide only [b01, b10, b11, am_up, and_true, and_false, true_and, false_and, if_true, if_false, nn_eq] at *) <;> (try simp only [i32_lt, i32_le, i32_eq, i32_addw, i32_subw, i32_mulw, Int32.reduceToInt] at *) <;> omega))
theorem sp_FW_method {len a l hg g : Int32} {st : am_S} {f : Int32 → am_S → Prop} {gg : Nat → am_S → Prop} (c1 : 0 ≤ (st 323 0).toInt) (c2 : (st 323 0).toInt ≤ 8) (c3 : g = 0 ∨ g = 1) (h1 : ¬ (cs_nm a l hg ∧ 1 ≤ len ∧ len ≤ st 322 0 - cs_E st) → gg 1 st) (h2 : (cs_nm a l hg ∧ 1 ≤ len ∧ len ≤ st 322 0 - cs_E st) ∧ (¬ st 262 0 = 0 ∨ 8 ≤ st 323 0) → gg 2 st) (h3 : (cs_nm a l hg ∧ 1 ≤ len ∧ len ≤ st 322 0 - cs_E st) ∧ st 262 0 = 0 ∧ st 323 0 < 8 → f (nI (st 323 0).toNatClampNeg) (am_up (cs_ad st (st 323 0).toNatClampNeg (cs_E st) len a l hg g) 323 0 (st 323 0 + 1))) : wp_FW_method [.inr (.inl 123), .inl len, .inl a, .inl l, .inl hg, .inl g] st (am_kt f gg) := by
  refine ⟨⟨rfl, Nat.le_of_ble_eq_true rfl⟩, ?_⟩
  unfold cs_nm at h1 h2 h3
  refine r_il2 (q := 1) d_FW_method_0 rfl ?_
  refine r_il3 (q := 2) d_FW_method_1 rfl ?_
  refine r_il4 (q := 4) d_FW_method_2 rfl ?_
  refine r_si3 mo_FW_areMethodNumbers d_FW_method_4 rfl rfl (q := 7) rfl ?_
  refine sp_FW_areMethodNumbers (fun e4 => ?_) (fun e4 => ?_)
  · skip
    refine r_zeq (tgt := 26) (q := 10) d_FW_method_7 rfl rfl (fun e7 => ?_) (fun e7 => ?_)
    · skip
      refine r_tti d_FW_method_26 d_FW_method_29 d_FW_method_30 d_FW_method_33 rfl ?_
      unfold cs_nm at *; first | (refine h1 ?_ <;> ((try simp +decide only [b01, b10, b11, am_up, and_true, and_false, true_and, false_and, if_true, if_false, nn_eq] at *) <;> (try simp only [i32_lt, i32_le, i32_eq, i32_addw, i32_subw, i32_mulw, Int32.reduceToInt] at *) <;> omega)) | (refine h2 ?_ <;> ((try simp +decide only [b01, b10, b11, am_up, and_true, and_false, true_and, false_and, if_true, if_false, nn_eq] at *) <;> (try simp only [i32_lt, i32_le, i32_eq, i32_addw, i32_subw, i32_mulw, Int32.reduceToInt] at *) <;> omega)) | (refine h3 ?_ <;> ((try simp +decide only [b01, b10, b11, am_up, and_true, and_false, true_and, false_and, if_true, if_false, nn_eq] at *) <;> (try simp only [i32_lt, i32_le, i32_eq, i32_addw, i32_subw, i32_mulw, Int32.reduceToInt] at *) <;> omega)) | (exfalso; ((try simp +decide only [b01, b10, b11, am_up, and_true, and_false, true_and, false_and, if_true, if_false, nn_eq] at *) <;> (try simp only [i32_lt, i32_le, i32_eq, i32_addw, i32_subw, i32_mulw, Int32.reduceToInt] at *) <;> omega))
    · skip
      refine r_il1 (q := 11) d_FW_method_10 rfl ?_
      refine r_ic (v := 1) (q := 12) d_FW_method_11 rfl rfl ?_
      refine r_clt (tgt := 26) (q := 15) d_FW_method_12 rfl rfl (fun e12 => ?_) (fun e12 => ?_)
      · skip
        refine r_tti d_FW_method_26 d_FW_method_29 d_FW_method_30 d_FW_method_33 rfl ?_
        unfold cs_nm at *; first | (refine h1 ?_ <;> ((try simp +decide only [b01, b10, b11, am_up, and_true, and_false, true_and, false_and, if_true, if_false, nn_eq] at *) <;> (try simp only [i32_lt, i32_le, i32_eq, i32_addw, i32_subw, i32_mulw, Int32.reduceToInt] at *) <;> omega)) | (refine h2 ?_ <;> ((try simp +decide only [b01, b10, b11, am_up, and_true, and_false, true_and, false_and, if_true, if_false, nn_eq] at *) <;> (try simp only [i32_lt, i32_le, i32_eq, i32_addw, i32_subw, i32_mulw, Int32.reduceToInt] at *) <;> omega)) | (refine h3 ?_ <;> ((try simp +decide only [b01, b10, b11, am_up, and_true, and_false, true_and, false_and, if_true, if_false, nn_eq] at *) <;> (try simp only [i32_lt, i32_le, i32_eq, i32_addw, i32_subw, i32_mulw, Int32.reduceToInt] at *) <;> omega)) | (exfalso; ((try simp +decide only [b01, b10, b11, am_up, and_true, and_false, true_and, false_and, if_true, if_false, nn_eq] at *) <;> (try simp only [i32_lt, i32_le, i32_eq, i32_addw, i32_subw, i32_mulw, Int32.reduceToInt] at *) <;> omega))
      · skip
        refine r_il1 (q := 16) d_FW_method_15 rfl ?_
        refine r_al0 (q := 17) d_FW_method_16 rfl ?_
        refine gt_FW_code (q := 20) d_FW_method_17 rfl rfl ?_
        refine r_vi0 mo_CO_bytesLeft d_FW_method_20 rfl rfl rfl (q := 23) rfl ?_
        refine sp_CO_bytesLeft (by first | assumption | omega | decide | ((try simp +decide only [b01, b10, b11, am_up, and_true, and_false, true_and, false_and, if_true, if_false, nn_eq] at *) <;> (try simp only [i32_lt, i32_le, i32_eq, i32_addw, i32_subw, i32_mulw, Int32.reduceToInt] at *) <;> omega)) (by first | assumption | omega | decide | ((try simp +decide only [b01, b10, b11, am_up, and_true, and_false, true_and, false_and, if_true, if_false, nn_eq] at *) <;> (try simp only [i32_lt, i32_le, i32_eq, i32_addw, i32_subw, i32_mulw, Int32.reduceToInt] at *) <;> omega)) ?_
        refine r_cle (tgt := 34) (q := 26) d_FW_method_23 rfl rfl (fun e23 => ?_) (fun e23 => ?_)
        · skip
          refine r_al0 (q := 35) d_FW_method_34 rfl ?_
          refine gt_FW_verified (q := 38) d_FW_method_35 rfl rfl ?_
          refine r_zne (tgt := 53) (q := 41) d_FW_method_38 rfl rfl (fun e38 => ?_) (fun e38 => ?_)
          · skip
            refine r_tti d_FW_method_53 d_FW_method_56 d_FW_method_57 d_FW_method_60 rfl ?_
            unfold cs_nm at *; first | (refine h1 ?_ <;> ((try simp +decide only [b01, b10, b11, am_up, and_true, and_false, true_and, false_and, if_true, if_false, nn_eq] at *) <;> (try simp only [i32_lt, i32_le, i32_eq, i32_addw, i32_subw, i32_mulw, Int32.reduceToInt] at *) <;> omega)) | (refine h2 ?_ <;> ((try simp +decide only [b01, b10, b11, am_up, and_true, and_false, true_and, false_and, if_true, if_false, nn_eq] at *) <;> (try simp only [i32_lt, i32_le, i32_eq, i32_addw, i32_subw, i32_mulw, Int32.reduceToInt] at *) <;> omega)) | (refine h3 ?_ <;> ((try simp +decide only [b01, b10, b11, am_up, and_true, and_false, true_and, false_and, if_true, if_false, nn_eq] at *) <;> (try simp only [i32_lt, i32_le, i32_eq, i32_addw, i32_subw, i32_mulw, Int32.reduceToInt] at *) <;> omega)) | (exfalso; ((try simp +decide only [b01, b10, b11, am_up, and_true, and_false, true_and, false_and, if_true, if_false, nn_eq] at *) <;> (try simp only [i32_lt, i32_le, i32_eq, i32_addw, i32_subw, i32_mulw, Int32.reduceToInt] at *) <;> omega))
          · skip
            refine r_al0 (q := 42) d_FW_method_41 rfl ?_
            refine gt_FW_code (q := 45) d_FW_method_42 rfl rfl ?_
            refine gt_CO_methodCount (q := 48) d_FW_method_45 rfl rfl ?_
            refine r_bp (v := 8) (q := 50) d_FW_method_48 rfl rfl ?_
            refine r_clt (tgt := 61) (q := 53) d_FW_method_50 rfl rfl (fun e50 => ?_) (fun e50 => ?_)
            · skip
              refine r_al0 (q := 62) d_FW_method_61 rfl ?_
              refine gt_FW_code (q := 65) d_FW_method_62 rfl rfl ?_
              refine r_il1 (q := 66) d_FW_method_65 rfl ?_
              refine r_il2 (q := 67) d_FW_method_66 rfl ?_
              refine r_il3 (q := 68) d_FW_method_67 rfl ?_
              refine r_il4 (q := 70) d_FW_method_68 rfl ?_
              refine r_il5 (q := 72) d_FW_method_70 rfl ?_
              refine r_vi5 mo_CO_addMethod d_FW_method_72 rfl rfl rfl (q := 75) rfl ?_
              refine sp_CO_addMethod (by first | assumption | omega | decide | ((try simp +decide only [b01, b10, b11, am_up, and_true, and_false, true_and, false_and, if_true, if_false, nn_eq] at *) <;> (try simp only [i32_lt, i32_le, i32_eq, i32_addw, i32_subw, i32_mulw, Int32.reduceToInt] at *) <;> omega)) (by first | assumption | omega | decide | ((try simp +decide only [b01, b10, b11, am_up, and_true, and_false, true_and, false_and, if_true, if_false, nn_eq] at *) <;> (try simp only [i32_lt, i32_le, i32_eq, i32_addw, i32_subw, i32_mulw, Int32.reduceToInt] at *) <;> omega)) (by first | assumption | omega | decide | ((try simp +decide only [b01, b10, b11, am_up, and_true, and_false, true_and, false_and, if_true, if_false, nn_eq] at *) <;> (try simp only [i32_lt, i32_le, i32_eq, i32_addw, i32_subw, i32_mulw, Int32.reduceToInt] at *) <;> omega)) ?_
              refine r_ti d_FW_method_75 ?_
              unfold cs_nm at *; first | (refine h1 ?_ <;> ((try simp +decide only [b01, b10, b11, am_up, and_true, and_false, true_and, false_and, if_true, if_false, nn_eq] at *) <;> (try simp only [i32_lt, i32_le, i32_eq, i32_addw, i32_subw, i32_mulw, Int32.reduceToInt] at *) <;> omega)) | (refine h2 ?_ <;> ((try simp +decide only [b01, b10, b11, am_up, and_true, and_false, true_and, false_and, if_true, if_false, nn_eq] at *) <;> (try simp only [i32_lt, i32_le, i32_eq, i32_addw, i32_subw, i32_mulw, Int32.reduceToInt] at *) <;> omega)) | (refine h3 ?_ <;> ((try simp +decide only [b01, b10, b11, am_up, and_true, and_false, true_and, false_and, if_true, if_false, nn_eq] at *) <;> (try simp only [i32_lt, i32_le, i32_eq, i32_addw, i32_subw, i32_mulw, Int32.reduceToInt] at *) <;> omega)) | (exfalso; ((try simp +decide only [b01, b10, b11, am_up, and_true, and_false, true_and, false_and, if_true, if_false, nn_eq] at *) <;> (try simp only [i32_lt, i32_le, i32_eq, i32_addw, i32_subw, i32_mulw, Int32.reduceToInt] at *) <;> omega))
            · skip
              refine r_tti d_FW_method_53 d_FW_method_56 d_FW_method_57 d_FW_method_60 rfl ?_
              unfold cs_nm at *; first | (refine h1 ?_ <;> ((try simp +decide only [b01, b10, b11, am_up, and_true, and_false, true_and, false_and, if_true, if_false, nn_eq] at *) <;> (try simp only [i32_lt, i32_le, i32_eq, i32_addw, i32_subw, i32_mulw, Int32.reduceToInt] at *) <;> omega)) | (refine h2 ?_ <;> ((try simp +decide only [b01, b10, b11, am_up, and_true, and_false, true_and, false_and, if_true, if_false, nn_eq] at *) <;> (try simp only [i32_lt, i32_le, i32_eq, i32_addw, i32_subw, i32_mulw, Int32.reduceToInt] at *) <;> omega)) | (refine h3 ?_ <;> ((try simp +decide only [b01, b10, b11, am_up, and_true, and_false, true_and, false_and, if_true, if_false, nn_eq] at *) <;> (try simp only [i32_lt, i32_le, i32_eq, i32_addw, i32_subw, i32_mulw, Int32.reduceToInt] at *) <;> omega)) | (exfalso; ((try simp +decide only [b01, b10, b11, am_up, and_true, and_false, true_and, false_and, if_true, if_false, nn_eq] at *) <;> (try simp only [i32_lt, i32_le, i32_eq, i32_addw, i32_subw, i32_mulw, Int32.reduceToInt] at *) <;> omega))
        · skip
          refine r_tti d_FW_method_26 d_FW_method_29 d_FW_method_30 d_FW_method_33 rfl ?_
          unfold cs_nm at *; first | (refine h1 ?_ <;> ((try simp +decide only [b01, b10, b11, am_up, and_true, and_false, true_and, false_and, if_true, if_false, nn_eq] at *) <;> (try simp only [i32_lt, i32_le, i32_eq, i32_addw, i32_subw, i32_mulw, Int32.reduceToInt] at *) <;> omega)) | (refine h2 ?_ <;> ((try simp +decide only [b01, b10, b11, am_up, and_true, and_false, true_and, false_and, if_true, if_false, nn_eq] at *) <;> (try simp only [i32_lt, i32_le, i32_eq, i32_addw, i32_subw, i32_mulw, Int32.reduceToInt] at *) <;> omega)) | (refine h3 ?_ <;> ((try simp +decide only [b01, b10, b11, am_up, and_true, and_false, true_and, false_and, if_true, if_false, nn_eq] at *) <;> (try simp only [i32_lt, i32_le, i32_eq, i32_addw, i32_subw, i32_mulw, Int32.reduceToInt] at *) <;> omega)) | (exfalso; ((try simp +decide only [b01, b10, b11, am_up, and_true, and_false, true_and, false_and, if_true, if_false, nn_eq] at *) <;> (try simp only [i32_lt, i32_le, i32_eq, i32_addw, i32_subw, i32_mulw, Int32.reduceToInt] at *) <;> omega))
  · skip
    refine r_zeq (tgt := 26) (q := 10) d_FW_method_7 rfl rfl (fun e7 => ?_) (fun e7 => ?_)
    · skip
      refine r_tti d_FW_method_26 d_FW_method_29 d_FW_method_30 d_FW_method_33 rfl ?_
      unfold cs_nm at *; first | (refine h1 ?_ <;> ((try simp +decide only [b01, b10, b11, am_up, and_true, and_false, true_and, false_and, if_true, if_false, nn_eq] at *) <;> (try simp only [i32_lt, i32_le, i32_eq, i32_addw, i32_subw, i32_mulw, Int32.reduceToInt] at *) <;> omega)) | (refine h2 ?_ <;> ((try simp +decide only [b01, b10, b11, am_up, and_true, and_false, true_and, false_and, if_true, if_false, nn_eq] at *) <;> (try simp only [i32_lt, i32_le, i32_eq, i32_addw, i32_subw, i32_mulw, Int32.reduceToInt] at *) <;> omega)) | (refine h3 ?_ <;> ((try simp +decide only [b01, b10, b11, am_up, and_true, and_false, true_and, false_and, if_true, if_false, nn_eq] at *) <;> (try simp only [i32_lt, i32_le, i32_eq, i32_addw, i32_subw, i32_mulw, Int32.reduceToInt] at *) <;> omega)) | (exfalso; ((try simp +decide only [b01, b10, b11, am_up, and_true, and_false, true_and, false_and, if_true, if_false, nn_eq] at *) <;> (try simp only [i32_lt, i32_le, i32_eq, i32_addw, i32_subw, i32_mulw, Int32.reduceToInt] at *) <;> omega))
    · skip
      refine r_il1 (q := 11) d_FW_method_10 rfl ?_
      refine r_ic (v := 1) (q := 12) d_FW_method_11 rfl rfl ?_
      refine r_clt (tgt := 26) (q := 15) d_FW_method_12 rfl rfl (fun e12 => ?_) (fun e12 => ?_)
      · skip
        refine r_tti d_FW_method_26 d_FW_method_29 d_FW_method_30 d_FW_method_33 rfl ?_
        unfold cs_nm at *; first | (refine h1 ?_ <;> ((try simp +decide only [b01, b10, b11, am_up, and_true, and_false, true_and, false_and, if_true, if_false, nn_eq] at *) <;> (try simp only [i32_lt, i32_le, i32_eq, i32_addw, i32_subw, i32_mulw, Int32.reduceToInt] at *) <;> omega)) | (refine h2 ?_ <;> ((try simp +decide only [b01, b10, b11, am_up, and_true, and_false, true_and, false_and, if_true, if_false, nn_eq] at *) <;> (try simp only [i32_lt, i32_le, i32_eq, i32_addw, i32_subw, i32_mulw, Int32.reduceToInt] at *) <;> omega)) | (refine h3 ?_ <;> ((try simp +decide only [b01, b10, b11, am_up, and_true, and_false, true_and, false_and, if_true, if_false, nn_eq] at *) <;> (try simp only [i32_lt, i32_le, i32_eq, i32_addw, i32_subw, i32_mulw, Int32.reduceToInt] at *) <;> omega)) | (exfalso; ((try simp +decide only [b01, b10, b11, am_up, and_true, and_false, true_and, false_and, if_true, if_false, nn_eq] at *) <;> (try simp only [i32_lt, i32_le, i32_eq, i32_addw, i32_subw, i32_mulw, Int32.reduceToInt] at *) <;> omega))
      · skip
        refine r_il1 (q := 16) d_FW_method_15 rfl ?_
        refine r_al0 (q := 17) d_FW_method_16 rfl ?_
        refine gt_FW_code (q := 20) d_FW_method_17 rfl rfl ?_
        refine r_vi0 mo_CO_bytesLeft d_FW_method_20 rfl rfl rfl (q := 23) rfl ?_
        refine sp_CO_bytesLeft (by first | assumption | omega | decide | ((try simp +decide only [b01, b10, b11, am_up, and_true, and_false, true_and, false_and, if_true, if_false, nn_eq] at *) <;> (try simp only [i32_lt, i32_le, i32_eq, i32_addw, i32_subw, i32_mulw, Int32.reduceToInt] at *) <;> omega)) (by first | assumption | omega | decide | ((try simp +decide only [b01, b10, b11, am_up, and_true, and_false, true_and, false_and, if_true, if_false, nn_eq] at *) <;> (try simp only [i32_lt, i32_le, i32_eq, i32_addw, i32_subw, i32_mulw, Int32.reduceToInt] at *) <;> omega)) ?_
        refine r_cle (tgt := 34) (q := 26) d_FW_method_23 rfl rfl (fun e23 => ?_) (fun e23 => ?_)
        · skip
          refine r_al0 (q := 35) d_FW_method_34 rfl ?_
          refine gt_FW_verified (q := 38) d_FW_method_35 rfl rfl ?_
          refine r_zne (tgt := 53) (q := 41) d_FW_method_38 rfl rfl (fun e38 => ?_) (fun e38 => ?_)
          · skip
            refine r_tti d_FW_method_53 d_FW_method_56 d_FW_method_57 d_FW_method_60 rfl ?_
            unfold cs_nm at *; first | (refine h1 ?_ <;> ((try simp +decide only [b01, b10, b11, am_up, and_true, and_false, true_and, false_and, if_true, if_false, nn_eq] at *) <;> (try simp only [i32_lt, i32_le, i32_eq, i32_addw, i32_subw, i32_mulw, Int32.reduceToInt] at *) <;> omega)) | (refine h2 ?_ <;> ((try simp +decide only [b01, b10, b11, am_up, and_true, and_false, true_and, false_and, if_true, if_false, nn_eq] at *) <;> (try simp only [i32_lt, i32_le, i32_eq, i32_addw, i32_subw, i32_mulw, Int32.reduceToInt] at *) <;> omega)) | (refine h3 ?_ <;> ((try simp +decide only [b01, b10, b11, am_up, and_true, and_false, true_and, false_and, if_true, if_false, nn_eq] at *) <;> (try simp only [i32_lt, i32_le, i32_eq, i32_addw, i32_subw, i32_mulw, Int32.reduceToInt] at *) <;> omega)) | (exfalso; ((try simp +decide only [b01, b10, b11, am_up, and_true, and_false, true_and, false_and, if_true, if_false, nn_eq] at *) <;> (try simp only [i32_lt, i32_le, i32_eq, i32_addw, i32_subw, i32_mulw, Int32.reduceToInt] at *) <;> omega))
          · skip
            refine r_al0 (q := 42) d_FW_method_41 rfl ?_
            refine gt_FW_code (q := 45) d_FW_method_42 rfl rfl ?_
            refine gt_CO_methodCount (q := 48) d_FW_method_45 rfl rfl ?_
            refine r_bp (v := 8) (q := 50) d_FW_method_48 rfl rfl ?_
            refine r_clt (tgt := 61) (q := 53) d_FW_method_50 rfl rfl (fun e50 => ?_) (fun e50 => ?_)
            · skip
              refine r_al0 (q := 62) d_FW_method_61 rfl ?_
              refine gt_FW_code (q := 65) d_FW_method_62 rfl rfl ?_
              refine r_il1 (q := 66) d_FW_method_65 rfl ?_
              refine r_il2 (q := 67) d_FW_method_66 rfl ?_
              refine r_il3 (q := 68) d_FW_method_67 rfl ?_
              refine r_il4 (q := 70) d_FW_method_68 rfl ?_
              refine r_il5 (q := 72) d_FW_method_70 rfl ?_
              refine r_vi5 mo_CO_addMethod d_FW_method_72 rfl rfl rfl (q := 75) rfl ?_
              refine sp_CO_addMethod (by first | assumption | omega | decide | ((try simp +decide only [b01, b10, b11, am_up, and_true, and_false, true_and, false_and, if_true, if_false, nn_eq] at *) <;> (try simp only [i32_lt, i32_le, i32_eq, i32_addw, i32_subw, i32_mulw, Int32.reduceToInt] at *) <;> omega)) (by first | assumption | omega | decide | ((try simp +decide only [b01, b10, b11, am_up, and_true, and_false, true_and, false_and, if_true, if_false, nn_eq] at *) <;> (try simp only [i32_lt, i32_le, i32_eq, i32_addw, i32_subw, i32_mulw, Int32.reduceToInt] at *) <;> omega)) (by first | assumption | omega | decide | ((try simp +decide only [b01, b10, b11, am_up, and_true, and_false, true_and, false_and, if_true, if_false, nn_eq] at *) <;> (try simp only [i32_lt, i32_le, i32_eq, i32_addw, i32_subw, i32_mulw, Int32.reduceToInt] at *) <;> omega)) ?_
              refine r_ti d_FW_method_75 ?_
              unfold cs_nm at *; first | (refine h1 ?_ <;> ((try simp +decide only [b01, b10, b11, am_up, and_true, and_false, true_and, false_and, if_true, if_false, nn_eq] at *) <;> (try simp only [i32_lt, i32_le, i32_eq, i32_addw, i32_subw, i32_mulw, Int32.reduceToInt] at *) <;> omega)) | (refine h2 ?_ <;> ((try simp +decide only [b01, b10, b11, am_up, and_true, and_false, true_and, false_and, if_true, if_false, nn_eq] at *) <;> (try simp only [i32_lt, i32_le, i32_eq, i32_addw, i32_subw, i32_mulw, Int32.reduceToInt] at *) <;> omega)) | (refine h3 ?_ <;> ((try simp +decide only [b01, b10, b11, am_up, and_true, and_false, true_and, false_and, if_true, if_false, nn_eq] at *) <;> (try simp only [i32_lt, i32_le, i32_eq, i32_addw, i32_subw, i32_mulw, Int32.reduceToInt] at *) <;> omega)) | (exfalso; ((try simp +decide only [b01, b10, b11, am_up, and_true, and_false, true_and, false_and, if_true, if_false, nn_eq] at *) <;> (try simp only [i32_lt, i32_le, i32_eq, i32_addw, i32_subw, i32_mulw, Int32.reduceToInt] at *) <;> omega))
            · skip
              refine r_tti d_FW_method_53 d_FW_method_56 d_FW_method_57 d_FW_method_60 rfl ?_
              unfold cs_nm at *; first | (refine h1 ?_ <;> ((try simp +decide only [b01, b10, b11, am_up, and_true, and_false, true_and, false_and, if_true, if_false, nn_eq] at *) <;> (try simp only [i32_lt, i32_le, i32_eq, i32_addw, i32_subw, i32_mulw, Int32.reduceToInt] at *) <;> omega)) | (refine h2 ?_ <;> ((try simp +decide only [b01, b10, b11, am_up, and_true, and_false, true_and, false_and, if_true, if_false, nn_eq] at *) <;> (try simp only [i32_lt, i32_le, i32_eq, i32_addw, i32_subw, i32_mulw, Int32.reduceToInt] at *) <;> omega)) | (refine h3 ?_ <;> ((try simp +decide only [b01, b10, b11, am_up, and_true, and_false, true_and, false_and, if_true, if_false, nn_eq] at *) <;> (try simp only [i32_lt, i32_le, i32_eq, i32_addw, i32_subw, i32_mulw, Int32.reduceToInt] at *) <;> omega)) | (exfalso; ((try simp +decide only [b01, b10, b11, am_up, and_true, and_false, true_and, false_and, if_true, if_false, nn_eq] at *) <;> (try simp only [i32_lt, i32_le, i32_eq, i32_addw, i32_subw, i32_mulw, Int32.reduceToInt] at *) <;> omega))
        · skip
          refine r_tti d_FW_method_26 d_FW_method_29 d_FW_method_30 d_FW_method_33 rfl ?_
          unfold cs_nm at *; first | (refine h1 ?_ <;> ((try simp +decide only [b01, b10, b11, am_up, and_true, and_false, true_and, false_and, if_true, if_false, nn_eq] at *) <;> (try simp only [i32_lt, i32_le, i32_eq, i32_addw, i32_subw, i32_mulw, Int32.reduceToInt] at *) <;> omega)) | (refine h2 ?_ <;> ((try simp +decide only [b01, b10, b11, am_up, and_true, and_false, true_and, false_and, if_true, if_false, nn_eq] at *) <;> (try simp only [i32_lt, i32_le, i32_eq, i32_addw, i32_subw, i32_mulw, Int32.reduceToInt] at *) <;> omega)) | (refine h3 ?_ <;> ((try simp +decide only [b01, b10, b11, am_up, and_true, and_false, true_and, false_and, if_true, if_false, nn_eq] at *) <;> (try simp only [i32_lt, i32_le, i32_eq, i32_addw, i32_subw, i32_mulw, Int32.reduceToInt] at *) <;> omega)) | (exfalso; ((try simp +decide only [b01, b10, b11, am_up, and_true, and_false, true_and, false_and, if_true, if_false, nn_eq] at *) <;> (try simp only [i32_lt, i32_le, i32_eq, i32_addw, i32_subw, i32_mulw, Int32.reduceToInt] at *) <;> omega))
theorem sp_MO_method {len a l hg g : Int32} {st : am_S} {f : Int32 → am_S → Prop} (c1 : 0 ≤ (st 579 0).toInt) (c2 : (st 579 0).toInt ≤ 8) (c3 : g = 0 ∨ g = 1) (h1 : ¬ (cs_nm a l hg ∧ 1 ≤ len ∧ len ≤ st 577 0 - st 2143 (st 579 0).toNatClampNeg) → f 0 (am_up st 576 0 1)) (h2 : (cs_nm a l hg ∧ 1 ≤ len ∧ len ≤ st 577 0 - st 2143 (st 579 0).toNatClampNeg) ∧ (¬ st 591 0 = 0 ∨ st 579 0 = 8) → f 0 (am_up st 576 0 2)) (h3 : (cs_nm a l hg ∧ 1 ≤ len ∧ len ≤ st 577 0 - st 2143 (st 579 0).toNatClampNeg) ∧ st 591 0 = 0 ∧ ¬ st 579 0 = 8 → f (st 579 0) (am_up (am_up (am_up (am_up (am_up (am_up (am_up (am_up (am_up st 576 0 0) 2144 (st 579 0).toNatClampNeg len) 2145 (st 579 0).toNatClampNeg a) 2146 (st 579 0).toNatClampNeg l) 2147 (st 579 0).toNatClampNeg hg) 2148 (st 579 0).toNatClampNeg g) 2149 (st 579 0).toNatClampNeg 0) 2143 (st 579 0 + 1).toNatClampNeg (st 2143 (st 579 0).toNatClampNeg + len)) 579 0 (st 579 0 + 1))) : wp_MO_method [.inr (.inl 128), .inl len, .inl a, .inl l, .inl hg, .inl g] st (am_ki f) := by
  refine ⟨⟨rfl, Nat.le_of_ble_eq_true rfl⟩, ?_⟩
  unfold cs_nm at h1 h2 h3
  refine r_il2 (q := 1) d_MO_method_0 rfl ?_
  refine r_ic (v := 0) (q := 2) d_MO_method_1 rfl rfl ?_
  refine r_ic (v := 4) (q := 3) d_MO_method_2 rfl rfl ?_
  refine r_si3 mo_MO_in d_MO_method_3 rfl rfl (q := 6) rfl ?_
  refine sp_MO_in ?_
  refine r_zeq (tgt := 56) (q := 9) d_MO_method_6 rfl rfl (fun e6 => ?_) (fun e6 => ?_)
  · skip
    refine r_ic (v := 0) (q := 57) d_MO_method_56 rfl rfl ?_
    refine r_is6 (q := 59) d_MO_method_57 rfl ?_
    refine r_al0 (q := 60) d_MO_method_59 rfl ?_
    refine r_il6 (q := 62) d_MO_method_60 rfl ?_
    refine r_zne (tgt := 69) (q := 65) d_MO_method_62 rfl rfl (fun e62 => ?_) (fun e62 => ?_)
    · skip
      refine r_al0 (q := 70) d_MO_method_69 rfl ?_
      refine gt_MO_methods (q := 73) d_MO_method_70 rfl rfl ?_
      refine r_bp (v := 8) (q := 75) d_MO_method_73 rfl rfl ?_
      refine r_ceq (tgt := 85) (q := 78) d_MO_method_75 rfl rfl (fun e75 => ?_) (fun e75 => ?_)
      · skip
        refine r_ic (v := 2) (q := 86) d_MO_method_85 rfl rfl ?_
        refine am_go (tgt := 90) d_MO_method_86 rfl ?_
        refine pt_MO_thrown (q := 93) d_MO_method_90 rfl rfl ?_
        refine r_al0 (q := 94) d_MO_method_93 rfl ?_
        refine gt_MO_thrown (q := 97) d_MO_method_94 rfl rfl ?_
        refine r_zle (tgt := 102) (q := 100) d_MO_method_97 rfl rfl (fun e97 => ?_) (fun e97 => ?_)
        · skip
          refine r_al0 (q := 103) d_MO_method_102 rfl ?_
          refine gt_MO_methods (q := 106) d_MO_method_103 rfl rfl ?_
          refine r_is7 (q := 108) d_MO_method_106 rfl ?_
          refine r_al0 (q := 109) d_MO_method_108 rfl ?_
          refine gt_MO_length (q := 112) d_MO_method_109 rfl rfl ?_
          refine r_il7 (q := 114) d_MO_method_112 rfl ?_
          refine r_il1 (q := 115) d_MO_method_114 rfl ?_
          refine sv_144 (q := 116) d_MO_method_115 ?_ rfl ?_
          · (refine vp_of ?_ ?_ <;> (((try simp +decide only [b01, b10, b11, am_up, and_true, and_false, true_and, false_and, if_true, if_false, nn_eq] at *) <;> (try simp only [i32_lt, i32_le, i32_eq, i32_addw, i32_subw, i32_mulw, Int32.reduceToInt] at *) <;> omega)))
          refine r_al0 (q := 117) d_MO_method_116 rfl ?_
          refine gt_MO_takes (q := 120) d_MO_method_117 rfl rfl ?_
          refine r_il7 (q := 122) d_MO_method_120 rfl ?_
          refine r_il2 (q := 123) d_MO_method_122 rfl ?_
          refine sv_145 (q := 124) d_MO_method_123 ?_ rfl ?_
          · (refine vp_of ?_ ?_ <;> (((try simp +decide only [b01, b10, b11, am_up, and_true, and_false, true_and, false_and, if_true, if_false, nn_eq] at *) <;> (try simp only [i32_lt, i32_le, i32_eq, i32_addw, i32_subw, i32_mulw, Int32.reduceToInt] at *) <;> omega)))
          refine r_al0 (q := 125) d_MO_method_124 rfl ?_
          refine gt_MO_locals (q := 128) d_MO_method_125 rfl rfl ?_
          refine r_il7 (q := 130) d_MO_method_128 rfl ?_
          refine r_il3 (q := 131) d_MO_method_130 rfl ?_
          refine sv_146 (q := 132) d_MO_method_131 ?_ rfl ?_
          · (refine vp_of ?_ ?_ <;> (((try simp +decide only [b01, b10, b11, am_up, and_true, and_false, true_and, false_and, if_true, if_false, nn_eq] at *) <;> (try simp only [i32_lt, i32_le, i32_eq, i32_addw, i32_subw, i32_mulw, Int32.reduceToInt] at *) <;> omega)))
          refine r_al0 (q := 133) d_MO_method_132 rfl ?_
          refine gt_MO_height (q := 136) d_MO_method_133 rfl rfl ?_
          refine r_il7 (q := 138) d_MO_method_136 rfl ?_
          refine r_il4 (q := 140) d_MO_method_138 rfl ?_
          refine sv_147 (q := 141) d_MO_method_140 ?_ rfl ?_
          · (refine vp_of ?_ ?_ <;> (((try simp +decide only [b01, b10, b11, am_up, and_true, and_false, true_and, false_and, if_true, if_false, nn_eq] at *) <;> (try simp only [i32_lt, i32_le, i32_eq, i32_addw, i32_subw, i32_mulw, Int32.reduceToInt] at *) <;> omega)))
          refine r_al0 (q := 142) d_MO_method_141 rfl ?_
          refine gt_MO_gives (q := 145) d_MO_method_142 rfl rfl ?_
          refine r_il7 (q := 147) d_MO_method_145 rfl ?_
          refine r_il5 (q := 149) d_MO_method_147 rfl ?_
          refine sv_148 (q := 150) d_MO_method_149 (by first | assumption | omega | decide | ((try simp +decide only [b01, b10, b11, am_up, and_true, and_false, true_and, false_and, if_true, if_false, nn_eq] at *) <;> (try simp only [i32_lt, i32_le, i32_eq, i32_addw, i32_subw, i32_mulw, Int32.reduceToInt] at *) <;> omega)) ?_ rfl ?_
          · (refine vp_of ?_ ?_ <;> (((try simp +decide only [b01, b10, b11, am_up, and_true, and_false, true_and, false_and, if_true, if_false, nn_eq] at *) <;> (try simp only [i32_lt, i32_le, i32_eq, i32_addw, i32_subw, i32_mulw, Int32.reduceToInt] at *) <;> omega)))
          refine r_al0 (q := 151) d_MO_method_150 rfl ?_
          refine gt_MO_handlers (q := 154) d_MO_method_151 rfl rfl ?_
          refine r_il7 (q := 156) d_MO_method_154 rfl ?_
          refine r_ic (v := 0) (q := 157) d_MO_method_156 rfl rfl ?_
          refine sv_149 (q := 158) d_MO_method_157 ?_ rfl ?_
          · (refine vp_of ?_ ?_ <;> (((try simp +decide only [b01, b10, b11, am_up, and_true, and_false, true_and, false_and, if_true, if_false, nn_eq] at *) <;> (try simp only [i32_lt, i32_le, i32_eq, i32_addw, i32_subw, i32_mulw, Int32.reduceToInt] at *) <;> omega)))
          refine r_al0 (q := 159) d_MO_method_158 rfl ?_
          refine gt_MO_begin (q := 162) d_MO_method_159 rfl rfl ?_
          refine r_il7 (q := 164) d_MO_method_162 rfl ?_
          refine r_ic (v := 1) (q := 165) d_MO_method_164 rfl rfl ?_
          refine r_iadd (q := 166) d_MO_method_165 rfl ?_
          refine r_al0 (q := 167) d_MO_method_166 rfl ?_
          refine gt_MO_begin (q := 170) d_MO_method_167 rfl rfl ?_
          refine r_il7 (q := 172) d_MO_method_170 rfl ?_
          refine ld_143 (q := 173) d_MO_method_172 ?_ rfl ?_
          · (refine vp_of ?_ ?_ <;> (((try simp +decide only [b01, b10, b11, am_up, and_true, and_false, true_and, false_and, if_true, if_false, nn_eq] at *) <;> (try simp only [i32_lt, i32_le, i32_eq, i32_addw, i32_subw, i32_mulw, Int32.reduceToInt] at *) <;> omega)))
          refine r_il1 (q := 174) d_MO_method_173 rfl ?_
          refine r_iadd (q := 175) d_MO_method_174 rfl ?_
          refine sv_143 (q := 176) d_MO_method_175 ?_ rfl ?_
          · (refine vp_of ?_ ?_ <;> (((try simp +decide only [b01, b10, b11, am_up, and_true, and_false, true_and, false_and, if_true, if_false, nn_eq] at *) <;> (try simp only [i32_lt, i32_le, i32_eq, i32_addw, i32_subw, i32_mulw, Int32.reduceToInt] at *) <;> omega)))
          refine r_al0 (q := 177) d_MO_method_176 rfl ?_
          refine r_dupr (q := 178) d_MO_method_177 rfl ?_
          refine gt_MO_methods (q := 181) d_MO_method_178 rfl rfl ?_
          refine r_ic (v := 1) (q := 182) d_MO_method_181 rfl rfl ?_
          refine r_iadd (q := 183) d_MO_method_182 rfl ?_
          refine pt_MO_methods (q := 186) d_MO_method_183 rfl rfl ?_
          refine r_il7 (q := 188) d_MO_method_186 rfl ?_
          refine r_ri d_MO_method_188 ?_
          first | (refine h1 ?_ <;> ((try simp +decide only [b01, b10, b11, am_up, and_true, and_false, true_and, false_and, if_true, if_false, nn_eq] at *) <;> (try simp only [i32_lt, i32_le, i32_eq, i32_addw, i32_subw, i32_mulw, Int32.reduceToInt] at *) <;> omega)) | (refine h2 ?_ <;> ((try simp +decide only [b01, b10, b11, am_up, and_true, and_false, true_and, false_and, if_true, if_false, nn_eq] at *) <;> (try simp only [i32_lt, i32_le, i32_eq, i32_addw, i32_subw, i32_mulw, Int32.reduceToInt] at *) <;> omega)) | (refine h3 ?_ <;> ((try simp +decide only [b01, b10, b11, am_up, and_true, and_false, true_and, false_and, if_true, if_false, nn_eq] at *) <;> (try simp only [i32_lt, i32_le, i32_eq, i32_addw, i32_subw, i32_mulw, Int32.reduceToInt] at *) <;> omega)) | (exfalso; ((try simp +decide only [b01, b10, b11, am_up, and_true, and_false, true_and, false_and, if_true, if_false, nn_eq] at *) <;> (try simp only [i32_lt, i32_le, i32_eq, i32_addw, i32_subw, i32_mulw, Int32.reduceToInt] at *) <;> omega))
        · skip
          refine r_ic (v := 0) (q := 101) d_MO_method_100 rfl rfl ?_
          refine r_ri d_MO_method_101 ?_
          first | (refine h1 ?_ <;> ((try simp +decide only [b01, b10, b11, am_up, and_true, and_false, true_and, false_and, if_true, if_false, nn_eq] at *) <;> (try simp only [i32_lt, i32_le, i32_eq, i32_addw, i32_subw, i32_mulw, Int32.reduceToInt] at *) <;> omega)) | (refine h2 ?_ <;> ((try simp +decide only [b01, b10, b11, am_up, and_true, and_false, true_and, false_and, if_true, if_false, nn_eq] at *) <;> (try simp only [i32_lt, i32_le, i32_eq, i32_addw, i32_subw, i32_mulw, Int32.reduceToInt] at *) <;> omega)) | (refine h3 ?_ <;> ((try simp +decide only [b01, b10, b11, am_up, and_true, and_false, true_and, false_and, if_true, if_false, nn_eq] at *) <;> (try simp only [i32_lt, i32_le, i32_eq, i32_addw, i32_subw, i32_mulw, Int32.reduceToInt] at *) <;> omega)) | (exfalso; ((try simp +decide only [b01, b10, b11, am_up, and_true, and_false, true_and, false_and, if_true, if_false, nn_eq] at *) <;> (try simp only [i32_lt, i32_le, i32_eq, i32_addw, i32_subw, i32_mulw, Int32.reduceToInt] at *) <;> omega))
      · skip
        refine r_al0 (q := 79) d_MO_method_78 rfl ?_
        refine gt_MO_verified (q := 82) d_MO_method_79 rfl rfl ?_
        refine r_zeq (tgt := 89) (q := 85) d_MO_method_82 rfl rfl (fun e82 => ?_) (fun e82 => ?_)
        · skip
          refine r_ic (v := 0) (q := 90) d_MO_method_89 rfl rfl ?_
          refine pt_MO_thrown (q := 93) d_MO_method_90 rfl rfl ?_
          refine r_al0 (q := 94) d_MO_method_93 rfl ?_
          refine gt_MO_thrown (q := 97) d_MO_method_94 rfl rfl ?_
          refine r_zle (tgt := 102) (q := 100) d_MO_method_97 rfl rfl (fun e97 => ?_) (fun e97 => ?_)
          · skip
            refine r_al0 (q := 103) d_MO_method_102 rfl ?_
            refine gt_MO_methods (q := 106) d_MO_method_103 rfl rfl ?_
            refine r_is7 (q := 108) d_MO_method_106 rfl ?_
            refine r_al0 (q := 109) d_MO_method_108 rfl ?_
            refine gt_MO_length (q := 112) d_MO_method_109 rfl rfl ?_
            refine r_il7 (q := 114) d_MO_method_112 rfl ?_
            refine r_il1 (q := 115) d_MO_method_114 rfl ?_
            refine sv_144 (q := 116) d_MO_method_115 ?_ rfl ?_
            · (refine vp_of ?_ ?_ <;> (((try simp +decide only [b01, b10, b11, am_up, and_true, and_false, true_and, false_and, if_true, if_false, nn_eq] at *) <;> (try simp only [i32_lt, i32_le, i32_eq, i32_addw, i32_subw, i32_mulw, Int32.reduceToInt] at *) <;> omega)))
            refine r_al0 (q := 117) d_MO_method_116 rfl ?_
            refine gt_MO_takes (q := 120) d_MO_method_117 rfl rfl ?_
            refine r_il7 (q := 122) d_MO_method_120 rfl ?_
            refine r_il2 (q := 123) d_MO_method_122 rfl ?_
            refine sv_145 (q := 124) d_MO_method_123 ?_ rfl ?_
            · (refine vp_of ?_ ?_ <;> (((try simp +decide only [b01, b10, b11, am_up, and_true, and_false, true_and, false_and, if_true, if_false, nn_eq] at *) <;> (try simp only [i32_lt, i32_le, i32_eq, i32_addw, i32_subw, i32_mulw, Int32.reduceToInt] at *) <;> omega)))
            refine r_al0 (q := 125) d_MO_method_124 rfl ?_
            refine gt_MO_locals (q := 128) d_MO_method_125 rfl rfl ?_
            refine r_il7 (q := 130) d_MO_method_128 rfl ?_
            refine r_il3 (q := 131) d_MO_method_130 rfl ?_
            refine sv_146 (q := 132) d_MO_method_131 ?_ rfl ?_
            · (refine vp_of ?_ ?_ <;> (((try simp +decide only [b01, b10, b11, am_up, and_true, and_false, true_and, false_and, if_true, if_false, nn_eq] at *) <;> (try simp only [i32_lt, i32_le, i32_eq, i32_addw, i32_subw, i32_mulw, Int32.reduceToInt] at *) <;> omega)))
            refine r_al0 (q := 133) d_MO_method_132 rfl ?_
            refine gt_MO_height (q := 136) d_MO_method_133 rfl rfl ?_
            refine r_il7 (q := 138) d_MO_method_136 rfl ?_
            refine r_il4 (q := 140) d_MO_method_138 rfl ?_
            refine sv_147 (q := 141) d_MO_method_140 ?_ rfl ?_
            · (refine vp_of ?_ ?_ <;> (((try simp +decide only [b01, b10, b11, am_up, and_true, and_false, true_and, false_and, if_true, if_false, nn_eq] at *) <;> (try simp only [i32_lt, i32_le, i32_eq, i32_addw, i32_subw, i32_mulw, Int32.reduceToInt] at *) <;> omega)))
            refine r_al0 (q := 142) d_MO_method_141 rfl ?_
            refine gt_MO_gives (q := 145) d_MO_method_142 rfl rfl ?_
            refine r_il7 (q := 147) d_MO_method_145 rfl ?_
            refine r_il5 (q := 149) d_MO_method_147 rfl ?_
            refine sv_148 (q := 150) d_MO_method_149 (by first | assumption | omega | decide | ((try simp +decide only [b01, b10, b11, am_up, and_true, and_false, true_and, false_and, if_true, if_false, nn_eq] at *) <;> (try simp only [i32_lt, i32_le, i32_eq, i32_addw, i32_subw, i32_mulw, Int32.reduceToInt] at *) <;> omega)) ?_ rfl ?_
            · (refine vp_of ?_ ?_ <;> (((try simp +decide only [b01, b10, b11, am_up, and_true, and_false, true_and, false_and, if_true, if_false, nn_eq] at *) <;> (try simp only [i32_lt, i32_le, i32_eq, i32_addw, i32_subw, i32_mulw, Int32.reduceToInt] at *) <;> omega)))
            refine r_al0 (q := 151) d_MO_method_150 rfl ?_
            refine gt_MO_handlers (q := 154) d_MO_method_151 rfl rfl ?_
            refine r_il7 (q := 156) d_MO_method_154 rfl ?_
            refine r_ic (v := 0) (q := 157) d_MO_method_156 rfl rfl ?_
            refine sv_149 (q := 158) d_MO_method_157 ?_ rfl ?_
            · (refine vp_of ?_ ?_ <;> (((try simp +decide only [b01, b10, b11, am_up, and_true, and_false, true_and, false_and, if_true, if_false, nn_eq] at *) <;> (try simp only [i32_lt, i32_le, i32_eq, i32_addw, i32_subw, i32_mulw, Int32.reduceToInt] at *) <;> omega)))
            refine r_al0 (q := 159) d_MO_method_158 rfl ?_
            refine gt_MO_begin (q := 162) d_MO_method_159 rfl rfl ?_
            refine r_il7 (q := 164) d_MO_method_162 rfl ?_
            refine r_ic (v := 1) (q := 165) d_MO_method_164 rfl rfl ?_
            refine r_iadd (q := 166) d_MO_method_165 rfl ?_
            refine r_al0 (q := 167) d_MO_method_166 rfl ?_
            refine gt_MO_begin (q := 170) d_MO_method_167 rfl rfl ?_
            refine r_il7 (q := 172) d_MO_method_170 rfl ?_
            refine ld_143 (q := 173) d_MO_method_172 ?_ rfl ?_
            · (refine vp_of ?_ ?_ <;> (((try simp +decide only [b01, b10, b11, am_up, and_true, and_false, true_and, false_and, if_true, if_false, nn_eq] at *) <;> (try simp only [i32_lt, i32_le, i32_eq, i32_addw, i32_subw, i32_mulw, Int32.reduceToInt] at *) <;> omega)))
            refine r_il1 (q := 174) d_MO_method_173 rfl ?_
            refine r_iadd (q := 175) d_MO_method_174 rfl ?_
            refine sv_143 (q := 176) d_MO_method_175 ?_ rfl ?_
            · (refine vp_of ?_ ?_ <;> (((try simp +decide only [b01, b10, b11, am_up, and_true, and_false, true_and, false_and, if_true, if_false, nn_eq] at *) <;> (try simp only [i32_lt, i32_le, i32_eq, i32_addw, i32_subw, i32_mulw, Int32.reduceToInt] at *) <;> omega)))
            refine r_al0 (q := 177) d_MO_method_176 rfl ?_
            refine r_dupr (q := 178) d_MO_method_177 rfl ?_
            refine gt_MO_methods (q := 181) d_MO_method_178 rfl rfl ?_
            refine r_ic (v := 1) (q := 182) d_MO_method_181 rfl rfl ?_
            refine r_iadd (q := 183) d_MO_method_182 rfl ?_
            refine pt_MO_methods (q := 186) d_MO_method_183 rfl rfl ?_
            refine r_il7 (q := 188) d_MO_method_186 rfl ?_
            refine r_ri d_MO_method_188 ?_
            first | (refine h1 ?_ <;> ((try simp +decide only [b01, b10, b11, am_up, and_true, and_false, true_and, false_and, if_true, if_false, nn_eq] at *) <;> (try simp only [i32_lt, i32_le, i32_eq, i32_addw, i32_subw, i32_mulw, Int32.reduceToInt] at *) <;> omega)) | (refine h2 ?_ <;> ((try simp +decide only [b01, b10, b11, am_up, and_true, and_false, true_and, false_and, if_true, if_false, nn_eq] at *) <;> (try simp only [i32_lt, i32_le, i32_eq, i32_addw, i32_subw, i32_mulw, Int32.reduceToInt] at *) <;> omega)) | (refine h3 ?_ <;> ((try simp +decide only [b01, b10, b11, am_up, and_true, and_false, true_and, false_and, if_true, if_false, nn_eq] at *) <;> (try simp only [i32_lt, i32_le, i32_eq, i32_addw, i32_subw, i32_mulw, Int32.reduceToInt] at *) <;> omega)) | (exfalso; ((try simp +decide only [b01, b10, b11, am_up, and_true, and_false, true_and, false_and, if_true, if_false, nn_eq] at *) <;> (try simp only [i32_lt, i32_le, i32_eq, i32_addw, i32_subw, i32_mulw, Int32.reduceToInt] at *) <;> omega))
          · skip
            refine r_ic (v := 0) (q := 101) d_MO_method_100 rfl rfl ?_
            refine r_ri d_MO_method_101 ?_
            first | (refine h1 ?_ <;> ((try simp +decide only [b01, b10, b11, am_up, and_true, and_false, true_and, false_and, if_true, if_false, nn_eq] at *) <;> (try simp only [i32_lt, i32_le, i32_eq, i32_addw, i32_subw, i32_mulw, Int32.reduceToInt] at *) <;> omega)) | (refine h2 ?_ <;> ((try simp +decide only [b01, b10, b11, am_up, and_true, and_false, true_and, false_and, if_true, if_false, nn_eq] at *) <;> (try simp only [i32_lt, i32_le, i32_eq, i32_addw, i32_subw, i32_mulw, Int32.reduceToInt] at *) <;> omega)) | (refine h3 ?_ <;> ((try simp +decide only [b01, b10, b11, am_up, and_true, and_false, true_and, false_and, if_true, if_false, nn_eq] at *) <;> (try simp only [i32_lt, i32_le, i32_eq, i32_addw, i32_subw, i32_mulw, Int32.reduceToInt] at *) <;> omega)) | (exfalso; ((try simp +decide only [b01, b10, b11, am_up, and_true, and_false, true_and, false_and, if_true, if_false, nn_eq] at *) <;> (try simp only [i32_lt, i32_le, i32_eq, i32_addw, i32_subw, i32_mulw, Int32.reduceToInt] at *) <;> omega))
        · skip
          refine r_ic (v := 2) (q := 86) d_MO_method_85 rfl rfl ?_
          refine am_go (tgt := 90) d_MO_method_86 rfl ?_
          refine pt_MO_thrown (q := 93) d_MO_method_90 rfl rfl ?_
          refine r_al0 (q := 94) d_MO_method_93 rfl ?_
          refine gt_MO_thrown (q := 97) d_MO_method_94 rfl rfl ?_
          refine r_zle (tgt := 102) (q := 100) d_MO_method_97 rfl rfl (fun e97 => ?_) (fun e97 => ?_)
          · skip
            refine r_al0 (q := 103) d_MO_method_102 rfl ?_
            refine gt_MO_methods (q := 106) d_MO_method_103 rfl rfl ?_
            refine r_is7 (q := 108) d_MO_method_106 rfl ?_
            refine r_al0 (q := 109) d_MO_method_108 rfl ?_
            refine gt_MO_length (q := 112) d_MO_method_109 rfl rfl ?_
            refine r_il7 (q := 114) d_MO_method_112 rfl ?_
            refine r_il1 (q := 115) d_MO_method_114 rfl ?_
            refine sv_144 (q := 116) d_MO_method_115 ?_ rfl ?_
            · (refine vp_of ?_ ?_ <;> (((try simp +decide only [b01, b10, b11, am_up, and_true, and_false, true_and, false_and, if_true, if_false, nn_eq] at *) <;> (try simp only [i32_lt, i32_le, i32_eq, i32_addw, i32_subw, i32_mulw, Int32.reduceToInt] at *) <;> omega)))
            refine r_al0 (q := 117) d_MO_method_116 rfl ?_
            refine gt_MO_takes (q := 120) d_MO_method_117 rfl rfl ?_
            refine r_il7 (q := 122) d_MO_method_120 rfl ?_
            refine r_il2 (q := 123) d_MO_method_122 rfl ?_
            refine sv_145 (q := 124) d_MO_method_123 ?_ rfl ?_
            · (refine vp_of ?_ ?_ <;> (((try simp +decide only [b01, b10, b11, am_up, and_true, and_false, true_and, false_and, if_true, if_false, nn_eq] at *) <;> (try simp only [i32_lt, i32_le, i32_eq, i32_addw, i32_subw, i32_mulw, Int32.reduceToInt] at *) <;> omega)))
            refine r_al0 (q := 125) d_MO_method_124 rfl ?_
            refine gt_MO_locals (q := 128) d_MO_method_125 rfl rfl ?_
            refine r_il7 (q := 130) d_MO_method_128 rfl ?_
            refine r_il3 (q := 131) d_MO_method_130 rfl ?_
            refine sv_146 (q := 132) d_MO_method_131 ?_ rfl ?_
            · (refine vp_of ?_ ?_ <;> (((try simp +decide only [b01, b10, b11, am_up, and_true, and_false, true_and, false_and, if_true, if_false, nn_eq] at *) <;> (try simp only [i32_lt, i32_le, i32_eq, i32_addw, i32_subw, i32_mulw, Int32.reduceToInt] at *) <;> omega)))
            refine r_al0 (q := 133) d_MO_method_132 rfl ?_
            refine gt_MO_height (q := 136) d_MO_method_133 rfl rfl ?_
            refine r_il7 (q := 138) d_MO_method_136 rfl ?_
            refine r_il4 (q := 140) d_MO_method_138 rfl ?_
            refine sv_147 (q := 141) d_MO_method_140 ?_ rfl ?_
            · (refine vp_of ?_ ?_ <;> (((try simp +decide only [b01, b10, b11, am_up, and_true, and_false, true_and, false_and, if_true, if_false, nn_eq] at *) <;> (try simp only [i32_lt, i32_le, i32_eq, i32_addw, i32_subw, i32_mulw, Int32.reduceToInt] at *) <;> omega)))
            refine r_al0 (q := 142) d_MO_method_141 rfl ?_
            refine gt_MO_gives (q := 145) d_MO_method_142 rfl rfl ?_
            refine r_il7 (q := 147) d_MO_method_145 rfl ?_
            refine r_il5 (q := 149) d_MO_method_147 rfl ?_
            refine sv_148 (q := 150) d_MO_method_149 (by first | assumption | omega | decide | ((try simp +decide only [b01, b10, b11, am_up, and_true, and_false, true_and, false_and, if_true, if_false, nn_eq] at *) <;> (try simp only [i32_lt, i32_le, i32_eq, i32_addw, i32_subw, i32_mulw, Int32.reduceToInt] at *) <;> omega)) ?_ rfl ?_
            · (refine vp_of ?_ ?_ <;> (((try simp +decide only [b01, b10, b11, am_up, and_true, and_false, true_and, false_and, if_true, if_false, nn_eq] at *) <;> (try simp only [i32_lt, i32_le, i32_eq, i32_addw, i32_subw, i32_mulw, Int32.reduceToInt] at *) <;> omega)))
            refine r_al0 (q := 151) d_MO_method_150 rfl ?_
            refine gt_MO_handlers (q := 154) d_MO_method_151 rfl rfl ?_
            refine r_il7 (q := 156) d_MO_method_154 rfl ?_
            refine r_ic (v := 0) (q := 157) d_MO_method_156 rfl rfl ?_
            refine sv_149 (q := 158) d_MO_method_157 ?_ rfl ?_
            · (refine vp_of ?_ ?_ <;> (((try simp +decide only [b01, b10, b11, am_up, and_true, and_false, true_and, false_and, if_true, if_false, nn_eq] at *) <;> (try simp only [i32_lt, i32_le, i32_eq, i32_addw, i32_subw, i32_mulw, Int32.reduceToInt] at *) <;> omega)))
            refine r_al0 (q := 159) d_MO_method_158 rfl ?_
            refine gt_MO_begin (q := 162) d_MO_method_159 rfl rfl ?_
            refine r_il7 (q := 164) d_MO_method_162 rfl ?_
            refine r_ic (v := 1) (q := 165) d_MO_method_164 rfl rfl ?_
            refine r_iadd (q := 166) d_MO_method_165 rfl ?_
            refine r_al0 (q := 167) d_MO_method_166 rfl ?_
            refine gt_MO_begin (q := 170) d_MO_method_167 rfl rfl ?_
            refine r_il7 (q := 172) d_MO_method_170 rfl ?_
            refine ld_143 (q := 173) d_MO_method_172 ?_ rfl ?_
            · (refine vp_of ?_ ?_ <;> (((try simp +decide only [b01, b10, b11, am_up, and_true, and_false, true_and, false_and, if_true, if_false, nn_eq] at *) <;> (try simp only [i32_lt, i32_le, i32_eq, i32_addw, i32_subw, i32_mulw, Int32.reduceToInt] at *) <;> omega)))
            refine r_il1 (q := 174) d_MO_method_173 rfl ?_
            refine r_iadd (q := 175) d_MO_method_174 rfl ?_
            refine sv_143 (q := 176) d_MO_method_175 ?_ rfl ?_
            · (refine vp_of ?_ ?_ <;> (((try simp +decide only [b01, b10, b11, am_up, and_true, and_false, true_and, false_and, if_true, if_false, nn_eq] at *) <;> (try simp only [i32_lt, i32_le, i32_eq, i32_addw, i32_subw, i32_mulw, Int32.reduceToInt] at *) <;> omega)))
            refine r_al0 (q := 177) d_MO_method_176 rfl ?_
            refine r_dupr (q := 178) d_MO_method_177 rfl ?_
            refine gt_MO_methods (q := 181) d_MO_method_178 rfl rfl ?_
            refine r_ic (v := 1) (q := 182) d_MO_method_181 rfl rfl ?_
            refine r_iadd (q := 183) d_MO_method_182 rfl ?_
            refine pt_MO_methods (q := 186) d_MO_method_183 rfl rfl ?_
            refine r_il7 (q := 188) d_MO_method_186 rfl ?_
            refine r_ri d_MO_method_188 ?_
            first | (refine h1 ?_ <;> ((try simp +decide only [b01, b10, b11, am_up, and_true, and_false, true_and, false_and, if_true, if_false, nn_eq] at *) <;> (try simp only [i32_lt, i32_le, i32_eq, i32_addw, i32_subw, i32_mulw, Int32.reduceToInt] at *) <;> omega)) | (refine h2 ?_ <;> ((try simp +decide only [b01, b10, b11, am_up, and_true, and_false, true_and, false_and, if_true, if_false, nn_eq] at *) <;> (try simp only [i32_lt, i32_le, i32_eq, i32_addw, i32_subw, i32_mulw, Int32.reduceToInt] at *) <;> omega)) | (refine h3 ?_ <;> ((try simp +decide only [b01, b10, b11, am_up, and_true, and_false, true_and, false_and, if_true, if_false, nn_eq] at *) <;> (try simp only [i32_lt, i32_le, i32_eq, i32_addw, i32_subw, i32_mulw, Int32.reduceToInt] at *) <;> omega)) | (exfalso; ((try simp +decide only [b01, b10, b11, am_up, and_true, and_false, true_and, false_and, if_true, if_false, nn_eq] at *) <;> (try simp only [i32_lt, i32_le, i32_eq, i32_addw, i32_subw, i32_mulw, Int32.reduceToInt] at *) <;> omega))
          · skip
            refine r_ic (v := 0) (q := 101) d_MO_method_100 rfl rfl ?_
            refine r_ri d_MO_method_101 ?_
            first | (refine h1 ?_ <;> ((try simp +decide only [b01, b10, b11, am_up, and_true, and_false, true_and, false_and, if_true, if_false, nn_eq] at *) <;> (try simp only [i32_lt, i32_le, i32_eq, i32_addw, i32_subw, i32_mulw, Int32.reduceToInt] at *) <;> omega)) | (refine h2 ?_ <;> ((try simp +decide only [b01, b10, b11, am_up, and_true, and_false, true_and, false_and, if_true, if_false, nn_eq] at *) <;> (try simp only [i32_lt, i32_le, i32_eq, i32_addw, i32_subw, i32_mulw, Int32.reduceToInt] at *) <;> omega)) | (refine h3 ?_ <;> ((try simp +decide only [b01, b10, b11, am_up, and_true, and_false, true_and, false_and, if_true, if_false, nn_eq] at *) <;> (try simp only [i32_lt, i32_le, i32_eq, i32_addw, i32_subw, i32_mulw, Int32.reduceToInt] at *) <;> omega)) | (exfalso; ((try simp +decide only [b01, b10, b11, am_up, and_true, and_false, true_and, false_and, if_true, if_false, nn_eq] at *) <;> (try simp only [i32_lt, i32_le, i32_eq, i32_addw, i32_subw, i32_mulw, Int32.reduceToInt] at *) <;> omega))
    · skip
      refine r_ic (v := 1) (q := 66) d_MO_method_65 rfl rfl ?_
      refine am_go (tgt := 90) d_MO_method_66 rfl ?_
      refine pt_MO_thrown (q := 93) d_MO_method_90 rfl rfl ?_
      refine r_al0 (q := 94) d_MO_method_93 rfl ?_
      refine gt_MO_thrown (q := 97) d_MO_method_94 rfl rfl ?_
      refine r_zle (tgt := 102) (q := 100) d_MO_method_97 rfl rfl (fun e97 => ?_) (fun e97 => ?_)
      · skip
        refine r_al0 (q := 103) d_MO_method_102 rfl ?_
        refine gt_MO_methods (q := 106) d_MO_method_103 rfl rfl ?_
        refine r_is7 (q := 108) d_MO_method_106 rfl ?_
        refine r_al0 (q := 109) d_MO_method_108 rfl ?_
        refine gt_MO_length (q := 112) d_MO_method_109 rfl rfl ?_
        refine r_il7 (q := 114) d_MO_method_112 rfl ?_
        refine r_il1 (q := 115) d_MO_method_114 rfl ?_
        refine sv_144 (q := 116) d_MO_method_115 ?_ rfl ?_
        · (refine vp_of ?_ ?_ <;> (((try simp +decide only [b01, b10, b11, am_up, and_true, and_false, true_and, false_and, if_true, if_false, nn_eq] at *) <;> (try simp only [i32_lt, i32_le, i32_eq, i32_addw, i32_subw, i32_mulw, Int32.reduceToInt] at *) <;> omega)))
        refine r_al0 (q := 117) d_MO_method_116 rfl ?_
        refine gt_MO_takes (q := 120) d_MO_method_117 rfl rfl ?_
        refine r_il7 (q := 122) d_MO_method_120 rfl ?_
        refine r_il2 (q := 123) d_MO_method_122 rfl ?_
        refine sv_145 (q := 124) d_MO_method_123 ?_ rfl ?_
        · (refine vp_of ?_ ?_ <;> (((try simp +decide only [b01, b10, b11, am_up, and_true, and_false, true_and, false_and, if_true, if_false, nn_eq] at *) <;> (try simp only [i32_lt, i32_le, i32_eq, i32_addw, i32_subw, i32_mulw, Int32.reduceToInt] at *) <;> omega)))
        refine r_al0 (q := 125) d_MO_method_124 rfl ?_
        refine gt_MO_locals (q := 128) d_MO_method_125 rfl rfl ?_
        refine r_il7 (q := 130) d_MO_method_128 rfl ?_
        refine r_il3 (q := 131) d_MO_method_130 rfl ?_
        refine sv_146 (q := 132) d_MO_method_131 ?_ rfl ?_
        · (refine vp_of ?_ ?_ <;> (((try simp +decide only [b01, b10, b11, am_up, and_true, and_false, true_and, false_and, if_true, if_false, nn_eq] at *) <;> (try simp only [i32_lt, i32_le, i32_eq, i32_addw, i32_subw, i32_mulw, Int32.reduceToInt] at *) <;> omega)))
        refine r_al0 (q := 133) d_MO_method_132 rfl ?_
        refine gt_MO_height (q := 136) d_MO_method_133 rfl rfl ?_
        refine r_il7 (q := 138) d_MO_method_136 rfl ?_
        refine r_il4 (q := 140) d_MO_method_138 rfl ?_
        refine sv_147 (q := 141) d_MO_method_140 ?_ rfl ?_
        · (refine vp_of ?_ ?_ <;> (((try simp +decide only [b01, b10, b11, am_up, and_true, and_false, true_and, false_and, if_true, if_false, nn_eq] at *) <;> (try simp only [i32_lt, i32_le, i32_eq, i32_addw, i32_subw, i32_mulw, Int32.reduceToInt] at *) <;> omega)))
        refine r_al0 (q := 142) d_MO_method_141 rfl ?_
        refine gt_MO_gives (q := 145) d_MO_method_142 rfl rfl ?_
        refine r_il7 (q := 147) d_MO_method_145 rfl ?_
        refine r_il5 (q := 149) d_MO_method_147 rfl ?_
        refine sv_148 (q := 150) d_MO_method_149 (by first | assumption | omega | decide | ((try simp +decide only [b01, b10, b11, am_up, and_true, and_false, true_and, false_and, if_true, if_false, nn_eq] at *) <;> (try simp only [i32_lt, i32_le, i32_eq, i32_addw, i32_subw, i32_mulw, Int32.reduceToInt] at *) <;> omega)) ?_ rfl ?_
        · (refine vp_of ?_ ?_ <;> (((try simp +decide only [b01, b10, b11, am_up, and_true, and_false, true_and, false_and, if_true, if_false, nn_eq] at *) <;> (try simp only [i32_lt, i32_le, i32_eq, i32_addw, i32_subw, i32_mulw, Int32.reduceToInt] at *) <;> omega)))
        refine r_al0 (q := 151) d_MO_method_150 rfl ?_
        refine gt_MO_handlers (q := 154) d_MO_method_151 rfl rfl ?_
        refine r_il7 (q := 156) d_MO_method_154 rfl ?_
        refine r_ic (v := 0) (q := 157) d_MO_method_156 rfl rfl ?_
        refine sv_149 (q := 158) d_MO_method_157 ?_ rfl ?_
        · (refine vp_of ?_ ?_ <;> (((try simp +decide only [b01, b10, b11, am_up, and_true, and_false, true_and, false_and, if_true, if_false, nn_eq] at *) <;> (try simp only [i32_lt, i32_le, i32_eq, i32_addw, i32_subw, i32_mulw, Int32.reduceToInt] at *) <;> omega)))
        refine r_al0 (q := 159) d_MO_method_158 rfl ?_
        refine gt_MO_begin (q := 162) d_MO_method_159 rfl rfl ?_
        refine r_il7 (q := 164) d_MO_method_162 rfl ?_
        refine r_ic (v := 1) (q := 165) d_MO_method_164 rfl rfl ?_
        refine r_iadd (q := 166) d_MO_method_165 rfl ?_
        refine r_al0 (q := 167) d_MO_method_166 rfl ?_
        refine gt_MO_begin (q := 170) d_MO_method_167 rfl rfl ?_
        refine r_il7 (q := 172) d_MO_method_170 rfl ?_
        refine ld_143 (q := 173) d_MO_method_172 ?_ rfl ?_
        · (refine vp_of ?_ ?_ <;> (((try simp +decide only [b01, b10, b11, am_up, and_true, and_false, true_and, false_and, if_true, if_false, nn_eq] at *) <;> (try simp only [i32_lt, i32_le, i32_eq, i32_addw, i32_subw, i32_mulw, Int32.reduceToInt] at *) <;> omega)))
        refine r_il1 (q := 174) d_MO_method_173 rfl ?_
        refine r_iadd (q := 175) d_MO_method_174 rfl ?_
        refine sv_143 (q := 176) d_MO_method_175 ?_ rfl ?_
        · (refine vp_of ?_ ?_ <;> (((try simp +decide only [b01, b10, b11, am_up, and_true, and_false, true_and, false_and, if_true, if_false, nn_eq] at *) <;> (try simp only [i32_lt, i32_le, i32_eq, i32_addw, i32_subw, i32_mulw, Int32.reduceToInt] at *) <;> omega)))
        refine r_al0 (q := 177) d_MO_method_176 rfl ?_
        refine r_dupr (q := 178) d_MO_method_177 rfl ?_
        refine gt_MO_methods (q := 181) d_MO_method_178 rfl rfl ?_
        refine r_ic (v := 1) (q := 182) d_MO_method_181 rfl rfl ?_
        refine r_iadd (q := 183) d_MO_method_182 rfl ?_
        refine pt_MO_methods (q := 186) d_MO_method_183 rfl rfl ?_
        refine r_il7 (q := 188) d_MO_method_186 rfl ?_
        refine r_ri d_MO_method_188 ?_
        first | (refine h1 ?_ <;> ((try simp +decide only [b01, b10, b11, am_up, and_true, and_false, true_and, false_and, if_true, if_false, nn_eq] at *) <;> (try simp only [i32_lt, i32_le, i32_eq, i32_addw, i32_subw, i32_mulw, Int32.reduceToInt] at *) <;> omega)) | (refine h2 ?_ <;> ((try simp +decide only [b01, b10, b11, am_up, and_true, and_false, true_and, false_and, if_true, if_false, nn_eq] at *) <;> (try simp only [i32_lt, i32_le, i32_eq, i32_addw, i32_subw, i32_mulw, Int32.reduceToInt] at *) <;> omega)) | (refine h3 ?_ <;> ((try simp +decide only [b01, b10, b11, am_up, and_true, and_false, true_and, false_and, if_true, if_false, nn_eq] at *) <;> (try simp only [i32_lt, i32_le, i32_eq, i32_addw, i32_subw, i32_mulw, Int32.reduceToInt] at *) <;> omega)) | (exfalso; ((try simp +decide only [b01, b10, b11, am_up, and_true, and_false, true_and, false_and, if_true, if_false, nn_eq] at *) <;> (try simp only [i32_lt, i32_le, i32_eq, i32_addw, i32_subw, i32_mulw, Int32.reduceToInt] at *) <;> omega))
      · skip
        refine r_ic (v := 0) (q := 101) d_MO_method_100 rfl rfl ?_
        refine r_ri d_MO_method_101 ?_
        first | (refine h1 ?_ <;> ((try simp +decide only [b01, b10, b11, am_up, and_true, and_false, true_and, false_and, if_true, if_false, nn_eq] at *) <;> (try simp only [i32_lt, i32_le, i32_eq, i32_addw, i32_subw, i32_mulw, Int32.reduceToInt] at *) <;> omega)) | (refine h2 ?_ <;> ((try simp +decide only [b01, b10, b11, am_up, and_true, and_false, true_and, false_and, if_true, if_false, nn_eq] at *) <;> (try simp only [i32_lt, i32_le, i32_eq, i32_addw, i32_subw, i32_mulw, Int32.reduceToInt] at *) <;> omega)) | (refine h3 ?_ <;> ((try simp +decide only [b01, b10, b11, am_up, and_true, and_false, true_and, false_and, if_true, if_false, nn_eq] at *) <;> (try simp only [i32_lt, i32_le, i32_eq, i32_addw, i32_subw, i32_mulw, Int32.reduceToInt] at *) <;> omega)) | (exfalso; ((try simp +decide only [b01, b10, b11, am_up, and_true, and_false, true_and, false_and, if_true, if_false, nn_eq] at *) <;> (try simp only [i32_lt, i32_le, i32_eq, i32_addw, i32_subw, i32_mulw, Int32.reduceToInt] at *) <;> omega))
  · skip
    refine r_il3 (q := 10) d_MO_method_9 rfl ?_
    refine r_il2 (q := 11) d_MO_method_10 rfl ?_
    refine r_bp (v := 8) (q := 13) d_MO_method_11 rfl rfl ?_
    refine r_si3 mo_MO_in d_MO_method_13 rfl rfl (q := 16) rfl ?_
    refine sp_MO_in ?_
    refine r_zeq (tgt := 56) (q := 19) d_MO_method_16 rfl rfl (fun e16 => ?_) (fun e16 => ?_)
    · skip
      refine r_ic (v := 0) (q := 57) d_MO_method_56 rfl rfl ?_
      refine r_is6 (q := 59) d_MO_method_57 rfl ?_
      refine r_al0 (q := 60) d_MO_method_59 rfl ?_
      refine r_il6 (q := 62) d_MO_method_60 rfl ?_
      refine r_zne (tgt := 69) (q := 65) d_MO_method_62 rfl rfl (fun e62 => ?_) (fun e62 => ?_)
      · skip
        refine r_al0 (q := 70) d_MO_method_69 rfl ?_
        refine gt_MO_methods (q := 73) d_MO_method_70 rfl rfl ?_
        refine r_bp (v := 8) (q := 75) d_MO_method_73 rfl rfl ?_
        refine r_ceq (tgt := 85) (q := 78) d_MO_method_75 rfl rfl (fun e75 => ?_) (fun e75 => ?_)
        · skip
          refine r_ic (v := 2) (q := 86) d_MO_method_85 rfl rfl ?_
          refine am_go (tgt := 90) d_MO_method_86 rfl ?_
          refine pt_MO_thrown (q := 93) d_MO_method_90 rfl rfl ?_
          refine r_al0 (q := 94) d_MO_method_93 rfl ?_
          refine gt_MO_thrown (q := 97) d_MO_method_94 rfl rfl ?_
          refine r_zle (tgt := 102) (q := 100) d_MO_method_97 rfl rfl (fun e97 => ?_) (fun e97 => ?_)
          · skip
            refine r_al0 (q := 103) d_MO_method_102 rfl ?_
            refine gt_MO_methods (q := 106) d_MO_method_103 rfl rfl ?_
            refine r_is7 (q := 108) d_MO_method_106 rfl ?_
            refine r_al0 (q := 109) d_MO_method_108 rfl ?_
            refine gt_MO_length (q := 112) d_MO_method_109 rfl rfl ?_
            refine r_il7 (q := 114) d_MO_method_112 rfl ?_
            refine r_il1 (q := 115) d_MO_method_114 rfl ?_
            refine sv_144 (q := 116) d_MO_method_115 ?_ rfl ?_
            · (refine vp_of ?_ ?_ <;> (((try simp +decide only [b01, b10, b11, am_up, and_true, and_false, true_and, false_and, if_true, if_false, nn_eq] at *) <;> (try simp only [i32_lt, i32_le, i32_eq, i32_addw, i32_subw, i32_mulw, Int32.reduceToInt] at *) <;> omega)))
            refine r_al0 (q := 117) d_MO_method_116 rfl ?_
            refine gt_MO_takes (q := 120) d_MO_method_117 rfl rfl ?_
            refine r_il7 (q := 122) d_MO_method_120 rfl ?_
            refine r_il2 (q := 123) d_MO_method_122 rfl ?_
            refine sv_145 (q := 124) d_MO_method_123 ?_ rfl ?_
            · (refine vp_of ?_ ?_ <;> (((try simp +decide only [b01, b10, b11, am_up, and_true, and_false, true_and, false_and, if_true, if_false, nn_eq] at *) <;> (try simp only [i32_lt, i32_le, i32_eq, i32_addw, i32_subw, i32_mulw, Int32.reduceToInt] at *) <;> omega)))
            refine r_al0 (q := 125) d_MO_method_124 rfl ?_
            refine gt_MO_locals (q := 128) d_MO_method_125 rfl rfl ?_
            refine r_il7 (q := 130) d_MO_method_128 rfl ?_
            refine r_il3 (q := 131) d_MO_method_130 rfl ?_
            refine sv_146 (q := 132) d_MO_method_131 ?_ rfl ?_
            · (refine vp_of ?_ ?_ <;> (((try simp +decide only [b01, b10, b11, am_up, and_true, and_false, true_and, false_and, if_true, if_false, nn_eq] at *) <;> (try simp only [i32_lt, i32_le, i32_eq, i32_addw, i32_subw, i32_mulw, Int32.reduceToInt] at *) <;> omega)))
            refine r_al0 (q := 133) d_MO_method_132 rfl ?_
            refine gt_MO_height (q := 136) d_MO_method_133 rfl rfl ?_
            refine r_il7 (q := 138) d_MO_method_136 rfl ?_
            refine r_il4 (q := 140) d_MO_method_138 rfl ?_
            refine sv_147 (q := 141) d_MO_method_140 ?_ rfl ?_
            · (refine vp_of ?_ ?_ <;> (((try simp +decide only [b01, b10, b11, am_up, and_true, and_false, true_and, false_and, if_true, if_false, nn_eq] at *) <;> (try simp only [i32_lt, i32_le, i32_eq, i32_addw, i32_subw, i32_mulw, Int32.reduceToInt] at *) <;> omega)))
            refine r_al0 (q := 142) d_MO_method_141 rfl ?_
            refine gt_MO_gives (q := 145) d_MO_method_142 rfl rfl ?_
            refine r_il7 (q := 147) d_MO_method_145 rfl ?_
            refine r_il5 (q := 149) d_MO_method_147 rfl ?_
            refine sv_148 (q := 150) d_MO_method_149 (by first | assumption | omega | decide | ((try simp +decide only [b01, b10, b11, am_up, and_true, and_false, true_and, false_and, if_true, if_false, nn_eq] at *) <;> (try simp only [i32_lt, i32_le, i32_eq, i32_addw, i32_subw, i32_mulw, Int32.reduceToInt] at *) <;> omega)) ?_ rfl ?_
            · (refine vp_of ?_ ?_ <;> (((try simp +decide only [b01, b10, b11, am_up, and_true, and_false, true_and, false_and, if_true, if_false, nn_eq] at *) <;> (try simp only [i32_lt, i32_le, i32_eq, i32_addw, i32_subw, i32_mulw, Int32.reduceToInt] at *) <;> omega)))
            refine r_al0 (q := 151) d_MO_method_150 rfl ?_
            refine gt_MO_handlers (q := 154) d_MO_method_151 rfl rfl ?_
            refine r_il7 (q := 156) d_MO_method_154 rfl ?_
            refine r_ic (v := 0) (q := 157) d_MO_method_156 rfl rfl ?_
            refine sv_149 (q := 158) d_MO_method_157 ?_ rfl ?_
            · (refine vp_of ?_ ?_ <;> (((try simp +decide only [b01, b10, b11, am_up, and_true, and_false, true_and, false_and, if_true, if_false, nn_eq] at *) <;> (try simp only [i32_lt, i32_le, i32_eq, i32_addw, i32_subw, i32_mulw, Int32.reduceToInt] at *) <;> omega)))
            refine r_al0 (q := 159) d_MO_method_158 rfl ?_
            refine gt_MO_begin (q := 162) d_MO_method_159 rfl rfl ?_
            refine r_il7 (q := 164) d_MO_method_162 rfl ?_
            refine r_ic (v := 1) (q := 165) d_MO_method_164 rfl rfl ?_
            refine r_iadd (q := 166) d_MO_method_165 rfl ?_
            refine r_al0 (q := 167) d_MO_method_166 rfl ?_
            refine gt_MO_begin (q := 170) d_MO_method_167 rfl rfl ?_
            refine r_il7 (q := 172) d_MO_method_170 rfl ?_
            refine ld_143 (q := 173) d_MO_method_172 ?_ rfl ?_
            · (refine vp_of ?_ ?_ <;> (((try simp +decide only [b01, b10, b11, am_up, and_true, and_false, true_and, false_and, if_true, if_false, nn_eq] at *) <;> (try simp only [i32_lt, i32_le, i32_eq, i32_addw, i32_subw, i32_mulw, Int32.reduceToInt] at *) <;> omega)))
            refine r_il1 (q := 174) d_MO_method_173 rfl ?_
            refine r_iadd (q := 175) d_MO_method_174 rfl ?_
            refine sv_143 (q := 176) d_MO_method_175 ?_ rfl ?_
            · (refine vp_of ?_ ?_ <;> (((try simp +decide only [b01, b10, b11, am_up, and_true, and_false, true_and, false_and, if_true, if_false, nn_eq] at *) <;> (try simp only [i32_lt, i32_le, i32_eq, i32_addw, i32_subw, i32_mulw, Int32.reduceToInt] at *) <;> omega)))
            refine r_al0 (q := 177) d_MO_method_176 rfl ?_
            refine r_dupr (q := 178) d_MO_method_177 rfl ?_
            refine gt_MO_methods (q := 181) d_MO_method_178 rfl rfl ?_
            refine r_ic (v := 1) (q := 182) d_MO_method_181 rfl rfl ?_
            refine r_iadd (q := 183) d_MO_method_182 rfl ?_
            refine pt_MO_methods (q := 186) d_MO_method_183 rfl rfl ?_
            refine r_il7 (q := 188) d_MO_method_186 rfl ?_
            refine r_ri d_MO_method_188 ?_
            first | (refine h1 ?_ <;> ((try simp +decide only [b01, b10, b11, am_up, and_true, and_false, true_and, false_and, if_true, if_false, nn_eq] at *) <;> (try simp only [i32_lt, i32_le, i32_eq, i32_addw, i32_subw, i32_mulw, Int32.reduceToInt] at *) <;> omega)) | (refine h2 ?_ <;> ((try simp +decide only [b01, b10, b11, am_up, and_true, and_false, true_and, false_and, if_true, if_false, nn_eq] at *) <;> (try simp only [i32_lt, i32_le, i32_eq, i32_addw, i32_subw, i32_mulw, Int32.reduceToInt] at *) <;> omega)) | (refine h3 ?_ <;> ((try simp +decide only [b01, b10, b11, am_up, and_true, and_false, true_and, false_and, if_true, if_false, nn_eq] at *) <;> (try simp only [i32_lt, i32_le, i32_eq, i32_addw, i32_subw, i32_mulw, Int32.reduceToInt] at *) <;> omega)) | (exfalso; ((try simp +decide only [b01, b10, b11, am_up, and_true, and_false, true_and, false_and, if_true, if_false, nn_eq] at *) <;> (try simp only [i32_lt, i32_le, i32_eq, i32_addw, i32_subw, i32_mulw, Int32.reduceToInt] at *) <;> omega))
          · skip
            refine r_ic (v := 0) (q := 101) d_MO_method_100 rfl rfl ?_
            refine r_ri d_MO_method_101 ?_
            first | (refine h1 ?_ <;> ((try simp +decide only [b01, b10, b11, am_up, and_true, and_false, true_and, false_and, if_true, if_false, nn_eq] at *) <;> (try simp only [i32_lt, i32_le, i32_eq, i32_addw, i32_subw, i32_mulw, Int32.reduceToInt] at *) <;> omega)) | (refine h2 ?_ <;> ((try simp +decide only [b01, b10, b11, am_up, and_true, and_false, true_and, false_and, if_true, if_false, nn_eq] at *) <;> (try simp only [i32_lt, i32_le, i32_eq, i32_addw, i32_subw, i32_mulw, Int32.reduceToInt] at *) <;> omega)) | (refine h3 ?_ <;> ((try simp +decide only [b01, b10, b11, am_up, and_true, and_false, true_and, false_and, if_true, if_false, nn_eq] at *) <;> (try simp only [i32_lt, i32_le, i32_eq, i32_addw, i32_subw, i32_mulw, Int32.reduceToInt] at *) <;> omega)) | (exfalso; ((try simp +decide only [b01, b10, b11, am_up, and_true, and_false, true_and, false_and, if_true, if_false, nn_eq] at *) <;> (try simp only [i32_lt, i32_le, i32_eq, i32_addw, i32_subw, i32_mulw, Int32.reduceToInt] at *) <;> omega))
        · skip
          refine r_al0 (q := 79) d_MO_method_78 rfl ?_
          refine gt_MO_verified (q := 82) d_MO_method_79 rfl rfl ?_
          refine r_zeq (tgt := 89) (q := 85) d_MO_method_82 rfl rfl (fun e82 => ?_) (fun e82 => ?_)
          · skip
            refine r_ic (v := 0) (q := 90) d_MO_method_89 rfl rfl ?_
            refine pt_MO_thrown (q := 93) d_MO_method_90 rfl rfl ?_
            refine r_al0 (q := 94) d_MO_method_93 rfl ?_
            refine gt_MO_thrown (q := 97) d_MO_method_94 rfl rfl ?_
            refine r_zle (tgt := 102) (q := 100) d_MO_method_97 rfl rfl (fun e97 => ?_) (fun e97 => ?_)
            · skip
              refine r_al0 (q := 103) d_MO_method_102 rfl ?_
              refine gt_MO_methods (q := 106) d_MO_method_103 rfl rfl ?_
              refine r_is7 (q := 108) d_MO_method_106 rfl ?_
              refine r_al0 (q := 109) d_MO_method_108 rfl ?_
              refine gt_MO_length (q := 112) d_MO_method_109 rfl rfl ?_
              refine r_il7 (q := 114) d_MO_method_112 rfl ?_
              refine r_il1 (q := 115) d_MO_method_114 rfl ?_
              refine sv_144 (q := 116) d_MO_method_115 ?_ rfl ?_
              · (refine vp_of ?_ ?_ <;> (((try simp +decide only [b01, b10, b11, am_up, and_true, and_false, true_and, false_and, if_true, if_false, nn_eq] at *) <;> (try simp only [i32_lt, i32_le, i32_eq, i32_addw, i32_subw, i32_mulw, Int32.reduceToInt] at *) <;> omega)))
              refine r_al0 (q := 117) d_MO_method_116 rfl ?_
              refine gt_MO_takes (q := 120) d_MO_method_117 rfl rfl ?_
              refine r_il7 (q := 122) d_MO_method_120 rfl ?_
              refine r_il2 (q := 123) d_MO_method_122 rfl ?_
              refine sv_145 (q := 124) d_MO_method_123 ?_ rfl ?_
              · (refine vp_of ?_ ?_ <;> (((try simp +decide only [b01, b10, b11, am_up, and_true, and_false, true_and, false_and, if_true, if_false, nn_eq] at *) <;> (try simp only [i32_lt, i32_le, i32_eq, i32_addw, i32_subw, i32_mulw, Int32.reduceToInt] at *) <;> omega)))
              refine r_al0 (q := 125) d_MO_method_124 rfl ?_
              refine gt_MO_locals (q := 128) d_MO_method_125 rfl rfl ?_
              refine r_il7 (q := 130) d_MO_method_128 rfl ?_
              refine r_il3 (q := 131) d_MO_method_130 rfl ?_
              refine sv_146 (q := 132) d_MO_method_131 ?_ rfl ?_
              · (refine vp_of ?_ ?_ <;> (((try simp +decide only [b01, b10, b11, am_up, and_true, and_false, true_and, false_and, if_true, if_false, nn_eq] at *) <;> (try simp only [i32_lt, i32_le, i32_eq, i32_addw, i32_subw, i32_mulw, Int32.reduceToInt] at *) <;> omega)))
              refine r_al0 (q := 133) d_MO_method_132 rfl ?_
              refine gt_MO_height (q := 136) d_MO_method_133 rfl rfl ?_
              refine r_il7 (q := 138) d_MO_method_136 rfl ?_
              refine r_il4 (q := 140) d_MO_method_138 rfl ?_
              refine sv_147 (q := 141) d_MO_method_140 ?_ rfl ?_
              · (refine vp_of ?_ ?_ <;> (((try simp +decide only [b01, b10, b11, am_up, and_true, and_false, true_and, false_and, if_true, if_false, nn_eq] at *) <;> (try simp only [i32_lt, i32_le, i32_eq, i32_addw, i32_subw, i32_mulw, Int32.reduceToInt] at *) <;> omega)))
              refine r_al0 (q := 142) d_MO_method_141 rfl ?_
              refine gt_MO_gives (q := 145) d_MO_method_142 rfl rfl ?_
              refine r_il7 (q := 147) d_MO_method_145 rfl ?_
              refine r_il5 (q := 149) d_MO_method_147 rfl ?_
              refine sv_148 (q := 150) d_MO_method_149 (by first | assumption | omega | decide | ((try simp +decide only [b01, b10, b11, am_up, and_true, and_false, true_and, false_and, if_true, if_false, nn_eq] at *) <;> (try simp only [i32_lt, i32_le, i32_eq, i32_addw, i32_subw, i32_mulw, Int32.reduceToInt] at *) <;> omega)) ?_ rfl ?_
              · (refine vp_of ?_ ?_ <;> (((try simp +decide only [b01, b10, b11, am_up, and_true, and_false, true_and, false_and, if_true, if_false, nn_eq] at *) <;> (try simp only [i32_lt, i32_le, i32_eq, i32_addw, i32_subw, i32_mulw, Int32.reduceToInt] at *) <;> omega)))
              refine r_al0 (q := 151) d_MO_method_150 rfl ?_
              refine gt_MO_handlers (q := 154) d_MO_method_151 rfl rfl ?_
              refine r_il7 (q := 156) d_MO_method_154 rfl ?_
              refine r_ic (v := 0) (q := 157) d_MO_method_156 rfl rfl ?_
              refine sv_149 (q := 158) d_MO_method_157 ?_ rfl ?_
              · (refine vp_of ?_ ?_ <;> (((try simp +decide only [b01, b10, b11, am_up, and_true, and_false, true_and, false_and, if_true, if_false, nn_eq] at *) <;> (try simp only [i32_lt, i32_le, i32_eq, i32_addw, i32_subw, i32_mulw, Int32.reduceToInt] at *) <;> omega)))
              refine r_al0 (q := 159) d_MO_method_158 rfl ?_
              refine gt_MO_begin (q := 162) d_MO_method_159 rfl rfl ?_
              refine r_il7 (q := 164) d_MO_method_162 rfl ?_
              refine r_ic (v := 1) (q := 165) d_MO_method_164 rfl rfl ?_
              refine r_iadd (q := 166) d_MO_method_165 rfl ?_
              refine r_al0 (q := 167) d_MO_method_166 rfl ?_
              refine gt_MO_begin (q := 170) d_MO_method_167 rfl rfl ?_
              refine r_il7 (q := 172) d_MO_method_170 rfl ?_
              refine ld_143 (q := 173) d_MO_method_172 ?_ rfl ?_
              · (refine vp_of ?_ ?_ <;> (((try simp +decide only [b01, b10, b11, am_up, and_true, and_false, true_and, false_and, if_true, if_false, nn_eq] at *) <;> (try simp only [i32_lt, i32_le, i32_eq, i32_addw, i32_subw, i32_mulw, Int32.reduceToInt] at *) <;> omega)))
              refine r_il1 (q := 174) d_MO_method_173 rfl ?_
              refine r_iadd (q := 175) d_MO_method_174 rfl ?_
              refine sv_143 (q := 176) d_MO_method_175 ?_ rfl ?_
              · (refine vp_of ?_ ?_ <;> (((try simp +decide only [b01, b10, b11, am_up, and_true, and_false, true_and, false_and, if_true, if_false, nn_eq] at *) <;> (try simp only [i32_lt, i32_le, i32_eq, i32_addw, i32_subw, i32_mulw, Int32.reduceToInt] at *) <;> omega)))
              refine r_al0 (q := 177) d_MO_method_176 rfl ?_
              refine r_dupr (q := 178) d_MO_method_177 rfl ?_
              refine gt_MO_methods (q := 181) d_MO_method_178 rfl rfl ?_
              refine r_ic (v := 1) (q := 182) d_MO_method_181 rfl rfl ?_
              refine r_iadd (q := 183) d_MO_method_182 rfl ?_
              refine pt_MO_methods (q := 186) d_MO_method_183 rfl rfl ?_
              refine r_il7 (q := 188) d_MO_method_186 rfl ?_
              refine r_ri d_MO_method_188 ?_
              first | (refine h1 ?_ <;> ((try simp +decide only [b01, b10, b11, am_up, and_true, and_false, true_and, false_and, if_true, if_false, nn_eq] at *) <;> (try simp only [i32_lt, i32_le, i32_eq, i32_addw, i32_subw, i32_mulw, Int32.reduceToInt] at *) <;> omega)) | (refine h2 ?_ <;> ((try simp +decide only [b01, b10, b11, am_up, and_true, and_false, true_and, false_and, if_true, if_false, nn_eq] at *) <;> (try simp only [i32_lt, i32_le, i32_eq, i32_addw, i32_subw, i32_mulw, Int32.reduceToInt] at *) <;> omega)) | (refine h3 ?_ <;> ((try simp +decide only [b01, b10, b11, am_up, and_true, and_false, true_and, false_and, if_true, if_false, nn_eq] at *) <;> (try simp only [i32_lt, i32_le, i32_eq, i32_addw, i32_subw, i32_mulw, Int32.reduceToInt] at *) <;> omega)) | (exfalso; ((try simp +decide only [b01, b10, b11, am_up, and_true, and_false, true_and, false_and, if_true, if_false, nn_eq] at *) <;> (try simp only [i32_lt, i32_le, i32_eq, i32_addw, i32_subw, i32_mulw, Int32.reduceToInt] at *) <;> omega))
            · skip
              refine r_ic (v := 0) (q := 101) d_MO_method_100 rfl rfl ?_
              refine r_ri d_MO_method_101 ?_
              first | (refine h1 ?_ <;> ((try simp +decide only [b01, b10, b11, am_up, and_true, and_false, true_and, false_and, if_true, if_false, nn_eq] at *) <;> (try simp only [i32_lt, i32_le, i32_eq, i32_addw, i32_subw, i32_mulw, Int32.reduceToInt] at *) <;> omega)) | (refine h2 ?_ <;> ((try simp +decide only [b01, b10, b11, am_up, and_true, and_false, true_and, false_and, if_true, if_false, nn_eq] at *) <;> (try simp only [i32_lt, i32_le, i32_eq, i32_addw, i32_subw, i32_mulw, Int32.reduceToInt] at *) <;> omega)) | (refine h3 ?_ <;> ((try simp +decide only [b01, b10, b11, am_up, and_true, and_false, true_and, false_and, if_true, if_false, nn_eq] at *) <;> (try simp only [i32_lt, i32_le, i32_eq, i32_addw, i32_subw, i32_mulw, Int32.reduceToInt] at *) <;> omega)) | (exfalso; ((try simp +decide only [b01, b10, b11, am_up, and_true, and_false, true_and, false_and, if_true, if_false, nn_eq] at *) <;> (try simp only [i32_lt, i32_le, i32_eq, i32_addw, i32_subw, i32_mulw, Int32.reduceToInt] at *) <;> omega))
          · skip
            refine r_ic (v := 2) (q := 86) d_MO_method_85 rfl rfl ?_
            refine am_go (tgt := 90) d_MO_method_86 rfl ?_
            refine pt_MO_thrown (q := 93) d_MO_method_90 rfl rfl ?_
            refine r_al0 (q := 94) d_MO_method_93 rfl ?_
            refine gt_MO_thrown (q := 97) d_MO_method_94 rfl rfl ?_
            refine r_zle (tgt := 102) (q := 100) d_MO_method_97 rfl rfl (fun e97 => ?_) (fun e97 => ?_)
            · skip
              refine r_al0 (q := 103) d_MO_method_102 rfl ?_
              refine gt_MO_methods (q := 106) d_MO_method_103 rfl rfl ?_
              refine r_is7 (q := 108) d_MO_method_106 rfl ?_
              refine r_al0 (q := 109) d_MO_method_108 rfl ?_
              refine gt_MO_length (q := 112) d_MO_method_109 rfl rfl ?_
              refine r_il7 (q := 114) d_MO_method_112 rfl ?_
              refine r_il1 (q := 115) d_MO_method_114 rfl ?_
              refine sv_144 (q := 116) d_MO_method_115 ?_ rfl ?_
              · (refine vp_of ?_ ?_ <;> (((try simp +decide only [b01, b10, b11, am_up, and_true, and_false, true_and, false_and, if_true, if_false, nn_eq] at *) <;> (try simp only [i32_lt, i32_le, i32_eq, i32_addw, i32_subw, i32_mulw, Int32.reduceToInt] at *) <;> omega)))
              refine r_al0 (q := 117) d_MO_method_116 rfl ?_
              refine gt_MO_takes (q := 120) d_MO_method_117 rfl rfl ?_
              refine r_il7 (q := 122) d_MO_method_120 rfl ?_
              refine r_il2 (q := 123) d_MO_method_122 rfl ?_
              refine sv_145 (q := 124) d_MO_method_123 ?_ rfl ?_
              · (refine vp_of ?_ ?_ <;> (((try simp +decide only [b01, b10, b11, am_up, and_true, and_false, true_and, false_and, if_true, if_false, nn_eq] at *) <;> (try simp only [i32_lt, i32_le, i32_eq, i32_addw, i32_subw, i32_mulw, Int32.reduceToInt] at *) <;> omega)))
              refine r_al0 (q := 125) d_MO_method_124 rfl ?_
              refine gt_MO_locals (q := 128) d_MO_method_125 rfl rfl ?_
              refine r_il7 (q := 130) d_MO_method_128 rfl ?_
              refine r_il3 (q := 131) d_MO_method_130 rfl ?_
              refine sv_146 (q := 132) d_MO_method_131 ?_ rfl ?_
              · (refine vp_of ?_ ?_ <;> (((try simp +decide only [b01, b10, b11, am_up, and_true, and_false, true_and, false_and, if_true, if_false, nn_eq] at *) <;> (try simp only [i32_lt, i32_le, i32_eq, i32_addw, i32_subw, i32_mulw, Int32.reduceToInt] at *) <;> omega)))
              refine r_al0 (q := 133) d_MO_method_132 rfl ?_
              refine gt_MO_height (q := 136) d_MO_method_133 rfl rfl ?_
              refine r_il7 (q := 138) d_MO_method_136 rfl ?_
              refine r_il4 (q := 140) d_MO_method_138 rfl ?_
              refine sv_147 (q := 141) d_MO_method_140 ?_ rfl ?_
              · (refine vp_of ?_ ?_ <;> (((try simp +decide only [b01, b10, b11, am_up, and_true, and_false, true_and, false_and, if_true, if_false, nn_eq] at *) <;> (try simp only [i32_lt, i32_le, i32_eq, i32_addw, i32_subw, i32_mulw, Int32.reduceToInt] at *) <;> omega)))
              refine r_al0 (q := 142) d_MO_method_141 rfl ?_
              refine gt_MO_gives (q := 145) d_MO_method_142 rfl rfl ?_
              refine r_il7 (q := 147) d_MO_method_145 rfl ?_
              refine r_il5 (q := 149) d_MO_method_147 rfl ?_
              refine sv_148 (q := 150) d_MO_method_149 (by first | assumption | omega | decide | ((try simp +decide only [b01, b10, b11, am_up, and_true, and_false, true_and, false_and, if_true, if_false, nn_eq] at *) <;> (try simp only [i32_lt, i32_le, i32_eq, i32_addw, i32_subw, i32_mulw, Int32.reduceToInt] at *) <;> omega)) ?_ rfl ?_
              · (refine vp_of ?_ ?_ <;> (((try simp +decide only [b01, b10, b11, am_up, and_true, and_false, true_and, false_and, if_true, if_false, nn_eq] at *) <;> (try simp only [i32_lt, i32_le, i32_eq, i32_addw, i32_subw, i32_mulw, Int32.reduceToInt] at *) <;> omega)))
              refine r_al0 (q := 151) d_MO_method_150 rfl ?_
              refine gt_MO_handlers (q := 154) d_MO_method_151 rfl rfl ?_
              refine r_il7 (q := 156) d_MO_method_154 rfl ?_
              refine r_ic (v := 0) (q := 157) d_MO_method_156 rfl rfl ?_
              refine sv_149 (q := 158) d_MO_method_157 ?_ rfl ?_
              · (refine vp_of ?_ ?_ <;> (((try simp +decide only [b01, b10, b11, am_up, and_true, and_false, true_and, false_and, if_true, if_false, nn_eq] at *) <;> (try simp only [i32_lt, i32_le, i32_eq, i32_addw, i32_subw, i32_mulw, Int32.reduceToInt] at *) <;> omega)))
              refine r_al0 (q := 159) d_MO_method_158 rfl ?_
              refine gt_MO_begin (q := 162) d_MO_method_159 rfl rfl ?_
              refine r_il7 (q := 164) d_MO_method_162 rfl ?_
              refine r_ic (v := 1) (q := 165) d_MO_method_164 rfl rfl ?_
              refine r_iadd (q := 166) d_MO_method_165 rfl ?_
              refine r_al0 (q := 167) d_MO_method_166 rfl ?_
              refine gt_MO_begin (q := 170) d_MO_method_167 rfl rfl ?_
              refine r_il7 (q := 172) d_MO_method_170 rfl ?_
              refine ld_143 (q := 173) d_MO_method_172 ?_ rfl ?_
              · (refine vp_of ?_ ?_ <;> (((try simp +decide only [b01, b10, b11, am_up, and_true, and_false, true_and, false_and, if_true, if_false, nn_eq] at *) <;> (try simp only [i32_lt, i32_le, i32_eq, i32_addw, i32_subw, i32_mulw, Int32.reduceToInt] at *) <;> omega)))
              refine r_il1 (q := 174) d_MO_method_173 rfl ?_
              refine r_iadd (q := 175) d_MO_method_174 rfl ?_
              refine sv_143 (q := 176) d_MO_method_175 ?_ rfl ?_
              · (refine vp_of ?_ ?_ <;> (((try simp +decide only [b01, b10, b11, am_up, and_true, and_false, true_and, false_and, if_true, if_false, nn_eq] at *) <;> (try simp only [i32_lt, i32_le, i32_eq, i32_addw, i32_subw, i32_mulw, Int32.reduceToInt] at *) <;> omega)))
              refine r_al0 (q := 177) d_MO_method_176 rfl ?_
              refine r_dupr (q := 178) d_MO_method_177 rfl ?_
              refine gt_MO_methods (q := 181) d_MO_method_178 rfl rfl ?_
              refine r_ic (v := 1) (q := 182) d_MO_method_181 rfl rfl ?_
              refine r_iadd (q := 183) d_MO_method_182 rfl ?_
              refine pt_MO_methods (q := 186) d_MO_method_183 rfl rfl ?_
              refine r_il7 (q := 188) d_MO_method_186 rfl ?_
              refine r_ri d_MO_method_188 ?_
              first | (refine h1 ?_ <;> ((try simp +decide only [b01, b10, b11, am_up, and_true, and_false, true_and, false_and, if_true, if_false, nn_eq] at *) <;> (try simp only [i32_lt, i32_le, i32_eq, i32_addw, i32_subw, i32_mulw, Int32.reduceToInt] at *) <;> omega)) | (refine h2 ?_ <;> ((try simp +decide only [b01, b10, b11, am_up, and_true, and_false, true_and, false_and, if_true, if_false, nn_eq] at *) <;> (try simp only [i32_lt, i32_le, i32_eq, i32_addw, i32_subw, i32_mulw, Int32.reduceToInt] at *) <;> omega)) | (refine h3 ?_ <;> ((try simp +decide only [b01, b10, b11, am_up, and_true, and_false, true_and, false_and, if_true, if_false, nn_eq] at *) <;> (try simp only [i32_lt, i32_le, i32_eq, i32_addw, i32_subw, i32_mulw, Int32.reduceToInt] at *) <;> omega)) | (exfalso; ((try simp +decide only [b01, b10, b11, am_up, and_true, and_false, true_and, false_and, if_true, if_false, nn_eq] at *) <;> (try simp only [i32_lt, i32_le, i32_eq, i32_addw, i32_subw, i32_mulw, Int32.reduceToInt] at *) <;> omega))
            · skip
              refine r_ic (v := 0) (q := 101) d_MO_method_100 rfl rfl ?_
              refine r_ri d_MO_method_101 ?_
              first | (refine h1 ?_ <;> ((try simp +decide only [b01, b10, b11, am_up, and_true, and_false, true_and, false_and, if_true, if_false, nn_eq] at *) <;> (try simp only [i32_lt, i32_le, i32_eq, i32_addw, i32_subw, i32_mulw, Int32.reduceToInt] at *) <;> omega)) | (refine h2 ?_ <;> ((try simp +decide only [b01, b10, b11, am_up, and_true, and_false, true_and, false_and, if_true, if_false, nn_eq] at *) <;> (try simp only [i32_lt, i32_le, i32_eq, i32_addw, i32_subw, i32_mulw, Int32.reduceToInt] at *) <;> omega)) | (refine h3 ?_ <;> ((try simp +decide only [b01, b10, b11, am_up, and_true, and_false, true_and, false_and, if_true, if_false, nn_eq] at *) <;> (try simp only [i32_lt, i32_le, i32_eq, i32_addw, i32_subw, i32_mulw, Int32.reduceToInt] at *) <;> omega)) | (exfalso; ((try simp +decide only [b01, b10, b11, am_up, and_true, and_false, true_and, false_and, if_true, if_false, nn_eq] at *) <;> (try simp only [i32_lt, i32_le, i32_eq, i32_addw, i32_subw, i32_mulw, Int32.reduceToInt] at *) <;> omega))
      · skip
        refine r_ic (v := 1) (q := 66) d_MO_method_65 rfl rfl ?_
        refine am_go (tgt := 90) d_MO_method_66 rfl ?_
        refine pt_MO_thrown (q := 93) d_MO_method_90 rfl rfl ?_
        refine r_al0 (q := 94) d_MO_method_93 rfl ?_
        refine gt_MO_thrown (q := 97) d_MO_method_94 rfl rfl ?_
        refine r_zle (tgt := 102) (q := 100) d_MO_method_97 rfl rfl (fun e97 => ?_) (fun e97 => ?_)
        · skip
          refine r_al0 (q := 103) d_MO_method_102 rfl ?_
          refine gt_MO_methods (q := 106) d_MO_method_103 rfl rfl ?_
          refine r_is7 (q := 108) d_MO_method_106 rfl ?_
          refine r_al0 (q := 109) d_MO_method_108 rfl ?_
          refine gt_MO_length (q := 112) d_MO_method_109 rfl rfl ?_
          refine r_il7 (q := 114) d_MO_method_112 rfl ?_
          refine r_il1 (q := 115) d_MO_method_114 rfl ?_
          refine sv_144 (q := 116) d_MO_method_115 ?_ rfl ?_
          · (refine vp_of ?_ ?_ <;> (((try simp +decide only [b01, b10, b11, am_up, and_true, and_false, true_and, false_and, if_true, if_false, nn_eq] at *) <;> (try simp only [i32_lt, i32_le, i32_eq, i32_addw, i32_subw, i32_mulw, Int32.reduceToInt] at *) <;> omega)))
          refine r_al0 (q := 117) d_MO_method_116 rfl ?_
          refine gt_MO_takes (q := 120) d_MO_method_117 rfl rfl ?_
          refine r_il7 (q := 122) d_MO_method_120 rfl ?_
          refine r_il2 (q := 123) d_MO_method_122 rfl ?_
          refine sv_145 (q := 124) d_MO_method_123 ?_ rfl ?_
          · (refine vp_of ?_ ?_ <;> (((try simp +decide only [b01, b10, b11, am_up, and_true, and_false, true_and, false_and, if_true, if_false, nn_eq] at *) <;> (try simp only [i32_lt, i32_le, i32_eq, i32_addw, i32_subw, i32_mulw, Int32.reduceToInt] at *) <;> omega)))
          refine r_al0 (q := 125) d_MO_method_124 rfl ?_
          refine gt_MO_locals (q := 128) d_MO_method_125 rfl rfl ?_
          refine r_il7 (q := 130) d_MO_method_128 rfl ?_
          refine r_il3 (q := 131) d_MO_method_130 rfl ?_
          refine sv_146 (q := 132) d_MO_method_131 ?_ rfl ?_
          · (refine vp_of ?_ ?_ <;> (((try simp +decide only [b01, b10, b11, am_up, and_true, and_false, true_and, false_and, if_true, if_false, nn_eq] at *) <;> (try simp only [i32_lt, i32_le, i32_eq, i32_addw, i32_subw, i32_mulw, Int32.reduceToInt] at *) <;> omega)))
          refine r_al0 (q := 133) d_MO_method_132 rfl ?_
          refine gt_MO_height (q := 136) d_MO_method_133 rfl rfl ?_
          refine r_il7 (q := 138) d_MO_method_136 rfl ?_
          refine r_il4 (q := 140) d_MO_method_138 rfl ?_
          refine sv_147 (q := 141) d_MO_method_140 ?_ rfl ?_
          · (refine vp_of ?_ ?_ <;> (((try simp +decide only [b01, b10, b11, am_up, and_true, and_false, true_and, false_and, if_true, if_false, nn_eq] at *) <;> (try simp only [i32_lt, i32_le, i32_eq, i32_addw, i32_subw, i32_mulw, Int32.reduceToInt] at *) <;> omega)))
          refine r_al0 (q := 142) d_MO_method_141 rfl ?_
          refine gt_MO_gives (q := 145) d_MO_method_142 rfl rfl ?_
          refine r_il7 (q := 147) d_MO_method_145 rfl ?_
          refine r_il5 (q := 149) d_MO_method_147 rfl ?_
          refine sv_148 (q := 150) d_MO_method_149 (by first | assumption | omega | decide | ((try simp +decide only [b01, b10, b11, am_up, and_true, and_false, true_and, false_and, if_true, if_false, nn_eq] at *) <;> (try simp only [i32_lt, i32_le, i32_eq, i32_addw, i32_subw, i32_mulw, Int32.reduceToInt] at *) <;> omega)) ?_ rfl ?_
          · (refine vp_of ?_ ?_ <;> (((try simp +decide only [b01, b10, b11, am_up, and_true, and_false, true_and, false_and, if_true, if_false, nn_eq] at *) <;> (try simp only [i32_lt, i32_le, i32_eq, i32_addw, i32_subw, i32_mulw, Int32.reduceToInt] at *) <;> omega)))
          refine r_al0 (q := 151) d_MO_method_150 rfl ?_
          refine gt_MO_handlers (q := 154) d_MO_method_151 rfl rfl ?_
          refine r_il7 (q := 156) d_MO_method_154 rfl ?_
          refine r_ic (v := 0) (q := 157) d_MO_method_156 rfl rfl ?_
          refine sv_149 (q := 158) d_MO_method_157 ?_ rfl ?_
          · (refine vp_of ?_ ?_ <;> (((try simp +decide only [b01, b10, b11, am_up, and_true, and_false, true_and, false_and, if_true, if_false, nn_eq] at *) <;> (try simp only [i32_lt, i32_le, i32_eq, i32_addw, i32_subw, i32_mulw, Int32.reduceToInt] at *) <;> omega)))
          refine r_al0 (q := 159) d_MO_method_158 rfl ?_
          refine gt_MO_begin (q := 162) d_MO_method_159 rfl rfl ?_
          refine r_il7 (q := 164) d_MO_method_162 rfl ?_
          refine r_ic (v := 1) (q := 165) d_MO_method_164 rfl rfl ?_
          refine r_iadd (q := 166) d_MO_method_165 rfl ?_
          refine r_al0 (q := 167) d_MO_method_166 rfl ?_
          refine gt_MO_begin (q := 170) d_MO_method_167 rfl rfl ?_
          refine r_il7 (q := 172) d_MO_method_170 rfl ?_
          refine ld_143 (q := 173) d_MO_method_172 ?_ rfl ?_
          · (refine vp_of ?_ ?_ <;> (((try simp +decide only [b01, b10, b11, am_up, and_true, and_false, true_and, false_and, if_true, if_false, nn_eq] at *) <;> (try simp only [i32_lt, i32_le, i32_eq, i32_addw, i32_subw, i32_mulw, Int32.reduceToInt] at *) <;> omega)))
          refine r_il1 (q := 174) d_MO_method_173 rfl ?_
          refine r_iadd (q := 175) d_MO_method_174 rfl ?_
          refine sv_143 (q := 176) d_MO_method_175 ?_ rfl ?_
          · (refine vp_of ?_ ?_ <;> (((try simp +decide only [b01, b10, b11, am_up, and_true, and_false, true_and, false_and, if_true, if_false, nn_eq] at *) <;> (try simp only [i32_lt, i32_le, i32_eq, i32_addw, i32_subw, i32_mulw, Int32.reduceToInt] at *) <;> omega)))
          refine r_al0 (q := 177) d_MO_method_176 rfl ?_
          refine r_dupr (q := 178) d_MO_method_177 rfl ?_
          refine gt_MO_methods (q := 181) d_MO_method_178 rfl rfl ?_
          refine r_ic (v := 1) (q := 182) d_MO_method_181 rfl rfl ?_
          refine r_iadd (q := 183) d_MO_method_182 rfl ?_
          refine pt_MO_methods (q := 186) d_MO_method_183 rfl rfl ?_
          refine r_il7 (q := 188) d_MO_method_186 rfl ?_
          refine r_ri d_MO_method_188 ?_
          first | (refine h1 ?_ <;> ((try simp +decide only [b01, b10, b11, am_up, and_true, and_false, true_and, false_and, if_true, if_false, nn_eq] at *) <;> (try simp only [i32_lt, i32_le, i32_eq, i32_addw, i32_subw, i32_mulw, Int32.reduceToInt] at *) <;> omega)) | (refine h2 ?_ <;> ((try simp +decide only [b01, b10, b11, am_up, and_true, and_false, true_and, false_and, if_true, if_false, nn_eq] at *) <;> (try simp only [i32_lt, i32_le, i32_eq, i32_addw, i32_subw, i32_mulw, Int32.reduceToInt] at *) <;> omega)) | (refine h3 ?_ <;> ((try simp +decide only [b01, b10, b11, am_up, and_true, and_false, true_and, false_and, if_true, if_false, nn_eq] at *) <;> (try simp only [i32_lt, i32_le, i32_eq, i32_addw, i32_subw, i32_mulw, Int32.reduceToInt] at *) <;> omega)) | (exfalso; ((try simp +decide only [b01, b10, b11, am_up, and_true, and_false, true_and, false_and, if_true, if_false, nn_eq] at *) <;> (try simp only [i32_lt, i32_le, i32_eq, i32_addw, i32_subw, i32_mulw, Int32.reduceToInt] at *) <;> omega))
        · skip
          refine r_ic (v := 0) (q := 101) d_MO_method_100 rfl rfl ?_
          refine r_ri d_MO_method_101 ?_
          first | (refine h1 ?_ <;> ((try simp +decide only [b01, b10, b11, am_up, and_true, and_false, true_and, false_and, if_true, if_false, nn_eq] at *) <;> (try simp only [i32_lt, i32_le, i32_eq, i32_addw, i32_subw, i32_mulw, Int32.reduceToInt] at *) <;> omega)) | (refine h2 ?_ <;> ((try simp +decide only [b01, b10, b11, am_up, and_true, and_false, true_and, false_and, if_true, if_false, nn_eq] at *) <;> (try simp only [i32_lt, i32_le, i32_eq, i32_addw, i32_subw, i32_mulw, Int32.reduceToInt] at *) <;> omega)) | (refine h3 ?_ <;> ((try simp +decide only [b01, b10, b11, am_up, and_true, and_false, true_and, false_and, if_true, if_false, nn_eq] at *) <;> (try simp only [i32_lt, i32_le, i32_eq, i32_addw, i32_subw, i32_mulw, Int32.reduceToInt] at *) <;> omega)) | (exfalso; ((try simp +decide only [b01, b10, b11, am_up, and_true, and_false, true_and, false_and, if_true, if_false, nn_eq] at *) <;> (try simp only [i32_lt, i32_le, i32_eq, i32_addw, i32_subw, i32_mulw, Int32.reduceToInt] at *) <;> omega))
    · skip
      refine r_il4 (q := 21) d_MO_method_19 rfl ?_
      refine r_ic (v := 0) (q := 22) d_MO_method_21 rfl rfl ?_
      refine r_bp (v := 8) (q := 24) d_MO_method_22 rfl rfl ?_
      refine r_si3 mo_MO_in d_MO_method_24 rfl rfl (q := 27) rfl ?_
      refine sp_MO_in ?_
      refine r_zeq (tgt := 56) (q := 30) d_MO_method_27 rfl rfl (fun e27 => ?_) (fun e27 => ?_)
      · skip
        refine r_ic (v := 0) (q := 57) d_MO_method_56 rfl rfl ?_
        refine r_is6 (q := 59) d_MO_method_57 rfl ?_
        refine r_al0 (q := 60) d_MO_method_59 rfl ?_
        refine r_il6 (q := 62) d_MO_method_60 rfl ?_
        refine r_zne (tgt := 69) (q := 65) d_MO_method_62 rfl rfl (fun e62 => ?_) (fun e62 => ?_)
        · skip
          refine r_al0 (q := 70) d_MO_method_69 rfl ?_
          refine gt_MO_methods (q := 73) d_MO_method_70 rfl rfl ?_
          refine r_bp (v := 8) (q := 75) d_MO_method_73 rfl rfl ?_
          refine r_ceq (tgt := 85) (q := 78) d_MO_method_75 rfl rfl (fun e75 => ?_) (fun e75 => ?_)
          · skip
            refine r_ic (v := 2) (q := 86) d_MO_method_85 rfl rfl ?_
            refine am_go (tgt := 90) d_MO_method_86 rfl ?_
            refine pt_MO_thrown (q := 93) d_MO_method_90 rfl rfl ?_
            refine r_al0 (q := 94) d_MO_method_93 rfl ?_
            refine gt_MO_thrown (q := 97) d_MO_method_94 rfl rfl ?_
            refine r_zle (tgt := 102) (q := 100) d_MO_method_97 rfl rfl (fun e97 => ?_) (fun e97 => ?_)
            · skip
              refine r_al0 (q := 103) d_MO_method_102 rfl ?_
              refine gt_MO_methods (q := 106) d_MO_method_103 rfl rfl ?_
              refine r_is7 (q := 108) d_MO_method_106 rfl ?_
              refine r_al0 (q := 109) d_MO_method_108 rfl ?_
              refine gt_MO_length (q := 112) d_MO_method_109 rfl rfl ?_
              refine r_il7 (q := 114) d_MO_method_112 rfl ?_
              refine r_il1 (q := 115) d_MO_method_114 rfl ?_
              refine sv_144 (q := 116) d_MO_method_115 ?_ rfl ?_
              · (refine vp_of ?_ ?_ <;> (((try simp +decide only [b01, b10, b11, am_up, and_true, and_false, true_and, false_and, if_true, if_false, nn_eq] at *) <;> (try simp only [i32_lt, i32_le, i32_eq, i32_addw, i32_subw, i32_mulw, Int32.reduceToInt] at *) <;> omega)))
              refine r_al0 (q := 117) d_MO_method_116 rfl ?_
              refine gt_MO_takes (q := 120) d_MO_method_117 rfl rfl ?_
              refine r_il7 (q := 122) d_MO_method_120 rfl ?_
              refine r_il2 (q := 123) d_MO_method_122 rfl ?_
              refine sv_145 (q := 124) d_MO_method_123 ?_ rfl ?_
              · (refine vp_of ?_ ?_ <;> (((try simp +decide only [b01, b10, b11, am_up, and_true, and_false, true_and, false_and, if_true, if_false, nn_eq] at *) <;> (try simp only [i32_lt, i32_le, i32_eq, i32_addw, i32_subw, i32_mulw, Int32.reduceToInt] at *) <;> omega)))
              refine r_al0 (q := 125) d_MO_method_124 rfl ?_
              refine gt_MO_locals (q := 128) d_MO_method_125 rfl rfl ?_
              refine r_il7 (q := 130) d_MO_method_128 rfl ?_
              refine r_il3 (q := 131) d_MO_method_130 rfl ?_
              refine sv_146 (q := 132) d_MO_method_131 ?_ rfl ?_
              · (refine vp_of ?_ ?_ <;> (((try simp +decide only [b01, b10, b11, am_up, and_true, and_false, true_and, false_and, if_true, if_false, nn_eq] at *) <;> (try simp only [i32_lt, i32_le, i32_eq, i32_addw, i32_subw, i32_mulw, Int32.reduceToInt] at *) <;> omega)))
              refine r_al0 (q := 133) d_MO_method_132 rfl ?_
              refine gt_MO_height (q := 136) d_MO_method_133 rfl rfl ?_
              refine r_il7 (q := 138) d_MO_method_136 rfl ?_
              refine r_il4 (q := 140) d_MO_method_138 rfl ?_
              refine sv_147 (q := 141) d_MO_method_140 ?_ rfl ?_
              · (refine vp_of ?_ ?_ <;> (((try simp +decide only [b01, b10, b11, am_up, and_true, and_false, true_and, false_and, if_true, if_false, nn_eq] at *) <;> (try simp only [i32_lt, i32_le, i32_eq, i32_addw, i32_subw, i32_mulw, Int32.reduceToInt] at *) <;> omega)))
              refine r_al0 (q := 142) d_MO_method_141 rfl ?_
              refine gt_MO_gives (q := 145) d_MO_method_142 rfl rfl ?_
              refine r_il7 (q := 147) d_MO_method_145 rfl ?_
              refine r_il5 (q := 149) d_MO_method_147 rfl ?_
              refine sv_148 (q := 150) d_MO_method_149 (by first | assumption | omega | decide | ((try simp +decide only [b01, b10, b11, am_up, and_true, and_false, true_and, false_and, if_true, if_false, nn_eq] at *) <;> (try simp only [i32_lt, i32_le, i32_eq, i32_addw, i32_subw, i32_mulw, Int32.reduceToInt] at *) <;> omega)) ?_ rfl ?_
              · (refine vp_of ?_ ?_ <;> (((try simp +decide only [b01, b10, b11, am_up, and_true, and_false, true_and, false_and, if_true, if_false, nn_eq] at *) <;> (try simp only [i32_lt, i32_le, i32_eq, i32_addw, i32_subw, i32_mulw, Int32.reduceToInt] at *) <;> omega)))
              refine r_al0 (q := 151) d_MO_method_150 rfl ?_
              refine gt_MO_handlers (q := 154) d_MO_method_151 rfl rfl ?_
              refine r_il7 (q := 156) d_MO_method_154 rfl ?_
              refine r_ic (v := 0) (q := 157) d_MO_method_156 rfl rfl ?_
              refine sv_149 (q := 158) d_MO_method_157 ?_ rfl ?_
              · (refine vp_of ?_ ?_ <;> (((try simp +decide only [b01, b10, b11, am_up, and_true, and_false, true_and, false_and, if_true, if_false, nn_eq] at *) <;> (try simp only [i32_lt, i32_le, i32_eq, i32_addw, i32_subw, i32_mulw, Int32.reduceToInt] at *) <;> omega)))
              refine r_al0 (q := 159) d_MO_method_158 rfl ?_
              refine gt_MO_begin (q := 162) d_MO_method_159 rfl rfl ?_
              refine r_il7 (q := 164) d_MO_method_162 rfl ?_
              refine r_ic (v := 1) (q := 165) d_MO_method_164 rfl rfl ?_
              refine r_iadd (q := 166) d_MO_method_165 rfl ?_
              refine r_al0 (q := 167) d_MO_method_166 rfl ?_
              refine gt_MO_begin (q := 170) d_MO_method_167 rfl rfl ?_
              refine r_il7 (q := 172) d_MO_method_170 rfl ?_
              refine ld_143 (q := 173) d_MO_method_172 ?_ rfl ?_
              · (refine vp_of ?_ ?_ <;> (((try simp +decide only [b01, b10, b11, am_up, and_true, and_false, true_and, false_and, if_true, if_false, nn_eq] at *) <;> (try simp only [i32_lt, i32_le, i32_eq, i32_addw, i32_subw, i32_mulw, Int32.reduceToInt] at *) <;> omega)))
              refine r_il1 (q := 174) d_MO_method_173 rfl ?_
              refine r_iadd (q := 175) d_MO_method_174 rfl ?_
              refine sv_143 (q := 176) d_MO_method_175 ?_ rfl ?_
              · (refine vp_of ?_ ?_ <;> (((try simp +decide only [b01, b10, b11, am_up, and_true, and_false, true_and, false_and, if_true, if_false, nn_eq] at *) <;> (try simp only [i32_lt, i32_le, i32_eq, i32_addw, i32_subw, i32_mulw, Int32.reduceToInt] at *) <;> omega)))
              refine r_al0 (q := 177) d_MO_method_176 rfl ?_
              refine r_dupr (q := 178) d_MO_method_177 rfl ?_
              refine gt_MO_methods (q := 181) d_MO_method_178 rfl rfl ?_
              refine r_ic (v := 1) (q := 182) d_MO_method_181 rfl rfl ?_
              refine r_iadd (q := 183) d_MO_method_182 rfl ?_
              refine pt_MO_methods (q := 186) d_MO_method_183 rfl rfl ?_
              refine r_il7 (q := 188) d_MO_method_186 rfl ?_
              refine r_ri d_MO_method_188 ?_
              first | (refine h1 ?_ <;> ((try simp +decide only [b01, b10, b11, am_up, and_true, and_false, true_and, false_and, if_true, if_false, nn_eq] at *) <;> (try simp only [i32_lt, i32_le, i32_eq, i32_addw, i32_subw, i32_mulw, Int32.reduceToInt] at *) <;> omega)) | (refine h2 ?_ <;> ((try simp +decide only [b01, b10, b11, am_up, and_true, and_false, true_and, false_and, if_true, if_false, nn_eq] at *) <;> (try simp only [i32_lt, i32_le, i32_eq, i32_addw, i32_subw, i32_mulw, Int32.reduceToInt] at *) <;> omega)) | (refine h3 ?_ <;> ((try simp +decide only [b01, b10, b11, am_up, and_true, and_false, true_and, false_and, if_true, if_false, nn_eq] at *) <;> (try simp only [i32_lt, i32_le, i32_eq, i32_addw, i32_subw, i32_mulw, Int32.reduceToInt] at *) <;> omega)) | (exfalso; ((try simp +decide only [b01, b10, b11, am_up, and_true, and_false, true_and, false_and, if_true, if_false, nn_eq] at *) <;> (try simp only [i32_lt, i32_le, i32_eq, i32_addw, i32_subw, i32_mulw, Int32.reduceToInt] at *) <;> omega))
            · skip
              refine r_ic (v := 0) (q := 101) d_MO_method_100 rfl rfl ?_
              refine r_ri d_MO_method_101 ?_
              first | (refine h1 ?_ <;> ((try simp +decide only [b01, b10, b11, am_up, and_true, and_false, true_and, false_and, if_true, if_false, nn_eq] at *) <;> (try simp only [i32_lt, i32_le, i32_eq, i32_addw, i32_subw, i32_mulw, Int32.reduceToInt] at *) <;> omega)) | (refine h2 ?_ <;> ((try simp +decide only [b01, b10, b11, am_up, and_true, and_false, true_and, false_and, if_true, if_false, nn_eq] at *) <;> (try simp only [i32_lt, i32_le, i32_eq, i32_addw, i32_subw, i32_mulw, Int32.reduceToInt] at *) <;> omega)) | (refine h3 ?_ <;> ((try simp +decide only [b01, b10, b11, am_up, and_true, and_false, true_and, false_and, if_true, if_false, nn_eq] at *) <;> (try simp only [i32_lt, i32_le, i32_eq, i32_addw, i32_subw, i32_mulw, Int32.reduceToInt] at *) <;> omega)) | (exfalso; ((try simp +decide only [b01, b10, b11, am_up, and_true, and_false, true_and, false_and, if_true, if_false, nn_eq] at *) <;> (try simp only [i32_lt, i32_le, i32_eq, i32_addw, i32_subw, i32_mulw, Int32.reduceToInt] at *) <;> omega))
          · skip
            refine r_al0 (q := 79) d_MO_method_78 rfl ?_
            refine gt_MO_verified (q := 82) d_MO_method_79 rfl rfl ?_
            refine r_zeq (tgt := 89) (q := 85) d_MO_method_82 rfl rfl (fun e82 => ?_) (fun e82 => ?_)
            · skip
              refine r_ic (v := 0) (q := 90) d_MO_method_89 rfl rfl ?_
              refine pt_MO_thrown (q := 93) d_MO_method_90 rfl rfl ?_
              refine r_al0 (q := 94) d_MO_method_93 rfl ?_
              refine gt_MO_thrown (q := 97) d_MO_method_94 rfl rfl ?_
              refine r_zle (tgt := 102) (q := 100) d_MO_method_97 rfl rfl (fun e97 => ?_) (fun e97 => ?_)
              · skip
                refine r_al0 (q := 103) d_MO_method_102 rfl ?_
                refine gt_MO_methods (q := 106) d_MO_method_103 rfl rfl ?_
                refine r_is7 (q := 108) d_MO_method_106 rfl ?_
                refine r_al0 (q := 109) d_MO_method_108 rfl ?_
                refine gt_MO_length (q := 112) d_MO_method_109 rfl rfl ?_
                refine r_il7 (q := 114) d_MO_method_112 rfl ?_
                refine r_il1 (q := 115) d_MO_method_114 rfl ?_
                refine sv_144 (q := 116) d_MO_method_115 ?_ rfl ?_
                · (refine vp_of ?_ ?_ <;> (((try simp +decide only [b01, b10, b11, am_up, and_true, and_false, true_and, false_and, if_true, if_false, nn_eq] at *) <;> (try simp only [i32_lt, i32_le, i32_eq, i32_addw, i32_subw, i32_mulw, Int32.reduceToInt] at *) <;> omega)))
                refine r_al0 (q := 117) d_MO_method_116 rfl ?_
                refine gt_MO_takes (q := 120) d_MO_method_117 rfl rfl ?_
                refine r_il7 (q := 122) d_MO_method_120 rfl ?_
                refine r_il2 (q := 123) d_MO_method_122 rfl ?_
                refine sv_145 (q := 124) d_MO_method_123 ?_ rfl ?_
                · (refine vp_of ?_ ?_ <;> (((try simp +decide only [b01, b10, b11, am_up, and_true, and_false, true_and, false_and, if_true, if_false, nn_eq] at *) <;> (try simp only [i32_lt, i32_le, i32_eq, i32_addw, i32_subw, i32_mulw, Int32.reduceToInt] at *) <;> omega)))
                refine r_al0 (q := 125) d_MO_method_124 rfl ?_
                refine gt_MO_locals (q := 128) d_MO_method_125 rfl rfl ?_
                refine r_il7 (q := 130) d_MO_method_128 rfl ?_
                refine r_il3 (q := 131) d_MO_method_130 rfl ?_
                refine sv_146 (q := 132) d_MO_method_131 ?_ rfl ?_
                · (refine vp_of ?_ ?_ <;> (((try simp +decide only [b01, b10, b11, am_up, and_true, and_false, true_and, false_and, if_true, if_false, nn_eq] at *) <;> (try simp only [i32_lt, i32_le, i32_eq, i32_addw, i32_subw, i32_mulw, Int32.reduceToInt] at *) <;> omega)))
                refine r_al0 (q := 133) d_MO_method_132 rfl ?_
                refine gt_MO_height (q := 136) d_MO_method_133 rfl rfl ?_
                refine r_il7 (q := 138) d_MO_method_136 rfl ?_
                refine r_il4 (q := 140) d_MO_method_138 rfl ?_
                refine sv_147 (q := 141) d_MO_method_140 ?_ rfl ?_
                · (refine vp_of ?_ ?_ <;> (((try simp +decide only [b01, b10, b11, am_up, and_true, and_false, true_and, false_and, if_true, if_false, nn_eq] at *) <;> (try simp only [i32_lt, i32_le, i32_eq, i32_addw, i32_subw, i32_mulw, Int32.reduceToInt] at *) <;> omega)))
                refine r_al0 (q := 142) d_MO_method_141 rfl ?_
                refine gt_MO_gives (q := 145) d_MO_method_142 rfl rfl ?_
                refine r_il7 (q := 147) d_MO_method_145 rfl ?_
                refine r_il5 (q := 149) d_MO_method_147 rfl ?_
                refine sv_148 (q := 150) d_MO_method_149 (by first | assumption | omega | decide | ((try simp +decide only [b01, b10, b11, am_up, and_true, and_false, true_and, false_and, if_true, if_false, nn_eq] at *) <;> (try simp only [i32_lt, i32_le, i32_eq, i32_addw, i32_subw, i32_mulw, Int32.reduceToInt] at *) <;> omega)) ?_ rfl ?_
                · (refine vp_of ?_ ?_ <;> (((try simp +decide only [b01, b10, b11, am_up, and_true, and_false, true_and, false_and, if_true, if_false, nn_eq] at *) <;> (try simp only [i32_lt, i32_le, i32_eq, i32_addw, i32_subw, i32_mulw, Int32.reduceToInt] at *) <;> omega)))
                refine r_al0 (q := 151) d_MO_method_150 rfl ?_
                refine gt_MO_handlers (q := 154) d_MO_method_151 rfl rfl ?_
                refine r_il7 (q := 156) d_MO_method_154 rfl ?_
                refine r_ic (v := 0) (q := 157) d_MO_method_156 rfl rfl ?_
                refine sv_149 (q := 158) d_MO_method_157 ?_ rfl ?_
                · (refine vp_of ?_ ?_ <;> (((try simp +decide only [b01, b10, b11, am_up, and_true, and_false, true_and, false_and, if_true, if_false, nn_eq] at *) <;> (try simp only [i32_lt, i32_le, i32_eq, i32_addw, i32_subw, i32_mulw, Int32.reduceToInt] at *) <;> omega)))
                refine r_al0 (q := 159) d_MO_method_158 rfl ?_
                refine gt_MO_begin (q := 162) d_MO_method_159 rfl rfl ?_
                refine r_il7 (q := 164) d_MO_method_162 rfl ?_
                refine r_ic (v := 1) (q := 165) d_MO_method_164 rfl rfl ?_
                refine r_iadd (q := 166) d_MO_method_165 rfl ?_
                refine r_al0 (q := 167) d_MO_method_166 rfl ?_
                refine gt_MO_begin (q := 170) d_MO_method_167 rfl rfl ?_
                refine r_il7 (q := 172) d_MO_method_170 rfl ?_
                refine ld_143 (q := 173) d_MO_method_172 ?_ rfl ?_
                · (refine vp_of ?_ ?_ <;> (((try simp +decide only [b01, b10, b11, am_up, and_true, and_false, true_and, false_and, if_true, if_false, nn_eq] at *) <;> (try simp only [i32_lt, i32_le, i32_eq, i32_addw, i32_subw, i32_mulw, Int32.reduceToInt] at *) <;> omega)))
                refine r_il1 (q := 174) d_MO_method_173 rfl ?_
                refine r_iadd (q := 175) d_MO_method_174 rfl ?_
                refine sv_143 (q := 176) d_MO_method_175 ?_ rfl ?_
                · (refine vp_of ?_ ?_ <;> (((try simp +decide only [b01, b10, b11, am_up, and_true, and_false, true_and, false_and, if_true, if_false, nn_eq] at *) <;> (try simp only [i32_lt, i32_le, i32_eq, i32_addw, i32_subw, i32_mulw, Int32.reduceToInt] at *) <;> omega)))
                refine r_al0 (q := 177) d_MO_method_176 rfl ?_
                refine r_dupr (q := 178) d_MO_method_177 rfl ?_
                refine gt_MO_methods (q := 181) d_MO_method_178 rfl rfl ?_
                refine r_ic (v := 1) (q := 182) d_MO_method_181 rfl rfl ?_
                refine r_iadd (q := 183) d_MO_method_182 rfl ?_
                refine pt_MO_methods (q := 186) d_MO_method_183 rfl rfl ?_
                refine r_il7 (q := 188) d_MO_method_186 rfl ?_
                refine r_ri d_MO_method_188 ?_
                first | (refine h1 ?_ <;> ((try simp +decide only [b01, b10, b11, am_up, and_true, and_false, true_and, false_and, if_true, if_false, nn_eq] at *) <;> (try simp only [i32_lt, i32_le, i32_eq, i32_addw, i32_subw, i32_mulw, Int32.reduceToInt] at *) <;> omega)) | (refine h2 ?_ <;> ((try simp +decide only [b01, b10, b11, am_up, and_true, and_false, true_and, false_and, if_true, if_false, nn_eq] at *) <;> (try simp only [i32_lt, i32_le, i32_eq, i32_addw, i32_subw, i32_mulw, Int32.reduceToInt] at *) <;> omega)) | (refine h3 ?_ <;> ((try simp +decide only [b01, b10, b11, am_up, and_true, and_false, true_and, false_and, if_true, if_false, nn_eq] at *) <;> (try simp only [i32_lt, i32_le, i32_eq, i32_addw, i32_subw, i32_mulw, Int32.reduceToInt] at *) <;> omega)) | (exfalso; ((try simp +decide only [b01, b10, b11, am_up, and_true, and_false, true_and, false_and, if_true, if_false, nn_eq] at *) <;> (try simp only [i32_lt, i32_le, i32_eq, i32_addw, i32_subw, i32_mulw, Int32.reduceToInt] at *) <;> omega))
              · skip
                refine r_ic (v := 0) (q := 101) d_MO_method_100 rfl rfl ?_
                refine r_ri d_MO_method_101 ?_
                first | (refine h1 ?_ <;> ((try simp +decide only [b01, b10, b11, am_up, and_true, and_false, true_and, false_and, if_true, if_false, nn_eq] at *) <;> (try simp only [i32_lt, i32_le, i32_eq, i32_addw, i32_subw, i32_mulw, Int32.reduceToInt] at *) <;> omega)) | (refine h2 ?_ <;> ((try simp +decide only [b01, b10, b11, am_up, and_true, and_false, true_and, false_and, if_true, if_false, nn_eq] at *) <;> (try simp only [i32_lt, i32_le, i32_eq, i32_addw, i32_subw, i32_mulw, Int32.reduceToInt] at *) <;> omega)) | (refine h3 ?_ <;> ((try simp +decide only [b01, b10, b11, am_up, and_true, and_false, true_and, false_and, if_true, if_false, nn_eq] at *) <;> (try simp only [i32_lt, i32_le, i32_eq, i32_addw, i32_subw, i32_mulw, Int32.reduceToInt] at *) <;> omega)) | (exfalso; ((try simp +decide only [b01, b10, b11, am_up, and_true, and_false, true_and, false_and, if_true, if_false, nn_eq] at *) <;> (try simp only [i32_lt, i32_le, i32_eq, i32_addw, i32_subw, i32_mulw, Int32.reduceToInt] at *) <;> omega))
            · skip
              refine r_ic (v := 2) (q := 86) d_MO_method_85 rfl rfl ?_
              refine am_go (tgt := 90) d_MO_method_86 rfl ?_
              refine pt_MO_thrown (q := 93) d_MO_method_90 rfl rfl ?_
              refine r_al0 (q := 94) d_MO_method_93 rfl ?_
              refine gt_MO_thrown (q := 97) d_MO_method_94 rfl rfl ?_
              refine r_zle (tgt := 102) (q := 100) d_MO_method_97 rfl rfl (fun e97 => ?_) (fun e97 => ?_)
              · skip
                refine r_al0 (q := 103) d_MO_method_102 rfl ?_
                refine gt_MO_methods (q := 106) d_MO_method_103 rfl rfl ?_
                refine r_is7 (q := 108) d_MO_method_106 rfl ?_
                refine r_al0 (q := 109) d_MO_method_108 rfl ?_
                refine gt_MO_length (q := 112) d_MO_method_109 rfl rfl ?_
                refine r_il7 (q := 114) d_MO_method_112 rfl ?_
                refine r_il1 (q := 115) d_MO_method_114 rfl ?_
                refine sv_144 (q := 116) d_MO_method_115 ?_ rfl ?_
                · (refine vp_of ?_ ?_ <;> (((try simp +decide only [b01, b10, b11, am_up, and_true, and_false, true_and, false_and, if_true, if_false, nn_eq] at *) <;> (try simp only [i32_lt, i32_le, i32_eq, i32_addw, i32_subw, i32_mulw, Int32.reduceToInt] at *) <;> omega)))
                refine r_al0 (q := 117) d_MO_method_116 rfl ?_
                refine gt_MO_takes (q := 120) d_MO_method_117 rfl rfl ?_
                refine r_il7 (q := 122) d_MO_method_120 rfl ?_
                refine r_il2 (q := 123) d_MO_method_122 rfl ?_
                refine sv_145 (q := 124) d_MO_method_123 ?_ rfl ?_
                · (refine vp_of ?_ ?_ <;> (((try simp +decide only [b01, b10, b11, am_up, and_true, and_false, true_and, false_and, if_true, if_false, nn_eq] at *) <;> (try simp only [i32_lt, i32_le, i32_eq, i32_addw, i32_subw, i32_mulw, Int32.reduceToInt] at *) <;> omega)))
                refine r_al0 (q := 125) d_MO_method_124 rfl ?_
                refine gt_MO_locals (q := 128) d_MO_method_125 rfl rfl ?_
                refine r_il7 (q := 130) d_MO_method_128 rfl ?_
                refine r_il3 (q := 131) d_MO_method_130 rfl ?_
                refine sv_146 (q := 132) d_MO_method_131 ?_ rfl ?_
                · (refine vp_of ?_ ?_ <;> (((try simp +decide only [b01, b10, b11, am_up, and_true, and_false, true_and, false_and, if_true, if_false, nn_eq] at *) <;> (try simp only [i32_lt, i32_le, i32_eq, i32_addw, i32_subw, i32_mulw, Int32.reduceToInt] at *) <;> omega)))
                refine r_al0 (q := 133) d_MO_method_132 rfl ?_
                refine gt_MO_height (q := 136) d_MO_method_133 rfl rfl ?_
                refine r_il7 (q := 138) d_MO_method_136 rfl ?_
                refine r_il4 (q := 140) d_MO_method_138 rfl ?_
                refine sv_147 (q := 141) d_MO_method_140 ?_ rfl ?_
                · (refine vp_of ?_ ?_ <;> (((try simp +decide only [b01, b10, b11, am_up, and_true, and_false, true_and, false_and, if_true, if_false, nn_eq] at *) <;> (try simp only [i32_lt, i32_le, i32_eq, i32_addw, i32_subw, i32_mulw, Int32.reduceToInt] at *) <;> omega)))
                refine r_al0 (q := 142) d_MO_method_141 rfl ?_
                refine gt_MO_gives (q := 145) d_MO_method_142 rfl rfl ?_
                refine r_il7 (q := 147) d_MO_method_145 rfl ?_
                refine r_il5 (q := 149) d_MO_method_147 rfl ?_
                refine sv_148 (q := 150) d_MO_method_149 (by first | assumption | omega | decide | ((try simp +decide only [b01, b10, b11, am_up, and_true, and_false, true_and, false_and, if_true, if_false, nn_eq] at *) <;> (try simp only [i32_lt, i32_le, i32_eq, i32_addw, i32_subw, i32_mulw, Int32.reduceToInt] at *) <;> omega)) ?_ rfl ?_
                · (refine vp_of ?_ ?_ <;> (((try simp +decide only [b01, b10, b11, am_up, and_true, and_false, true_and, false_and, if_true, if_false, nn_eq] at *) <;> (try simp only [i32_lt, i32_le, i32_eq, i32_addw, i32_subw, i32_mulw, Int32.reduceToInt] at *) <;> omega)))
                refine r_al0 (q := 151) d_MO_method_150 rfl ?_
                refine gt_MO_handlers (q := 154) d_MO_method_151 rfl rfl ?_
                refine r_il7 (q := 156) d_MO_method_154 rfl ?_
                refine r_ic (v := 0) (q := 157) d_MO_method_156 rfl rfl ?_
                refine sv_149 (q := 158) d_MO_method_157 ?_ rfl ?_
                · (refine vp_of ?_ ?_ <;> (((try simp +decide only [b01, b10, b11, am_up, and_true, and_false, true_and, false_and, if_true, if_false, nn_eq] at *) <;> (try simp only [i32_lt, i32_le, i32_eq, i32_addw, i32_subw, i32_mulw, Int32.reduceToInt] at *) <;> omega)))
                refine r_al0 (q := 159) d_MO_method_158 rfl ?_
                refine gt_MO_begin (q := 162) d_MO_method_159 rfl rfl ?_
                refine r_il7 (q := 164) d_MO_method_162 rfl ?_
                refine r_ic (v := 1) (q := 165) d_MO_method_164 rfl rfl ?_
                refine r_iadd (q := 166) d_MO_method_165 rfl ?_
                refine r_al0 (q := 167) d_MO_method_166 rfl ?_
                refine gt_MO_begin (q := 170) d_MO_method_167 rfl rfl ?_
                refine r_il7 (q := 172) d_MO_method_170 rfl ?_
                refine ld_143 (q := 173) d_MO_method_172 ?_ rfl ?_
                · (refine vp_of ?_ ?_ <;> (((try simp +decide only [b01, b10, b11, am_up, and_true, and_false, true_and, false_and, if_true, if_false, nn_eq] at *) <;> (try simp only [i32_lt, i32_le, i32_eq, i32_addw, i32_subw, i32_mulw, Int32.reduceToInt] at *) <;> omega)))
                refine r_il1 (q := 174) d_MO_method_173 rfl ?_
                refine r_iadd (q := 175) d_MO_method_174 rfl ?_
                refine sv_143 (q := 176) d_MO_method_175 ?_ rfl ?_
                · (refine vp_of ?_ ?_ <;> (((try simp +decide only [b01, b10, b11, am_up, and_true, and_false, true_and, false_and, if_true, if_false, nn_eq] at *) <;> (try simp only [i32_lt, i32_le, i32_eq, i32_addw, i32_subw, i32_mulw, Int32.reduceToInt] at *) <;> omega)))
                refine r_al0 (q := 177) d_MO_method_176 rfl ?_
                refine r_dupr (q := 178) d_MO_method_177 rfl ?_
                refine gt_MO_methods (q := 181) d_MO_method_178 rfl rfl ?_
                refine r_ic (v := 1) (q := 182) d_MO_method_181 rfl rfl ?_
                refine r_iadd (q := 183) d_MO_method_182 rfl ?_
                refine pt_MO_methods (q := 186) d_MO_method_183 rfl rfl ?_
                refine r_il7 (q := 188) d_MO_method_186 rfl ?_
                refine r_ri d_MO_method_188 ?_
                first | (refine h1 ?_ <;> ((try simp +decide only [b01, b10, b11, am_up, and_true, and_false, true_and, false_and, if_true, if_false, nn_eq] at *) <;> (try simp only [i32_lt, i32_le, i32_eq, i32_addw, i32_subw, i32_mulw, Int32.reduceToInt] at *) <;> omega)) | (refine h2 ?_ <;> ((try simp +decide only [b01, b10, b11, am_up, and_true, and_false, true_and, false_and, if_true, if_false, nn_eq] at *) <;> (try simp only [i32_lt, i32_le, i32_eq, i32_addw, i32_subw, i32_mulw, Int32.reduceToInt] at *) <;> omega)) | (refine h3 ?_ <;> ((try simp +decide only [b01, b10, b11, am_up, and_true, and_false, true_and, false_and, if_true, if_false, nn_eq] at *) <;> (try simp only [i32_lt, i32_le, i32_eq, i32_addw, i32_subw, i32_mulw, Int32.reduceToInt] at *) <;> omega)) | (exfalso; ((try simp +decide only [b01, b10, b11, am_up, and_true, and_false, true_and, false_and, if_true, if_false, nn_eq] at *) <;> (try simp only [i32_lt, i32_le, i32_eq, i32_addw, i32_subw, i32_mulw, Int32.reduceToInt] at *) <;> omega))
              · skip
                refine r_ic (v := 0) (q := 101) d_MO_method_100 rfl rfl ?_
                refine r_ri d_MO_method_101 ?_
                first | (refine h1 ?_ <;> ((try simp +decide only [b01, b10, b11, am_up, and_true, and_false, true_and, false_and, if_true, if_false, nn_eq] at *) <;> (try simp only [i32_lt, i32_le, i32_eq, i32_addw, i32_subw, i32_mulw, Int32.reduceToInt] at *) <;> omega)) | (refine h2 ?_ <;> ((try simp +decide only [b01, b10, b11, am_up, and_true, and_false, true_and, false_and, if_true, if_false, nn_eq] at *) <;> (try simp only [i32_lt, i32_le, i32_eq, i32_addw, i32_subw, i32_mulw, Int32.reduceToInt] at *) <;> omega)) | (refine h3 ?_ <;> ((try simp +decide only [b01, b10, b11, am_up, and_true, and_false, true_and, false_and, if_true, if_false, nn_eq] at *) <;> (try simp only [i32_lt, i32_le, i32_eq, i32_addw, i32_subw, i32_mulw, Int32.reduceToInt] at *) <;> omega)) | (exfalso; ((try simp +decide only [b01, b10, b11, am_up, and_true, and_false, true_and, false_and, if_true, if_false, nn_eq] at *) <;> (try simp only [i32_lt, i32_le, i32_eq, i32_addw, i32_subw, i32_mulw, Int32.reduceToInt] at *) <;> omega))
        · skip
          refine r_ic (v := 1) (q := 66) d_MO_method_65 rfl rfl ?_
          refine am_go (tgt := 90) d_MO_method_66 rfl ?_
          refine pt_MO_thrown (q := 93) d_MO_method_90 rfl rfl ?_
          refine r_al0 (q := 94) d_MO_method_93 rfl ?_
          refine gt_MO_thrown (q := 97) d_MO_method_94 rfl rfl ?_
          refine r_zle (tgt := 102) (q := 100) d_MO_method_97 rfl rfl (fun e97 => ?_) (fun e97 => ?_)
          · skip
            refine r_al0 (q := 103) d_MO_method_102 rfl ?_
            refine gt_MO_methods (q := 106) d_MO_method_103 rfl rfl ?_
            refine r_is7 (q := 108) d_MO_method_106 rfl ?_
            refine r_al0 (q := 109) d_MO_method_108 rfl ?_
            refine gt_MO_length (q := 112) d_MO_method_109 rfl rfl ?_
            refine r_il7 (q := 114) d_MO_method_112 rfl ?_
            refine r_il1 (q := 115) d_MO_method_114 rfl ?_
            refine sv_144 (q := 116) d_MO_method_115 ?_ rfl ?_
            · (refine vp_of ?_ ?_ <;> (((try simp +decide only [b01, b10, b11, am_up, and_true, and_false, true_and, false_and, if_true, if_false, nn_eq] at *) <;> (try simp only [i32_lt, i32_le, i32_eq, i32_addw, i32_subw, i32_mulw, Int32.reduceToInt] at *) <;> omega)))
            refine r_al0 (q := 117) d_MO_method_116 rfl ?_
            refine gt_MO_takes (q := 120) d_MO_method_117 rfl rfl ?_
            refine r_il7 (q := 122) d_MO_method_120 rfl ?_
            refine r_il2 (q := 123) d_MO_method_122 rfl ?_
            refine sv_145 (q := 124) d_MO_method_123 ?_ rfl ?_
            · (refine vp_of ?_ ?_ <;> (((try simp +decide only [b01, b10, b11, am_up, and_true, and_false, true_and, false_and, if_true, if_false, nn_eq] at *) <;> (try simp only [i32_lt, i32_le, i32_eq, i32_addw, i32_subw, i32_mulw, Int32.reduceToInt] at *) <;> omega)))
            refine r_al0 (q := 125) d_MO_method_124 rfl ?_
            refine gt_MO_locals (q := 128) d_MO_method_125 rfl rfl ?_
            refine r_il7 (q := 130) d_MO_method_128 rfl ?_
            refine r_il3 (q := 131) d_MO_method_130 rfl ?_
            refine sv_146 (q := 132) d_MO_method_131 ?_ rfl ?_
            · (refine vp_of ?_ ?_ <;> (((try simp +decide only [b01, b10, b11, am_up, and_true, and_false, true_and, false_and, if_true, if_false, nn_eq] at *) <;> (try simp only [i32_lt, i32_le, i32_eq, i32_addw, i32_subw, i32_mulw, Int32.reduceToInt] at *) <;> omega)))
            refine r_al0 (q := 133) d_MO_method_132 rfl ?_
            refine gt_MO_height (q := 136) d_MO_method_133 rfl rfl ?_
            refine r_il7 (q := 138) d_MO_method_136 rfl ?_
            refine r_il4 (q := 140) d_MO_method_138 rfl ?_
            refine sv_147 (q := 141) d_MO_method_140 ?_ rfl ?_
            · (refine vp_of ?_ ?_ <;> (((try simp +decide only [b01, b10, b11, am_up, and_true, and_false, true_and, false_and, if_true, if_false, nn_eq] at *) <;> (try simp only [i32_lt, i32_le, i32_eq, i32_addw, i32_subw, i32_mulw, Int32.reduceToInt] at *) <;> omega)))
            refine r_al0 (q := 142) d_MO_method_141 rfl ?_
            refine gt_MO_gives (q := 145) d_MO_method_142 rfl rfl ?_
            refine r_il7 (q := 147) d_MO_method_145 rfl ?_
            refine r_il5 (q := 149) d_MO_method_147 rfl ?_
            refine sv_148 (q := 150) d_MO_method_149 (by first | assumption | omega | decide | ((try simp +decide only [b01, b10, b11, am_up, and_true, and_false, true_and, false_and, if_true, if_false, nn_eq] at *) <;> (try simp only [i32_lt, i32_le, i32_eq, i32_addw, i32_subw, i32_mulw, Int32.reduceToInt] at *) <;> omega)) ?_ rfl ?_
            · (refine vp_of ?_ ?_ <;> (((try simp +decide only [b01, b10, b11, am_up, and_true, and_false, true_and, false_and, if_true, if_false, nn_eq] at *) <;> (try simp only [i32_lt, i32_le, i32_eq, i32_addw, i32_subw, i32_mulw, Int32.reduceToInt] at *) <;> omega)))
            refine r_al0 (q := 151) d_MO_method_150 rfl ?_
            refine gt_MO_handlers (q := 154) d_MO_method_151 rfl rfl ?_
            refine r_il7 (q := 156) d_MO_method_154 rfl ?_
            refine r_ic (v := 0) (q := 157) d_MO_method_156 rfl rfl ?_
            refine sv_149 (q := 158) d_MO_method_157 ?_ rfl ?_
            · (refine vp_of ?_ ?_ <;> (((try simp +decide only [b01, b10, b11, am_up, and_true, and_false, true_and, false_and, if_true, if_false, nn_eq] at *) <;> (try simp only [i32_lt, i32_le, i32_eq, i32_addw, i32_subw, i32_mulw, Int32.reduceToInt] at *) <;> omega)))
            refine r_al0 (q := 159) d_MO_method_158 rfl ?_
            refine gt_MO_begin (q := 162) d_MO_method_159 rfl rfl ?_
            refine r_il7 (q := 164) d_MO_method_162 rfl ?_
            refine r_ic (v := 1) (q := 165) d_MO_method_164 rfl rfl ?_
            refine r_iadd (q := 166) d_MO_method_165 rfl ?_
            refine r_al0 (q := 167) d_MO_method_166 rfl ?_
            refine gt_MO_begin (q := 170) d_MO_method_167 rfl rfl ?_
            refine r_il7 (q := 172) d_MO_method_170 rfl ?_
            refine ld_143 (q := 173) d_MO_method_172 ?_ rfl ?_
            · (refine vp_of ?_ ?_ <;> (((try simp +decide only [b01, b10, b11, am_up, and_true, and_false, true_and, false_and, if_true, if_false, nn_eq] at *) <;> (try simp only [i32_lt, i32_le, i32_eq, i32_addw, i32_subw, i32_mulw, Int32.reduceToInt] at *) <;> omega)))
            refine r_il1 (q := 174) d_MO_method_173 rfl ?_
            refine r_iadd (q := 175) d_MO_method_174 rfl ?_
            refine sv_143 (q := 176) d_MO_method_175 ?_ rfl ?_
            · (refine vp_of ?_ ?_ <;> (((try simp +decide only [b01, b10, b11, am_up, and_true, and_false, true_and, false_and, if_true, if_false, nn_eq] at *) <;> (try simp only [i32_lt, i32_le, i32_eq, i32_addw, i32_subw, i32_mulw, Int32.reduceToInt] at *) <;> omega)))
            refine r_al0 (q := 177) d_MO_method_176 rfl ?_
            refine r_dupr (q := 178) d_MO_method_177 rfl ?_
            refine gt_MO_methods (q := 181) d_MO_method_178 rfl rfl ?_
            refine r_ic (v := 1) (q := 182) d_MO_method_181 rfl rfl ?_
            refine r_iadd (q := 183) d_MO_method_182 rfl ?_
            refine pt_MO_methods (q := 186) d_MO_method_183 rfl rfl ?_
            refine r_il7 (q := 188) d_MO_method_186 rfl ?_
            refine r_ri d_MO_method_188 ?_
            first | (refine h1 ?_ <;> ((try simp +decide only [b01, b10, b11, am_up, and_true, and_false, true_and, false_and, if_true, if_false, nn_eq] at *) <;> (try simp only [i32_lt, i32_le, i32_eq, i32_addw, i32_subw, i32_mulw, Int32.reduceToInt] at *) <;> omega)) | (refine h2 ?_ <;> ((try simp +decide only [b01, b10, b11, am_up, and_true, and_false, true_and, false_and, if_true, if_false, nn_eq] at *) <;> (try simp only [i32_lt, i32_le, i32_eq, i32_addw, i32_subw, i32_mulw, Int32.reduceToInt] at *) <;> omega)) | (refine h3 ?_ <;> ((try simp +decide only [b01, b10, b11, am_up, and_true, and_false, true_and, false_and, if_true, if_false, nn_eq] at *) <;> (try simp only [i32_lt, i32_le, i32_eq, i32_addw, i32_subw, i32_mulw, Int32.reduceToInt] at *) <;> omega)) | (exfalso; ((try simp +decide only [b01, b10, b11, am_up, and_true, and_false, true_and, false_and, if_true, if_false, nn_eq] at *) <;> (try simp only [i32_lt, i32_le, i32_eq, i32_addw, i32_subw, i32_mulw, Int32.reduceToInt] at *) <;> omega))
          · skip
            refine r_ic (v := 0) (q := 101) d_MO_method_100 rfl rfl ?_
            refine r_ri d_MO_method_101 ?_
            first | (refine h1 ?_ <;> ((try simp +decide only [b01, b10, b11, am_up, and_true, and_false, true_and, false_and, if_true, if_false, nn_eq] at *) <;> (try simp only [i32_lt, i32_le, i32_eq, i32_addw, i32_subw, i32_mulw, Int32.reduceToInt] at *) <;> omega)) | (refine h2 ?_ <;> ((try simp +decide only [b01, b10, b11, am_up, and_true, and_false, true_and, false_and, if_true, if_false, nn_eq] at *) <;> (try simp only [i32_lt, i32_le, i32_eq, i32_addw, i32_subw, i32_mulw, Int32.reduceToInt] at *) <;> omega)) | (refine h3 ?_ <;> ((try simp +decide only [b01, b10, b11, am_up, and_true, and_false, true_and, false_and, if_true, if_false, nn_eq] at *) <;> (try simp only [i32_lt, i32_le, i32_eq, i32_addw, i32_subw, i32_mulw, Int32.reduceToInt] at *) <;> omega)) | (exfalso; ((try simp +decide only [b01, b10, b11, am_up, and_true, and_false, true_and, false_and, if_true, if_false, nn_eq] at *) <;> (try simp only [i32_lt, i32_le, i32_eq, i32_addw, i32_subw, i32_mulw, Int32.reduceToInt] at *) <;> omega))
      · skip
        refine r_il1 (q := 31) d_MO_method_30 rfl ?_
        refine r_ic (v := 1) (q := 32) d_MO_method_31 rfl rfl ?_
        refine r_al0 (q := 33) d_MO_method_32 rfl ?_
        refine gt_MO_bytes (q := 36) d_MO_method_33 rfl rfl ?_
        refine r_al0 (q := 37) d_MO_method_36 rfl ?_
        refine gt_MO_begin (q := 40) d_MO_method_37 rfl rfl ?_
        refine r_al0 (q := 41) d_MO_method_40 rfl ?_
        refine gt_MO_methods (q := 44) d_MO_method_41 rfl rfl ?_
        refine ld_143 (q := 45) d_MO_method_44 ?_ rfl ?_
        · (refine vp_of ?_ ?_ <;> (((try simp +decide only [b01, b10, b11, am_up, and_true, and_false, true_and, false_and, if_true, if_false, nn_eq] at *) <;> (try simp only [i32_lt, i32_le, i32_eq, i32_addw, i32_subw, i32_mulw, Int32.reduceToInt] at *) <;> omega)))
        refine r_isub (q := 46) d_MO_method_45 rfl ?_
        refine r_si3 mo_MO_in d_MO_method_46 rfl rfl (q := 49) rfl ?_
        refine sp_MO_in ?_
        refine r_zeq (tgt := 56) (q := 52) d_MO_method_49 rfl rfl (fun e49 => ?_) (fun e49 => ?_)
        · skip
          refine r_ic (v := 0) (q := 57) d_MO_method_56 rfl rfl ?_
          refine r_is6 (q := 59) d_MO_method_57 rfl ?_
          refine r_al0 (q := 60) d_MO_method_59 rfl ?_
          refine r_il6 (q := 62) d_MO_method_60 rfl ?_
          refine r_zne (tgt := 69) (q := 65) d_MO_method_62 rfl rfl (fun e62 => ?_) (fun e62 => ?_)
          · skip
            refine r_al0 (q := 70) d_MO_method_69 rfl ?_
            refine gt_MO_methods (q := 73) d_MO_method_70 rfl rfl ?_
            refine r_bp (v := 8) (q := 75) d_MO_method_73 rfl rfl ?_
            refine r_ceq (tgt := 85) (q := 78) d_MO_method_75 rfl rfl (fun e75 => ?_) (fun e75 => ?_)
            · skip
              refine r_ic (v := 2) (q := 86) d_MO_method_85 rfl rfl ?_
              refine am_go (tgt := 90) d_MO_method_86 rfl ?_
              refine pt_MO_thrown (q := 93) d_MO_method_90 rfl rfl ?_
              refine r_al0 (q := 94) d_MO_method_93 rfl ?_
              refine gt_MO_thrown (q := 97) d_MO_method_94 rfl rfl ?_
              refine r_zle (tgt := 102) (q := 100) d_MO_method_97 rfl rfl (fun e97 => ?_) (fun e97 => ?_)
              · skip
                refine r_al0 (q := 103) d_MO_method_102 rfl ?_
                refine gt_MO_methods (q := 106) d_MO_method_103 rfl rfl ?_
                refine r_is7 (q := 108) d_MO_method_106 rfl ?_
                refine r_al0 (q := 109) d_MO_method_108 rfl ?_
                refine gt_MO_length (q := 112) d_MO_method_109 rfl rfl ?_
                refine r_il7 (q := 114) d_MO_method_112 rfl ?_
                refine r_il1 (q := 115) d_MO_method_114 rfl ?_
                refine sv_144 (q := 116) d_MO_method_115 ?_ rfl ?_
                · (refine vp_of ?_ ?_ <;> (((try simp +decide only [b01, b10, b11, am_up, and_true, and_false, true_and, false_and, if_true, if_false, nn_eq] at *) <;> (try simp only [i32_lt, i32_le, i32_eq, i32_addw, i32_subw, i32_mulw, Int32.reduceToInt] at *) <;> omega)))
                refine r_al0 (q := 117) d_MO_method_116 rfl ?_
                refine gt_MO_takes (q := 120) d_MO_method_117 rfl rfl ?_
                refine r_il7 (q := 122) d_MO_method_120 rfl ?_
                refine r_il2 (q := 123) d_MO_method_122 rfl ?_
                refine sv_145 (q := 124) d_MO_method_123 ?_ rfl ?_
                · (refine vp_of ?_ ?_ <;> (((try simp +decide only [b01, b10, b11, am_up, and_true, and_false, true_and, false_and, if_true, if_false, nn_eq] at *) <;> (try simp only [i32_lt, i32_le, i32_eq, i32_addw, i32_subw, i32_mulw, Int32.reduceToInt] at *) <;> omega)))
                refine r_al0 (q := 125) d_MO_method_124 rfl ?_
                refine gt_MO_locals (q := 128) d_MO_method_125 rfl rfl ?_
                refine r_il7 (q := 130) d_MO_method_128 rfl ?_
                refine r_il3 (q := 131) d_MO_method_130 rfl ?_
                refine sv_146 (q := 132) d_MO_method_131 ?_ rfl ?_
                · (refine vp_of ?_ ?_ <;> (((try simp +decide only [b01, b10, b11, am_up, and_true, and_false, true_and, false_and, if_true, if_false, nn_eq] at *) <;> (try simp only [i32_lt, i32_le, i32_eq, i32_addw, i32_subw, i32_mulw, Int32.reduceToInt] at *) <;> omega)))
                refine r_al0 (q := 133) d_MO_method_132 rfl ?_
                refine gt_MO_height (q := 136) d_MO_method_133 rfl rfl ?_
                refine r_il7 (q := 138) d_MO_method_136 rfl ?_
                refine r_il4 (q := 140) d_MO_method_138 rfl ?_
                refine sv_147 (q := 141) d_MO_method_140 ?_ rfl ?_
                · (refine vp_of ?_ ?_ <;> (((try simp +decide only [b01, b10, b11, am_up, and_true, and_false, true_and, false_and, if_true, if_false, nn_eq] at *) <;> (try simp only [i32_lt, i32_le, i32_eq, i32_addw, i32_subw, i32_mulw, Int32.reduceToInt] at *) <;> omega)))
                refine r_al0 (q := 142) d_MO_method_141 rfl ?_
                refine gt_MO_gives (q := 145) d_MO_method_142 rfl rfl ?_
                refine r_il7 (q := 147) d_MO_method_145 rfl ?_
                refine r_il5 (q := 149) d_MO_method_147 rfl ?_
                refine sv_148 (q := 150) d_MO_method_149 (by first | assumption | omega | decide | ((try simp +decide only [b01, b10, b11, am_up, and_true, and_false, true_and, false_and, if_true, if_false, nn_eq] at *) <;> (try simp only [i32_lt, i32_le, i32_eq, i32_addw, i32_subw, i32_mulw, Int32.reduceToInt] at *) <;> omega)) ?_ rfl ?_
                · (refine vp_of ?_ ?_ <;> (((try simp +decide only [b01, b10, b11, am_up, and_true, and_false, true_and, false_and, if_true, if_false, nn_eq] at *) <;> (try simp only [i32_lt, i32_le, i32_eq, i32_addw, i32_subw, i32_mulw, Int32.reduceToInt] at *) <;> omega)))
                refine r_al0 (q := 151) d_MO_method_150 rfl ?_
                refine gt_MO_handlers (q := 154) d_MO_method_151 rfl rfl ?_
                refine r_il7 (q := 156) d_MO_method_154 rfl ?_
                refine r_ic (v := 0) (q := 157) d_MO_method_156 rfl rfl ?_
                refine sv_149 (q := 158) d_MO_method_157 ?_ rfl ?_
                · (refine vp_of ?_ ?_ <;> (((try simp +decide only [b01, b10, b11, am_up, and_true, and_false, true_and, false_and, if_true, if_false, nn_eq] at *) <;> (try simp only [i32_lt, i32_le, i32_eq, i32_addw, i32_subw, i32_mulw, Int32.reduceToInt] at *) <;> omega)))
                refine r_al0 (q := 159) d_MO_method_158 rfl ?_
                refine gt_MO_begin (q := 162) d_MO_method_159 rfl rfl ?_
                refine r_il7 (q := 164) d_MO_method_162 rfl ?_
                refine r_ic (v := 1) (q := 165) d_MO_method_164 rfl rfl ?_
                refine r_iadd (q := 166) d_MO_method_165 rfl ?_
                refine r_al0 (q := 167) d_MO_method_166 rfl ?_
                refine gt_MO_begin (q := 170) d_MO_method_167 rfl rfl ?_
                refine r_il7 (q := 172) d_MO_method_170 rfl ?_
                refine ld_143 (q := 173) d_MO_method_172 ?_ rfl ?_
                · (refine vp_of ?_ ?_ <;> (((try simp +decide only [b01, b10, b11, am_up, and_true, and_false, true_and, false_and, if_true, if_false, nn_eq] at *) <;> (try simp only [i32_lt, i32_le, i32_eq, i32_addw, i32_subw, i32_mulw, Int32.reduceToInt] at *) <;> omega)))
                refine r_il1 (q := 174) d_MO_method_173 rfl ?_
                refine r_iadd (q := 175) d_MO_method_174 rfl ?_
                refine sv_143 (q := 176) d_MO_method_175 ?_ rfl ?_
                · (refine vp_of ?_ ?_ <;> (((try simp +decide only [b01, b10, b11, am_up, and_true, and_false, true_and, false_and, if_true, if_false, nn_eq] at *) <;> (try simp only [i32_lt, i32_le, i32_eq, i32_addw, i32_subw, i32_mulw, Int32.reduceToInt] at *) <;> omega)))
                refine r_al0 (q := 177) d_MO_method_176 rfl ?_
                refine r_dupr (q := 178) d_MO_method_177 rfl ?_
                refine gt_MO_methods (q := 181) d_MO_method_178 rfl rfl ?_
                refine r_ic (v := 1) (q := 182) d_MO_method_181 rfl rfl ?_
                refine r_iadd (q := 183) d_MO_method_182 rfl ?_
                refine pt_MO_methods (q := 186) d_MO_method_183 rfl rfl ?_
                refine r_il7 (q := 188) d_MO_method_186 rfl ?_
                refine r_ri d_MO_method_188 ?_
                first | (refine h1 ?_ <;> ((try simp +decide only [b01, b10, b11, am_up, and_true, and_false, true_and, false_and, if_true, if_false, nn_eq] at *) <;> (try simp only [i32_lt, i32_le, i32_eq, i32_addw, i32_subw, i32_mulw, Int32.reduceToInt] at *) <;> omega)) | (refine h2 ?_ <;> ((try simp +decide only [b01, b10, b11, am_up, and_true, and_false, true_and, false_and, if_true, if_false, nn_eq] at *) <;> (try simp only [i32_lt, i32_le, i32_eq, i32_addw, i32_subw, i32_mulw, Int32.reduceToInt] at *) <;> omega)) | (refine h3 ?_ <;> ((try simp +decide only [b01, b10, b11, am_up, and_true, and_false, true_and, false_and, if_true, if_false, nn_eq] at *) <;> (try simp only [i32_lt, i32_le, i32_eq, i32_addw, i32_subw, i32_mulw, Int32.reduceToInt] at *) <;> omega)) | (exfalso; ((try simp +decide only [b01, b10, b11, am_up, and_true, and_false, true_and, false_and, if_true, if_false, nn_eq] at *) <;> (try simp only [i32_lt, i32_le, i32_eq, i32_addw, i32_subw, i32_mulw, Int32.reduceToInt] at *) <;> omega))
              · skip
                refine r_ic (v := 0) (q := 101) d_MO_method_100 rfl rfl ?_
                refine r_ri d_MO_method_101 ?_
                first | (refine h1 ?_ <;> ((try simp +decide only [b01, b10, b11, am_up, and_true, and_false, true_and, false_and, if_true, if_false, nn_eq] at *) <;> (try simp only [i32_lt, i32_le, i32_eq, i32_addw, i32_subw, i32_mulw, Int32.reduceToInt] at *) <;> omega)) | (refine h2 ?_ <;> ((try simp +decide only [b01, b10, b11, am_up, and_true, and_false, true_and, false_and, if_true, if_false, nn_eq] at *) <;> (try simp only [i32_lt, i32_le, i32_eq, i32_addw, i32_subw, i32_mulw, Int32.reduceToInt] at *) <;> omega)) | (refine h3 ?_ <;> ((try simp +decide only [b01, b10, b11, am_up, and_true, and_false, true_and, false_and, if_true, if_false, nn_eq] at *) <;> (try simp only [i32_lt, i32_le, i32_eq, i32_addw, i32_subw, i32_mulw, Int32.reduceToInt] at *) <;> omega)) | (exfalso; ((try simp +decide only [b01, b10, b11, am_up, and_true, and_false, true_and, false_and, if_true, if_false, nn_eq] at *) <;> (try simp only [i32_lt, i32_le, i32_eq, i32_addw, i32_subw, i32_mulw, Int32.reduceToInt] at *) <;> omega))
            · skip
              refine r_al0 (q := 79) d_MO_method_78 rfl ?_
              refine gt_MO_verified (q := 82) d_MO_method_79 rfl rfl ?_
              refine r_zeq (tgt := 89) (q := 85) d_MO_method_82 rfl rfl (fun e82 => ?_) (fun e82 => ?_)
              · skip
                refine r_ic (v := 0) (q := 90) d_MO_method_89 rfl rfl ?_
                refine pt_MO_thrown (q := 93) d_MO_method_90 rfl rfl ?_
                refine r_al0 (q := 94) d_MO_method_93 rfl ?_
                refine gt_MO_thrown (q := 97) d_MO_method_94 rfl rfl ?_
                refine r_zle (tgt := 102) (q := 100) d_MO_method_97 rfl rfl (fun e97 => ?_) (fun e97 => ?_)
                · skip
                  refine r_al0 (q := 103) d_MO_method_102 rfl ?_
                  refine gt_MO_methods (q := 106) d_MO_method_103 rfl rfl ?_
                  refine r_is7 (q := 108) d_MO_method_106 rfl ?_
                  refine r_al0 (q := 109) d_MO_method_108 rfl ?_
                  refine gt_MO_length (q := 112) d_MO_method_109 rfl rfl ?_
                  refine r_il7 (q := 114) d_MO_method_112 rfl ?_
                  refine r_il1 (q := 115) d_MO_method_114 rfl ?_
                  refine sv_144 (q := 116) d_MO_method_115 ?_ rfl ?_
                  · (refine vp_of ?_ ?_ <;> (((try simp +decide only [b01, b10, b11, am_up, and_true, and_false, true_and, false_and, if_true, if_false, nn_eq] at *) <;> (try simp only [i32_lt, i32_le, i32_eq, i32_addw, i32_subw, i32_mulw, Int32.reduceToInt] at *) <;> omega)))
                  refine r_al0 (q := 117) d_MO_method_116 rfl ?_
                  refine gt_MO_takes (q := 120) d_MO_method_117 rfl rfl ?_
                  refine r_il7 (q := 122) d_MO_method_120 rfl ?_
                  refine r_il2 (q := 123) d_MO_method_122 rfl ?_
                  refine sv_145 (q := 124) d_MO_method_123 ?_ rfl ?_
                  · (refine vp_of ?_ ?_ <;> (((try simp +decide only [b01, b10, b11, am_up, and_true, and_false, true_and, false_and, if_true, if_false, nn_eq] at *) <;> (try simp only [i32_lt, i32_le, i32_eq, i32_addw, i32_subw, i32_mulw, Int32.reduceToInt] at *) <;> omega)))
                  refine r_al0 (q := 125) d_MO_method_124 rfl ?_
                  refine gt_MO_locals (q := 128) d_MO_method_125 rfl rfl ?_
                  refine r_il7 (q := 130) d_MO_method_128 rfl ?_
                  refine r_il3 (q := 131) d_MO_method_130 rfl ?_
                  refine sv_146 (q := 132) d_MO_method_131 ?_ rfl ?_
                  · (refine vp_of ?_ ?_ <;> (((try simp +decide only [b01, b10, b11, am_up, and_true, and_false, true_and, false_and, if_true, if_false, nn_eq] at *) <;> (try simp only [i32_lt, i32_le, i32_eq, i32_addw, i32_subw, i32_mulw, Int32.reduceToInt] at *) <;> omega)))
                  refine r_al0 (q := 133) d_MO_method_132 rfl ?_
                  refine gt_MO_height (q := 136) d_MO_method_133 rfl rfl ?_
                  refine r_il7 (q := 138) d_MO_method_136 rfl ?_
                  refine r_il4 (q := 140) d_MO_method_138 rfl ?_
                  refine sv_147 (q := 141) d_MO_method_140 ?_ rfl ?_
                  · (refine vp_of ?_ ?_ <;> (((try simp +decide only [b01, b10, b11, am_up, and_true, and_false, true_and, false_and, if_true, if_false, nn_eq] at *) <;> (try simp only [i32_lt, i32_le, i32_eq, i32_addw, i32_subw, i32_mulw, Int32.reduceToInt] at *) <;> omega)))
                  refine r_al0 (q := 142) d_MO_method_141 rfl ?_
                  refine gt_MO_gives (q := 145) d_MO_method_142 rfl rfl ?_
                  refine r_il7 (q := 147) d_MO_method_145 rfl ?_
                  refine r_il5 (q := 149) d_MO_method_147 rfl ?_
                  refine sv_148 (q := 150) d_MO_method_149 (by first | assumption | omega | decide | ((try simp +decide only [b01, b10, b11, am_up, and_true, and_false, true_and, false_and, if_true, if_false, nn_eq] at *) <;> (try simp only [i32_lt, i32_le, i32_eq, i32_addw, i32_subw, i32_mulw, Int32.reduceToInt] at *) <;> omega)) ?_ rfl ?_
                  · (refine vp_of ?_ ?_ <;> (((try simp +decide only [b01, b10, b11, am_up, and_true, and_false, true_and, false_and, if_true, if_false, nn_eq] at *) <;> (try simp only [i32_lt, i32_le, i32_eq, i32_addw, i32_subw, i32_mulw, Int32.reduceToInt] at *) <;> omega)))
                  refine r_al0 (q := 151) d_MO_method_150 rfl ?_
                  refine gt_MO_handlers (q := 154) d_MO_method_151 rfl rfl ?_
                  refine r_il7 (q := 156) d_MO_method_154 rfl ?_
                  refine r_ic (v := 0) (q := 157) d_MO_method_156 rfl rfl ?_
                  refine sv_149 (q := 158) d_MO_method_157 ?_ rfl ?_
                  · (refine vp_of ?_ ?_ <;> (((try simp +decide only [b01, b10, b11, am_up, and_true, and_false, true_and, false_and, if_true, if_false, nn_eq] at *) <;> (try simp only [i32_lt, i32_le, i32_eq, i32_addw, i32_subw, i32_mulw, Int32.reduceToInt] at *) <;> omega)))
                  refine r_al0 (q := 159) d_MO_method_158 rfl ?_
                  refine gt_MO_begin (q := 162) d_MO_method_159 rfl rfl ?_
                  refine r_il7 (q := 164) d_MO_method_162 rfl ?_
                  refine r_ic (v := 1) (q := 165) d_MO_method_164 rfl rfl ?_
                  refine r_iadd (q := 166) d_MO_method_165 rfl ?_
                  refine r_al0 (q := 167) d_MO_method_166 rfl ?_
                  refine gt_MO_begin (q := 170) d_MO_method_167 rfl rfl ?_
                  refine r_il7 (q := 172) d_MO_method_170 rfl ?_
                  refine ld_143 (q := 173) d_MO_method_172 ?_ rfl ?_
                  · (refine vp_of ?_ ?_ <;> (((try simp +decide only [b01, b10, b11, am_up, and_true, and_false, true_and, false_and, if_true, if_false, nn_eq] at *) <;> (try simp only [i32_lt, i32_le, i32_eq, i32_addw, i32_subw, i32_mulw, Int32.reduceToInt] at *) <;> omega)))
                  refine r_il1 (q := 174) d_MO_method_173 rfl ?_
                  refine r_iadd (q := 175) d_MO_method_174 rfl ?_
                  refine sv_143 (q := 176) d_MO_method_175 ?_ rfl ?_
                  · (refine vp_of ?_ ?_ <;> (((try simp +decide only [b01, b10, b11, am_up, and_true, and_false, true_and, false_and, if_true, if_false, nn_eq] at *) <;> (try simp only [i32_lt, i32_le, i32_eq, i32_addw, i32_subw, i32_mulw, Int32.reduceToInt] at *) <;> omega)))
                  refine r_al0 (q := 177) d_MO_method_176 rfl ?_
                  refine r_dupr (q := 178) d_MO_method_177 rfl ?_
                  refine gt_MO_methods (q := 181) d_MO_method_178 rfl rfl ?_
                  refine r_ic (v := 1) (q := 182) d_MO_method_181 rfl rfl ?_
                  refine r_iadd (q := 183) d_MO_method_182 rfl ?_
                  refine pt_MO_methods (q := 186) d_MO_method_183 rfl rfl ?_
                  refine r_il7 (q := 188) d_MO_method_186 rfl ?_
                  refine r_ri d_MO_method_188 ?_
                  first | (refine h1 ?_ <;> ((try simp +decide only [b01, b10, b11, am_up, and_true, and_false, true_and, false_and, if_true, if_false, nn_eq] at *) <;> (try simp only [i32_lt, i32_le, i32_eq, i32_addw, i32_subw, i32_mulw, Int32.reduceToInt] at *) <;> omega)) | (refine h2 ?_ <;> ((try simp +decide only [b01, b10, b11, am_up, and_true, and_false, true_and, false_and, if_true, if_false, nn_eq] at *) <;> (try simp only [i32_lt, i32_le, i32_eq, i32_addw, i32_subw, i32_mulw, Int32.reduceToInt] at *) <;> omega)) | (refine h3 ?_ <;> ((try simp +decide only [b01, b10, b11, am_up, and_true, and_false, true_and, false_and, if_true, if_false, nn_eq] at *) <;> (try simp only [i32_lt, i32_le, i32_eq, i32_addw, i32_subw, i32_mulw, Int32.reduceToInt] at *) <;> omega)) | (exfalso; ((try simp +decide only [b01, b10, b11, am_up, and_true, and_false, true_and, false_and, if_true, if_false, nn_eq] at *) <;> (try simp only [i32_lt, i32_le, i32_eq, i32_addw, i32_subw, i32_mulw, Int32.reduceToInt] at *) <;> omega))
                · skip
                  refine r_ic (v := 0) (q := 101) d_MO_method_100 rfl rfl ?_
                  refine r_ri d_MO_method_101 ?_
                  first | (refine h1 ?_ <;> ((try simp +decide only [b01, b10, b11, am_up, and_true, and_false, true_and, false_and, if_true, if_false, nn_eq] at *) <;> (try simp only [i32_lt, i32_le, i32_eq, i32_addw, i32_subw, i32_mulw, Int32.reduceToInt] at *) <;> omega)) | (refine h2 ?_ <;> ((try simp +decide only [b01, b10, b11, am_up, and_true, and_false, true_and, false_and, if_true, if_false, nn_eq] at *) <;> (try simp only [i32_lt, i32_le, i32_eq, i32_addw, i32_subw, i32_mulw, Int32.reduceToInt] at *) <;> omega)) | (refine h3 ?_ <;> ((try simp +decide only [b01, b10, b11, am_up, and_true, and_false, true_and, false_and, if_true, if_false, nn_eq] at *) <;> (try simp only [i32_lt, i32_le, i32_eq, i32_addw, i32_subw, i32_mulw, Int32.reduceToInt] at *) <;> omega)) | (exfalso; ((try simp +decide only [b01, b10, b11, am_up, and_true, and_false, true_and, false_and, if_true, if_false, nn_eq] at *) <;> (try simp only [i32_lt, i32_le, i32_eq, i32_addw, i32_subw, i32_mulw, Int32.reduceToInt] at *) <;> omega))
              · skip
                refine r_ic (v := 2) (q := 86) d_MO_method_85 rfl rfl ?_
                refine am_go (tgt := 90) d_MO_method_86 rfl ?_
                refine pt_MO_thrown (q := 93) d_MO_method_90 rfl rfl ?_
                refine r_al0 (q := 94) d_MO_method_93 rfl ?_
                refine gt_MO_thrown (q := 97) d_MO_method_94 rfl rfl ?_
                refine r_zle (tgt := 102) (q := 100) d_MO_method_97 rfl rfl (fun e97 => ?_) (fun e97 => ?_)
                · skip
                  refine r_al0 (q := 103) d_MO_method_102 rfl ?_
                  refine gt_MO_methods (q := 106) d_MO_method_103 rfl rfl ?_
                  refine r_is7 (q := 108) d_MO_method_106 rfl ?_
                  refine r_al0 (q := 109) d_MO_method_108 rfl ?_
                  refine gt_MO_length (q := 112) d_MO_method_109 rfl rfl ?_
                  refine r_il7 (q := 114) d_MO_method_112 rfl ?_
                  refine r_il1 (q := 115) d_MO_method_114 rfl ?_
                  refine sv_144 (q := 116) d_MO_method_115 ?_ rfl ?_
                  · (refine vp_of ?_ ?_ <;> (((try simp +decide only [b01, b10, b11, am_up, and_true, and_false, true_and, false_and, if_true, if_false, nn_eq] at *) <;> (try simp only [i32_lt, i32_le, i32_eq, i32_addw, i32_subw, i32_mulw, Int32.reduceToInt] at *) <;> omega)))
                  refine r_al0 (q := 117) d_MO_method_116 rfl ?_
                  refine gt_MO_takes (q := 120) d_MO_method_117 rfl rfl ?_
                  refine r_il7 (q := 122) d_MO_method_120 rfl ?_
                  refine r_il2 (q := 123) d_MO_method_122 rfl ?_
                  refine sv_145 (q := 124) d_MO_method_123 ?_ rfl ?_
                  · (refine vp_of ?_ ?_ <;> (((try simp +decide only [b01, b10, b11, am_up, and_true, and_false, true_and, false_and, if_true, if_false, nn_eq] at *) <;> (try simp only [i32_lt, i32_le, i32_eq, i32_addw, i32_subw, i32_mulw, Int32.reduceToInt] at *) <;> omega)))
                  refine r_al0 (q := 125) d_MO_method_124 rfl ?_
                  refine gt_MO_locals (q := 128) d_MO_method_125 rfl rfl ?_
                  refine r_il7 (q := 130) d_MO_method_128 rfl ?_
                  refine r_il3 (q := 131) d_MO_method_130 rfl ?_
                  refine sv_146 (q := 132) d_MO_method_131 ?_ rfl ?_
                  · (refine vp_of ?_ ?_ <;> (((try simp +decide only [b01, b10, b11, am_up, and_true, and_false, true_and, false_and, if_true, if_false, nn_eq] at *) <;> (try simp only [i32_lt, i32_le, i32_eq, i32_addw, i32_subw, i32_mulw, Int32.reduceToInt] at *) <;> omega)))
                  refine r_al0 (q := 133) d_MO_method_132 rfl ?_
                  refine gt_MO_height (q := 136) d_MO_method_133 rfl rfl ?_
                  refine r_il7 (q := 138) d_MO_method_136 rfl ?_
                  refine r_il4 (q := 140) d_MO_method_138 rfl ?_
                  refine sv_147 (q := 141) d_MO_method_140 ?_ rfl ?_
                  · (refine vp_of ?_ ?_ <;> (((try simp +decide only [b01, b10, b11, am_up, and_true, and_false, true_and, false_and, if_true, if_false, nn_eq] at *) <;> (try simp only [i32_lt, i32_le, i32_eq, i32_addw, i32_subw, i32_mulw, Int32.reduceToInt] at *) <;> omega)))
                  refine r_al0 (q := 142) d_MO_method_141 rfl ?_
                  refine gt_MO_gives (q := 145) d_MO_method_142 rfl rfl ?_
                  refine r_il7 (q := 147) d_MO_method_145 rfl ?_
                  refine r_il5 (q := 149) d_MO_method_147 rfl ?_
                  refine sv_148 (q := 150) d_MO_method_149 (by first | assumption | omega | decide | ((try simp +decide only [b01, b10, b11, am_up, and_true, and_false, true_and, false_and, if_true, if_false, nn_eq] at *) <;> (try simp only [i32_lt, i32_le, i32_eq, i32_addw, i32_subw, i32_mulw, Int32.reduceToInt] at *) <;> omega)) ?_ rfl ?_
                  · (refine vp_of ?_ ?_ <;> (((try simp +decide only [b01, b10, b11, am_up, and_true, and_false, true_and, false_and, if_true, if_false, nn_eq] at *) <;> (try simp only [i32_lt, i32_le, i32_eq, i32_addw, i32_subw, i32_mulw, Int32.reduceToInt] at *) <;> omega)))
                  refine r_al0 (q := 151) d_MO_method_150 rfl ?_
                  refine gt_MO_handlers (q := 154) d_MO_method_151 rfl rfl ?_
                  refine r_il7 (q := 156) d_MO_method_154 rfl ?_
                  refine r_ic (v := 0) (q := 157) d_MO_method_156 rfl rfl ?_
                  refine sv_149 (q := 158) d_MO_method_157 ?_ rfl ?_
                  · (refine vp_of ?_ ?_ <;> (((try simp +decide only [b01, b10, b11, am_up, and_true, and_false, true_and, false_and, if_true, if_false, nn_eq] at *) <;> (try simp only [i32_lt, i32_le, i32_eq, i32_addw, i32_subw, i32_mulw, Int32.reduceToInt] at *) <;> omega)))
                  refine r_al0 (q := 159) d_MO_method_158 rfl ?_
                  refine gt_MO_begin (q := 162) d_MO_method_159 rfl rfl ?_
                  refine r_il7 (q := 164) d_MO_method_162 rfl ?_
                  refine r_ic (v := 1) (q := 165) d_MO_method_164 rfl rfl ?_
                  refine r_iadd (q := 166) d_MO_method_165 rfl ?_
                  refine r_al0 (q := 167) d_MO_method_166 rfl ?_
                  refine gt_MO_begin (q := 170) d_MO_method_167 rfl rfl ?_
                  refine r_il7 (q := 172) d_MO_method_170 rfl ?_
                  refine ld_143 (q := 173) d_MO_method_172 ?_ rfl ?_
                  · (refine vp_of ?_ ?_ <;> (((try simp +decide only [b01, b10, b11, am_up, and_true, and_false, true_and, false_and, if_true, if_false, nn_eq] at *) <;> (try simp only [i32_lt, i32_le, i32_eq, i32_addw, i32_subw, i32_mulw, Int32.reduceToInt] at *) <;> omega)))
                  refine r_il1 (q := 174) d_MO_method_173 rfl ?_
                  refine r_iadd (q := 175) d_MO_method_174 rfl ?_
                  refine sv_143 (q := 176) d_MO_method_175 ?_ rfl ?_
                  · (refine vp_of ?_ ?_ <;> (((try simp +decide only [b01, b10, b11, am_up, and_true, and_false, true_and, false_and, if_true, if_false, nn_eq] at *) <;> (try simp only [i32_lt, i32_le, i32_eq, i32_addw, i32_subw, i32_mulw, Int32.reduceToInt] at *) <;> omega)))
                  refine r_al0 (q := 177) d_MO_method_176 rfl ?_
                  refine r_dupr (q := 178) d_MO_method_177 rfl ?_
                  refine gt_MO_methods (q := 181) d_MO_method_178 rfl rfl ?_
                  refine r_ic (v := 1) (q := 182) d_MO_method_181 rfl rfl ?_
                  refine r_iadd (q := 183) d_MO_method_182 rfl ?_
                  refine pt_MO_methods (q := 186) d_MO_method_183 rfl rfl ?_
                  refine r_il7 (q := 188) d_MO_method_186 rfl ?_
                  refine r_ri d_MO_method_188 ?_
                  first | (refine h1 ?_ <;> ((try simp +decide only [b01, b10, b11, am_up, and_true, and_false, true_and, false_and, if_true, if_false, nn_eq] at *) <;> (try simp only [i32_lt, i32_le, i32_eq, i32_addw, i32_subw, i32_mulw, Int32.reduceToInt] at *) <;> omega)) | (refine h2 ?_ <;> ((try simp +decide only [b01, b10, b11, am_up, and_true, and_false, true_and, false_and, if_true, if_false, nn_eq] at *) <;> (try simp only [i32_lt, i32_le, i32_eq, i32_addw, i32_subw, i32_mulw, Int32.reduceToInt] at *) <;> omega)) | (refine h3 ?_ <;> ((try simp +decide only [b01, b10, b11, am_up, and_true, and_false, true_and, false_and, if_true, if_false, nn_eq] at *) <;> (try simp only [i32_lt, i32_le, i32_eq, i32_addw, i32_subw, i32_mulw, Int32.reduceToInt] at *) <;> omega)) | (exfalso; ((try simp +decide only [b01, b10, b11, am_up, and_true, and_false, true_and, false_and, if_true, if_false, nn_eq] at *) <;> (try simp only [i32_lt, i32_le, i32_eq, i32_addw, i32_subw, i32_mulw, Int32.reduceToInt] at *) <;> omega))
                · skip
                  refine r_ic (v := 0) (q := 101) d_MO_method_100 rfl rfl ?_
                  refine r_ri d_MO_method_101 ?_
                  first | (refine h1 ?_ <;> ((try simp +decide only [b01, b10, b11, am_up, and_true, and_false, true_and, false_and, if_true, if_false, nn_eq] at *) <;> (try simp only [i32_lt, i32_le, i32_eq, i32_addw, i32_subw, i32_mulw, Int32.reduceToInt] at *) <;> omega)) | (refine h2 ?_ <;> ((try simp +decide only [b01, b10, b11, am_up, and_true, and_false, true_and, false_and, if_true, if_false, nn_eq] at *) <;> (try simp only [i32_lt, i32_le, i32_eq, i32_addw, i32_subw, i32_mulw, Int32.reduceToInt] at *) <;> omega)) | (refine h3 ?_ <;> ((try simp +decide only [b01, b10, b11, am_up, and_true, and_false, true_and, false_and, if_true, if_false, nn_eq] at *) <;> (try simp only [i32_lt, i32_le, i32_eq, i32_addw, i32_subw, i32_mulw, Int32.reduceToInt] at *) <;> omega)) | (exfalso; ((try simp +decide only [b01, b10, b11, am_up, and_true, and_false, true_and, false_and, if_true, if_false, nn_eq] at *) <;> (try simp only [i32_lt, i32_le, i32_eq, i32_addw, i32_subw, i32_mulw, Int32.reduceToInt] at *) <;> omega))
          · skip
            refine r_ic (v := 1) (q := 66) d_MO_method_65 rfl rfl ?_
            refine am_go (tgt := 90) d_MO_method_66 rfl ?_
            refine pt_MO_thrown (q := 93) d_MO_method_90 rfl rfl ?_
            refine r_al0 (q := 94) d_MO_method_93 rfl ?_
            refine gt_MO_thrown (q := 97) d_MO_method_94 rfl rfl ?_
            refine r_zle (tgt := 102) (q := 100) d_MO_method_97 rfl rfl (fun e97 => ?_) (fun e97 => ?_)
            · skip
              refine r_al0 (q := 103) d_MO_method_102 rfl ?_
              refine gt_MO_methods (q := 106) d_MO_method_103 rfl rfl ?_
              refine r_is7 (q := 108) d_MO_method_106 rfl ?_
              refine r_al0 (q := 109) d_MO_method_108 rfl ?_
              refine gt_MO_length (q := 112) d_MO_method_109 rfl rfl ?_
              refine r_il7 (q := 114) d_MO_method_112 rfl ?_
              refine r_il1 (q := 115) d_MO_method_114 rfl ?_
              refine sv_144 (q := 116) d_MO_method_115 ?_ rfl ?_
              · (refine vp_of ?_ ?_ <;> (((try simp +decide only [b01, b10, b11, am_up, and_true, and_false, true_and, false_and, if_true, if_false, nn_eq] at *) <;> (try simp only [i32_lt, i32_le, i32_eq, i32_addw, i32_subw, i32_mulw, Int32.reduceToInt] at *) <;> omega)))
              refine r_al0 (q := 117) d_MO_method_116 rfl ?_
              refine gt_MO_takes (q := 120) d_MO_method_117 rfl rfl ?_
              refine r_il7 (q := 122) d_MO_method_120 rfl ?_
              refine r_il2 (q := 123) d_MO_method_122 rfl ?_
              refine sv_145 (q := 124) d_MO_method_123 ?_ rfl ?_
              · (refine vp_of ?_ ?_ <;> (((try simp +decide only [b01, b10, b11, am_up, and_true, and_false, true_and, false_and, if_true, if_false, nn_eq] at *) <;> (try simp only [i32_lt, i32_le, i32_eq, i32_addw, i32_subw, i32_mulw, Int32.reduceToInt] at *) <;> omega)))
              refine r_al0 (q := 125) d_MO_method_124 rfl ?_
              refine gt_MO_locals (q := 128) d_MO_method_125 rfl rfl ?_
              refine r_il7 (q := 130) d_MO_method_128 rfl ?_
              refine r_il3 (q := 131) d_MO_method_130 rfl ?_
              refine sv_146 (q := 132) d_MO_method_131 ?_ rfl ?_
              · (refine vp_of ?_ ?_ <;> (((try simp +decide only [b01, b10, b11, am_up, and_true, and_false, true_and, false_and, if_true, if_false, nn_eq] at *) <;> (try simp only [i32_lt, i32_le, i32_eq, i32_addw, i32_subw, i32_mulw, Int32.reduceToInt] at *) <;> omega)))
              refine r_al0 (q := 133) d_MO_method_132 rfl ?_
              refine gt_MO_height (q := 136) d_MO_method_133 rfl rfl ?_
              refine r_il7 (q := 138) d_MO_method_136 rfl ?_
              refine r_il4 (q := 140) d_MO_method_138 rfl ?_
              refine sv_147 (q := 141) d_MO_method_140 ?_ rfl ?_
              · (refine vp_of ?_ ?_ <;> (((try simp +decide only [b01, b10, b11, am_up, and_true, and_false, true_and, false_and, if_true, if_false, nn_eq] at *) <;> (try simp only [i32_lt, i32_le, i32_eq, i32_addw, i32_subw, i32_mulw, Int32.reduceToInt] at *) <;> omega)))
              refine r_al0 (q := 142) d_MO_method_141 rfl ?_
              refine gt_MO_gives (q := 145) d_MO_method_142 rfl rfl ?_
              refine r_il7 (q := 147) d_MO_method_145 rfl ?_
              refine r_il5 (q := 149) d_MO_method_147 rfl ?_
              refine sv_148 (q := 150) d_MO_method_149 (by first | assumption | omega | decide | ((try simp +decide only [b01, b10, b11, am_up, and_true, and_false, true_and, false_and, if_true, if_false, nn_eq] at *) <;> (try simp only [i32_lt, i32_le, i32_eq, i32_addw, i32_subw, i32_mulw, Int32.reduceToInt] at *) <;> omega)) ?_ rfl ?_
              · (refine vp_of ?_ ?_ <;> (((try simp +decide only [b01, b10, b11, am_up, and_true, and_false, true_and, false_and, if_true, if_false, nn_eq] at *) <;> (try simp only [i32_lt, i32_le, i32_eq, i32_addw, i32_subw, i32_mulw, Int32.reduceToInt] at *) <;> omega)))
              refine r_al0 (q := 151) d_MO_method_150 rfl ?_
              refine gt_MO_handlers (q := 154) d_MO_method_151 rfl rfl ?_
              refine r_il7 (q := 156) d_MO_method_154 rfl ?_
              refine r_ic (v := 0) (q := 157) d_MO_method_156 rfl rfl ?_
              refine sv_149 (q := 158) d_MO_method_157 ?_ rfl ?_
              · (refine vp_of ?_ ?_ <;> (((try simp +decide only [b01, b10, b11, am_up, and_true, and_false, true_and, false_and, if_true, if_false, nn_eq] at *) <;> (try simp only [i32_lt, i32_le, i32_eq, i32_addw, i32_subw, i32_mulw, Int32.reduceToInt] at *) <;> omega)))
              refine r_al0 (q := 159) d_MO_method_158 rfl ?_
              refine gt_MO_begin (q := 162) d_MO_method_159 rfl rfl ?_
              refine r_il7 (q := 164) d_MO_method_162 rfl ?_
              refine r_ic (v := 1) (q := 165) d_MO_method_164 rfl rfl ?_
              refine r_iadd (q := 166) d_MO_method_165 rfl ?_
              refine r_al0 (q := 167) d_MO_method_166 rfl ?_
              refine gt_MO_begin (q := 170) d_MO_method_167 rfl rfl ?_
              refine r_il7 (q := 172) d_MO_method_170 rfl ?_
              refine ld_143 (q := 173) d_MO_method_172 ?_ rfl ?_
              · (refine vp_of ?_ ?_ <;> (((try simp +decide only [b01, b10, b11, am_up, and_true, and_false, true_and, false_and, if_true, if_false, nn_eq] at *) <;> (try simp only [i32_lt, i32_le, i32_eq, i32_addw, i32_subw, i32_mulw, Int32.reduceToInt] at *) <;> omega)))
              refine r_il1 (q := 174) d_MO_method_173 rfl ?_
              refine r_iadd (q := 175) d_MO_method_174 rfl ?_
              refine sv_143 (q := 176) d_MO_method_175 ?_ rfl ?_
              · (refine vp_of ?_ ?_ <;> (((try simp +decide only [b01, b10, b11, am_up, and_true, and_false, true_and, false_and, if_true, if_false, nn_eq] at *) <;> (try simp only [i32_lt, i32_le, i32_eq, i32_addw, i32_subw, i32_mulw, Int32.reduceToInt] at *) <;> omega)))
              refine r_al0 (q := 177) d_MO_method_176 rfl ?_
              refine r_dupr (q := 178) d_MO_method_177 rfl ?_
              refine gt_MO_methods (q := 181) d_MO_method_178 rfl rfl ?_
              refine r_ic (v := 1) (q := 182) d_MO_method_181 rfl rfl ?_
              refine r_iadd (q := 183) d_MO_method_182 rfl ?_
              refine pt_MO_methods (q := 186) d_MO_method_183 rfl rfl ?_
              refine r_il7 (q := 188) d_MO_method_186 rfl ?_
              refine r_ri d_MO_method_188 ?_
              first | (refine h1 ?_ <;> ((try simp +decide only [b01, b10, b11, am_up, and_true, and_false, true_and, false_and, if_true, if_false, nn_eq] at *) <;> (try simp only [i32_lt, i32_le, i32_eq, i32_addw, i32_subw, i32_mulw, Int32.reduceToInt] at *) <;> omega)) | (refine h2 ?_ <;> ((try simp +decide only [b01, b10, b11, am_up, and_true, and_false, true_and, false_and, if_true, if_false, nn_eq] at *) <;> (try simp only [i32_lt, i32_le, i32_eq, i32_addw, i32_subw, i32_mulw, Int32.reduceToInt] at *) <;> omega)) | (refine h3 ?_ <;> ((try simp +decide only [b01, b10, b11, am_up, and_true, and_false, true_and, false_and, if_true, if_false, nn_eq] at *) <;> (try simp only [i32_lt, i32_le, i32_eq, i32_addw, i32_subw, i32_mulw, Int32.reduceToInt] at *) <;> omega)) | (exfalso; ((try simp +decide only [b01, b10, b11, am_up, and_true, and_false, true_and, false_and, if_true, if_false, nn_eq] at *) <;> (try simp only [i32_lt, i32_le, i32_eq, i32_addw, i32_subw, i32_mulw, Int32.reduceToInt] at *) <;> omega))
            · skip
              refine r_ic (v := 0) (q := 101) d_MO_method_100 rfl rfl ?_
              refine r_ri d_MO_method_101 ?_
              first | (refine h1 ?_ <;> ((try simp +decide only [b01, b10, b11, am_up, and_true, and_false, true_and, false_and, if_true, if_false, nn_eq] at *) <;> (try simp only [i32_lt, i32_le, i32_eq, i32_addw, i32_subw, i32_mulw, Int32.reduceToInt] at *) <;> omega)) | (refine h2 ?_ <;> ((try simp +decide only [b01, b10, b11, am_up, and_true, and_false, true_and, false_and, if_true, if_false, nn_eq] at *) <;> (try simp only [i32_lt, i32_le, i32_eq, i32_addw, i32_subw, i32_mulw, Int32.reduceToInt] at *) <;> omega)) | (refine h3 ?_ <;> ((try simp +decide only [b01, b10, b11, am_up, and_true, and_false, true_and, false_and, if_true, if_false, nn_eq] at *) <;> (try simp only [i32_lt, i32_le, i32_eq, i32_addw, i32_subw, i32_mulw, Int32.reduceToInt] at *) <;> omega)) | (exfalso; ((try simp +decide only [b01, b10, b11, am_up, and_true, and_false, true_and, false_and, if_true, if_false, nn_eq] at *) <;> (try simp only [i32_lt, i32_le, i32_eq, i32_addw, i32_subw, i32_mulw, Int32.reduceToInt] at *) <;> omega))
        · skip
          refine r_ic (v := 1) (q := 53) d_MO_method_52 rfl rfl ?_
          refine am_go (tgt := 57) d_MO_method_53 rfl ?_
          refine r_is6 (q := 59) d_MO_method_57 rfl ?_
          refine r_al0 (q := 60) d_MO_method_59 rfl ?_
          refine r_il6 (q := 62) d_MO_method_60 rfl ?_
          refine r_zne (tgt := 69) (q := 65) d_MO_method_62 rfl rfl (fun e62 => ?_) (fun e62 => ?_)
          · skip
            refine r_al0 (q := 70) d_MO_method_69 rfl ?_
            refine gt_MO_methods (q := 73) d_MO_method_70 rfl rfl ?_
            refine r_bp (v := 8) (q := 75) d_MO_method_73 rfl rfl ?_
            refine r_ceq (tgt := 85) (q := 78) d_MO_method_75 rfl rfl (fun e75 => ?_) (fun e75 => ?_)
            · skip
              refine r_ic (v := 2) (q := 86) d_MO_method_85 rfl rfl ?_
              refine am_go (tgt := 90) d_MO_method_86 rfl ?_
              refine pt_MO_thrown (q := 93) d_MO_method_90 rfl rfl ?_
              refine r_al0 (q := 94) d_MO_method_93 rfl ?_
              refine gt_MO_thrown (q := 97) d_MO_method_94 rfl rfl ?_
              refine r_zle (tgt := 102) (q := 100) d_MO_method_97 rfl rfl (fun e97 => ?_) (fun e97 => ?_)
              · skip
                refine r_al0 (q := 103) d_MO_method_102 rfl ?_
                refine gt_MO_methods (q := 106) d_MO_method_103 rfl rfl ?_
                refine r_is7 (q := 108) d_MO_method_106 rfl ?_
                refine r_al0 (q := 109) d_MO_method_108 rfl ?_
                refine gt_MO_length (q := 112) d_MO_method_109 rfl rfl ?_
                refine r_il7 (q := 114) d_MO_method_112 rfl ?_
                refine r_il1 (q := 115) d_MO_method_114 rfl ?_
                refine sv_144 (q := 116) d_MO_method_115 ?_ rfl ?_
                · (refine vp_of ?_ ?_ <;> (((try simp +decide only [b01, b10, b11, am_up, and_true, and_false, true_and, false_and, if_true, if_false, nn_eq] at *) <;> (try simp only [i32_lt, i32_le, i32_eq, i32_addw, i32_subw, i32_mulw, Int32.reduceToInt] at *) <;> omega)))
                refine r_al0 (q := 117) d_MO_method_116 rfl ?_
                refine gt_MO_takes (q := 120) d_MO_method_117 rfl rfl ?_
                refine r_il7 (q := 122) d_MO_method_120 rfl ?_
                refine r_il2 (q := 123) d_MO_method_122 rfl ?_
                refine sv_145 (q := 124) d_MO_method_123 ?_ rfl ?_
                · (refine vp_of ?_ ?_ <;> (((try simp +decide only [b01, b10, b11, am_up, and_true, and_false, true_and, false_and, if_true, if_false, nn_eq] at *) <;> (try simp only [i32_lt, i32_le, i32_eq, i32_addw, i32_subw, i32_mulw, Int32.reduceToInt] at *) <;> omega)))
                refine r_al0 (q := 125) d_MO_method_124 rfl ?_
                refine gt_MO_locals (q := 128) d_MO_method_125 rfl rfl ?_
                refine r_il7 (q := 130) d_MO_method_128 rfl ?_
                refine r_il3 (q := 131) d_MO_method_130 rfl ?_
                refine sv_146 (q := 132) d_MO_method_131 ?_ rfl ?_
                · (refine vp_of ?_ ?_ <;> (((try simp +decide only [b01, b10, b11, am_up, and_true, and_false, true_and, false_and, if_true, if_false, nn_eq] at *) <;> (try simp only [i32_lt, i32_le, i32_eq, i32_addw, i32_subw, i32_mulw, Int32.reduceToInt] at *) <;> omega)))
                refine r_al0 (q := 133) d_MO_method_132 rfl ?_
                refine gt_MO_height (q := 136) d_MO_method_133 rfl rfl ?_
                refine r_il7 (q := 138) d_MO_method_136 rfl ?_
                refine r_il4 (q := 140) d_MO_method_138 rfl ?_
                refine sv_147 (q := 141) d_MO_method_140 ?_ rfl ?_
                · (refine vp_of ?_ ?_ <;> (((try simp +decide only [b01, b10, b11, am_up, and_true, and_false, true_and, false_and, if_true, if_false, nn_eq] at *) <;> (try simp only [i32_lt, i32_le, i32_eq, i32_addw, i32_subw, i32_mulw, Int32.reduceToInt] at *) <;> omega)))
                refine r_al0 (q := 142) d_MO_method_141 rfl ?_
                refine gt_MO_gives (q := 145) d_MO_method_142 rfl rfl ?_
                refine r_il7 (q := 147) d_MO_method_145 rfl ?_
                refine r_il5 (q := 149) d_MO_method_147 rfl ?_
                refine sv_148 (q := 150) d_MO_method_149 (by first | assumption | omega | decide | ((try simp +decide only [b01, b10, b11, am_up, and_true, and_false, true_and, false_and, if_true, if_false, nn_eq] at *) <;> (try simp only [i32_lt, i32_le, i32_eq, i32_addw, i32_subw, i32_mulw, Int32.reduceToInt] at *) <;> omega)) ?_ rfl ?_
                · (refine vp_of ?_ ?_ <;> (((try simp +decide only [b01, b10, b11, am_up, and_true, and_false, true_and, false_and, if_true, if_false, nn_eq] at *) <;> (try simp only [i32_lt, i32_le, i32_eq, i32_addw, i32_subw, i32_mulw, Int32.reduceToInt] at *) <;> omega)))
                refine r_al0 (q := 151) d_MO_method_150 rfl ?_
                refine gt_MO_handlers (q := 154) d_MO_method_151 rfl rfl ?_
                refine r_il7 (q := 156) d_MO_method_154 rfl ?_
                refine r_ic (v := 0) (q := 157) d_MO_method_156 rfl rfl ?_
                refine sv_149 (q := 158) d_MO_method_157 ?_ rfl ?_
                · (refine vp_of ?_ ?_ <;> (((try simp +decide only [b01, b10, b11, am_up, and_true, and_false, true_and, false_and, if_true, if_false, nn_eq] at *) <;> (try simp only [i32_lt, i32_le, i32_eq, i32_addw, i32_subw, i32_mulw, Int32.reduceToInt] at *) <;> omega)))
                refine r_al0 (q := 159) d_MO_method_158 rfl ?_
                refine gt_MO_begin (q := 162) d_MO_method_159 rfl rfl ?_
                refine r_il7 (q := 164) d_MO_method_162 rfl ?_
                refine r_ic (v := 1) (q := 165) d_MO_method_164 rfl rfl ?_
                refine r_iadd (q := 166) d_MO_method_165 rfl ?_
                refine r_al0 (q := 167) d_MO_method_166 rfl ?_
                refine gt_MO_begin (q := 170) d_MO_method_167 rfl rfl ?_
                refine r_il7 (q := 172) d_MO_method_170 rfl ?_
                refine ld_143 (q := 173) d_MO_method_172 ?_ rfl ?_
                · (refine vp_of ?_ ?_ <;> (((try simp +decide only [b01, b10, b11, am_up, and_true, and_false, true_and, false_and, if_true, if_false, nn_eq] at *) <;> (try simp only [i32_lt, i32_le, i32_eq, i32_addw, i32_subw, i32_mulw, Int32.reduceToInt] at *) <;> omega)))
                refine r_il1 (q := 174) d_MO_method_173 rfl ?_
                refine r_iadd (q := 175) d_MO_method_174 rfl ?_
                refine sv_143 (q := 176) d_MO_method_175 ?_ rfl ?_
                · (refine vp_of ?_ ?_ <;> (((try simp +decide only [b01, b10, b11, am_up, and_true, and_false, true_and, false_and, if_true, if_false, nn_eq] at *) <;> (try simp only [i32_lt, i32_le, i32_eq, i32_addw, i32_subw, i32_mulw, Int32.reduceToInt] at *) <;> omega)))
                refine r_al0 (q := 177) d_MO_method_176 rfl ?_
                refine r_dupr (q := 178) d_MO_method_177 rfl ?_
                refine gt_MO_methods (q := 181) d_MO_method_178 rfl rfl ?_
                refine r_ic (v := 1) (q := 182) d_MO_method_181 rfl rfl ?_
                refine r_iadd (q := 183) d_MO_method_182 rfl ?_
                refine pt_MO_methods (q := 186) d_MO_method_183 rfl rfl ?_
                refine r_il7 (q := 188) d_MO_method_186 rfl ?_
                refine r_ri d_MO_method_188 ?_
                first | (refine h1 ?_ <;> ((try simp +decide only [b01, b10, b11, am_up, and_true, and_false, true_and, false_and, if_true, if_false, nn_eq] at *) <;> (try simp only [i32_lt, i32_le, i32_eq, i32_addw, i32_subw, i32_mulw, Int32.reduceToInt] at *) <;> omega)) | (refine h2 ?_ <;> ((try simp +decide only [b01, b10, b11, am_up, and_true, and_false, true_and, false_and, if_true, if_false, nn_eq] at *) <;> (try simp only [i32_lt, i32_le, i32_eq, i32_addw, i32_subw, i32_mulw, Int32.reduceToInt] at *) <;> omega)) | (refine h3 ?_ <;> ((try simp +decide only [b01, b10, b11, am_up, and_true, and_false, true_and, false_and, if_true, if_false, nn_eq] at *) <;> (try simp only [i32_lt, i32_le, i32_eq, i32_addw, i32_subw, i32_mulw, Int32.reduceToInt] at *) <;> omega)) | (exfalso; ((try simp +decide only [b01, b10, b11, am_up, and_true, and_false, true_and, false_and, if_true, if_false, nn_eq] at *) <;> (try simp only [i32_lt, i32_le, i32_eq, i32_addw, i32_subw, i32_mulw, Int32.reduceToInt] at *) <;> omega))
              · skip
                refine r_ic (v := 0) (q := 101) d_MO_method_100 rfl rfl ?_
                refine r_ri d_MO_method_101 ?_
                first | (refine h1 ?_ <;> ((try simp +decide only [b01, b10, b11, am_up, and_true, and_false, true_and, false_and, if_true, if_false, nn_eq] at *) <;> (try simp only [i32_lt, i32_le, i32_eq, i32_addw, i32_subw, i32_mulw, Int32.reduceToInt] at *) <;> omega)) | (refine h2 ?_ <;> ((try simp +decide only [b01, b10, b11, am_up, and_true, and_false, true_and, false_and, if_true, if_false, nn_eq] at *) <;> (try simp only [i32_lt, i32_le, i32_eq, i32_addw, i32_subw, i32_mulw, Int32.reduceToInt] at *) <;> omega)) | (refine h3 ?_ <;> ((try simp +decide only [b01, b10, b11, am_up, and_true, and_false, true_and, false_and, if_true, if_false, nn_eq] at *) <;> (try simp only [i32_lt, i32_le, i32_eq, i32_addw, i32_subw, i32_mulw, Int32.reduceToInt] at *) <;> omega)) | (exfalso; ((try simp +decide only [b01, b10, b11, am_up, and_true, and_false, true_and, false_and, if_true, if_false, nn_eq] at *) <;> (try simp only [i32_lt, i32_le, i32_eq, i32_addw, i32_subw, i32_mulw, Int32.reduceToInt] at *) <;> omega))
            · skip
              refine r_al0 (q := 79) d_MO_method_78 rfl ?_
              refine gt_MO_verified (q := 82) d_MO_method_79 rfl rfl ?_
              refine r_zeq (tgt := 89) (q := 85) d_MO_method_82 rfl rfl (fun e82 => ?_) (fun e82 => ?_)
              · skip
                refine r_ic (v := 0) (q := 90) d_MO_method_89 rfl rfl ?_
                refine pt_MO_thrown (q := 93) d_MO_method_90 rfl rfl ?_
                refine r_al0 (q := 94) d_MO_method_93 rfl ?_
                refine gt_MO_thrown (q := 97) d_MO_method_94 rfl rfl ?_
                refine r_zle (tgt := 102) (q := 100) d_MO_method_97 rfl rfl (fun e97 => ?_) (fun e97 => ?_)
                · skip
                  refine r_al0 (q := 103) d_MO_method_102 rfl ?_
                  refine gt_MO_methods (q := 106) d_MO_method_103 rfl rfl ?_
                  refine r_is7 (q := 108) d_MO_method_106 rfl ?_
                  refine r_al0 (q := 109) d_MO_method_108 rfl ?_
                  refine gt_MO_length (q := 112) d_MO_method_109 rfl rfl ?_
                  refine r_il7 (q := 114) d_MO_method_112 rfl ?_
                  refine r_il1 (q := 115) d_MO_method_114 rfl ?_
                  refine sv_144 (q := 116) d_MO_method_115 ?_ rfl ?_
                  · (refine vp_of ?_ ?_ <;> (((try simp +decide only [b01, b10, b11, am_up, and_true, and_false, true_and, false_and, if_true, if_false, nn_eq] at *) <;> (try simp only [i32_lt, i32_le, i32_eq, i32_addw, i32_subw, i32_mulw, Int32.reduceToInt] at *) <;> omega)))
                  refine r_al0 (q := 117) d_MO_method_116 rfl ?_
                  refine gt_MO_takes (q := 120) d_MO_method_117 rfl rfl ?_
                  refine r_il7 (q := 122) d_MO_method_120 rfl ?_
                  refine r_il2 (q := 123) d_MO_method_122 rfl ?_
                  refine sv_145 (q := 124) d_MO_method_123 ?_ rfl ?_
                  · (refine vp_of ?_ ?_ <;> (((try simp +decide only [b01, b10, b11, am_up, and_true, and_false, true_and, false_and, if_true, if_false, nn_eq] at *) <;> (try simp only [i32_lt, i32_le, i32_eq, i32_addw, i32_subw, i32_mulw, Int32.reduceToInt] at *) <;> omega)))
                  refine r_al0 (q := 125) d_MO_method_124 rfl ?_
                  refine gt_MO_locals (q := 128) d_MO_method_125 rfl rfl ?_
                  refine r_il7 (q := 130) d_MO_method_128 rfl ?_
                  refine r_il3 (q := 131) d_MO_method_130 rfl ?_
                  refine sv_146 (q := 132) d_MO_method_131 ?_ rfl ?_
                  · (refine vp_of ?_ ?_ <;> (((try simp +decide only [b01, b10, b11, am_up, and_true, and_false, true_and, false_and, if_true, if_false, nn_eq] at *) <;> (try simp only [i32_lt, i32_le, i32_eq, i32_addw, i32_subw, i32_mulw, Int32.reduceToInt] at *) <;> omega)))
                  refine r_al0 (q := 133) d_MO_method_132 rfl ?_
                  refine gt_MO_height (q := 136) d_MO_method_133 rfl rfl ?_
                  refine r_il7 (q := 138) d_MO_method_136 rfl ?_
                  refine r_il4 (q := 140) d_MO_method_138 rfl ?_
                  refine sv_147 (q := 141) d_MO_method_140 ?_ rfl ?_
                  · (refine vp_of ?_ ?_ <;> (((try simp +decide only [b01, b10, b11, am_up, and_true, and_false, true_and, false_and, if_true, if_false, nn_eq] at *) <;> (try simp only [i32_lt, i32_le, i32_eq, i32_addw, i32_subw, i32_mulw, Int32.reduceToInt] at *) <;> omega)))
                  refine r_al0 (q := 142) d_MO_method_141 rfl ?_
                  refine gt_MO_gives (q := 145) d_MO_method_142 rfl rfl ?_
                  refine r_il7 (q := 147) d_MO_method_145 rfl ?_
                  refine r_il5 (q := 149) d_MO_method_147 rfl ?_
                  refine sv_148 (q := 150) d_MO_method_149 (by first | assumption | omega | decide | ((try simp +decide only [b01, b10, b11, am_up, and_true, and_false, true_and, false_and, if_true, if_false, nn_eq] at *) <;> (try simp only [i32_lt, i32_le, i32_eq, i32_addw, i32_subw, i32_mulw, Int32.reduceToInt] at *) <;> omega)) ?_ rfl ?_
                  · (refine vp_of ?_ ?_ <;> (((try simp +decide only [b01, b10, b11, am_up, and_true, and_false, true_and, false_and, if_true, if_false, nn_eq] at *) <;> (try simp only [i32_lt, i32_le, i32_eq, i32_addw, i32_subw, i32_mulw, Int32.reduceToInt] at *) <;> omega)))
                  refine r_al0 (q := 151) d_MO_method_150 rfl ?_
                  refine gt_MO_handlers (q := 154) d_MO_method_151 rfl rfl ?_
                  refine r_il7 (q := 156) d_MO_method_154 rfl ?_
                  refine r_ic (v := 0) (q := 157) d_MO_method_156 rfl rfl ?_
                  refine sv_149 (q := 158) d_MO_method_157 ?_ rfl ?_
                  · (refine vp_of ?_ ?_ <;> (((try simp +decide only [b01, b10, b11, am_up, and_true, and_false, true_and, false_and, if_true, if_false, nn_eq] at *) <;> (try simp only [i32_lt, i32_le, i32_eq, i32_addw, i32_subw, i32_mulw, Int32.reduceToInt] at *) <;> omega)))
                  refine r_al0 (q := 159) d_MO_method_158 rfl ?_
                  refine gt_MO_begin (q := 162) d_MO_method_159 rfl rfl ?_
                  refine r_il7 (q := 164) d_MO_method_162 rfl ?_
                  refine r_ic (v := 1) (q := 165) d_MO_method_164 rfl rfl ?_
                  refine r_iadd (q := 166) d_MO_method_165 rfl ?_
                  refine r_al0 (q := 167) d_MO_method_166 rfl ?_
                  refine gt_MO_begin (q := 170) d_MO_method_167 rfl rfl ?_
                  refine r_il7 (q := 172) d_MO_method_170 rfl ?_
                  refine ld_143 (q := 173) d_MO_method_172 ?_ rfl ?_
                  · (refine vp_of ?_ ?_ <;> (((try simp +decide only [b01, b10, b11, am_up, and_true, and_false, true_and, false_and, if_true, if_false, nn_eq] at *) <;> (try simp only [i32_lt, i32_le, i32_eq, i32_addw, i32_subw, i32_mulw, Int32.reduceToInt] at *) <;> omega)))
                  refine r_il1 (q := 174) d_MO_method_173 rfl ?_
                  refine r_iadd (q := 175) d_MO_method_174 rfl ?_
                  refine sv_143 (q := 176) d_MO_method_175 ?_ rfl ?_
                  · (refine vp_of ?_ ?_ <;> (((try simp +decide only [b01, b10, b11, am_up, and_true, and_false, true_and, false_and, if_true, if_false, nn_eq] at *) <;> (try simp only [i32_lt, i32_le, i32_eq, i32_addw, i32_subw, i32_mulw, Int32.reduceToInt] at *) <;> omega)))
                  refine r_al0 (q := 177) d_MO_method_176 rfl ?_
                  refine r_dupr (q := 178) d_MO_method_177 rfl ?_
                  refine gt_MO_methods (q := 181) d_MO_method_178 rfl rfl ?_
                  refine r_ic (v := 1) (q := 182) d_MO_method_181 rfl rfl ?_
                  refine r_iadd (q := 183) d_MO_method_182 rfl ?_
                  refine pt_MO_methods (q := 186) d_MO_method_183 rfl rfl ?_
                  refine r_il7 (q := 188) d_MO_method_186 rfl ?_
                  refine r_ri d_MO_method_188 ?_
                  first | (refine h1 ?_ <;> ((try simp +decide only [b01, b10, b11, am_up, and_true, and_false, true_and, false_and, if_true, if_false, nn_eq] at *) <;> (try simp only [i32_lt, i32_le, i32_eq, i32_addw, i32_subw, i32_mulw, Int32.reduceToInt] at *) <;> omega)) | (refine h2 ?_ <;> ((try simp +decide only [b01, b10, b11, am_up, and_true, and_false, true_and, false_and, if_true, if_false, nn_eq] at *) <;> (try simp only [i32_lt, i32_le, i32_eq, i32_addw, i32_subw, i32_mulw, Int32.reduceToInt] at *) <;> omega)) | (refine h3 ?_ <;> ((try simp +decide only [b01, b10, b11, am_up, and_true, and_false, true_and, false_and, if_true, if_false, nn_eq] at *) <;> (try simp only [i32_lt, i32_le, i32_eq, i32_addw, i32_subw, i32_mulw, Int32.reduceToInt] at *) <;> omega)) | (exfalso; ((try simp +decide only [b01, b10, b11, am_up, and_true, and_false, true_and, false_and, if_true, if_false, nn_eq] at *) <;> (try simp only [i32_lt, i32_le, i32_eq, i32_addw, i32_subw, i32_mulw, Int32.reduceToInt] at *) <;> omega))
                · skip
                  refine r_ic (v := 0) (q := 101) d_MO_method_100 rfl rfl ?_
                  refine r_ri d_MO_method_101 ?_
                  first | (refine h1 ?_ <;> ((try simp +decide only [b01, b10, b11, am_up, and_true, and_false, true_and, false_and, if_true, if_false, nn_eq] at *) <;> (try simp only [i32_lt, i32_le, i32_eq, i32_addw, i32_subw, i32_mulw, Int32.reduceToInt] at *) <;> omega)) | (refine h2 ?_ <;> ((try simp +decide only [b01, b10, b11, am_up, and_true, and_false, true_and, false_and, if_true, if_false, nn_eq] at *) <;> (try simp only [i32_lt, i32_le, i32_eq, i32_addw, i32_subw, i32_mulw, Int32.reduceToInt] at *) <;> omega)) | (refine h3 ?_ <;> ((try simp +decide only [b01, b10, b11, am_up, and_true, and_false, true_and, false_and, if_true, if_false, nn_eq] at *) <;> (try simp only [i32_lt, i32_le, i32_eq, i32_addw, i32_subw, i32_mulw, Int32.reduceToInt] at *) <;> omega)) | (exfalso; ((try simp +decide only [b01, b10, b11, am_up, and_true, and_false, true_and, false_and, if_true, if_false, nn_eq] at *) <;> (try simp only [i32_lt, i32_le, i32_eq, i32_addw, i32_subw, i32_mulw, Int32.reduceToInt] at *) <;> omega))
              · skip
                refine r_ic (v := 2) (q := 86) d_MO_method_85 rfl rfl ?_
                refine am_go (tgt := 90) d_MO_method_86 rfl ?_
                refine pt_MO_thrown (q := 93) d_MO_method_90 rfl rfl ?_
                refine r_al0 (q := 94) d_MO_method_93 rfl ?_
                refine gt_MO_thrown (q := 97) d_MO_method_94 rfl rfl ?_
                refine r_zle (tgt := 102) (q := 100) d_MO_method_97 rfl rfl (fun e97 => ?_) (fun e97 => ?_)
                · skip
                  refine r_al0 (q := 103) d_MO_method_102 rfl ?_
                  refine gt_MO_methods (q := 106) d_MO_method_103 rfl rfl ?_
                  refine r_is7 (q := 108) d_MO_method_106 rfl ?_
                  refine r_al0 (q := 109) d_MO_method_108 rfl ?_
                  refine gt_MO_length (q := 112) d_MO_method_109 rfl rfl ?_
                  refine r_il7 (q := 114) d_MO_method_112 rfl ?_
                  refine r_il1 (q := 115) d_MO_method_114 rfl ?_
                  refine sv_144 (q := 116) d_MO_method_115 ?_ rfl ?_
                  · (refine vp_of ?_ ?_ <;> (((try simp +decide only [b01, b10, b11, am_up, and_true, and_false, true_and, false_and, if_true, if_false, nn_eq] at *) <;> (try simp only [i32_lt, i32_le, i32_eq, i32_addw, i32_subw, i32_mulw, Int32.reduceToInt] at *) <;> omega)))
                  refine r_al0 (q := 117) d_MO_method_116 rfl ?_
                  refine gt_MO_takes (q := 120) d_MO_method_117 rfl rfl ?_
                  refine r_il7 (q := 122) d_MO_method_120 rfl ?_
                  refine r_il2 (q := 123) d_MO_method_122 rfl ?_
                  refine sv_145 (q := 124) d_MO_method_123 ?_ rfl ?_
                  · (refine vp_of ?_ ?_ <;> (((try simp +decide only [b01, b10, b11, am_up, and_true, and_false, true_and, false_and, if_true, if_false, nn_eq] at *) <;> (try simp only [i32_lt, i32_le, i32_eq, i32_addw, i32_subw, i32_mulw, Int32.reduceToInt] at *) <;> omega)))
                  refine r_al0 (q := 125) d_MO_method_124 rfl ?_
                  refine gt_MO_locals (q := 128) d_MO_method_125 rfl rfl ?_
                  refine r_il7 (q := 130) d_MO_method_128 rfl ?_
                  refine r_il3 (q := 131) d_MO_method_130 rfl ?_
                  refine sv_146 (q := 132) d_MO_method_131 ?_ rfl ?_
                  · (refine vp_of ?_ ?_ <;> (((try simp +decide only [b01, b10, b11, am_up, and_true, and_false, true_and, false_and, if_true, if_false, nn_eq] at *) <;> (try simp only [i32_lt, i32_le, i32_eq, i32_addw, i32_subw, i32_mulw, Int32.reduceToInt] at *) <;> omega)))
                  refine r_al0 (q := 133) d_MO_method_132 rfl ?_
                  refine gt_MO_height (q := 136) d_MO_method_133 rfl rfl ?_
                  refine r_il7 (q := 138) d_MO_method_136 rfl ?_
                  refine r_il4 (q := 140) d_MO_method_138 rfl ?_
                  refine sv_147 (q := 141) d_MO_method_140 ?_ rfl ?_
                  · (refine vp_of ?_ ?_ <;> (((try simp +decide only [b01, b10, b11, am_up, and_true, and_false, true_and, false_and, if_true, if_false, nn_eq] at *) <;> (try simp only [i32_lt, i32_le, i32_eq, i32_addw, i32_subw, i32_mulw, Int32.reduceToInt] at *) <;> omega)))
                  refine r_al0 (q := 142) d_MO_method_141 rfl ?_
                  refine gt_MO_gives (q := 145) d_MO_method_142 rfl rfl ?_
                  refine r_il7 (q := 147) d_MO_method_145 rfl ?_
                  refine r_il5 (q := 149) d_MO_method_147 rfl ?_
                  refine sv_148 (q := 150) d_MO_method_149 (by first | assumption | omega | decide | ((try simp +decide only [b01, b10, b11, am_up, and_true, and_false, true_and, false_and, if_true, if_false, nn_eq] at *) <;> (try simp only [i32_lt, i32_le, i32_eq, i32_addw, i32_subw, i32_mulw, Int32.reduceToInt] at *) <;> omega)) ?_ rfl ?_
                  · (refine vp_of ?_ ?_ <;> (((try simp +decide only [b01, b10, b11, am_up, and_true, and_false, true_and, false_and, if_true, if_false, nn_eq] at *) <;> (try simp only [i32_lt, i32_le, i32_eq, i32_addw, i32_subw, i32_mulw, Int32.reduceToInt] at *) <;> omega)))
                  refine r_al0 (q := 151) d_MO_method_150 rfl ?_
                  refine gt_MO_handlers (q := 154) d_MO_method_151 rfl rfl ?_
                  refine r_il7 (q := 156) d_MO_method_154 rfl ?_
                  refine r_ic (v := 0) (q := 157) d_MO_method_156 rfl rfl ?_
                  refine sv_149 (q := 158) d_MO_method_157 ?_ rfl ?_
                  · (refine vp_of ?_ ?_ <;> (((try simp +decide only [b01, b10, b11, am_up, and_true, and_false, true_and, false_and, if_true, if_false, nn_eq] at *) <;> (try simp only [i32_lt, i32_le, i32_eq, i32_addw, i32_subw, i32_mulw, Int32.reduceToInt] at *) <;> omega)))
                  refine r_al0 (q := 159) d_MO_method_158 rfl ?_
                  refine gt_MO_begin (q := 162) d_MO_method_159 rfl rfl ?_
                  refine r_il7 (q := 164) d_MO_method_162 rfl ?_
                  refine r_ic (v := 1) (q := 165) d_MO_method_164 rfl rfl ?_
                  refine r_iadd (q := 166) d_MO_method_165 rfl ?_
                  refine r_al0 (q := 167) d_MO_method_166 rfl ?_
                  refine gt_MO_begin (q := 170) d_MO_method_167 rfl rfl ?_
                  refine r_il7 (q := 172) d_MO_method_170 rfl ?_
                  refine ld_143 (q := 173) d_MO_method_172 ?_ rfl ?_
                  · (refine vp_of ?_ ?_ <;> (((try simp +decide only [b01, b10, b11, am_up, and_true, and_false, true_and, false_and, if_true, if_false, nn_eq] at *) <;> (try simp only [i32_lt, i32_le, i32_eq, i32_addw, i32_subw, i32_mulw, Int32.reduceToInt] at *) <;> omega)))
                  refine r_il1 (q := 174) d_MO_method_173 rfl ?_
                  refine r_iadd (q := 175) d_MO_method_174 rfl ?_
                  refine sv_143 (q := 176) d_MO_method_175 ?_ rfl ?_
                  · (refine vp_of ?_ ?_ <;> (((try simp +decide only [b01, b10, b11, am_up, and_true, and_false, true_and, false_and, if_true, if_false, nn_eq] at *) <;> (try simp only [i32_lt, i32_le, i32_eq, i32_addw, i32_subw, i32_mulw, Int32.reduceToInt] at *) <;> omega)))
                  refine r_al0 (q := 177) d_MO_method_176 rfl ?_
                  refine r_dupr (q := 178) d_MO_method_177 rfl ?_
                  refine gt_MO_methods (q := 181) d_MO_method_178 rfl rfl ?_
                  refine r_ic (v := 1) (q := 182) d_MO_method_181 rfl rfl ?_
                  refine r_iadd (q := 183) d_MO_method_182 rfl ?_
                  refine pt_MO_methods (q := 186) d_MO_method_183 rfl rfl ?_
                  refine r_il7 (q := 188) d_MO_method_186 rfl ?_
                  refine r_ri d_MO_method_188 ?_
                  first | (refine h1 ?_ <;> ((try simp +decide only [b01, b10, b11, am_up, and_true, and_false, true_and, false_and, if_true, if_false, nn_eq] at *) <;> (try simp only [i32_lt, i32_le, i32_eq, i32_addw, i32_subw, i32_mulw, Int32.reduceToInt] at *) <;> omega)) | (refine h2 ?_ <;> ((try simp +decide only [b01, b10, b11, am_up, and_true, and_false, true_and, false_and, if_true, if_false, nn_eq] at *) <;> (try simp only [i32_lt, i32_le, i32_eq, i32_addw, i32_subw, i32_mulw, Int32.reduceToInt] at *) <;> omega)) | (refine h3 ?_ <;> ((try simp +decide only [b01, b10, b11, am_up, and_true, and_false, true_and, false_and, if_true, if_false, nn_eq] at *) <;> (try simp only [i32_lt, i32_le, i32_eq, i32_addw, i32_subw, i32_mulw, Int32.reduceToInt] at *) <;> omega)) | (exfalso; ((try simp +decide only [b01, b10, b11, am_up, and_true, and_false, true_and, false_and, if_true, if_false, nn_eq] at *) <;> (try simp only [i32_lt, i32_le, i32_eq, i32_addw, i32_subw, i32_mulw, Int32.reduceToInt] at *) <;> omega))
                · skip
                  refine r_ic (v := 0) (q := 101) d_MO_method_100 rfl rfl ?_
                  refine r_ri d_MO_method_101 ?_
                  first | (refine h1 ?_ <;> ((try simp +decide only [b01, b10, b11, am_up, and_true, and_false, true_and, false_and, if_true, if_false, nn_eq] at *) <;> (try simp only [i32_lt, i32_le, i32_eq, i32_addw, i32_subw, i32_mulw, Int32.reduceToInt] at *) <;> omega)) | (refine h2 ?_ <;> ((try simp +decide only [b01, b10, b11, am_up, and_true, and_false, true_and, false_and, if_true, if_false, nn_eq] at *) <;> (try simp only [i32_lt, i32_le, i32_eq, i32_addw, i32_subw, i32_mulw, Int32.reduceToInt] at *) <;> omega)) | (refine h3 ?_ <;> ((try simp +decide only [b01, b10, b11, am_up, and_true, and_false, true_and, false_and, if_true, if_false, nn_eq] at *) <;> (try simp only [i32_lt, i32_le, i32_eq, i32_addw, i32_subw, i32_mulw, Int32.reduceToInt] at *) <;> omega)) | (exfalso; ((try simp +decide only [b01, b10, b11, am_up, and_true, and_false, true_and, false_and, if_true, if_false, nn_eq] at *) <;> (try simp only [i32_lt, i32_le, i32_eq, i32_addw, i32_subw, i32_mulw, Int32.reduceToInt] at *) <;> omega))
          · skip
            refine r_ic (v := 1) (q := 66) d_MO_method_65 rfl rfl ?_
            refine am_go (tgt := 90) d_MO_method_66 rfl ?_
            refine pt_MO_thrown (q := 93) d_MO_method_90 rfl rfl ?_
            refine r_al0 (q := 94) d_MO_method_93 rfl ?_
            refine gt_MO_thrown (q := 97) d_MO_method_94 rfl rfl ?_
            refine r_zle (tgt := 102) (q := 100) d_MO_method_97 rfl rfl (fun e97 => ?_) (fun e97 => ?_)
            · skip
              refine r_al0 (q := 103) d_MO_method_102 rfl ?_
              refine gt_MO_methods (q := 106) d_MO_method_103 rfl rfl ?_
              refine r_is7 (q := 108) d_MO_method_106 rfl ?_
              refine r_al0 (q := 109) d_MO_method_108 rfl ?_
              refine gt_MO_length (q := 112) d_MO_method_109 rfl rfl ?_
              refine r_il7 (q := 114) d_MO_method_112 rfl ?_
              refine r_il1 (q := 115) d_MO_method_114 rfl ?_
              refine sv_144 (q := 116) d_MO_method_115 ?_ rfl ?_
              · (refine vp_of ?_ ?_ <;> (((try simp +decide only [b01, b10, b11, am_up, and_true, and_false, true_and, false_and, if_true, if_false, nn_eq] at *) <;> (try simp only [i32_lt, i32_le, i32_eq, i32_addw, i32_subw, i32_mulw, Int32.reduceToInt] at *) <;> omega)))
              refine r_al0 (q := 117) d_MO_method_116 rfl ?_
              refine gt_MO_takes (q := 120) d_MO_method_117 rfl rfl ?_
              refine r_il7 (q := 122) d_MO_method_120 rfl ?_
              refine r_il2 (q := 123) d_MO_method_122 rfl ?_
              refine sv_145 (q := 124) d_MO_method_123 ?_ rfl ?_
              · (refine vp_of ?_ ?_ <;> (((try simp +decide only [b01, b10, b11, am_up, and_true, and_false, true_and, false_and, if_true, if_false, nn_eq] at *) <;> (try simp only [i32_lt, i32_le, i32_eq, i32_addw, i32_subw, i32_mulw, Int32.reduceToInt] at *) <;> omega)))
              refine r_al0 (q := 125) d_MO_method_124 rfl ?_
              refine gt_MO_locals (q := 128) d_MO_method_125 rfl rfl ?_
              refine r_il7 (q := 130) d_MO_method_128 rfl ?_
              refine r_il3 (q := 131) d_MO_method_130 rfl ?_
              refine sv_146 (q := 132) d_MO_method_131 ?_ rfl ?_
              · (refine vp_of ?_ ?_ <;> (((try simp +decide only [b01, b10, b11, am_up, and_true, and_false, true_and, false_and, if_true, if_false, nn_eq] at *) <;> (try simp only [i32_lt, i32_le, i32_eq, i32_addw, i32_subw, i32_mulw, Int32.reduceToInt] at *) <;> omega)))
              refine r_al0 (q := 133) d_MO_method_132 rfl ?_
              refine gt_MO_height (q := 136) d_MO_method_133 rfl rfl ?_
              refine r_il7 (q := 138) d_MO_method_136 rfl ?_
              refine r_il4 (q := 140) d_MO_method_138 rfl ?_
              refine sv_147 (q := 141) d_MO_method_140 ?_ rfl ?_
              · (refine vp_of ?_ ?_ <;> (((try simp +decide only [b01, b10, b11, am_up, and_true, and_false, true_and, false_and, if_true, if_false, nn_eq] at *) <;> (try simp only [i32_lt, i32_le, i32_eq, i32_addw, i32_subw, i32_mulw, Int32.reduceToInt] at *) <;> omega)))
              refine r_al0 (q := 142) d_MO_method_141 rfl ?_
              refine gt_MO_gives (q := 145) d_MO_method_142 rfl rfl ?_
              refine r_il7 (q := 147) d_MO_method_145 rfl ?_
              refine r_il5 (q := 149) d_MO_method_147 rfl ?_
              refine sv_148 (q := 150) d_MO_method_149 (by first | assumption | omega | decide | ((try simp +decide only [b01, b10, b11, am_up, and_true, and_false, true_and, false_and, if_true, if_false, nn_eq] at *) <;> (try simp only [i32_lt, i32_le, i32_eq, i32_addw, i32_subw, i32_mulw, Int32.reduceToInt] at *) <;> omega)) ?_ rfl ?_
              · (refine vp_of ?_ ?_ <;> (((try simp +decide only [b01, b10, b11, am_up, and_true, and_false, true_and, false_and, if_true, if_false, nn_eq] at *) <;> (try simp only [i32_lt, i32_le, i32_eq, i32_addw, i32_subw, i32_mulw, Int32.reduceToInt] at *) <;> omega)))
              refine r_al0 (q := 151) d_MO_method_150 rfl ?_
              refine gt_MO_handlers (q := 154) d_MO_method_151 rfl rfl ?_
              refine r_il7 (q := 156) d_MO_method_154 rfl ?_
              refine r_ic (v := 0) (q := 157) d_MO_method_156 rfl rfl ?_
              refine sv_149 (q := 158) d_MO_method_157 ?_ rfl ?_
              · (refine vp_of ?_ ?_ <;> (((try simp +decide only [b01, b10, b11, am_up, and_true, and_false, true_and, false_and, if_true, if_false, nn_eq] at *) <;> (try simp only [i32_lt, i32_le, i32_eq, i32_addw, i32_subw, i32_mulw, Int32.reduceToInt] at *) <;> omega)))
              refine r_al0 (q := 159) d_MO_method_158 rfl ?_
              refine gt_MO_begin (q := 162) d_MO_method_159 rfl rfl ?_
              refine r_il7 (q := 164) d_MO_method_162 rfl ?_
              refine r_ic (v := 1) (q := 165) d_MO_method_164 rfl rfl ?_
              refine r_iadd (q := 166) d_MO_method_165 rfl ?_
              refine r_al0 (q := 167) d_MO_method_166 rfl ?_
              refine gt_MO_begin (q := 170) d_MO_method_167 rfl rfl ?_
              refine r_il7 (q := 172) d_MO_method_170 rfl ?_
              refine ld_143 (q := 173) d_MO_method_172 ?_ rfl ?_
              · (refine vp_of ?_ ?_ <;> (((try simp +decide only [b01, b10, b11, am_up, and_true, and_false, true_and, false_and, if_true, if_false, nn_eq] at *) <;> (try simp only [i32_lt, i32_le, i32_eq, i32_addw, i32_subw, i32_mulw, Int32.reduceToInt] at *) <;> omega)))
              refine r_il1 (q := 174) d_MO_method_173 rfl ?_
              refine r_iadd (q := 175) d_MO_method_174 rfl ?_
              refine sv_143 (q := 176) d_MO_method_175 ?_ rfl ?_
              · (refine vp_of ?_ ?_ <;> (((try simp +decide only [b01, b10, b11, am_up, and_true, and_false, true_and, false_and, if_true, if_false, nn_eq] at *) <;> (try simp only [i32_lt, i32_le, i32_eq, i32_addw, i32_subw, i32_mulw, Int32.reduceToInt] at *) <;> omega)))
              refine r_al0 (q := 177) d_MO_method_176 rfl ?_
              refine r_dupr (q := 178) d_MO_method_177 rfl ?_
              refine gt_MO_methods (q := 181) d_MO_method_178 rfl rfl ?_
              refine r_ic (v := 1) (q := 182) d_MO_method_181 rfl rfl ?_
              refine r_iadd (q := 183) d_MO_method_182 rfl ?_
              refine pt_MO_methods (q := 186) d_MO_method_183 rfl rfl ?_
              refine r_il7 (q := 188) d_MO_method_186 rfl ?_
              refine r_ri d_MO_method_188 ?_
              first | (refine h1 ?_ <;> ((try simp +decide only [b01, b10, b11, am_up, and_true, and_false, true_and, false_and, if_true, if_false, nn_eq] at *) <;> (try simp only [i32_lt, i32_le, i32_eq, i32_addw, i32_subw, i32_mulw, Int32.reduceToInt] at *) <;> omega)) | (refine h2 ?_ <;> ((try simp +decide only [b01, b10, b11, am_up, and_true, and_false, true_and, false_and, if_true, if_false, nn_eq] at *) <;> (try simp only [i32_lt, i32_le, i32_eq, i32_addw, i32_subw, i32_mulw, Int32.reduceToInt] at *) <;> omega)) | (refine h3 ?_ <;> ((try simp +decide only [b01, b10, b11, am_up, and_true, and_false, true_and, false_and, if_true, if_false, nn_eq] at *) <;> (try simp only [i32_lt, i32_le, i32_eq, i32_addw, i32_subw, i32_mulw, Int32.reduceToInt] at *) <;> omega)) | (exfalso; ((try simp +decide only [b01, b10, b11, am_up, and_true, and_false, true_and, false_and, if_true, if_false, nn_eq] at *) <;> (try simp only [i32_lt, i32_le, i32_eq, i32_addw, i32_subw, i32_mulw, Int32.reduceToInt] at *) <;> omega))
            · skip
              refine r_ic (v := 0) (q := 101) d_MO_method_100 rfl rfl ?_
              refine r_ri d_MO_method_101 ?_
              first | (refine h1 ?_ <;> ((try simp +decide only [b01, b10, b11, am_up, and_true, and_false, true_and, false_and, if_true, if_false, nn_eq] at *) <;> (try simp only [i32_lt, i32_le, i32_eq, i32_addw, i32_subw, i32_mulw, Int32.reduceToInt] at *) <;> omega)) | (refine h2 ?_ <;> ((try simp +decide only [b01, b10, b11, am_up, and_true, and_false, true_and, false_and, if_true, if_false, nn_eq] at *) <;> (try simp only [i32_lt, i32_le, i32_eq, i32_addw, i32_subw, i32_mulw, Int32.reduceToInt] at *) <;> omega)) | (refine h3 ?_ <;> ((try simp +decide only [b01, b10, b11, am_up, and_true, and_false, true_and, false_and, if_true, if_false, nn_eq] at *) <;> (try simp only [i32_lt, i32_le, i32_eq, i32_addw, i32_subw, i32_mulw, Int32.reduceToInt] at *) <;> omega)) | (exfalso; ((try simp +decide only [b01, b10, b11, am_up, and_true, and_false, true_and, false_and, if_true, if_false, nn_eq] at *) <;> (try simp only [i32_lt, i32_le, i32_eq, i32_addw, i32_subw, i32_mulw, Int32.reduceToInt] at *) <;> omega))
theorem sp_FW_feed {x : Int32} {st : am_S} {f : Int32 → am_S → Prop} {g : Nat → am_S → Prop} (c1 : 0 ≤ (st 322 0).toInt) (h1 : ¬ st 262 0 = 0 ∨ 200 ≤ st 322 0 → g 2 st) (h2 : st 262 0 = 0 ∧ st 322 0 < 200 → f (st 322 0 + 1) (am_up (am_up st 2129 (st 322 0).toNatClampNeg (x &&& 255)) 322 0 (st 322 0 + 1))) : wp_FW_feed [.inr (.inl 123), .inl x] st (am_kt f g) := by
  refine ⟨⟨rfl, Nat.le_of_ble_eq_true rfl⟩, ?_⟩
  refine r_al0 (q := 1) d_FW_feed_0 rfl ?_
  refine gt_FW_verified (q := 4) d_FW_feed_1 rfl rfl ?_
  refine r_zne (tgt := 18) (q := 7) d_FW_feed_4 rfl rfl (fun e4 => ?_) (fun e4 => ?_)
  · skip
    refine r_tti d_FW_feed_18 d_FW_feed_21 d_FW_feed_22 d_FW_feed_25 rfl ?_
    first | (refine h1 ?_ <;> ((try simp +decide only [b01, b10, b11, am_up, and_true, and_false, true_and, false_and, if_true, if_false, nn_eq] at *) <;> (try simp only [i32_lt, i32_le, i32_eq, i32_addw, i32_subw, i32_mulw, Int32.reduceToInt] at *) <;> omega)) | (refine h2 ?_ <;> ((try simp +decide only [b01, b10, b11, am_up, and_true, and_false, true_and, false_and, if_true, if_false, nn_eq] at *) <;> (try simp only [i32_lt, i32_le, i32_eq, i32_addw, i32_subw, i32_mulw, Int32.reduceToInt] at *) <;> omega)) | (exfalso; ((try simp +decide only [b01, b10, b11, am_up, and_true, and_false, true_and, false_and, if_true, if_false, nn_eq] at *) <;> (try simp only [i32_lt, i32_le, i32_eq, i32_addw, i32_subw, i32_mulw, Int32.reduceToInt] at *) <;> omega))
  · skip
    refine r_al0 (q := 8) d_FW_feed_7 rfl ?_
    refine gt_FW_code (q := 11) d_FW_feed_8 rfl rfl ?_
    refine r_il1 (q := 12) d_FW_feed_11 rfl ?_
    refine r_vi1 mo_CO_addByte d_FW_feed_12 rfl rfl rfl (q := 15) rfl ?_
    refine sp_CO_addByte (by first | assumption | omega | decide | ((try simp +decide only [b01, b10, b11, am_up, and_true, and_false, true_and, false_and, if_true, if_false, nn_eq] at *) <;> (try simp only [i32_lt, i32_le, i32_eq, i32_addw, i32_subw, i32_mulw, Int32.reduceToInt] at *) <;> omega)) (fun e12 => ?_) (fun e12 => ?_)
    · skip
      refine r_zne (tgt := 26) (q := 18) d_FW_feed_15 rfl rfl (fun e15 => ?_) (fun e15 => ?_)
      · skip
        refine r_al0 (q := 27) d_FW_feed_26 rfl ?_
        refine gt_FW_code (q := 30) d_FW_feed_27 rfl rfl ?_
        refine gt_CO_byteCount (q := 33) d_FW_feed_30 rfl rfl ?_
        refine r_ti d_FW_feed_33 ?_
        first | (refine h1 ?_ <;> ((try simp +decide only [b01, b10, b11, am_up, and_true, and_false, true_and, false_and, if_true, if_false, nn_eq] at *) <;> (try simp only [i32_lt, i32_le, i32_eq, i32_addw, i32_subw, i32_mulw, Int32.reduceToInt] at *) <;> omega)) | (refine h2 ?_ <;> ((try simp +decide only [b01, b10, b11, am_up, and_true, and_false, true_and, false_and, if_true, if_false, nn_eq] at *) <;> (try simp only [i32_lt, i32_le, i32_eq, i32_addw, i32_subw, i32_mulw, Int32.reduceToInt] at *) <;> omega)) | (exfalso; ((try simp +decide only [b01, b10, b11, am_up, and_true, and_false, true_and, false_and, if_true, if_false, nn_eq] at *) <;> (try simp only [i32_lt, i32_le, i32_eq, i32_addw, i32_subw, i32_mulw, Int32.reduceToInt] at *) <;> omega))
      · skip
        refine r_tti d_FW_feed_18 d_FW_feed_21 d_FW_feed_22 d_FW_feed_25 rfl ?_
        first | (refine h1 ?_ <;> ((try simp +decide only [b01, b10, b11, am_up, and_true, and_false, true_and, false_and, if_true, if_false, nn_eq] at *) <;> (try simp only [i32_lt, i32_le, i32_eq, i32_addw, i32_subw, i32_mulw, Int32.reduceToInt] at *) <;> omega)) | (refine h2 ?_ <;> ((try simp +decide only [b01, b10, b11, am_up, and_true, and_false, true_and, false_and, if_true, if_false, nn_eq] at *) <;> (try simp only [i32_lt, i32_le, i32_eq, i32_addw, i32_subw, i32_mulw, Int32.reduceToInt] at *) <;> omega)) | (exfalso; ((try simp +decide only [b01, b10, b11, am_up, and_true, and_false, true_and, false_and, if_true, if_false, nn_eq] at *) <;> (try simp only [i32_lt, i32_le, i32_eq, i32_addw, i32_subw, i32_mulw, Int32.reduceToInt] at *) <;> omega))
    · skip
      refine r_zne (tgt := 26) (q := 18) d_FW_feed_15 rfl rfl (fun e15 => ?_) (fun e15 => ?_)
      · skip
        refine r_al0 (q := 27) d_FW_feed_26 rfl ?_
        refine gt_FW_code (q := 30) d_FW_feed_27 rfl rfl ?_
        refine gt_CO_byteCount (q := 33) d_FW_feed_30 rfl rfl ?_
        refine r_ti d_FW_feed_33 ?_
        first | (refine h1 ?_ <;> ((try simp +decide only [b01, b10, b11, am_up, and_true, and_false, true_and, false_and, if_true, if_false, nn_eq] at *) <;> (try simp only [i32_lt, i32_le, i32_eq, i32_addw, i32_subw, i32_mulw, Int32.reduceToInt] at *) <;> omega)) | (refine h2 ?_ <;> ((try simp +decide only [b01, b10, b11, am_up, and_true, and_false, true_and, false_and, if_true, if_false, nn_eq] at *) <;> (try simp only [i32_lt, i32_le, i32_eq, i32_addw, i32_subw, i32_mulw, Int32.reduceToInt] at *) <;> omega)) | (exfalso; ((try simp +decide only [b01, b10, b11, am_up, and_true, and_false, true_and, false_and, if_true, if_false, nn_eq] at *) <;> (try simp only [i32_lt, i32_le, i32_eq, i32_addw, i32_subw, i32_mulw, Int32.reduceToInt] at *) <;> omega))
      · skip
        refine r_tti d_FW_feed_18 d_FW_feed_21 d_FW_feed_22 d_FW_feed_25 rfl ?_
        first | (refine h1 ?_ <;> ((try simp +decide only [b01, b10, b11, am_up, and_true, and_false, true_and, false_and, if_true, if_false, nn_eq] at *) <;> (try simp only [i32_lt, i32_le, i32_eq, i32_addw, i32_subw, i32_mulw, Int32.reduceToInt] at *) <;> omega)) | (refine h2 ?_ <;> ((try simp +decide only [b01, b10, b11, am_up, and_true, and_false, true_and, false_and, if_true, if_false, nn_eq] at *) <;> (try simp only [i32_lt, i32_le, i32_eq, i32_addw, i32_subw, i32_mulw, Int32.reduceToInt] at *) <;> omega)) | (exfalso; ((try simp +decide only [b01, b10, b11, am_up, and_true, and_false, true_and, false_and, if_true, if_false, nn_eq] at *) <;> (try simp only [i32_lt, i32_le, i32_eq, i32_addw, i32_subw, i32_mulw, Int32.reduceToInt] at *) <;> omega))
theorem sp_MO_feed {x : Int32} {st : am_S} {f : Int32 → am_S → Prop} (c1 : 0 ≤ (st 577 0).toInt) (c2 : (st 577 0).toInt ≤ 200) (h1 : ¬ st 591 0 = 0 ∨ st 577 0 = 200 → f 0 (am_up st 576 0 1)) (h2 : st 591 0 = 0 ∧ ¬ st 577 0 = 200 → f (st 577 0 + 1) (am_up (am_up (am_up st 576 0 0) 2142 (st 577 0).toNatClampNeg (x &&& 255)) 577 0 (st 577 0 + 1))) : wp_MO_feed [.inr (.inl 128), .inl x] st (am_ki f) := by
  refine ⟨⟨rfl, Nat.le_of_ble_eq_true rfl⟩, ?_⟩
  refine r_al0 (q := 1) d_MO_feed_0 rfl ?_
  refine r_al0 (q := 2) d_MO_feed_1 rfl ?_
  refine gt_MO_bytes (q := 5) d_MO_feed_2 rfl rfl ?_
  refine r_sp (v := 200) (q := 8) d_MO_feed_5 rfl rfl ?_
  refine r_ceq (tgt := 18) (q := 11) d_MO_feed_8 rfl rfl (fun e8 => ?_) (fun e8 => ?_)
  · skip
    refine r_ic (v := 1) (q := 19) d_MO_feed_18 rfl rfl ?_
    refine am_go (tgt := 23) d_MO_feed_19 rfl ?_
    refine pt_MO_thrown (q := 26) d_MO_feed_23 rfl rfl ?_
    refine r_al0 (q := 27) d_MO_feed_26 rfl ?_
    refine gt_MO_thrown (q := 30) d_MO_feed_27 rfl rfl ?_
    refine r_zle (tgt := 35) (q := 33) d_MO_feed_30 rfl rfl (fun e30 => ?_) (fun e30 => ?_)
    · skip
      refine r_al0 (q := 36) d_MO_feed_35 rfl ?_
      refine gt_MO_code (q := 39) d_MO_feed_36 rfl rfl ?_
      refine r_al0 (q := 40) d_MO_feed_39 rfl ?_
      refine gt_MO_bytes (q := 43) d_MO_feed_40 rfl rfl ?_
      refine r_il1 (q := 44) d_MO_feed_43 rfl ?_
      refine r_sp (v := 255) (q := 47) d_MO_feed_44 rfl rfl ?_
      refine r_iand (q := 48) d_MO_feed_47 rfl ?_
      refine sv_142 (q := 49) d_MO_feed_48 ?_ rfl ?_
      · (refine vp_of ?_ ?_ <;> (((try simp +decide only [b01, b10, b11, am_up, and_true, and_false, true_and, false_and, if_true, if_false, nn_eq] at *) <;> (try simp only [i32_lt, i32_le, i32_eq, i32_addw, i32_subw, i32_mulw, Int32.reduceToInt] at *) <;> omega)))
      refine r_al0 (q := 50) d_MO_feed_49 rfl ?_
      refine r_dupr (q := 51) d_MO_feed_50 rfl ?_
      refine gt_MO_bytes (q := 54) d_MO_feed_51 rfl rfl ?_
      refine r_ic (v := 1) (q := 55) d_MO_feed_54 rfl rfl ?_
      refine r_iadd (q := 56) d_MO_feed_55 rfl ?_
      refine pt_MO_bytes (q := 59) d_MO_feed_56 rfl rfl ?_
      refine r_al0 (q := 60) d_MO_feed_59 rfl ?_
      refine gt_MO_bytes (q := 63) d_MO_feed_60 rfl rfl ?_
      refine r_ri d_MO_feed_63 ?_
      first | (refine h1 ?_ <;> ((try simp +decide only [b01, b10, b11, am_up, and_true, and_false, true_and, false_and, if_true, if_false, nn_eq] at *) <;> (try simp only [i32_lt, i32_le, i32_eq, i32_addw, i32_subw, i32_mulw, Int32.reduceToInt] at *) <;> omega)) | (refine h2 ?_ <;> ((try simp +decide only [b01, b10, b11, am_up, and_true, and_false, true_and, false_and, if_true, if_false, nn_eq] at *) <;> (try simp only [i32_lt, i32_le, i32_eq, i32_addw, i32_subw, i32_mulw, Int32.reduceToInt] at *) <;> omega)) | (exfalso; ((try simp +decide only [b01, b10, b11, am_up, and_true, and_false, true_and, false_and, if_true, if_false, nn_eq] at *) <;> (try simp only [i32_lt, i32_le, i32_eq, i32_addw, i32_subw, i32_mulw, Int32.reduceToInt] at *) <;> omega))
    · skip
      refine r_ic (v := 0) (q := 34) d_MO_feed_33 rfl rfl ?_
      refine r_ri d_MO_feed_34 ?_
      first | (refine h1 ?_ <;> ((try simp +decide only [b01, b10, b11, am_up, and_true, and_false, true_and, false_and, if_true, if_false, nn_eq] at *) <;> (try simp only [i32_lt, i32_le, i32_eq, i32_addw, i32_subw, i32_mulw, Int32.reduceToInt] at *) <;> omega)) | (refine h2 ?_ <;> ((try simp +decide only [b01, b10, b11, am_up, and_true, and_false, true_and, false_and, if_true, if_false, nn_eq] at *) <;> (try simp only [i32_lt, i32_le, i32_eq, i32_addw, i32_subw, i32_mulw, Int32.reduceToInt] at *) <;> omega)) | (exfalso; ((try simp +decide only [b01, b10, b11, am_up, and_true, and_false, true_and, false_and, if_true, if_false, nn_eq] at *) <;> (try simp only [i32_lt, i32_le, i32_eq, i32_addw, i32_subw, i32_mulw, Int32.reduceToInt] at *) <;> omega))
  · skip
    refine r_al0 (q := 12) d_MO_feed_11 rfl ?_
    refine gt_MO_verified (q := 15) d_MO_feed_12 rfl rfl ?_
    refine r_zeq (tgt := 22) (q := 18) d_MO_feed_15 rfl rfl (fun e15 => ?_) (fun e15 => ?_)
    · skip
      refine r_ic (v := 0) (q := 23) d_MO_feed_22 rfl rfl ?_
      refine pt_MO_thrown (q := 26) d_MO_feed_23 rfl rfl ?_
      refine r_al0 (q := 27) d_MO_feed_26 rfl ?_
      refine gt_MO_thrown (q := 30) d_MO_feed_27 rfl rfl ?_
      refine r_zle (tgt := 35) (q := 33) d_MO_feed_30 rfl rfl (fun e30 => ?_) (fun e30 => ?_)
      · skip
        refine r_al0 (q := 36) d_MO_feed_35 rfl ?_
        refine gt_MO_code (q := 39) d_MO_feed_36 rfl rfl ?_
        refine r_al0 (q := 40) d_MO_feed_39 rfl ?_
        refine gt_MO_bytes (q := 43) d_MO_feed_40 rfl rfl ?_
        refine r_il1 (q := 44) d_MO_feed_43 rfl ?_
        refine r_sp (v := 255) (q := 47) d_MO_feed_44 rfl rfl ?_
        refine r_iand (q := 48) d_MO_feed_47 rfl ?_
        refine sv_142 (q := 49) d_MO_feed_48 ?_ rfl ?_
        · (refine vp_of ?_ ?_ <;> (((try simp +decide only [b01, b10, b11, am_up, and_true, and_false, true_and, false_and, if_true, if_false, nn_eq] at *) <;> (try simp only [i32_lt, i32_le, i32_eq, i32_addw, i32_subw, i32_mulw, Int32.reduceToInt] at *) <;> omega)))
        refine r_al0 (q := 50) d_MO_feed_49 rfl ?_
        refine r_dupr (q := 51) d_MO_feed_50 rfl ?_
        refine gt_MO_bytes (q := 54) d_MO_feed_51 rfl rfl ?_
        refine r_ic (v := 1) (q := 55) d_MO_feed_54 rfl rfl ?_
        refine r_iadd (q := 56) d_MO_feed_55 rfl ?_
        refine pt_MO_bytes (q := 59) d_MO_feed_56 rfl rfl ?_
        refine r_al0 (q := 60) d_MO_feed_59 rfl ?_
        refine gt_MO_bytes (q := 63) d_MO_feed_60 rfl rfl ?_
        refine r_ri d_MO_feed_63 ?_
        first | (refine h1 ?_ <;> ((try simp +decide only [b01, b10, b11, am_up, and_true, and_false, true_and, false_and, if_true, if_false, nn_eq] at *) <;> (try simp only [i32_lt, i32_le, i32_eq, i32_addw, i32_subw, i32_mulw, Int32.reduceToInt] at *) <;> omega)) | (refine h2 ?_ <;> ((try simp +decide only [b01, b10, b11, am_up, and_true, and_false, true_and, false_and, if_true, if_false, nn_eq] at *) <;> (try simp only [i32_lt, i32_le, i32_eq, i32_addw, i32_subw, i32_mulw, Int32.reduceToInt] at *) <;> omega)) | (exfalso; ((try simp +decide only [b01, b10, b11, am_up, and_true, and_false, true_and, false_and, if_true, if_false, nn_eq] at *) <;> (try simp only [i32_lt, i32_le, i32_eq, i32_addw, i32_subw, i32_mulw, Int32.reduceToInt] at *) <;> omega))
      · skip
        refine r_ic (v := 0) (q := 34) d_MO_feed_33 rfl rfl ?_
        refine r_ri d_MO_feed_34 ?_
        first | (refine h1 ?_ <;> ((try simp +decide only [b01, b10, b11, am_up, and_true, and_false, true_and, false_and, if_true, if_false, nn_eq] at *) <;> (try simp only [i32_lt, i32_le, i32_eq, i32_addw, i32_subw, i32_mulw, Int32.reduceToInt] at *) <;> omega)) | (refine h2 ?_ <;> ((try simp +decide only [b01, b10, b11, am_up, and_true, and_false, true_and, false_and, if_true, if_false, nn_eq] at *) <;> (try simp only [i32_lt, i32_le, i32_eq, i32_addw, i32_subw, i32_mulw, Int32.reduceToInt] at *) <;> omega)) | (exfalso; ((try simp +decide only [b01, b10, b11, am_up, and_true, and_false, true_and, false_and, if_true, if_false, nn_eq] at *) <;> (try simp only [i32_lt, i32_le, i32_eq, i32_addw, i32_subw, i32_mulw, Int32.reduceToInt] at *) <;> omega))
    · skip
      refine r_ic (v := 1) (q := 19) d_MO_feed_18 rfl rfl ?_
      refine am_go (tgt := 23) d_MO_feed_19 rfl ?_
      refine pt_MO_thrown (q := 26) d_MO_feed_23 rfl rfl ?_
      refine r_al0 (q := 27) d_MO_feed_26 rfl ?_
      refine gt_MO_thrown (q := 30) d_MO_feed_27 rfl rfl ?_
      refine r_zle (tgt := 35) (q := 33) d_MO_feed_30 rfl rfl (fun e30 => ?_) (fun e30 => ?_)
      · skip
        refine r_al0 (q := 36) d_MO_feed_35 rfl ?_
        refine gt_MO_code (q := 39) d_MO_feed_36 rfl rfl ?_
        refine r_al0 (q := 40) d_MO_feed_39 rfl ?_
        refine gt_MO_bytes (q := 43) d_MO_feed_40 rfl rfl ?_
        refine r_il1 (q := 44) d_MO_feed_43 rfl ?_
        refine r_sp (v := 255) (q := 47) d_MO_feed_44 rfl rfl ?_
        refine r_iand (q := 48) d_MO_feed_47 rfl ?_
        refine sv_142 (q := 49) d_MO_feed_48 ?_ rfl ?_
        · (refine vp_of ?_ ?_ <;> (((try simp +decide only [b01, b10, b11, am_up, and_true, and_false, true_and, false_and, if_true, if_false, nn_eq] at *) <;> (try simp only [i32_lt, i32_le, i32_eq, i32_addw, i32_subw, i32_mulw, Int32.reduceToInt] at *) <;> omega)))
        refine r_al0 (q := 50) d_MO_feed_49 rfl ?_
        refine r_dupr (q := 51) d_MO_feed_50 rfl ?_
        refine gt_MO_bytes (q := 54) d_MO_feed_51 rfl rfl ?_
        refine r_ic (v := 1) (q := 55) d_MO_feed_54 rfl rfl ?_
        refine r_iadd (q := 56) d_MO_feed_55 rfl ?_
        refine pt_MO_bytes (q := 59) d_MO_feed_56 rfl rfl ?_
        refine r_al0 (q := 60) d_MO_feed_59 rfl ?_
        refine gt_MO_bytes (q := 63) d_MO_feed_60 rfl rfl ?_
        refine r_ri d_MO_feed_63 ?_
        first | (refine h1 ?_ <;> ((try simp +decide only [b01, b10, b11, am_up, and_true, and_false, true_and, false_and, if_true, if_false, nn_eq] at *) <;> (try simp only [i32_lt, i32_le, i32_eq, i32_addw, i32_subw, i32_mulw, Int32.reduceToInt] at *) <;> omega)) | (refine h2 ?_ <;> ((try simp +decide only [b01, b10, b11, am_up, and_true, and_false, true_and, false_and, if_true, if_false, nn_eq] at *) <;> (try simp only [i32_lt, i32_le, i32_eq, i32_addw, i32_subw, i32_mulw, Int32.reduceToInt] at *) <;> omega)) | (exfalso; ((try simp +decide only [b01, b10, b11, am_up, and_true, and_false, true_and, false_and, if_true, if_false, nn_eq] at *) <;> (try simp only [i32_lt, i32_le, i32_eq, i32_addw, i32_subw, i32_mulw, Int32.reduceToInt] at *) <;> omega))
      · skip
        refine r_ic (v := 0) (q := 34) d_MO_feed_33 rfl rfl ?_
        refine r_ri d_MO_feed_34 ?_
        first | (refine h1 ?_ <;> ((try simp +decide only [b01, b10, b11, am_up, and_true, and_false, true_and, false_and, if_true, if_false, nn_eq] at *) <;> (try simp only [i32_lt, i32_le, i32_eq, i32_addw, i32_subw, i32_mulw, Int32.reduceToInt] at *) <;> omega)) | (refine h2 ?_ <;> ((try simp +decide only [b01, b10, b11, am_up, and_true, and_false, true_and, false_and, if_true, if_false, nn_eq] at *) <;> (try simp only [i32_lt, i32_le, i32_eq, i32_addw, i32_subw, i32_mulw, Int32.reduceToInt] at *) <;> omega)) | (exfalso; ((try simp +decide only [b01, b10, b11, am_up, and_true, and_false, true_and, false_and, if_true, if_false, nn_eq] at *) <;> (try simp only [i32_lt, i32_le, i32_eq, i32_addw, i32_subw, i32_mulw, Int32.reduceToInt] at *) <;> omega))

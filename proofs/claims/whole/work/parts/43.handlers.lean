/-! written by wip/whole/gen/walk.py out of 43.handlers.txt -/
def cs_m (st : am_S) : Nat := (st 323 0 - 1).toNatClampNeg
def cs_h (st : am_S) : Nat := 4 * cs_m st + (st 66 (cs_m st)).toNatClampNeg
theorem sp_CO_addHandler {a b c d : Int32} {st : am_S} {f : Int32 → am_S → Prop} (c1 : 0 ≤ (st 323 0).toInt) (c2 : (st 323 0).toInt ≤ 8) (c3 : 0 ≤ (st 66 (st 323 0 - 1).toNatClampNeg).toInt) (h1 : st 323 0 = 0 ∨ 4 ≤ st 66 (st 323 0 - 1).toNatClampNeg → f 0 st) (h2 : ¬ st 323 0 = 0 ∧ st 66 (st 323 0 - 1).toNatClampNeg < 4 → f 1 (am_up (am_up (am_up (am_up (am_up st 128 (cs_h st) a) 129 (cs_h st) b) 130 (cs_h st) c) 131 (cs_h st) d) 66 (cs_m st) (st 66 (cs_m st) + 1))) : wp_CO_addHandler [.inr (.inl 124), .inl a, .inl b, .inl c, .inl d] st (am_ki f) := by
  refine ⟨⟨rfl, Nat.le_of_ble_eq_true rfl⟩, ?_⟩
  refine r_al0 (q := 1) d_CO_addHandler_0 rfl ?_
  refine gt_CO_methodCount (q := 4) d_CO_addHandler_1 rfl rfl ?_
  refine r_zne (tgt := 9) (q := 7) d_CO_addHandler_4 rfl rfl (fun e4 => ?_) (fun e4 => ?_)
  · skip
    refine r_al0 (q := 10) d_CO_addHandler_9 rfl ?_
    refine gt_CO_methods (q := 13) d_CO_addHandler_10 rfl rfl ?_
    refine r_al0 (q := 14) d_CO_addHandler_13 rfl ?_
    refine gt_CO_methodCount (q := 17) d_CO_addHandler_14 rfl rfl ?_
    refine r_ic (v := 1) (q := 18) d_CO_addHandler_17 rfl rfl ?_
    refine r_isub (q := 19) d_CO_addHandler_18 rfl ?_
    refine ld_130 (q := 20) d_CO_addHandler_19 ?_ rfl ?_
    · (refine vp_of ?_ ?_ <;> (((try simp +decide only [b01, b10, b11, am_up, and_true, and_false, true_and, false_and, if_true, if_false, nn_eq] at *) <;> (try simp only [i32_lt, i32_le, i32_eq, i32_addw, i32_subw, i32_mulw, Int32.reduceToInt] at *) <;> omega)))
    refine r_as5 (q := 22) d_CO_addHandler_20 rfl ?_
    refine r_al5 (q := 24) d_CO_addHandler_22 rfl ?_
    refine gt_ME_handlerCount (q := 27) d_CO_addHandler_24 rfl (by first | assumption | omega | decide | ((try simp +decide only [b01, b10, b11, am_up, and_true, and_false, true_and, false_and, if_true, if_false, nn_eq] at *) <;> (try simp only [i32_lt, i32_le, i32_eq, i32_addw, i32_subw, i32_mulw, Int32.reduceToInt] at *) <;> omega)) rfl ?_
    refine r_ic (v := 4) (q := 28) d_CO_addHandler_27 rfl rfl ?_
    refine r_clt (tgt := 33) (q := 31) d_CO_addHandler_28 rfl rfl (fun e28 => ?_) (fun e28 => ?_)
    · skip
      refine r_al5 (q := 35) d_CO_addHandler_33 rfl ?_
      refine gt_ME_handlers (q := 38) d_CO_addHandler_35 rfl (by first | assumption | omega | decide | ((try simp +decide only [b01, b10, b11, am_up, and_true, and_false, true_and, false_and, if_true, if_false, nn_eq] at *) <;> (try simp only [i32_lt, i32_le, i32_eq, i32_addw, i32_subw, i32_mulw, Int32.reduceToInt] at *) <;> omega)) rfl ?_
      refine r_al5 (q := 40) d_CO_addHandler_38 rfl ?_
      refine gt_ME_handlerCount (q := 43) d_CO_addHandler_40 rfl (by first | assumption | omega | decide | ((try simp +decide only [b01, b10, b11, am_up, and_true, and_false, true_and, false_and, if_true, if_false, nn_eq] at *) <;> (try simp only [i32_lt, i32_le, i32_eq, i32_addw, i32_subw, i32_mulw, Int32.reduceToInt] at *) <;> omega)) rfl ?_
      refine ld_HA (by first | assumption | omega | decide | ((try simp +decide only [b01, b10, b11, am_up, and_true, and_false, true_and, false_and, if_true, if_false, nn_eq] at *) <;> (try simp only [i32_lt, i32_le, i32_eq, i32_addw, i32_subw, i32_mulw, Int32.reduceToInt] at *) <;> omega)) (q := 44) d_CO_addHandler_43 ?_ rfl ?_
      · (refine vp_of ?_ ?_ <;> (((try simp +decide only [b01, b10, b11, am_up, and_true, and_false, true_and, false_and, if_true, if_false, nn_eq] at *) <;> (try simp only [i32_lt, i32_le, i32_eq, i32_addw, i32_subw, i32_mulw, Int32.reduceToInt] at *) <;> omega)))
      refine r_as6 (q := 46) d_CO_addHandler_44 rfl ?_
      refine r_al6 (q := 48) d_CO_addHandler_46 rfl ?_
      refine r_il1 (q := 49) d_CO_addHandler_48 rfl ?_
      refine pt_HA_from (q := 52) d_CO_addHandler_49 rfl (by first | assumption | omega | decide | ((try simp +decide only [b01, b10, b11, am_up, and_true, and_false, true_and, false_and, if_true, if_false, nn_eq] at *) <;> (try simp only [i32_lt, i32_le, i32_eq, i32_addw, i32_subw, i32_mulw, Int32.reduceToInt] at *) <;> omega)) rfl ?_
      refine r_al6 (q := 54) d_CO_addHandler_52 rfl ?_
      refine r_il2 (q := 55) d_CO_addHandler_54 rfl ?_
      refine pt_HA_to (q := 58) d_CO_addHandler_55 rfl (by first | assumption | omega | decide | ((try simp +decide only [b01, b10, b11, am_up, and_true, and_false, true_and, false_and, if_true, if_false, nn_eq] at *) <;> (try simp only [i32_lt, i32_le, i32_eq, i32_addw, i32_subw, i32_mulw, Int32.reduceToInt] at *) <;> omega)) rfl ?_
      refine r_al6 (q := 60) d_CO_addHandler_58 rfl ?_
      refine r_il3 (q := 61) d_CO_addHandler_60 rfl ?_
      refine pt_HA_target (q := 64) d_CO_addHandler_61 rfl (by first | assumption | omega | decide | ((try simp +decide only [b01, b10, b11, am_up, and_true, and_false, true_and, false_and, if_true, if_false, nn_eq] at *) <;> (try simp only [i32_lt, i32_le, i32_eq, i32_addw, i32_subw, i32_mulw, Int32.reduceToInt] at *) <;> omega)) rfl ?_
      refine r_al6 (q := 66) d_CO_addHandler_64 rfl ?_
      refine r_il4 (q := 68) d_CO_addHandler_66 rfl ?_
      refine pt_HA_kind (q := 71) d_CO_addHandler_68 rfl (by first | assumption | omega | decide | ((try simp +decide only [b01, b10, b11, am_up, and_true, and_false, true_and, false_and, if_true, if_false, nn_eq] at *) <;> (try simp only [i32_lt, i32_le, i32_eq, i32_addw, i32_subw, i32_mulw, Int32.reduceToInt] at *) <;> omega)) rfl ?_
      refine r_al5 (q := 73) d_CO_addHandler_71 rfl ?_
      refine r_dupr (q := 74) d_CO_addHandler_73 rfl ?_
      refine gt_ME_handlerCount (q := 77) d_CO_addHandler_74 rfl (by first | assumption | omega | decide | ((try simp +decide only [b01, b10, b11, am_up, and_true, and_false, true_and, false_and, if_true, if_false, nn_eq] at *) <;> (try simp only [i32_lt, i32_le, i32_eq, i32_addw, i32_subw, i32_mulw, Int32.reduceToInt] at *) <;> omega)) rfl ?_
      refine r_ic (v := 1) (q := 78) d_CO_addHandler_77 rfl rfl ?_
      refine r_iadd (q := 79) d_CO_addHandler_78 rfl ?_
      refine pt_ME_handlerCount (q := 82) d_CO_addHandler_79 rfl (by first | assumption | omega | decide | ((try simp +decide only [b01, b10, b11, am_up, and_true, and_false, true_and, false_and, if_true, if_false, nn_eq] at *) <;> (try simp only [i32_lt, i32_le, i32_eq, i32_addw, i32_subw, i32_mulw, Int32.reduceToInt] at *) <;> omega)) rfl ?_
      refine r_ic (v := 1) (q := 83) d_CO_addHandler_82 rfl rfl ?_
      refine r_rz d_CO_addHandler_83 (by first | assumption | omega | decide | ((try simp +decide only [b01, b10, b11, am_up, and_true, and_false, true_and, false_and, if_true, if_false, nn_eq] at *) <;> (try simp only [i32_lt, i32_le, i32_eq, i32_addw, i32_subw, i32_mulw, Int32.reduceToInt] at *) <;> omega)) ?_
      first | (refine h1 ?_ <;> ((try simp +decide only [b01, b10, b11, am_up, and_true, and_false, true_and, false_and, if_true, if_false, nn_eq] at *) <;> (try simp only [i32_lt, i32_le, i32_eq, i32_addw, i32_subw, i32_mulw, Int32.reduceToInt] at *) <;> omega)) | (refine h2 ?_ <;> ((try simp +decide only [b01, b10, b11, am_up, and_true, and_false, true_and, false_and, if_true, if_false, nn_eq] at *) <;> (try simp only [i32_lt, i32_le, i32_eq, i32_addw, i32_subw, i32_mulw, Int32.reduceToInt] at *) <;> omega)) | (exfalso; ((try simp +decide only [b01, b10, b11, am_up, and_true, and_false, true_and, false_and, if_true, if_false, nn_eq] at *) <;> (try simp only [i32_lt, i32_le, i32_eq, i32_addw, i32_subw, i32_mulw, Int32.reduceToInt] at *) <;> omega))
    · skip
      refine r_ic (v := 0) (q := 32) d_CO_addHandler_31 rfl rfl ?_
      refine r_rz d_CO_addHandler_32 (by first | assumption | omega | decide | ((try simp +decide only [b01, b10, b11, am_up, and_true, and_false, true_and, false_and, if_true, if_false, nn_eq] at *) <;> (try simp only [i32_lt, i32_le, i32_eq, i32_addw, i32_subw, i32_mulw, Int32.reduceToInt] at *) <;> omega)) ?_
      first | (refine h1 ?_ <;> ((try simp +decide only [b01, b10, b11, am_up, and_true, and_false, true_and, false_and, if_true, if_false, nn_eq] at *) <;> (try simp only [i32_lt, i32_le, i32_eq, i32_addw, i32_subw, i32_mulw, Int32.reduceToInt] at *) <;> omega)) | (refine h2 ?_ <;> ((try simp +decide only [b01, b10, b11, am_up, and_true, and_false, true_and, false_and, if_true, if_false, nn_eq] at *) <;> (try simp only [i32_lt, i32_le, i32_eq, i32_addw, i32_subw, i32_mulw, Int32.reduceToInt] at *) <;> omega)) | (exfalso; ((try simp +decide only [b01, b10, b11, am_up, and_true, and_false, true_and, false_and, if_true, if_false, nn_eq] at *) <;> (try simp only [i32_lt, i32_le, i32_eq, i32_addw, i32_subw, i32_mulw, Int32.reduceToInt] at *) <;> omega))
  · skip
    refine r_ic (v := 0) (q := 8) d_CO_addHandler_7 rfl rfl ?_
    refine r_rz d_CO_addHandler_8 (by first | assumption | omega | decide | ((try simp +decide only [b01, b10, b11, am_up, and_true, and_false, true_and, false_and, if_true, if_false, nn_eq] at *) <;> (try simp only [i32_lt, i32_le, i32_eq, i32_addw, i32_subw, i32_mulw, Int32.reduceToInt] at *) <;> omega)) ?_
    first | (refine h1 ?_ <;> ((try simp +decide only [b01, b10, b11, am_up, and_true, and_false, true_and, false_and, if_true, if_false, nn_eq] at *) <;> (try simp only [i32_lt, i32_le, i32_eq, i32_addw, i32_subw, i32_mulw, Int32.reduceToInt] at *) <;> omega)) | (refine h2 ?_ <;> ((try simp +decide only [b01, b10, b11, am_up, and_true, and_false, true_and, false_and, if_true, if_false, nn_eq] at *) <;> (try simp only [i32_lt, i32_le, i32_eq, i32_addw, i32_subw, i32_mulw, Int32.reduceToInt] at *) <;> omega)) | (exfalso; ((try simp +decide only [b01, b10, b11, am_up, and_true, and_false, true_and, false_and, if_true, if_false, nn_eq] at *) <;> (try simp only [i32_lt, i32_le, i32_eq, i32_addw, i32_subw, i32_mulw, Int32.reduceToInt] at *) <;> omega))
theorem sp_FW_handler {a b c d : Int32} {st : am_S} {f : Int32 → am_S → Prop} (c1 : 0 ≤ (st 323 0).toInt) (c2 : (st 323 0).toInt ≤ 8) (c3 : 0 ≤ (st 66 (st 323 0 - 1).toNatClampNeg).toInt) (h1 : ¬ st 262 0 = 0 ∨ st 323 0 = 0 ∨ 4 ≤ st 66 (st 323 0 - 1).toNatClampNeg → f 0 st) (h2 : st 262 0 = 0 ∧ ¬ st 323 0 = 0 ∧ st 66 (st 323 0 - 1).toNatClampNeg < 4 → f 1 (am_up (am_up (am_up (am_up (am_up st 128 (cs_h st) a) 129 (cs_h st) b) 130 (cs_h st) c) 131 (cs_h st) d) 66 (cs_m st) (st 66 (cs_m st) + 1))) : wp_FW_handler [.inr (.inl 123), .inl a, .inl b, .inl c, .inl d] st (am_ki f) := by
  refine ⟨⟨rfl, Nat.le_of_ble_eq_true rfl⟩, ?_⟩
  refine r_al0 (q := 1) d_FW_handler_0 rfl ?_
  refine gt_FW_verified (q := 4) d_FW_handler_1 rfl rfl ?_
  refine r_zne (tgt := 26) (q := 7) d_FW_handler_4 rfl rfl (fun e4 => ?_) (fun e4 => ?_)
  · skip
    refine r_ic (v := 0) (q := 27) d_FW_handler_26 rfl rfl ?_
    refine r_rz d_FW_handler_27 (by first | assumption | omega | decide | ((try simp +decide only [b01, b10, b11, am_up, and_true, and_false, true_and, false_and, if_true, if_false, nn_eq] at *) <;> (try simp only [i32_lt, i32_le, i32_eq, i32_addw, i32_subw, i32_mulw, Int32.reduceToInt] at *) <;> omega)) ?_
    first | (refine h1 ?_ <;> ((try simp +decide only [b01, b10, b11, am_up, and_true, and_false, true_and, false_and, if_true, if_false, nn_eq] at *) <;> (try simp only [i32_lt, i32_le, i32_eq, i32_addw, i32_subw, i32_mulw, Int32.reduceToInt] at *) <;> omega)) | (refine h2 ?_ <;> ((try simp +decide only [b01, b10, b11, am_up, and_true, and_false, true_and, false_and, if_true, if_false, nn_eq] at *) <;> (try simp only [i32_lt, i32_le, i32_eq, i32_addw, i32_subw, i32_mulw, Int32.reduceToInt] at *) <;> omega)) | (exfalso; ((try simp +decide only [b01, b10, b11, am_up, and_true, and_false, true_and, false_and, if_true, if_false, nn_eq] at *) <;> (try simp only [i32_lt, i32_le, i32_eq, i32_addw, i32_subw, i32_mulw, Int32.reduceToInt] at *) <;> omega))
  · skip
    refine r_al0 (q := 8) d_FW_handler_7 rfl ?_
    refine gt_FW_code (q := 11) d_FW_handler_8 rfl rfl ?_
    refine r_il1 (q := 12) d_FW_handler_11 rfl ?_
    refine r_il2 (q := 13) d_FW_handler_12 rfl ?_
    refine r_il3 (q := 14) d_FW_handler_13 rfl ?_
    refine r_il4 (q := 16) d_FW_handler_14 rfl ?_
    refine r_vi4 mo_CO_addHandler d_FW_handler_16 rfl rfl rfl (q := 19) rfl ?_
    refine sp_CO_addHandler (by first | assumption | omega | decide | ((try simp +decide only [b01, b10, b11, am_up, and_true, and_false, true_and, false_and, if_true, if_false, nn_eq] at *) <;> (try simp only [i32_lt, i32_le, i32_eq, i32_addw, i32_subw, i32_mulw, Int32.reduceToInt] at *) <;> omega)) (by first | assumption | omega | decide | ((try simp +decide only [b01, b10, b11, am_up, and_true, and_false, true_and, false_and, if_true, if_false, nn_eq] at *) <;> (try simp only [i32_lt, i32_le, i32_eq, i32_addw, i32_subw, i32_mulw, Int32.reduceToInt] at *) <;> omega)) (by first | assumption | omega | decide | ((try simp +decide only [b01, b10, b11, am_up, and_true, and_false, true_and, false_and, if_true, if_false, nn_eq] at *) <;> (try simp only [i32_lt, i32_le, i32_eq, i32_addw, i32_subw, i32_mulw, Int32.reduceToInt] at *) <;> omega)) (fun e16 => ?_) (fun e16 => ?_)
    · skip
      refine r_zeq (tgt := 26) (q := 22) d_FW_handler_19 rfl rfl (fun e19 => ?_) (fun e19 => ?_)
      · skip
        refine r_ic (v := 0) (q := 27) d_FW_handler_26 rfl rfl ?_
        refine r_rz d_FW_handler_27 (by first | assumption | omega | decide | ((try simp +decide only [b01, b10, b11, am_up, and_true, and_false, true_and, false_and, if_true, if_false, nn_eq] at *) <;> (try simp only [i32_lt, i32_le, i32_eq, i32_addw, i32_subw, i32_mulw, Int32.reduceToInt] at *) <;> omega)) ?_
        first | (refine h1 ?_ <;> ((try simp +decide only [b01, b10, b11, am_up, and_true, and_false, true_and, false_and, if_true, if_false, nn_eq] at *) <;> (try simp only [i32_lt, i32_le, i32_eq, i32_addw, i32_subw, i32_mulw, Int32.reduceToInt] at *) <;> omega)) | (refine h2 ?_ <;> ((try simp +decide only [b01, b10, b11, am_up, and_true, and_false, true_and, false_and, if_true, if_false, nn_eq] at *) <;> (try simp only [i32_lt, i32_le, i32_eq, i32_addw, i32_subw, i32_mulw, Int32.reduceToInt] at *) <;> omega)) | (exfalso; ((try simp +decide only [b01, b10, b11, am_up, and_true, and_false, true_and, false_and, if_true, if_false, nn_eq] at *) <;> (try simp only [i32_lt, i32_le, i32_eq, i32_addw, i32_subw, i32_mulw, Int32.reduceToInt] at *) <;> omega))
      · skip
        refine r_ic (v := 1) (q := 23) d_FW_handler_22 rfl rfl ?_
        refine am_go (tgt := 27) d_FW_handler_23 rfl ?_
        refine r_rz d_FW_handler_27 (by first | assumption | omega | decide | ((try simp +decide only [b01, b10, b11, am_up, and_true, and_false, true_and, false_and, if_true, if_false, nn_eq] at *) <;> (try simp only [i32_lt, i32_le, i32_eq, i32_addw, i32_subw, i32_mulw, Int32.reduceToInt] at *) <;> omega)) ?_
        first | (refine h1 ?_ <;> ((try simp +decide only [b01, b10, b11, am_up, and_true, and_false, true_and, false_and, if_true, if_false, nn_eq] at *) <;> (try simp only [i32_lt, i32_le, i32_eq, i32_addw, i32_subw, i32_mulw, Int32.reduceToInt] at *) <;> omega)) | (refine h2 ?_ <;> ((try simp +decide only [b01, b10, b11, am_up, and_true, and_false, true_and, false_and, if_true, if_false, nn_eq] at *) <;> (try simp only [i32_lt, i32_le, i32_eq, i32_addw, i32_subw, i32_mulw, Int32.reduceToInt] at *) <;> omega)) | (exfalso; ((try simp +decide only [b01, b10, b11, am_up, and_true, and_false, true_and, false_and, if_true, if_false, nn_eq] at *) <;> (try simp only [i32_lt, i32_le, i32_eq, i32_addw, i32_subw, i32_mulw, Int32.reduceToInt] at *) <;> omega))
    · skip
      refine r_zeq (tgt := 26) (q := 22) d_FW_handler_19 rfl rfl (fun e19 => ?_) (fun e19 => ?_)
      · skip
        refine r_ic (v := 0) (q := 27) d_FW_handler_26 rfl rfl ?_
        refine r_rz d_FW_handler_27 (by first | assumption | omega | decide | ((try simp +decide only [b01, b10, b11, am_up, and_true, and_false, true_and, false_and, if_true, if_false, nn_eq] at *) <;> (try simp only [i32_lt, i32_le, i32_eq, i32_addw, i32_subw, i32_mulw, Int32.reduceToInt] at *) <;> omega)) ?_
        first | (refine h1 ?_ <;> ((try simp +decide only [b01, b10, b11, am_up, and_true, and_false, true_and, false_and, if_true, if_false, nn_eq] at *) <;> (try simp only [i32_lt, i32_le, i32_eq, i32_addw, i32_subw, i32_mulw, Int32.reduceToInt] at *) <;> omega)) | (refine h2 ?_ <;> ((try simp +decide only [b01, b10, b11, am_up, and_true, and_false, true_and, false_and, if_true, if_false, nn_eq] at *) <;> (try simp only [i32_lt, i32_le, i32_eq, i32_addw, i32_subw, i32_mulw, Int32.reduceToInt] at *) <;> omega)) | (exfalso; ((try simp +decide only [b01, b10, b11, am_up, and_true, and_false, true_and, false_and, if_true, if_false, nn_eq] at *) <;> (try simp only [i32_lt, i32_le, i32_eq, i32_addw, i32_subw, i32_mulw, Int32.reduceToInt] at *) <;> omega))
      · skip
        refine r_ic (v := 1) (q := 23) d_FW_handler_22 rfl rfl ?_
        refine am_go (tgt := 27) d_FW_handler_23 rfl ?_
        refine r_rz d_FW_handler_27 (by first | assumption | omega | decide | ((try simp +decide only [b01, b10, b11, am_up, and_true, and_false, true_and, false_and, if_true, if_false, nn_eq] at *) <;> (try simp only [i32_lt, i32_le, i32_eq, i32_addw, i32_subw, i32_mulw, Int32.reduceToInt] at *) <;> omega)) ?_
        first | (refine h1 ?_ <;> ((try simp +decide only [b01, b10, b11, am_up, and_true, and_false, true_and, false_and, if_true, if_false, nn_eq] at *) <;> (try simp only [i32_lt, i32_le, i32_eq, i32_addw, i32_subw, i32_mulw, Int32.reduceToInt] at *) <;> omega)) | (refine h2 ?_ <;> ((try simp +decide only [b01, b10, b11, am_up, and_true, and_false, true_and, false_and, if_true, if_false, nn_eq] at *) <;> (try simp only [i32_lt, i32_le, i32_eq, i32_addw, i32_subw, i32_mulw, Int32.reduceToInt] at *) <;> omega)) | (exfalso; ((try simp +decide only [b01, b10, b11, am_up, and_true, and_false, true_and, false_and, if_true, if_false, nn_eq] at *) <;> (try simp only [i32_lt, i32_le, i32_eq, i32_addw, i32_subw, i32_mulw, Int32.reduceToInt] at *) <;> omega))
def ms_m (st : am_S) : Nat := (st 579 0 - 1).toNatClampNeg
def ms_h (st : am_S) : Nat := (4 * (st 579 0 - 1) + st 2149 (ms_m st)).toNatClampNeg
theorem sp_MO_handler {a b c d : Int32} {st : am_S} {f : Int32 → am_S → Prop} (c1 : 0 ≤ (st 579 0).toInt) (c2 : (st 579 0).toInt ≤ 8) (c3 : 0 ≤ (st 2149 (st 579 0 - 1).toNatClampNeg).toInt) (c4 : (st 2149 (st 579 0 - 1).toNatClampNeg).toInt ≤ 4) (h1 : ¬ st 591 0 = 0 ∨ st 579 0 = 0 ∨ st 2149 (st 579 0 - 1).toNatClampNeg = 4 → f 0 (am_up st 576 0 0)) (h2 : st 591 0 = 0 ∧ ¬ st 579 0 = 0 ∧ ¬ st 2149 (st 579 0 - 1).toNatClampNeg = 4 → f 1 (am_up (am_up (am_up (am_up (am_up (am_up st 576 0 0) 2150 (ms_h st) a) 2151 (ms_h st) b) 2152 (ms_h st) c) 2153 (ms_h st) d) 2149 (ms_m st) (st 2149 (ms_m st) + 1))) : wp_MO_handler [.inr (.inl 128), .inl a, .inl b, .inl c, .inl d] st (am_ki f) := by
  refine ⟨⟨rfl, Nat.le_of_ble_eq_true rfl⟩, ?_⟩
  refine r_al0 (q := 1) d_MO_handler_0 rfl ?_
  refine r_ic (v := 0) (q := 2) d_MO_handler_1 rfl rfl ?_
  refine pt_MO_thrown (q := 5) d_MO_handler_2 rfl rfl ?_
  refine r_al0 (q := 6) d_MO_handler_5 rfl ?_
  refine gt_MO_methods (q := 9) d_MO_handler_6 rfl rfl ?_
  refine r_zeq (tgt := 34) (q := 12) d_MO_handler_9 rfl rfl (fun e9 => ?_) (fun e9 => ?_)
  · skip
    refine r_ic (v := 0) (q := 35) d_MO_handler_34 rfl rfl ?_
    refine r_rz d_MO_handler_35 (by first | assumption | omega | decide | ((try simp +decide only [b01, b10, b11, am_up, and_true, and_false, true_and, false_and, if_true, if_false, nn_eq] at *) <;> (try simp only [i32_lt, i32_le, i32_eq, i32_addw, i32_subw, i32_mulw, Int32.reduceToInt] at *) <;> omega)) ?_
    first | (refine h1 ?_ <;> ((try simp +decide only [b01, b10, b11, am_up, and_true, and_false, true_and, false_and, if_true, if_false, nn_eq] at *) <;> (try simp only [i32_lt, i32_le, i32_eq, i32_addw, i32_subw, i32_mulw, Int32.reduceToInt] at *) <;> omega)) | (refine h2 ?_ <;> ((try simp +decide only [b01, b10, b11, am_up, and_true, and_false, true_and, false_and, if_true, if_false, nn_eq] at *) <;> (try simp only [i32_lt, i32_le, i32_eq, i32_addw, i32_subw, i32_mulw, Int32.reduceToInt] at *) <;> omega)) | (exfalso; ((try simp +decide only [b01, b10, b11, am_up, and_true, and_false, true_and, false_and, if_true, if_false, nn_eq] at *) <;> (try simp only [i32_lt, i32_le, i32_eq, i32_addw, i32_subw, i32_mulw, Int32.reduceToInt] at *) <;> omega))
  · skip
    refine r_al0 (q := 13) d_MO_handler_12 rfl ?_
    refine gt_MO_handlers (q := 16) d_MO_handler_13 rfl rfl ?_
    refine r_al0 (q := 17) d_MO_handler_16 rfl ?_
    refine gt_MO_methods (q := 20) d_MO_handler_17 rfl rfl ?_
    refine r_ic (v := 1) (q := 21) d_MO_handler_20 rfl rfl ?_
    refine r_isub (q := 22) d_MO_handler_21 rfl ?_
    refine ld_149 (q := 23) d_MO_handler_22 ?_ rfl ?_
    · (refine vp_of ?_ ?_ <;> (((try simp +decide only [b01, b10, b11, am_up, and_true, and_false, true_and, false_and, if_true, if_false, nn_eq] at *) <;> (try simp only [i32_lt, i32_le, i32_eq, i32_addw, i32_subw, i32_mulw, Int32.reduceToInt] at *) <;> omega)))
    refine r_ic (v := 4) (q := 24) d_MO_handler_23 rfl rfl ?_
    refine r_ceq (tgt := 34) (q := 27) d_MO_handler_24 rfl rfl (fun e24 => ?_) (fun e24 => ?_)
    · skip
      refine r_ic (v := 0) (q := 35) d_MO_handler_34 rfl rfl ?_
      refine r_rz d_MO_handler_35 (by first | assumption | omega | decide | ((try simp +decide only [b01, b10, b11, am_up, and_true, and_false, true_and, false_and, if_true, if_false, nn_eq] at *) <;> (try simp only [i32_lt, i32_le, i32_eq, i32_addw, i32_subw, i32_mulw, Int32.reduceToInt] at *) <;> omega)) ?_
      first | (refine h1 ?_ <;> ((try simp +decide only [b01, b10, b11, am_up, and_true, and_false, true_and, false_and, if_true, if_false, nn_eq] at *) <;> (try simp only [i32_lt, i32_le, i32_eq, i32_addw, i32_subw, i32_mulw, Int32.reduceToInt] at *) <;> omega)) | (refine h2 ?_ <;> ((try simp +decide only [b01, b10, b11, am_up, and_true, and_false, true_and, false_and, if_true, if_false, nn_eq] at *) <;> (try simp only [i32_lt, i32_le, i32_eq, i32_addw, i32_subw, i32_mulw, Int32.reduceToInt] at *) <;> omega)) | (exfalso; ((try simp +decide only [b01, b10, b11, am_up, and_true, and_false, true_and, false_and, if_true, if_false, nn_eq] at *) <;> (try simp only [i32_lt, i32_le, i32_eq, i32_addw, i32_subw, i32_mulw, Int32.reduceToInt] at *) <;> omega))
    · skip
      refine r_al0 (q := 28) d_MO_handler_27 rfl ?_
      refine gt_MO_verified (q := 31) d_MO_handler_28 rfl rfl ?_
      refine r_zeq (tgt := 36) (q := 34) d_MO_handler_31 rfl rfl (fun e31 => ?_) (fun e31 => ?_)
      · skip
        refine r_ic (v := 4) (q := 37) d_MO_handler_36 rfl rfl ?_
        refine r_al0 (q := 38) d_MO_handler_37 rfl ?_
        refine gt_MO_methods (q := 41) d_MO_handler_38 rfl rfl ?_
        refine r_ic (v := 1) (q := 42) d_MO_handler_41 rfl rfl ?_
        refine r_isub (q := 43) d_MO_handler_42 rfl ?_
        refine r_imul (q := 44) d_MO_handler_43 rfl ?_
        refine r_al0 (q := 45) d_MO_handler_44 rfl ?_
        refine gt_MO_handlers (q := 48) d_MO_handler_45 rfl rfl ?_
        refine r_al0 (q := 49) d_MO_handler_48 rfl ?_
        refine gt_MO_methods (q := 52) d_MO_handler_49 rfl rfl ?_
        refine r_ic (v := 1) (q := 53) d_MO_handler_52 rfl rfl ?_
        refine r_isub (q := 54) d_MO_handler_53 rfl ?_
        refine ld_149 (q := 55) d_MO_handler_54 ?_ rfl ?_
        · (refine vp_of ?_ ?_ <;> (((try simp +decide only [b01, b10, b11, am_up, and_true, and_false, true_and, false_and, if_true, if_false, nn_eq] at *) <;> (try simp only [i32_lt, i32_le, i32_eq, i32_addw, i32_subw, i32_mulw, Int32.reduceToInt] at *) <;> omega)))
        refine r_iadd (q := 56) d_MO_handler_55 rfl ?_
        refine r_is5 (q := 58) d_MO_handler_56 rfl ?_
        refine r_al0 (q := 59) d_MO_handler_58 rfl ?_
        refine gt_MO_from (q := 62) d_MO_handler_59 rfl rfl ?_
        refine r_il5 (q := 64) d_MO_handler_62 rfl ?_
        refine r_il1 (q := 65) d_MO_handler_64 rfl ?_
        refine sv_150 (q := 66) d_MO_handler_65 ?_ rfl ?_
        · (refine vp_of ?_ ?_ <;> (((try simp +decide only [b01, b10, b11, am_up, and_true, and_false, true_and, false_and, if_true, if_false, nn_eq] at *) <;> (try simp only [i32_lt, i32_le, i32_eq, i32_addw, i32_subw, i32_mulw, Int32.reduceToInt] at *) <;> omega)))
        refine r_al0 (q := 67) d_MO_handler_66 rfl ?_
        refine gt_MO_to (q := 70) d_MO_handler_67 rfl rfl ?_
        refine r_il5 (q := 72) d_MO_handler_70 rfl ?_
        refine r_il2 (q := 73) d_MO_handler_72 rfl ?_
        refine sv_151 (q := 74) d_MO_handler_73 ?_ rfl ?_
        · (refine vp_of ?_ ?_ <;> (((try simp +decide only [b01, b10, b11, am_up, and_true, and_false, true_and, false_and, if_true, if_false, nn_eq] at *) <;> (try simp only [i32_lt, i32_le, i32_eq, i32_addw, i32_subw, i32_mulw, Int32.reduceToInt] at *) <;> omega)))
        refine r_al0 (q := 75) d_MO_handler_74 rfl ?_
        refine gt_MO_target (q := 78) d_MO_handler_75 rfl rfl ?_
        refine r_il5 (q := 80) d_MO_handler_78 rfl ?_
        refine r_il3 (q := 81) d_MO_handler_80 rfl ?_
        refine sv_152 (q := 82) d_MO_handler_81 ?_ rfl ?_
        · (refine vp_of ?_ ?_ <;> (((try simp +decide only [b01, b10, b11, am_up, and_true, and_false, true_and, false_and, if_true, if_false, nn_eq] at *) <;> (try simp only [i32_lt, i32_le, i32_eq, i32_addw, i32_subw, i32_mulw, Int32.reduceToInt] at *) <;> omega)))
        refine r_al0 (q := 83) d_MO_handler_82 rfl ?_
        refine gt_MO_kind (q := 86) d_MO_handler_83 rfl rfl ?_
        refine r_il5 (q := 88) d_MO_handler_86 rfl ?_
        refine r_il4 (q := 90) d_MO_handler_88 rfl ?_
        refine sv_153 (q := 91) d_MO_handler_90 ?_ rfl ?_
        · (refine vp_of ?_ ?_ <;> (((try simp +decide only [b01, b10, b11, am_up, and_true, and_false, true_and, false_and, if_true, if_false, nn_eq] at *) <;> (try simp only [i32_lt, i32_le, i32_eq, i32_addw, i32_subw, i32_mulw, Int32.reduceToInt] at *) <;> omega)))
        refine r_al0 (q := 92) d_MO_handler_91 rfl ?_
        refine gt_MO_handlers (q := 95) d_MO_handler_92 rfl rfl ?_
        refine r_al0 (q := 96) d_MO_handler_95 rfl ?_
        refine gt_MO_methods (q := 99) d_MO_handler_96 rfl rfl ?_
        refine r_ic (v := 1) (q := 100) d_MO_handler_99 rfl rfl ?_
        refine r_isub (q := 101) d_MO_handler_100 rfl ?_
        refine r_dup2 (q := 102) d_MO_handler_101 rfl ?_
        refine ld_149 (q := 103) d_MO_handler_102 ?_ rfl ?_
        · (refine vp_of ?_ ?_ <;> (((try simp +decide only [b01, b10, b11, am_up, and_true, and_false, true_and, false_and, if_true, if_false, nn_eq] at *) <;> (try simp only [i32_lt, i32_le, i32_eq, i32_addw, i32_subw, i32_mulw, Int32.reduceToInt] at *) <;> omega)))
        refine r_ic (v := 1) (q := 104) d_MO_handler_103 rfl rfl ?_
        refine r_iadd (q := 105) d_MO_handler_104 rfl ?_
        refine sv_149 (q := 106) d_MO_handler_105 ?_ rfl ?_
        · (refine vp_of ?_ ?_ <;> (((try simp +decide only [b01, b10, b11, am_up, and_true, and_false, true_and, false_and, if_true, if_false, nn_eq] at *) <;> (try simp only [i32_lt, i32_le, i32_eq, i32_addw, i32_subw, i32_mulw, Int32.reduceToInt] at *) <;> omega)))
        refine r_ic (v := 1) (q := 107) d_MO_handler_106 rfl rfl ?_
        refine r_rz d_MO_handler_107 (by first | assumption | omega | decide | ((try simp +decide only [b01, b10, b11, am_up, and_true, and_false, true_and, false_and, if_true, if_false, nn_eq] at *) <;> (try simp only [i32_lt, i32_le, i32_eq, i32_addw, i32_subw, i32_mulw, Int32.reduceToInt] at *) <;> omega)) ?_
        first | (refine h1 ?_ <;> ((try simp +decide only [b01, b10, b11, am_up, and_true, and_false, true_and, false_and, if_true, if_false, nn_eq] at *) <;> (try simp only [i32_lt, i32_le, i32_eq, i32_addw, i32_subw, i32_mulw, Int32.reduceToInt] at *) <;> omega)) | (refine h2 ?_ <;> ((try simp +decide only [b01, b10, b11, am_up, and_true, and_false, true_and, false_and, if_true, if_false, nn_eq] at *) <;> (try simp only [i32_lt, i32_le, i32_eq, i32_addw, i32_subw, i32_mulw, Int32.reduceToInt] at *) <;> omega)) | (exfalso; ((try simp +decide only [b01, b10, b11, am_up, and_true, and_false, true_and, false_and, if_true, if_false, nn_eq] at *) <;> (try simp only [i32_lt, i32_le, i32_eq, i32_addw, i32_subw, i32_mulw, Int32.reduceToInt] at *) <;> omega))
      · skip
        refine r_ic (v := 0) (q := 35) d_MO_handler_34 rfl rfl ?_
        refine r_rz d_MO_handler_35 (by first | assumption | omega | decide | ((try simp +decide only [b01, b10, b11, am_up, and_true, and_false, true_and, false_and, if_true, if_false, nn_eq] at *) <;> (try simp only [i32_lt, i32_le, i32_eq, i32_addw, i32_subw, i32_mulw, Int32.reduceToInt] at *) <;> omega)) ?_
        first | (refine h1 ?_ <;> ((try simp +decide only [b01, b10, b11, am_up, and_true, and_false, true_and, false_and, if_true, if_false, nn_eq] at *) <;> (try simp only [i32_lt, i32_le, i32_eq, i32_addw, i32_subw, i32_mulw, Int32.reduceToInt] at *) <;> omega)) | (refine h2 ?_ <;> ((try simp +decide only [b01, b10, b11, am_up, and_true, and_false, true_and, false_and, if_true, if_false, nn_eq] at *) <;> (try simp only [i32_lt, i32_le, i32_eq, i32_addw, i32_subw, i32_mulw, Int32.reduceToInt] at *) <;> omega)) | (exfalso; ((try simp +decide only [b01, b10, b11, am_up, and_true, and_false, true_and, false_and, if_true, if_false, nn_eq] at *) <;> (try simp only [i32_lt, i32_le, i32_eq, i32_addw, i32_subw, i32_mulw, Int32.reduceToInt] at *) <;> omega))
theorem sp_MA_end {x : Int32} {st : am_S} {f : am_S → Prop} (h : f (am_up (am_up (am_up st 521 0 x) 522 0 0) 519 0 0)) : wp_MA_end [.inr (.inl 127), .inl x] st (am_kv f) := by
  refine ⟨⟨rfl, Nat.le_of_ble_eq_true rfl⟩, ?_⟩
  refine r_al0 (q := 1) d_MA_end_0 rfl ?_
  refine r_il1 (q := 2) d_MA_end_1 rfl ?_
  refine pt_MA_condition (q := 5) d_MA_end_2 rfl rfl ?_
  refine r_al0 (q := 6) d_MA_end_5 rfl ?_
  refine r_ic (v := 0) (q := 7) d_MA_end_6 rfl rfl ?_
  refine pt_MA_outcome (q := 10) d_MA_end_7 rfl rfl ?_
  refine r_al0 (q := 11) d_MA_end_10 rfl ?_
  refine r_ic (v := 0) (q := 12) d_MA_end_11 rfl rfl ?_
  refine pt_MA_frameCount (q := 15) d_MA_end_12 rfl rfl ?_
  refine r_rv d_MA_end_15 ?_
  exact h
theorem sp_MA_isRunning {st : am_S} {f : Int32 → am_S → Prop} (h1 : st 521 0 = 1 → f 1 st) (h2 : ¬ st 521 0 = 1 → f 0 st) : wp_MA_isRunning [.inr (.inl 127)] st (am_ki f) := by
  refine ⟨⟨rfl, Nat.le_of_ble_eq_true rfl⟩, ?_⟩
  refine r_al0 (q := 1) d_MA_isRunning_0 rfl ?_
  refine gt_MA_condition (q := 4) d_MA_isRunning_1 rfl rfl ?_
  refine r_ic (v := 1) (q := 5) d_MA_isRunning_4 rfl rfl ?_
  refine r_cne (tgt := 12) (q := 8) d_MA_isRunning_5 rfl rfl (fun e5 => ?_) (fun e5 => ?_)
  · skip
    refine r_ic (v := 0) (q := 13) d_MA_isRunning_12 rfl rfl ?_
    refine r_rz d_MA_isRunning_13 (by first | assumption | omega | decide | ((try simp +decide only [b01, b10, b11, am_up, and_true, and_false, true_and, false_and, if_true, if_false, nn_eq] at *) <;> (try simp only [i32_lt, i32_le, i32_eq, i32_addw, i32_subw, i32_mulw, Int32.reduceToInt] at *) <;> omega)) ?_
    first | (refine h1 ?_ <;> ((try simp +decide only [b01, b10, b11, am_up, and_true, and_false, true_and, false_and, if_true, if_false, nn_eq] at *) <;> (try simp only [i32_lt, i32_le, i32_eq, i32_addw, i32_subw, i32_mulw, Int32.reduceToInt] at *) <;> omega)) | (refine h2 ?_ <;> ((try simp +decide only [b01, b10, b11, am_up, and_true, and_false, true_and, false_and, if_true, if_false, nn_eq] at *) <;> (try simp only [i32_lt, i32_le, i32_eq, i32_addw, i32_subw, i32_mulw, Int32.reduceToInt] at *) <;> omega)) | (exfalso; ((try simp +decide only [b01, b10, b11, am_up, and_true, and_false, true_and, false_and, if_true, if_false, nn_eq] at *) <;> (try simp only [i32_lt, i32_le, i32_eq, i32_addw, i32_subw, i32_mulw, Int32.reduceToInt] at *) <;> omega))
  · skip
    refine r_ic (v := 1) (q := 9) d_MA_isRunning_8 rfl rfl ?_
    refine am_go (tgt := 13) d_MA_isRunning_9 rfl ?_
    refine r_rz d_MA_isRunning_13 (by first | assumption | omega | decide | ((try simp +decide only [b01, b10, b11, am_up, and_true, and_false, true_and, false_and, if_true, if_false, nn_eq] at *) <;> (try simp only [i32_lt, i32_le, i32_eq, i32_addw, i32_subw, i32_mulw, Int32.reduceToInt] at *) <;> omega)) ?_
    first | (refine h1 ?_ <;> ((try simp +decide only [b01, b10, b11, am_up, and_true, and_false, true_and, false_and, if_true, if_false, nn_eq] at *) <;> (try simp only [i32_lt, i32_le, i32_eq, i32_addw, i32_subw, i32_mulw, Int32.reduceToInt] at *) <;> omega)) | (refine h2 ?_ <;> ((try simp +decide only [b01, b10, b11, am_up, and_true, and_false, true_and, false_and, if_true, if_false, nn_eq] at *) <;> (try simp only [i32_lt, i32_le, i32_eq, i32_addw, i32_subw, i32_mulw, Int32.reduceToInt] at *) <;> omega)) | (exfalso; ((try simp +decide only [b01, b10, b11, am_up, and_true, and_false, true_and, false_and, if_true, if_false, nn_eq] at *) <;> (try simp only [i32_lt, i32_le, i32_eq, i32_addw, i32_subw, i32_mulw, Int32.reduceToInt] at *) <;> omega))
theorem sp_MO_latest {st : am_S} {f : Int32 → am_S → Prop} (h : f (st 610 0 - 1) st) : wp_MO_latest [.inr (.inl 128)] st (am_ki f) := by
  refine ⟨⟨rfl, Nat.le_of_ble_eq_true rfl⟩, ?_⟩
  refine r_al0 (q := 1) d_MO_latest_0 rfl ?_
  refine gt_MO_frames (q := 4) d_MO_latest_1 rfl rfl ?_
  refine r_ic (v := 1) (q := 5) d_MO_latest_4 rfl rfl ?_
  refine r_isub (q := 6) d_MO_latest_5 rfl ?_
  refine r_ri d_MO_latest_6 ?_
  exact h
theorem sp_MA_frameBelow {x : Int32} {st : am_S} {f : Nat → am_S → Prop} (c1 : 0 ≤ x.toInt) (c2 : x.toInt < (st 519 0).toInt) (c3 : (st 519 0).toInt ≤ 80) (h : f (st 519 0 - 1 - x).toNatClampNeg st) : wp_MA_frameBelow [.inr (.inl 127), .inl x] st (am_kr f) := by
  refine ⟨⟨rfl, Nat.le_of_ble_eq_true rfl⟩, ?_⟩
  refine r_al0 (q := 1) d_MA_frameBelow_0 rfl ?_
  refine gt_MA_frames (q := 4) d_MA_frameBelow_1 rfl rfl ?_
  refine r_al0 (q := 5) d_MA_frameBelow_4 rfl ?_
  refine gt_MA_frameCount (q := 8) d_MA_frameBelow_5 rfl rfl ?_
  refine r_ic (v := 1) (q := 9) d_MA_frameBelow_8 rfl rfl ?_
  refine r_isub (q := 10) d_MA_frameBelow_9 rfl ?_
  refine r_il1 (q := 11) d_MA_frameBelow_10 rfl ?_
  refine r_isub (q := 12) d_MA_frameBelow_11 rfl ?_
  refine ld_138 (q := 13) d_MA_frameBelow_12 ?_ rfl ?_
  · (refine vp_of ?_ ?_ <;> (((try simp +decide only [b01, b10, b11, am_up, and_true, and_false, true_and, false_and, if_true, if_false, nn_eq] at *) <;> (try simp only [i32_lt, i32_le, i32_eq, i32_addw, i32_subw, i32_mulw, Int32.reduceToInt] at *) <;> omega)))
  refine r_rr d_MA_frameBelow_13 ?_
  exact h
theorem sp_MA_showLocal {x : Int32} {st : am_S} {f : Int32 → am_S → Prop} (c1 : (st 518 0).toNatClampNeg < 80) (c2 : (st 0 (st 518 0).toNatClampNeg).toNatClampNeg < 8) (c3 : 0 ≤ (st 2 (st 518 0).toNatClampNeg).toInt) (c4 : 0 < (st 519 0).toInt → (st 2 (st 518 0).toNatClampNeg).toInt + (st 70 (st 0 (st 518 0).toNatClampNeg).toNatClampNeg).toInt ≤ 80) (h1 : 0 < st 519 0 ∧ 0 ≤ x ∧ x < st 70 (st 0 (st 518 0).toNatClampNeg).toNatClampNeg → f (st 2137 (st 2 (st 518 0).toNatClampNeg + x).toNatClampNeg) st) (h2 : ¬ (0 < st 519 0 ∧ 0 ≤ x ∧ x < st 70 (st 0 (st 518 0).toNatClampNeg).toNatClampNeg) → f 0 st) : wp_MA_showLocal [.inr (.inl 127), .inl x] st (am_ki f) := by
  refine ⟨⟨rfl, Nat.le_of_ble_eq_true rfl⟩, ?_⟩
  refine r_al0 (q := 1) d_MA_showLocal_0 rfl ?_
  refine gt_MA_frameCount (q := 4) d_MA_showLocal_1 rfl rfl ?_
  refine r_zle (tgt := 42) (q := 7) d_MA_showLocal_4 rfl rfl (fun e4 => ?_) (fun e4 => ?_)
  · skip
    refine r_ic (v := 0) (q := 43) d_MA_showLocal_42 rfl rfl ?_
    refine r_ri d_MA_showLocal_43 ?_
    first | (refine h1 ?_ <;> ((try simp +decide only [b01, b10, b11, am_up, and_true, and_false, true_and, false_and, if_true, if_false, nn_eq] at *) <;> (try simp only [i32_lt, i32_le, i32_eq, i32_addw, i32_subw, i32_mulw, Int32.reduceToInt] at *) <;> omega)) | (refine h2 ?_ <;> ((try simp +decide only [b01, b10, b11, am_up, and_true, and_false, true_and, false_and, if_true, if_false, nn_eq] at *) <;> (try simp only [i32_lt, i32_le, i32_eq, i32_addw, i32_subw, i32_mulw, Int32.reduceToInt] at *) <;> omega)) | (exfalso; ((try simp +decide only [b01, b10, b11, am_up, and_true, and_false, true_and, false_and, if_true, if_false, nn_eq] at *) <;> (try simp only [i32_lt, i32_le, i32_eq, i32_addw, i32_subw, i32_mulw, Int32.reduceToInt] at *) <;> omega))
  · skip
    refine r_il1 (q := 8) d_MA_showLocal_7 rfl ?_
    refine r_zlt (tgt := 42) (q := 11) d_MA_showLocal_8 rfl rfl (fun e8 => ?_) (fun e8 => ?_)
    · skip
      refine r_ic (v := 0) (q := 43) d_MA_showLocal_42 rfl rfl ?_
      refine r_ri d_MA_showLocal_43 ?_
      first | (refine h1 ?_ <;> ((try simp +decide only [b01, b10, b11, am_up, and_true, and_false, true_and, false_and, if_true, if_false, nn_eq] at *) <;> (try simp only [i32_lt, i32_le, i32_eq, i32_addw, i32_subw, i32_mulw, Int32.reduceToInt] at *) <;> omega)) | (refine h2 ?_ <;> ((try simp +decide only [b01, b10, b11, am_up, and_true, and_false, true_and, false_and, if_true, if_false, nn_eq] at *) <;> (try simp only [i32_lt, i32_le, i32_eq, i32_addw, i32_subw, i32_mulw, Int32.reduceToInt] at *) <;> omega)) | (exfalso; ((try simp +decide only [b01, b10, b11, am_up, and_true, and_false, true_and, false_and, if_true, if_false, nn_eq] at *) <;> (try simp only [i32_lt, i32_le, i32_eq, i32_addw, i32_subw, i32_mulw, Int32.reduceToInt] at *) <;> omega))
    · skip
      refine r_il1 (q := 12) d_MA_showLocal_11 rfl ?_
      refine r_al0 (q := 13) d_MA_showLocal_12 rfl ?_
      refine gt_MA_latest (q := 16) d_MA_showLocal_13 rfl rfl ?_
      refine gt_FR_body (q := 19) d_MA_showLocal_16 rfl (by first | assumption | omega | decide | ((try simp +decide only [b01, b10, b11, am_up, and_true, and_false, true_and, false_and, if_true, if_false, nn_eq] at *) <;> (try simp only [i32_lt, i32_le, i32_eq, i32_addw, i32_subw, i32_mulw, Int32.reduceToInt] at *) <;> omega)) rfl ?_
      refine gt_ME_locals (q := 22) d_MA_showLocal_19 rfl (by first | assumption | omega | decide | ((try simp +decide only [b01, b10, b11, am_up, and_true, and_false, true_and, false_and, if_true, if_false, nn_eq] at *) <;> (try simp only [i32_lt, i32_le, i32_eq, i32_addw, i32_subw, i32_mulw, Int32.reduceToInt] at *) <;> omega)) rfl ?_
      refine r_cge (tgt := 42) (q := 25) d_MA_showLocal_22 rfl rfl (fun e22 => ?_) (fun e22 => ?_)
      · skip
        refine r_ic (v := 0) (q := 43) d_MA_showLocal_42 rfl rfl ?_
        refine r_ri d_MA_showLocal_43 ?_
        first | (refine h1 ?_ <;> ((try simp +decide only [b01, b10, b11, am_up, and_true, and_false, true_and, false_and, if_true, if_false, nn_eq] at *) <;> (try simp only [i32_lt, i32_le, i32_eq, i32_addw, i32_subw, i32_mulw, Int32.reduceToInt] at *) <;> omega)) | (refine h2 ?_ <;> ((try simp +decide only [b01, b10, b11, am_up, and_true, and_false, true_and, false_and, if_true, if_false, nn_eq] at *) <;> (try simp only [i32_lt, i32_le, i32_eq, i32_addw, i32_subw, i32_mulw, Int32.reduceToInt] at *) <;> omega)) | (exfalso; ((try simp +decide only [b01, b10, b11, am_up, and_true, and_false, true_and, false_and, if_true, if_false, nn_eq] at *) <;> (try simp only [i32_lt, i32_le, i32_eq, i32_addw, i32_subw, i32_mulw, Int32.reduceToInt] at *) <;> omega))
      · skip
        refine r_al0 (q := 26) d_MA_showLocal_25 rfl ?_
        refine gt_MA_cells (q := 29) d_MA_showLocal_26 rfl rfl ?_
        refine r_al0 (q := 30) d_MA_showLocal_29 rfl ?_
        refine gt_MA_latest (q := 33) d_MA_showLocal_30 rfl rfl ?_
        refine gt_FR_firstCell (q := 36) d_MA_showLocal_33 rfl (by first | assumption | omega | decide | ((try simp +decide only [b01, b10, b11, am_up, and_true, and_false, true_and, false_and, if_true, if_false, nn_eq] at *) <;> (try simp only [i32_lt, i32_le, i32_eq, i32_addw, i32_subw, i32_mulw, Int32.reduceToInt] at *) <;> omega)) rfl ?_
        refine r_il1 (q := 37) d_MA_showLocal_36 rfl ?_
        refine r_iadd (q := 38) d_MA_showLocal_37 rfl ?_
        refine ld_137 (q := 39) d_MA_showLocal_38 ?_ rfl ?_
        · (refine vp_of ?_ ?_ <;> (((try simp +decide only [b01, b10, b11, am_up, and_true, and_false, true_and, false_and, if_true, if_false, nn_eq] at *) <;> (try simp only [i32_lt, i32_le, i32_eq, i32_addw, i32_subw, i32_mulw, Int32.reduceToInt] at *) <;> omega)))
        refine am_go (tgt := 43) d_MA_showLocal_39 rfl ?_
        refine r_ri d_MA_showLocal_43 ?_
        first | (refine h1 ?_ <;> ((try simp +decide only [b01, b10, b11, am_up, and_true, and_false, true_and, false_and, if_true, if_false, nn_eq] at *) <;> (try simp only [i32_lt, i32_le, i32_eq, i32_addw, i32_subw, i32_mulw, Int32.reduceToInt] at *) <;> omega)) | (refine h2 ?_ <;> ((try simp +decide only [b01, b10, b11, am_up, and_true, and_false, true_and, false_and, if_true, if_false, nn_eq] at *) <;> (try simp only [i32_lt, i32_le, i32_eq, i32_addw, i32_subw, i32_mulw, Int32.reduceToInt] at *) <;> omega)) | (exfalso; ((try simp +decide only [b01, b10, b11, am_up, and_true, and_false, true_and, false_and, if_true, if_false, nn_eq] at *) <;> (try simp only [i32_lt, i32_le, i32_eq, i32_addw, i32_subw, i32_mulw, Int32.reduceToInt] at *) <;> omega))

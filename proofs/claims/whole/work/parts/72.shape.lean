/-! written by wip/whole/gen/walk.py out of 72.shape.txt -/
theorem sp_TY_at {r k : Int32} {st : am_S} {f : Int32 → am_S → Prop} (h : f (ty_at r k) st) : wp_TY_at [.inl r, .inl k] st (am_ki f) := by
  refine ⟨⟨rfl, Nat.le_of_ble_eq_true rfl⟩, ?_⟩
  refine r_il0 (q := 1) d_TY_at_0 rfl ?_
  refine r_ic (v := 2) (q := 2) d_TY_at_1 rfl rfl ?_
  refine r_il1 (q := 3) d_TY_at_2 rfl ?_
  refine r_imul (q := 4) d_TY_at_3 rfl ?_
  refine r_ishr (q := 5) d_TY_at_4 rfl ?_
  refine r_ic (v := 3) (q := 6) d_TY_at_5 rfl rfl ?_
  refine r_iand (q := 7) d_TY_at_6 rfl ?_
  refine r_ri d_TY_at_7 ?_
  exact h
theorem sp_TY_with {r k v : Int32} {st : am_S} {f : Int32 → am_S → Prop} (h : f (ty_with r k v) st) : wp_TY_with [.inl r, .inl k, .inl v] st (am_ki f) := by
  refine ⟨⟨rfl, Nat.le_of_ble_eq_true rfl⟩, ?_⟩
  refine r_il0 (q := 1) d_TY_with_0 rfl ?_
  refine r_ic (v := 3) (q := 2) d_TY_with_1 rfl rfl ?_
  refine r_ic (v := 2) (q := 3) d_TY_with_2 rfl rfl ?_
  refine r_il1 (q := 4) d_TY_with_3 rfl ?_
  refine r_imul (q := 5) d_TY_with_4 rfl ?_
  refine r_ishl (q := 6) d_TY_with_5 rfl ?_
  refine r_ic (v := -1) (q := 7) d_TY_with_6 rfl rfl ?_
  refine r_ixor (q := 8) d_TY_with_7 rfl ?_
  refine r_iand (q := 9) d_TY_with_8 rfl ?_
  refine r_il2 (q := 10) d_TY_with_9 rfl ?_
  refine r_ic (v := 2) (q := 11) d_TY_with_10 rfl rfl ?_
  refine r_il1 (q := 12) d_TY_with_11 rfl ?_
  refine r_imul (q := 13) d_TY_with_12 rfl ?_
  refine r_ishl (q := 14) d_TY_with_13 rfl ?_
  refine r_ior (q := 15) d_TY_with_14 rfl ?_
  refine r_ri d_TY_with_15 ?_
  exact h
theorem sp_TY_common {r o : Int32} {st : am_S} {f : Int32 → am_S → Prop} (h : f (ty_com r o) st) : wp_TY_common [.inl r, .inl o] st (am_ki f) := by
  refine ⟨⟨rfl, Nat.le_of_ble_eq_true rfl⟩, ?_⟩
  refine r_il0 (q := 1) d_TY_common_0 rfl ?_
  refine r_il1 (q := 2) d_TY_common_1 rfl ?_
  refine r_ixor (q := 3) d_TY_common_2 rfl ?_
  refine r_is2 (q := 4) d_TY_common_3 rfl ?_
  refine r_il2 (q := 5) d_TY_common_4 rfl ?_
  refine r_il2 (q := 6) d_TY_common_5 rfl ?_
  refine r_ic (v := 1) (q := 7) d_TY_common_6 rfl rfl ?_
  refine r_ishr (q := 8) d_TY_common_7 rfl ?_
  refine r_ior (q := 9) d_TY_common_8 rfl ?_
  refine r_sp (v := 21845) (q := 12) d_TY_common_9 rfl rfl ?_
  refine r_iand (q := 13) d_TY_common_12 rfl ?_
  refine r_is3 (q := 14) d_TY_common_13 rfl ?_
  refine r_il0 (q := 15) d_TY_common_14 rfl ?_
  refine r_il3 (q := 16) d_TY_common_15 rfl ?_
  refine r_il3 (q := 17) d_TY_common_16 rfl ?_
  refine r_ic (v := 1) (q := 18) d_TY_common_17 rfl rfl ?_
  refine r_ishl (q := 19) d_TY_common_18 rfl ?_
  refine r_ior (q := 20) d_TY_common_19 rfl ?_
  refine r_ic (v := -1) (q := 21) d_TY_common_20 rfl rfl ?_
  refine r_ixor (q := 22) d_TY_common_21 rfl ?_
  refine r_iand (q := 23) d_TY_common_22 rfl ?_
  refine r_ri d_TY_common_23 ?_
  exact h
theorem sp_SH_isBeginning {m : Nat} {x : Int32} {st : am_S} {f : Int32 → am_S → Prop} (c1 : m < 8) (c2 : 0 ≤ (st 67 m).toInt) (c3 : (st 67 m).toInt + (st 68 m).toInt ≤ 200) (h1 : (0 ≤ x ∧ x < st 68 m) ∧ ¬ st 2131 (st 67 m + x).toNatClampNeg = 0 → f 1 st) (h2 : ¬ ((0 ≤ x ∧ x < st 68 m) ∧ ¬ st 2131 (st 67 m + x).toNatClampNeg = 0) → f 0 st) : wp_SH_isBeginning [.inr (.inl 125), .inr (.inl (m + 80)), .inl x] st (am_ki f) := by
  refine ⟨⟨rfl, Nat.le_of_ble_eq_true rfl⟩, ?_⟩
  refine r_il2 (q := 1) d_SH_isBeginning_0 rfl ?_
  refine r_zlt (tgt := 30) (q := 4) d_SH_isBeginning_1 rfl rfl (fun e1 => ?_) (fun e1 => ?_)
  · skip
    refine r_ic (v := 0) (q := 31) d_SH_isBeginning_30 rfl rfl ?_
    refine r_rz d_SH_isBeginning_31 (by first | assumption | (refine pc_of hP ?_; (repeat (first | assumption | exact md_refl | refine md_up ?_ rfl | refine md_fill ?_ rfl | (unfold ik; refine md_up ?_ rfl))); done) | (refine pm_of hP ?_; (repeat (first | assumption | exact md_refl | refine md_up ?_ rfl | refine md_fill ?_ rfl | (unfold ik; refine md_up ?_ rfl))); done) | omega | decide | ((try simp +decide only [b01, b10, b11, am_up, ik, and_true, and_false, true_and, false_and, if_true, if_false, nn_eq] at *) <;> (try simp only [sw_or, sw_all, or_false, and_true, i32_lt, i32_le, i32_eq, i32_addw, i32_subw, i32_mulw, Int32.reduceToInt] at *) <;> omega) | (apply_assumption; done)) ?_
    first | (refine h1 ?_ <;> ((try simp +decide only [b01, b10, b11, am_up, ik, and_true, and_false, true_and, false_and, if_true, if_false, nn_eq] at *) <;> (try simp only [sw_or, sw_all, or_false, and_true, i32_lt, i32_le, i32_eq, i32_addw, i32_subw, i32_mulw, Int32.reduceToInt] at *) <;> omega)) | (refine h2 ?_ <;> ((try simp +decide only [b01, b10, b11, am_up, ik, and_true, and_false, true_and, false_and, if_true, if_false, nn_eq] at *) <;> (try simp only [sw_or, sw_all, or_false, and_true, i32_lt, i32_le, i32_eq, i32_addw, i32_subw, i32_mulw, Int32.reduceToInt] at *) <;> omega)) | (exfalso; ((try simp +decide only [b01, b10, b11, am_up, ik, and_true, and_false, true_and, false_and, if_true, if_false, nn_eq] at *) <;> (try simp only [sw_or, sw_all, or_false, and_true, i32_lt, i32_le, i32_eq, i32_addw, i32_subw, i32_mulw, Int32.reduceToInt] at *) <;> omega))
  · skip
    refine r_il2 (q := 5) d_SH_isBeginning_4 rfl ?_
    refine r_al1 (q := 6) d_SH_isBeginning_5 rfl ?_
    refine gt_ME_length (q := 9) d_SH_isBeginning_6 rfl (by first | assumption | (refine pc_of hP ?_; (repeat (first | assumption | exact md_refl | refine md_up ?_ rfl | refine md_fill ?_ rfl | (unfold ik; refine md_up ?_ rfl))); done) | (refine pm_of hP ?_; (repeat (first | assumption | exact md_refl | refine md_up ?_ rfl | refine md_fill ?_ rfl | (unfold ik; refine md_up ?_ rfl))); done) | omega | decide | ((try simp +decide only [b01, b10, b11, am_up, ik, and_true, and_false, true_and, false_and, if_true, if_false, nn_eq] at *) <;> (try simp only [sw_or, sw_all, or_false, and_true, i32_lt, i32_le, i32_eq, i32_addw, i32_subw, i32_mulw, Int32.reduceToInt] at *) <;> omega) | (apply_assumption; done)) rfl ?_
    refine r_cge (tgt := 30) (q := 12) d_SH_isBeginning_9 rfl rfl (fun e9 => ?_) (fun e9 => ?_)
    · skip
      refine r_ic (v := 0) (q := 31) d_SH_isBeginning_30 rfl rfl ?_
      refine r_rz d_SH_isBeginning_31 (by first | assumption | (refine pc_of hP ?_; (repeat (first | assumption | exact md_refl | refine md_up ?_ rfl | refine md_fill ?_ rfl | (unfold ik; refine md_up ?_ rfl))); done) | (refine pm_of hP ?_; (repeat (first | assumption | exact md_refl | refine md_up ?_ rfl | refine md_fill ?_ rfl | (unfold ik; refine md_up ?_ rfl))); done) | omega | decide | ((try simp +decide only [b01, b10, b11, am_up, ik, and_true, and_false, true_and, false_and, if_true, if_false, nn_eq] at *) <;> (try simp only [sw_or, sw_all, or_false, and_true, i32_lt, i32_le, i32_eq, i32_addw, i32_subw, i32_mulw, Int32.reduceToInt] at *) <;> omega) | (apply_assumption; done)) ?_
      first | (refine h1 ?_ <;> ((try simp +decide only [b01, b10, b11, am_up, ik, and_true, and_false, true_and, false_and, if_true, if_false, nn_eq] at *) <;> (try simp only [sw_or, sw_all, or_false, and_true, i32_lt, i32_le, i32_eq, i32_addw, i32_subw, i32_mulw, Int32.reduceToInt] at *) <;> omega)) | (refine h2 ?_ <;> ((try simp +decide only [b01, b10, b11, am_up, ik, and_true, and_false, true_and, false_and, if_true, if_false, nn_eq] at *) <;> (try simp only [sw_or, sw_all, or_false, and_true, i32_lt, i32_le, i32_eq, i32_addw, i32_subw, i32_mulw, Int32.reduceToInt] at *) <;> omega)) | (exfalso; ((try simp +decide only [b01, b10, b11, am_up, ik, and_true, and_false, true_and, false_and, if_true, if_false, nn_eq] at *) <;> (try simp only [sw_or, sw_all, or_false, and_true, i32_lt, i32_le, i32_eq, i32_addw, i32_subw, i32_mulw, Int32.reduceToInt] at *) <;> omega))
    · skip
      refine r_al0 (q := 13) d_SH_isBeginning_12 rfl ?_
      refine gt_SH_begins (q := 16) d_SH_isBeginning_13 rfl rfl ?_
      refine r_al1 (q := 17) d_SH_isBeginning_16 rfl ?_
      refine gt_ME_first (q := 20) d_SH_isBeginning_17 rfl (by first | assumption | (refine pc_of hP ?_; (repeat (first | assumption | exact md_refl | refine md_up ?_ rfl | refine md_fill ?_ rfl | (unfold ik; refine md_up ?_ rfl))); done) | (refine pm_of hP ?_; (repeat (first | assumption | exact md_refl | refine md_up ?_ rfl | refine md_fill ?_ rfl | (unfold ik; refine md_up ?_ rfl))); done) | omega | decide | ((try simp +decide only [b01, b10, b11, am_up, ik, and_true, and_false, true_and, false_and, if_true, if_false, nn_eq] at *) <;> (try simp only [sw_or, sw_all, or_false, and_true, i32_lt, i32_le, i32_eq, i32_addw, i32_subw, i32_mulw, Int32.reduceToInt] at *) <;> omega) | (apply_assumption; done)) rfl ?_
      refine r_il2 (q := 21) d_SH_isBeginning_20 rfl ?_
      refine r_iadd (q := 22) d_SH_isBeginning_21 rfl ?_
      refine ld_131 (q := 23) d_SH_isBeginning_22 ?_ rfl ?_
      · (refine vp_of ?_ ?_ <;> (((try simp +decide only [b01, b10, b11, am_up, ik, and_true, and_false, true_and, false_and, if_true, if_false, nn_eq] at *) <;> (try simp only [sw_or, sw_all, or_false, and_true, i32_lt, i32_le, i32_eq, i32_addw, i32_subw, i32_mulw, Int32.reduceToInt] at *) <;> omega)))
      refine r_zeq (tgt := 30) (q := 26) d_SH_isBeginning_23 rfl rfl (fun e23 => ?_) (fun e23 => ?_)
      · skip
        refine r_ic (v := 0) (q := 31) d_SH_isBeginning_30 rfl rfl ?_
        refine r_rz d_SH_isBeginning_31 (by first | assumption | (refine pc_of hP ?_; (repeat (first | assumption | exact md_refl | refine md_up ?_ rfl | refine md_fill ?_ rfl | (unfold ik; refine md_up ?_ rfl))); done) | (refine pm_of hP ?_; (repeat (first | assumption | exact md_refl | refine md_up ?_ rfl | refine md_fill ?_ rfl | (unfold ik; refine md_up ?_ rfl))); done) | omega | decide | ((try simp +decide only [b01, b10, b11, am_up, ik, and_true, and_false, true_and, false_and, if_true, if_false, nn_eq] at *) <;> (try simp only [sw_or, sw_all, or_false, and_true, i32_lt, i32_le, i32_eq, i32_addw, i32_subw, i32_mulw, Int32.reduceToInt] at *) <;> omega) | (apply_assumption; done)) ?_
        first | (refine h1 ?_ <;> ((try simp +decide only [b01, b10, b11, am_up, ik, and_true, and_false, true_and, false_and, if_true, if_false, nn_eq] at *) <;> (try simp only [sw_or, sw_all, or_false, and_true, i32_lt, i32_le, i32_eq, i32_addw, i32_subw, i32_mulw, Int32.reduceToInt] at *) <;> omega)) | (refine h2 ?_ <;> ((try simp +decide only [b01, b10, b11, am_up, ik, and_true, and_false, true_and, false_and, if_true, if_false, nn_eq] at *) <;> (try simp only [sw_or, sw_all, or_false, and_true, i32_lt, i32_le, i32_eq, i32_addw, i32_subw, i32_mulw, Int32.reduceToInt] at *) <;> omega)) | (exfalso; ((try simp +decide only [b01, b10, b11, am_up, ik, and_true, and_false, true_and, false_and, if_true, if_false, nn_eq] at *) <;> (try simp only [sw_or, sw_all, or_false, and_true, i32_lt, i32_le, i32_eq, i32_addw, i32_subw, i32_mulw, Int32.reduceToInt] at *) <;> omega))
      · skip
        refine r_ic (v := 1) (q := 27) d_SH_isBeginning_26 rfl rfl ?_
        refine am_go (tgt := 31) d_SH_isBeginning_27 rfl ?_
        refine r_rz d_SH_isBeginning_31 (by first | assumption | (refine pc_of hP ?_; (repeat (first | assumption | exact md_refl | refine md_up ?_ rfl | refine md_fill ?_ rfl | (unfold ik; refine md_up ?_ rfl))); done) | (refine pm_of hP ?_; (repeat (first | assumption | exact md_refl | refine md_up ?_ rfl | refine md_fill ?_ rfl | (unfold ik; refine md_up ?_ rfl))); done) | omega | decide | ((try simp +decide only [b01, b10, b11, am_up, ik, and_true, and_false, true_and, false_and, if_true, if_false, nn_eq] at *) <;> (try simp only [sw_or, sw_all, or_false, and_true, i32_lt, i32_le, i32_eq, i32_addw, i32_subw, i32_mulw, Int32.reduceToInt] at *) <;> omega) | (apply_assumption; done)) ?_
        first | (refine h1 ?_ <;> ((try simp +decide only [b01, b10, b11, am_up, ik, and_true, and_false, true_and, false_and, if_true, if_false, nn_eq] at *) <;> (try simp only [sw_or, sw_all, or_false, and_true, i32_lt, i32_le, i32_eq, i32_addw, i32_subw, i32_mulw, Int32.reduceToInt] at *) <;> omega)) | (refine h2 ?_ <;> ((try simp +decide only [b01, b10, b11, am_up, ik, and_true, and_false, true_and, false_and, if_true, if_false, nn_eq] at *) <;> (try simp only [sw_or, sw_all, or_false, and_true, i32_lt, i32_le, i32_eq, i32_addw, i32_subw, i32_mulw, Int32.reduceToInt] at *) <;> omega)) | (exfalso; ((try simp +decide only [b01, b10, b11, am_up, ik, and_true, and_false, true_and, false_and, if_true, if_false, nn_eq] at *) <;> (try simp only [sw_or, sw_all, or_false, and_true, i32_lt, i32_le, i32_eq, i32_addw, i32_subw, i32_mulw, Int32.reduceToInt] at *) <;> omega))
theorem sp_SH_operandsHold {m : Nat} {st : am_S} {f : Int32 → am_S → Prop} (c1 : m < 8) (h1 : oH (st 192 0) (st 193 0) (st 70 m) (st 323 0) → f 1 st) (h2 : ¬ oH (st 192 0) (st 193 0) (st 70 m) (st 323 0) → f 0 st) : wp_SH_operandsHold [.inr (.inl 125), .inr (.inl (m + 80))] st (am_ki f) := by
  refine ⟨⟨rfl, Nat.le_of_ble_eq_true rfl⟩, ?_⟩
  unfold oH op_loc at h1 h2
  refine r_al0 (q := 1) d_SH_operandsHold_0 rfl ?_
  refine gt_SH_now (q := 4) d_SH_operandsHold_1 rfl rfl ?_
  refine gt_IN_operation (q := 7) d_SH_operandsHold_4 rfl (by first | assumption | (refine pc_of hP ?_; (repeat (first | assumption | exact md_refl | refine md_up ?_ rfl | refine md_fill ?_ rfl | (unfold ik; refine md_up ?_ rfl))); done) | (refine pm_of hP ?_; (repeat (first | assumption | exact md_refl | refine md_up ?_ rfl | refine md_fill ?_ rfl | (unfold ik; refine md_up ?_ rfl))); done) | omega | decide | ((try simp +decide only [b01, b10, b11, am_up, ik, and_true, and_false, true_and, false_and, if_true, if_false, nn_eq] at *) <;> (try simp only [sw_or, sw_all, or_false, and_true, i32_lt, i32_le, i32_eq, i32_addw, i32_subw, i32_mulw, Int32.reduceToInt] at *) <;> omega) | (apply_assumption; done)) rfl ?_
  refine r_si1 mo_OP_usesLocal d_SH_operandsHold_7 rfl rfl (q := 10) rfl ?_
  refine sp_OP_usesLocal (fun e7 => ?_) (fun e7 => ?_)
  · skip
    refine r_zeq (tgt := 33) (q := 13) d_SH_operandsHold_10 rfl rfl (fun e10 => by exfalso; revert e10; decide) (fun e10 => ?_)
    refine r_al0 (q := 14) d_SH_operandsHold_13 rfl ?_
    refine gt_SH_now (q := 17) d_SH_operandsHold_14 rfl rfl ?_
    refine gt_IN_number (q := 20) d_SH_operandsHold_17 rfl (by first | assumption | (refine pc_of hP ?_; (repeat (first | assumption | exact md_refl | refine md_up ?_ rfl | refine md_fill ?_ rfl | (unfold ik; refine md_up ?_ rfl))); done) | (refine pm_of hP ?_; (repeat (first | assumption | exact md_refl | refine md_up ?_ rfl | refine md_fill ?_ rfl | (unfold ik; refine md_up ?_ rfl))); done) | omega | decide | ((try simp +decide only [b01, b10, b11, am_up, ik, and_true, and_false, true_and, false_and, if_true, if_false, nn_eq] at *) <;> (try simp only [sw_or, sw_all, or_false, and_true, i32_lt, i32_le, i32_eq, i32_addw, i32_subw, i32_mulw, Int32.reduceToInt] at *) <;> omega) | (apply_assumption; done)) rfl ?_
    refine r_al1 (q := 21) d_SH_operandsHold_20 rfl ?_
    refine gt_ME_locals (q := 24) d_SH_operandsHold_21 rfl (by first | assumption | (refine pc_of hP ?_; (repeat (first | assumption | exact md_refl | refine md_up ?_ rfl | refine md_fill ?_ rfl | (unfold ik; refine md_up ?_ rfl))); done) | (refine pm_of hP ?_; (repeat (first | assumption | exact md_refl | refine md_up ?_ rfl | refine md_fill ?_ rfl | (unfold ik; refine md_up ?_ rfl))); done) | omega | decide | ((try simp +decide only [b01, b10, b11, am_up, ik, and_true, and_false, true_and, false_and, if_true, if_false, nn_eq] at *) <;> (try simp only [sw_or, sw_all, or_false, and_true, i32_lt, i32_le, i32_eq, i32_addw, i32_subw, i32_mulw, Int32.reduceToInt] at *) <;> omega) | (apply_assumption; done)) rfl ?_
    refine r_cge (tgt := 31) (q := 27) d_SH_operandsHold_24 rfl rfl (fun e24 => ?_) (fun e24 => ?_)
    · skip
      refine r_ic (v := 0) (q := 32) d_SH_operandsHold_31 rfl rfl ?_
      refine r_rz d_SH_operandsHold_32 (by first | assumption | (refine pc_of hP ?_; (repeat (first | assumption | exact md_refl | refine md_up ?_ rfl | refine md_fill ?_ rfl | (unfold ik; refine md_up ?_ rfl))); done) | (refine pm_of hP ?_; (repeat (first | assumption | exact md_refl | refine md_up ?_ rfl | refine md_fill ?_ rfl | (unfold ik; refine md_up ?_ rfl))); done) | omega | decide | ((try simp +decide only [b01, b10, b11, am_up, ik, and_true, and_false, true_and, false_and, if_true, if_false, nn_eq] at *) <;> (try simp only [sw_or, sw_all, or_false, and_true, i32_lt, i32_le, i32_eq, i32_addw, i32_subw, i32_mulw, Int32.reduceToInt] at *) <;> omega) | (apply_assumption; done)) ?_
      (try unfold op_loc at e7); (try split) <;> (first | (refine h1 ?_ <;> ((try simp +decide only [b01, b10, b11, am_up, ik, and_true, and_false, true_and, false_and, if_true, if_false, nn_eq] at *) <;> (try simp only [sw_or, sw_all, or_false, and_true, i32_lt, i32_le, i32_eq, i32_addw, i32_subw, i32_mulw, Int32.reduceToInt] at *) <;> omega)) | (refine h2 ?_ <;> ((try simp +decide only [b01, b10, b11, am_up, ik, and_true, and_false, true_and, false_and, if_true, if_false, nn_eq] at *) <;> (try simp only [sw_or, sw_all, or_false, and_true, i32_lt, i32_le, i32_eq, i32_addw, i32_subw, i32_mulw, Int32.reduceToInt] at *) <;> omega)) | (exfalso; ((try simp +decide only [b01, b10, b11, am_up, ik, and_true, and_false, true_and, false_and, if_true, if_false, nn_eq] at *) <;> (try simp only [sw_or, sw_all, or_false, and_true, i32_lt, i32_le, i32_eq, i32_addw, i32_subw, i32_mulw, Int32.reduceToInt] at *) <;> omega)))
    · skip
      refine r_ic (v := 1) (q := 28) d_SH_operandsHold_27 rfl rfl ?_
      refine am_go (tgt := 32) d_SH_operandsHold_28 rfl ?_
      refine r_rz d_SH_operandsHold_32 (by first | assumption | (refine pc_of hP ?_; (repeat (first | assumption | exact md_refl | refine md_up ?_ rfl | refine md_fill ?_ rfl | (unfold ik; refine md_up ?_ rfl))); done) | (refine pm_of hP ?_; (repeat (first | assumption | exact md_refl | refine md_up ?_ rfl | refine md_fill ?_ rfl | (unfold ik; refine md_up ?_ rfl))); done) | omega | decide | ((try simp +decide only [b01, b10, b11, am_up, ik, and_true, and_false, true_and, false_and, if_true, if_false, nn_eq] at *) <;> (try simp only [sw_or, sw_all, or_false, and_true, i32_lt, i32_le, i32_eq, i32_addw, i32_subw, i32_mulw, Int32.reduceToInt] at *) <;> omega) | (apply_assumption; done)) ?_
      (try unfold op_loc at e7); (try split) <;> (first | (refine h1 ?_ <;> ((try simp +decide only [b01, b10, b11, am_up, ik, and_true, and_false, true_and, false_and, if_true, if_false, nn_eq] at *) <;> (try simp only [sw_or, sw_all, or_false, and_true, i32_lt, i32_le, i32_eq, i32_addw, i32_subw, i32_mulw, Int32.reduceToInt] at *) <;> omega)) | (refine h2 ?_ <;> ((try simp +decide only [b01, b10, b11, am_up, ik, and_true, and_false, true_and, false_and, if_true, if_false, nn_eq] at *) <;> (try simp only [sw_or, sw_all, or_false, and_true, i32_lt, i32_le, i32_eq, i32_addw, i32_subw, i32_mulw, Int32.reduceToInt] at *) <;> omega)) | (exfalso; ((try simp +decide only [b01, b10, b11, am_up, ik, and_true, and_false, true_and, false_and, if_true, if_false, nn_eq] at *) <;> (try simp only [sw_or, sw_all, or_false, and_true, i32_lt, i32_le, i32_eq, i32_addw, i32_subw, i32_mulw, Int32.reduceToInt] at *) <;> omega)))
  · skip
    refine r_zeq (tgt := 33) (q := 13) d_SH_operandsHold_10 rfl rfl (fun e10 => ?_) (fun e10 => by exfalso; revert e10; decide)
    refine r_al0 (q := 34) d_SH_operandsHold_33 rfl ?_
    refine gt_SH_now (q := 37) d_SH_operandsHold_34 rfl rfl ?_
    refine gt_IN_operation (q := 40) d_SH_operandsHold_37 rfl (by first | assumption | (refine pc_of hP ?_; (repeat (first | assumption | exact md_refl | refine md_up ?_ rfl | refine md_fill ?_ rfl | (unfold ik; refine md_up ?_ rfl))); done) | (refine pm_of hP ?_; (repeat (first | assumption | exact md_refl | refine md_up ?_ rfl | refine md_fill ?_ rfl | (unfold ik; refine md_up ?_ rfl))); done) | omega | decide | ((try simp +decide only [b01, b10, b11, am_up, ik, and_true, and_false, true_and, false_and, if_true, if_false, nn_eq] at *) <;> (try simp only [sw_or, sw_all, or_false, and_true, i32_lt, i32_le, i32_eq, i32_addw, i32_subw, i32_mulw, Int32.reduceToInt] at *) <;> omega) | (apply_assumption; done)) rfl ?_
    refine r_lsw [([178, 179], 84), ([184], 112), ([188], 127)] (tgt := 145) d_SH_operandsHold_40 (by decide +kernel) (And.intro (fun e40 => ?_) (And.intro (fun e40 => ?_) (And.intro (fun e40 => ?_) trivial))) (fun e40 => ?_)
    · skip
      refine r_al0 (q := 85) d_SH_operandsHold_84 rfl ?_
      refine gt_SH_now (q := 88) d_SH_operandsHold_85 rfl rfl ?_
      refine gt_IN_number (q := 91) d_SH_operandsHold_88 rfl (by first | assumption | (refine pc_of hP ?_; (repeat (first | assumption | exact md_refl | refine md_up ?_ rfl | refine md_fill ?_ rfl | (unfold ik; refine md_up ?_ rfl))); done) | (refine pm_of hP ?_; (repeat (first | assumption | exact md_refl | refine md_up ?_ rfl | refine md_fill ?_ rfl | (unfold ik; refine md_up ?_ rfl))); done) | omega | decide | ((try simp +decide only [b01, b10, b11, am_up, ik, and_true, and_false, true_and, false_and, if_true, if_false, nn_eq] at *) <;> (try simp only [sw_or, sw_all, or_false, and_true, i32_lt, i32_le, i32_eq, i32_addw, i32_subw, i32_mulw, Int32.reduceToInt] at *) <;> omega) | (apply_assumption; done)) rfl ?_
      refine r_zlt (tgt := 110) (q := 94) d_SH_operandsHold_91 rfl rfl (fun e91 => ?_) (fun e91 => ?_)
      · skip
        refine r_ic (v := 0) (q := 111) d_SH_operandsHold_110 rfl rfl ?_
        refine r_rz d_SH_operandsHold_111 (by first | assumption | (refine pc_of hP ?_; (repeat (first | assumption | exact md_refl | refine md_up ?_ rfl | refine md_fill ?_ rfl | (unfold ik; refine md_up ?_ rfl))); done) | (refine pm_of hP ?_; (repeat (first | assumption | exact md_refl | refine md_up ?_ rfl | refine md_fill ?_ rfl | (unfold ik; refine md_up ?_ rfl))); done) | omega | decide | ((try simp +decide only [b01, b10, b11, am_up, ik, and_true, and_false, true_and, false_and, if_true, if_false, nn_eq] at *) <;> (try simp only [sw_or, sw_all, or_false, and_true, i32_lt, i32_le, i32_eq, i32_addw, i32_subw, i32_mulw, Int32.reduceToInt] at *) <;> omega) | (apply_assumption; done)) ?_
        (try unfold op_loc at e7); (try split) <;> (first | (refine h1 ?_ <;> ((try simp +decide only [b01, b10, b11, am_up, ik, and_true, and_false, true_and, false_and, if_true, if_false, nn_eq] at *) <;> (try simp only [sw_or, sw_all, or_false, and_true, i32_lt, i32_le, i32_eq, i32_addw, i32_subw, i32_mulw, Int32.reduceToInt] at *) <;> omega)) | (refine h2 ?_ <;> ((try simp +decide only [b01, b10, b11, am_up, ik, and_true, and_false, true_and, false_and, if_true, if_false, nn_eq] at *) <;> (try simp only [sw_or, sw_all, or_false, and_true, i32_lt, i32_le, i32_eq, i32_addw, i32_subw, i32_mulw, Int32.reduceToInt] at *) <;> omega)) | (exfalso; ((try simp +decide only [b01, b10, b11, am_up, ik, and_true, and_false, true_and, false_and, if_true, if_false, nn_eq] at *) <;> (try simp only [sw_or, sw_all, or_false, and_true, i32_lt, i32_le, i32_eq, i32_addw, i32_subw, i32_mulw, Int32.reduceToInt] at *) <;> omega)))
      · skip
        refine r_al0 (q := 95) d_SH_operandsHold_94 rfl ?_
        refine gt_SH_now (q := 98) d_SH_operandsHold_95 rfl rfl ?_
        refine gt_IN_number (q := 101) d_SH_operandsHold_98 rfl (by first | assumption | (refine pc_of hP ?_; (repeat (first | assumption | exact md_refl | refine md_up ?_ rfl | refine md_fill ?_ rfl | (unfold ik; refine md_up ?_ rfl))); done) | (refine pm_of hP ?_; (repeat (first | assumption | exact md_refl | refine md_up ?_ rfl | refine md_fill ?_ rfl | (unfold ik; refine md_up ?_ rfl))); done) | omega | decide | ((try simp +decide only [b01, b10, b11, am_up, ik, and_true, and_false, true_and, false_and, if_true, if_false, nn_eq] at *) <;> (try simp only [sw_or, sw_all, or_false, and_true, i32_lt, i32_le, i32_eq, i32_addw, i32_subw, i32_mulw, Int32.reduceToInt] at *) <;> omega) | (apply_assumption; done)) rfl ?_
        refine r_bp (v := 8) (q := 103) d_SH_operandsHold_101 rfl rfl ?_
        refine r_cge (tgt := 110) (q := 106) d_SH_operandsHold_103 rfl rfl (fun e103 => ?_) (fun e103 => ?_)
        · skip
          refine r_ic (v := 0) (q := 111) d_SH_operandsHold_110 rfl rfl ?_
          refine r_rz d_SH_operandsHold_111 (by first | assumption | (refine pc_of hP ?_; (repeat (first | assumption | exact md_refl | refine md_up ?_ rfl | refine md_fill ?_ rfl | (unfold ik; refine md_up ?_ rfl))); done) | (refine pm_of hP ?_; (repeat (first | assumption | exact md_refl | refine md_up ?_ rfl | refine md_fill ?_ rfl | (unfold ik; refine md_up ?_ rfl))); done) | omega | decide | ((try simp +decide only [b01, b10, b11, am_up, ik, and_true, and_false, true_and, false_and, if_true, if_false, nn_eq] at *) <;> (try simp only [sw_or, sw_all, or_false, and_true, i32_lt, i32_le, i32_eq, i32_addw, i32_subw, i32_mulw, Int32.reduceToInt] at *) <;> omega) | (apply_assumption; done)) ?_
          (try unfold op_loc at e7); (try split) <;> (first | (refine h1 ?_ <;> ((try simp +decide only [b01, b10, b11, am_up, ik, and_true, and_false, true_and, false_and, if_true, if_false, nn_eq] at *) <;> (try simp only [sw_or, sw_all, or_false, and_true, i32_lt, i32_le, i32_eq, i32_addw, i32_subw, i32_mulw, Int32.reduceToInt] at *) <;> omega)) | (refine h2 ?_ <;> ((try simp +decide only [b01, b10, b11, am_up, ik, and_true, and_false, true_and, false_and, if_true, if_false, nn_eq] at *) <;> (try simp only [sw_or, sw_all, or_false, and_true, i32_lt, i32_le, i32_eq, i32_addw, i32_subw, i32_mulw, Int32.reduceToInt] at *) <;> omega)) | (exfalso; ((try simp +decide only [b01, b10, b11, am_up, ik, and_true, and_false, true_and, false_and, if_true, if_false, nn_eq] at *) <;> (try simp only [sw_or, sw_all, or_false, and_true, i32_lt, i32_le, i32_eq, i32_addw, i32_subw, i32_mulw, Int32.reduceToInt] at *) <;> omega)))
        · skip
          refine r_ic (v := 1) (q := 107) d_SH_operandsHold_106 rfl rfl ?_
          refine am_go (tgt := 111) d_SH_operandsHold_107 rfl ?_
          refine r_rz d_SH_operandsHold_111 (by first | assumption | (refine pc_of hP ?_; (repeat (first | assumption | exact md_refl | refine md_up ?_ rfl | refine md_fill ?_ rfl | (unfold ik; refine md_up ?_ rfl))); done) | (refine pm_of hP ?_; (repeat (first | assumption | exact md_refl | refine md_up ?_ rfl | refine md_fill ?_ rfl | (unfold ik; refine md_up ?_ rfl))); done) | omega | decide | ((try simp +decide only [b01, b10, b11, am_up, ik, and_true, and_false, true_and, false_and, if_true, if_false, nn_eq] at *) <;> (try simp only [sw_or, sw_all, or_false, and_true, i32_lt, i32_le, i32_eq, i32_addw, i32_subw, i32_mulw, Int32.reduceToInt] at *) <;> omega) | (apply_assumption; done)) ?_
          (try unfold op_loc at e7); (try split) <;> (first | (refine h1 ?_ <;> ((try simp +decide only [b01, b10, b11, am_up, ik, and_true, and_false, true_and, false_and, if_true, if_false, nn_eq] at *) <;> (try simp only [sw_or, sw_all, or_false, and_true, i32_lt, i32_le, i32_eq, i32_addw, i32_subw, i32_mulw, Int32.reduceToInt] at *) <;> omega)) | (refine h2 ?_ <;> ((try simp +decide only [b01, b10, b11, am_up, ik, and_true, and_false, true_and, false_and, if_true, if_false, nn_eq] at *) <;> (try simp only [sw_or, sw_all, or_false, and_true, i32_lt, i32_le, i32_eq, i32_addw, i32_subw, i32_mulw, Int32.reduceToInt] at *) <;> omega)) | (exfalso; ((try simp +decide only [b01, b10, b11, am_up, ik, and_true, and_false, true_and, false_and, if_true, if_false, nn_eq] at *) <;> (try simp only [sw_or, sw_all, or_false, and_true, i32_lt, i32_le, i32_eq, i32_addw, i32_subw, i32_mulw, Int32.reduceToInt] at *) <;> omega)))
    · skip
      refine r_al0 (q := 113) d_SH_operandsHold_112 rfl ?_
      refine gt_SH_code (q := 116) d_SH_operandsHold_113 rfl rfl ?_
      refine r_al0 (q := 117) d_SH_operandsHold_116 rfl ?_
      refine gt_SH_now (q := 120) d_SH_operandsHold_117 rfl rfl ?_
      refine gt_IN_number (q := 123) d_SH_operandsHold_120 rfl (by first | assumption | (refine pc_of hP ?_; (repeat (first | assumption | exact md_refl | refine md_up ?_ rfl | refine md_fill ?_ rfl | (unfold ik; refine md_up ?_ rfl))); done) | (refine pm_of hP ?_; (repeat (first | assumption | exact md_refl | refine md_up ?_ rfl | refine md_fill ?_ rfl | (unfold ik; refine md_up ?_ rfl))); done) | omega | decide | ((try simp +decide only [b01, b10, b11, am_up, ik, and_true, and_false, true_and, false_and, if_true, if_false, nn_eq] at *) <;> (try simp only [sw_or, sw_all, or_false, and_true, i32_lt, i32_le, i32_eq, i32_addw, i32_subw, i32_mulw, Int32.reduceToInt] at *) <;> omega) | (apply_assumption; done)) rfl ?_
      refine r_vi1 mo_CO_hasMethod d_SH_operandsHold_123 rfl rfl rfl (q := 126) rfl ?_
      refine sp_CO_hasMethod ?_
      refine r_rz d_SH_operandsHold_126 (by first | assumption | (refine pc_of hP ?_; (repeat (first | assumption | exact md_refl | refine md_up ?_ rfl | refine md_fill ?_ rfl | (unfold ik; refine md_up ?_ rfl))); done) | (refine pm_of hP ?_; (repeat (first | assumption | exact md_refl | refine md_up ?_ rfl | refine md_fill ?_ rfl | (unfold ik; refine md_up ?_ rfl))); done) | omega | decide | ((try simp +decide only [b01, b10, b11, am_up, ik, and_true, and_false, true_and, false_and, if_true, if_false, nn_eq] at *) <;> (try simp only [sw_or, sw_all, or_false, and_true, i32_lt, i32_le, i32_eq, i32_addw, i32_subw, i32_mulw, Int32.reduceToInt] at *) <;> omega) | (apply_assumption; done)) ?_
      (try unfold op_loc at e7); (try split) <;> (first | (refine h1 ?_ <;> ((try simp +decide only [b01, b10, b11, am_up, ik, and_true, and_false, true_and, false_and, if_true, if_false, nn_eq] at *) <;> (try simp only [sw_or, sw_all, or_false, and_true, i32_lt, i32_le, i32_eq, i32_addw, i32_subw, i32_mulw, Int32.reduceToInt] at *) <;> omega)) | (refine h2 ?_ <;> ((try simp +decide only [b01, b10, b11, am_up, ik, and_true, and_false, true_and, false_and, if_true, if_false, nn_eq] at *) <;> (try simp only [sw_or, sw_all, or_false, and_true, i32_lt, i32_le, i32_eq, i32_addw, i32_subw, i32_mulw, Int32.reduceToInt] at *) <;> omega)) | (exfalso; ((try simp +decide only [b01, b10, b11, am_up, ik, and_true, and_false, true_and, false_and, if_true, if_false, nn_eq] at *) <;> (try simp only [sw_or, sw_all, or_false, and_true, i32_lt, i32_le, i32_eq, i32_addw, i32_subw, i32_mulw, Int32.reduceToInt] at *) <;> omega)))
    · skip
      refine r_al0 (q := 128) d_SH_operandsHold_127 rfl ?_
      refine gt_SH_now (q := 131) d_SH_operandsHold_128 rfl rfl ?_
      refine gt_IN_number (q := 134) d_SH_operandsHold_131 rfl (by first | assumption | (refine pc_of hP ?_; (repeat (first | assumption | exact md_refl | refine md_up ?_ rfl | refine md_fill ?_ rfl | (unfold ik; refine md_up ?_ rfl))); done) | (refine pm_of hP ?_; (repeat (first | assumption | exact md_refl | refine md_up ?_ rfl | refine md_fill ?_ rfl | (unfold ik; refine md_up ?_ rfl))); done) | omega | decide | ((try simp +decide only [b01, b10, b11, am_up, ik, and_true, and_false, true_and, false_and, if_true, if_false, nn_eq] at *) <;> (try simp only [sw_or, sw_all, or_false, and_true, i32_lt, i32_le, i32_eq, i32_addw, i32_subw, i32_mulw, Int32.reduceToInt] at *) <;> omega) | (apply_assumption; done)) rfl ?_
      refine r_bp (v := 10) (q := 136) d_SH_operandsHold_134 rfl rfl ?_
      refine r_cne (tgt := 143) (q := 139) d_SH_operandsHold_136 rfl rfl (fun e136 => ?_) (fun e136 => ?_)
      · skip
        refine r_ic (v := 0) (q := 144) d_SH_operandsHold_143 rfl rfl ?_
        refine r_rz d_SH_operandsHold_144 (by first | assumption | (refine pc_of hP ?_; (repeat (first | assumption | exact md_refl | refine md_up ?_ rfl | refine md_fill ?_ rfl | (unfold ik; refine md_up ?_ rfl))); done) | (refine pm_of hP ?_; (repeat (first | assumption | exact md_refl | refine md_up ?_ rfl | refine md_fill ?_ rfl | (unfold ik; refine md_up ?_ rfl))); done) | omega | decide | ((try simp +decide only [b01, b10, b11, am_up, ik, and_true, and_false, true_and, false_and, if_true, if_false, nn_eq] at *) <;> (try simp only [sw_or, sw_all, or_false, and_true, i32_lt, i32_le, i32_eq, i32_addw, i32_subw, i32_mulw, Int32.reduceToInt] at *) <;> omega) | (apply_assumption; done)) ?_
        (try unfold op_loc at e7); (try split) <;> (first | (refine h1 ?_ <;> ((try simp +decide only [b01, b10, b11, am_up, ik, and_true, and_false, true_and, false_and, if_true, if_false, nn_eq] at *) <;> (try simp only [sw_or, sw_all, or_false, and_true, i32_lt, i32_le, i32_eq, i32_addw, i32_subw, i32_mulw, Int32.reduceToInt] at *) <;> omega)) | (refine h2 ?_ <;> ((try simp +decide only [b01, b10, b11, am_up, ik, and_true, and_false, true_and, false_and, if_true, if_false, nn_eq] at *) <;> (try simp only [sw_or, sw_all, or_false, and_true, i32_lt, i32_le, i32_eq, i32_addw, i32_subw, i32_mulw, Int32.reduceToInt] at *) <;> omega)) | (exfalso; ((try simp +decide only [b01, b10, b11, am_up, ik, and_true, and_false, true_and, false_and, if_true, if_false, nn_eq] at *) <;> (try simp only [sw_or, sw_all, or_false, and_true, i32_lt, i32_le, i32_eq, i32_addw, i32_subw, i32_mulw, Int32.reduceToInt] at *) <;> omega)))
      · skip
        refine r_ic (v := 1) (q := 140) d_SH_operandsHold_139 rfl rfl ?_
        refine am_go (tgt := 144) d_SH_operandsHold_140 rfl ?_
        refine r_rz d_SH_operandsHold_144 (by first | assumption | (refine pc_of hP ?_; (repeat (first | assumption | exact md_refl | refine md_up ?_ rfl | refine md_fill ?_ rfl | (unfold ik; refine md_up ?_ rfl))); done) | (refine pm_of hP ?_; (repeat (first | assumption | exact md_refl | refine md_up ?_ rfl | refine md_fill ?_ rfl | (unfold ik; refine md_up ?_ rfl))); done) | omega | decide | ((try simp +decide only [b01, b10, b11, am_up, ik, and_true, and_false, true_and, false_and, if_true, if_false, nn_eq] at *) <;> (try simp only [sw_or, sw_all, or_false, and_true, i32_lt, i32_le, i32_eq, i32_addw, i32_subw, i32_mulw, Int32.reduceToInt] at *) <;> omega) | (apply_assumption; done)) ?_
        (try unfold op_loc at e7); (try split) <;> (first | (refine h1 ?_ <;> ((try simp +decide only [b01, b10, b11, am_up, ik, and_true, and_false, true_and, false_and, if_true, if_false, nn_eq] at *) <;> (try simp only [sw_or, sw_all, or_false, and_true, i32_lt, i32_le, i32_eq, i32_addw, i32_subw, i32_mulw, Int32.reduceToInt] at *) <;> omega)) | (refine h2 ?_ <;> ((try simp +decide only [b01, b10, b11, am_up, ik, and_true, and_false, true_and, false_and, if_true, if_false, nn_eq] at *) <;> (try simp only [sw_or, sw_all, or_false, and_true, i32_lt, i32_le, i32_eq, i32_addw, i32_subw, i32_mulw, Int32.reduceToInt] at *) <;> omega)) | (exfalso; ((try simp +decide only [b01, b10, b11, am_up, ik, and_true, and_false, true_and, false_and, if_true, if_false, nn_eq] at *) <;> (try simp only [sw_or, sw_all, or_false, and_true, i32_lt, i32_le, i32_eq, i32_addw, i32_subw, i32_mulw, Int32.reduceToInt] at *) <;> omega)))
    · skip
      refine r_ic (v := 1) (q := 146) d_SH_operandsHold_145 rfl rfl ?_
      refine r_rz d_SH_operandsHold_146 (by first | assumption | (refine pc_of hP ?_; (repeat (first | assumption | exact md_refl | refine md_up ?_ rfl | refine md_fill ?_ rfl | (unfold ik; refine md_up ?_ rfl))); done) | (refine pm_of hP ?_; (repeat (first | assumption | exact md_refl | refine md_up ?_ rfl | refine md_fill ?_ rfl | (unfold ik; refine md_up ?_ rfl))); done) | omega | decide | ((try simp +decide only [b01, b10, b11, am_up, ik, and_true, and_false, true_and, false_and, if_true, if_false, nn_eq] at *) <;> (try simp only [sw_or, sw_all, or_false, and_true, i32_lt, i32_le, i32_eq, i32_addw, i32_subw, i32_mulw, Int32.reduceToInt] at *) <;> omega) | (apply_assumption; done)) ?_
      (try unfold op_loc at e7); (try split) <;> (first | (refine h1 ?_ <;> ((try simp +decide only [b01, b10, b11, am_up, ik, and_true, and_false, true_and, false_and, if_true, if_false, nn_eq] at *) <;> (try simp only [sw_or, sw_all, or_false, and_true, i32_lt, i32_le, i32_eq, i32_addw, i32_subw, i32_mulw, Int32.reduceToInt] at *) <;> omega)) | (refine h2 ?_ <;> ((try simp +decide only [b01, b10, b11, am_up, ik, and_true, and_false, true_and, false_and, if_true, if_false, nn_eq] at *) <;> (try simp only [sw_or, sw_all, or_false, and_true, i32_lt, i32_le, i32_eq, i32_addw, i32_subw, i32_mulw, Int32.reduceToInt] at *) <;> omega)) | (exfalso; ((try simp +decide only [b01, b10, b11, am_up, ik, and_true, and_false, true_and, false_and, if_true, if_false, nn_eq] at *) <;> (try simp only [sw_or, sw_all, or_false, and_true, i32_lt, i32_le, i32_eq, i32_addw, i32_subw, i32_mulw, Int32.reduceToInt] at *) <;> omega)))
theorem sp_IN_read {P : am_S} {o : Nat} {x : Int32} {st : am_S} {f : am_S → Prop} (c1 : o < 3) (c2 : PC st P) (c3 : VP P) (c4 : 0 ≤ x.toInt ∧ x.toInt < (st 322 0).toInt) (h1 : ∀ p : {p : Int32 × Int32 // x.toInt + (pZ P x.toNatClampNeg).toInt ≤ (st 322 0).toInt → (uN (P 0 x.toNatClampNeg) → p.1 = pN P x.toNatClampNeg) ∧ (P 0 x.toNatClampNeg = 132 → p.2 = pG P x.toNatClampNeg)}, f (am_up (ik st o (pO P x.toNatClampNeg) p.1.1 (pZ P x.toNatClampNeg)) 194 o p.1.2)) : wp_IN_read [.inr (.inl (o + 120)), .inr (.inl 124), .inl x] st (am_kv f) := by
  have q13 := c2.2.2.2.2.2.2.2
  rw [q13] at h1 c4
  exact sr_IN_read c1 (by rw [q13]; exact c3.1.2.2.2) (rd_of c2 c3 c4.1 c4.2 h1)
def fbQ (P st0 : am_S) (m : Nat) (r : Int32) (st' : am_S) : Prop := am_md cV st0 st' ∧ ((r = 1 ∧ SH1 P m ∧ ∀ q, q < nl P m → st' 2131 (nb P m + q) = if nx P m q = q then 1 else 0) ∨ (r = 0 ∧ ¬ SH1 P m))
theorem lp_SH_fb {P st0 : am_S} {m : Nat} (hP : PC st0 P) (hV : VP P) (hm : m < nM P) : ∀ (d p : Nat) (x y : Int32) (st : am_S), p + d = nl P m → x.toInt = (nb P m : Int) + p → y.toInt = (nb P m : Int) + nx P m p → am_md cV st0 st → (∀ q, q < p → st 2131 (nb P m + q) = if nx P m q = q then 1 else 0) → (∀ q, q < p → bg P m q → okI P m q) → am_AW c_SH_findBeginnings g_SH_findBeginnings (fun o st' => am_ok (some .boolean) o ∧ am_ki (fbQ P st0 m) o st') 10 [some (.inr (.inl 125)), some (.inr (.inl (m + 80))), some (.inl y), some (.inl x)] [] st := by
  intro d
  induction d with
  | zero =>
    intro p x y st k1 k2 k3 k4 k5 k6
    obtain ⟨v8, ⟨v1, v2, v3, v4, v5⟩, -⟩ := cf (pc_of hP k4) hV hm
    have q := pc_of hP k4
    have hb : (nb P m : Int) = (st 67 m).toInt := by unfold nb; rw [← q.1.2.1]; omega
    have hl : (nl P m : Int) = (st 68 m).toInt := by unfold nl; rw [← q.1.2.2.1]; omega
    clear q
    refine r_il3 (q := 11) d_SH_findBeginnings_10 rfl ?_
    refine r_al1 (q := 12) d_SH_findBeginnings_11 rfl ?_
    refine r_vi0 mo_ME_end d_SH_findBeginnings_12 rfl (r_kM (by first | assumption | (refine pc_of hP ?_; (repeat (first | assumption | exact md_refl | refine md_up ?_ rfl | refine md_fill ?_ rfl | (unfold ik; refine md_up ?_ rfl))); done) | (refine pm_of hP ?_; (repeat (first | assumption | exact md_refl | refine md_up ?_ rfl | refine md_fill ?_ rfl | (unfold ik; refine md_up ?_ rfl))); done) | omega | decide | ((try simp +decide only [b01, b10, b11, am_up, ik, and_true, and_false, true_and, false_and, if_true, if_false, nn_eq] at *) <;> (try simp only [sw_or, sw_all, or_false, and_true, i32_lt, i32_le, i32_eq, i32_addw, i32_subw, i32_mulw, Int32.reduceToInt] at *) <;> omega) | (apply_assumption; done))) rfl (q := 15) rfl ?_
    refine sp_ME_end (by first | assumption | (refine pc_of hP ?_; (repeat (first | assumption | exact md_refl | refine md_up ?_ rfl | refine md_fill ?_ rfl | (unfold ik; refine md_up ?_ rfl))); done) | (refine pm_of hP ?_; (repeat (first | assumption | exact md_refl | refine md_up ?_ rfl | refine md_fill ?_ rfl | (unfold ik; refine md_up ?_ rfl))); done) | omega | decide | ((try simp +decide only [b01, b10, b11, am_up, ik, and_true, and_false, true_and, false_and, if_true, if_false, nn_eq] at *) <;> (try simp only [sw_or, sw_all, or_false, and_true, i32_lt, i32_le, i32_eq, i32_addw, i32_subw, i32_mulw, Int32.reduceToInt] at *) <;> omega) | (apply_assumption; done)) ?_
    refine r_cge (tgt := 99) (q := 18) d_SH_findBeginnings_15 rfl rfl (fun e15 => ?_) (fun e15 => ?_)
    · skip
      refine r_ic (v := 1) (q := 100) d_SH_findBeginnings_99 rfl rfl ?_
      refine r_rz d_SH_findBeginnings_100 (by first | assumption | (refine pc_of hP ?_; (repeat (first | assumption | exact md_refl | refine md_up ?_ rfl | refine md_fill ?_ rfl | (unfold ik; refine md_up ?_ rfl))); done) | (refine pm_of hP ?_; (repeat (first | assumption | exact md_refl | refine md_up ?_ rfl | refine md_fill ?_ rfl | (unfold ik; refine md_up ?_ rfl))); done) | omega | decide | ((try simp +decide only [b01, b10, b11, am_up, ik, and_true, and_false, true_and, false_and, if_true, if_false, nn_eq] at *) <;> (try simp only [sw_or, sw_all, or_false, and_true, i32_lt, i32_le, i32_eq, i32_addw, i32_subw, i32_mulw, Int32.reduceToInt] at *) <;> omega) | (apply_assumption; done)) ?_
      exact ⟨k4, Or.inl ⟨rfl, (by rw [Nat.add_zero] at k1; subst k1; exact k6), (by rw [Nat.add_zero] at k1; subst k1; exact k5)⟩⟩
    · skip
      exfalso; clear k5 k6 hV hP k4; ((try simp +decide only [b01, b10, b11, am_up, ik, and_true, and_false, true_and, false_and, if_true, if_false, nn_eq] at *) <;> (try simp only [sw_or, sw_all, or_false, and_true, i32_lt, i32_le, i32_eq, i32_addw, i32_subw, i32_mulw, Int32.reduceToInt] at *) <;> omega)
  | succ d ih =>
    intro p x y st k1 k2 k3 k4 k5 k6
    obtain ⟨v8, ⟨v1, v2, v3, v4, v5⟩, -⟩ := cf (pc_of hP k4) hV hm
    have q := pc_of hP k4
    have hb : (nb P m : Int) = (st 67 m).toInt := by unfold nb; rw [← q.1.2.1]; omega
    have hl : (nl P m : Int) = (st 68 m).toInt := by unfold nl; rw [← q.1.2.2.1]; omega
    have hxp : x.toNatClampNeg = nb P m + p := by rw [nn_eq]; omega
    have hz := @pZ_n P (nb P m + p) hV
    have q70 := q.1.2.2.2.2.1
    have q323 := q.2.2.2.2.2.2.1
    have q322 := q.2.2.2.2.2.2.2
    clear q
    have kA : ¬ x = y → am_AW c_SH_findBeginnings g_SH_findBeginnings (fun o st' => am_ok (some .boolean) o ∧ am_ki (fbQ P st0 m) o st') 10 [some (.inr (.inl 125)), some (.inr (.inl (m + 80))), some (.inl y), some (.inl (x + 1))] [] (am_up st 2131 x.toNatClampNeg 0) := by
      intro e
      have hn : ¬ bg P m p := fun h => e (by rw [i32_eq]; unfold bg at h; omega)
      refine ih (p + 1) _ _ _ (by omega) (by rw [i32_addw]; simp only [Int32.reduceToInt]; omega) (by rw [nx_n hn]; exact k3) (by (repeat (first | assumption | exact md_refl | refine md_up ?_ rfl | refine md_fill ?_ rfl | (unfold ik; refine md_up ?_ rfl)))) (fb_b k5 (fun i hi => am_up_ne (by omega)) ?_) (fb_k k6 (fun h => absurd h hn))
      rw [hxp, am_up_eq]
      exact (if_neg hn).symm
    have kB : ∀ s : am_S, x = y → am_md cV st0 s → s 2131 (nb P m + p) = 1 → (∀ i, ¬ i = nb P m + p → s 2131 i = st 2131 i) → okI P m p → am_AW c_SH_findBeginnings g_SH_findBeginnings (fun o st' => am_ok (some .boolean) o ∧ am_ki (fbQ P st0 m) o st') 10 [some (.inr (.inl 125)), some (.inr (.inl (m + 80))), some (.inl (x + pZ P (nb P m + p))), some (.inl (x + 1))] [] s := by
      intro s e s1 s2 s3 s4
      have hn : bg P m p := by unfold bg; rw [i32_eq] at e; omega
      refine ih (p + 1) _ _ _ (by omega) (by rw [i32_addw]; simp only [Int32.reduceToInt]; omega) (by rw [nx_s hn, i32_addw]; omega) s1 (fb_b k5 s3 ?_) (fb_k k6 (fun _ => s4))
      rw [s2]
      exact (if_pos hn).symm
    have kC : ∀ s : am_S, x = y → am_md cV st0 s → ¬ okI P m p → fbQ P st0 m 0 s := by
      intro s e s1 s2
      have hn : bg P m p := by unfold bg; rw [i32_eq] at e; omega
      exact ⟨s1, Or.inr ⟨rfl, fun h => s2 (h p (by omega) hn)⟩⟩
    rw [← hxp] at kB hz
    have kO : ∀ n : Int32, ¬ pZ P x.toNatClampNeg = 0 → x.toInt + (pZ P x.toNatClampNeg).toInt ≤ (st 67 m).toInt + (st 68 m).toInt → (x.toInt + (pZ P x.toNatClampNeg).toInt ≤ (st 322 0).toInt → (uN (P 0 x.toNatClampNeg) → n = pN P x.toNatClampNeg)) → (oH (pO P x.toNatClampNeg) n (st 70 m) (st 323 0) ↔ okI P m p) := by
      intro n o1 o2 o3
      rw [oH_rd hV (o3 (by omega)), q70, q323]
      unfold okI
      rw [← hxp]
      exact ⟨fun h => ⟨o1, by omega, h⟩, fun h => h.2.2⟩
    have kE : ¬ (st 67 m + st 68 m < x + pZ P x.toNatClampNeg) → x.toInt + (pZ P x.toNatClampNeg).toInt ≤ (st 67 m).toInt + (st 68 m).toInt := by
      rw [i32_lt, i32_addw, i32_addw]
      omega
    have kF : st 67 m + st 68 m < x + pZ P x.toNatClampNeg → ¬ okI P m p := by
      intro h h2
      have h2 := h2.2.1
      rw [← hxp] at h2
      rw [i32_lt, i32_addw, i32_addw] at h
      omega
    have kG : pZ P x.toNatClampNeg = 0 → ¬ okI P m p := fun h h2 => h2.1 (by rw [← hxp]; exact h)
    refine r_il3 (q := 11) d_SH_findBeginnings_10 rfl ?_
    refine r_al1 (q := 12) d_SH_findBeginnings_11 rfl ?_
    refine r_vi0 mo_ME_end d_SH_findBeginnings_12 rfl (r_kM (by first | assumption | (refine pc_of hP ?_; (repeat (first | assumption | exact md_refl | refine md_up ?_ rfl | refine md_fill ?_ rfl | (unfold ik; refine md_up ?_ rfl))); done) | (refine pm_of hP ?_; (repeat (first | assumption | exact md_refl | refine md_up ?_ rfl | refine md_fill ?_ rfl | (unfold ik; refine md_up ?_ rfl))); done) | omega | decide | ((try simp +decide only [b01, b10, b11, am_up, ik, and_true, and_false, true_and, false_and, if_true, if_false, nn_eq] at *) <;> (try simp only [sw_or, sw_all, or_false, and_true, i32_lt, i32_le, i32_eq, i32_addw, i32_subw, i32_mulw, Int32.reduceToInt] at *) <;> omega) | (apply_assumption; done))) rfl (q := 15) rfl ?_
    refine sp_ME_end (by first | assumption | (refine pc_of hP ?_; (repeat (first | assumption | exact md_refl | refine md_up ?_ rfl | refine md_fill ?_ rfl | (unfold ik; refine md_up ?_ rfl))); done) | (refine pm_of hP ?_; (repeat (first | assumption | exact md_refl | refine md_up ?_ rfl | refine md_fill ?_ rfl | (unfold ik; refine md_up ?_ rfl))); done) | omega | decide | ((try simp +decide only [b01, b10, b11, am_up, ik, and_true, and_false, true_and, false_and, if_true, if_false, nn_eq] at *) <;> (try simp only [sw_or, sw_all, or_false, and_true, i32_lt, i32_le, i32_eq, i32_addw, i32_subw, i32_mulw, Int32.reduceToInt] at *) <;> omega) | (apply_assumption; done)) ?_
    refine r_cge (tgt := 99) (q := 18) d_SH_findBeginnings_15 rfl rfl (fun e15 => ?_) (fun e15 => ?_)
    · skip
      first | exact kA e25 | (exfalso; exact e40 rfl) | (exfalso; clear kA kB kC kO kE kF kG ih k5 k6 hV hP k4; ((try simp +decide only [b01, b10, b11, am_up, ik, and_true, and_false, true_and, false_and, if_true, if_false, nn_eq] at *) <;> (try simp only [sw_or, sw_all, or_false, and_true, i32_lt, i32_le, i32_eq, i32_addw, i32_subw, i32_mulw, Int32.reduceToInt] at *) <;> omega)) | exact kB _ e25 (by (repeat (first | assumption | exact md_refl | refine md_up ?_ rfl | refine md_fill ?_ rfl | (unfold ik; refine md_up ?_ rfl)))) (by simp [am_up, ik]) (fun i hi => by simp [am_up, ik, hi]) ((kO e52.1.1 e72 (kE e80) (fun u => (e52.2 u).1)).mp e85)
    · skip
      refine r_al0 (q := 19) d_SH_findBeginnings_18 rfl ?_
      refine gt_SH_begins (q := 22) d_SH_findBeginnings_19 rfl rfl ?_
      refine r_il3 (q := 23) d_SH_findBeginnings_22 rfl ?_
      refine r_il3 (q := 24) d_SH_findBeginnings_23 rfl ?_
      refine r_il2 (q := 25) d_SH_findBeginnings_24 rfl ?_
      refine r_cne (tgt := 32) (q := 28) d_SH_findBeginnings_25 rfl rfl (fun e25 => ?_) (fun e25 => ?_)
      · skip
        refine r_ic (v := 0) (q := 33) d_SH_findBeginnings_32 rfl rfl ?_
        refine sv_131 (q := 34) d_SH_findBeginnings_33 (by first | assumption | (refine pc_of hP ?_; (repeat (first | assumption | exact md_refl | refine md_up ?_ rfl | refine md_fill ?_ rfl | (unfold ik; refine md_up ?_ rfl))); done) | (refine pm_of hP ?_; (repeat (first | assumption | exact md_refl | refine md_up ?_ rfl | refine md_fill ?_ rfl | (unfold ik; refine md_up ?_ rfl))); done) | omega | decide | ((try simp +decide only [b01, b10, b11, am_up, ik, and_true, and_false, true_and, false_and, if_true, if_false, nn_eq] at *) <;> (try simp only [sw_or, sw_all, or_false, and_true, i32_lt, i32_le, i32_eq, i32_addw, i32_subw, i32_mulw, Int32.reduceToInt] at *) <;> omega) | (apply_assumption; done)) ?_ rfl ?_
        · clear kA kB kC kO kE kF kG ih k5 k6 hV hP; (refine vp_of ?_ ?_ <;> (((try simp +decide only [b01, b10, b11, am_up, ik, and_true, and_false, true_and, false_and, if_true, if_false, nn_eq] at *) <;> (try simp only [sw_or, sw_all, or_false, and_true, i32_lt, i32_le, i32_eq, i32_addw, i32_subw, i32_mulw, Int32.reduceToInt] at *) <;> omega)))
        refine r_al0 (q := 35) d_SH_findBeginnings_34 rfl ?_
        refine gt_SH_begins (q := 38) d_SH_findBeginnings_35 rfl rfl ?_
        refine r_il3 (q := 39) d_SH_findBeginnings_38 rfl ?_
        refine ld_131 (q := 40) d_SH_findBeginnings_39 ?_ rfl ?_
        · clear kA kB kC kO kE kF kG ih k5 k6 hV hP; (refine vp_of ?_ ?_ <;> (((try simp +decide only [b01, b10, b11, am_up, ik, and_true, and_false, true_and, false_and, if_true, if_false, nn_eq] at *) <;> (try simp only [sw_or, sw_all, or_false, and_true, i32_lt, i32_le, i32_eq, i32_addw, i32_subw, i32_mulw, Int32.reduceToInt] at *) <;> omega)))
        refine r_zeq (tgt := 93) (q := 43) d_SH_findBeginnings_40 rfl rfl (fun e40 => ?_) (fun e40 => ?_)
        · skip
          refine r_in3 (v := 1) (q := 96) d_SH_findBeginnings_93 rfl rfl ?_
          refine am_go (tgt := 10) d_SH_findBeginnings_96 rfl ?_
          first | exact kA e25 | (exfalso; exact e40 rfl) | (exfalso; clear kA kB kC kO kE kF kG ih k5 k6 hV hP k4; ((try simp +decide only [b01, b10, b11, am_up, ik, and_true, and_false, true_and, false_and, if_true, if_false, nn_eq] at *) <;> (try simp only [sw_or, sw_all, or_false, and_true, i32_lt, i32_le, i32_eq, i32_addw, i32_subw, i32_mulw, Int32.reduceToInt] at *) <;> omega)) | exact kB _ e25 (by (repeat (first | assumption | exact md_refl | refine md_up ?_ rfl | refine md_fill ?_ rfl | (unfold ik; refine md_up ?_ rfl)))) (by simp [am_up, ik]) (fun i hi => by simp [am_up, ik, hi]) ((kO e52.1.1 e72 (kE e80) (fun u => (e52.2 u).1)).mp e85)
        · skip
          refine r_al0 (q := 44) d_SH_findBeginnings_43 rfl ?_
          refine gt_SH_now (q := 47) d_SH_findBeginnings_44 rfl rfl ?_
          refine r_al0 (q := 48) d_SH_findBeginnings_47 rfl ?_
          refine gt_SH_code (q := 51) d_SH_findBeginnings_48 rfl rfl ?_
          refine r_il3 (q := 52) d_SH_findBeginnings_51 rfl ?_
          refine r_vv2 mo_IN_read d_SH_findBeginnings_52 rfl rfl rfl (q := 55) rfl ?_
          refine sp_IN_read (P := P) (by first | assumption | (refine pc_of hP ?_; (repeat (first | assumption | exact md_refl | refine md_up ?_ rfl | refine md_fill ?_ rfl | (unfold ik; refine md_up ?_ rfl))); done) | (refine pm_of hP ?_; (repeat (first | assumption | exact md_refl | refine md_up ?_ rfl | refine md_fill ?_ rfl | (unfold ik; refine md_up ?_ rfl))); done) | omega | decide | ((try simp +decide only [b01, b10, b11, am_up, ik, and_true, and_false, true_and, false_and, if_true, if_false, nn_eq] at *) <;> (try simp only [sw_or, sw_all, or_false, and_true, i32_lt, i32_le, i32_eq, i32_addw, i32_subw, i32_mulw, Int32.reduceToInt] at *) <;> omega) | (apply_assumption; done)) (by first | assumption | (refine pc_of hP ?_; (repeat (first | assumption | exact md_refl | refine md_up ?_ rfl | refine md_fill ?_ rfl | (unfold ik; refine md_up ?_ rfl))); done) | (refine pm_of hP ?_; (repeat (first | assumption | exact md_refl | refine md_up ?_ rfl | refine md_fill ?_ rfl | (unfold ik; refine md_up ?_ rfl))); done) | omega | decide | ((try simp +decide only [b01, b10, b11, am_up, ik, and_true, and_false, true_and, false_and, if_true, if_false, nn_eq] at *) <;> (try simp only [sw_or, sw_all, or_false, and_true, i32_lt, i32_le, i32_eq, i32_addw, i32_subw, i32_mulw, Int32.reduceToInt] at *) <;> omega) | (apply_assumption; done)) (by first | assumption | (refine pc_of hP ?_; (repeat (first | assumption | exact md_refl | refine md_up ?_ rfl | refine md_fill ?_ rfl | (unfold ik; refine md_up ?_ rfl))); done) | (refine pm_of hP ?_; (repeat (first | assumption | exact md_refl | refine md_up ?_ rfl | refine md_fill ?_ rfl | (unfold ik; refine md_up ?_ rfl))); done) | omega | decide | ((try simp +decide only [b01, b10, b11, am_up, ik, and_true, and_false, true_and, false_and, if_true, if_false, nn_eq] at *) <;> (try simp only [sw_or, sw_all, or_false, and_true, i32_lt, i32_le, i32_eq, i32_addw, i32_subw, i32_mulw, Int32.reduceToInt] at *) <;> omega) | (apply_assumption; done)) (by first | assumption | (refine pc_of hP ?_; (repeat (first | assumption | exact md_refl | refine md_up ?_ rfl | refine md_fill ?_ rfl | (unfold ik; refine md_up ?_ rfl))); done) | (refine pm_of hP ?_; (repeat (first | assumption | exact md_refl | refine md_up ?_ rfl | refine md_fill ?_ rfl | (unfold ik; refine md_up ?_ rfl))); done) | omega | decide | ((try simp +decide only [b01, b10, b11, am_up, ik, and_true, and_false, true_and, false_and, if_true, if_false, nn_eq] at *) <;> (try simp only [sw_or, sw_all, or_false, and_true, i32_lt, i32_le, i32_eq, i32_addw, i32_subw, i32_mulw, Int32.reduceToInt] at *) <;> omega) | (apply_assumption; done)) (fun e52 => ?_)
          · skip
            refine r_il3 (q := 56) d_SH_findBeginnings_55 rfl ?_
            refine r_al0 (q := 57) d_SH_findBeginnings_56 rfl ?_
            refine gt_SH_now (q := 60) d_SH_findBeginnings_57 rfl rfl ?_
            refine gt_IN_size (q := 63) d_SH_findBeginnings_60 rfl (by first | assumption | (refine pc_of hP ?_; (repeat (first | assumption | exact md_refl | refine md_up ?_ rfl | refine md_fill ?_ rfl | (unfold ik; refine md_up ?_ rfl))); done) | (refine pm_of hP ?_; (repeat (first | assumption | exact md_refl | refine md_up ?_ rfl | refine md_fill ?_ rfl | (unfold ik; refine md_up ?_ rfl))); done) | omega | decide | ((try simp +decide only [b01, b10, b11, am_up, ik, and_true, and_false, true_and, false_and, if_true, if_false, nn_eq] at *) <;> (try simp only [sw_or, sw_all, or_false, and_true, i32_lt, i32_le, i32_eq, i32_addw, i32_subw, i32_mulw, Int32.reduceToInt] at *) <;> omega) | (apply_assumption; done)) rfl ?_
            refine r_iadd (q := 64) d_SH_findBeginnings_63 rfl ?_
            refine r_is2 (q := 65) d_SH_findBeginnings_64 rfl ?_
            refine r_al0 (q := 66) d_SH_findBeginnings_65 rfl ?_
            refine gt_SH_now (q := 69) d_SH_findBeginnings_66 rfl rfl ?_
            refine gt_IN_size (q := 72) d_SH_findBeginnings_69 rfl (by first | assumption | (refine pc_of hP ?_; (repeat (first | assumption | exact md_refl | refine md_up ?_ rfl | refine md_fill ?_ rfl | (unfold ik; refine md_up ?_ rfl))); done) | (refine pm_of hP ?_; (repeat (first | assumption | exact md_refl | refine md_up ?_ rfl | refine md_fill ?_ rfl | (unfold ik; refine md_up ?_ rfl))); done) | omega | decide | ((try simp +decide only [b01, b10, b11, am_up, ik, and_true, and_false, true_and, false_and, if_true, if_false, nn_eq] at *) <;> (try simp only [sw_or, sw_all, or_false, and_true, i32_lt, i32_le, i32_eq, i32_addw, i32_subw, i32_mulw, Int32.reduceToInt] at *) <;> omega) | (apply_assumption; done)) rfl ?_
            refine r_zeq (tgt := 91) (q := 75) d_SH_findBeginnings_72 rfl rfl (fun e72 => ?_) (fun e72 => ?_)
            · skip
              refine r_ic (v := 0) (q := 92) d_SH_findBeginnings_91 rfl rfl ?_
              refine r_rz d_SH_findBeginnings_92 (by first | assumption | (refine pc_of hP ?_; (repeat (first | assumption | exact md_refl | refine md_up ?_ rfl | refine md_fill ?_ rfl | (unfold ik; refine md_up ?_ rfl))); done) | (refine pm_of hP ?_; (repeat (first | assumption | exact md_refl | refine md_up ?_ rfl | refine md_fill ?_ rfl | (unfold ik; refine md_up ?_ rfl))); done) | omega | decide | ((try simp +decide only [b01, b10, b11, am_up, ik, and_true, and_false, true_and, false_and, if_true, if_false, nn_eq] at *) <;> (try simp only [sw_or, sw_all, or_false, and_true, i32_lt, i32_le, i32_eq, i32_addw, i32_subw, i32_mulw, Int32.reduceToInt] at *) <;> omega) | (apply_assumption; done)) ?_
              first | exact kC _ e25 (by (repeat (first | assumption | exact md_refl | refine md_up ?_ rfl | refine md_fill ?_ rfl | (unfold ik; refine md_up ?_ rfl)))) (kG e72) | exact kC _ e25 (by (repeat (first | assumption | exact md_refl | refine md_up ?_ rfl | refine md_fill ?_ rfl | (unfold ik; refine md_up ?_ rfl)))) (kF e80) | exact kC _ e25 (by (repeat (first | assumption | exact md_refl | refine md_up ?_ rfl | refine md_fill ?_ rfl | (unfold ik; refine md_up ?_ rfl)))) (fun h => e85 ((kO e52.1.1 e72 (kE e80) (fun u => (e52.2 u).1)).mpr h)) | (exfalso; clear kA kB kC kO kE kF kG ih k5 k6 hV hP k4; ((try simp +decide only [b01, b10, b11, am_up, ik, and_true, and_false, true_and, false_and, if_true, if_false, nn_eq] at *) <;> (try simp only [sw_or, sw_all, or_false, and_true, i32_lt, i32_le, i32_eq, i32_addw, i32_subw, i32_mulw, Int32.reduceToInt] at *) <;> omega))
            · skip
              refine r_il2 (q := 76) d_SH_findBeginnings_75 rfl ?_
              refine r_al1 (q := 77) d_SH_findBeginnings_76 rfl ?_
              refine r_vi0 mo_ME_end d_SH_findBeginnings_77 rfl (r_kM (by first | assumption | (refine pc_of hP ?_; (repeat (first | assumption | exact md_refl | refine md_up ?_ rfl | refine md_fill ?_ rfl | (unfold ik; refine md_up ?_ rfl))); done) | (refine pm_of hP ?_; (repeat (first | assumption | exact md_refl | refine md_up ?_ rfl | refine md_fill ?_ rfl | (unfold ik; refine md_up ?_ rfl))); done) | omega | decide | ((try simp +decide only [b01, b10, b11, am_up, ik, and_true, and_false, true_and, false_and, if_true, if_false, nn_eq] at *) <;> (try simp only [sw_or, sw_all, or_false, and_true, i32_lt, i32_le, i32_eq, i32_addw, i32_subw, i32_mulw, Int32.reduceToInt] at *) <;> omega) | (apply_assumption; done))) rfl (q := 80) rfl ?_
              refine sp_ME_end (by first | assumption | (refine pc_of hP ?_; (repeat (first | assumption | exact md_refl | refine md_up ?_ rfl | refine md_fill ?_ rfl | (unfold ik; refine md_up ?_ rfl))); done) | (refine pm_of hP ?_; (repeat (first | assumption | exact md_refl | refine md_up ?_ rfl | refine md_fill ?_ rfl | (unfold ik; refine md_up ?_ rfl))); done) | omega | decide | ((try simp +decide only [b01, b10, b11, am_up, ik, and_true, and_false, true_and, false_and, if_true, if_false, nn_eq] at *) <;> (try simp only [sw_or, sw_all, or_false, and_true, i32_lt, i32_le, i32_eq, i32_addw, i32_subw, i32_mulw, Int32.reduceToInt] at *) <;> omega) | (apply_assumption; done)) ?_
              refine r_cgt (tgt := 91) (q := 83) d_SH_findBeginnings_80 rfl rfl (fun e80 => ?_) (fun e80 => ?_)
              · skip
                refine r_ic (v := 0) (q := 92) d_SH_findBeginnings_91 rfl rfl ?_
                refine r_rz d_SH_findBeginnings_92 (by first | assumption | (refine pc_of hP ?_; (repeat (first | assumption | exact md_refl | refine md_up ?_ rfl | refine md_fill ?_ rfl | (unfold ik; refine md_up ?_ rfl))); done) | (refine pm_of hP ?_; (repeat (first | assumption | exact md_refl | refine md_up ?_ rfl | refine md_fill ?_ rfl | (unfold ik; refine md_up ?_ rfl))); done) | omega | decide | ((try simp +decide only [b01, b10, b11, am_up, ik, and_true, and_false, true_and, false_and, if_true, if_false, nn_eq] at *) <;> (try simp only [sw_or, sw_all, or_false, and_true, i32_lt, i32_le, i32_eq, i32_addw, i32_subw, i32_mulw, Int32.reduceToInt] at *) <;> omega) | (apply_assumption; done)) ?_
                first | exact kC _ e25 (by (repeat (first | assumption | exact md_refl | refine md_up ?_ rfl | refine md_fill ?_ rfl | (unfold ik; refine md_up ?_ rfl)))) (kG e72) | exact kC _ e25 (by (repeat (first | assumption | exact md_refl | refine md_up ?_ rfl | refine md_fill ?_ rfl | (unfold ik; refine md_up ?_ rfl)))) (kF e80) | exact kC _ e25 (by (repeat (first | assumption | exact md_refl | refine md_up ?_ rfl | refine md_fill ?_ rfl | (unfold ik; refine md_up ?_ rfl)))) (fun h => e85 ((kO e52.1.1 e72 (kE e80) (fun u => (e52.2 u).1)).mpr h)) | (exfalso; clear kA kB kC kO kE kF kG ih k5 k6 hV hP k4; ((try simp +decide only [b01, b10, b11, am_up, ik, and_true, and_false, true_and, false_and, if_true, if_false, nn_eq] at *) <;> (try simp only [sw_or, sw_all, or_false, and_true, i32_lt, i32_le, i32_eq, i32_addw, i32_subw, i32_mulw, Int32.reduceToInt] at *) <;> omega))
              · skip
                refine r_al0 (q := 84) d_SH_findBeginnings_83 rfl ?_
                refine r_al1 (q := 85) d_SH_findBeginnings_84 rfl ?_
                refine r_vi1 mo_SH_operandsHold d_SH_findBeginnings_85 rfl rfl rfl (q := 88) rfl ?_
                refine sp_SH_operandsHold (by first | assumption | (refine pc_of hP ?_; (repeat (first | assumption | exact md_refl | refine md_up ?_ rfl | refine md_fill ?_ rfl | (unfold ik; refine md_up ?_ rfl))); done) | (refine pm_of hP ?_; (repeat (first | assumption | exact md_refl | refine md_up ?_ rfl | refine md_fill ?_ rfl | (unfold ik; refine md_up ?_ rfl))); done) | omega | decide | ((try simp +decide only [b01, b10, b11, am_up, ik, and_true, and_false, true_and, false_and, if_true, if_false, nn_eq] at *) <;> (try simp only [sw_or, sw_all, or_false, and_true, i32_lt, i32_le, i32_eq, i32_addw, i32_subw, i32_mulw, Int32.reduceToInt] at *) <;> omega) | (apply_assumption; done)) (fun e85 => ?_) (fun e85 => ?_)
                · skip
                  refine r_zne (tgt := 93) (q := 91) d_SH_findBeginnings_88 rfl rfl (fun e88 => ?_) (fun e88 => by exfalso; revert e88; decide)
                  refine r_in3 (v := 1) (q := 96) d_SH_findBeginnings_93 rfl rfl ?_
                  refine am_go (tgt := 10) d_SH_findBeginnings_96 rfl ?_
                  first | exact kA e25 | (exfalso; exact e40 rfl) | (exfalso; clear kA kB kC kO kE kF kG ih k5 k6 hV hP k4; ((try simp +decide only [b01, b10, b11, am_up, ik, and_true, and_false, true_and, false_and, if_true, if_false, nn_eq] at *) <;> (try simp only [sw_or, sw_all, or_false, and_true, i32_lt, i32_le, i32_eq, i32_addw, i32_subw, i32_mulw, Int32.reduceToInt] at *) <;> omega)) | exact kB _ e25 (by (repeat (first | assumption | exact md_refl | refine md_up ?_ rfl | refine md_fill ?_ rfl | (unfold ik; refine md_up ?_ rfl)))) (by simp [am_up, ik]) (fun i hi => by simp [am_up, ik, hi]) ((kO e52.1.1 e72 (kE e80) (fun u => (e52.2 u).1)).mp e85)
                · skip
                  refine r_zne (tgt := 93) (q := 91) d_SH_findBeginnings_88 rfl rfl (fun e88 => by exfalso; revert e88; decide) (fun e88 => ?_)
                  refine r_ic (v := 0) (q := 92) d_SH_findBeginnings_91 rfl rfl ?_
                  refine r_rz d_SH_findBeginnings_92 (by first | assumption | (refine pc_of hP ?_; (repeat (first | assumption | exact md_refl | refine md_up ?_ rfl | refine md_fill ?_ rfl | (unfold ik; refine md_up ?_ rfl))); done) | (refine pm_of hP ?_; (repeat (first | assumption | exact md_refl | refine md_up ?_ rfl | refine md_fill ?_ rfl | (unfold ik; refine md_up ?_ rfl))); done) | omega | decide | ((try simp +decide only [b01, b10, b11, am_up, ik, and_true, and_false, true_and, false_and, if_true, if_false, nn_eq] at *) <;> (try simp only [sw_or, sw_all, or_false, and_true, i32_lt, i32_le, i32_eq, i32_addw, i32_subw, i32_mulw, Int32.reduceToInt] at *) <;> omega) | (apply_assumption; done)) ?_
                  first | exact kC _ e25 (by (repeat (first | assumption | exact md_refl | refine md_up ?_ rfl | refine md_fill ?_ rfl | (unfold ik; refine md_up ?_ rfl)))) (kG e72) | exact kC _ e25 (by (repeat (first | assumption | exact md_refl | refine md_up ?_ rfl | refine md_fill ?_ rfl | (unfold ik; refine md_up ?_ rfl)))) (kF e80) | exact kC _ e25 (by (repeat (first | assumption | exact md_refl | refine md_up ?_ rfl | refine md_fill ?_ rfl | (unfold ik; refine md_up ?_ rfl)))) (fun h => e85 ((kO e52.1.1 e72 (kE e80) (fun u => (e52.2 u).1)).mpr h)) | (exfalso; clear kA kB kC kO kE kF kG ih k5 k6 hV hP k4; ((try simp +decide only [b01, b10, b11, am_up, ik, and_true, and_false, true_and, false_and, if_true, if_false, nn_eq] at *) <;> (try simp only [sw_or, sw_all, or_false, and_true, i32_lt, i32_le, i32_eq, i32_addw, i32_subw, i32_mulw, Int32.reduceToInt] at *) <;> omega))
      · skip
        refine r_ic (v := 1) (q := 29) d_SH_findBeginnings_28 rfl rfl ?_
        refine am_go (tgt := 33) d_SH_findBeginnings_29 rfl ?_
        refine sv_131 (q := 34) d_SH_findBeginnings_33 (by first | assumption | (refine pc_of hP ?_; (repeat (first | assumption | exact md_refl | refine md_up ?_ rfl | refine md_fill ?_ rfl | (unfold ik; refine md_up ?_ rfl))); done) | (refine pm_of hP ?_; (repeat (first | assumption | exact md_refl | refine md_up ?_ rfl | refine md_fill ?_ rfl | (unfold ik; refine md_up ?_ rfl))); done) | omega | decide | ((try simp +decide only [b01, b10, b11, am_up, ik, and_true, and_false, true_and, false_and, if_true, if_false, nn_eq] at *) <;> (try simp only [sw_or, sw_all, or_false, and_true, i32_lt, i32_le, i32_eq, i32_addw, i32_subw, i32_mulw, Int32.reduceToInt] at *) <;> omega) | (apply_assumption; done)) ?_ rfl ?_
        · clear kA kB kC kO kE kF kG ih k5 k6 hV hP; (refine vp_of ?_ ?_ <;> (((try simp +decide only [b01, b10, b11, am_up, ik, and_true, and_false, true_and, false_and, if_true, if_false, nn_eq] at *) <;> (try simp only [sw_or, sw_all, or_false, and_true, i32_lt, i32_le, i32_eq, i32_addw, i32_subw, i32_mulw, Int32.reduceToInt] at *) <;> omega)))
        refine r_al0 (q := 35) d_SH_findBeginnings_34 rfl ?_
        refine gt_SH_begins (q := 38) d_SH_findBeginnings_35 rfl rfl ?_
        refine r_il3 (q := 39) d_SH_findBeginnings_38 rfl ?_
        refine ld_131 (q := 40) d_SH_findBeginnings_39 ?_ rfl ?_
        · clear kA kB kC kO kE kF kG ih k5 k6 hV hP; (refine vp_of ?_ ?_ <;> (((try simp +decide only [b01, b10, b11, am_up, ik, and_true, and_false, true_and, false_and, if_true, if_false, nn_eq] at *) <;> (try simp only [sw_or, sw_all, or_false, and_true, i32_lt, i32_le, i32_eq, i32_addw, i32_subw, i32_mulw, Int32.reduceToInt] at *) <;> omega)))
        refine r_zeq (tgt := 93) (q := 43) d_SH_findBeginnings_40 rfl rfl (fun e40 => ?_) (fun e40 => ?_)
        · skip
          refine r_in3 (v := 1) (q := 96) d_SH_findBeginnings_93 rfl rfl ?_
          refine am_go (tgt := 10) d_SH_findBeginnings_96 rfl ?_
          first | exact kA e25 | (exfalso; exact e40 rfl) | (exfalso; clear kA kB kC kO kE kF kG ih k5 k6 hV hP k4; ((try simp +decide only [b01, b10, b11, am_up, ik, and_true, and_false, true_and, false_and, if_true, if_false, nn_eq] at *) <;> (try simp only [sw_or, sw_all, or_false, and_true, i32_lt, i32_le, i32_eq, i32_addw, i32_subw, i32_mulw, Int32.reduceToInt] at *) <;> omega)) | exact kB _ e25 (by (repeat (first | assumption | exact md_refl | refine md_up ?_ rfl | refine md_fill ?_ rfl | (unfold ik; refine md_up ?_ rfl)))) (by simp [am_up, ik]) (fun i hi => by simp [am_up, ik, hi]) ((kO e52.1.1 e72 (kE e80) (fun u => (e52.2 u).1)).mp e85)
        · skip
          refine r_al0 (q := 44) d_SH_findBeginnings_43 rfl ?_
          refine gt_SH_now (q := 47) d_SH_findBeginnings_44 rfl rfl ?_
          refine r_al0 (q := 48) d_SH_findBeginnings_47 rfl ?_
          refine gt_SH_code (q := 51) d_SH_findBeginnings_48 rfl rfl ?_
          refine r_il3 (q := 52) d_SH_findBeginnings_51 rfl ?_
          refine r_vv2 mo_IN_read d_SH_findBeginnings_52 rfl rfl rfl (q := 55) rfl ?_
          refine sp_IN_read (P := P) (by first | assumption | (refine pc_of hP ?_; (repeat (first | assumption | exact md_refl | refine md_up ?_ rfl | refine md_fill ?_ rfl | (unfold ik; refine md_up ?_ rfl))); done) | (refine pm_of hP ?_; (repeat (first | assumption | exact md_refl | refine md_up ?_ rfl | refine md_fill ?_ rfl | (unfold ik; refine md_up ?_ rfl))); done) | omega | decide | ((try simp +decide only [b01, b10, b11, am_up, ik, and_true, and_false, true_and, false_and, if_true, if_false, nn_eq] at *) <;> (try simp only [sw_or, sw_all, or_false, and_true, i32_lt, i32_le, i32_eq, i32_addw, i32_subw, i32_mulw, Int32.reduceToInt] at *) <;> omega) | (apply_assumption; done)) (by first | assumption | (refine pc_of hP ?_; (repeat (first | assumption | exact md_refl | refine md_up ?_ rfl | refine md_fill ?_ rfl | (unfold ik; refine md_up ?_ rfl))); done) | (refine pm_of hP ?_; (repeat (first | assumption | exact md_refl | refine md_up ?_ rfl | refine md_fill ?_ rfl | (unfold ik; refine md_up ?_ rfl))); done) | omega | decide | ((try simp +decide only [b01, b10, b11, am_up, ik, and_true, and_false, true_and, false_and, if_true, if_false, nn_eq] at *) <;> (try simp only [sw_or, sw_all, or_false, and_true, i32_lt, i32_le, i32_eq, i32_addw, i32_subw, i32_mulw, Int32.reduceToInt] at *) <;> omega) | (apply_assumption; done)) (by first | assumption | (refine pc_of hP ?_; (repeat (first | assumption | exact md_refl | refine md_up ?_ rfl | refine md_fill ?_ rfl | (unfold ik; refine md_up ?_ rfl))); done) | (refine pm_of hP ?_; (repeat (first | assumption | exact md_refl | refine md_up ?_ rfl | refine md_fill ?_ rfl | (unfold ik; refine md_up ?_ rfl))); done) | omega | decide | ((try simp +decide only [b01, b10, b11, am_up, ik, and_true, and_false, true_and, false_and, if_true, if_false, nn_eq] at *) <;> (try simp only [sw_or, sw_all, or_false, and_true, i32_lt, i32_le, i32_eq, i32_addw, i32_subw, i32_mulw, Int32.reduceToInt] at *) <;> omega) | (apply_assumption; done)) (by first | assumption | (refine pc_of hP ?_; (repeat (first | assumption | exact md_refl | refine md_up ?_ rfl | refine md_fill ?_ rfl | (unfold ik; refine md_up ?_ rfl))); done) | (refine pm_of hP ?_; (repeat (first | assumption | exact md_refl | refine md_up ?_ rfl | refine md_fill ?_ rfl | (unfold ik; refine md_up ?_ rfl))); done) | omega | decide | ((try simp +decide only [b01, b10, b11, am_up, ik, and_true, and_false, true_and, false_and, if_true, if_false, nn_eq] at *) <;> (try simp only [sw_or, sw_all, or_false, and_true, i32_lt, i32_le, i32_eq, i32_addw, i32_subw, i32_mulw, Int32.reduceToInt] at *) <;> omega) | (apply_assumption; done)) (fun e52 => ?_)
          · skip
            refine r_il3 (q := 56) d_SH_findBeginnings_55 rfl ?_
            refine r_al0 (q := 57) d_SH_findBeginnings_56 rfl ?_
            refine gt_SH_now (q := 60) d_SH_findBeginnings_57 rfl rfl ?_
            refine gt_IN_size (q := 63) d_SH_findBeginnings_60 rfl (by first | assumption | (refine pc_of hP ?_; (repeat (first | assumption | exact md_refl | refine md_up ?_ rfl | refine md_fill ?_ rfl | (unfold ik; refine md_up ?_ rfl))); done) | (refine pm_of hP ?_; (repeat (first | assumption | exact md_refl | refine md_up ?_ rfl | refine md_fill ?_ rfl | (unfold ik; refine md_up ?_ rfl))); done) | omega | decide | ((try simp +decide only [b01, b10, b11, am_up, ik, and_true, and_false, true_and, false_and, if_true, if_false, nn_eq] at *) <;> (try simp only [sw_or, sw_all, or_false, and_true, i32_lt, i32_le, i32_eq, i32_addw, i32_subw, i32_mulw, Int32.reduceToInt] at *) <;> omega) | (apply_assumption; done)) rfl ?_
            refine r_iadd (q := 64) d_SH_findBeginnings_63 rfl ?_
            refine r_is2 (q := 65) d_SH_findBeginnings_64 rfl ?_
            refine r_al0 (q := 66) d_SH_findBeginnings_65 rfl ?_
            refine gt_SH_now (q := 69) d_SH_findBeginnings_66 rfl rfl ?_
            refine gt_IN_size (q := 72) d_SH_findBeginnings_69 rfl (by first | assumption | (refine pc_of hP ?_; (repeat (first | assumption | exact md_refl | refine md_up ?_ rfl | refine md_fill ?_ rfl | (unfold ik; refine md_up ?_ rfl))); done) | (refine pm_of hP ?_; (repeat (first | assumption | exact md_refl | refine md_up ?_ rfl | refine md_fill ?_ rfl | (unfold ik; refine md_up ?_ rfl))); done) | omega | decide | ((try simp +decide only [b01, b10, b11, am_up, ik, and_true, and_false, true_and, false_and, if_true, if_false, nn_eq] at *) <;> (try simp only [sw_or, sw_all, or_false, and_true, i32_lt, i32_le, i32_eq, i32_addw, i32_subw, i32_mulw, Int32.reduceToInt] at *) <;> omega) | (apply_assumption; done)) rfl ?_
            refine r_zeq (tgt := 91) (q := 75) d_SH_findBeginnings_72 rfl rfl (fun e72 => ?_) (fun e72 => ?_)
            · skip
              refine r_ic (v := 0) (q := 92) d_SH_findBeginnings_91 rfl rfl ?_
              refine r_rz d_SH_findBeginnings_92 (by first | assumption | (refine pc_of hP ?_; (repeat (first | assumption | exact md_refl | refine md_up ?_ rfl | refine md_fill ?_ rfl | (unfold ik; refine md_up ?_ rfl))); done) | (refine pm_of hP ?_; (repeat (first | assumption | exact md_refl | refine md_up ?_ rfl | refine md_fill ?_ rfl | (unfold ik; refine md_up ?_ rfl))); done) | omega | decide | ((try simp +decide only [b01, b10, b11, am_up, ik, and_true, and_false, true_and, false_and, if_true, if_false, nn_eq] at *) <;> (try simp only [sw_or, sw_all, or_false, and_true, i32_lt, i32_le, i32_eq, i32_addw, i32_subw, i32_mulw, Int32.reduceToInt] at *) <;> omega) | (apply_assumption; done)) ?_
              first | exact kC _ e25 (by (repeat (first | assumption | exact md_refl | refine md_up ?_ rfl | refine md_fill ?_ rfl | (unfold ik; refine md_up ?_ rfl)))) (kG e72) | exact kC _ e25 (by (repeat (first | assumption | exact md_refl | refine md_up ?_ rfl | refine md_fill ?_ rfl | (unfold ik; refine md_up ?_ rfl)))) (kF e80) | exact kC _ e25 (by (repeat (first | assumption | exact md_refl | refine md_up ?_ rfl | refine md_fill ?_ rfl | (unfold ik; refine md_up ?_ rfl)))) (fun h => e85 ((kO e52.1.1 e72 (kE e80) (fun u => (e52.2 u).1)).mpr h)) | (exfalso; clear kA kB kC kO kE kF kG ih k5 k6 hV hP k4; ((try simp +decide only [b01, b10, b11, am_up, ik, and_true, and_false, true_and, false_and, if_true, if_false, nn_eq] at *) <;> (try simp only [sw_or, sw_all, or_false, and_true, i32_lt, i32_le, i32_eq, i32_addw, i32_subw, i32_mulw, Int32.reduceToInt] at *) <;> omega))
            · skip
              refine r_il2 (q := 76) d_SH_findBeginnings_75 rfl ?_
              refine r_al1 (q := 77) d_SH_findBeginnings_76 rfl ?_
              refine r_vi0 mo_ME_end d_SH_findBeginnings_77 rfl (r_kM (by first | assumption | (refine pc_of hP ?_; (repeat (first | assumption | exact md_refl | refine md_up ?_ rfl | refine md_fill ?_ rfl | (unfold ik; refine md_up ?_ rfl))); done) | (refine pm_of hP ?_; (repeat (first | assumption | exact md_refl | refine md_up ?_ rfl | refine md_fill ?_ rfl | (unfold ik; refine md_up ?_ rfl))); done) | omega | decide | ((try simp +decide only [b01, b10, b11, am_up, ik, and_true, and_false, true_and, false_and, if_true, if_false, nn_eq] at *) <;> (try simp only [sw_or, sw_all, or_false, and_true, i32_lt, i32_le, i32_eq, i32_addw, i32_subw, i32_mulw, Int32.reduceToInt] at *) <;> omega) | (apply_assumption; done))) rfl (q := 80) rfl ?_
              refine sp_ME_end (by first | assumption | (refine pc_of hP ?_; (repeat (first | assumption | exact md_refl | refine md_up ?_ rfl | refine md_fill ?_ rfl | (unfold ik; refine md_up ?_ rfl))); done) | (refine pm_of hP ?_; (repeat (first | assumption | exact md_refl | refine md_up ?_ rfl | refine md_fill ?_ rfl | (unfold ik; refine md_up ?_ rfl))); done) | omega | decide | ((try simp +decide only [b01, b10, b11, am_up, ik, and_true, and_false, true_and, false_and, if_true, if_false, nn_eq] at *) <;> (try simp only [sw_or, sw_all, or_false, and_true, i32_lt, i32_le, i32_eq, i32_addw, i32_subw, i32_mulw, Int32.reduceToInt] at *) <;> omega) | (apply_assumption; done)) ?_
              refine r_cgt (tgt := 91) (q := 83) d_SH_findBeginnings_80 rfl rfl (fun e80 => ?_) (fun e80 => ?_)
              · skip
                refine r_ic (v := 0) (q := 92) d_SH_findBeginnings_91 rfl rfl ?_
                refine r_rz d_SH_findBeginnings_92 (by first | assumption | (refine pc_of hP ?_; (repeat (first | assumption | exact md_refl | refine md_up ?_ rfl | refine md_fill ?_ rfl | (unfold ik; refine md_up ?_ rfl))); done) | (refine pm_of hP ?_; (repeat (first | assumption | exact md_refl | refine md_up ?_ rfl | refine md_fill ?_ rfl | (unfold ik; refine md_up ?_ rfl))); done) | omega | decide | ((try simp +decide only [b01, b10, b11, am_up, ik, and_true, and_false, true_and, false_and, if_true, if_false, nn_eq] at *) <;> (try simp only [sw_or, sw_all, or_false, and_true, i32_lt, i32_le, i32_eq, i32_addw, i32_subw, i32_mulw, Int32.reduceToInt] at *) <;> omega) | (apply_assumption; done)) ?_
                first | exact kC _ e25 (by (repeat (first | assumption | exact md_refl | refine md_up ?_ rfl | refine md_fill ?_ rfl | (unfold ik; refine md_up ?_ rfl)))) (kG e72) | exact kC _ e25 (by (repeat (first | assumption | exact md_refl | refine md_up ?_ rfl | refine md_fill ?_ rfl | (unfold ik; refine md_up ?_ rfl)))) (kF e80) | exact kC _ e25 (by (repeat (first | assumption | exact md_refl | refine md_up ?_ rfl | refine md_fill ?_ rfl | (unfold ik; refine md_up ?_ rfl)))) (fun h => e85 ((kO e52.1.1 e72 (kE e80) (fun u => (e52.2 u).1)).mpr h)) | (exfalso; clear kA kB kC kO kE kF kG ih k5 k6 hV hP k4; ((try simp +decide only [b01, b10, b11, am_up, ik, and_true, and_false, true_and, false_and, if_true, if_false, nn_eq] at *) <;> (try simp only [sw_or, sw_all, or_false, and_true, i32_lt, i32_le, i32_eq, i32_addw, i32_subw, i32_mulw, Int32.reduceToInt] at *) <;> omega))
              · skip
                refine r_al0 (q := 84) d_SH_findBeginnings_83 rfl ?_
                refine r_al1 (q := 85) d_SH_findBeginnings_84 rfl ?_
                refine r_vi1 mo_SH_operandsHold d_SH_findBeginnings_85 rfl rfl rfl (q := 88) rfl ?_
                refine sp_SH_operandsHold (by first | assumption | (refine pc_of hP ?_; (repeat (first | assumption | exact md_refl | refine md_up ?_ rfl | refine md_fill ?_ rfl | (unfold ik; refine md_up ?_ rfl))); done) | (refine pm_of hP ?_; (repeat (first | assumption | exact md_refl | refine md_up ?_ rfl | refine md_fill ?_ rfl | (unfold ik; refine md_up ?_ rfl))); done) | omega | decide | ((try simp +decide only [b01, b10, b11, am_up, ik, and_true, and_false, true_and, false_and, if_true, if_false, nn_eq] at *) <;> (try simp only [sw_or, sw_all, or_false, and_true, i32_lt, i32_le, i32_eq, i32_addw, i32_subw, i32_mulw, Int32.reduceToInt] at *) <;> omega) | (apply_assumption; done)) (fun e85 => ?_) (fun e85 => ?_)
                · skip
                  refine r_zne (tgt := 93) (q := 91) d_SH_findBeginnings_88 rfl rfl (fun e88 => ?_) (fun e88 => by exfalso; revert e88; decide)
                  refine r_in3 (v := 1) (q := 96) d_SH_findBeginnings_93 rfl rfl ?_
                  refine am_go (tgt := 10) d_SH_findBeginnings_96 rfl ?_
                  first | exact kA e25 | (exfalso; exact e40 rfl) | (exfalso; clear kA kB kC kO kE kF kG ih k5 k6 hV hP k4; ((try simp +decide only [b01, b10, b11, am_up, ik, and_true, and_false, true_and, false_and, if_true, if_false, nn_eq] at *) <;> (try simp only [sw_or, sw_all, or_false, and_true, i32_lt, i32_le, i32_eq, i32_addw, i32_subw, i32_mulw, Int32.reduceToInt] at *) <;> omega)) | exact kB _ e25 (by (repeat (first | assumption | exact md_refl | refine md_up ?_ rfl | refine md_fill ?_ rfl | (unfold ik; refine md_up ?_ rfl)))) (by simp [am_up, ik]) (fun i hi => by simp [am_up, ik, hi]) ((kO e52.1.1 e72 (kE e80) (fun u => (e52.2 u).1)).mp e85)
                · skip
                  refine r_zne (tgt := 93) (q := 91) d_SH_findBeginnings_88 rfl rfl (fun e88 => by exfalso; revert e88; decide) (fun e88 => ?_)
                  refine r_ic (v := 0) (q := 92) d_SH_findBeginnings_91 rfl rfl ?_
                  refine r_rz d_SH_findBeginnings_92 (by first | assumption | (refine pc_of hP ?_; (repeat (first | assumption | exact md_refl | refine md_up ?_ rfl | refine md_fill ?_ rfl | (unfold ik; refine md_up ?_ rfl))); done) | (refine pm_of hP ?_; (repeat (first | assumption | exact md_refl | refine md_up ?_ rfl | refine md_fill ?_ rfl | (unfold ik; refine md_up ?_ rfl))); done) | omega | decide | ((try simp +decide only [b01, b10, b11, am_up, ik, and_true, and_false, true_and, false_and, if_true, if_false, nn_eq] at *) <;> (try simp only [sw_or, sw_all, or_false, and_true, i32_lt, i32_le, i32_eq, i32_addw, i32_subw, i32_mulw, Int32.reduceToInt] at *) <;> omega) | (apply_assumption; done)) ?_
                  first | exact kC _ e25 (by (repeat (first | assumption | exact md_refl | refine md_up ?_ rfl | refine md_fill ?_ rfl | (unfold ik; refine md_up ?_ rfl)))) (kG e72) | exact kC _ e25 (by (repeat (first | assumption | exact md_refl | refine md_up ?_ rfl | refine md_fill ?_ rfl | (unfold ik; refine md_up ?_ rfl)))) (kF e80) | exact kC _ e25 (by (repeat (first | assumption | exact md_refl | refine md_up ?_ rfl | refine md_fill ?_ rfl | (unfold ik; refine md_up ?_ rfl)))) (fun h => e85 ((kO e52.1.1 e72 (kE e80) (fun u => (e52.2 u).1)).mpr h)) | (exfalso; clear kA kB kC kO kE kF kG ih k5 k6 hV hP k4; ((try simp +decide only [b01, b10, b11, am_up, ik, and_true, and_false, true_and, false_and, if_true, if_false, nn_eq] at *) <;> (try simp only [sw_or, sw_all, or_false, and_true, i32_lt, i32_le, i32_eq, i32_addw, i32_subw, i32_mulw, Int32.reduceToInt] at *) <;> omega))
theorem sp_SH_findBeginnings {P : am_S} {m : Nat} {st : am_S} {f : Int32 → am_S → Prop} (c1 : PC st P) (c2 : VP P) (c3 : m < nM P) (h1 : ∀ p : {p : Int32 × am_S // fbQ P st m p.1 p.2}, f p.1.1 p.1.2) : wp_SH_findBeginnings [.inr (.inl 125), .inr (.inl (m + 80))] st (am_ki f) := by
  refine ki_of (g := fbQ P st m) mo_SH_findBeginnings ?_ h1
  refine ⟨⟨rfl, Nat.le_of_ble_eq_true rfl⟩, ?_⟩
  obtain ⟨v8, ⟨v1, v2, v3, v4, v5⟩, -⟩ := cf c1 c2 c3
  have hb : (nb P m : Int) = (st 67 m).toInt := by unfold nb; rw [← c1.1.2.1]; omega
  have hl : (nl P m : Int) = (st 68 m).toInt := by unfold nl; rw [← c1.1.2.2.1]; omega
  refine r_al1 (q := 1) d_SH_findBeginnings_0 rfl ?_
  refine gt_ME_first (q := 4) d_SH_findBeginnings_1 rfl (by first | assumption | (refine pc_of hP ?_; (repeat (first | assumption | exact md_refl | refine md_up ?_ rfl | refine md_fill ?_ rfl | (unfold ik; refine md_up ?_ rfl))); done) | (refine pm_of hP ?_; (repeat (first | assumption | exact md_refl | refine md_up ?_ rfl | refine md_fill ?_ rfl | (unfold ik; refine md_up ?_ rfl))); done) | omega | decide | ((try simp +decide only [b01, b10, b11, am_up, ik, and_true, and_false, true_and, false_and, if_true, if_false, nn_eq] at *) <;> (try simp only [sw_or, sw_all, or_false, and_true, i32_lt, i32_le, i32_eq, i32_addw, i32_subw, i32_mulw, Int32.reduceToInt] at *) <;> omega) | (apply_assumption; done)) rfl ?_
  refine r_is2 (q := 5) d_SH_findBeginnings_4 rfl ?_
  refine r_al1 (q := 6) d_SH_findBeginnings_5 rfl ?_
  refine gt_ME_first (q := 9) d_SH_findBeginnings_6 rfl (by first | assumption | (refine pc_of hP ?_; (repeat (first | assumption | exact md_refl | refine md_up ?_ rfl | refine md_fill ?_ rfl | (unfold ik; refine md_up ?_ rfl))); done) | (refine pm_of hP ?_; (repeat (first | assumption | exact md_refl | refine md_up ?_ rfl | refine md_fill ?_ rfl | (unfold ik; refine md_up ?_ rfl))); done) | omega | decide | ((try simp +decide only [b01, b10, b11, am_up, ik, and_true, and_false, true_and, false_and, if_true, if_false, nn_eq] at *) <;> (try simp only [sw_or, sw_all, or_false, and_true, i32_lt, i32_le, i32_eq, i32_addw, i32_subw, i32_mulw, Int32.reduceToInt] at *) <;> omega) | (apply_assumption; done)) rfl ?_
  refine r_is3 (q := 10) d_SH_findBeginnings_9 rfl ?_
  exact lp_SH_fb c1 c2 c3 (nl P m) 0 _ _ _ (by omega) (by omega) (by unfold nx; omega) md_refl (fun q hq => by omega) (fun q hq => by omega)
def jhQ (P st0 : am_S) (m : Nat) (r : Int32) (st' : am_S) : Prop := am_md cV st0 st' ∧ st' 2131 = st0 2131 ∧ ((r = 1 ∧ SH2 P m) ∨ (r = 0 ∧ ¬ SH2 P m))
theorem isB_of {P st : am_S} {m : Nat} {z : Int32} (hB : ∀ q, q < nl P m → st 2131 (nb P m + q) = if nx P m q = q then 1 else 0) (hb : (nb P m : Int) = (st 67 m).toInt) (hl : (nl P m : Int) = (st 68 m).toInt) (h2 : (st 67 m).toInt + (st 68 m).toInt ≤ 200) : ((0 ≤ z ∧ z < st 68 m) ∧ ¬ st 2131 (st 67 m + z).toNatClampNeg = 0) ↔ isB P m z.toInt := by
  unfold isB
  rw [i32_le, i32_lt]
  simp only [Int32.reduceToInt]
  by_cases h : 0 ≤ z.toInt ∧ z.toInt < (st 68 m).toInt
  · have e : (st 67 m + z).toNatClampNeg = nb P m + z.toInt.toNat := by rw [nn_eq, i32_addw]; omega
    rw [e, hB _ (by omega)]
    unfold bg
    by_cases h3 : nx P m z.toInt.toNat = z.toInt.toNat
    · rw [if_pos h3]
      exact ⟨fun _ => ⟨h.1, by omega, h3⟩, fun _ => ⟨h, by decide⟩⟩
    · rw [if_neg h3]
      exact ⟨fun q => absurd rfl q.2, fun q => absurd q.2.2 h3⟩
  · exact ⟨fun q => absurd q.1 h, fun q => absurd ⟨q.1, by omega⟩ h⟩
theorem pN_n {P : am_S} {a : Nat} (hv : VP P) (h : op_jump (pO P a)) : -32768 ≤ (pN P a).toInt ∧ (pN P a).toInt ≤ 32767 := by
  have key : ∀ b : Fin 256, op_jump (dO (nI b.val)) → uN (nI b.val) ∧ dO (nI b.val) = nI b.val ∧ op_z (nI b.val) = 3 ∧ ¬ nI b.val = 132 := by
    unfold uN op_jump dO dZ op_z
    decide +kernel
  have k2 : ∀ b : Fin 256, op_jump (dO (nI b.val)) → ¬ (2 ≤ nI b.val ∧ nI b.val ≤ 8) ∧ ¬ nI b.val = 16 ∧ ¬ (26 ≤ nI b.val ∧ nI b.val < 30) ∧ ¬ (42 ≤ nI b.val ∧ nI b.val < 46) ∧ ¬ (59 ≤ nI b.val ∧ nI b.val < 63) ∧ ¬ (75 ≤ nI b.val ∧ nI b.val < 79) := by
    unfold op_jump dO
    decide +kernel
  have hb := hv.2.1 a
  have h1 := by_dec (Q := fun b => op_jump (dO b) → uN b ∧ dO b = b ∧ op_z b = 3 ∧ ¬ b = 132) key hb.1 hb.2 h
  have h2 := by_dec (Q := fun b => op_jump (dO b) → ¬ (2 ≤ b ∧ b ≤ 8) ∧ ¬ b = 16 ∧ ¬ (26 ≤ b ∧ b < 30) ∧ ¬ (42 ≤ b ∧ b < 46) ∧ ¬ (59 ≤ b ∧ b < 63) ∧ ¬ (75 ≤ b ∧ b < 79)) k2 hb.1 hb.2 h
  unfold pN dN3
  rw [if_neg h2.1, if_neg h2.2.1, if_neg h2.2.2.1, if_neg h2.2.2.2.1, if_neg h2.2.2.2.2.1, if_neg h2.2.2.2.2.2, if_pos ⟨h1.2.2.1, h1.2.2.2⟩]
  generalize (P 0 (a + 1) <<< 8 ||| P 0 (a + 2)).toInt16 = z
  rw [Int16.toInt_toInt32]
  have := Int16.le_toInt z
  have := Int16.toInt_lt z
  omega
theorem uN_j {b : Int32} (h0 : 0 ≤ b.toInt) (h1 : b.toInt ≤ 255) (h : op_jump (dO b)) : uN b := by
  have key : ∀ b : Fin 256, op_jump (dO (nI b.val)) → uN (nI b.val) := by
    unfold uN op_jump dO dZ op_z
    decide +kernel
  exact by_dec (Q := fun b => op_jump (dO b) → uN b) key h0 h1 h

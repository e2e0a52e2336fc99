/-! written by wip/whole/gen/walk.py out of 44.look.txt -/
theorem sp_FW_frame {x w : Int32} {st : am_S} {f : Int32 → am_S → Prop} (c1 : 0 ≤ (st 519 0).toInt) (c2 : (st 519 0).toInt ≤ 80) (c3 : ∀ i, (st 0 i).toNatClampNeg < 8) (h1 : ¬ (0 ≤ x ∧ x < st 519 0) ∨ ¬ (0 ≤ w ∧ w ≤ 2) → f (-1) st) (h2 : (0 ≤ x ∧ x < st 519 0) ∧ w = 0 → f (nI (st 0 (st 519 0 - 1 - x).toNatClampNeg).toNatClampNeg) st) (h3 : (0 ≤ x ∧ x < st 519 0) ∧ w = 1 → f (st 1 (st 519 0 - 1 - x).toNatClampNeg) st) (h4 : (0 ≤ x ∧ x < st 519 0) ∧ w = 2 → f (st 3 (st 519 0 - 1 - x).toNatClampNeg) st) : wp_FW_frame [.inr (.inl 123), .inl x, .inl w] st (am_ki f) := by
  refine ⟨⟨rfl, Nat.le_of_ble_eq_true rfl⟩, ?_⟩
  refine r_il1 (q := 1) d_FW_frame_0 rfl ?_
  refine r_zlt (tgt := 15) (q := 4) d_FW_frame_1 rfl rfl (fun e1 => ?_) (fun e1 => ?_)
  · skip
    refine r_ic (v := -1) (q := 16) d_FW_frame_15 rfl rfl ?_
    refine r_ri d_FW_frame_16 ?_
    first | (refine h1 ?_ <;> ((try simp +decide only [b01, b10, b11, am_up, and_true, and_false, true_and, false_and, if_true, if_false, nn_eq] at *) <;> (try simp only [sw_or, sw_all, or_false, and_true, i32_lt, i32_le, i32_eq, i32_addw, i32_subw, i32_mulw, Int32.reduceToInt] at *) <;> omega)) | (refine h2 ?_ <;> ((try simp +decide only [b01, b10, b11, am_up, and_true, and_false, true_and, false_and, if_true, if_false, nn_eq] at *) <;> (try simp only [sw_or, sw_all, or_false, and_true, i32_lt, i32_le, i32_eq, i32_addw, i32_subw, i32_mulw, Int32.reduceToInt] at *) <;> omega)) | (refine h3 ?_ <;> ((try simp +decide only [b01, b10, b11, am_up, and_true, and_false, true_and, false_and, if_true, if_false, nn_eq] at *) <;> (try simp only [sw_or, sw_all, or_false, and_true, i32_lt, i32_le, i32_eq, i32_addw, i32_subw, i32_mulw, Int32.reduceToInt] at *) <;> omega)) | (refine h4 ?_ <;> ((try simp +decide only [b01, b10, b11, am_up, and_true, and_false, true_and, false_and, if_true, if_false, nn_eq] at *) <;> (try simp only [sw_or, sw_all, or_false, and_true, i32_lt, i32_le, i32_eq, i32_addw, i32_subw, i32_mulw, Int32.reduceToInt] at *) <;> omega)) | (exfalso; ((try simp +decide only [b01, b10, b11, am_up, and_true, and_false, true_and, false_and, if_true, if_false, nn_eq] at *) <;> (try simp only [sw_or, sw_all, or_false, and_true, i32_lt, i32_le, i32_eq, i32_addw, i32_subw, i32_mulw, Int32.reduceToInt] at *) <;> omega))
  · skip
    refine r_il1 (q := 5) d_FW_frame_4 rfl ?_
    refine r_al0 (q := 6) d_FW_frame_5 rfl ?_
    refine gt_FW_machine (q := 9) d_FW_frame_6 rfl rfl ?_
    refine gt_MA_frameCount (q := 12) d_FW_frame_9 rfl rfl ?_
    refine r_clt (tgt := 17) (q := 15) d_FW_frame_12 rfl rfl (fun e12 => ?_) (fun e12 => ?_)
    · skip
      refine r_al0 (q := 18) d_FW_frame_17 rfl ?_
      refine gt_FW_machine (q := 21) d_FW_frame_18 rfl rfl ?_
      refine r_il1 (q := 22) d_FW_frame_21 rfl ?_
      refine r_vr1 mo_MA_frameBelow d_FW_frame_22 rfl rfl rfl (q := 25) rfl ?_
      refine sp_MA_frameBelow (by first | assumption | omega | decide | ((try simp +decide only [b01, b10, b11, am_up, and_true, and_false, true_and, false_and, if_true, if_false, nn_eq] at *) <;> (try simp only [sw_or, sw_all, or_false, and_true, i32_lt, i32_le, i32_eq, i32_addw, i32_subw, i32_mulw, Int32.reduceToInt] at *) <;> omega) | (apply_assumption; done)) (by first | assumption | omega | decide | ((try simp +decide only [b01, b10, b11, am_up, and_true, and_false, true_and, false_and, if_true, if_false, nn_eq] at *) <;> (try simp only [sw_or, sw_all, or_false, and_true, i32_lt, i32_le, i32_eq, i32_addw, i32_subw, i32_mulw, Int32.reduceToInt] at *) <;> omega) | (apply_assumption; done)) (by first | assumption | omega | decide | ((try simp +decide only [b01, b10, b11, am_up, and_true, and_false, true_and, false_and, if_true, if_false, nn_eq] at *) <;> (try simp only [sw_or, sw_all, or_false, and_true, i32_lt, i32_le, i32_eq, i32_addw, i32_subw, i32_mulw, Int32.reduceToInt] at *) <;> omega) | (apply_assumption; done)) ?_
      refine r_as3 (q := 26) d_FW_frame_25 rfl ?_
      refine r_il2 (q := 27) d_FW_frame_26 rfl ?_
      refine r_tsw [([0], 52), ([1], 60), ([2], 65)] (tgt := 70) d_FW_frame_27 (by decide +kernel) (And.intro (fun e27 => ?_) (And.intro (fun e27 => ?_) (And.intro (fun e27 => ?_) trivial))) (fun e27 => ?_)
      · skip
        refine r_al3 (q := 53) d_FW_frame_52 rfl ?_
        refine gt_FR_body (q := 56) d_FW_frame_53 rfl (by first | assumption | omega | decide | ((try simp +decide only [b01, b10, b11, am_up, and_true, and_false, true_and, false_and, if_true, if_false, nn_eq] at *) <;> (try simp only [sw_or, sw_all, or_false, and_true, i32_lt, i32_le, i32_eq, i32_addw, i32_subw, i32_mulw, Int32.reduceToInt] at *) <;> omega) | (apply_assumption; done)) rfl ?_
        refine gt_ME_number (q := 59) d_FW_frame_56 rfl (by first | assumption | omega | decide | ((try simp +decide only [b01, b10, b11, am_up, and_true, and_false, true_and, false_and, if_true, if_false, nn_eq] at *) <;> (try simp only [sw_or, sw_all, or_false, and_true, i32_lt, i32_le, i32_eq, i32_addw, i32_subw, i32_mulw, Int32.reduceToInt] at *) <;> omega) | (apply_assumption; done)) rfl ?_
        refine r_ri d_FW_frame_59 ?_
        first | (refine h1 ?_ <;> ((try simp +decide only [b01, b10, b11, am_up, and_true, and_false, true_and, false_and, if_true, if_false, nn_eq] at *) <;> (try simp only [sw_or, sw_all, or_false, and_true, i32_lt, i32_le, i32_eq, i32_addw, i32_subw, i32_mulw, Int32.reduceToInt] at *) <;> omega)) | (refine h2 ?_ <;> ((try simp +decide only [b01, b10, b11, am_up, and_true, and_false, true_and, false_and, if_true, if_false, nn_eq] at *) <;> (try simp only [sw_or, sw_all, or_false, and_true, i32_lt, i32_le, i32_eq, i32_addw, i32_subw, i32_mulw, Int32.reduceToInt] at *) <;> omega)) | (refine h3 ?_ <;> ((try simp +decide only [b01, b10, b11, am_up, and_true, and_false, true_and, false_and, if_true, if_false, nn_eq] at *) <;> (try simp only [sw_or, sw_all, or_false, and_true, i32_lt, i32_le, i32_eq, i32_addw, i32_subw, i32_mulw, Int32.reduceToInt] at *) <;> omega)) | (refine h4 ?_ <;> ((try simp +decide only [b01, b10, b11, am_up, and_true, and_false, true_and, false_and, if_true, if_false, nn_eq] at *) <;> (try simp only [sw_or, sw_all, or_false, and_true, i32_lt, i32_le, i32_eq, i32_addw, i32_subw, i32_mulw, Int32.reduceToInt] at *) <;> omega)) | (exfalso; ((try simp +decide only [b01, b10, b11, am_up, and_true, and_false, true_and, false_and, if_true, if_false, nn_eq] at *) <;> (try simp only [sw_or, sw_all, or_false, and_true, i32_lt, i32_le, i32_eq, i32_addw, i32_subw, i32_mulw, Int32.reduceToInt] at *) <;> omega))
      · skip
        refine r_al3 (q := 61) d_FW_frame_60 rfl ?_
        refine gt_FR_place (q := 64) d_FW_frame_61 rfl (by first | assumption | omega | decide | ((try simp +decide only [b01, b10, b11, am_up, and_true, and_false, true_and, false_and, if_true, if_false, nn_eq] at *) <;> (try simp only [sw_or, sw_all, or_false, and_true, i32_lt, i32_le, i32_eq, i32_addw, i32_subw, i32_mulw, Int32.reduceToInt] at *) <;> omega) | (apply_assumption; done)) rfl ?_
        refine r_ri d_FW_frame_64 ?_
        first | (refine h1 ?_ <;> ((try simp +decide only [b01, b10, b11, am_up, and_true, and_false, true_and, false_and, if_true, if_false, nn_eq] at *) <;> (try simp only [sw_or, sw_all, or_false, and_true, i32_lt, i32_le, i32_eq, i32_addw, i32_subw, i32_mulw, Int32.reduceToInt] at *) <;> omega)) | (refine h2 ?_ <;> ((try simp +decide only [b01, b10, b11, am_up, and_true, and_false, true_and, false_and, if_true, if_false, nn_eq] at *) <;> (try simp only [sw_or, sw_all, or_false, and_true, i32_lt, i32_le, i32_eq, i32_addw, i32_subw, i32_mulw, Int32.reduceToInt] at *) <;> omega)) | (refine h3 ?_ <;> ((try simp +decide only [b01, b10, b11, am_up, and_true, and_false, true_and, false_and, if_true, if_false, nn_eq] at *) <;> (try simp only [sw_or, sw_all, or_false, and_true, i32_lt, i32_le, i32_eq, i32_addw, i32_subw, i32_mulw, Int32.reduceToInt] at *) <;> omega)) | (refine h4 ?_ <;> ((try simp +decide only [b01, b10, b11, am_up, and_true, and_false, true_and, false_and, if_true, if_false, nn_eq] at *) <;> (try simp only [sw_or, sw_all, or_false, and_true, i32_lt, i32_le, i32_eq, i32_addw, i32_subw, i32_mulw, Int32.reduceToInt] at *) <;> omega)) | (exfalso; ((try simp +decide only [b01, b10, b11, am_up, and_true, and_false, true_and, false_and, if_true, if_false, nn_eq] at *) <;> (try simp only [sw_or, sw_all, or_false, and_true, i32_lt, i32_le, i32_eq, i32_addw, i32_subw, i32_mulw, Int32.reduceToInt] at *) <;> omega))
      · skip
        refine r_al3 (q := 66) d_FW_frame_65 rfl ?_
        refine gt_FR_high (q := 69) d_FW_frame_66 rfl (by first | assumption | omega | decide | ((try simp +decide only [b01, b10, b11, am_up, and_true, and_false, true_and, false_and, if_true, if_false, nn_eq] at *) <;> (try simp only [sw_or, sw_all, or_false, and_true, i32_lt, i32_le, i32_eq, i32_addw, i32_subw, i32_mulw, Int32.reduceToInt] at *) <;> omega) | (apply_assumption; done)) rfl ?_
        refine r_ri d_FW_frame_69 ?_
        first | (refine h1 ?_ <;> ((try simp +decide only [b01, b10, b11, am_up, and_true, and_false, true_and, false_and, if_true, if_false, nn_eq] at *) <;> (try simp only [sw_or, sw_all, or_false, and_true, i32_lt, i32_le, i32_eq, i32_addw, i32_subw, i32_mulw, Int32.reduceToInt] at *) <;> omega)) | (refine h2 ?_ <;> ((try simp +decide only [b01, b10, b11, am_up, and_true, and_false, true_and, false_and, if_true, if_false, nn_eq] at *) <;> (try simp only [sw_or, sw_all, or_false, and_true, i32_lt, i32_le, i32_eq, i32_addw, i32_subw, i32_mulw, Int32.reduceToInt] at *) <;> omega)) | (refine h3 ?_ <;> ((try simp +decide only [b01, b10, b11, am_up, and_true, and_false, true_and, false_and, if_true, if_false, nn_eq] at *) <;> (try simp only [sw_or, sw_all, or_false, and_true, i32_lt, i32_le, i32_eq, i32_addw, i32_subw, i32_mulw, Int32.reduceToInt] at *) <;> omega)) | (refine h4 ?_ <;> ((try simp +decide only [b01, b10, b11, am_up, and_true, and_false, true_and, false_and, if_true, if_false, nn_eq] at *) <;> (try simp only [sw_or, sw_all, or_false, and_true, i32_lt, i32_le, i32_eq, i32_addw, i32_subw, i32_mulw, Int32.reduceToInt] at *) <;> omega)) | (exfalso; ((try simp +decide only [b01, b10, b11, am_up, and_true, and_false, true_and, false_and, if_true, if_false, nn_eq] at *) <;> (try simp only [sw_or, sw_all, or_false, and_true, i32_lt, i32_le, i32_eq, i32_addw, i32_subw, i32_mulw, Int32.reduceToInt] at *) <;> omega))
      · skip
        refine r_ic (v := -1) (q := 71) d_FW_frame_70 rfl rfl ?_
        refine r_ri d_FW_frame_71 ?_
        first | (refine h1 ?_ <;> ((try simp +decide only [b01, b10, b11, am_up, and_true, and_false, true_and, false_and, if_true, if_false, nn_eq] at *) <;> (try simp only [sw_or, sw_all, or_false, and_true, i32_lt, i32_le, i32_eq, i32_addw, i32_subw, i32_mulw, Int32.reduceToInt] at *) <;> omega)) | (refine h2 ?_ <;> ((try simp +decide only [b01, b10, b11, am_up, and_true, and_false, true_and, false_and, if_true, if_false, nn_eq] at *) <;> (try simp only [sw_or, sw_all, or_false, and_true, i32_lt, i32_le, i32_eq, i32_addw, i32_subw, i32_mulw, Int32.reduceToInt] at *) <;> omega)) | (refine h3 ?_ <;> ((try simp +decide only [b01, b10, b11, am_up, and_true, and_false, true_and, false_and, if_true, if_false, nn_eq] at *) <;> (try simp only [sw_or, sw_all, or_false, and_true, i32_lt, i32_le, i32_eq, i32_addw, i32_subw, i32_mulw, Int32.reduceToInt] at *) <;> omega)) | (refine h4 ?_ <;> ((try simp +decide only [b01, b10, b11, am_up, and_true, and_false, true_and, false_and, if_true, if_false, nn_eq] at *) <;> (try simp only [sw_or, sw_all, or_false, and_true, i32_lt, i32_le, i32_eq, i32_addw, i32_subw, i32_mulw, Int32.reduceToInt] at *) <;> omega)) | (exfalso; ((try simp +decide only [b01, b10, b11, am_up, and_true, and_false, true_and, false_and, if_true, if_false, nn_eq] at *) <;> (try simp only [sw_or, sw_all, or_false, and_true, i32_lt, i32_le, i32_eq, i32_addw, i32_subw, i32_mulw, Int32.reduceToInt] at *) <;> omega))
    · skip
      refine r_ic (v := -1) (q := 16) d_FW_frame_15 rfl rfl ?_
      refine r_ri d_FW_frame_16 ?_
      first | (refine h1 ?_ <;> ((try simp +decide only [b01, b10, b11, am_up, and_true, and_false, true_and, false_and, if_true, if_false, nn_eq] at *) <;> (try simp only [sw_or, sw_all, or_false, and_true, i32_lt, i32_le, i32_eq, i32_addw, i32_subw, i32_mulw, Int32.reduceToInt] at *) <;> omega)) | (refine h2 ?_ <;> ((try simp +decide only [b01, b10, b11, am_up, and_true, and_false, true_and, false_and, if_true, if_false, nn_eq] at *) <;> (try simp only [sw_or, sw_all, or_false, and_true, i32_lt, i32_le, i32_eq, i32_addw, i32_subw, i32_mulw, Int32.reduceToInt] at *) <;> omega)) | (refine h3 ?_ <;> ((try simp +decide only [b01, b10, b11, am_up, and_true, and_false, true_and, false_and, if_true, if_false, nn_eq] at *) <;> (try simp only [sw_or, sw_all, or_false, and_true, i32_lt, i32_le, i32_eq, i32_addw, i32_subw, i32_mulw, Int32.reduceToInt] at *) <;> omega)) | (refine h4 ?_ <;> ((try simp +decide only [b01, b10, b11, am_up, and_true, and_false, true_and, false_and, if_true, if_false, nn_eq] at *) <;> (try simp only [sw_or, sw_all, or_false, and_true, i32_lt, i32_le, i32_eq, i32_addw, i32_subw, i32_mulw, Int32.reduceToInt] at *) <;> omega)) | (exfalso; ((try simp +decide only [b01, b10, b11, am_up, and_true, and_false, true_and, false_and, if_true, if_false, nn_eq] at *) <;> (try simp only [sw_or, sw_all, or_false, and_true, i32_lt, i32_le, i32_eq, i32_addw, i32_subw, i32_mulw, Int32.reduceToInt] at *) <;> omega))
theorem sp_FW_local {x : Int32} {st : am_S} {f : Int32 → am_S → Prop} (c1 : (st 518 0).toNatClampNeg < 80) (c2 : (st 0 (st 518 0).toNatClampNeg).toNatClampNeg < 8) (c3 : 0 ≤ (st 2 (st 518 0).toNatClampNeg).toInt) (c4 : 0 < (st 519 0).toInt → (st 2 (st 518 0).toNatClampNeg).toInt + (st 70 (st 0 (st 518 0).toNatClampNeg).toNatClampNeg).toInt ≤ 80) (h1 : 0 < st 519 0 ∧ 0 ≤ x ∧ x < st 70 (st 0 (st 518 0).toNatClampNeg).toNatClampNeg → f (st 2137 (st 2 (st 518 0).toNatClampNeg + x).toNatClampNeg) st) (h2 : ¬ (0 < st 519 0 ∧ 0 ≤ x ∧ x < st 70 (st 0 (st 518 0).toNatClampNeg).toNatClampNeg) → f 0 st) : wp_FW_local [.inr (.inl 123), .inl x] st (am_ki f) := by
  refine ⟨⟨rfl, Nat.le_of_ble_eq_true rfl⟩, ?_⟩
  refine r_al0 (q := 1) d_FW_local_0 rfl ?_
  refine gt_FW_machine (q := 4) d_FW_local_1 rfl rfl ?_
  refine r_il1 (q := 5) d_FW_local_4 rfl ?_
  refine r_vi1 mo_MA_showLocal d_FW_local_5 rfl rfl rfl (q := 8) rfl ?_
  refine sp_MA_showLocal (by first | assumption | omega | decide | ((try simp +decide only [b01, b10, b11, am_up, and_true, and_false, true_and, false_and, if_true, if_false, nn_eq] at *) <;> (try simp only [sw_or, sw_all, or_false, and_true, i32_lt, i32_le, i32_eq, i32_addw, i32_subw, i32_mulw, Int32.reduceToInt] at *) <;> omega) | (apply_assumption; done)) (by first | assumption | omega | decide | ((try simp +decide only [b01, b10, b11, am_up, and_true, and_false, true_and, false_and, if_true, if_false, nn_eq] at *) <;> (try simp only [sw_or, sw_all, or_false, and_true, i32_lt, i32_le, i32_eq, i32_addw, i32_subw, i32_mulw, Int32.reduceToInt] at *) <;> omega) | (apply_assumption; done)) (by first | assumption | omega | decide | ((try simp +decide only [b01, b10, b11, am_up, and_true, and_false, true_and, false_and, if_true, if_false, nn_eq] at *) <;> (try simp only [sw_or, sw_all, or_false, and_true, i32_lt, i32_le, i32_eq, i32_addw, i32_subw, i32_mulw, Int32.reduceToInt] at *) <;> omega) | (apply_assumption; done)) (by first | assumption | omega | decide | ((try simp +decide only [b01, b10, b11, am_up, and_true, and_false, true_and, false_and, if_true, if_false, nn_eq] at *) <;> (try simp only [sw_or, sw_all, or_false, and_true, i32_lt, i32_le, i32_eq, i32_addw, i32_subw, i32_mulw, Int32.reduceToInt] at *) <;> omega) | (apply_assumption; done)) (fun e5 => ?_) (fun e5 => ?_)
  · skip
    refine r_ri d_FW_local_8 ?_
    first | (refine h1 ?_ <;> ((try simp +decide only [b01, b10, b11, am_up, and_true, and_false, true_and, false_and, if_true, if_false, nn_eq] at *) <;> (try simp only [sw_or, sw_all, or_false, and_true, i32_lt, i32_le, i32_eq, i32_addw, i32_subw, i32_mulw, Int32.reduceToInt] at *) <;> omega)) | (refine h2 ?_ <;> ((try simp +decide only [b01, b10, b11, am_up, and_true, and_false, true_and, false_and, if_true, if_false, nn_eq] at *) <;> (try simp only [sw_or, sw_all, or_false, and_true, i32_lt, i32_le, i32_eq, i32_addw, i32_subw, i32_mulw, Int32.reduceToInt] at *) <;> omega)) | (exfalso; ((try simp +decide only [b01, b10, b11, am_up, and_true, and_false, true_and, false_and, if_true, if_false, nn_eq] at *) <;> (try simp only [sw_or, sw_all, or_false, and_true, i32_lt, i32_le, i32_eq, i32_addw, i32_subw, i32_mulw, Int32.reduceToInt] at *) <;> omega))
  · skip
    refine r_ri d_FW_local_8 ?_
    first | (refine h1 ?_ <;> ((try simp +decide only [b01, b10, b11, am_up, and_true, and_false, true_and, false_and, if_true, if_false, nn_eq] at *) <;> (try simp only [sw_or, sw_all, or_false, and_true, i32_lt, i32_le, i32_eq, i32_addw, i32_subw, i32_mulw, Int32.reduceToInt] at *) <;> omega)) | (refine h2 ?_ <;> ((try simp +decide only [b01, b10, b11, am_up, and_true, and_false, true_and, false_and, if_true, if_false, nn_eq] at *) <;> (try simp only [sw_or, sw_all, or_false, and_true, i32_lt, i32_le, i32_eq, i32_addw, i32_subw, i32_mulw, Int32.reduceToInt] at *) <;> omega)) | (exfalso; ((try simp +decide only [b01, b10, b11, am_up, and_true, and_false, true_and, false_and, if_true, if_false, nn_eq] at *) <;> (try simp only [sw_or, sw_all, or_false, and_true, i32_lt, i32_le, i32_eq, i32_addw, i32_subw, i32_mulw, Int32.reduceToInt] at *) <;> omega))
theorem sp_MA_showStack {x : Int32} {st : am_S} {f : Int32 → am_S → Prop} (c1 : (st 518 0).toNatClampNeg < 80) (c2 : (st 0 (st 518 0).toNatClampNeg).toNatClampNeg < 8) (c3 : 0 ≤ (st 2 (st 518 0).toNatClampNeg).toInt) (c4 : 0 ≤ (st 70 (st 0 (st 518 0).toNatClampNeg).toNatClampNeg).toInt) (c5 : 0 < (st 519 0).toInt → (st 2 (st 518 0).toNatClampNeg).toInt + (st 70 (st 0 (st 518 0).toNatClampNeg).toNatClampNeg).toInt + (st 3 (st 518 0).toNatClampNeg).toInt ≤ 80) (h1 : 0 < st 519 0 ∧ 0 ≤ x ∧ x < st 3 (st 518 0).toNatClampNeg → f (st 2137 (st 2 (st 518 0).toNatClampNeg + st 70 (st 0 (st 518 0).toNatClampNeg).toNatClampNeg + st 3 (st 518 0).toNatClampNeg - 1 - x).toNatClampNeg) st) (h2 : ¬ (0 < st 519 0 ∧ 0 ≤ x ∧ x < st 3 (st 518 0).toNatClampNeg) → f 0 st) : wp_MA_showStack [.inr (.inl 127), .inl x] st (am_ki f) := by
  refine ⟨⟨rfl, Nat.le_of_ble_eq_true rfl⟩, ?_⟩
  refine r_al0 (q := 1) d_MA_showStack_0 rfl ?_
  refine gt_MA_frameCount (q := 4) d_MA_showStack_1 rfl rfl ?_
  refine r_zle (tgt := 49) (q := 7) d_MA_showStack_4 rfl rfl (fun e4 => ?_) (fun e4 => ?_)
  · skip
    refine r_ic (v := 0) (q := 50) d_MA_showStack_49 rfl rfl ?_
    refine r_ri d_MA_showStack_50 ?_
    first | (refine h1 ?_ <;> ((try simp +decide only [b01, b10, b11, am_up, and_true, and_false, true_and, false_and, if_true, if_false, nn_eq] at *) <;> (try simp only [sw_or, sw_all, or_false, and_true, i32_lt, i32_le, i32_eq, i32_addw, i32_subw, i32_mulw, Int32.reduceToInt] at *) <;> omega)) | (refine h2 ?_ <;> ((try simp +decide only [b01, b10, b11, am_up, and_true, and_false, true_and, false_and, if_true, if_false, nn_eq] at *) <;> (try simp only [sw_or, sw_all, or_false, and_true, i32_lt, i32_le, i32_eq, i32_addw, i32_subw, i32_mulw, Int32.reduceToInt] at *) <;> omega)) | (exfalso; ((try simp +decide only [b01, b10, b11, am_up, and_true, and_false, true_and, false_and, if_true, if_false, nn_eq] at *) <;> (try simp only [sw_or, sw_all, or_false, and_true, i32_lt, i32_le, i32_eq, i32_addw, i32_subw, i32_mulw, Int32.reduceToInt] at *) <;> omega))
  · skip
    refine r_il1 (q := 8) d_MA_showStack_7 rfl ?_
    refine r_zlt (tgt := 49) (q := 11) d_MA_showStack_8 rfl rfl (fun e8 => ?_) (fun e8 => ?_)
    · skip
      refine r_ic (v := 0) (q := 50) d_MA_showStack_49 rfl rfl ?_
      refine r_ri d_MA_showStack_50 ?_
      first | (refine h1 ?_ <;> ((try simp +decide only [b01, b10, b11, am_up, and_true, and_false, true_and, false_and, if_true, if_false, nn_eq] at *) <;> (try simp only [sw_or, sw_all, or_false, and_true, i32_lt, i32_le, i32_eq, i32_addw, i32_subw, i32_mulw, Int32.reduceToInt] at *) <;> omega)) | (refine h2 ?_ <;> ((try simp +decide only [b01, b10, b11, am_up, and_true, and_false, true_and, false_and, if_true, if_false, nn_eq] at *) <;> (try simp only [sw_or, sw_all, or_false, and_true, i32_lt, i32_le, i32_eq, i32_addw, i32_subw, i32_mulw, Int32.reduceToInt] at *) <;> omega)) | (exfalso; ((try simp +decide only [b01, b10, b11, am_up, and_true, and_false, true_and, false_and, if_true, if_false, nn_eq] at *) <;> (try simp only [sw_or, sw_all, or_false, and_true, i32_lt, i32_le, i32_eq, i32_addw, i32_subw, i32_mulw, Int32.reduceToInt] at *) <;> omega))
    · skip
      refine r_il1 (q := 12) d_MA_showStack_11 rfl ?_
      refine r_al0 (q := 13) d_MA_showStack_12 rfl ?_
      refine gt_MA_latest (q := 16) d_MA_showStack_13 rfl rfl ?_
      refine gt_FR_high (q := 19) d_MA_showStack_16 rfl (by first | assumption | omega | decide | ((try simp +decide only [b01, b10, b11, am_up, and_true, and_false, true_and, false_and, if_true, if_false, nn_eq] at *) <;> (try simp only [sw_or, sw_all, or_false, and_true, i32_lt, i32_le, i32_eq, i32_addw, i32_subw, i32_mulw, Int32.reduceToInt] at *) <;> omega) | (apply_assumption; done)) rfl ?_
      refine r_cge (tgt := 49) (q := 22) d_MA_showStack_19 rfl rfl (fun e19 => ?_) (fun e19 => ?_)
      · skip
        refine r_ic (v := 0) (q := 50) d_MA_showStack_49 rfl rfl ?_
        refine r_ri d_MA_showStack_50 ?_
        first | (refine h1 ?_ <;> ((try simp +decide only [b01, b10, b11, am_up, and_true, and_false, true_and, false_and, if_true, if_false, nn_eq] at *) <;> (try simp only [sw_or, sw_all, or_false, and_true, i32_lt, i32_le, i32_eq, i32_addw, i32_subw, i32_mulw, Int32.reduceToInt] at *) <;> omega)) | (refine h2 ?_ <;> ((try simp +decide only [b01, b10, b11, am_up, and_true, and_false, true_and, false_and, if_true, if_false, nn_eq] at *) <;> (try simp only [sw_or, sw_all, or_false, and_true, i32_lt, i32_le, i32_eq, i32_addw, i32_subw, i32_mulw, Int32.reduceToInt] at *) <;> omega)) | (exfalso; ((try simp +decide only [b01, b10, b11, am_up, and_true, and_false, true_and, false_and, if_true, if_false, nn_eq] at *) <;> (try simp only [sw_or, sw_all, or_false, and_true, i32_lt, i32_le, i32_eq, i32_addw, i32_subw, i32_mulw, Int32.reduceToInt] at *) <;> omega))
      · skip
        refine r_al0 (q := 23) d_MA_showStack_22 rfl ?_
        refine gt_MA_cells (q := 26) d_MA_showStack_23 rfl rfl ?_
        refine r_al0 (q := 27) d_MA_showStack_26 rfl ?_
        refine gt_MA_latest (q := 30) d_MA_showStack_27 rfl rfl ?_
        refine r_vi0 mo_FR_firstStackCell d_MA_showStack_30 rfl (r_kF (by first | assumption | omega | decide | ((try simp +decide only [b01, b10, b11, am_up, and_true, and_false, true_and, false_and, if_true, if_false, nn_eq] at *) <;> (try simp only [sw_or, sw_all, or_false, and_true, i32_lt, i32_le, i32_eq, i32_addw, i32_subw, i32_mulw, Int32.reduceToInt] at *) <;> omega) | (apply_assumption; done))) rfl (q := 33) rfl ?_
        refine sp_FR_firstStackCell (by first | assumption | omega | decide | ((try simp +decide only [b01, b10, b11, am_up, and_true, and_false, true_and, false_and, if_true, if_false, nn_eq] at *) <;> (try simp only [sw_or, sw_all, or_false, and_true, i32_lt, i32_le, i32_eq, i32_addw, i32_subw, i32_mulw, Int32.reduceToInt] at *) <;> omega) | (apply_assumption; done)) (by first | assumption | omega | decide | ((try simp +decide only [b01, b10, b11, am_up, and_true, and_false, true_and, false_and, if_true, if_false, nn_eq] at *) <;> (try simp only [sw_or, sw_all, or_false, and_true, i32_lt, i32_le, i32_eq, i32_addw, i32_subw, i32_mulw, Int32.reduceToInt] at *) <;> omega) | (apply_assumption; done)) ?_
        refine r_al0 (q := 34) d_MA_showStack_33 rfl ?_
        refine gt_MA_latest (q := 37) d_MA_showStack_34 rfl rfl ?_
        refine gt_FR_high (q := 40) d_MA_showStack_37 rfl (by first | assumption | omega | decide | ((try simp +decide only [b01, b10, b11, am_up, and_true, and_false, true_and, false_and, if_true, if_false, nn_eq] at *) <;> (try simp only [sw_or, sw_all, or_false, and_true, i32_lt, i32_le, i32_eq, i32_addw, i32_subw, i32_mulw, Int32.reduceToInt] at *) <;> omega) | (apply_assumption; done)) rfl ?_
        refine r_iadd (q := 41) d_MA_showStack_40 rfl ?_
        refine r_ic (v := 1) (q := 42) d_MA_showStack_41 rfl rfl ?_
        refine r_isub (q := 43) d_MA_showStack_42 rfl ?_
        refine r_il1 (q := 44) d_MA_showStack_43 rfl ?_
        refine r_isub (q := 45) d_MA_showStack_44 rfl ?_
        refine ld_137 (q := 46) d_MA_showStack_45 ?_ rfl ?_
        · (refine vp_of ?_ ?_ <;> (((try simp +decide only [b01, b10, b11, am_up, and_true, and_false, true_and, false_and, if_true, if_false, nn_eq] at *) <;> (try simp only [sw_or, sw_all, or_false, and_true, i32_lt, i32_le, i32_eq, i32_addw, i32_subw, i32_mulw, Int32.reduceToInt] at *) <;> omega)))
        refine am_go (tgt := 50) d_MA_showStack_46 rfl ?_
        refine r_ri d_MA_showStack_50 ?_
        first | (refine h1 ?_ <;> ((try simp +decide only [b01, b10, b11, am_up, and_true, and_false, true_and, false_and, if_true, if_false, nn_eq] at *) <;> (try simp only [sw_or, sw_all, or_false, and_true, i32_lt, i32_le, i32_eq, i32_addw, i32_subw, i32_mulw, Int32.reduceToInt] at *) <;> omega)) | (refine h2 ?_ <;> ((try simp +decide only [b01, b10, b11, am_up, and_true, and_false, true_and, false_and, if_true, if_false, nn_eq] at *) <;> (try simp only [sw_or, sw_all, or_false, and_true, i32_lt, i32_le, i32_eq, i32_addw, i32_subw, i32_mulw, Int32.reduceToInt] at *) <;> omega)) | (exfalso; ((try simp +decide only [b01, b10, b11, am_up, and_true, and_false, true_and, false_and, if_true, if_false, nn_eq] at *) <;> (try simp only [sw_or, sw_all, or_false, and_true, i32_lt, i32_le, i32_eq, i32_addw, i32_subw, i32_mulw, Int32.reduceToInt] at *) <;> omega))
theorem sp_FW_stack {x : Int32} {st : am_S} {f : Int32 → am_S → Prop} (c1 : (st 518 0).toNatClampNeg < 80) (c2 : (st 0 (st 518 0).toNatClampNeg).toNatClampNeg < 8) (c3 : 0 ≤ (st 2 (st 518 0).toNatClampNeg).toInt) (c4 : 0 ≤ (st 70 (st 0 (st 518 0).toNatClampNeg).toNatClampNeg).toInt) (c5 : 0 < (st 519 0).toInt → (st 2 (st 518 0).toNatClampNeg).toInt + (st 70 (st 0 (st 518 0).toNatClampNeg).toNatClampNeg).toInt + (st 3 (st 518 0).toNatClampNeg).toInt ≤ 80) (h1 : 0 < st 519 0 ∧ 0 ≤ x ∧ x < st 3 (st 518 0).toNatClampNeg → f (st 2137 (st 2 (st 518 0).toNatClampNeg + st 70 (st 0 (st 518 0).toNatClampNeg).toNatClampNeg + st 3 (st 518 0).toNatClampNeg - 1 - x).toNatClampNeg) st) (h2 : ¬ (0 < st 519 0 ∧ 0 ≤ x ∧ x < st 3 (st 518 0).toNatClampNeg) → f 0 st) : wp_FW_stack [.inr (.inl 123), .inl x] st (am_ki f) := by
  refine ⟨⟨rfl, Nat.le_of_ble_eq_true rfl⟩, ?_⟩
  refine r_al0 (q := 1) d_FW_stack_0 rfl ?_
  refine gt_FW_machine (q := 4) d_FW_stack_1 rfl rfl ?_
  refine r_il1 (q := 5) d_FW_stack_4 rfl ?_
  refine r_vi1 mo_MA_showStack d_FW_stack_5 rfl rfl rfl (q := 8) rfl ?_
  refine sp_MA_showStack (by first | assumption | omega | decide | ((try simp +decide only [b01, b10, b11, am_up, and_true, and_false, true_and, false_and, if_true, if_false, nn_eq] at *) <;> (try simp only [sw_or, sw_all, or_false, and_true, i32_lt, i32_le, i32_eq, i32_addw, i32_subw, i32_mulw, Int32.reduceToInt] at *) <;> omega) | (apply_assumption; done)) (by first | assumption | omega | decide | ((try simp +decide only [b01, b10, b11, am_up, and_true, and_false, true_and, false_and, if_true, if_false, nn_eq] at *) <;> (try simp only [sw_or, sw_all, or_false, and_true, i32_lt, i32_le, i32_eq, i32_addw, i32_subw, i32_mulw, Int32.reduceToInt] at *) <;> omega) | (apply_assumption; done)) (by first | assumption | omega | decide | ((try simp +decide only [b01, b10, b11, am_up, and_true, and_false, true_and, false_and, if_true, if_false, nn_eq] at *) <;> (try simp only [sw_or, sw_all, or_false, and_true, i32_lt, i32_le, i32_eq, i32_addw, i32_subw, i32_mulw, Int32.reduceToInt] at *) <;> omega) | (apply_assumption; done)) (by first | assumption | omega | decide | ((try simp +decide only [b01, b10, b11, am_up, and_true, and_false, true_and, false_and, if_true, if_false, nn_eq] at *) <;> (try simp only [sw_or, sw_all, or_false, and_true, i32_lt, i32_le, i32_eq, i32_addw, i32_subw, i32_mulw, Int32.reduceToInt] at *) <;> omega) | (apply_assumption; done)) (by first | assumption | omega | decide | ((try simp +decide only [b01, b10, b11, am_up, and_true, and_false, true_and, false_and, if_true, if_false, nn_eq] at *) <;> (try simp only [sw_or, sw_all, or_false, and_true, i32_lt, i32_le, i32_eq, i32_addw, i32_subw, i32_mulw, Int32.reduceToInt] at *) <;> omega) | (apply_assumption; done)) (fun e5 => ?_) (fun e5 => ?_)
  · skip
    refine r_ri d_FW_stack_8 ?_
    first | (refine h1 ?_ <;> ((try simp +decide only [b01, b10, b11, am_up, and_true, and_false, true_and, false_and, if_true, if_false, nn_eq] at *) <;> (try simp only [sw_or, sw_all, or_false, and_true, i32_lt, i32_le, i32_eq, i32_addw, i32_subw, i32_mulw, Int32.reduceToInt] at *) <;> omega)) | (refine h2 ?_ <;> ((try simp +decide only [b01, b10, b11, am_up, and_true, and_false, true_and, false_and, if_true, if_false, nn_eq] at *) <;> (try simp only [sw_or, sw_all, or_false, and_true, i32_lt, i32_le, i32_eq, i32_addw, i32_subw, i32_mulw, Int32.reduceToInt] at *) <;> omega)) | (exfalso; ((try simp +decide only [b01, b10, b11, am_up, and_true, and_false, true_and, false_and, if_true, if_false, nn_eq] at *) <;> (try simp only [sw_or, sw_all, or_false, and_true, i32_lt, i32_le, i32_eq, i32_addw, i32_subw, i32_mulw, Int32.reduceToInt] at *) <;> omega))
  · skip
    refine r_ri d_FW_stack_8 ?_
    first | (refine h1 ?_ <;> ((try simp +decide only [b01, b10, b11, am_up, and_true, and_false, true_and, false_and, if_true, if_false, nn_eq] at *) <;> (try simp only [sw_or, sw_all, or_false, and_true, i32_lt, i32_le, i32_eq, i32_addw, i32_subw, i32_mulw, Int32.reduceToInt] at *) <;> omega)) | (refine h2 ?_ <;> ((try simp +decide only [b01, b10, b11, am_up, and_true, and_false, true_and, false_and, if_true, if_false, nn_eq] at *) <;> (try simp only [sw_or, sw_all, or_false, and_true, i32_lt, i32_le, i32_eq, i32_addw, i32_subw, i32_mulw, Int32.reduceToInt] at *) <;> omega)) | (exfalso; ((try simp +decide only [b01, b10, b11, am_up, and_true, and_false, true_and, false_and, if_true, if_false, nn_eq] at *) <;> (try simp only [sw_or, sw_all, or_false, and_true, i32_lt, i32_le, i32_eq, i32_addw, i32_subw, i32_mulw, Int32.reduceToInt] at *) <;> omega))
def ms_F (st : am_S) : Nat := (st 610 0 - 1).toNatClampNeg
def ms_L (st : am_S) : Int32 := st 2146 (st 2163 (ms_F st)).toNatClampNeg
theorem sp_MO_frame {x w : Int32} {st : am_S} {f : Int32 → am_S → Prop} (c1 : 0 ≤ (st 610 0).toInt) (c2 : (st 610 0).toInt ≤ 80) (h1 : ¬ (st 603 0 = 1 ∧ 0 ≤ x ∧ x < st 610 0) ∨ ¬ (0 ≤ w ∧ w ≤ 2) → f (-1) (am_up st 576 0 0)) (h2 : (st 603 0 = 1 ∧ 0 ≤ x ∧ x < st 610 0) ∧ w = 0 → f (st 2163 (st 610 0 - 1 - x).toNatClampNeg) (am_up st 576 0 0)) (h3 : (st 603 0 = 1 ∧ 0 ≤ x ∧ x < st 610 0) ∧ w = 1 → f (st 2164 (st 610 0 - 1 - x).toNatClampNeg) (am_up st 576 0 0)) (h4 : (st 603 0 = 1 ∧ 0 ≤ x ∧ x < st 610 0) ∧ w = 2 → f (st 2165 (st 610 0 - 1 - x).toNatClampNeg) (am_up st 576 0 0)) : wp_MO_frame [.inr (.inl 128), .inl x, .inl w] st (am_ki f) := by
  refine ⟨⟨rfl, Nat.le_of_ble_eq_true rfl⟩, ?_⟩
  refine r_al0 (q := 1) d_MO_frame_0 rfl ?_
  refine r_ic (v := 0) (q := 2) d_MO_frame_1 rfl rfl ?_
  refine pt_MO_thrown (q := 5) d_MO_frame_2 rfl rfl ?_
  refine r_al0 (q := 6) d_MO_frame_5 rfl ?_
  refine gt_MO_state (q := 9) d_MO_frame_6 rfl rfl ?_
  refine r_ic (v := 1) (q := 10) d_MO_frame_9 rfl rfl ?_
  refine r_cne (tgt := 34) (q := 13) d_MO_frame_10 rfl rfl (fun e10 => ?_) (fun e10 => ?_)
  · skip
    refine r_ic (v := -1) (q := 35) d_MO_frame_34 rfl rfl ?_
    refine r_ri d_MO_frame_35 ?_
    first | (refine h1 ?_ <;> ((try simp +decide only [b01, b10, b11, am_up, and_true, and_false, true_and, false_and, if_true, if_false, nn_eq] at *) <;> (try simp only [sw_or, sw_all, or_false, and_true, i32_lt, i32_le, i32_eq, i32_addw, i32_subw, i32_mulw, Int32.reduceToInt] at *) <;> omega)) | (refine h2 ?_ <;> ((try simp +decide only [b01, b10, b11, am_up, and_true, and_false, true_and, false_and, if_true, if_false, nn_eq] at *) <;> (try simp only [sw_or, sw_all, or_false, and_true, i32_lt, i32_le, i32_eq, i32_addw, i32_subw, i32_mulw, Int32.reduceToInt] at *) <;> omega)) | (refine h3 ?_ <;> ((try simp +decide only [b01, b10, b11, am_up, and_true, and_false, true_and, false_and, if_true, if_false, nn_eq] at *) <;> (try simp only [sw_or, sw_all, or_false, and_true, i32_lt, i32_le, i32_eq, i32_addw, i32_subw, i32_mulw, Int32.reduceToInt] at *) <;> omega)) | (refine h4 ?_ <;> ((try simp +decide only [b01, b10, b11, am_up, and_true, and_false, true_and, false_and, if_true, if_false, nn_eq] at *) <;> (try simp only [sw_or, sw_all, or_false, and_true, i32_lt, i32_le, i32_eq, i32_addw, i32_subw, i32_mulw, Int32.reduceToInt] at *) <;> omega)) | (exfalso; ((try simp +decide only [b01, b10, b11, am_up, and_true, and_false, true_and, false_and, if_true, if_false, nn_eq] at *) <;> (try simp only [sw_or, sw_all, or_false, and_true, i32_lt, i32_le, i32_eq, i32_addw, i32_subw, i32_mulw, Int32.reduceToInt] at *) <;> omega))
  · skip
    refine r_il1 (q := 14) d_MO_frame_13 rfl ?_
    refine r_zlt (tgt := 34) (q := 17) d_MO_frame_14 rfl rfl (fun e14 => ?_) (fun e14 => ?_)
    · skip
      refine r_ic (v := -1) (q := 35) d_MO_frame_34 rfl rfl ?_
      refine r_ri d_MO_frame_35 ?_
      first | (refine h1 ?_ <;> ((try simp +decide only [b01, b10, b11, am_up, and_true, and_false, true_and, false_and, if_true, if_false, nn_eq] at *) <;> (try simp only [sw_or, sw_all, or_false, and_true, i32_lt, i32_le, i32_eq, i32_addw, i32_subw, i32_mulw, Int32.reduceToInt] at *) <;> omega)) | (refine h2 ?_ <;> ((try simp +decide only [b01, b10, b11, am_up, and_true, and_false, true_and, false_and, if_true, if_false, nn_eq] at *) <;> (try simp only [sw_or, sw_all, or_false, and_true, i32_lt, i32_le, i32_eq, i32_addw, i32_subw, i32_mulw, Int32.reduceToInt] at *) <;> omega)) | (refine h3 ?_ <;> ((try simp +decide only [b01, b10, b11, am_up, and_true, and_false, true_and, false_and, if_true, if_false, nn_eq] at *) <;> (try simp only [sw_or, sw_all, or_false, and_true, i32_lt, i32_le, i32_eq, i32_addw, i32_subw, i32_mulw, Int32.reduceToInt] at *) <;> omega)) | (refine h4 ?_ <;> ((try simp +decide only [b01, b10, b11, am_up, and_true, and_false, true_and, false_and, if_true, if_false, nn_eq] at *) <;> (try simp only [sw_or, sw_all, or_false, and_true, i32_lt, i32_le, i32_eq, i32_addw, i32_subw, i32_mulw, Int32.reduceToInt] at *) <;> omega)) | (exfalso; ((try simp +decide only [b01, b10, b11, am_up, and_true, and_false, true_and, false_and, if_true, if_false, nn_eq] at *) <;> (try simp only [sw_or, sw_all, or_false, and_true, i32_lt, i32_le, i32_eq, i32_addw, i32_subw, i32_mulw, Int32.reduceToInt] at *) <;> omega))
    · skip
      refine r_il1 (q := 18) d_MO_frame_17 rfl ?_
      refine r_al0 (q := 19) d_MO_frame_18 rfl ?_
      refine gt_MO_frames (q := 22) d_MO_frame_19 rfl rfl ?_
      refine r_cge (tgt := 34) (q := 25) d_MO_frame_22 rfl rfl (fun e22 => ?_) (fun e22 => ?_)
      · skip
        refine r_ic (v := -1) (q := 35) d_MO_frame_34 rfl rfl ?_
        refine r_ri d_MO_frame_35 ?_
        first | (refine h1 ?_ <;> ((try simp +decide only [b01, b10, b11, am_up, and_true, and_false, true_and, false_and, if_true, if_false, nn_eq] at *) <;> (try simp only [sw_or, sw_all, or_false, and_true, i32_lt, i32_le, i32_eq, i32_addw, i32_subw, i32_mulw, Int32.reduceToInt] at *) <;> omega)) | (refine h2 ?_ <;> ((try simp +decide only [b01, b10, b11, am_up, and_true, and_false, true_and, false_and, if_true, if_false, nn_eq] at *) <;> (try simp only [sw_or, sw_all, or_false, and_true, i32_lt, i32_le, i32_eq, i32_addw, i32_subw, i32_mulw, Int32.reduceToInt] at *) <;> omega)) | (refine h3 ?_ <;> ((try simp +decide only [b01, b10, b11, am_up, and_true, and_false, true_and, false_and, if_true, if_false, nn_eq] at *) <;> (try simp only [sw_or, sw_all, or_false, and_true, i32_lt, i32_le, i32_eq, i32_addw, i32_subw, i32_mulw, Int32.reduceToInt] at *) <;> omega)) | (refine h4 ?_ <;> ((try simp +decide only [b01, b10, b11, am_up, and_true, and_false, true_and, false_and, if_true, if_false, nn_eq] at *) <;> (try simp only [sw_or, sw_all, or_false, and_true, i32_lt, i32_le, i32_eq, i32_addw, i32_subw, i32_mulw, Int32.reduceToInt] at *) <;> omega)) | (exfalso; ((try simp +decide only [b01, b10, b11, am_up, and_true, and_false, true_and, false_and, if_true, if_false, nn_eq] at *) <;> (try simp only [sw_or, sw_all, or_false, and_true, i32_lt, i32_le, i32_eq, i32_addw, i32_subw, i32_mulw, Int32.reduceToInt] at *) <;> omega))
      · skip
        refine r_il2 (q := 26) d_MO_frame_25 rfl ?_
        refine r_zlt (tgt := 34) (q := 29) d_MO_frame_26 rfl rfl (fun e26 => ?_) (fun e26 => ?_)
        · skip
          refine r_ic (v := -1) (q := 35) d_MO_frame_34 rfl rfl ?_
          refine r_ri d_MO_frame_35 ?_
          first | (refine h1 ?_ <;> ((try simp +decide only [b01, b10, b11, am_up, and_true, and_false, true_and, false_and, if_true, if_false, nn_eq] at *) <;> (try simp only [sw_or, sw_all, or_false, and_true, i32_lt, i32_le, i32_eq, i32_addw, i32_subw, i32_mulw, Int32.reduceToInt] at *) <;> omega)) | (refine h2 ?_ <;> ((try simp +decide only [b01, b10, b11, am_up, and_true, and_false, true_and, false_and, if_true, if_false, nn_eq] at *) <;> (try simp only [sw_or, sw_all, or_false, and_true, i32_lt, i32_le, i32_eq, i32_addw, i32_subw, i32_mulw, Int32.reduceToInt] at *) <;> omega)) | (refine h3 ?_ <;> ((try simp +decide only [b01, b10, b11, am_up, and_true, and_false, true_and, false_and, if_true, if_false, nn_eq] at *) <;> (try simp only [sw_or, sw_all, or_false, and_true, i32_lt, i32_le, i32_eq, i32_addw, i32_subw, i32_mulw, Int32.reduceToInt] at *) <;> omega)) | (refine h4 ?_ <;> ((try simp +decide only [b01, b10, b11, am_up, and_true, and_false, true_and, false_and, if_true, if_false, nn_eq] at *) <;> (try simp only [sw_or, sw_all, or_false, and_true, i32_lt, i32_le, i32_eq, i32_addw, i32_subw, i32_mulw, Int32.reduceToInt] at *) <;> omega)) | (exfalso; ((try simp +decide only [b01, b10, b11, am_up, and_true, and_false, true_and, false_and, if_true, if_false, nn_eq] at *) <;> (try simp only [sw_or, sw_all, or_false, and_true, i32_lt, i32_le, i32_eq, i32_addw, i32_subw, i32_mulw, Int32.reduceToInt] at *) <;> omega))
        · skip
          refine r_il2 (q := 30) d_MO_frame_29 rfl ?_
          refine r_ic (v := 2) (q := 31) d_MO_frame_30 rfl rfl ?_
          refine r_cle (tgt := 36) (q := 34) d_MO_frame_31 rfl rfl (fun e31 => ?_) (fun e31 => ?_)
          · skip
            refine r_al0 (q := 37) d_MO_frame_36 rfl ?_
            refine gt_MO_frames (q := 40) d_MO_frame_37 rfl rfl ?_
            refine r_ic (v := 1) (q := 41) d_MO_frame_40 rfl rfl ?_
            refine r_isub (q := 42) d_MO_frame_41 rfl ?_
            refine r_il1 (q := 43) d_MO_frame_42 rfl ?_
            refine r_isub (q := 44) d_MO_frame_43 rfl ?_
            refine r_is3 (q := 45) d_MO_frame_44 rfl ?_
            refine r_il2 (q := 46) d_MO_frame_45 rfl ?_
            refine r_zne (tgt := 58) (q := 49) d_MO_frame_46 rfl rfl (fun e46 => ?_) (fun e46 => ?_)
            · skip
              refine r_il2 (q := 59) d_MO_frame_58 rfl ?_
              refine r_ic (v := 1) (q := 60) d_MO_frame_59 rfl rfl ?_
              refine r_cne (tgt := 72) (q := 63) d_MO_frame_60 rfl rfl (fun e60 => ?_) (fun e60 => ?_)
              · skip
                refine r_al0 (q := 73) d_MO_frame_72 rfl ?_
                refine gt_MO_frameTop (q := 76) d_MO_frame_73 rfl rfl ?_
                refine r_il3 (q := 77) d_MO_frame_76 rfl ?_
                refine ld_165 (q := 78) d_MO_frame_77 ?_ rfl ?_
                · (refine vp_of ?_ ?_ <;> (((try simp +decide only [b01, b10, b11, am_up, and_true, and_false, true_and, false_and, if_true, if_false, nn_eq] at *) <;> (try simp only [sw_or, sw_all, or_false, and_true, i32_lt, i32_le, i32_eq, i32_addw, i32_subw, i32_mulw, Int32.reduceToInt] at *) <;> omega)))
                refine r_ri d_MO_frame_78 ?_
                first | (refine h1 ?_ <;> ((try simp +decide only [b01, b10, b11, am_up, and_true, and_false, true_and, false_and, if_true, if_false, nn_eq] at *) <;> (try simp only [sw_or, sw_all, or_false, and_true, i32_lt, i32_le, i32_eq, i32_addw, i32_subw, i32_mulw, Int32.reduceToInt] at *) <;> omega)) | (refine h2 ?_ <;> ((try simp +decide only [b01, b10, b11, am_up, and_true, and_false, true_and, false_and, if_true, if_false, nn_eq] at *) <;> (try simp only [sw_or, sw_all, or_false, and_true, i32_lt, i32_le, i32_eq, i32_addw, i32_subw, i32_mulw, Int32.reduceToInt] at *) <;> omega)) | (refine h3 ?_ <;> ((try simp +decide only [b01, b10, b11, am_up, and_true, and_false, true_and, false_and, if_true, if_false, nn_eq] at *) <;> (try simp only [sw_or, sw_all, or_false, and_true, i32_lt, i32_le, i32_eq, i32_addw, i32_subw, i32_mulw, Int32.reduceToInt] at *) <;> omega)) | (refine h4 ?_ <;> ((try simp +decide only [b01, b10, b11, am_up, and_true, and_false, true_and, false_and, if_true, if_false, nn_eq] at *) <;> (try simp only [sw_or, sw_all, or_false, and_true, i32_lt, i32_le, i32_eq, i32_addw, i32_subw, i32_mulw, Int32.reduceToInt] at *) <;> omega)) | (exfalso; ((try simp +decide only [b01, b10, b11, am_up, and_true, and_false, true_and, false_and, if_true, if_false, nn_eq] at *) <;> (try simp only [sw_or, sw_all, or_false, and_true, i32_lt, i32_le, i32_eq, i32_addw, i32_subw, i32_mulw, Int32.reduceToInt] at *) <;> omega))
              · skip
                refine r_al0 (q := 64) d_MO_frame_63 rfl ?_
                refine gt_MO_framePlace (q := 67) d_MO_frame_64 rfl rfl ?_
                refine r_il3 (q := 68) d_MO_frame_67 rfl ?_
                refine ld_164 (q := 69) d_MO_frame_68 ?_ rfl ?_
                · (refine vp_of ?_ ?_ <;> (((try simp +decide only [b01, b10, b11, am_up, and_true, and_false, true_and, false_and, if_true, if_false, nn_eq] at *) <;> (try simp only [sw_or, sw_all, or_false, and_true, i32_lt, i32_le, i32_eq, i32_addw, i32_subw, i32_mulw, Int32.reduceToInt] at *) <;> omega)))
                refine am_go (tgt := 78) d_MO_frame_69 rfl ?_
                refine r_ri d_MO_frame_78 ?_
                first | (refine h1 ?_ <;> ((try simp +decide only [b01, b10, b11, am_up, and_true, and_false, true_and, false_and, if_true, if_false, nn_eq] at *) <;> (try simp only [sw_or, sw_all, or_false, and_true, i32_lt, i32_le, i32_eq, i32_addw, i32_subw, i32_mulw, Int32.reduceToInt] at *) <;> omega)) | (refine h2 ?_ <;> ((try simp +decide only [b01, b10, b11, am_up, and_true, and_false, true_and, false_and, if_true, if_false, nn_eq] at *) <;> (try simp only [sw_or, sw_all, or_false, and_true, i32_lt, i32_le, i32_eq, i32_addw, i32_subw, i32_mulw, Int32.reduceToInt] at *) <;> omega)) | (refine h3 ?_ <;> ((try simp +decide only [b01, b10, b11, am_up, and_true, and_false, true_and, false_and, if_true, if_false, nn_eq] at *) <;> (try simp only [sw_or, sw_all, or_false, and_true, i32_lt, i32_le, i32_eq, i32_addw, i32_subw, i32_mulw, Int32.reduceToInt] at *) <;> omega)) | (refine h4 ?_ <;> ((try simp +decide only [b01, b10, b11, am_up, and_true, and_false, true_and, false_and, if_true, if_false, nn_eq] at *) <;> (try simp only [sw_or, sw_all, or_false, and_true, i32_lt, i32_le, i32_eq, i32_addw, i32_subw, i32_mulw, Int32.reduceToInt] at *) <;> omega)) | (exfalso; ((try simp +decide only [b01, b10, b11, am_up, and_true, and_false, true_and, false_and, if_true, if_false, nn_eq] at *) <;> (try simp only [sw_or, sw_all, or_false, and_true, i32_lt, i32_le, i32_eq, i32_addw, i32_subw, i32_mulw, Int32.reduceToInt] at *) <;> omega))
            · skip
              refine r_al0 (q := 50) d_MO_frame_49 rfl ?_
              refine gt_MO_frameMethod (q := 53) d_MO_frame_50 rfl rfl ?_
              refine r_il3 (q := 54) d_MO_frame_53 rfl ?_
              refine ld_163 (q := 55) d_MO_frame_54 ?_ rfl ?_
              · (refine vp_of ?_ ?_ <;> (((try simp +decide only [b01, b10, b11, am_up, and_true, and_false, true_and, false_and, if_true, if_false, nn_eq] at *) <;> (try simp only [sw_or, sw_all, or_false, and_true, i32_lt, i32_le, i32_eq, i32_addw, i32_subw, i32_mulw, Int32.reduceToInt] at *) <;> omega)))
              refine am_go (tgt := 78) d_MO_frame_55 rfl ?_
              refine r_ri d_MO_frame_78 ?_
              first | (refine h1 ?_ <;> ((try simp +decide only [b01, b10, b11, am_up, and_true, and_false, true_and, false_and, if_true, if_false, nn_eq] at *) <;> (try simp only [sw_or, sw_all, or_false, and_true, i32_lt, i32_le, i32_eq, i32_addw, i32_subw, i32_mulw, Int32.reduceToInt] at *) <;> omega)) | (refine h2 ?_ <;> ((try simp +decide only [b01, b10, b11, am_up, and_true, and_false, true_and, false_and, if_true, if_false, nn_eq] at *) <;> (try simp only [sw_or, sw_all, or_false, and_true, i32_lt, i32_le, i32_eq, i32_addw, i32_subw, i32_mulw, Int32.reduceToInt] at *) <;> omega)) | (refine h3 ?_ <;> ((try simp +decide only [b01, b10, b11, am_up, and_true, and_false, true_and, false_and, if_true, if_false, nn_eq] at *) <;> (try simp only [sw_or, sw_all, or_false, and_true, i32_lt, i32_le, i32_eq, i32_addw, i32_subw, i32_mulw, Int32.reduceToInt] at *) <;> omega)) | (refine h4 ?_ <;> ((try simp +decide only [b01, b10, b11, am_up, and_true, and_false, true_and, false_and, if_true, if_false, nn_eq] at *) <;> (try simp only [sw_or, sw_all, or_false, and_true, i32_lt, i32_le, i32_eq, i32_addw, i32_subw, i32_mulw, Int32.reduceToInt] at *) <;> omega)) | (exfalso; ((try simp +decide only [b01, b10, b11, am_up, and_true, and_false, true_and, false_and, if_true, if_false, nn_eq] at *) <;> (try simp only [sw_or, sw_all, or_false, and_true, i32_lt, i32_le, i32_eq, i32_addw, i32_subw, i32_mulw, Int32.reduceToInt] at *) <;> omega))
          · skip
            refine r_ic (v := -1) (q := 35) d_MO_frame_34 rfl rfl ?_
            refine r_ri d_MO_frame_35 ?_
            first | (refine h1 ?_ <;> ((try simp +decide only [b01, b10, b11, am_up, and_true, and_false, true_and, false_and, if_true, if_false, nn_eq] at *) <;> (try simp only [sw_or, sw_all, or_false, and_true, i32_lt, i32_le, i32_eq, i32_addw, i32_subw, i32_mulw, Int32.reduceToInt] at *) <;> omega)) | (refine h2 ?_ <;> ((try simp +decide only [b01, b10, b11, am_up, and_true, and_false, true_and, false_and, if_true, if_false, nn_eq] at *) <;> (try simp only [sw_or, sw_all, or_false, and_true, i32_lt, i32_le, i32_eq, i32_addw, i32_subw, i32_mulw, Int32.reduceToInt] at *) <;> omega)) | (refine h3 ?_ <;> ((try simp +decide only [b01, b10, b11, am_up, and_true, and_false, true_and, false_and, if_true, if_false, nn_eq] at *) <;> (try simp only [sw_or, sw_all, or_false, and_true, i32_lt, i32_le, i32_eq, i32_addw, i32_subw, i32_mulw, Int32.reduceToInt] at *) <;> omega)) | (refine h4 ?_ <;> ((try simp +decide only [b01, b10, b11, am_up, and_true, and_false, true_and, false_and, if_true, if_false, nn_eq] at *) <;> (try simp only [sw_or, sw_all, or_false, and_true, i32_lt, i32_le, i32_eq, i32_addw, i32_subw, i32_mulw, Int32.reduceToInt] at *) <;> omega)) | (exfalso; ((try simp +decide only [b01, b10, b11, am_up, and_true, and_false, true_and, false_and, if_true, if_false, nn_eq] at *) <;> (try simp only [sw_or, sw_all, or_false, and_true, i32_lt, i32_le, i32_eq, i32_addw, i32_subw, i32_mulw, Int32.reduceToInt] at *) <;> omega))
theorem sp_MO_stackAt {st : am_S} {f : Int32 → am_S → Prop} (c1 : 1 ≤ (st 610 0).toInt) (c2 : (st 610 0).toInt ≤ 80) (c3 : 0 ≤ (st 2163 (st 610 0 - 1).toNatClampNeg).toInt) (c4 : (st 2163 (st 610 0 - 1).toNatClampNeg).toInt < 8) (h : f (st 2166 (st 610 0 - 1).toNatClampNeg + st 2146 (st 2163 (st 610 0 - 1).toNatClampNeg).toNatClampNeg + st 2165 (st 610 0 - 1).toNatClampNeg) st) : wp_MO_stackAt [.inr (.inl 128)] st (am_ki f) := by
  refine ⟨⟨rfl, Nat.le_of_ble_eq_true rfl⟩, ?_⟩
  refine r_al0 (q := 1) d_MO_stackAt_0 rfl ?_
  refine r_vi0 mo_MO_latest d_MO_stackAt_1 rfl rfl rfl (q := 4) rfl ?_
  refine sp_MO_latest ?_
  refine r_is1 (q := 5) d_MO_stackAt_4 rfl ?_
  refine r_al0 (q := 6) d_MO_stackAt_5 rfl ?_
  refine gt_MO_frameBase (q := 9) d_MO_stackAt_6 rfl rfl ?_
  refine r_il1 (q := 10) d_MO_stackAt_9 rfl ?_
  refine ld_166 (q := 11) d_MO_stackAt_10 ?_ rfl ?_
  · (refine vp_of ?_ ?_ <;> (((try simp +decide only [b01, b10, b11, am_up, and_true, and_false, true_and, false_and, if_true, if_false, nn_eq] at *) <;> (try simp only [sw_or, sw_all, or_false, and_true, i32_lt, i32_le, i32_eq, i32_addw, i32_subw, i32_mulw, Int32.reduceToInt] at *) <;> omega)))
  refine r_al0 (q := 12) d_MO_stackAt_11 rfl ?_
  refine gt_MO_locals (q := 15) d_MO_stackAt_12 rfl rfl ?_
  refine r_al0 (q := 16) d_MO_stackAt_15 rfl ?_
  refine gt_MO_frameMethod (q := 19) d_MO_stackAt_16 rfl rfl ?_
  refine r_il1 (q := 20) d_MO_stackAt_19 rfl ?_
  refine ld_163 (q := 21) d_MO_stackAt_20 ?_ rfl ?_
  · (refine vp_of ?_ ?_ <;> (((try simp +decide only [b01, b10, b11, am_up, and_true, and_false, true_and, false_and, if_true, if_false, nn_eq] at *) <;> (try simp only [sw_or, sw_all, or_false, and_true, i32_lt, i32_le, i32_eq, i32_addw, i32_subw, i32_mulw, Int32.reduceToInt] at *) <;> omega)))
  refine ld_146 (q := 22) d_MO_stackAt_21 ?_ rfl ?_
  · (refine vp_of ?_ ?_ <;> (((try simp +decide only [b01, b10, b11, am_up, and_true, and_false, true_and, false_and, if_true, if_false, nn_eq] at *) <;> (try simp only [sw_or, sw_all, or_false, and_true, i32_lt, i32_le, i32_eq, i32_addw, i32_subw, i32_mulw, Int32.reduceToInt] at *) <;> omega)))
  refine r_iadd (q := 23) d_MO_stackAt_22 rfl ?_
  refine r_al0 (q := 24) d_MO_stackAt_23 rfl ?_
  refine gt_MO_frameTop (q := 27) d_MO_stackAt_24 rfl rfl ?_
  refine r_il1 (q := 28) d_MO_stackAt_27 rfl ?_
  refine ld_165 (q := 29) d_MO_stackAt_28 ?_ rfl ?_
  · (refine vp_of ?_ ?_ <;> (((try simp +decide only [b01, b10, b11, am_up, and_true, and_false, true_and, false_and, if_true, if_false, nn_eq] at *) <;> (try simp only [sw_or, sw_all, or_false, and_true, i32_lt, i32_le, i32_eq, i32_addw, i32_subw, i32_mulw, Int32.reduceToInt] at *) <;> omega)))
  refine r_iadd (q := 30) d_MO_stackAt_29 rfl ?_
  refine r_ri d_MO_stackAt_30 ?_
  exact h
theorem sp_MO_stack {x : Int32} {st : am_S} {f : Int32 → am_S → Prop} (c1 : st 603 0 = 1 → 1 ≤ (st 610 0).toInt ∧ (st 610 0).toInt ≤ 80) (c2 : st 603 0 = 1 → 0 ≤ (st 2163 (st 610 0 - 1).toNatClampNeg).toInt ∧ (st 2163 (st 610 0 - 1).toNatClampNeg).toInt < 8) (c3 : st 603 0 = 1 → 0 ≤ (st 2166 (st 610 0 - 1).toNatClampNeg).toInt ∧ 0 ≤ (st 2146 (st 2163 (st 610 0 - 1).toNatClampNeg).toNatClampNeg).toInt ∧ (st 2166 (st 610 0 - 1).toNatClampNeg).toInt + (st 2146 (st 2163 (st 610 0 - 1).toNatClampNeg).toNatClampNeg).toInt + (st 2165 (st 610 0 - 1).toNatClampNeg).toInt ≤ 80) (h1 : st 603 0 = 1 ∧ 0 ≤ x ∧ x < st 2165 (st 610 0 - 1).toNatClampNeg → f (st 2162 (st 2166 (st 610 0 - 1).toNatClampNeg + st 2146 (st 2163 (st 610 0 - 1).toNatClampNeg).toNatClampNeg + st 2165 (st 610 0 - 1).toNatClampNeg - 1 - x).toNatClampNeg) (am_up st 576 0 0)) (h2 : ¬ (st 603 0 = 1 ∧ 0 ≤ x ∧ x < st 2165 (st 610 0 - 1).toNatClampNeg) → f 0 (am_up st 576 0 0)) : wp_MO_stack [.inr (.inl 128), .inl x] st (am_ki f) := by
  refine ⟨⟨rfl, Nat.le_of_ble_eq_true rfl⟩, ?_⟩
  refine r_al0 (q := 1) d_MO_stack_0 rfl ?_
  refine r_ic (v := 0) (q := 2) d_MO_stack_1 rfl rfl ?_
  refine pt_MO_thrown (q := 5) d_MO_stack_2 rfl rfl ?_
  refine r_al0 (q := 6) d_MO_stack_5 rfl ?_
  refine gt_MO_state (q := 9) d_MO_stack_6 rfl rfl ?_
  refine r_ic (v := 1) (q := 10) d_MO_stack_9 rfl rfl ?_
  refine r_cne (tgt := 30) (q := 13) d_MO_stack_10 rfl rfl (fun e10 => ?_) (fun e10 => ?_)
  · skip
    refine r_ic (v := 0) (q := 31) d_MO_stack_30 rfl rfl ?_
    refine r_ri d_MO_stack_31 ?_
    first | (refine h1 ?_ <;> ((try simp +decide only [b01, b10, b11, am_up, and_true, and_false, true_and, false_and, if_true, if_false, nn_eq] at *) <;> (try simp only [sw_or, sw_all, or_false, and_true, i32_lt, i32_le, i32_eq, i32_addw, i32_subw, i32_mulw, Int32.reduceToInt] at *) <;> omega)) | (refine h2 ?_ <;> ((try simp +decide only [b01, b10, b11, am_up, and_true, and_false, true_and, false_and, if_true, if_false, nn_eq] at *) <;> (try simp only [sw_or, sw_all, or_false, and_true, i32_lt, i32_le, i32_eq, i32_addw, i32_subw, i32_mulw, Int32.reduceToInt] at *) <;> omega)) | (exfalso; ((try simp +decide only [b01, b10, b11, am_up, and_true, and_false, true_and, false_and, if_true, if_false, nn_eq] at *) <;> (try simp only [sw_or, sw_all, or_false, and_true, i32_lt, i32_le, i32_eq, i32_addw, i32_subw, i32_mulw, Int32.reduceToInt] at *) <;> omega))
  · skip
    refine r_il1 (q := 14) d_MO_stack_13 rfl ?_
    refine r_zlt (tgt := 30) (q := 17) d_MO_stack_14 rfl rfl (fun e14 => ?_) (fun e14 => ?_)
    · skip
      refine r_ic (v := 0) (q := 31) d_MO_stack_30 rfl rfl ?_
      refine r_ri d_MO_stack_31 ?_
      first | (refine h1 ?_ <;> ((try simp +decide only [b01, b10, b11, am_up, and_true, and_false, true_and, false_and, if_true, if_false, nn_eq] at *) <;> (try simp only [sw_or, sw_all, or_false, and_true, i32_lt, i32_le, i32_eq, i32_addw, i32_subw, i32_mulw, Int32.reduceToInt] at *) <;> omega)) | (refine h2 ?_ <;> ((try simp +decide only [b01, b10, b11, am_up, and_true, and_false, true_and, false_and, if_true, if_false, nn_eq] at *) <;> (try simp only [sw_or, sw_all, or_false, and_true, i32_lt, i32_le, i32_eq, i32_addw, i32_subw, i32_mulw, Int32.reduceToInt] at *) <;> omega)) | (exfalso; ((try simp +decide only [b01, b10, b11, am_up, and_true, and_false, true_and, false_and, if_true, if_false, nn_eq] at *) <;> (try simp only [sw_or, sw_all, or_false, and_true, i32_lt, i32_le, i32_eq, i32_addw, i32_subw, i32_mulw, Int32.reduceToInt] at *) <;> omega))
    · skip
      refine r_il1 (q := 18) d_MO_stack_17 rfl ?_
      refine r_al0 (q := 19) d_MO_stack_18 rfl ?_
      refine gt_MO_frameTop (q := 22) d_MO_stack_19 rfl rfl ?_
      refine r_al0 (q := 23) d_MO_stack_22 rfl ?_
      refine r_vi0 mo_MO_latest d_MO_stack_23 rfl rfl rfl (q := 26) rfl ?_
      refine sp_MO_latest ?_
      refine ld_165 (q := 27) d_MO_stack_26 ?_ rfl ?_
      · (refine vp_of ?_ ?_ <;> (((try simp +decide only [b01, b10, b11, am_up, and_true, and_false, true_and, false_and, if_true, if_false, nn_eq] at *) <;> (try simp only [sw_or, sw_all, or_false, and_true, i32_lt, i32_le, i32_eq, i32_addw, i32_subw, i32_mulw, Int32.reduceToInt] at *) <;> omega)))
      refine r_clt (tgt := 32) (q := 30) d_MO_stack_27 rfl rfl (fun e27 => ?_) (fun e27 => ?_)
      · skip
        refine r_al0 (q := 33) d_MO_stack_32 rfl ?_
        refine gt_MO_cell (q := 36) d_MO_stack_33 rfl rfl ?_
        refine r_al0 (q := 37) d_MO_stack_36 rfl ?_
        refine r_vi0 mo_MO_stackAt d_MO_stack_37 rfl rfl rfl (q := 40) rfl ?_
        refine sp_MO_stackAt (by first | assumption | omega | decide | ((try simp +decide only [b01, b10, b11, am_up, and_true, and_false, true_and, false_and, if_true, if_false, nn_eq] at *) <;> (try simp only [sw_or, sw_all, or_false, and_true, i32_lt, i32_le, i32_eq, i32_addw, i32_subw, i32_mulw, Int32.reduceToInt] at *) <;> omega) | (apply_assumption; done)) (by first | assumption | omega | decide | ((try simp +decide only [b01, b10, b11, am_up, and_true, and_false, true_and, false_and, if_true, if_false, nn_eq] at *) <;> (try simp only [sw_or, sw_all, or_false, and_true, i32_lt, i32_le, i32_eq, i32_addw, i32_subw, i32_mulw, Int32.reduceToInt] at *) <;> omega) | (apply_assumption; done)) (by first | assumption | omega | decide | ((try simp +decide only [b01, b10, b11, am_up, and_true, and_false, true_and, false_and, if_true, if_false, nn_eq] at *) <;> (try simp only [sw_or, sw_all, or_false, and_true, i32_lt, i32_le, i32_eq, i32_addw, i32_subw, i32_mulw, Int32.reduceToInt] at *) <;> omega) | (apply_assumption; done)) (by first | assumption | omega | decide | ((try simp +decide only [b01, b10, b11, am_up, and_true, and_false, true_and, false_and, if_true, if_false, nn_eq] at *) <;> (try simp only [sw_or, sw_all, or_false, and_true, i32_lt, i32_le, i32_eq, i32_addw, i32_subw, i32_mulw, Int32.reduceToInt] at *) <;> omega) | (apply_assumption; done)) ?_
        refine r_ic (v := 1) (q := 41) d_MO_stack_40 rfl rfl ?_
        refine r_isub (q := 42) d_MO_stack_41 rfl ?_
        refine r_il1 (q := 43) d_MO_stack_42 rfl ?_
        refine r_isub (q := 44) d_MO_stack_43 rfl ?_
        refine ld_162 (q := 45) d_MO_stack_44 ?_ rfl ?_
        · (refine vp_of ?_ ?_ <;> (((try simp +decide only [b01, b10, b11, am_up, and_true, and_false, true_and, false_and, if_true, if_false, nn_eq] at *) <;> (try simp only [sw_or, sw_all, or_false, and_true, i32_lt, i32_le, i32_eq, i32_addw, i32_subw, i32_mulw, Int32.reduceToInt] at *) <;> omega)))
        refine r_ri d_MO_stack_45 ?_
        first | (refine h1 ?_ <;> ((try simp +decide only [b01, b10, b11, am_up, and_true, and_false, true_and, false_and, if_true, if_false, nn_eq] at *) <;> (try simp only [sw_or, sw_all, or_false, and_true, i32_lt, i32_le, i32_eq, i32_addw, i32_subw, i32_mulw, Int32.reduceToInt] at *) <;> omega)) | (refine h2 ?_ <;> ((try simp +decide only [b01, b10, b11, am_up, and_true, and_false, true_and, false_and, if_true, if_false, nn_eq] at *) <;> (try simp only [sw_or, sw_all, or_false, and_true, i32_lt, i32_le, i32_eq, i32_addw, i32_subw, i32_mulw, Int32.reduceToInt] at *) <;> omega)) | (exfalso; ((try simp +decide only [b01, b10, b11, am_up, and_true, and_false, true_and, false_and, if_true, if_false, nn_eq] at *) <;> (try simp only [sw_or, sw_all, or_false, and_true, i32_lt, i32_le, i32_eq, i32_addw, i32_subw, i32_mulw, Int32.reduceToInt] at *) <;> omega))
      · skip
        refine r_ic (v := 0) (q := 31) d_MO_stack_30 rfl rfl ?_
        refine r_ri d_MO_stack_31 ?_
        first | (refine h1 ?_ <;> ((try simp +decide only [b01, b10, b11, am_up, and_true, and_false, true_and, false_and, if_true, if_false, nn_eq] at *) <;> (try simp only [sw_or, sw_all, or_false, and_true, i32_lt, i32_le, i32_eq, i32_addw, i32_subw, i32_mulw, Int32.reduceToInt] at *) <;> omega)) | (refine h2 ?_ <;> ((try simp +decide only [b01, b10, b11, am_up, and_true, and_false, true_and, false_and, if_true, if_false, nn_eq] at *) <;> (try simp only [sw_or, sw_all, or_false, and_true, i32_lt, i32_le, i32_eq, i32_addw, i32_subw, i32_mulw, Int32.reduceToInt] at *) <;> omega)) | (exfalso; ((try simp +decide only [b01, b10, b11, am_up, and_true, and_false, true_and, false_and, if_true, if_false, nn_eq] at *) <;> (try simp only [sw_or, sw_all, or_false, and_true, i32_lt, i32_le, i32_eq, i32_addw, i32_subw, i32_mulw, Int32.reduceToInt] at *) <;> omega))
theorem sp_MO_local {x : Int32} {st : am_S} {f : Int32 → am_S → Prop} (c1 : st 603 0 = 1 → 1 ≤ (st 610 0).toInt ∧ (st 610 0).toInt ≤ 80) (c2 : st 603 0 = 1 → 0 ≤ (st 2163 (st 610 0 - 1).toNatClampNeg).toInt ∧ (st 2163 (st 610 0 - 1).toNatClampNeg).toInt < 8) (c3 : st 603 0 = 1 → 0 ≤ (st 2166 (st 610 0 - 1).toNatClampNeg).toInt ∧ (st 2166 (st 610 0 - 1).toNatClampNeg).toInt + (st 2146 (st 2163 (st 610 0 - 1).toNatClampNeg).toNatClampNeg).toInt ≤ 80) (h1 : st 603 0 = 1 ∧ 0 ≤ x ∧ x < st 2146 (st 2163 (st 610 0 - 1).toNatClampNeg).toNatClampNeg → f (st 2162 (st 2166 (st 610 0 - 1).toNatClampNeg + x).toNatClampNeg) (am_up st 576 0 0)) (h2 : ¬ (st 603 0 = 1 ∧ 0 ≤ x ∧ x < st 2146 (st 2163 (st 610 0 - 1).toNatClampNeg).toNatClampNeg) → f 0 (am_up st 576 0 0)) : wp_MO_local [.inr (.inl 128), .inl x] st (am_ki f) := by
  refine ⟨⟨rfl, Nat.le_of_ble_eq_true rfl⟩, ?_⟩
  refine r_al0 (q := 1) d_MO_local_0 rfl ?_
  refine r_ic (v := 0) (q := 2) d_MO_local_1 rfl rfl ?_
  refine pt_MO_thrown (q := 5) d_MO_local_2 rfl rfl ?_
  refine r_al0 (q := 6) d_MO_local_5 rfl ?_
  refine gt_MO_state (q := 9) d_MO_local_6 rfl rfl ?_
  refine r_ic (v := 1) (q := 10) d_MO_local_9 rfl rfl ?_
  refine r_cne (tgt := 35) (q := 13) d_MO_local_10 rfl rfl (fun e10 => ?_) (fun e10 => ?_)
  · skip
    refine r_ic (v := 0) (q := 36) d_MO_local_35 rfl rfl ?_
    refine r_ri d_MO_local_36 ?_
    first | (refine h1 ?_ <;> ((try simp +decide only [b01, b10, b11, am_up, and_true, and_false, true_and, false_and, if_true, if_false, nn_eq] at *) <;> (try simp only [sw_or, sw_all, or_false, and_true, i32_lt, i32_le, i32_eq, i32_addw, i32_subw, i32_mulw, Int32.reduceToInt] at *) <;> omega)) | (refine h2 ?_ <;> ((try simp +decide only [b01, b10, b11, am_up, and_true, and_false, true_and, false_and, if_true, if_false, nn_eq] at *) <;> (try simp only [sw_or, sw_all, or_false, and_true, i32_lt, i32_le, i32_eq, i32_addw, i32_subw, i32_mulw, Int32.reduceToInt] at *) <;> omega)) | (exfalso; ((try simp +decide only [b01, b10, b11, am_up, and_true, and_false, true_and, false_and, if_true, if_false, nn_eq] at *) <;> (try simp only [sw_or, sw_all, or_false, and_true, i32_lt, i32_le, i32_eq, i32_addw, i32_subw, i32_mulw, Int32.reduceToInt] at *) <;> omega))
  · skip
    refine r_il1 (q := 14) d_MO_local_13 rfl ?_
    refine r_zlt (tgt := 35) (q := 17) d_MO_local_14 rfl rfl (fun e14 => ?_) (fun e14 => ?_)
    · skip
      refine r_ic (v := 0) (q := 36) d_MO_local_35 rfl rfl ?_
      refine r_ri d_MO_local_36 ?_
      first | (refine h1 ?_ <;> ((try simp +decide only [b01, b10, b11, am_up, and_true, and_false, true_and, false_and, if_true, if_false, nn_eq] at *) <;> (try simp only [sw_or, sw_all, or_false, and_true, i32_lt, i32_le, i32_eq, i32_addw, i32_subw, i32_mulw, Int32.reduceToInt] at *) <;> omega)) | (refine h2 ?_ <;> ((try simp +decide only [b01, b10, b11, am_up, and_true, and_false, true_and, false_and, if_true, if_false, nn_eq] at *) <;> (try simp only [sw_or, sw_all, or_false, and_true, i32_lt, i32_le, i32_eq, i32_addw, i32_subw, i32_mulw, Int32.reduceToInt] at *) <;> omega)) | (exfalso; ((try simp +decide only [b01, b10, b11, am_up, and_true, and_false, true_and, false_and, if_true, if_false, nn_eq] at *) <;> (try simp only [sw_or, sw_all, or_false, and_true, i32_lt, i32_le, i32_eq, i32_addw, i32_subw, i32_mulw, Int32.reduceToInt] at *) <;> omega))
    · skip
      refine r_il1 (q := 18) d_MO_local_17 rfl ?_
      refine r_al0 (q := 19) d_MO_local_18 rfl ?_
      refine gt_MO_locals (q := 22) d_MO_local_19 rfl rfl ?_
      refine r_al0 (q := 23) d_MO_local_22 rfl ?_
      refine gt_MO_frameMethod (q := 26) d_MO_local_23 rfl rfl ?_
      refine r_al0 (q := 27) d_MO_local_26 rfl ?_
      refine r_vi0 mo_MO_latest d_MO_local_27 rfl rfl rfl (q := 30) rfl ?_
      refine sp_MO_latest ?_
      refine ld_163 (q := 31) d_MO_local_30 ?_ rfl ?_
      · (refine vp_of ?_ ?_ <;> (((try simp +decide only [b01, b10, b11, am_up, and_true, and_false, true_and, false_and, if_true, if_false, nn_eq] at *) <;> (try simp only [sw_or, sw_all, or_false, and_true, i32_lt, i32_le, i32_eq, i32_addw, i32_subw, i32_mulw, Int32.reduceToInt] at *) <;> omega)))
      refine ld_146 (q := 32) d_MO_local_31 ?_ rfl ?_
      · (refine vp_of ?_ ?_ <;> (((try simp +decide only [b01, b10, b11, am_up, and_true, and_false, true_and, false_and, if_true, if_false, nn_eq] at *) <;> (try simp only [sw_or, sw_all, or_false, and_true, i32_lt, i32_le, i32_eq, i32_addw, i32_subw, i32_mulw, Int32.reduceToInt] at *) <;> omega)))
      refine r_clt (tgt := 37) (q := 35) d_MO_local_32 rfl rfl (fun e32 => ?_) (fun e32 => ?_)
      · skip
        refine r_al0 (q := 38) d_MO_local_37 rfl ?_
        refine gt_MO_cell (q := 41) d_MO_local_38 rfl rfl ?_
        refine r_al0 (q := 42) d_MO_local_41 rfl ?_
        refine gt_MO_frameBase (q := 45) d_MO_local_42 rfl rfl ?_
        refine r_al0 (q := 46) d_MO_local_45 rfl ?_
        refine r_vi0 mo_MO_latest d_MO_local_46 rfl rfl rfl (q := 49) rfl ?_
        refine sp_MO_latest ?_
        refine ld_166 (q := 50) d_MO_local_49 ?_ rfl ?_
        · (refine vp_of ?_ ?_ <;> (((try simp +decide only [b01, b10, b11, am_up, and_true, and_false, true_and, false_and, if_true, if_false, nn_eq] at *) <;> (try simp only [sw_or, sw_all, or_false, and_true, i32_lt, i32_le, i32_eq, i32_addw, i32_subw, i32_mulw, Int32.reduceToInt] at *) <;> omega)))
        refine r_il1 (q := 51) d_MO_local_50 rfl ?_
        refine r_iadd (q := 52) d_MO_local_51 rfl ?_
        refine ld_162 (q := 53) d_MO_local_52 ?_ rfl ?_
        · (refine vp_of ?_ ?_ <;> (((try simp +decide only [b01, b10, b11, am_up, and_true, and_false, true_and, false_and, if_true, if_false, nn_eq] at *) <;> (try simp only [sw_or, sw_all, or_false, and_true, i32_lt, i32_le, i32_eq, i32_addw, i32_subw, i32_mulw, Int32.reduceToInt] at *) <;> omega)))
        refine r_ri d_MO_local_53 ?_
        first | (refine h1 ?_ <;> ((try simp +decide only [b01, b10, b11, am_up, and_true, and_false, true_and, false_and, if_true, if_false, nn_eq] at *) <;> (try simp only [sw_or, sw_all, or_false, and_true, i32_lt, i32_le, i32_eq, i32_addw, i32_subw, i32_mulw, Int32.reduceToInt] at *) <;> omega)) | (refine h2 ?_ <;> ((try simp +decide only [b01, b10, b11, am_up, and_true, and_false, true_and, false_and, if_true, if_false, nn_eq] at *) <;> (try simp only [sw_or, sw_all, or_false, and_true, i32_lt, i32_le, i32_eq, i32_addw, i32_subw, i32_mulw, Int32.reduceToInt] at *) <;> omega)) | (exfalso; ((try simp +decide only [b01, b10, b11, am_up, and_true, and_false, true_and, false_and, if_true, if_false, nn_eq] at *) <;> (try simp only [sw_or, sw_all, or_false, and_true, i32_lt, i32_le, i32_eq, i32_addw, i32_subw, i32_mulw, Int32.reduceToInt] at *) <;> omega))
      · skip
        refine r_ic (v := 0) (q := 36) d_MO_local_35 rfl rfl ?_
        refine r_ri d_MO_local_36 ?_
        first | (refine h1 ?_ <;> ((try simp +decide only [b01, b10, b11, am_up, and_true, and_false, true_and, false_and, if_true, if_false, nn_eq] at *) <;> (try simp only [sw_or, sw_all, or_false, and_true, i32_lt, i32_le, i32_eq, i32_addw, i32_subw, i32_mulw, Int32.reduceToInt] at *) <;> omega)) | (refine h2 ?_ <;> ((try simp +decide only [b01, b10, b11, am_up, and_true, and_false, true_and, false_and, if_true, if_false, nn_eq] at *) <;> (try simp only [sw_or, sw_all, or_false, and_true, i32_lt, i32_le, i32_eq, i32_addw, i32_subw, i32_mulw, Int32.reduceToInt] at *) <;> omega)) | (exfalso; ((try simp +decide only [b01, b10, b11, am_up, and_true, and_false, true_and, false_and, if_true, if_false, nn_eq] at *) <;> (try simp only [sw_or, sw_all, or_false, and_true, i32_lt, i32_le, i32_eq, i32_addw, i32_subw, i32_mulw, Int32.reduceToInt] at *) <;> omega))

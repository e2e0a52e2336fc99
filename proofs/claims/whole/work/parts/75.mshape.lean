/-! written by wip/whole/gen/walk.py out of 75.mshape.txt -/
theorem lo_1 {b c d : Int32} (h : b = 21 ∨ b = 25 ∨ b = 54 ∨ b = 58 ∨ b = 132) : op_loc (dO b) ∧ dN3 b c d = c ∧ 2 ≤ (dZ b).toInt := by
  unfold dN3
  rcases h with h | h | h | h | h
  all_goals
    subst h
    refine ⟨by unfold op_loc dO; decide, ?_, by decide⟩
    rw [if_neg (by decide), if_neg (by decide), if_neg (by decide), if_neg (by decide), if_neg (by decide), if_neg (by decide), if_neg (by decide)]
theorem lo_2 {b c d : Int32} (h0 : 0 ≤ b.toInt) (h1 : b.toInt ≤ 255) (h : mo_sh b) : op_loc (dO b) ∧ (b < 30 → dN3 b c d = b - 26) ∧ (30 ≤ b ∧ b < 46 → dN3 b c d = b - 42) ∧ (46 ≤ b ∧ b < 63 → dN3 b c d = b - 59) ∧ (63 ≤ b → dN3 b c d = b - 75) := by
  have key : ∀ b : Fin 256, mo_sh (nI b.val) → op_loc (dO (nI b.val)) := by
    unfold op_loc dO mo_sh
    decide +kernel
  refine ⟨by_dec (Q := fun b => mo_sh b → op_loc (dO b)) key h0 h1 h, fun g => ?_, fun g => ?_, fun g => ?_, fun g => ?_⟩
  all_goals
    unfold mo_sh at h
    unfold dN3
    simp only [i32_le, i32_lt, i32_eq, Int32.reduceToInt] at h g
  · rw [if_neg (by simp only [i32_le, i32_lt, i32_eq, Int32.reduceToInt]; omega), if_neg (by simp only [i32_le, i32_lt, i32_eq, Int32.reduceToInt]; omega), if_pos (by simp only [i32_le, i32_lt, i32_eq, Int32.reduceToInt]; omega)]
  · rw [if_neg (by simp only [i32_le, i32_lt, i32_eq, Int32.reduceToInt]; omega), if_neg (by simp only [i32_le, i32_lt, i32_eq, Int32.reduceToInt]; omega), if_neg (by simp only [i32_le, i32_lt, i32_eq, Int32.reduceToInt]; omega), if_pos (by simp only [i32_le, i32_lt, i32_eq, Int32.reduceToInt]; omega)]
  · rw [if_neg (by simp only [i32_le, i32_lt, i32_eq, Int32.reduceToInt]; omega), if_neg (by simp only [i32_le, i32_lt, i32_eq, Int32.reduceToInt]; omega), if_neg (by simp only [i32_le, i32_lt, i32_eq, Int32.reduceToInt]; omega), if_neg (by simp only [i32_le, i32_lt, i32_eq, Int32.reduceToInt]; omega), if_pos (by simp only [i32_le, i32_lt, i32_eq, Int32.reduceToInt]; omega)]
  · rw [if_neg (by simp only [i32_le, i32_lt, i32_eq, Int32.reduceToInt]; omega), if_neg (by simp only [i32_le, i32_lt, i32_eq, Int32.reduceToInt]; omega), if_neg (by simp only [i32_le, i32_lt, i32_eq, Int32.reduceToInt]; omega), if_neg (by simp only [i32_le, i32_lt, i32_eq, Int32.reduceToInt]; omega), if_neg (by simp only [i32_le, i32_lt, i32_eq, Int32.reduceToInt]; omega), if_pos (by simp only [i32_le, i32_lt, i32_eq, Int32.reduceToInt]; omega)]
theorem lo_3 {b : Int32} (h0 : 0 ≤ b.toInt) (h1 : b.toInt ≤ 255) (h : ¬ (b = 21 ∨ b = 25 ∨ b = 54 ∨ b = 58 ∨ b = 132)) (h2 : ¬ mo_sh b) : ¬ op_loc (dO b) := by
  have key : ∀ b : Fin 256, ¬ (nI b.val = 21 ∨ nI b.val = 25 ∨ nI b.val = 54 ∨ nI b.val = 58 ∨ nI b.val = 132) → ¬ mo_sh (nI b.val) → ¬ op_loc (dO (nI b.val)) := by
    unfold op_loc dO mo_sh
    decide +kernel
  exact by_dec (Q := fun b => ¬ (b = 21 ∨ b = 25 ∨ b = 54 ∨ b = 58 ∨ b = 132) → ¬ mo_sh b → ¬ op_loc (dO b)) key h0 h1 h h2
theorem sp_MO_localOf {P : am_S} {x : Int32} {st : am_S} {f : Int32 → am_S → Prop} (c1 : PM st P) (c2 : VP P) (c3 : 0 ≤ x.toInt ∧ x.toInt < 200) (c4 : x.toInt + (pZ P x.toNatClampNeg).toInt ≤ 200) (h1 : op_loc (pO P x.toNatClampNeg) → f (pN P x.toNatClampNeg) st) (h2 : ¬ op_loc (pO P x.toNatClampNeg) → f (-1) st) : wp_MO_localOf [.inr (.inl 128), .inl x] st (am_ki f) := by
  refine ⟨⟨rfl, Nat.le_of_ble_eq_true rfl⟩, ?_⟩
  have b0 := c2.2.1 x.toNatClampNeg
  have q0 := c1.1.1
  have hx1 : 2 ≤ (pZ P x.toNatClampNeg).toInt → (x + 1).toNatClampNeg = x.toNatClampNeg + 1 ∧ 0 ≤ (x + 1).toInt ∧ (x + 1).toInt < 200 := by
    intro h
    rw [nn_eq, nn_eq, i32_addw]
    simp only [Int32.reduceToInt]
    omega
  have q1 := q0.symm
  simp only [pO, pZ, pN, q1] at h1 h2 b0 c4 hx1
  clear q0 q1 c1 c2
  have k1 : (st 2142 x.toNatClampNeg = 21 ∨ st 2142 x.toNatClampNeg = 25 ∨ st 2142 x.toNatClampNeg = 54 ∨ st 2142 x.toNatClampNeg = 58 ∨ st 2142 x.toNatClampNeg = 132) → f (st 2142 (x + 1).toNatClampNeg) st ∧ vp_in (x + 1) 200 := by
    intro g
    obtain ⟨g1, g2, g3⟩ := @lo_1 _ (st 2142 (x.toNatClampNeg + 1)) (st 2142 (x.toNatClampNeg + 2)) g
    have g4 := h1 g1
    rw [g2] at g4
    rw [(hx1 g3).1]
    exact ⟨g4, vp_of (hx1 g3).2.1 (hx1 g3).2.2⟩
  have k2 := fun g => @lo_2 _ (st 2142 (x.toNatClampNeg + 1)) (st 2142 (x.toNatClampNeg + 2)) b0.1 b0.2 g
  have k3 := @lo_3 _ b0.1 b0.2
  refine r_al0 (q := 1) d_MO_localOf_0 rfl ?_
  refine gt_MO_code (q := 4) d_MO_localOf_1 rfl rfl ?_
  refine r_il1 (q := 5) d_MO_localOf_4 rfl ?_
  refine ld_142 (q := 6) d_MO_localOf_5 ?_ rfl ?_
  · first | exact (k1 (by first | exact Or.inl e10 | exact Or.inr (Or.inl e16) | exact Or.inr (Or.inr (Or.inl e22)) | exact Or.inr (Or.inr (Or.inr (Or.inl e28))) | exact Or.inr (Or.inr (Or.inr (Or.inr e35))))).2 | (clear h1 h2 k1 k2 k3 hx1; (refine vp_of ?_ ?_ <;> (((try simp +decide only [b01, b10, b11, am_up, ik, and_true, and_false, true_and, false_and, if_true, if_false, nn_eq] at *) <;> (try simp only [sw_or, sw_all, or_false, and_true, i32_lt, i32_le, i32_eq, i32_addw, i32_subw, i32_mulw, Int32.reduceToInt] at *) <;> omega))))
  refine r_is2 (q := 7) d_MO_localOf_6 rfl ?_
  refine r_il2 (q := 8) d_MO_localOf_7 rfl ?_
  refine r_bp (v := 21) (q := 10) d_MO_localOf_8 rfl rfl ?_
  refine r_ceq (tgt := 38) (q := 13) d_MO_localOf_10 rfl rfl (fun e10 => ?_) (fun e10 => ?_)
  · skip
    refine r_al0 (q := 39) d_MO_localOf_38 rfl ?_
    refine gt_MO_code (q := 42) d_MO_localOf_39 rfl rfl ?_
    refine r_il1 (q := 43) d_MO_localOf_42 rfl ?_
    refine r_ic (v := 1) (q := 44) d_MO_localOf_43 rfl rfl ?_
    refine r_iadd (q := 45) d_MO_localOf_44 rfl ?_
    refine ld_142 (q := 46) d_MO_localOf_45 ?_ rfl ?_
    · first | exact (k1 (by first | exact Or.inl e10 | exact Or.inr (Or.inl e16) | exact Or.inr (Or.inr (Or.inl e22)) | exact Or.inr (Or.inr (Or.inr (Or.inl e28))) | exact Or.inr (Or.inr (Or.inr (Or.inr e35))))).2 | (clear h1 h2 k1 k2 k3 hx1; (refine vp_of ?_ ?_ <;> (((try simp +decide only [b01, b10, b11, am_up, ik, and_true, and_false, true_and, false_and, if_true, if_false, nn_eq] at *) <;> (try simp only [sw_or, sw_all, or_false, and_true, i32_lt, i32_le, i32_eq, i32_addw, i32_subw, i32_mulw, Int32.reduceToInt] at *) <;> omega))))
    refine r_ri d_MO_localOf_46 ?_
    first | exact (k1 (by first | exact Or.inl e10 | exact Or.inr (Or.inl e16) | exact Or.inr (Or.inr (Or.inl e22)) | exact Or.inr (Or.inr (Or.inr (Or.inl e28))) | exact Or.inr (Or.inr (Or.inr (Or.inr e35))))).1 | exact h2 (k3 (fun q => by rcases q with q | q | q | q | q <;> contradiction) e48) | (have g := h1 (k2 e48).1; first | (rw [(k2 e48).2.1 (by clear h1 h2 k1 k3 hx1; ((try simp +decide only [b01, b10, b11, am_up, ik, and_true, and_false, true_and, false_and, if_true, if_false, nn_eq] at *) <;> (try simp only [sw_or, sw_all, or_false, and_true, i32_lt, i32_le, i32_eq, i32_addw, i32_subw, i32_mulw, Int32.reduceToInt] at *) <;> omega))] at g; exact g) | (rw [(k2 e48).2.2.1 (by clear h1 h2 k1 k3 hx1; ((try simp +decide only [b01, b10, b11, am_up, ik, and_true, and_false, true_and, false_and, if_true, if_false, nn_eq] at *) <;> (try simp only [sw_or, sw_all, or_false, and_true, i32_lt, i32_le, i32_eq, i32_addw, i32_subw, i32_mulw, Int32.reduceToInt] at *) <;> omega))] at g; exact g) | (rw [(k2 e48).2.2.2.1 (by clear h1 h2 k1 k3 hx1; ((try simp +decide only [b01, b10, b11, am_up, ik, and_true, and_false, true_and, false_and, if_true, if_false, nn_eq] at *) <;> (try simp only [sw_or, sw_all, or_false, and_true, i32_lt, i32_le, i32_eq, i32_addw, i32_subw, i32_mulw, Int32.reduceToInt] at *) <;> omega))] at g; exact g) | (rw [(k2 e48).2.2.2.2 (by clear h1 h2 k1 k3 hx1; ((try simp +decide only [b01, b10, b11, am_up, ik, and_true, and_false, true_and, false_and, if_true, if_false, nn_eq] at *) <;> (try simp only [sw_or, sw_all, or_false, and_true, i32_lt, i32_le, i32_eq, i32_addw, i32_subw, i32_mulw, Int32.reduceToInt] at *) <;> omega))] at g; exact g))
  · skip
    refine r_il2 (q := 14) d_MO_localOf_13 rfl ?_
    refine r_bp (v := 25) (q := 16) d_MO_localOf_14 rfl rfl ?_
    refine r_ceq (tgt := 38) (q := 19) d_MO_localOf_16 rfl rfl (fun e16 => ?_) (fun e16 => ?_)
    · skip
      refine r_al0 (q := 39) d_MO_localOf_38 rfl ?_
      refine gt_MO_code (q := 42) d_MO_localOf_39 rfl rfl ?_
      refine r_il1 (q := 43) d_MO_localOf_42 rfl ?_
      refine r_ic (v := 1) (q := 44) d_MO_localOf_43 rfl rfl ?_
      refine r_iadd (q := 45) d_MO_localOf_44 rfl ?_
      refine ld_142 (q := 46) d_MO_localOf_45 ?_ rfl ?_
      · first | exact (k1 (by first | exact Or.inl e10 | exact Or.inr (Or.inl e16) | exact Or.inr (Or.inr (Or.inl e22)) | exact Or.inr (Or.inr (Or.inr (Or.inl e28))) | exact Or.inr (Or.inr (Or.inr (Or.inr e35))))).2 | (clear h1 h2 k1 k2 k3 hx1; (refine vp_of ?_ ?_ <;> (((try simp +decide only [b01, b10, b11, am_up, ik, and_true, and_false, true_and, false_and, if_true, if_false, nn_eq] at *) <;> (try simp only [sw_or, sw_all, or_false, and_true, i32_lt, i32_le, i32_eq, i32_addw, i32_subw, i32_mulw, Int32.reduceToInt] at *) <;> omega))))
      refine r_ri d_MO_localOf_46 ?_
      first | exact (k1 (by first | exact Or.inl e10 | exact Or.inr (Or.inl e16) | exact Or.inr (Or.inr (Or.inl e22)) | exact Or.inr (Or.inr (Or.inr (Or.inl e28))) | exact Or.inr (Or.inr (Or.inr (Or.inr e35))))).1 | exact h2 (k3 (fun q => by rcases q with q | q | q | q | q <;> contradiction) e48) | (have g := h1 (k2 e48).1; first | (rw [(k2 e48).2.1 (by clear h1 h2 k1 k3 hx1; ((try simp +decide only [b01, b10, b11, am_up, ik, and_true, and_false, true_and, false_and, if_true, if_false, nn_eq] at *) <;> (try simp only [sw_or, sw_all, or_false, and_true, i32_lt, i32_le, i32_eq, i32_addw, i32_subw, i32_mulw, Int32.reduceToInt] at *) <;> omega))] at g; exact g) | (rw [(k2 e48).2.2.1 (by clear h1 h2 k1 k3 hx1; ((try simp +decide only [b01, b10, b11, am_up, ik, and_true, and_false, true_and, false_and, if_true, if_false, nn_eq] at *) <;> (try simp only [sw_or, sw_all, or_false, and_true, i32_lt, i32_le, i32_eq, i32_addw, i32_subw, i32_mulw, Int32.reduceToInt] at *) <;> omega))] at g; exact g) | (rw [(k2 e48).2.2.2.1 (by clear h1 h2 k1 k3 hx1; ((try simp +decide only [b01, b10, b11, am_up, ik, and_true, and_false, true_and, false_and, if_true, if_false, nn_eq] at *) <;> (try simp only [sw_or, sw_all, or_false, and_true, i32_lt, i32_le, i32_eq, i32_addw, i32_subw, i32_mulw, Int32.reduceToInt] at *) <;> omega))] at g; exact g) | (rw [(k2 e48).2.2.2.2 (by clear h1 h2 k1 k3 hx1; ((try simp +decide only [b01, b10, b11, am_up, ik, and_true, and_false, true_and, false_and, if_true, if_false, nn_eq] at *) <;> (try simp only [sw_or, sw_all, or_false, and_true, i32_lt, i32_le, i32_eq, i32_addw, i32_subw, i32_mulw, Int32.reduceToInt] at *) <;> omega))] at g; exact g))
    · skip
      refine r_il2 (q := 20) d_MO_localOf_19 rfl ?_
      refine r_bp (v := 54) (q := 22) d_MO_localOf_20 rfl rfl ?_
      refine r_ceq (tgt := 38) (q := 25) d_MO_localOf_22 rfl rfl (fun e22 => ?_) (fun e22 => ?_)
      · skip
        refine r_al0 (q := 39) d_MO_localOf_38 rfl ?_
        refine gt_MO_code (q := 42) d_MO_localOf_39 rfl rfl ?_
        refine r_il1 (q := 43) d_MO_localOf_42 rfl ?_
        refine r_ic (v := 1) (q := 44) d_MO_localOf_43 rfl rfl ?_
        refine r_iadd (q := 45) d_MO_localOf_44 rfl ?_
        refine ld_142 (q := 46) d_MO_localOf_45 ?_ rfl ?_
        · first | exact (k1 (by first | exact Or.inl e10 | exact Or.inr (Or.inl e16) | exact Or.inr (Or.inr (Or.inl e22)) | exact Or.inr (Or.inr (Or.inr (Or.inl e28))) | exact Or.inr (Or.inr (Or.inr (Or.inr e35))))).2 | (clear h1 h2 k1 k2 k3 hx1; (refine vp_of ?_ ?_ <;> (((try simp +decide only [b01, b10, b11, am_up, ik, and_true, and_false, true_and, false_and, if_true, if_false, nn_eq] at *) <;> (try simp only [sw_or, sw_all, or_false, and_true, i32_lt, i32_le, i32_eq, i32_addw, i32_subw, i32_mulw, Int32.reduceToInt] at *) <;> omega))))
        refine r_ri d_MO_localOf_46 ?_
        first | exact (k1 (by first | exact Or.inl e10 | exact Or.inr (Or.inl e16) | exact Or.inr (Or.inr (Or.inl e22)) | exact Or.inr (Or.inr (Or.inr (Or.inl e28))) | exact Or.inr (Or.inr (Or.inr (Or.inr e35))))).1 | exact h2 (k3 (fun q => by rcases q with q | q | q | q | q <;> contradiction) e48) | (have g := h1 (k2 e48).1; first | (rw [(k2 e48).2.1 (by clear h1 h2 k1 k3 hx1; ((try simp +decide only [b01, b10, b11, am_up, ik, and_true, and_false, true_and, false_and, if_true, if_false, nn_eq] at *) <;> (try simp only [sw_or, sw_all, or_false, and_true, i32_lt, i32_le, i32_eq, i32_addw, i32_subw, i32_mulw, Int32.reduceToInt] at *) <;> omega))] at g; exact g) | (rw [(k2 e48).2.2.1 (by clear h1 h2 k1 k3 hx1; ((try simp +decide only [b01, b10, b11, am_up, ik, and_true, and_false, true_and, false_and, if_true, if_false, nn_eq] at *) <;> (try simp only [sw_or, sw_all, or_false, and_true, i32_lt, i32_le, i32_eq, i32_addw, i32_subw, i32_mulw, Int32.reduceToInt] at *) <;> omega))] at g; exact g) | (rw [(k2 e48).2.2.2.1 (by clear h1 h2 k1 k3 hx1; ((try simp +decide only [b01, b10, b11, am_up, ik, and_true, and_false, true_and, false_and, if_true, if_false, nn_eq] at *) <;> (try simp only [sw_or, sw_all, or_false, and_true, i32_lt, i32_le, i32_eq, i32_addw, i32_subw, i32_mulw, Int32.reduceToInt] at *) <;> omega))] at g; exact g) | (rw [(k2 e48).2.2.2.2 (by clear h1 h2 k1 k3 hx1; ((try simp +decide only [b01, b10, b11, am_up, ik, and_true, and_false, true_and, false_and, if_true, if_false, nn_eq] at *) <;> (try simp only [sw_or, sw_all, or_false, and_true, i32_lt, i32_le, i32_eq, i32_addw, i32_subw, i32_mulw, Int32.reduceToInt] at *) <;> omega))] at g; exact g))
      · skip
        refine r_il2 (q := 26) d_MO_localOf_25 rfl ?_
        refine r_bp (v := 58) (q := 28) d_MO_localOf_26 rfl rfl ?_
        refine r_ceq (tgt := 38) (q := 31) d_MO_localOf_28 rfl rfl (fun e28 => ?_) (fun e28 => ?_)
        · skip
          refine r_al0 (q := 39) d_MO_localOf_38 rfl ?_
          refine gt_MO_code (q := 42) d_MO_localOf_39 rfl rfl ?_
          refine r_il1 (q := 43) d_MO_localOf_42 rfl ?_
          refine r_ic (v := 1) (q := 44) d_MO_localOf_43 rfl rfl ?_
          refine r_iadd (q := 45) d_MO_localOf_44 rfl ?_
          refine ld_142 (q := 46) d_MO_localOf_45 ?_ rfl ?_
          · first | exact (k1 (by first | exact Or.inl e10 | exact Or.inr (Or.inl e16) | exact Or.inr (Or.inr (Or.inl e22)) | exact Or.inr (Or.inr (Or.inr (Or.inl e28))) | exact Or.inr (Or.inr (Or.inr (Or.inr e35))))).2 | (clear h1 h2 k1 k2 k3 hx1; (refine vp_of ?_ ?_ <;> (((try simp +decide only [b01, b10, b11, am_up, ik, and_true, and_false, true_and, false_and, if_true, if_false, nn_eq] at *) <;> (try simp only [sw_or, sw_all, or_false, and_true, i32_lt, i32_le, i32_eq, i32_addw, i32_subw, i32_mulw, Int32.reduceToInt] at *) <;> omega))))
          refine r_ri d_MO_localOf_46 ?_
          first | exact (k1 (by first | exact Or.inl e10 | exact Or.inr (Or.inl e16) | exact Or.inr (Or.inr (Or.inl e22)) | exact Or.inr (Or.inr (Or.inr (Or.inl e28))) | exact Or.inr (Or.inr (Or.inr (Or.inr e35))))).1 | exact h2 (k3 (fun q => by rcases q with q | q | q | q | q <;> contradiction) e48) | (have g := h1 (k2 e48).1; first | (rw [(k2 e48).2.1 (by clear h1 h2 k1 k3 hx1; ((try simp +decide only [b01, b10, b11, am_up, ik, and_true, and_false, true_and, false_and, if_true, if_false, nn_eq] at *) <;> (try simp only [sw_or, sw_all, or_false, and_true, i32_lt, i32_le, i32_eq, i32_addw, i32_subw, i32_mulw, Int32.reduceToInt] at *) <;> omega))] at g; exact g) | (rw [(k2 e48).2.2.1 (by clear h1 h2 k1 k3 hx1; ((try simp +decide only [b01, b10, b11, am_up, ik, and_true, and_false, true_and, false_and, if_true, if_false, nn_eq] at *) <;> (try simp only [sw_or, sw_all, or_false, and_true, i32_lt, i32_le, i32_eq, i32_addw, i32_subw, i32_mulw, Int32.reduceToInt] at *) <;> omega))] at g; exact g) | (rw [(k2 e48).2.2.2.1 (by clear h1 h2 k1 k3 hx1; ((try simp +decide only [b01, b10, b11, am_up, ik, and_true, and_false, true_and, false_and, if_true, if_false, nn_eq] at *) <;> (try simp only [sw_or, sw_all, or_false, and_true, i32_lt, i32_le, i32_eq, i32_addw, i32_subw, i32_mulw, Int32.reduceToInt] at *) <;> omega))] at g; exact g) | (rw [(k2 e48).2.2.2.2 (by clear h1 h2 k1 k3 hx1; ((try simp +decide only [b01, b10, b11, am_up, ik, and_true, and_false, true_and, false_and, if_true, if_false, nn_eq] at *) <;> (try simp only [sw_or, sw_all, or_false, and_true, i32_lt, i32_le, i32_eq, i32_addw, i32_subw, i32_mulw, Int32.reduceToInt] at *) <;> omega))] at g; exact g))
        · skip
          refine r_il2 (q := 32) d_MO_localOf_31 rfl ?_
          refine r_sp (v := 132) (q := 35) d_MO_localOf_32 rfl rfl ?_
          refine r_cne (tgt := 47) (q := 38) d_MO_localOf_35 rfl rfl (fun e35 => ?_) (fun e35 => ?_)
          · skip
            refine r_il2 (q := 48) d_MO_localOf_47 rfl ?_
            refine r_si1 mo_MO_isShort d_MO_localOf_48 rfl rfl (q := 51) rfl ?_
            refine sp_MO_isShort (fun e48 => ?_) (fun e48 => ?_)
            · skip
              refine r_zne (tgt := 58) (q := 54) d_MO_localOf_51 rfl rfl (fun e51 => ?_) (fun e51 => by exfalso; revert e51; decide)
              refine r_il2 (q := 59) d_MO_localOf_58 rfl ?_
              refine r_bp (v := 30) (q := 61) d_MO_localOf_59 rfl rfl ?_
              refine r_cge (tgt := 71) (q := 64) d_MO_localOf_61 rfl rfl (fun e61 => ?_) (fun e61 => ?_)
              · skip
                refine r_il2 (q := 72) d_MO_localOf_71 rfl ?_
                refine r_bp (v := 46) (q := 74) d_MO_localOf_72 rfl rfl ?_
                refine r_cge (tgt := 84) (q := 77) d_MO_localOf_74 rfl rfl (fun e74 => ?_) (fun e74 => ?_)
                · skip
                  refine r_il2 (q := 85) d_MO_localOf_84 rfl ?_
                  refine r_bp (v := 63) (q := 87) d_MO_localOf_85 rfl rfl ?_
                  refine r_cge (tgt := 97) (q := 90) d_MO_localOf_87 rfl rfl (fun e87 => ?_) (fun e87 => ?_)
                  · skip
                    refine r_il2 (q := 98) d_MO_localOf_97 rfl ?_
                    refine r_bp (v := 75) (q := 100) d_MO_localOf_98 rfl rfl ?_
                    refine r_isub (q := 101) d_MO_localOf_100 rfl ?_
                    refine r_ri d_MO_localOf_101 ?_
                    first | exact (k1 (by first | exact Or.inl e10 | exact Or.inr (Or.inl e16) | exact Or.inr (Or.inr (Or.inl e22)) | exact Or.inr (Or.inr (Or.inr (Or.inl e28))) | exact Or.inr (Or.inr (Or.inr (Or.inr e35))))).1 | exact h2 (k3 (fun q => by rcases q with q | q | q | q | q <;> contradiction) e48) | (have g := h1 (k2 e48).1; first | (rw [(k2 e48).2.1 (by clear h1 h2 k1 k3 hx1; ((try simp +decide only [b01, b10, b11, am_up, ik, and_true, and_false, true_and, false_and, if_true, if_false, nn_eq] at *) <;> (try simp only [sw_or, sw_all, or_false, and_true, i32_lt, i32_le, i32_eq, i32_addw, i32_subw, i32_mulw, Int32.reduceToInt] at *) <;> omega))] at g; exact g) | (rw [(k2 e48).2.2.1 (by clear h1 h2 k1 k3 hx1; ((try simp +decide only [b01, b10, b11, am_up, ik, and_true, and_false, true_and, false_and, if_true, if_false, nn_eq] at *) <;> (try simp only [sw_or, sw_all, or_false, and_true, i32_lt, i32_le, i32_eq, i32_addw, i32_subw, i32_mulw, Int32.reduceToInt] at *) <;> omega))] at g; exact g) | (rw [(k2 e48).2.2.2.1 (by clear h1 h2 k1 k3 hx1; ((try simp +decide only [b01, b10, b11, am_up, ik, and_true, and_false, true_and, false_and, if_true, if_false, nn_eq] at *) <;> (try simp only [sw_or, sw_all, or_false, and_true, i32_lt, i32_le, i32_eq, i32_addw, i32_subw, i32_mulw, Int32.reduceToInt] at *) <;> omega))] at g; exact g) | (rw [(k2 e48).2.2.2.2 (by clear h1 h2 k1 k3 hx1; ((try simp +decide only [b01, b10, b11, am_up, ik, and_true, and_false, true_and, false_and, if_true, if_false, nn_eq] at *) <;> (try simp only [sw_or, sw_all, or_false, and_true, i32_lt, i32_le, i32_eq, i32_addw, i32_subw, i32_mulw, Int32.reduceToInt] at *) <;> omega))] at g; exact g))
                  · skip
                    refine r_il2 (q := 91) d_MO_localOf_90 rfl ?_
                    refine r_bp (v := 59) (q := 93) d_MO_localOf_91 rfl rfl ?_
                    refine r_isub (q := 94) d_MO_localOf_93 rfl ?_
                    refine am_go (tgt := 101) d_MO_localOf_94 rfl ?_
                    refine r_ri d_MO_localOf_101 ?_
                    first | exact (k1 (by first | exact Or.inl e10 | exact Or.inr (Or.inl e16) | exact Or.inr (Or.inr (Or.inl e22)) | exact Or.inr (Or.inr (Or.inr (Or.inl e28))) | exact Or.inr (Or.inr (Or.inr (Or.inr e35))))).1 | exact h2 (k3 (fun q => by rcases q with q | q | q | q | q <;> contradiction) e48) | (have g := h1 (k2 e48).1; first | (rw [(k2 e48).2.1 (by clear h1 h2 k1 k3 hx1; ((try simp +decide only [b01, b10, b11, am_up, ik, and_true, and_false, true_and, false_and, if_true, if_false, nn_eq] at *) <;> (try simp only [sw_or, sw_all, or_false, and_true, i32_lt, i32_le, i32_eq, i32_addw, i32_subw, i32_mulw, Int32.reduceToInt] at *) <;> omega))] at g; exact g) | (rw [(k2 e48).2.2.1 (by clear h1 h2 k1 k3 hx1; ((try simp +decide only [b01, b10, b11, am_up, ik, and_true, and_false, true_and, false_and, if_true, if_false, nn_eq] at *) <;> (try simp only [sw_or, sw_all, or_false, and_true, i32_lt, i32_le, i32_eq, i32_addw, i32_subw, i32_mulw, Int32.reduceToInt] at *) <;> omega))] at g; exact g) | (rw [(k2 e48).2.2.2.1 (by clear h1 h2 k1 k3 hx1; ((try simp +decide only [b01, b10, b11, am_up, ik, and_true, and_false, true_and, false_and, if_true, if_false, nn_eq] at *) <;> (try simp only [sw_or, sw_all, or_false, and_true, i32_lt, i32_le, i32_eq, i32_addw, i32_subw, i32_mulw, Int32.reduceToInt] at *) <;> omega))] at g; exact g) | (rw [(k2 e48).2.2.2.2 (by clear h1 h2 k1 k3 hx1; ((try simp +decide only [b01, b10, b11, am_up, ik, and_true, and_false, true_and, false_and, if_true, if_false, nn_eq] at *) <;> (try simp only [sw_or, sw_all, or_false, and_true, i32_lt, i32_le, i32_eq, i32_addw, i32_subw, i32_mulw, Int32.reduceToInt] at *) <;> omega))] at g; exact g))
                · skip
                  refine r_il2 (q := 78) d_MO_localOf_77 rfl ?_
                  refine r_bp (v := 42) (q := 80) d_MO_localOf_78 rfl rfl ?_
                  refine r_isub (q := 81) d_MO_localOf_80 rfl ?_
                  refine am_go (tgt := 101) d_MO_localOf_81 rfl ?_
                  refine r_ri d_MO_localOf_101 ?_
                  first | exact (k1 (by first | exact Or.inl e10 | exact Or.inr (Or.inl e16) | exact Or.inr (Or.inr (Or.inl e22)) | exact Or.inr (Or.inr (Or.inr (Or.inl e28))) | exact Or.inr (Or.inr (Or.inr (Or.inr e35))))).1 | exact h2 (k3 (fun q => by rcases q with q | q | q | q | q <;> contradiction) e48) | (have g := h1 (k2 e48).1; first | (rw [(k2 e48).2.1 (by clear h1 h2 k1 k3 hx1; ((try simp +decide only [b01, b10, b11, am_up, ik, and_true, and_false, true_and, false_and, if_true, if_false, nn_eq] at *) <;> (try simp only [sw_or, sw_all, or_false, and_true, i32_lt, i32_le, i32_eq, i32_addw, i32_subw, i32_mulw, Int32.reduceToInt] at *) <;> omega))] at g; exact g) | (rw [(k2 e48).2.2.1 (by clear h1 h2 k1 k3 hx1; ((try simp +decide only [b01, b10, b11, am_up, ik, and_true, and_false, true_and, false_and, if_true, if_false, nn_eq] at *) <;> (try simp only [sw_or, sw_all, or_false, and_true, i32_lt, i32_le, i32_eq, i32_addw, i32_subw, i32_mulw, Int32.reduceToInt] at *) <;> omega))] at g; exact g) | (rw [(k2 e48).2.2.2.1 (by clear h1 h2 k1 k3 hx1; ((try simp +decide only [b01, b10, b11, am_up, ik, and_true, and_false, true_and, false_and, if_true, if_false, nn_eq] at *) <;> (try simp only [sw_or, sw_all, or_false, and_true, i32_lt, i32_le, i32_eq, i32_addw, i32_subw, i32_mulw, Int32.reduceToInt] at *) <;> omega))] at g; exact g) | (rw [(k2 e48).2.2.2.2 (by clear h1 h2 k1 k3 hx1; ((try simp +decide only [b01, b10, b11, am_up, ik, and_true, and_false, true_and, false_and, if_true, if_false, nn_eq] at *) <;> (try simp only [sw_or, sw_all, or_false, and_true, i32_lt, i32_le, i32_eq, i32_addw, i32_subw, i32_mulw, Int32.reduceToInt] at *) <;> omega))] at g; exact g))
              · skip
                refine r_il2 (q := 65) d_MO_localOf_64 rfl ?_
                refine r_bp (v := 26) (q := 67) d_MO_localOf_65 rfl rfl ?_
                refine r_isub (q := 68) d_MO_localOf_67 rfl ?_
                refine am_go (tgt := 101) d_MO_localOf_68 rfl ?_
                refine r_ri d_MO_localOf_101 ?_
                first | exact (k1 (by first | exact Or.inl e10 | exact Or.inr (Or.inl e16) | exact Or.inr (Or.inr (Or.inl e22)) | exact Or.inr (Or.inr (Or.inr (Or.inl e28))) | exact Or.inr (Or.inr (Or.inr (Or.inr e35))))).1 | exact h2 (k3 (fun q => by rcases q with q | q | q | q | q <;> contradiction) e48) | (have g := h1 (k2 e48).1; first | (rw [(k2 e48).2.1 (by clear h1 h2 k1 k3 hx1; ((try simp +decide only [b01, b10, b11, am_up, ik, and_true, and_false, true_and, false_and, if_true, if_false, nn_eq] at *) <;> (try simp only [sw_or, sw_all, or_false, and_true, i32_lt, i32_le, i32_eq, i32_addw, i32_subw, i32_mulw, Int32.reduceToInt] at *) <;> omega))] at g; exact g) | (rw [(k2 e48).2.2.1 (by clear h1 h2 k1 k3 hx1; ((try simp +decide only [b01, b10, b11, am_up, ik, and_true, and_false, true_and, false_and, if_true, if_false, nn_eq] at *) <;> (try simp only [sw_or, sw_all, or_false, and_true, i32_lt, i32_le, i32_eq, i32_addw, i32_subw, i32_mulw, Int32.reduceToInt] at *) <;> omega))] at g; exact g) | (rw [(k2 e48).2.2.2.1 (by clear h1 h2 k1 k3 hx1; ((try simp +decide only [b01, b10, b11, am_up, ik, and_true, and_false, true_and, false_and, if_true, if_false, nn_eq] at *) <;> (try simp only [sw_or, sw_all, or_false, and_true, i32_lt, i32_le, i32_eq, i32_addw, i32_subw, i32_mulw, Int32.reduceToInt] at *) <;> omega))] at g; exact g) | (rw [(k2 e48).2.2.2.2 (by clear h1 h2 k1 k3 hx1; ((try simp +decide only [b01, b10, b11, am_up, ik, and_true, and_false, true_and, false_and, if_true, if_false, nn_eq] at *) <;> (try simp only [sw_or, sw_all, or_false, and_true, i32_lt, i32_le, i32_eq, i32_addw, i32_subw, i32_mulw, Int32.reduceToInt] at *) <;> omega))] at g; exact g))
            · skip
              refine r_zne (tgt := 58) (q := 54) d_MO_localOf_51 rfl rfl (fun e51 => by exfalso; revert e51; decide) (fun e51 => ?_)
              refine r_ic (v := -1) (q := 55) d_MO_localOf_54 rfl rfl ?_
              refine am_go (tgt := 101) d_MO_localOf_55 rfl ?_
              refine r_ri d_MO_localOf_101 ?_
              first | exact (k1 (by first | exact Or.inl e10 | exact Or.inr (Or.inl e16) | exact Or.inr (Or.inr (Or.inl e22)) | exact Or.inr (Or.inr (Or.inr (Or.inl e28))) | exact Or.inr (Or.inr (Or.inr (Or.inr e35))))).1 | exact h2 (k3 (fun q => by rcases q with q | q | q | q | q <;> contradiction) e48) | (have g := h1 (k2 e48).1; first | (rw [(k2 e48).2.1 (by clear h1 h2 k1 k3 hx1; ((try simp +decide only [b01, b10, b11, am_up, ik, and_true, and_false, true_and, false_and, if_true, if_false, nn_eq] at *) <;> (try simp only [sw_or, sw_all, or_false, and_true, i32_lt, i32_le, i32_eq, i32_addw, i32_subw, i32_mulw, Int32.reduceToInt] at *) <;> omega))] at g; exact g) | (rw [(k2 e48).2.2.1 (by clear h1 h2 k1 k3 hx1; ((try simp +decide only [b01, b10, b11, am_up, ik, and_true, and_false, true_and, false_and, if_true, if_false, nn_eq] at *) <;> (try simp only [sw_or, sw_all, or_false, and_true, i32_lt, i32_le, i32_eq, i32_addw, i32_subw, i32_mulw, Int32.reduceToInt] at *) <;> omega))] at g; exact g) | (rw [(k2 e48).2.2.2.1 (by clear h1 h2 k1 k3 hx1; ((try simp +decide only [b01, b10, b11, am_up, ik, and_true, and_false, true_and, false_and, if_true, if_false, nn_eq] at *) <;> (try simp only [sw_or, sw_all, or_false, and_true, i32_lt, i32_le, i32_eq, i32_addw, i32_subw, i32_mulw, Int32.reduceToInt] at *) <;> omega))] at g; exact g) | (rw [(k2 e48).2.2.2.2 (by clear h1 h2 k1 k3 hx1; ((try simp +decide only [b01, b10, b11, am_up, ik, and_true, and_false, true_and, false_and, if_true, if_false, nn_eq] at *) <;> (try simp only [sw_or, sw_all, or_false, and_true, i32_lt, i32_le, i32_eq, i32_addw, i32_subw, i32_mulw, Int32.reduceToInt] at *) <;> omega))] at g; exact g))
          · skip
            refine r_al0 (q := 39) d_MO_localOf_38 rfl ?_
            refine gt_MO_code (q := 42) d_MO_localOf_39 rfl rfl ?_
            refine r_il1 (q := 43) d_MO_localOf_42 rfl ?_
            refine r_ic (v := 1) (q := 44) d_MO_localOf_43 rfl rfl ?_
            refine r_iadd (q := 45) d_MO_localOf_44 rfl ?_
            refine ld_142 (q := 46) d_MO_localOf_45 ?_ rfl ?_
            · first | exact (k1 (by first | exact Or.inl e10 | exact Or.inr (Or.inl e16) | exact Or.inr (Or.inr (Or.inl e22)) | exact Or.inr (Or.inr (Or.inr (Or.inl e28))) | exact Or.inr (Or.inr (Or.inr (Or.inr e35))))).2 | (clear h1 h2 k1 k2 k3 hx1; (refine vp_of ?_ ?_ <;> (((try simp +decide only [b01, b10, b11, am_up, ik, and_true, and_false, true_and, false_and, if_true, if_false, nn_eq] at *) <;> (try simp only [sw_or, sw_all, or_false, and_true, i32_lt, i32_le, i32_eq, i32_addw, i32_subw, i32_mulw, Int32.reduceToInt] at *) <;> omega))))
            refine r_ri d_MO_localOf_46 ?_
            first | exact (k1 (by first | exact Or.inl e10 | exact Or.inr (Or.inl e16) | exact Or.inr (Or.inr (Or.inl e22)) | exact Or.inr (Or.inr (Or.inr (Or.inl e28))) | exact Or.inr (Or.inr (Or.inr (Or.inr e35))))).1 | exact h2 (k3 (fun q => by rcases q with q | q | q | q | q <;> contradiction) e48) | (have g := h1 (k2 e48).1; first | (rw [(k2 e48).2.1 (by clear h1 h2 k1 k3 hx1; ((try simp +decide only [b01, b10, b11, am_up, ik, and_true, and_false, true_and, false_and, if_true, if_false, nn_eq] at *) <;> (try simp only [sw_or, sw_all, or_false, and_true, i32_lt, i32_le, i32_eq, i32_addw, i32_subw, i32_mulw, Int32.reduceToInt] at *) <;> omega))] at g; exact g) | (rw [(k2 e48).2.2.1 (by clear h1 h2 k1 k3 hx1; ((try simp +decide only [b01, b10, b11, am_up, ik, and_true, and_false, true_and, false_and, if_true, if_false, nn_eq] at *) <;> (try simp only [sw_or, sw_all, or_false, and_true, i32_lt, i32_le, i32_eq, i32_addw, i32_subw, i32_mulw, Int32.reduceToInt] at *) <;> omega))] at g; exact g) | (rw [(k2 e48).2.2.2.1 (by clear h1 h2 k1 k3 hx1; ((try simp +decide only [b01, b10, b11, am_up, ik, and_true, and_false, true_and, false_and, if_true, if_false, nn_eq] at *) <;> (try simp only [sw_or, sw_all, or_false, and_true, i32_lt, i32_le, i32_eq, i32_addw, i32_subw, i32_mulw, Int32.reduceToInt] at *) <;> omega))] at g; exact g) | (rw [(k2 e48).2.2.2.2 (by clear h1 h2 k1 k3 hx1; ((try simp +decide only [b01, b10, b11, am_up, ik, and_true, and_false, true_and, false_and, if_true, if_false, nn_eq] at *) <;> (try simp only [sw_or, sw_all, or_false, and_true, i32_lt, i32_le, i32_eq, i32_addw, i32_subw, i32_mulw, Int32.reduceToInt] at *) <;> omega))] at g; exact g))
theorem sp_MO_isStart {x y : Int32} {st : am_S} {f : Int32 → am_S → Prop} (c1 : 0 ≤ y.toInt ∧ y.toInt < 8) (c2 : 0 ≤ (st 2143 y.toNatClampNeg).toInt) (c3 : (st 2143 y.toNatClampNeg).toInt + (st 2144 y.toNatClampNeg).toInt ≤ 200) (h1 : (0 ≤ x ∧ x < st 2144 y.toNatClampNeg) ∧ ¬ st 2154 (st 2143 y.toNatClampNeg + x).toNatClampNeg = 0 → f 1 st) (h2 : ¬ ((0 ≤ x ∧ x < st 2144 y.toNatClampNeg) ∧ ¬ st 2154 (st 2143 y.toNatClampNeg + x).toNatClampNeg = 0) → f 0 st) : wp_MO_isStart [.inr (.inl 128), .inl y, .inl x] st (am_ki f) := by
  refine ⟨⟨rfl, Nat.le_of_ble_eq_true rfl⟩, ?_⟩
  refine r_il2 (q := 1) d_MO_isStart_0 rfl ?_
  refine r_zlt (tgt := 34) (q := 4) d_MO_isStart_1 rfl rfl (fun e1 => ?_) (fun e1 => ?_)
  · skip
    refine r_ic (v := 0) (q := 35) d_MO_isStart_34 rfl rfl ?_
    refine r_rz d_MO_isStart_35 (by first | assumption | (refine pc_of hP ?_; (repeat (first | assumption | exact md_refl | refine md_up ?_ rfl | refine md_fill ?_ rfl | (unfold ik; refine md_up ?_ rfl))); done) | (refine pm_of hP ?_; (repeat (first | assumption | exact md_refl | refine md_up ?_ rfl | refine md_fill ?_ rfl | (unfold ik; refine md_up ?_ rfl))); done) | omega | decide | ((try simp +decide only [b01, b10, b11, am_up, ik, and_true, and_false, true_and, false_and, if_true, if_false, nn_eq] at *) <;> (try simp only [sw_or, sw_all, or_false, and_true, i32_lt, i32_le, i32_eq, i32_addw, i32_subw, i32_mulw, Int32.reduceToInt] at *) <;> omega) | (apply_assumption; done)) ?_
    first | (refine h1 ?_ <;> ((try simp +decide only [b01, b10, b11, am_up, ik, and_true, and_false, true_and, false_and, if_true, if_false, nn_eq] at *) <;> (try simp only [sw_or, sw_all, or_false, and_true, i32_lt, i32_le, i32_eq, i32_addw, i32_subw, i32_mulw, Int32.reduceToInt] at *) <;> omega)) | (refine h2 ?_ <;> ((try simp +decide only [b01, b10, b11, am_up, ik, and_true, and_false, true_and, false_and, if_true, if_false, nn_eq] at *) <;> (try simp only [sw_or, sw_all, or_false, and_true, i32_lt, i32_le, i32_eq, i32_addw, i32_subw, i32_mulw, Int32.reduceToInt] at *) <;> omega)) | (exfalso; ((try simp +decide only [b01, b10, b11, am_up, ik, and_true, and_false, true_and, false_and, if_true, if_false, nn_eq] at *) <;> (try simp only [sw_or, sw_all, or_false, and_true, i32_lt, i32_le, i32_eq, i32_addw, i32_subw, i32_mulw, Int32.reduceToInt] at *) <;> omega))
  · skip
    refine r_il2 (q := 5) d_MO_isStart_4 rfl ?_
    refine r_al0 (q := 6) d_MO_isStart_5 rfl ?_
    refine gt_MO_length (q := 9) d_MO_isStart_6 rfl rfl ?_
    refine r_il1 (q := 10) d_MO_isStart_9 rfl ?_
    refine ld_144 (q := 11) d_MO_isStart_10 ?_ rfl ?_
    · (refine vp_of ?_ ?_ <;> (((try simp +decide only [b01, b10, b11, am_up, ik, and_true, and_false, true_and, false_and, if_true, if_false, nn_eq] at *) <;> (try simp only [sw_or, sw_all, or_false, and_true, i32_lt, i32_le, i32_eq, i32_addw, i32_subw, i32_mulw, Int32.reduceToInt] at *) <;> omega)))
    refine r_cge (tgt := 34) (q := 14) d_MO_isStart_11 rfl rfl (fun e11 => ?_) (fun e11 => ?_)
    · skip
      refine r_ic (v := 0) (q := 35) d_MO_isStart_34 rfl rfl ?_
      refine r_rz d_MO_isStart_35 (by first | assumption | (refine pc_of hP ?_; (repeat (first | assumption | exact md_refl | refine md_up ?_ rfl | refine md_fill ?_ rfl | (unfold ik; refine md_up ?_ rfl))); done) | (refine pm_of hP ?_; (repeat (first | assumption | exact md_refl | refine md_up ?_ rfl | refine md_fill ?_ rfl | (unfold ik; refine md_up ?_ rfl))); done) | omega | decide | ((try simp +decide only [b01, b10, b11, am_up, ik, and_true, and_false, true_and, false_and, if_true, if_false, nn_eq] at *) <;> (try simp only [sw_or, sw_all, or_false, and_true, i32_lt, i32_le, i32_eq, i32_addw, i32_subw, i32_mulw, Int32.reduceToInt] at *) <;> omega) | (apply_assumption; done)) ?_
      first | (refine h1 ?_ <;> ((try simp +decide only [b01, b10, b11, am_up, ik, and_true, and_false, true_and, false_and, if_true, if_false, nn_eq] at *) <;> (try simp only [sw_or, sw_all, or_false, and_true, i32_lt, i32_le, i32_eq, i32_addw, i32_subw, i32_mulw, Int32.reduceToInt] at *) <;> omega)) | (refine h2 ?_ <;> ((try simp +decide only [b01, b10, b11, am_up, ik, and_true, and_false, true_and, false_and, if_true, if_false, nn_eq] at *) <;> (try simp only [sw_or, sw_all, or_false, and_true, i32_lt, i32_le, i32_eq, i32_addw, i32_subw, i32_mulw, Int32.reduceToInt] at *) <;> omega)) | (exfalso; ((try simp +decide only [b01, b10, b11, am_up, ik, and_true, and_false, true_and, false_and, if_true, if_false, nn_eq] at *) <;> (try simp only [sw_or, sw_all, or_false, and_true, i32_lt, i32_le, i32_eq, i32_addw, i32_subw, i32_mulw, Int32.reduceToInt] at *) <;> omega))
    · skip
      refine r_al0 (q := 15) d_MO_isStart_14 rfl ?_
      refine gt_MO_starts (q := 18) d_MO_isStart_15 rfl rfl ?_
      refine r_al0 (q := 19) d_MO_isStart_18 rfl ?_
      refine gt_MO_begin (q := 22) d_MO_isStart_19 rfl rfl ?_
      refine r_il1 (q := 23) d_MO_isStart_22 rfl ?_
      refine ld_143 (q := 24) d_MO_isStart_23 ?_ rfl ?_
      · (refine vp_of ?_ ?_ <;> (((try simp +decide only [b01, b10, b11, am_up, ik, and_true, and_false, true_and, false_and, if_true, if_false, nn_eq] at *) <;> (try simp only [sw_or, sw_all, or_false, and_true, i32_lt, i32_le, i32_eq, i32_addw, i32_subw, i32_mulw, Int32.reduceToInt] at *) <;> omega)))
      refine r_il2 (q := 25) d_MO_isStart_24 rfl ?_
      refine r_iadd (q := 26) d_MO_isStart_25 rfl ?_
      refine ld_154 (q := 27) d_MO_isStart_26 ?_ rfl ?_
      · (refine vp_of ?_ ?_ <;> (((try simp +decide only [b01, b10, b11, am_up, ik, and_true, and_false, true_and, false_and, if_true, if_false, nn_eq] at *) <;> (try simp only [sw_or, sw_all, or_false, and_true, i32_lt, i32_le, i32_eq, i32_addw, i32_subw, i32_mulw, Int32.reduceToInt] at *) <;> omega)))
      refine r_zeq (tgt := 34) (q := 30) d_MO_isStart_27 rfl rfl (fun e27 => ?_) (fun e27 => ?_)
      · skip
        refine r_ic (v := 0) (q := 35) d_MO_isStart_34 rfl rfl ?_
        refine r_rz d_MO_isStart_35 (by first | assumption | (refine pc_of hP ?_; (repeat (first | assumption | exact md_refl | refine md_up ?_ rfl | refine md_fill ?_ rfl | (unfold ik; refine md_up ?_ rfl))); done) | (refine pm_of hP ?_; (repeat (first | assumption | exact md_refl | refine md_up ?_ rfl | refine md_fill ?_ rfl | (unfold ik; refine md_up ?_ rfl))); done) | omega | decide | ((try simp +decide only [b01, b10, b11, am_up, ik, and_true, and_false, true_and, false_and, if_true, if_false, nn_eq] at *) <;> (try simp only [sw_or, sw_all, or_false, and_true, i32_lt, i32_le, i32_eq, i32_addw, i32_subw, i32_mulw, Int32.reduceToInt] at *) <;> omega) | (apply_assumption; done)) ?_
        first | (refine h1 ?_ <;> ((try simp +decide only [b01, b10, b11, am_up, ik, and_true, and_false, true_and, false_and, if_true, if_false, nn_eq] at *) <;> (try simp only [sw_or, sw_all, or_false, and_true, i32_lt, i32_le, i32_eq, i32_addw, i32_subw, i32_mulw, Int32.reduceToInt] at *) <;> omega)) | (refine h2 ?_ <;> ((try simp +decide only [b01, b10, b11, am_up, ik, and_true, and_false, true_and, false_and, if_true, if_false, nn_eq] at *) <;> (try simp only [sw_or, sw_all, or_false, and_true, i32_lt, i32_le, i32_eq, i32_addw, i32_subw, i32_mulw, Int32.reduceToInt] at *) <;> omega)) | (exfalso; ((try simp +decide only [b01, b10, b11, am_up, ik, and_true, and_false, true_and, false_and, if_true, if_false, nn_eq] at *) <;> (try simp only [sw_or, sw_all, or_false, and_true, i32_lt, i32_le, i32_eq, i32_addw, i32_subw, i32_mulw, Int32.reduceToInt] at *) <;> omega))
      · skip
        refine r_ic (v := 1) (q := 31) d_MO_isStart_30 rfl rfl ?_
        refine am_go (tgt := 35) d_MO_isStart_31 rfl ?_
        refine r_rz d_MO_isStart_35 (by first | assumption | (refine pc_of hP ?_; (repeat (first | assumption | exact md_refl | refine md_up ?_ rfl | refine md_fill ?_ rfl | (unfold ik; refine md_up ?_ rfl))); done) | (refine pm_of hP ?_; (repeat (first | assumption | exact md_refl | refine md_up ?_ rfl | refine md_fill ?_ rfl | (unfold ik; refine md_up ?_ rfl))); done) | omega | decide | ((try simp +decide only [b01, b10, b11, am_up, ik, and_true, and_false, true_and, false_and, if_true, if_false, nn_eq] at *) <;> (try simp only [sw_or, sw_all, or_false, and_true, i32_lt, i32_le, i32_eq, i32_addw, i32_subw, i32_mulw, Int32.reduceToInt] at *) <;> omega) | (apply_assumption; done)) ?_
        first | (refine h1 ?_ <;> ((try simp +decide only [b01, b10, b11, am_up, ik, and_true, and_false, true_and, false_and, if_true, if_false, nn_eq] at *) <;> (try simp only [sw_or, sw_all, or_false, and_true, i32_lt, i32_le, i32_eq, i32_addw, i32_subw, i32_mulw, Int32.reduceToInt] at *) <;> omega)) | (refine h2 ?_ <;> ((try simp +decide only [b01, b10, b11, am_up, ik, and_true, and_false, true_and, false_and, if_true, if_false, nn_eq] at *) <;> (try simp only [sw_or, sw_all, or_false, and_true, i32_lt, i32_le, i32_eq, i32_addw, i32_subw, i32_mulw, Int32.reduceToInt] at *) <;> omega)) | (exfalso; ((try simp +decide only [b01, b10, b11, am_up, ik, and_true, and_false, true_and, false_and, if_true, if_false, nn_eq] at *) <;> (try simp only [sw_or, sw_all, or_false, and_true, i32_lt, i32_le, i32_eq, i32_addw, i32_subw, i32_mulw, Int32.reduceToInt] at *) <;> omega))

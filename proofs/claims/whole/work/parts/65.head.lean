/-! written by wip/whole/gen/walk.py out of 65.head.txt -/
theorem la_12 {L : Nat} {xs : Nat → Int32} {K : Int32 → am_S → Prop} {i : Int32} {a b : Option am_V} {st : am_S} (i0 : 0 ≤ i.toInt) (i6 : i.toInt + 6 ≤ (L : Int)) (iL : L ≤ 3072) (c1 : 0 ≤ (st 519 0).toInt) (c2 : (st 519 0).toInt ≤ 80) (c3 : ∀ i, (st 0 i).toNatClampNeg < 8) (d1 : 0 ≤ (st 610 0).toInt) (d2 : (st 610 0).toInt ≤ 80) (c6 : (0 ≤ (xs (i + 1).toNatClampNeg) ∧ (xs (i + 1).toNatClampNeg) < st 519 0) ↔ (st 603 0 = 1 ∧ 0 ≤ (xs (i + 1).toNatClampNeg) ∧ (xs (i + 1).toNatClampNeg) < st 610 0)) (c7 : (0 ≤ (xs (i + 1).toNatClampNeg) ∧ (xs (i + 1).toNatClampNeg) < st 519 0) → nI (st 0 (st 519 0 - 1 - (xs (i + 1).toNatClampNeg)).toNatClampNeg).toNatClampNeg = st 2163 (st 610 0 - 1 - (xs (i + 1).toNatClampNeg)).toNatClampNeg) (c8 : (0 ≤ (xs (i + 1).toNatClampNeg) ∧ (xs (i + 1).toNatClampNeg) < st 519 0) → st 1 (st 519 0 - 1 - (xs (i + 1).toNatClampNeg)).toNatClampNeg = st 2164 (st 610 0 - 1 - (xs (i + 1).toNatClampNeg)).toNatClampNeg) (c9 : (0 ≤ (xs (i + 1).toNatClampNeg) ∧ (xs (i + 1).toNatClampNeg) < st 519 0) → st 3 (st 519 0 - 1 - (xs (i + 1).toNatClampNeg)).toNatClampNeg = st 2165 (st 610 0 - 1 - (xs (i + 1).toNatClampNeg)).toNatClampNeg) (h : K i (am_up st 576 0 0)) : am_AW code (g_law L xs (lw_P1 L xs K)) lw_k 616 (lw_lv i a b) [] st := by
  refine r_al1 (q := 617) d_law_616 rfl ?_
  refine r_al0 (q := 618) d_law_617 rfl ?_
  refine r_il4 (q := 620) d_law_618 rfl ?_
  refine r_ic (v := 1) (q := 621) d_law_620 rfl rfl ?_
  refine r_iadd (q := 622) d_law_621 rfl ?_
  refine am_sl (q := 623) d_law_622 rfl ?_ rfl ?_
  · (refine vp_of ?_ ?_ <;> (((try simp +decide only [b01, b10, b11, am_up, and_true, and_false, true_and, false_and, if_true, if_false, nn_eq] at *) <;> (try simp only [sw_or, sw_all, or_false, and_true, i32_lt, i32_le, i32_eq, i32_addw, i32_subw, i32_mulw, Int32.reduceToInt] at *) <;> omega)))
  refine r_al0 (q := 624) d_law_623 rfl ?_
  refine r_il4 (q := 626) d_law_624 rfl ?_
  refine r_ic (v := 2) (q := 627) d_law_626 rfl rfl ?_
  refine r_iadd (q := 628) d_law_627 rfl ?_
  refine am_sl (q := 629) d_law_628 rfl ?_ rfl ?_
  · (refine vp_of ?_ ?_ <;> (((try simp +decide only [b01, b10, b11, am_up, and_true, and_false, true_and, false_and, if_true, if_false, nn_eq] at *) <;> (try simp only [sw_or, sw_all, or_false, and_true, i32_lt, i32_le, i32_eq, i32_addw, i32_subw, i32_mulw, Int32.reduceToInt] at *) <;> omega)))
  refine r_vi2 mo_FW_frame d_law_629 rfl rfl rfl (q := 632) rfl ?_
  refine sp_FW_frame (by first | assumption | omega | decide | ((try simp +decide only [b01, b10, b11, am_up, and_true, and_false, true_and, false_and, if_true, if_false, nn_eq] at *) <;> (try simp only [sw_or, sw_all, or_false, and_true, i32_lt, i32_le, i32_eq, i32_addw, i32_subw, i32_mulw, Int32.reduceToInt] at *) <;> omega) | (apply_assumption; done)) (by first | assumption | omega | decide | ((try simp +decide only [b01, b10, b11, am_up, and_true, and_false, true_and, false_and, if_true, if_false, nn_eq] at *) <;> (try simp only [sw_or, sw_all, or_false, and_true, i32_lt, i32_le, i32_eq, i32_addw, i32_subw, i32_mulw, Int32.reduceToInt] at *) <;> omega) | (apply_assumption; done)) (by first | assumption | omega | decide | ((try simp +decide only [b01, b10, b11, am_up, and_true, and_false, true_and, false_and, if_true, if_false, nn_eq] at *) <;> (try simp only [sw_or, sw_all, or_false, and_true, i32_lt, i32_le, i32_eq, i32_addw, i32_subw, i32_mulw, Int32.reduceToInt] at *) <;> omega) | (apply_assumption; done)) (fun e629 => ?_) (fun e629 => ?_) (fun e629 => ?_) (fun e629 => ?_)
  · skip
    refine r_al2 (q := 633) d_law_632 rfl ?_
    refine r_al0 (q := 634) d_law_633 rfl ?_
    refine r_il4 (q := 636) d_law_634 rfl ?_
    refine r_ic (v := 1) (q := 637) d_law_636 rfl rfl ?_
    refine r_iadd (q := 638) d_law_637 rfl ?_
    refine am_sl (q := 639) d_law_638 rfl ?_ rfl ?_
    · (refine vp_of ?_ ?_ <;> (((try simp +decide only [b01, b10, b11, am_up, and_true, and_false, true_and, false_and, if_true, if_false, nn_eq] at *) <;> (try simp only [sw_or, sw_all, or_false, and_true, i32_lt, i32_le, i32_eq, i32_addw, i32_subw, i32_mulw, Int32.reduceToInt] at *) <;> omega)))
    refine r_al0 (q := 640) d_law_639 rfl ?_
    refine r_il4 (q := 642) d_law_640 rfl ?_
    refine r_ic (v := 2) (q := 643) d_law_642 rfl rfl ?_
    refine r_iadd (q := 644) d_law_643 rfl ?_
    refine am_sl (q := 645) d_law_644 rfl ?_ rfl ?_
    · (refine vp_of ?_ ?_ <;> (((try simp +decide only [b01, b10, b11, am_up, and_true, and_false, true_and, false_and, if_true, if_false, nn_eq] at *) <;> (try simp only [sw_or, sw_all, or_false, and_true, i32_lt, i32_le, i32_eq, i32_addw, i32_subw, i32_mulw, Int32.reduceToInt] at *) <;> omega)))
    refine r_vi2 mo_MO_frame d_law_645 rfl rfl rfl (q := 648) rfl ?_
    refine sp_MO_frame (by first | assumption | omega | decide | ((try simp +decide only [b01, b10, b11, am_up, and_true, and_false, true_and, false_and, if_true, if_false, nn_eq] at *) <;> (try simp only [sw_or, sw_all, or_false, and_true, i32_lt, i32_le, i32_eq, i32_addw, i32_subw, i32_mulw, Int32.reduceToInt] at *) <;> omega) | (apply_assumption; done)) (by first | assumption | omega | decide | ((try simp +decide only [b01, b10, b11, am_up, and_true, and_false, true_and, false_and, if_true, if_false, nn_eq] at *) <;> (try simp only [sw_or, sw_all, or_false, and_true, i32_lt, i32_le, i32_eq, i32_addw, i32_subw, i32_mulw, Int32.reduceToInt] at *) <;> omega) | (apply_assumption; done)) (fun e645 => ?_) (fun e645 => ?_) (fun e645 => ?_) (fun e645 => ?_)
    · skip
      refine r_ceq (tgt := 802) (q := 651) d_law_648 rfl rfl (fun e648 => ?_) (fun e648 => ?_)
      · skip
        exact am_cut (Or.inl ⟨rfl, rfl, _, _, _, rfl, h⟩)
      · skip
        refine r_ic (v := 0) (q := 652) d_law_651 rfl rfl ?_
        exfalso; first | exact absurd rfl e648 | exact absurd (c7 e629.1) e648 | exact absurd (c8 e629.1) e648 | exact absurd (c9 e629.1) e648 | (clear c7 c8 c9 c3; ((try simp +decide only [b01, b10, b11, am_up, and_true, and_false, true_and, false_and, if_true, if_false, nn_eq] at *) <;> (try simp only [sw_or, sw_all, or_false, and_true, i32_lt, i32_le, i32_eq, i32_addw, i32_subw, i32_mulw, Int32.reduceToInt] at *) <;> omega))
    · skip
      refine r_ceq (tgt := 802) (q := 651) d_law_648 rfl rfl (fun e648 => ?_) (fun e648 => ?_)
      · skip
        exact am_cut (Or.inl ⟨rfl, rfl, _, _, _, rfl, h⟩)
      · skip
        refine r_ic (v := 0) (q := 652) d_law_651 rfl rfl ?_
        exfalso; first | exact absurd rfl e648 | exact absurd (c7 e629.1) e648 | exact absurd (c8 e629.1) e648 | exact absurd (c9 e629.1) e648 | (clear c7 c8 c9 c3; ((try simp +decide only [b01, b10, b11, am_up, and_true, and_false, true_and, false_and, if_true, if_false, nn_eq] at *) <;> (try simp only [sw_or, sw_all, or_false, and_true, i32_lt, i32_le, i32_eq, i32_addw, i32_subw, i32_mulw, Int32.reduceToInt] at *) <;> omega))
    · skip
      refine r_ceq (tgt := 802) (q := 651) d_law_648 rfl rfl (fun e648 => ?_) (fun e648 => ?_)
      · skip
        exact am_cut (Or.inl ⟨rfl, rfl, _, _, _, rfl, h⟩)
      · skip
        refine r_ic (v := 0) (q := 652) d_law_651 rfl rfl ?_
        exfalso; first | exact absurd rfl e648 | exact absurd (c7 e629.1) e648 | exact absurd (c8 e629.1) e648 | exact absurd (c9 e629.1) e648 | (clear c7 c8 c9 c3; ((try simp +decide only [b01, b10, b11, am_up, and_true, and_false, true_and, false_and, if_true, if_false, nn_eq] at *) <;> (try simp only [sw_or, sw_all, or_false, and_true, i32_lt, i32_le, i32_eq, i32_addw, i32_subw, i32_mulw, Int32.reduceToInt] at *) <;> omega))
    · skip
      refine r_ceq (tgt := 802) (q := 651) d_law_648 rfl rfl (fun e648 => ?_) (fun e648 => ?_)
      · skip
        exact am_cut (Or.inl ⟨rfl, rfl, _, _, _, rfl, h⟩)
      · skip
        refine r_ic (v := 0) (q := 652) d_law_651 rfl rfl ?_
        exfalso; first | exact absurd rfl e648 | exact absurd (c7 e629.1) e648 | exact absurd (c8 e629.1) e648 | exact absurd (c9 e629.1) e648 | (clear c7 c8 c9 c3; ((try simp +decide only [b01, b10, b11, am_up, and_true, and_false, true_and, false_and, if_true, if_false, nn_eq] at *) <;> (try simp only [sw_or, sw_all, or_false, and_true, i32_lt, i32_le, i32_eq, i32_addw, i32_subw, i32_mulw, Int32.reduceToInt] at *) <;> omega))
  · skip
    refine r_al2 (q := 633) d_law_632 rfl ?_
    refine r_al0 (q := 634) d_law_633 rfl ?_
    refine r_il4 (q := 636) d_law_634 rfl ?_
    refine r_ic (v := 1) (q := 637) d_law_636 rfl rfl ?_
    refine r_iadd (q := 638) d_law_637 rfl ?_
    refine am_sl (q := 639) d_law_638 rfl ?_ rfl ?_
    · (refine vp_of ?_ ?_ <;> (((try simp +decide only [b01, b10, b11, am_up, and_true, and_false, true_and, false_and, if_true, if_false, nn_eq] at *) <;> (try simp only [sw_or, sw_all, or_false, and_true, i32_lt, i32_le, i32_eq, i32_addw, i32_subw, i32_mulw, Int32.reduceToInt] at *) <;> omega)))
    refine r_al0 (q := 640) d_law_639 rfl ?_
    refine r_il4 (q := 642) d_law_640 rfl ?_
    refine r_ic (v := 2) (q := 643) d_law_642 rfl rfl ?_
    refine r_iadd (q := 644) d_law_643 rfl ?_
    refine am_sl (q := 645) d_law_644 rfl ?_ rfl ?_
    · (refine vp_of ?_ ?_ <;> (((try simp +decide only [b01, b10, b11, am_up, and_true, and_false, true_and, false_and, if_true, if_false, nn_eq] at *) <;> (try simp only [sw_or, sw_all, or_false, and_true, i32_lt, i32_le, i32_eq, i32_addw, i32_subw, i32_mulw, Int32.reduceToInt] at *) <;> omega)))
    refine r_vi2 mo_MO_frame d_law_645 rfl rfl rfl (q := 648) rfl ?_
    refine sp_MO_frame (by first | assumption | omega | decide | ((try simp +decide only [b01, b10, b11, am_up, and_true, and_false, true_and, false_and, if_true, if_false, nn_eq] at *) <;> (try simp only [sw_or, sw_all, or_false, and_true, i32_lt, i32_le, i32_eq, i32_addw, i32_subw, i32_mulw, Int32.reduceToInt] at *) <;> omega) | (apply_assumption; done)) (by first | assumption | omega | decide | ((try simp +decide only [b01, b10, b11, am_up, and_true, and_false, true_and, false_and, if_true, if_false, nn_eq] at *) <;> (try simp only [sw_or, sw_all, or_false, and_true, i32_lt, i32_le, i32_eq, i32_addw, i32_subw, i32_mulw, Int32.reduceToInt] at *) <;> omega) | (apply_assumption; done)) (fun e645 => ?_) (fun e645 => ?_) (fun e645 => ?_) (fun e645 => ?_)
    · skip
      refine r_ceq (tgt := 802) (q := 651) d_law_648 rfl rfl (fun e648 => ?_) (fun e648 => ?_)
      · skip
        exact am_cut (Or.inl ⟨rfl, rfl, _, _, _, rfl, h⟩)
      · skip
        refine r_ic (v := 0) (q := 652) d_law_651 rfl rfl ?_
        exfalso; first | exact absurd rfl e648 | exact absurd (c7 e629.1) e648 | exact absurd (c8 e629.1) e648 | exact absurd (c9 e629.1) e648 | (clear c7 c8 c9 c3; ((try simp +decide only [b01, b10, b11, am_up, and_true, and_false, true_and, false_and, if_true, if_false, nn_eq] at *) <;> (try simp only [sw_or, sw_all, or_false, and_true, i32_lt, i32_le, i32_eq, i32_addw, i32_subw, i32_mulw, Int32.reduceToInt] at *) <;> omega))
    · skip
      refine r_ceq (tgt := 802) (q := 651) d_law_648 rfl rfl (fun e648 => ?_) (fun e648 => ?_)
      · skip
        exact am_cut (Or.inl ⟨rfl, rfl, _, _, _, rfl, h⟩)
      · skip
        refine r_ic (v := 0) (q := 652) d_law_651 rfl rfl ?_
        exfalso; first | exact absurd rfl e648 | exact absurd (c7 e629.1) e648 | exact absurd (c8 e629.1) e648 | exact absurd (c9 e629.1) e648 | (clear c7 c8 c9 c3; ((try simp +decide only [b01, b10, b11, am_up, and_true, and_false, true_and, false_and, if_true, if_false, nn_eq] at *) <;> (try simp only [sw_or, sw_all, or_false, and_true, i32_lt, i32_le, i32_eq, i32_addw, i32_subw, i32_mulw, Int32.reduceToInt] at *) <;> omega))
    · skip
      refine r_ceq (tgt := 802) (q := 651) d_law_648 rfl rfl (fun e648 => ?_) (fun e648 => ?_)
      · skip
        exact am_cut (Or.inl ⟨rfl, rfl, _, _, _, rfl, h⟩)
      · skip
        refine r_ic (v := 0) (q := 652) d_law_651 rfl rfl ?_
        exfalso; first | exact absurd rfl e648 | exact absurd (c7 e629.1) e648 | exact absurd (c8 e629.1) e648 | exact absurd (c9 e629.1) e648 | (clear c7 c8 c9 c3; ((try simp +decide only [b01, b10, b11, am_up, and_true, and_false, true_and, false_and, if_true, if_false, nn_eq] at *) <;> (try simp only [sw_or, sw_all, or_false, and_true, i32_lt, i32_le, i32_eq, i32_addw, i32_subw, i32_mulw, Int32.reduceToInt] at *) <;> omega))
    · skip
      refine r_ceq (tgt := 802) (q := 651) d_law_648 rfl rfl (fun e648 => ?_) (fun e648 => ?_)
      · skip
        exact am_cut (Or.inl ⟨rfl, rfl, _, _, _, rfl, h⟩)
      · skip
        refine r_ic (v := 0) (q := 652) d_law_651 rfl rfl ?_
        exfalso; first | exact absurd rfl e648 | exact absurd (c7 e629.1) e648 | exact absurd (c8 e629.1) e648 | exact absurd (c9 e629.1) e648 | (clear c7 c8 c9 c3; ((try simp +decide only [b01, b10, b11, am_up, and_true, and_false, true_and, false_and, if_true, if_false, nn_eq] at *) <;> (try simp only [sw_or, sw_all, or_false, and_true, i32_lt, i32_le, i32_eq, i32_addw, i32_subw, i32_mulw, Int32.reduceToInt] at *) <;> omega))
  · skip
    refine r_al2 (q := 633) d_law_632 rfl ?_
    refine r_al0 (q := 634) d_law_633 rfl ?_
    refine r_il4 (q := 636) d_law_634 rfl ?_
    refine r_ic (v := 1) (q := 637) d_law_636 rfl rfl ?_
    refine r_iadd (q := 638) d_law_637 rfl ?_
    refine am_sl (q := 639) d_law_638 rfl ?_ rfl ?_
    · (refine vp_of ?_ ?_ <;> (((try simp +decide only [b01, b10, b11, am_up, and_true, and_false, true_and, false_and, if_true, if_false, nn_eq] at *) <;> (try simp only [sw_or, sw_all, or_false, and_true, i32_lt, i32_le, i32_eq, i32_addw, i32_subw, i32_mulw, Int32.reduceToInt] at *) <;> omega)))
    refine r_al0 (q := 640) d_law_639 rfl ?_
    refine r_il4 (q := 642) d_law_640 rfl ?_
    refine r_ic (v := 2) (q := 643) d_law_642 rfl rfl ?_
    refine r_iadd (q := 644) d_law_643 rfl ?_
    refine am_sl (q := 645) d_law_644 rfl ?_ rfl ?_
    · (refine vp_of ?_ ?_ <;> (((try simp +decide only [b01, b10, b11, am_up, and_true, and_false, true_and, false_and, if_true, if_false, nn_eq] at *) <;> (try simp only [sw_or, sw_all, or_false, and_true, i32_lt, i32_le, i32_eq, i32_addw, i32_subw, i32_mulw, Int32.reduceToInt] at *) <;> omega)))
    refine r_vi2 mo_MO_frame d_law_645 rfl rfl rfl (q := 648) rfl ?_
    refine sp_MO_frame (by first | assumption | omega | decide | ((try simp +decide only [b01, b10, b11, am_up, and_true, and_false, true_and, false_and, if_true, if_false, nn_eq] at *) <;> (try simp only [sw_or, sw_all, or_false, and_true, i32_lt, i32_le, i32_eq, i32_addw, i32_subw, i32_mulw, Int32.reduceToInt] at *) <;> omega) | (apply_assumption; done)) (by first | assumption | omega | decide | ((try simp +decide only [b01, b10, b11, am_up, and_true, and_false, true_and, false_and, if_true, if_false, nn_eq] at *) <;> (try simp only [sw_or, sw_all, or_false, and_true, i32_lt, i32_le, i32_eq, i32_addw, i32_subw, i32_mulw, Int32.reduceToInt] at *) <;> omega) | (apply_assumption; done)) (fun e645 => ?_) (fun e645 => ?_) (fun e645 => ?_) (fun e645 => ?_)
    · skip
      refine r_ceq (tgt := 802) (q := 651) d_law_648 rfl rfl (fun e648 => ?_) (fun e648 => ?_)
      · skip
        exact am_cut (Or.inl ⟨rfl, rfl, _, _, _, rfl, h⟩)
      · skip
        refine r_ic (v := 0) (q := 652) d_law_651 rfl rfl ?_
        exfalso; first | exact absurd rfl e648 | exact absurd (c7 e629.1) e648 | exact absurd (c8 e629.1) e648 | exact absurd (c9 e629.1) e648 | (clear c7 c8 c9 c3; ((try simp +decide only [b01, b10, b11, am_up, and_true, and_false, true_and, false_and, if_true, if_false, nn_eq] at *) <;> (try simp only [sw_or, sw_all, or_false, and_true, i32_lt, i32_le, i32_eq, i32_addw, i32_subw, i32_mulw, Int32.reduceToInt] at *) <;> omega))
    · skip
      refine r_ceq (tgt := 802) (q := 651) d_law_648 rfl rfl (fun e648 => ?_) (fun e648 => ?_)
      · skip
        exact am_cut (Or.inl ⟨rfl, rfl, _, _, _, rfl, h⟩)
      · skip
        refine r_ic (v := 0) (q := 652) d_law_651 rfl rfl ?_
        exfalso; first | exact absurd rfl e648 | exact absurd (c7 e629.1) e648 | exact absurd (c8 e629.1) e648 | exact absurd (c9 e629.1) e648 | (clear c7 c8 c9 c3; ((try simp +decide only [b01, b10, b11, am_up, and_true, and_false, true_and, false_and, if_true, if_false, nn_eq] at *) <;> (try simp only [sw_or, sw_all, or_false, and_true, i32_lt, i32_le, i32_eq, i32_addw, i32_subw, i32_mulw, Int32.reduceToInt] at *) <;> omega))
    · skip
      refine r_ceq (tgt := 802) (q := 651) d_law_648 rfl rfl (fun e648 => ?_) (fun e648 => ?_)
      · skip
        exact am_cut (Or.inl ⟨rfl, rfl, _, _, _, rfl, h⟩)
      · skip
        refine r_ic (v := 0) (q := 652) d_law_651 rfl rfl ?_
        exfalso; first | exact absurd rfl e648 | exact absurd (c7 e629.1) e648 | exact absurd (c8 e629.1) e648 | exact absurd (c9 e629.1) e648 | (clear c7 c8 c9 c3; ((try simp +decide only [b01, b10, b11, am_up, and_true, and_false, true_and, false_and, if_true, if_false, nn_eq] at *) <;> (try simp only [sw_or, sw_all, or_false, and_true, i32_lt, i32_le, i32_eq, i32_addw, i32_subw, i32_mulw, Int32.reduceToInt] at *) <;> omega))
    · skip
      refine r_ceq (tgt := 802) (q := 651) d_law_648 rfl rfl (fun e648 => ?_) (fun e648 => ?_)
      · skip
        exact am_cut (Or.inl ⟨rfl, rfl, _, _, _, rfl, h⟩)
      · skip
        refine r_ic (v := 0) (q := 652) d_law_651 rfl rfl ?_
        exfalso; first | exact absurd rfl e648 | exact absurd (c7 e629.1) e648 | exact absurd (c8 e629.1) e648 | exact absurd (c9 e629.1) e648 | (clear c7 c8 c9 c3; ((try simp +decide only [b01, b10, b11, am_up, and_true, and_false, true_and, false_and, if_true, if_false, nn_eq] at *) <;> (try simp only [sw_or, sw_all, or_false, and_true, i32_lt, i32_le, i32_eq, i32_addw, i32_subw, i32_mulw, Int32.reduceToInt] at *) <;> omega))
  · skip
    refine r_al2 (q := 633) d_law_632 rfl ?_
    refine r_al0 (q := 634) d_law_633 rfl ?_
    refine r_il4 (q := 636) d_law_634 rfl ?_
    refine r_ic (v := 1) (q := 637) d_law_636 rfl rfl ?_
    refine r_iadd (q := 638) d_law_637 rfl ?_
    refine am_sl (q := 639) d_law_638 rfl ?_ rfl ?_
    · (refine vp_of ?_ ?_ <;> (((try simp +decide only [b01, b10, b11, am_up, and_true, and_false, true_and, false_and, if_true, if_false, nn_eq] at *) <;> (try simp only [sw_or, sw_all, or_false, and_true, i32_lt, i32_le, i32_eq, i32_addw, i32_subw, i32_mulw, Int32.reduceToInt] at *) <;> omega)))
    refine r_al0 (q := 640) d_law_639 rfl ?_
    refine r_il4 (q := 642) d_law_640 rfl ?_
    refine r_ic (v := 2) (q := 643) d_law_642 rfl rfl ?_
    refine r_iadd (q := 644) d_law_643 rfl ?_
    refine am_sl (q := 645) d_law_644 rfl ?_ rfl ?_
    · (refine vp_of ?_ ?_ <;> (((try simp +decide only [b01, b10, b11, am_up, and_true, and_false, true_and, false_and, if_true, if_false, nn_eq] at *) <;> (try simp only [sw_or, sw_all, or_false, and_true, i32_lt, i32_le, i32_eq, i32_addw, i32_subw, i32_mulw, Int32.reduceToInt] at *) <;> omega)))
    refine r_vi2 mo_MO_frame d_law_645 rfl rfl rfl (q := 648) rfl ?_
    refine sp_MO_frame (by first | assumption | omega | decide | ((try simp +decide only [b01, b10, b11, am_up, and_true, and_false, true_and, false_and, if_true, if_false, nn_eq] at *) <;> (try simp only [sw_or, sw_all, or_false, and_true, i32_lt, i32_le, i32_eq, i32_addw, i32_subw, i32_mulw, Int32.reduceToInt] at *) <;> omega) | (apply_assumption; done)) (by first | assumption | omega | decide | ((try simp +decide only [b01, b10, b11, am_up, and_true, and_false, true_and, false_and, if_true, if_false, nn_eq] at *) <;> (try simp only [sw_or, sw_all, or_false, and_true, i32_lt, i32_le, i32_eq, i32_addw, i32_subw, i32_mulw, Int32.reduceToInt] at *) <;> omega) | (apply_assumption; done)) (fun e645 => ?_) (fun e645 => ?_) (fun e645 => ?_) (fun e645 => ?_)
    · skip
      refine r_ceq (tgt := 802) (q := 651) d_law_648 rfl rfl (fun e648 => ?_) (fun e648 => ?_)
      · skip
        exact am_cut (Or.inl ⟨rfl, rfl, _, _, _, rfl, h⟩)
      · skip
        refine r_ic (v := 0) (q := 652) d_law_651 rfl rfl ?_
        exfalso; first | exact absurd rfl e648 | exact absurd (c7 e629.1) e648 | exact absurd (c8 e629.1) e648 | exact absurd (c9 e629.1) e648 | (clear c7 c8 c9 c3; ((try simp +decide only [b01, b10, b11, am_up, and_true, and_false, true_and, false_and, if_true, if_false, nn_eq] at *) <;> (try simp only [sw_or, sw_all, or_false, and_true, i32_lt, i32_le, i32_eq, i32_addw, i32_subw, i32_mulw, Int32.reduceToInt] at *) <;> omega))
    · skip
      refine r_ceq (tgt := 802) (q := 651) d_law_648 rfl rfl (fun e648 => ?_) (fun e648 => ?_)
      · skip
        exact am_cut (Or.inl ⟨rfl, rfl, _, _, _, rfl, h⟩)
      · skip
        refine r_ic (v := 0) (q := 652) d_law_651 rfl rfl ?_
        exfalso; first | exact absurd rfl e648 | exact absurd (c7 e629.1) e648 | exact absurd (c8 e629.1) e648 | exact absurd (c9 e629.1) e648 | (clear c7 c8 c9 c3; ((try simp +decide only [b01, b10, b11, am_up, and_true, and_false, true_and, false_and, if_true, if_false, nn_eq] at *) <;> (try simp only [sw_or, sw_all, or_false, and_true, i32_lt, i32_le, i32_eq, i32_addw, i32_subw, i32_mulw, Int32.reduceToInt] at *) <;> omega))
    · skip
      refine r_ceq (tgt := 802) (q := 651) d_law_648 rfl rfl (fun e648 => ?_) (fun e648 => ?_)
      · skip
        exact am_cut (Or.inl ⟨rfl, rfl, _, _, _, rfl, h⟩)
      · skip
        refine r_ic (v := 0) (q := 652) d_law_651 rfl rfl ?_
        exfalso; first | exact absurd rfl e648 | exact absurd (c7 e629.1) e648 | exact absurd (c8 e629.1) e648 | exact absurd (c9 e629.1) e648 | (clear c7 c8 c9 c3; ((try simp +decide only [b01, b10, b11, am_up, and_true, and_false, true_and, false_and, if_true, if_false, nn_eq] at *) <;> (try simp only [sw_or, sw_all, or_false, and_true, i32_lt, i32_le, i32_eq, i32_addw, i32_subw, i32_mulw, Int32.reduceToInt] at *) <;> omega))
    · skip
      refine r_ceq (tgt := 802) (q := 651) d_law_648 rfl rfl (fun e648 => ?_) (fun e648 => ?_)
      · skip
        exact am_cut (Or.inl ⟨rfl, rfl, _, _, _, rfl, h⟩)
      · skip
        refine r_ic (v := 0) (q := 652) d_law_651 rfl rfl ?_
        exfalso; first | exact absurd rfl e648 | exact absurd (c7 e629.1) e648 | exact absurd (c8 e629.1) e648 | exact absurd (c9 e629.1) e648 | (clear c7 c8 c9 c3; ((try simp +decide only [b01, b10, b11, am_up, and_true, and_false, true_and, false_and, if_true, if_false, nn_eq] at *) <;> (try simp only [sw_or, sw_all, or_false, and_true, i32_lt, i32_le, i32_eq, i32_addw, i32_subw, i32_mulw, Int32.reduceToInt] at *) <;> omega))
theorem la_head {L : Nat} {xs : Nat → Int32} {K : Int32 → am_S → Prop} {i : Int32} {a b : Option am_V} {st : am_S} (i0 : 0 ≤ i.toInt) (i6 : i.toInt + 6 ≤ (L : Int)) (iL : L ≤ 3072) (h0 : (xs i.toNatClampNeg &&& 31).toInt = 0 → am_AW code (g_law L xs (lw_P1 L xs K)) lw_k 128 (lw_lv i a b) [] st) (h1 : (xs i.toNatClampNeg &&& 31).toInt = 1 → am_AW code (g_law L xs (lw_P1 L xs K)) lw_k 184 (lw_lv i a b) [] st) (h2 : (xs i.toNatClampNeg &&& 31).toInt = 2 → am_AW code (g_law L xs (lw_P1 L xs K)) lw_k 304 (lw_lv i a b) [] st) (h3 : (xs i.toNatClampNeg &&& 31).toInt = 3 → am_AW code (g_law L xs (lw_P1 L xs K)) lw_k 365 (lw_lv i a b) [] st) (h4 : (xs i.toNatClampNeg &&& 31).toInt = 4 → am_AW code (g_law L xs (lw_P1 L xs K)) lw_k 409 (lw_lv i a b) [] st) (h5 : (xs i.toNatClampNeg &&& 31).toInt = 5 → am_AW code (g_law L xs (lw_P1 L xs K)) lw_k 422 (lw_lv i a b) [] st) (h6 : (xs i.toNatClampNeg &&& 31).toInt = 6 → am_AW code (g_law L xs (lw_P1 L xs K)) lw_k 433 (lw_lv i a b) [] st) (h7 : (xs i.toNatClampNeg &&& 31).toInt = 7 → am_AW code (g_law L xs (lw_P1 L xs K)) lw_k 458 (lw_lv i a b) [] st) (h8 : (xs i.toNatClampNeg &&& 31).toInt = 8 → am_AW code (g_law L xs (lw_P1 L xs K)) lw_k 521 (lw_lv i a b) [] st) (h9 : (xs i.toNatClampNeg &&& 31).toInt = 9 → am_AW code (g_law L xs (lw_P1 L xs K)) lw_k 577 (lw_lv i a b) [] st) (h10 : (xs i.toNatClampNeg &&& 31).toInt = 10 → am_AW code (g_law L xs (lw_P1 L xs K)) lw_k 590 (lw_lv i a b) [] st) (h11 : (xs i.toNatClampNeg &&& 31).toInt = 11 → am_AW code (g_law L xs (lw_P1 L xs K)) lw_k 603 (lw_lv i a b) [] st) (h12 : (xs i.toNatClampNeg &&& 31).toInt = 12 → am_AW code (g_law L xs (lw_P1 L xs K)) lw_k 616 (lw_lv i a b) [] st) (h13 : (xs i.toNatClampNeg &&& 31).toInt = 13 → am_AW code (g_law L xs (lw_P1 L xs K)) lw_k 653 (lw_lv i a b) [] st) (h14 : (xs i.toNatClampNeg &&& 31).toInt = 14 → am_AW code (g_law L xs (lw_P1 L xs K)) lw_k 678 (lw_lv i a b) [] st) (h15 : (xs i.toNatClampNeg &&& 31).toInt = 15 → am_AW code (g_law L xs (lw_P1 L xs K)) lw_k 703 (lw_lv i a b) [] st) (h16 : (xs i.toNatClampNeg &&& 31).toInt = 16 → am_AW code (g_law L xs (lw_P1 L xs K)) lw_k 728 (lw_lv i a b) [] st) (h17 : (xs i.toNatClampNeg &&& 31).toInt = 17 → am_AW code (g_law L xs (lw_P1 L xs K)) lw_k 753 (lw_lv i a b) [] st) (hd : ¬ (0 ≤ (xs i.toNatClampNeg &&& 31).toInt ∧ (xs i.toNatClampNeg &&& 31).toInt ≤ 17) → K i st) : lw_it L xs K i a b st := by
  unfold lw_it
  have iN : (nI L).toInt = (L : Int) := by
    unfold nI
    exact Int32.toInt_ofNat_of_lt (by omega)
  have iS : (nI L - 6).toInt = (L : Int) - 6 := by
    rw [i32_subw, iN]
    simp only [Int32.reduceToInt]
    omega
  refine r_il4 (q := 25) d_law_23 rfl ?_
  refine r_al0 (q := 26) d_law_25 rfl ?_
  refine am_sn (q := 27) d_law_26 rfl rfl ?_
  refine r_bp (v := 6) (q := 29) d_law_27 rfl rfl ?_
  refine r_isub (q := 30) d_law_29 rfl ?_
  refine r_cgt (tgt := 808) (q := 33) d_law_30 rfl rfl (fun e30 => ?_) (fun e30 => ?_)
  · skip
    first | exact am_cut (Or.inl ⟨rfl, rfl, _, _, _, rfl, hd (by simp only [sw_all, sw_or, or_false, and_true] at e40; omega)⟩) | (exfalso; rw [i32_lt, iS] at e30; omega) | exact h0 (e40.resolve_right id) | exact h1 (e40.resolve_right id) | exact h2 (e40.resolve_right id) | exact h3 (e40.resolve_right id) | exact h4 (e40.resolve_right id) | exact h5 (e40.resolve_right id) | exact h6 (e40.resolve_right id) | exact h7 (e40.resolve_right id) | exact h8 (e40.resolve_right id) | exact h9 (e40.resolve_right id) | exact h10 (e40.resolve_right id) | exact h11 (e40.resolve_right id) | exact h12 (e40.resolve_right id) | exact h13 (e40.resolve_right id) | exact h14 (e40.resolve_right id) | exact h15 (e40.resolve_right id) | exact h16 (e40.resolve_right id) | exact h17 (e40.resolve_right id)
  · skip
    refine r_al0 (q := 34) d_law_33 rfl ?_
    refine r_il4 (q := 36) d_law_34 rfl ?_
    refine am_sl (q := 37) d_law_36 rfl ?_ rfl ?_
    · (refine vp_of ?_ ?_ <;> (((try simp +decide only [b01, b10, b11, am_up, and_true, and_false, true_and, false_and, if_true, if_false, nn_eq] at *) <;> (try simp only [sw_or, sw_all, or_false, and_true, i32_lt, i32_le, i32_eq, i32_addw, i32_subw, i32_mulw, Int32.reduceToInt] at *) <;> omega)))
    refine r_bp (v := 31) (q := 39) d_law_37 rfl rfl ?_
    refine r_iand (q := 40) d_law_39 rfl ?_
    refine r_tsw [([0], 128), ([1], 184), ([2], 304), ([3], 365), ([4], 409), ([5], 422), ([6], 433), ([7], 458), ([8], 521), ([9], 577), ([10], 590), ([11], 603), ([12], 616), ([13], 653), ([14], 678), ([15], 703), ([16], 728), ([17], 753)] (tgt := 802) d_law_40 (by decide +kernel) (And.intro (fun e40 => ?_) (And.intro (fun e40 => ?_) (And.intro (fun e40 => ?_) (And.intro (fun e40 => ?_) (And.intro (fun e40 => ?_) (And.intro (fun e40 => ?_) (And.intro (fun e40 => ?_) (And.intro (fun e40 => ?_) (And.intro (fun e40 => ?_) (And.intro (fun e40 => ?_) (And.intro (fun e40 => ?_) (And.intro (fun e40 => ?_) (And.intro (fun e40 => ?_) (And.intro (fun e40 => ?_) (And.intro (fun e40 => ?_) (And.intro (fun e40 => ?_) (And.intro (fun e40 => ?_) (And.intro (fun e40 => ?_) trivial)))))))))))))))))) (fun e40 => ?_)
    · skip
      first | exact am_cut (Or.inl ⟨rfl, rfl, _, _, _, rfl, hd (by simp only [sw_all, sw_or, or_false, and_true] at e40; omega)⟩) | (exfalso; rw [i32_lt, iS] at e30; omega) | exact h0 (e40.resolve_right id) | exact h1 (e40.resolve_right id) | exact h2 (e40.resolve_right id) | exact h3 (e40.resolve_right id) | exact h4 (e40.resolve_right id) | exact h5 (e40.resolve_right id) | exact h6 (e40.resolve_right id) | exact h7 (e40.resolve_right id) | exact h8 (e40.resolve_right id) | exact h9 (e40.resolve_right id) | exact h10 (e40.resolve_right id) | exact h11 (e40.resolve_right id) | exact h12 (e40.resolve_right id) | exact h13 (e40.resolve_right id) | exact h14 (e40.resolve_right id) | exact h15 (e40.resolve_right id) | exact h16 (e40.resolve_right id) | exact h17 (e40.resolve_right id)
    · skip
      first | exact am_cut (Or.inl ⟨rfl, rfl, _, _, _, rfl, hd (by simp only [sw_all, sw_or, or_false, and_true] at e40; omega)⟩) | (exfalso; rw [i32_lt, iS] at e30; omega) | exact h0 (e40.resolve_right id) | exact h1 (e40.resolve_right id) | exact h2 (e40.resolve_right id) | exact h3 (e40.resolve_right id) | exact h4 (e40.resolve_right id) | exact h5 (e40.resolve_right id) | exact h6 (e40.resolve_right id) | exact h7 (e40.resolve_right id) | exact h8 (e40.resolve_right id) | exact h9 (e40.resolve_right id) | exact h10 (e40.resolve_right id) | exact h11 (e40.resolve_right id) | exact h12 (e40.resolve_right id) | exact h13 (e40.resolve_right id) | exact h14 (e40.resolve_right id) | exact h15 (e40.resolve_right id) | exact h16 (e40.resolve_right id) | exact h17 (e40.resolve_right id)
    · skip
      first | exact am_cut (Or.inl ⟨rfl, rfl, _, _, _, rfl, hd (by simp only [sw_all, sw_or, or_false, and_true] at e40; omega)⟩) | (exfalso; rw [i32_lt, iS] at e30; omega) | exact h0 (e40.resolve_right id) | exact h1 (e40.resolve_right id) | exact h2 (e40.resolve_right id) | exact h3 (e40.resolve_right id) | exact h4 (e40.resolve_right id) | exact h5 (e40.resolve_right id) | exact h6 (e40.resolve_right id) | exact h7 (e40.resolve_right id) | exact h8 (e40.resolve_right id) | exact h9 (e40.resolve_right id) | exact h10 (e40.resolve_right id) | exact h11 (e40.resolve_right id) | exact h12 (e40.resolve_right id) | exact h13 (e40.resolve_right id) | exact h14 (e40.resolve_right id) | exact h15 (e40.resolve_right id) | exact h16 (e40.resolve_right id) | exact h17 (e40.resolve_right id)
    · skip
      first | exact am_cut (Or.inl ⟨rfl, rfl, _, _, _, rfl, hd (by simp only [sw_all, sw_or, or_false, and_true] at e40; omega)⟩) | (exfalso; rw [i32_lt, iS] at e30; omega) | exact h0 (e40.resolve_right id) | exact h1 (e40.resolve_right id) | exact h2 (e40.resolve_right id) | exact h3 (e40.resolve_right id) | exact h4 (e40.resolve_right id) | exact h5 (e40.resolve_right id) | exact h6 (e40.resolve_right id) | exact h7 (e40.resolve_right id) | exact h8 (e40.resolve_right id) | exact h9 (e40.resolve_right id) | exact h10 (e40.resolve_right id) | exact h11 (e40.resolve_right id) | exact h12 (e40.resolve_right id) | exact h13 (e40.resolve_right id) | exact h14 (e40.resolve_right id) | exact h15 (e40.resolve_right id) | exact h16 (e40.resolve_right id) | exact h17 (e40.resolve_right id)
    · skip
      first | exact am_cut (Or.inl ⟨rfl, rfl, _, _, _, rfl, hd (by simp only [sw_all, sw_or, or_false, and_true] at e40; omega)⟩) | (exfalso; rw [i32_lt, iS] at e30; omega) | exact h0 (e40.resolve_right id) | exact h1 (e40.resolve_right id) | exact h2 (e40.resolve_right id) | exact h3 (e40.resolve_right id) | exact h4 (e40.resolve_right id) | exact h5 (e40.resolve_right id) | exact h6 (e40.resolve_right id) | exact h7 (e40.resolve_right id) | exact h8 (e40.resolve_right id) | exact h9 (e40.resolve_right id) | exact h10 (e40.resolve_right id) | exact h11 (e40.resolve_right id) | exact h12 (e40.resolve_right id) | exact h13 (e40.resolve_right id) | exact h14 (e40.resolve_right id) | exact h15 (e40.resolve_right id) | exact h16 (e40.resolve_right id) | exact h17 (e40.resolve_right id)
    · skip
      first | exact am_cut (Or.inl ⟨rfl, rfl, _, _, _, rfl, hd (by simp only [sw_all, sw_or, or_false, and_true] at e40; omega)⟩) | (exfalso; rw [i32_lt, iS] at e30; omega) | exact h0 (e40.resolve_right id) | exact h1 (e40.resolve_right id) | exact h2 (e40.resolve_right id) | exact h3 (e40.resolve_right id) | exact h4 (e40.resolve_right id) | exact h5 (e40.resolve_right id) | exact h6 (e40.resolve_right id) | exact h7 (e40.resolve_right id) | exact h8 (e40.resolve_right id) | exact h9 (e40.resolve_right id) | exact h10 (e40.resolve_right id) | exact h11 (e40.resolve_right id) | exact h12 (e40.resolve_right id) | exact h13 (e40.resolve_right id) | exact h14 (e40.resolve_right id) | exact h15 (e40.resolve_right id) | exact h16 (e40.resolve_right id) | exact h17 (e40.resolve_right id)
    · skip
      first | exact am_cut (Or.inl ⟨rfl, rfl, _, _, _, rfl, hd (by simp only [sw_all, sw_or, or_false, and_true] at e40; omega)⟩) | (exfalso; rw [i32_lt, iS] at e30; omega) | exact h0 (e40.resolve_right id) | exact h1 (e40.resolve_right id) | exact h2 (e40.resolve_right id) | exact h3 (e40.resolve_right id) | exact h4 (e40.resolve_right id) | exact h5 (e40.resolve_right id) | exact h6 (e40.resolve_right id) | exact h7 (e40.resolve_right id) | exact h8 (e40.resolve_right id) | exact h9 (e40.resolve_right id) | exact h10 (e40.resolve_right id) | exact h11 (e40.resolve_right id) | exact h12 (e40.resolve_right id) | exact h13 (e40.resolve_right id) | exact h14 (e40.resolve_right id) | exact h15 (e40.resolve_right id) | exact h16 (e40.resolve_right id) | exact h17 (e40.resolve_right id)
    · skip
      first | exact am_cut (Or.inl ⟨rfl, rfl, _, _, _, rfl, hd (by simp only [sw_all, sw_or, or_false, and_true] at e40; omega)⟩) | (exfalso; rw [i32_lt, iS] at e30; omega) | exact h0 (e40.resolve_right id) | exact h1 (e40.resolve_right id) | exact h2 (e40.resolve_right id) | exact h3 (e40.resolve_right id) | exact h4 (e40.resolve_right id) | exact h5 (e40.resolve_right id) | exact h6 (e40.resolve_right id) | exact h7 (e40.resolve_right id) | exact h8 (e40.resolve_right id) | exact h9 (e40.resolve_right id) | exact h10 (e40.resolve_right id) | exact h11 (e40.resolve_right id) | exact h12 (e40.resolve_right id) | exact h13 (e40.resolve_right id) | exact h14 (e40.resolve_right id) | exact h15 (e40.resolve_right id) | exact h16 (e40.resolve_right id) | exact h17 (e40.resolve_right id)
    · skip
      first | exact am_cut (Or.inl ⟨rfl, rfl, _, _, _, rfl, hd (by simp only [sw_all, sw_or, or_false, and_true] at e40; omega)⟩) | (exfalso; rw [i32_lt, iS] at e30; omega) | exact h0 (e40.resolve_right id) | exact h1 (e40.resolve_right id) | exact h2 (e40.resolve_right id) | exact h3 (e40.resolve_right id) | exact h4 (e40.resolve_right id) | exact h5 (e40.resolve_right id) | exact h6 (e40.resolve_right id) | exact h7 (e40.resolve_right id) | exact h8 (e40.resolve_right id) | exact h9 (e40.resolve_right id) | exact h10 (e40.resolve_right id) | exact h11 (e40.resolve_right id) | exact h12 (e40.resolve_right id) | exact h13 (e40.resolve_right id) | exact h14 (e40.resolve_right id) | exact h15 (e40.resolve_right id) | exact h16 (e40.resolve_right id) | exact h17 (e40.resolve_right id)
    · skip
      first | exact am_cut (Or.inl ⟨rfl, rfl, _, _, _, rfl, hd (by simp only [sw_all, sw_or, or_false, and_true] at e40; omega)⟩) | (exfalso; rw [i32_lt, iS] at e30; omega) | exact h0 (e40.resolve_right id) | exact h1 (e40.resolve_right id) | exact h2 (e40.resolve_right id) | exact h3 (e40.resolve_right id) | exact h4 (e40.resolve_right id) | exact h5 (e40.resolve_right id) | exact h6 (e40.resolve_right id) | exact h7 (e40.resolve_right id) | exact h8 (e40.resolve_right id) | exact h9 (e40.resolve_right id) | exact h10 (e40.resolve_right id) | exact h11 (e40.resolve_right id) | exact h12 (e40.resolve_right id) | exact h13 (e40.resolve_right id) | exact h14 (e40.resolve_right id) | exact h15 (e40.resolve_right id) | exact h16 (e40.resolve_right id) | exact h17 (e40.resolve_right id)
    · skip
      first | exact am_cut (Or.inl ⟨rfl, rfl, _, _, _, rfl, hd (by simp only [sw_all, sw_or, or_false, and_true] at e40; omega)⟩) | (exfalso; rw [i32_lt, iS] at e30; omega) | exact h0 (e40.resolve_right id) | exact h1 (e40.resolve_right id) | exact h2 (e40.resolve_right id) | exact h3 (e40.resolve_right id) | exact h4 (e40.resolve_right id) | exact h5 (e40.resolve_right id) | exact h6 (e40.resolve_right id) | exact h7 (e40.resolve_right id) | exact h8 (e40.resolve_right id) | exact h9 (e40.resolve_right id) | exact h10 (e40.resolve_right id) | exact h11 (e40.resolve_right id) | exact h12 (e40.resolve_right id) | exact h13 (e40.resolve_right id) | exact h14 (e40.resolve_right id) | exact h15 (e40.resolve_right id) | exact h16 (e40.resolve_right id) | exact h17 (e40.resolve_right id)
    · skip
      first | exact am_cut (Or.inl ⟨rfl, rfl, _, _, _, rfl, hd (by simp only [sw_all, sw_or, or_false, and_true] at e40; omega)⟩) | (exfalso; rw [i32_lt, iS] at e30; omega) | exact h0 (e40.resolve_right id) | exact h1 (e40.resolve_right id) | exact h2 (e40.resolve_right id) | exact h3 (e40.resolve_right id) | exact h4 (e40.resolve_right id) | exact h5 (e40.resolve_right id) | exact h6 (e40.resolve_right id) | exact h7 (e40.resolve_right id) | exact h8 (e40.resolve_right id) | exact h9 (e40.resolve_right id) | exact h10 (e40.resolve_right id) | exact h11 (e40.resolve_right id) | exact h12 (e40.resolve_right id) | exact h13 (e40.resolve_right id) | exact h14 (e40.resolve_right id) | exact h15 (e40.resolve_right id) | exact h16 (e40.resolve_right id) | exact h17 (e40.resolve_right id)
    · skip
      first | exact am_cut (Or.inl ⟨rfl, rfl, _, _, _, rfl, hd (by simp only [sw_all, sw_or, or_false, and_true] at e40; omega)⟩) | (exfalso; rw [i32_lt, iS] at e30; omega) | exact h0 (e40.resolve_right id) | exact h1 (e40.resolve_right id) | exact h2 (e40.resolve_right id) | exact h3 (e40.resolve_right id) | exact h4 (e40.resolve_right id) | exact h5 (e40.resolve_right id) | exact h6 (e40.resolve_right id) | exact h7 (e40.resolve_right id) | exact h8 (e40.resolve_right id) | exact h9 (e40.resolve_right id) | exact h10 (e40.resolve_right id) | exact h11 (e40.resolve_right id) | exact h12 (e40.resolve_right id) | exact h13 (e40.resolve_right id) | exact h14 (e40.resolve_right id) | exact h15 (e40.resolve_right id) | exact h16 (e40.resolve_right id) | exact h17 (e40.resolve_right id)
    · skip
      first | exact am_cut (Or.inl ⟨rfl, rfl, _, _, _, rfl, hd (by simp only [sw_all, sw_or, or_false, and_true] at e40; omega)⟩) | (exfalso; rw [i32_lt, iS] at e30; omega) | exact h0 (e40.resolve_right id) | exact h1 (e40.resolve_right id) | exact h2 (e40.resolve_right id) | exact h3 (e40.resolve_right id) | exact h4 (e40.resolve_right id) | exact h5 (e40.resolve_right id) | exact h6 (e40.resolve_right id) | exact h7 (e40.resolve_right id) | exact h8 (e40.resolve_right id) | exact h9 (e40.resolve_right id) | exact h10 (e40.resolve_right id) | exact h11 (e40.resolve_right id) | exact h12 (e40.resolve_right id) | exact h13 (e40.resolve_right id) | exact h14 (e40.resolve_right id) | exact h15 (e40.resolve_right id) | exact h16 (e40.resolve_right id) | exact h17 (e40.resolve_right id)
    · skip
      first | exact am_cut (Or.inl ⟨rfl, rfl, _, _, _, rfl, hd (by simp only [sw_all, sw_or, or_false, and_true] at e40; omega)⟩) | (exfalso; rw [i32_lt, iS] at e30; omega) | exact h0 (e40.resolve_right id) | exact h1 (e40.resolve_right id) | exact h2 (e40.resolve_right id) | exact h3 (e40.resolve_right id) | exact h4 (e40.resolve_right id) | exact h5 (e40.resolve_right id) | exact h6 (e40.resolve_right id) | exact h7 (e40.resolve_right id) | exact h8 (e40.resolve_right id) | exact h9 (e40.resolve_right id) | exact h10 (e40.resolve_right id) | exact h11 (e40.resolve_right id) | exact h12 (e40.resolve_right id) | exact h13 (e40.resolve_right id) | exact h14 (e40.resolve_right id) | exact h15 (e40.resolve_right id) | exact h16 (e40.resolve_right id) | exact h17 (e40.resolve_right id)
    · skip
      first | exact am_cut (Or.inl ⟨rfl, rfl, _, _, _, rfl, hd (by simp only [sw_all, sw_or, or_false, and_true] at e40; omega)⟩) | (exfalso; rw [i32_lt, iS] at e30; omega) | exact h0 (e40.resolve_right id) | exact h1 (e40.resolve_right id) | exact h2 (e40.resolve_right id) | exact h3 (e40.resolve_right id) | exact h4 (e40.resolve_right id) | exact h5 (e40.resolve_right id) | exact h6 (e40.resolve_right id) | exact h7 (e40.resolve_right id) | exact h8 (e40.resolve_right id) | exact h9 (e40.resolve_right id) | exact h10 (e40.resolve_right id) | exact h11 (e40.resolve_right id) | exact h12 (e40.resolve_right id) | exact h13 (e40.resolve_right id) | exact h14 (e40.resolve_right id) | exact h15 (e40.resolve_right id) | exact h16 (e40.resolve_right id) | exact h17 (e40.resolve_right id)
    · skip
      first | exact am_cut (Or.inl ⟨rfl, rfl, _, _, _, rfl, hd (by simp only [sw_all, sw_or, or_false, and_true] at e40; omega)⟩) | (exfalso; rw [i32_lt, iS] at e30; omega) | exact h0 (e40.resolve_right id) | exact h1 (e40.resolve_right id) | exact h2 (e40.resolve_right id) | exact h3 (e40.resolve_right id) | exact h4 (e40.resolve_right id) | exact h5 (e40.resolve_right id) | exact h6 (e40.resolve_right id) | exact h7 (e40.resolve_right id) | exact h8 (e40.resolve_right id) | exact h9 (e40.resolve_right id) | exact h10 (e40.resolve_right id) | exact h11 (e40.resolve_right id) | exact h12 (e40.resolve_right id) | exact h13 (e40.resolve_right id) | exact h14 (e40.resolve_right id) | exact h15 (e40.resolve_right id) | exact h16 (e40.resolve_right id) | exact h17 (e40.resolve_right id)
    · skip
      first | exact am_cut (Or.inl ⟨rfl, rfl, _, _, _, rfl, hd (by simp only [sw_all, sw_or, or_false, and_true] at e40; omega)⟩) | (exfalso; rw [i32_lt, iS] at e30; omega) | exact h0 (e40.resolve_right id) | exact h1 (e40.resolve_right id) | exact h2 (e40.resolve_right id) | exact h3 (e40.resolve_right id) | exact h4 (e40.resolve_right id) | exact h5 (e40.resolve_right id) | exact h6 (e40.resolve_right id) | exact h7 (e40.resolve_right id) | exact h8 (e40.resolve_right id) | exact h9 (e40.resolve_right id) | exact h10 (e40.resolve_right id) | exact h11 (e40.resolve_right id) | exact h12 (e40.resolve_right id) | exact h13 (e40.resolve_right id) | exact h14 (e40.resolve_right id) | exact h15 (e40.resolve_right id) | exact h16 (e40.resolve_right id) | exact h17 (e40.resolve_right id)
    · skip
      first | exact am_cut (Or.inl ⟨rfl, rfl, _, _, _, rfl, hd (by simp only [sw_all, sw_or, or_false, and_true] at e40; omega)⟩) | (exfalso; rw [i32_lt, iS] at e30; omega) | exact h0 (e40.resolve_right id) | exact h1 (e40.resolve_right id) | exact h2 (e40.resolve_right id) | exact h3 (e40.resolve_right id) | exact h4 (e40.resolve_right id) | exact h5 (e40.resolve_right id) | exact h6 (e40.resolve_right id) | exact h7 (e40.resolve_right id) | exact h8 (e40.resolve_right id) | exact h9 (e40.resolve_right id) | exact h10 (e40.resolve_right id) | exact h11 (e40.resolve_right id) | exact h12 (e40.resolve_right id) | exact h13 (e40.resolve_right id) | exact h14 (e40.resolve_right id) | exact h15 (e40.resolve_right id) | exact h16 (e40.resolve_right id) | exact h17 (e40.resolve_right id)

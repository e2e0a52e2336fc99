/-! written by wip/whole/gen/walk.py out of 64.look.txt -/
theorem la_13 {L : Nat} {xs : Nat → Int32} {K : Int32 → am_S → Prop} {i : Int32} {a b : Option am_V} {st : am_S} (i0 : 0 ≤ i.toInt) (i6 : i.toInt + 6 ≤ (L : Int)) (iL : L ≤ 3072) (c1 : (st 518 0).toNatClampNeg < 80) (c2 : (st 0 (st 518 0).toNatClampNeg).toNatClampNeg < 8) (c3 : 0 ≤ (st 2 (st 518 0).toNatClampNeg).toInt) (c4 : 0 < (st 519 0).toInt → (st 2 (st 518 0).toNatClampNeg).toInt + (st 70 (st 0 (st 518 0).toNatClampNeg).toNatClampNeg).toInt ≤ 80) (d1 : st 603 0 = 1 → 1 ≤ (st 610 0).toInt ∧ (st 610 0).toInt ≤ 80) (d2 : st 603 0 = 1 → 0 ≤ (st 2163 (st 610 0 - 1).toNatClampNeg).toInt ∧ (st 2163 (st 610 0 - 1).toNatClampNeg).toInt < 8) (d3 : st 603 0 = 1 → 0 ≤ (st 2166 (st 610 0 - 1).toNatClampNeg).toInt ∧ (st 2166 (st 610 0 - 1).toNatClampNeg).toInt + (st 2146 (st 2163 (st 610 0 - 1).toNatClampNeg).toNatClampNeg).toInt ≤ 80) (c6 : (0 < st 519 0 ∧ 0 ≤ (xs (i + 1).toNatClampNeg) ∧ (xs (i + 1).toNatClampNeg) < st 70 (st 0 (st 518 0).toNatClampNeg).toNatClampNeg) ↔ (st 603 0 = 1 ∧ 0 ≤ (xs (i + 1).toNatClampNeg) ∧ (xs (i + 1).toNatClampNeg) < st 2146 (st 2163 (st 610 0 - 1).toNatClampNeg).toNatClampNeg)) (c7 : (0 < st 519 0 ∧ 0 ≤ (xs (i + 1).toNatClampNeg) ∧ (xs (i + 1).toNatClampNeg) < st 70 (st 0 (st 518 0).toNatClampNeg).toNatClampNeg) → st 2137 (st 2 (st 518 0).toNatClampNeg + (xs (i + 1).toNatClampNeg)).toNatClampNeg = st 2162 (st 2166 (st 610 0 - 1).toNatClampNeg + (xs (i + 1).toNatClampNeg)).toNatClampNeg) (h : K i (am_up st 576 0 0)) : am_AW code (g_law L xs (lw_P1 L xs K)) lw_k 653 (lw_lv i a b) [] st := by
  refine r_al1 (q := 654) d_law_653 rfl ?_
  refine r_al0 (q := 655) d_law_654 rfl ?_
  refine r_il4 (q := 657) d_law_655 rfl ?_
  refine r_ic (v := 1) (q := 658) d_law_657 rfl rfl ?_
  refine r_iadd (q := 659) d_law_658 rfl ?_
  refine am_sl (q := 660) d_law_659 rfl ?_ rfl ?_
  · (refine vp_of ?_ ?_ <;> (((try simp +decide only [b01, b10, b11, am_up, and_true, and_false, true_and, false_and, if_true, if_false, nn_eq] at *) <;> (try simp only [sw_or, sw_all, or_false, and_true, i32_lt, i32_le, i32_eq, i32_addw, i32_subw, i32_mulw, Int32.reduceToInt] at *) <;> omega)))
  refine r_vi1 mo_FW_local d_law_660 rfl rfl rfl (q := 663) rfl ?_
  refine sp_FW_local (by first | assumption | omega | decide | ((try simp +decide only [b01, b10, b11, am_up, and_true, and_false, true_and, false_and, if_true, if_false, nn_eq] at *) <;> (try simp only [sw_or, sw_all, or_false, and_true, i32_lt, i32_le, i32_eq, i32_addw, i32_subw, i32_mulw, Int32.reduceToInt] at *) <;> omega) | (apply_assumption; done)) (by first | assumption | omega | decide | ((try simp +decide only [b01, b10, b11, am_up, and_true, and_false, true_and, false_and, if_true, if_false, nn_eq] at *) <;> (try simp only [sw_or, sw_all, or_false, and_true, i32_lt, i32_le, i32_eq, i32_addw, i32_subw, i32_mulw, Int32.reduceToInt] at *) <;> omega) | (apply_assumption; done)) (by first | assumption | omega | decide | ((try simp +decide only [b01, b10, b11, am_up, and_true, and_false, true_and, false_and, if_true, if_false, nn_eq] at *) <;> (try simp only [sw_or, sw_all, or_false, and_true, i32_lt, i32_le, i32_eq, i32_addw, i32_subw, i32_mulw, Int32.reduceToInt] at *) <;> omega) | (apply_assumption; done)) (by first | assumption | omega | decide | ((try simp +decide only [b01, b10, b11, am_up, and_true, and_false, true_and, false_and, if_true, if_false, nn_eq] at *) <;> (try simp only [sw_or, sw_all, or_false, and_true, i32_lt, i32_le, i32_eq, i32_addw, i32_subw, i32_mulw, Int32.reduceToInt] at *) <;> omega) | (apply_assumption; done)) (fun e660 => ?_) (fun e660 => ?_)
  · skip
    refine r_al2 (q := 664) d_law_663 rfl ?_
    refine r_al0 (q := 665) d_law_664 rfl ?_
    refine r_il4 (q := 667) d_law_665 rfl ?_
    refine r_ic (v := 1) (q := 668) d_law_667 rfl rfl ?_
    refine r_iadd (q := 669) d_law_668 rfl ?_
    refine am_sl (q := 670) d_law_669 rfl ?_ rfl ?_
    · (refine vp_of ?_ ?_ <;> (((try simp +decide only [b01, b10, b11, am_up, and_true, and_false, true_and, false_and, if_true, if_false, nn_eq] at *) <;> (try simp only [sw_or, sw_all, or_false, and_true, i32_lt, i32_le, i32_eq, i32_addw, i32_subw, i32_mulw, Int32.reduceToInt] at *) <;> omega)))
    refine r_vi1 mo_MO_local d_law_670 rfl rfl rfl (q := 673) rfl ?_
    refine sp_MO_local (by first | assumption | omega | decide | ((try simp +decide only [b01, b10, b11, am_up, and_true, and_false, true_and, false_and, if_true, if_false, nn_eq] at *) <;> (try simp only [sw_or, sw_all, or_false, and_true, i32_lt, i32_le, i32_eq, i32_addw, i32_subw, i32_mulw, Int32.reduceToInt] at *) <;> omega) | (apply_assumption; done)) (by first | assumption | omega | decide | ((try simp +decide only [b01, b10, b11, am_up, and_true, and_false, true_and, false_and, if_true, if_false, nn_eq] at *) <;> (try simp only [sw_or, sw_all, or_false, and_true, i32_lt, i32_le, i32_eq, i32_addw, i32_subw, i32_mulw, Int32.reduceToInt] at *) <;> omega) | (apply_assumption; done)) (by first | assumption | omega | decide | ((try simp +decide only [b01, b10, b11, am_up, and_true, and_false, true_and, false_and, if_true, if_false, nn_eq] at *) <;> (try simp only [sw_or, sw_all, or_false, and_true, i32_lt, i32_le, i32_eq, i32_addw, i32_subw, i32_mulw, Int32.reduceToInt] at *) <;> omega) | (apply_assumption; done)) (fun e670 => ?_) (fun e670 => ?_)
    · skip
      refine r_ceq (tgt := 802) (q := 676) d_law_673 rfl rfl (fun e673 => ?_) (fun e673 => ?_)
      · skip
        exact am_cut (Or.inl ⟨rfl, rfl, _, _, _, rfl, h⟩)
      · skip
        refine r_ic (v := 0) (q := 677) d_law_676 rfl rfl ?_
        exfalso; first | exact absurd (c7 e660) e673 | exact absurd (c6.mp e660) e670 | exact absurd (c6.mpr e670) e660 | exact absurd rfl e673
    · skip
      refine r_ceq (tgt := 802) (q := 676) d_law_673 rfl rfl (fun e673 => ?_) (fun e673 => ?_)
      · skip
        exact am_cut (Or.inl ⟨rfl, rfl, _, _, _, rfl, h⟩)
      · skip
        refine r_ic (v := 0) (q := 677) d_law_676 rfl rfl ?_
        exfalso; first | exact absurd (c7 e660) e673 | exact absurd (c6.mp e660) e670 | exact absurd (c6.mpr e670) e660 | exact absurd rfl e673
  · skip
    refine r_al2 (q := 664) d_law_663 rfl ?_
    refine r_al0 (q := 665) d_law_664 rfl ?_
    refine r_il4 (q := 667) d_law_665 rfl ?_
    refine r_ic (v := 1) (q := 668) d_law_667 rfl rfl ?_
    refine r_iadd (q := 669) d_law_668 rfl ?_
    refine am_sl (q := 670) d_law_669 rfl ?_ rfl ?_
    · (refine vp_of ?_ ?_ <;> (((try simp +decide only [b01, b10, b11, am_up, and_true, and_false, true_and, false_and, if_true, if_false, nn_eq] at *) <;> (try simp only [sw_or, sw_all, or_false, and_true, i32_lt, i32_le, i32_eq, i32_addw, i32_subw, i32_mulw, Int32.reduceToInt] at *) <;> omega)))
    refine r_vi1 mo_MO_local d_law_670 rfl rfl rfl (q := 673) rfl ?_
    refine sp_MO_local (by first | assumption | omega | decide | ((try simp +decide only [b01, b10, b11, am_up, and_true, and_false, true_and, false_and, if_true, if_false, nn_eq] at *) <;> (try simp only [sw_or, sw_all, or_false, and_true, i32_lt, i32_le, i32_eq, i32_addw, i32_subw, i32_mulw, Int32.reduceToInt] at *) <;> omega) | (apply_assumption; done)) (by first | assumption | omega | decide | ((try simp +decide only [b01, b10, b11, am_up, and_true, and_false, true_and, false_and, if_true, if_false, nn_eq] at *) <;> (try simp only [sw_or, sw_all, or_false, and_true, i32_lt, i32_le, i32_eq, i32_addw, i32_subw, i32_mulw, Int32.reduceToInt] at *) <;> omega) | (apply_assumption; done)) (by first | assumption | omega | decide | ((try simp +decide only [b01, b10, b11, am_up, and_true, and_false, true_and, false_and, if_true, if_false, nn_eq] at *) <;> (try simp only [sw_or, sw_all, or_false, and_true, i32_lt, i32_le, i32_eq, i32_addw, i32_subw, i32_mulw, Int32.reduceToInt] at *) <;> omega) | (apply_assumption; done)) (fun e670 => ?_) (fun e670 => ?_)
    · skip
      refine r_ceq (tgt := 802) (q := 676) d_law_673 rfl rfl (fun e673 => ?_) (fun e673 => ?_)
      · skip
        exact am_cut (Or.inl ⟨rfl, rfl, _, _, _, rfl, h⟩)
      · skip
        refine r_ic (v := 0) (q := 677) d_law_676 rfl rfl ?_
        exfalso; first | exact absurd (c7 e660) e673 | exact absurd (c6.mp e660) e670 | exact absurd (c6.mpr e670) e660 | exact absurd rfl e673
    · skip
      refine r_ceq (tgt := 802) (q := 676) d_law_673 rfl rfl (fun e673 => ?_) (fun e673 => ?_)
      · skip
        exact am_cut (Or.inl ⟨rfl, rfl, _, _, _, rfl, h⟩)
      · skip
        refine r_ic (v := 0) (q := 677) d_law_676 rfl rfl ?_
        exfalso; first | exact absurd (c7 e660) e673 | exact absurd (c6.mp e660) e670 | exact absurd (c6.mpr e670) e660 | exact absurd rfl e673
theorem la_14 {L : Nat} {xs : Nat → Int32} {K : Int32 → am_S → Prop} {i : Int32} {a b : Option am_V} {st : am_S} (i0 : 0 ≤ i.toInt) (i6 : i.toInt + 6 ≤ (L : Int)) (iL : L ≤ 3072) (c1 : (st 518 0).toNatClampNeg < 80) (c2 : (st 0 (st 518 0).toNatClampNeg).toNatClampNeg < 8) (c3 : 0 ≤ (st 2 (st 518 0).toNatClampNeg).toInt) (c4 : 0 ≤ (st 70 (st 0 (st 518 0).toNatClampNeg).toNatClampNeg).toInt) (c5 : 0 < (st 519 0).toInt → (st 2 (st 518 0).toNatClampNeg).toInt + (st 70 (st 0 (st 518 0).toNatClampNeg).toNatClampNeg).toInt + (st 3 (st 518 0).toNatClampNeg).toInt ≤ 80) (d1 : st 603 0 = 1 → 1 ≤ (st 610 0).toInt ∧ (st 610 0).toInt ≤ 80) (d2 : st 603 0 = 1 → 0 ≤ (st 2163 (st 610 0 - 1).toNatClampNeg).toInt ∧ (st 2163 (st 610 0 - 1).toNatClampNeg).toInt < 8) (d3 : st 603 0 = 1 → 0 ≤ (st 2166 (st 610 0 - 1).toNatClampNeg).toInt ∧ 0 ≤ (st 2146 (st 2163 (st 610 0 - 1).toNatClampNeg).toNatClampNeg).toInt ∧ (st 2166 (st 610 0 - 1).toNatClampNeg).toInt + (st 2146 (st 2163 (st 610 0 - 1).toNatClampNeg).toNatClampNeg).toInt + (st 2165 (st 610 0 - 1).toNatClampNeg).toInt ≤ 80) (c6 : (0 < st 519 0 ∧ 0 ≤ (xs (i + 1).toNatClampNeg) ∧ (xs (i + 1).toNatClampNeg) < st 3 (st 518 0).toNatClampNeg) ↔ (st 603 0 = 1 ∧ 0 ≤ (xs (i + 1).toNatClampNeg) ∧ (xs (i + 1).toNatClampNeg) < st 2165 (st 610 0 - 1).toNatClampNeg)) (c7 : (0 < st 519 0 ∧ 0 ≤ (xs (i + 1).toNatClampNeg) ∧ (xs (i + 1).toNatClampNeg) < st 3 (st 518 0).toNatClampNeg) → st 2137 (st 2 (st 518 0).toNatClampNeg + st 70 (st 0 (st 518 0).toNatClampNeg).toNatClampNeg + st 3 (st 518 0).toNatClampNeg - 1 - (xs (i + 1).toNatClampNeg)).toNatClampNeg = st 2162 (st 2166 (st 610 0 - 1).toNatClampNeg + st 2146 (st 2163 (st 610 0 - 1).toNatClampNeg).toNatClampNeg + st 2165 (st 610 0 - 1).toNatClampNeg - 1 - (xs (i + 1).toNatClampNeg)).toNatClampNeg) (h : K i (am_up st 576 0 0)) : am_AW code (g_law L xs (lw_P1 L xs K)) lw_k 678 (lw_lv i a b) [] st := by
  refine r_al1 (q := 679) d_law_678 rfl ?_
  refine r_al0 (q := 680) d_law_679 rfl ?_
  refine r_il4 (q := 682) d_law_680 rfl ?_
  refine r_ic (v := 1) (q := 683) d_law_682 rfl rfl ?_
  refine r_iadd (q := 684) d_law_683 rfl ?_
  refine am_sl (q := 685) d_law_684 rfl ?_ rfl ?_
  · (refine vp_of ?_ ?_ <;> (((try simp +decide only [b01, b10, b11, am_up, and_true, and_false, true_and, false_and, if_true, if_false, nn_eq] at *) <;> (try simp only [sw_or, sw_all, or_false, and_true, i32_lt, i32_le, i32_eq, i32_addw, i32_subw, i32_mulw, Int32.reduceToInt] at *) <;> omega)))
  refine r_vi1 mo_FW_stack d_law_685 rfl rfl rfl (q := 688) rfl ?_
  refine sp_FW_stack (by first | assumption | omega | decide | ((try simp +decide only [b01, b10, b11, am_up, and_true, and_false, true_and, false_and, if_true, if_false, nn_eq] at *) <;> (try simp only [sw_or, sw_all, or_false, and_true, i32_lt, i32_le, i32_eq, i32_addw, i32_subw, i32_mulw, Int32.reduceToInt] at *) <;> omega) | (apply_assumption; done)) (by first | assumption | omega | decide | ((try simp +decide only [b01, b10, b11, am_up, and_true, and_false, true_and, false_and, if_true, if_false, nn_eq] at *) <;> (try simp only [sw_or, sw_all, or_false, and_true, i32_lt, i32_le, i32_eq, i32_addw, i32_subw, i32_mulw, Int32.reduceToInt] at *) <;> omega) | (apply_assumption; done)) (by first | assumption | omega | decide | ((try simp +decide only [b01, b10, b11, am_up, and_true, and_false, true_and, false_and, if_true, if_false, nn_eq] at *) <;> (try simp only [sw_or, sw_all, or_false, and_true, i32_lt, i32_le, i32_eq, i32_addw, i32_subw, i32_mulw, Int32.reduceToInt] at *) <;> omega) | (apply_assumption; done)) (by first | assumption | omega | decide | ((try simp +decide only [b01, b10, b11, am_up, and_true, and_false, true_and, false_and, if_true, if_false, nn_eq] at *) <;> (try simp only [sw_or, sw_all, or_false, and_true, i32_lt, i32_le, i32_eq, i32_addw, i32_subw, i32_mulw, Int32.reduceToInt] at *) <;> omega) | (apply_assumption; done)) (by first | assumption | omega | decide | ((try simp +decide only [b01, b10, b11, am_up, and_true, and_false, true_and, false_and, if_true, if_false, nn_eq] at *) <;> (try simp only [sw_or, sw_all, or_false, and_true, i32_lt, i32_le, i32_eq, i32_addw, i32_subw, i32_mulw, Int32.reduceToInt] at *) <;> omega) | (apply_assumption; done)) (fun e685 => ?_) (fun e685 => ?_)
  · skip
    refine r_al2 (q := 689) d_law_688 rfl ?_
    refine r_al0 (q := 690) d_law_689 rfl ?_
    refine r_il4 (q := 692) d_law_690 rfl ?_
    refine r_ic (v := 1) (q := 693) d_law_692 rfl rfl ?_
    refine r_iadd (q := 694) d_law_693 rfl ?_
    refine am_sl (q := 695) d_law_694 rfl ?_ rfl ?_
    · (refine vp_of ?_ ?_ <;> (((try simp +decide only [b01, b10, b11, am_up, and_true, and_false, true_and, false_and, if_true, if_false, nn_eq] at *) <;> (try simp only [sw_or, sw_all, or_false, and_true, i32_lt, i32_le, i32_eq, i32_addw, i32_subw, i32_mulw, Int32.reduceToInt] at *) <;> omega)))
    refine r_vi1 mo_MO_stack d_law_695 rfl rfl rfl (q := 698) rfl ?_
    refine sp_MO_stack (by first | assumption | omega | decide | ((try simp +decide only [b01, b10, b11, am_up, and_true, and_false, true_and, false_and, if_true, if_false, nn_eq] at *) <;> (try simp only [sw_or, sw_all, or_false, and_true, i32_lt, i32_le, i32_eq, i32_addw, i32_subw, i32_mulw, Int32.reduceToInt] at *) <;> omega) | (apply_assumption; done)) (by first | assumption | omega | decide | ((try simp +decide only [b01, b10, b11, am_up, and_true, and_false, true_and, false_and, if_true, if_false, nn_eq] at *) <;> (try simp only [sw_or, sw_all, or_false, and_true, i32_lt, i32_le, i32_eq, i32_addw, i32_subw, i32_mulw, Int32.reduceToInt] at *) <;> omega) | (apply_assumption; done)) (by first | assumption | omega | decide | ((try simp +decide only [b01, b10, b11, am_up, and_true, and_false, true_and, false_and, if_true, if_false, nn_eq] at *) <;> (try simp only [sw_or, sw_all, or_false, and_true, i32_lt, i32_le, i32_eq, i32_addw, i32_subw, i32_mulw, Int32.reduceToInt] at *) <;> omega) | (apply_assumption; done)) (fun e695 => ?_) (fun e695 => ?_)
    · skip
      refine r_ceq (tgt := 802) (q := 701) d_law_698 rfl rfl (fun e698 => ?_) (fun e698 => ?_)
      · skip
        exact am_cut (Or.inl ⟨rfl, rfl, _, _, _, rfl, h⟩)
      · skip
        refine r_ic (v := 0) (q := 702) d_law_701 rfl rfl ?_
        exfalso; first | exact absurd (c7 e685) e698 | exact absurd (c6.mp e685) e695 | exact absurd (c6.mpr e695) e685 | exact absurd rfl e698
    · skip
      refine r_ceq (tgt := 802) (q := 701) d_law_698 rfl rfl (fun e698 => ?_) (fun e698 => ?_)
      · skip
        exact am_cut (Or.inl ⟨rfl, rfl, _, _, _, rfl, h⟩)
      · skip
        refine r_ic (v := 0) (q := 702) d_law_701 rfl rfl ?_
        exfalso; first | exact absurd (c7 e685) e698 | exact absurd (c6.mp e685) e695 | exact absurd (c6.mpr e695) e685 | exact absurd rfl e698
  · skip
    refine r_al2 (q := 689) d_law_688 rfl ?_
    refine r_al0 (q := 690) d_law_689 rfl ?_
    refine r_il4 (q := 692) d_law_690 rfl ?_
    refine r_ic (v := 1) (q := 693) d_law_692 rfl rfl ?_
    refine r_iadd (q := 694) d_law_693 rfl ?_
    refine am_sl (q := 695) d_law_694 rfl ?_ rfl ?_
    · (refine vp_of ?_ ?_ <;> (((try simp +decide only [b01, b10, b11, am_up, and_true, and_false, true_and, false_and, if_true, if_false, nn_eq] at *) <;> (try simp only [sw_or, sw_all, or_false, and_true, i32_lt, i32_le, i32_eq, i32_addw, i32_subw, i32_mulw, Int32.reduceToInt] at *) <;> omega)))
    refine r_vi1 mo_MO_stack d_law_695 rfl rfl rfl (q := 698) rfl ?_
    refine sp_MO_stack (by first | assumption | omega | decide | ((try simp +decide only [b01, b10, b11, am_up, and_true, and_false, true_and, false_and, if_true, if_false, nn_eq] at *) <;> (try simp only [sw_or, sw_all, or_false, and_true, i32_lt, i32_le, i32_eq, i32_addw, i32_subw, i32_mulw, Int32.reduceToInt] at *) <;> omega) | (apply_assumption; done)) (by first | assumption | omega | decide | ((try simp +decide only [b01, b10, b11, am_up, and_true, and_false, true_and, false_and, if_true, if_false, nn_eq] at *) <;> (try simp only [sw_or, sw_all, or_false, and_true, i32_lt, i32_le, i32_eq, i32_addw, i32_subw, i32_mulw, Int32.reduceToInt] at *) <;> omega) | (apply_assumption; done)) (by first | assumption | omega | decide | ((try simp +decide only [b01, b10, b11, am_up, and_true, and_false, true_and, false_and, if_true, if_false, nn_eq] at *) <;> (try simp only [sw_or, sw_all, or_false, and_true, i32_lt, i32_le, i32_eq, i32_addw, i32_subw, i32_mulw, Int32.reduceToInt] at *) <;> omega) | (apply_assumption; done)) (fun e695 => ?_) (fun e695 => ?_)
    · skip
      refine r_ceq (tgt := 802) (q := 701) d_law_698 rfl rfl (fun e698 => ?_) (fun e698 => ?_)
      · skip
        exact am_cut (Or.inl ⟨rfl, rfl, _, _, _, rfl, h⟩)
      · skip
        refine r_ic (v := 0) (q := 702) d_law_701 rfl rfl ?_
        exfalso; first | exact absurd (c7 e685) e698 | exact absurd (c6.mp e685) e695 | exact absurd (c6.mpr e695) e685 | exact absurd rfl e698
    · skip
      refine r_ceq (tgt := 802) (q := 701) d_law_698 rfl rfl (fun e698 => ?_) (fun e698 => ?_)
      · skip
        exact am_cut (Or.inl ⟨rfl, rfl, _, _, _, rfl, h⟩)
      · skip
        refine r_ic (v := 0) (q := 702) d_law_701 rfl rfl ?_
        exfalso; first | exact absurd (c7 e685) e698 | exact absurd (c6.mp e685) e695 | exact absurd (c6.mpr e695) e685 | exact absurd rfl e698
theorem la_16x {x : Int32} {st : am_S} (c1 : 0 ≤ (st 520 0).toInt) (c3 : st 606 0 = st 520 0) (c4 : ∀ n, n < (st 520 0).toNatClampNeg → st 2140 n = st 2161 n) {v : Int32} (hv : (x = -1 ∧ v = st 606 0) ∨ ((¬ x = -1 ∧ 0 ≤ x ∧ x ≤ st 606 0 - 1) ∧ v = st 2161 x.toNatClampNeg) ∨ ((¬ x = -1 ∧ ¬ (0 ≤ x ∧ x ≤ st 606 0 - 1)) ∧ v = 0)) : (if x = -1 then st 520 0 else if 0 ≤ x ∧ x < st 520 0 then st 2140 x.toNatClampNeg else 0) = v := by
  have hr := i32_rg (st 520 0)
  rcases hv with ⟨h1, rfl⟩ | ⟨h1, rfl⟩ | ⟨h1, rfl⟩
  · rw [if_pos h1, c3]
  · rw [c3] at h1
    rw [if_neg h1.1, if_pos (by clear c4 c3; ((try simp +decide only [b01, b10, b11, am_up, and_true, and_false, true_and, false_and, if_true, if_false, nn_eq] at *) <;> (try simp only [sw_or, sw_all, or_false, and_true, i32_lt, i32_le, i32_eq, i32_addw, i32_subw, i32_mulw, Int32.reduceToInt] at *) <;> omega))]
    exact c4 _ (by clear c4 c3; ((try simp +decide only [b01, b10, b11, am_up, and_true, and_false, true_and, false_and, if_true, if_false, nn_eq] at *) <;> (try simp only [sw_or, sw_all, or_false, and_true, i32_lt, i32_le, i32_eq, i32_addw, i32_subw, i32_mulw, Int32.reduceToInt] at *) <;> omega))
  · rw [c3] at h1
    rw [if_neg h1.1, if_neg (by clear c4 c3; ((try simp +decide only [b01, b10, b11, am_up, and_true, and_false, true_and, false_and, if_true, if_false, nn_eq] at *) <;> (try simp only [sw_or, sw_all, or_false, and_true, i32_lt, i32_le, i32_eq, i32_addw, i32_subw, i32_mulw, Int32.reduceToInt] at *) <;> omega))]
theorem la_16 {L : Nat} {xs : Nat → Int32} {K : Int32 → am_S → Prop} {i : Int32} {a b : Option am_V} {st : am_S} (i0 : 0 ≤ i.toInt) (i6 : i.toInt + 6 ≤ (L : Int)) (iL : L ≤ 3072) (c1 : 0 ≤ (st 520 0).toInt) (c2 : (st 520 0).toInt ≤ 120) (c3 : st 606 0 = st 520 0) (c4 : ∀ n, n < (st 520 0).toNatClampNeg → st 2140 n = st 2161 n) (h : K i (am_up st 576 0 0)) : am_AW code (g_law L xs (lw_P1 L xs K)) lw_k 728 (lw_lv i a b) [] st := by
  refine r_al1 (q := 729) d_law_728 rfl ?_
  refine r_al0 (q := 730) d_law_729 rfl ?_
  refine r_il4 (q := 732) d_law_730 rfl ?_
  refine r_ic (v := 1) (q := 733) d_law_732 rfl rfl ?_
  refine r_iadd (q := 734) d_law_733 rfl ?_
  refine am_sl (q := 735) d_law_734 rfl ?_ rfl ?_
  · (refine vp_of ?_ ?_ <;> (((try simp +decide only [b01, b10, b11, am_up, and_true, and_false, true_and, false_and, if_true, if_false, nn_eq] at *) <;> (try simp only [sw_or, sw_all, or_false, and_true, i32_lt, i32_le, i32_eq, i32_addw, i32_subw, i32_mulw, Int32.reduceToInt] at *) <;> omega)))
  refine r_vi1 mo_FW_heap d_law_735 rfl rfl rfl (q := 738) rfl ?_
  refine sp_FW_heap (by first | assumption | omega | decide | ((try simp +decide only [b01, b10, b11, am_up, and_true, and_false, true_and, false_and, if_true, if_false, nn_eq] at *) <;> (try simp only [sw_or, sw_all, or_false, and_true, i32_lt, i32_le, i32_eq, i32_addw, i32_subw, i32_mulw, Int32.reduceToInt] at *) <;> omega) | (apply_assumption; done)) ?_
  refine r_al2 (q := 739) d_law_738 rfl ?_
  refine r_al0 (q := 740) d_law_739 rfl ?_
  refine r_il4 (q := 742) d_law_740 rfl ?_
  refine r_ic (v := 1) (q := 743) d_law_742 rfl rfl ?_
  refine r_iadd (q := 744) d_law_743 rfl ?_
  refine am_sl (q := 745) d_law_744 rfl ?_ rfl ?_
  · (refine vp_of ?_ ?_ <;> (((try simp +decide only [b01, b10, b11, am_up, and_true, and_false, true_and, false_and, if_true, if_false, nn_eq] at *) <;> (try simp only [sw_or, sw_all, or_false, and_true, i32_lt, i32_le, i32_eq, i32_addw, i32_subw, i32_mulw, Int32.reduceToInt] at *) <;> omega)))
  refine r_vi1 mo_MO_heap d_law_745 rfl rfl rfl (q := 748) rfl ?_
  refine sp_MO_heap (by first | assumption | omega | decide | ((try simp +decide only [b01, b10, b11, am_up, and_true, and_false, true_and, false_and, if_true, if_false, nn_eq] at *) <;> (try simp only [sw_or, sw_all, or_false, and_true, i32_lt, i32_le, i32_eq, i32_addw, i32_subw, i32_mulw, Int32.reduceToInt] at *) <;> omega) | (apply_assumption; done)) (by first | assumption | omega | decide | ((try simp +decide only [b01, b10, b11, am_up, and_true, and_false, true_and, false_and, if_true, if_false, nn_eq] at *) <;> (try simp only [sw_or, sw_all, or_false, and_true, i32_lt, i32_le, i32_eq, i32_addw, i32_subw, i32_mulw, Int32.reduceToInt] at *) <;> omega) | (apply_assumption; done)) (fun e745 => ?_) (fun e745 => ?_) (fun e745 => ?_)
  · skip
    refine r_ceq (tgt := 802) (q := 751) d_law_748 rfl rfl (fun e748 => ?_) (fun e748 => ?_)
    · skip
      exact am_cut (Or.inl ⟨rfl, rfl, _, _, _, rfl, h⟩)
    · skip
      refine r_ic (v := 0) (q := 752) d_law_751 rfl rfl ?_
      exfalso; first | exact absurd (la_16x c1 c3 c4 (Or.inl ⟨e745, rfl⟩)) e748 | exact absurd (la_16x c1 c3 c4 (Or.inr (Or.inl ⟨e745, rfl⟩))) e748 | exact absurd (la_16x c1 c3 c4 (Or.inr (Or.inr ⟨e745, rfl⟩))) e748
  · skip
    refine r_ceq (tgt := 802) (q := 751) d_law_748 rfl rfl (fun e748 => ?_) (fun e748 => ?_)
    · skip
      exact am_cut (Or.inl ⟨rfl, rfl, _, _, _, rfl, h⟩)
    · skip
      refine r_ic (v := 0) (q := 752) d_law_751 rfl rfl ?_
      exfalso; first | exact absurd (la_16x c1 c3 c4 (Or.inl ⟨e745, rfl⟩)) e748 | exact absurd (la_16x c1 c3 c4 (Or.inr (Or.inl ⟨e745, rfl⟩))) e748 | exact absurd (la_16x c1 c3 c4 (Or.inr (Or.inr ⟨e745, rfl⟩))) e748
  · skip
    refine r_ceq (tgt := 802) (q := 751) d_law_748 rfl rfl (fun e748 => ?_) (fun e748 => ?_)
    · skip
      exact am_cut (Or.inl ⟨rfl, rfl, _, _, _, rfl, h⟩)
    · skip
      refine r_ic (v := 0) (q := 752) d_law_751 rfl rfl ?_
      exfalso; first | exact absurd (la_16x c1 c3 c4 (Or.inl ⟨e745, rfl⟩)) e748 | exact absurd (la_16x c1 c3 c4 (Or.inr (Or.inl ⟨e745, rfl⟩))) e748 | exact absurd (la_16x c1 c3 c4 (Or.inr (Or.inr ⟨e745, rfl⟩))) e748

/-! written by wip/whole/gen/walk.py out of 60.turns.txt -/
theorem la_4 {L : Nat} {xs : Nat → Int32} {K : Int32 → am_S → Prop} {i : Int32} {a b : Option am_V} {st : am_S} (c1 : st 263 0 = st 592 0) (h : K i (am_up st 576 0 0)) : am_AW code (g_law L xs (lw_P1 L xs K)) lw_k 409 (lw_lv i a b) [] st := by
  refine r_al1 (q := 410) d_law_409 rfl ?_
  refine r_vi0 mo_FW_fault d_law_410 rfl rfl rfl (q := 413) rfl ?_
  refine sp_FW_fault ?_
  refine r_al2 (q := 414) d_law_413 rfl ?_
  refine r_vi0 mo_MO_fault d_law_414 rfl rfl rfl (q := 417) rfl ?_
  refine sp_MO_fault ?_
  refine r_ceq (tgt := 802) (q := 420) d_law_417 rfl rfl (fun e417 => ?_) (fun e417 => ?_)
  · skip
    exact am_cut (Or.inl ⟨rfl, rfl, _, _, _, rfl, h⟩)
  · skip
    refine r_ic (v := 0) (q := 421) d_law_420 rfl rfl ?_
    exfalso; ((try simp +decide only [b01, b10, b11, am_up, and_true, and_false, true_and, false_and, if_true, if_false, nn_eq] at *) <;> (try simp only [sw_or, sw_all, or_false, and_true, i32_lt, i32_le, i32_eq, i32_addw, i32_subw, i32_mulw, Int32.reduceToInt] at *) <;> omega)
theorem la_9 {L : Nat} {xs : Nat → Int32} {K : Int32 → am_S → Prop} {i : Int32} {a b : Option am_V} {st : am_S} (c1 : st 521 0 = st 603 0) (h : K i (am_up st 576 0 0)) : am_AW code (g_law L xs (lw_P1 L xs K)) lw_k 577 (lw_lv i a b) [] st := by
  refine r_al1 (q := 578) d_law_577 rfl ?_
  refine r_vi0 mo_FW_state d_law_578 rfl rfl rfl (q := 581) rfl ?_
  refine sp_FW_state ?_
  refine r_al2 (q := 582) d_law_581 rfl ?_
  refine r_vi0 mo_MO_state d_law_582 rfl rfl rfl (q := 585) rfl ?_
  refine sp_MO_state ?_
  refine r_ceq (tgt := 802) (q := 588) d_law_585 rfl rfl (fun e585 => ?_) (fun e585 => ?_)
  · skip
    exact am_cut (Or.inl ⟨rfl, rfl, _, _, _, rfl, h⟩)
  · skip
    refine r_ic (v := 0) (q := 589) d_law_588 rfl rfl ?_
    exfalso; ((try simp +decide only [b01, b10, b11, am_up, and_true, and_false, true_and, false_and, if_true, if_false, nn_eq] at *) <;> (try simp only [sw_or, sw_all, or_false, and_true, i32_lt, i32_le, i32_eq, i32_addw, i32_subw, i32_mulw, Int32.reduceToInt] at *) <;> omega)
theorem la_10 {L : Nat} {xs : Nat → Int32} {K : Int32 → am_S → Prop} {i : Int32} {a b : Option am_V} {st : am_S} (c1 : st 522 0 = if st 603 0 = 2 then st 604 0 else 0) (h : K i (am_up st 576 0 0)) : am_AW code (g_law L xs (lw_P1 L xs K)) lw_k 590 (lw_lv i a b) [] st := by
  refine r_al1 (q := 591) d_law_590 rfl ?_
  refine r_vi0 mo_FW_result d_law_591 rfl rfl rfl (q := 594) rfl ?_
  refine sp_FW_result ?_
  refine r_al2 (q := 595) d_law_594 rfl ?_
  refine r_vi0 mo_MO_result d_law_595 rfl rfl rfl (q := 598) rfl ?_
  refine sp_MO_result ?_
  refine r_ceq (tgt := 802) (q := 601) d_law_598 rfl rfl (fun e598 => ?_) (fun e598 => ?_)
  · skip
    exact am_cut (Or.inl ⟨rfl, rfl, _, _, _, rfl, h⟩)
  · skip
    refine r_ic (v := 0) (q := 602) d_law_601 rfl rfl ?_
    exfalso; exact absurd c1 ‹_›
theorem la_11 {L : Nat} {xs : Nat → Int32} {K : Int32 → am_S → Prop} {i : Int32} {a b : Option am_V} {st : am_S} (c1 : st 519 0 = if st 603 0 = 1 then st 610 0 else 0) (h : K i (am_up st 576 0 0)) : am_AW code (g_law L xs (lw_P1 L xs K)) lw_k 603 (lw_lv i a b) [] st := by
  refine r_al1 (q := 604) d_law_603 rfl ?_
  refine r_vi0 mo_FW_depth d_law_604 rfl rfl rfl (q := 607) rfl ?_
  refine sp_FW_depth ?_
  refine r_al2 (q := 608) d_law_607 rfl ?_
  refine r_vi0 mo_MO_depth d_law_608 rfl rfl rfl (q := 611) rfl ?_
  refine sp_MO_depth ?_
  refine r_ceq (tgt := 802) (q := 614) d_law_611 rfl rfl (fun e611 => ?_) (fun e611 => ?_)
  · skip
    exact am_cut (Or.inl ⟨rfl, rfl, _, _, _, rfl, h⟩)
  · skip
    refine r_ic (v := 0) (q := 615) d_law_614 rfl rfl ?_
    exfalso; exact absurd c1 ‹_›
theorem la_5 {L : Nat} {xs : Nat → Int32} {K : Int32 → am_S → Prop} {i : Int32} {a b : Option am_V} {st : am_S} (h : K i (am_fill (am_up (am_up (am_up (am_up (am_up (am_up (am_up (am_up (am_up (am_up (am_up (am_up (am_up (am_up (am_fill (am_up (am_up (am_up (am_up (am_up st 322 0 0) 323 0 0) 521 0 0) 522 0 0) 519 0 0) 2139 0 8 0) 520 0 0) 261 0 0) 262 0 0) 263 0 (-1)) 576 0 0) 577 0 0) 579 0 0) 591 0 0) 592 0 (-1)) 601 0 0) 603 0 0) 604 0 0) 610 0 0) 606 0 0) 2160 0 8 0)) : am_AW code (g_law L xs (lw_P1 L xs K)) lw_k 422 (lw_lv i a b) [] st := by
  refine r_al1 (q := 423) d_law_422 rfl ?_
  refine r_vv0 mo_FW_clear d_law_423 rfl rfl rfl (q := 426) rfl ?_
  refine sp_FW_clear ?_
  refine r_al2 (q := 427) d_law_426 rfl ?_
  refine r_vv0 mo_MO_clear d_law_427 rfl rfl rfl (q := 430) rfl ?_
  refine sp_MO_clear ?_
  refine am_go (tgt := 802) d_law_430 rfl ?_
  exact am_cut (Or.inl ⟨rfl, rfl, _, _, _, rfl, h⟩)
theorem la_15x {P : Prop} {x : Int32} {st : am_S} (c1 : ∀ n, n < 8 → st 2139 n = st 2160 n) (e : ¬ (if 0 ≤ x ∧ x < 8 then st 2139 x.toNatClampNeg else 0) = (if 0 ≤ x ∧ x ≤ 7 then st 2160 x.toNatClampNeg else 0)) : P := by
  exfalso
  apply e
  by_cases h : 0 ≤ x ∧ x < 8
  · rw [if_pos h, if_pos (by simp only [i32_lt, i32_le, Int32.reduceToInt] at *; omega)]
    exact c1 _ (by simp only [i32_lt, i32_le, Int32.reduceToInt, nn_eq] at *; omega)
  · rw [if_neg h, if_neg (by simp only [i32_lt, i32_le, Int32.reduceToInt] at *; omega)]
theorem la_15 {L : Nat} {xs : Nat → Int32} {K : Int32 → am_S → Prop} {i : Int32} {a b : Option am_V} {st : am_S} (i0 : 0 ≤ i.toInt) (i6 : i.toInt + 6 ≤ (L : Int)) (iL : L ≤ 3072) (c1 : ∀ n, n < 8 → st 2139 n = st 2160 n) (h : K i (am_up st 576 0 0)) : am_AW code (g_law L xs (lw_P1 L xs K)) lw_k 703 (lw_lv i a b) [] st := by
  refine r_al1 (q := 704) d_law_703 rfl ?_
  refine r_al0 (q := 705) d_law_704 rfl ?_
  refine r_il4 (q := 707) d_law_705 rfl ?_
  refine r_ic (v := 1) (q := 708) d_law_707 rfl rfl ?_
  refine r_iadd (q := 709) d_law_708 rfl ?_
  refine am_sl (q := 710) d_law_709 rfl ?_ rfl ?_
  · (refine vp_of ?_ ?_ <;> (((try simp +decide only [b01, b10, b11, am_up, and_true, and_false, true_and, false_and, if_true, if_false, nn_eq] at *) <;> (try simp only [sw_or, sw_all, or_false, and_true, i32_lt, i32_le, i32_eq, i32_addw, i32_subw, i32_mulw, Int32.reduceToInt] at *) <;> omega)))
  refine r_vi1 mo_FW_getStatic d_law_710 rfl rfl rfl (q := 713) rfl ?_
  refine sp_FW_getStatic ?_
  refine r_al2 (q := 714) d_law_713 rfl ?_
  refine r_al0 (q := 715) d_law_714 rfl ?_
  refine r_il4 (q := 717) d_law_715 rfl ?_
  refine r_ic (v := 1) (q := 718) d_law_717 rfl rfl ?_
  refine r_iadd (q := 719) d_law_718 rfl ?_
  refine am_sl (q := 720) d_law_719 rfl ?_ rfl ?_
  · (refine vp_of ?_ ?_ <;> (((try simp +decide only [b01, b10, b11, am_up, and_true, and_false, true_and, false_and, if_true, if_false, nn_eq] at *) <;> (try simp only [sw_or, sw_all, or_false, and_true, i32_lt, i32_le, i32_eq, i32_addw, i32_subw, i32_mulw, Int32.reduceToInt] at *) <;> omega)))
  refine r_vi1 mo_MO_getStatic d_law_720 rfl rfl rfl (q := 723) rfl ?_
  refine sp_MO_getStatic ?_
  refine r_ceq (tgt := 802) (q := 726) d_law_723 rfl rfl (fun e723 => ?_) (fun e723 => ?_)
  · skip
    exact am_cut (Or.inl ⟨rfl, rfl, _, _, _, rfl, h⟩)
  · skip
    refine r_ic (v := 0) (q := 727) d_law_726 rfl rfl ?_
    exact la_15x c1 ‹_›

/-! written by wip/whole/gen/walk.py out of 68.type.txt -/
theorem sp_FW_type {x y z : Int32} {st : am_S} {f g : Int32 → am_S → Prop} (c1 : wp_FW_type [.inr (.inl 123), .inl x, .inl y, .inl z] st (am_ki g)) (h1 : ∀ p : {p : Int32 × am_S // g p.1 p.2}, f p.1.1 p.1.2) : wp_FW_type [.inr (.inl 123), .inl x, .inl y, .inl z] st (am_ki f) := ki_of mo_FW_type c1 h1
theorem sp_MO_type {x y z : Int32} {st : am_S} {f g : Int32 → am_S → Prop} (c1 : wp_MO_type [.inr (.inl 128), .inl x, .inl y, .inl z] st (am_ki g)) (h1 : ∀ p : {p : Int32 × am_S // g p.1 p.2}, f p.1.1 p.1.2) : wp_MO_type [.inr (.inl 128), .inl x, .inl y, .inl z] st (am_ki f) := ki_of mo_MO_type c1 h1
theorem la_17b {L : Nat} {xs : Nat → Int32} {K : Int32 → am_S → Prop} {i : Int32} {a b : Option am_V} {st : am_S} (i0 : 0 ≤ i.toInt) (i6 : i.toInt + 6 ≤ (L : Int)) (iL : L ≤ 3072) {v : Int32} (c1 : wp_MO_type [.inr (.inl 128), .inl (xs (i + 1).toNatClampNeg), .inl (xs (i + 2).toNatClampNeg), .inl (xs (i + 3).toNatClampNeg)] st (am_ki (fun w st2 => v = w ∧ K i st2))) : am_AW code (g_law L xs (lw_P1 L xs K)) lw_k 775 (lw_lv i a b) [.inl v] st := by
  refine r_al2 (q := 776) d_law_775 rfl ?_
  refine r_al0 (q := 777) d_law_776 rfl ?_
  refine r_il4 (q := 779) d_law_777 rfl ?_
  refine r_ic (v := 1) (q := 780) d_law_779 rfl rfl ?_
  refine r_iadd (q := 781) d_law_780 rfl ?_
  refine am_sl (q := 782) d_law_781 rfl ?_ rfl ?_
  · (refine vp_of ?_ ?_ <;> (((try simp +decide only [b01, b10, b11, am_up, and_true, and_false, true_and, false_and, if_true, if_false, nn_eq] at *) <;> (try simp only [sw_or, sw_all, or_false, and_true, i32_lt, i32_le, i32_eq, i32_addw, i32_subw, i32_mulw, Int32.reduceToInt] at *) <;> omega)))
  refine r_al0 (q := 783) d_law_782 rfl ?_
  refine r_il4 (q := 785) d_law_783 rfl ?_
  refine r_ic (v := 2) (q := 786) d_law_785 rfl rfl ?_
  refine r_iadd (q := 787) d_law_786 rfl ?_
  refine am_sl (q := 788) d_law_787 rfl ?_ rfl ?_
  · (refine vp_of ?_ ?_ <;> (((try simp +decide only [b01, b10, b11, am_up, and_true, and_false, true_and, false_and, if_true, if_false, nn_eq] at *) <;> (try simp only [sw_or, sw_all, or_false, and_true, i32_lt, i32_le, i32_eq, i32_addw, i32_subw, i32_mulw, Int32.reduceToInt] at *) <;> omega)))
  refine r_al0 (q := 789) d_law_788 rfl ?_
  refine r_il4 (q := 791) d_law_789 rfl ?_
  refine r_ic (v := 3) (q := 792) d_law_791 rfl rfl ?_
  refine r_iadd (q := 793) d_law_792 rfl ?_
  refine am_sl (q := 794) d_law_793 rfl ?_ rfl ?_
  · (refine vp_of ?_ ?_ <;> (((try simp +decide only [b01, b10, b11, am_up, and_true, and_false, true_and, false_and, if_true, if_false, nn_eq] at *) <;> (try simp only [sw_or, sw_all, or_false, and_true, i32_lt, i32_le, i32_eq, i32_addw, i32_subw, i32_mulw, Int32.reduceToInt] at *) <;> omega)))
  refine r_vi3 mo_MO_type d_law_794 rfl rfl rfl (q := 797) rfl ?_
  refine sp_MO_type (by first | assumption | omega | decide | ((try simp +decide only [b01, b10, b11, am_up, and_true, and_false, true_and, false_and, if_true, if_false, nn_eq] at *) <;> (try simp only [sw_or, sw_all, or_false, and_true, i32_lt, i32_le, i32_eq, i32_addw, i32_subw, i32_mulw, Int32.reduceToInt] at *) <;> omega) | (apply_assumption; done)) (fun e794 => ?_)
  · skip
    refine r_ceq (tgt := 802) (q := 800) d_law_797 rfl rfl (fun e797 => ?_) (fun e797 => ?_)
    · skip
      exact am_cut (Or.inl ⟨rfl, rfl, _, _, _, rfl, e794.2.2⟩)
    · skip
      refine r_ic (v := 0) (q := 801) d_law_800 rfl rfl ?_
      exfalso; exact absurd e794.2.1 e797
theorem la_17 {L : Nat} {xs : Nat → Int32} {K : Int32 → am_S → Prop} {i : Int32} {a b : Option am_V} {st : am_S} (i0 : 0 ≤ i.toInt) (i6 : i.toInt + 6 ≤ (L : Int)) (iL : L ≤ 3072) (c1 : wp_FW_type [.inr (.inl 123), .inl (xs (i + 1).toNatClampNeg), .inl (xs (i + 2).toNatClampNeg), .inl (xs (i + 3).toNatClampNeg)] st (am_ki (fun v st1 => wp_MO_type [.inr (.inl 128), .inl (xs (i + 1).toNatClampNeg), .inl (xs (i + 2).toNatClampNeg), .inl (xs (i + 3).toNatClampNeg)] st1 (am_ki (fun w st2 => v = w ∧ K i st2))))) : am_AW code (g_law L xs (lw_P1 L xs K)) lw_k 753 (lw_lv i a b) [] st := by
  refine r_al1 (q := 754) d_law_753 rfl ?_
  refine r_al0 (q := 755) d_law_754 rfl ?_
  refine r_il4 (q := 757) d_law_755 rfl ?_
  refine r_ic (v := 1) (q := 758) d_law_757 rfl rfl ?_
  refine r_iadd (q := 759) d_law_758 rfl ?_
  refine am_sl (q := 760) d_law_759 rfl ?_ rfl ?_
  · (refine vp_of ?_ ?_ <;> (((try simp +decide only [b01, b10, b11, am_up, and_true, and_false, true_and, false_and, if_true, if_false, nn_eq] at *) <;> (try simp only [sw_or, sw_all, or_false, and_true, i32_lt, i32_le, i32_eq, i32_addw, i32_subw, i32_mulw, Int32.reduceToInt] at *) <;> omega)))
  refine r_al0 (q := 761) d_law_760 rfl ?_
  refine r_il4 (q := 763) d_law_761 rfl ?_
  refine r_ic (v := 2) (q := 764) d_law_763 rfl rfl ?_
  refine r_iadd (q := 765) d_law_764 rfl ?_
  refine am_sl (q := 766) d_law_765 rfl ?_ rfl ?_
  · (refine vp_of ?_ ?_ <;> (((try simp +decide only [b01, b10, b11, am_up, and_true, and_false, true_and, false_and, if_true, if_false, nn_eq] at *) <;> (try simp only [sw_or, sw_all, or_false, and_true, i32_lt, i32_le, i32_eq, i32_addw, i32_subw, i32_mulw, Int32.reduceToInt] at *) <;> omega)))
  refine r_al0 (q := 767) d_law_766 rfl ?_
  refine r_il4 (q := 769) d_law_767 rfl ?_
  refine r_ic (v := 3) (q := 770) d_law_769 rfl rfl ?_
  refine r_iadd (q := 771) d_law_770 rfl ?_
  refine am_sl (q := 772) d_law_771 rfl ?_ rfl ?_
  · (refine vp_of ?_ ?_ <;> (((try simp +decide only [b01, b10, b11, am_up, and_true, and_false, true_and, false_and, if_true, if_false, nn_eq] at *) <;> (try simp only [sw_or, sw_all, or_false, and_true, i32_lt, i32_le, i32_eq, i32_addw, i32_subw, i32_mulw, Int32.reduceToInt] at *) <;> omega)))
  refine r_vi3 mo_FW_type d_law_772 rfl rfl rfl (q := 775) rfl ?_
  refine sp_FW_type (by first | assumption | omega | decide | ((try simp +decide only [b01, b10, b11, am_up, and_true, and_false, true_and, false_and, if_true, if_false, nn_eq] at *) <;> (try simp only [sw_or, sw_all, or_false, and_true, i32_lt, i32_le, i32_eq, i32_addw, i32_subw, i32_mulw, Int32.reduceToInt] at *) <;> omega) | (apply_assumption; done)) (fun e772 => ?_)
  · skip
    exact la_17b i0 i6 iL e772.2

/-! written by wip/whole/gen/walk.py out of 67.compose.txt -/
theorem la_3 {L : Nat} {xs : Nat → Int32} {K : Int32 → am_S → Prop} {i : Int32} {a b : Option am_V} {st : am_S} (i0 : 0 ≤ i.toInt) (i6 : i.toInt + 6 ≤ (L : Int)) (iL : L ≤ 3072) (h : wp_FW_verify [.inr (.inl 123)] st (am_kt (fun v st1 => wp_MO_verify [.inr (.inl 128)] (am_up st1 2167 0 v) (am_ki (fun b9 st2 => st2 576 0 = 0 ∧ (st2 2167 0 = b9) ∧ K i st2))) (fun n st1 => (n = 1 ∨ n = 2) ∧ wp_MO_verify [.inr (.inl 128)] st1 (am_ki (fun _ st2 => st2 576 0 = (if n = 1 then 1 else 2) ∧ K i st2))))) : am_AW code (g_law L xs (lw_P1 L xs K)) lw_k 365 (lw_lv i a b) [] st := by
  refine r_al1 (q := 366) d_law_365 rfl ?_
  refine r_al3 (q := 367) d_law_366 rfl ?_
  refine am_cut (Or.inr ⟨wl_verify, [.inr (.inl 123), .inr (.inl 167)], rfl, rfl, rfl, mo_FW_verify _ _ _ _ (fun o st' ho => fl_kt ?_) h⟩)
  rcases o with (_ | v | y) | n
  · exact ho
  · exact ⟨Or.inr (Or.inr rfl), la_3n i0 i6 iL ho⟩
  · exact ho
  · obtain ⟨h1, h2⟩ := ho
    rcases h1 with rfl | rfl
    · exact ⟨Or.inl rfl, 1, rfl, la_3t i0 i6 iL (by decide) h2⟩
    · exact ⟨Or.inr rfl, 2, rfl, la_3t i0 i6 iL (by decide) h2⟩
theorem la_7 {L : Nat} {xs : Nat → Int32} {K : Int32 → am_S → Prop} {i : Int32} {a b : Option am_V} {st : am_S} (i0 : 0 ≤ i.toInt) (i6 : i.toInt + 6 ≤ (L : Int)) (iL : L ≤ 3072) (h : wp_FW_start [.inr (.inl 123), .inl (xs (i + 1).toNatClampNeg)] st (am_kt (fun v st1 => (v = 0 ∨ v = 1) ∧ wp_MO_start [.inr (.inl 128), .inl (xs (i + 1).toNatClampNeg)] (am_up st1 2167 0 v) (am_ki (fun b9 st2 => st2 576 0 = 0 ∧ ((b9 = 0 ∨ b9 = 1) ∧ st2 2167 0 = b9) ∧ K i st2))) (fun n st1 => (n = 1 ∨ n = 2) ∧ wp_MO_start [.inr (.inl 128), .inl (xs (i + 1).toNatClampNeg)] st1 (am_ki (fun _ st2 => st2 576 0 = (if n = 1 then 1 else 2) ∧ K i st2))))) : am_AW code (g_law L xs (lw_P1 L xs K)) lw_k 458 (lw_lv i a b) [] st := by
  refine r_al1 (q := 459) d_law_458 rfl ?_
  refine r_al0 (q := 460) d_law_459 rfl ?_
  refine r_il4 (q := 462) d_law_460 rfl ?_
  refine r_ic (v := 1) (q := 463) d_law_462 rfl rfl ?_
  refine r_iadd (q := 464) d_law_463 rfl ?_
  refine am_sl (q := 465) d_law_464 rfl ?_ rfl ?_
  · (refine vp_of ?_ ?_ <;> (((try simp +decide only [b01, b10, b11, am_up, and_true, and_false, true_and, false_and, if_true, if_false, nn_eq] at *) <;> (try simp only [sw_or, sw_all, or_false, and_true, i32_lt, i32_le, i32_eq, i32_addw, i32_subw, i32_mulw, Int32.reduceToInt] at *) <;> omega)))
  refine r_al3 (q := 466) d_law_465 rfl ?_
  refine am_cut (Or.inr ⟨wl_start, [.inr (.inl 123), .inl (xs (i + 1).toNatClampNeg), .inr (.inl 167)], rfl, rfl, _, rfl, mo_FW_start _ _ _ _ (fun o st' ho => fl_kt ?_) h⟩)
  rcases o with (_ | v | y) | n
  · exact ho
  · exact ⟨ho.1.imp id Or.inl, la_7n i0 i6 iL ho.2⟩
  · exact ho
  · obtain ⟨h1, h2⟩ := ho
    rcases h1 with rfl | rfl
    · exact ⟨Or.inl rfl, 1, rfl, la_7t i0 i6 iL (by decide) h2⟩
    · exact ⟨Or.inr rfl, 2, rfl, la_7t i0 i6 iL (by decide) h2⟩
theorem la_8 {L : Nat} {xs : Nat → Int32} {K : Int32 → am_S → Prop} {i : Int32} {a b : Option am_V} {st : am_S} (i0 : 0 ≤ i.toInt) (i6 : i.toInt + 6 ≤ (L : Int)) (iL : L ≤ 3072) (h : wp_FW_run [.inr (.inl 123), .inl (xs (i + 1).toNatClampNeg)] st (am_kt (fun v st1 => wp_MO_run [.inr (.inl 128), .inl (xs (i + 1).toNatClampNeg)] (am_up st1 2167 0 v) (am_ki (fun b9 st2 => st2 576 0 = 0 ∧ (st2 2167 0 = b9) ∧ K i st2))) (fun n st1 => n = 1 ∧ wp_MO_run [.inr (.inl 128), .inl (xs (i + 1).toNatClampNeg)] st1 (am_ki (fun _ st2 => st2 576 0 = 1 ∧ K i st2))))) : am_AW code (g_law L xs (lw_P1 L xs K)) lw_k 521 (lw_lv i a b) [] st := by
  refine r_al1 (q := 522) d_law_521 rfl ?_
  refine r_al0 (q := 523) d_law_522 rfl ?_
  refine r_il4 (q := 525) d_law_523 rfl ?_
  refine r_ic (v := 1) (q := 526) d_law_525 rfl rfl ?_
  refine r_iadd (q := 527) d_law_526 rfl ?_
  refine am_sl (q := 528) d_law_527 rfl ?_ rfl ?_
  · (refine vp_of ?_ ?_ <;> (((try simp +decide only [b01, b10, b11, am_up, and_true, and_false, true_and, false_and, if_true, if_false, nn_eq] at *) <;> (try simp only [sw_or, sw_all, or_false, and_true, i32_lt, i32_le, i32_eq, i32_addw, i32_subw, i32_mulw, Int32.reduceToInt] at *) <;> omega)))
  refine r_al3 (q := 529) d_law_528 rfl ?_
  refine am_cut (Or.inr ⟨wl_run, [.inr (.inl 123), .inl (xs (i + 1).toNatClampNeg), .inr (.inl 167)], rfl, rfl, _, rfl, mo_FW_run _ _ _ _ (fun o st' ho => fl_kt ?_) h⟩)
  rcases o with (_ | v | y) | n
  · exact ho
  · exact ⟨Or.inr (Or.inr rfl), la_8n i0 i6 iL ho⟩
  · exact ho
  · obtain ⟨rfl, h2⟩ := ho
    exact ⟨Or.inl rfl, 1, rfl, la_8t i0 i6 iL (by decide) h2⟩

/-! written by wip/whole/gen/walk.py out of 62.turns2.txt -/
theorem la_6 {L : Nat} {xs : Nat → Int32} {K : Int32 → am_S → Prop} {i : Int32} {a b : Option am_V} {st : am_S} (i0 : 0 ≤ i.toInt) (i6 : i.toInt + 6 ≤ (L : Int)) (iL : L ≤ 3072) (c1 : 0 ≤ (st 261 0).toInt) (c2 : (st 261 0).toInt ≤ 4) (c3 : st 601 0 = st 261 0) (h1 : 4 ≤ st 261 0 → K i (am_up st 576 0 0)) (h2 : st 261 0 < 4 → K i (am_up (am_up (am_up (am_up (am_up st 2141 (st 261 0).toNatClampNeg (xs (i + 1).toNatClampNeg)) 261 0 (st 261 0 + 1)) 576 0 0) 2159 (st 601 0).toNatClampNeg (xs (i + 1).toNatClampNeg)) 601 0 (st 601 0 + 1))) : am_AW code (g_law L xs (lw_P1 L xs K)) lw_k 433 (lw_lv i a b) [] st := by
  refine r_al1 (q := 434) d_law_433 rfl ?_
  refine r_al0 (q := 435) d_law_434 rfl ?_
  refine r_il4 (q := 437) d_law_435 rfl ?_
  refine r_ic (v := 1) (q := 438) d_law_437 rfl rfl ?_
  refine r_iadd (q := 439) d_law_438 rfl ?_
  refine am_sl (q := 440) d_law_439 rfl ?_ rfl ?_
  · (refine vp_of ?_ ?_ <;> (((try simp +decide only [b01, b10, b11, am_up, and_true, and_false, true_and, false_and, if_true, if_false, nn_eq] at *) <;> (try simp only [sw_or, sw_all, or_false, and_true, i32_lt, i32_le, i32_eq, i32_addw, i32_subw, i32_mulw, Int32.reduceToInt] at *) <;> omega)))
  refine r_vi1 mo_FW_argument d_law_440 rfl rfl rfl (q := 443) rfl ?_
  refine sp_FW_argument (by first | assumption | omega | decide | ((try simp +decide only [b01, b10, b11, am_up, and_true, and_false, true_and, false_and, if_true, if_false, nn_eq] at *) <;> (try simp only [sw_or, sw_all, or_false, and_true, i32_lt, i32_le, i32_eq, i32_addw, i32_subw, i32_mulw, Int32.reduceToInt] at *) <;> omega) | (apply_assumption; done)) (fun e440 => ?_) (fun e440 => ?_)
  · skip
    refine r_al2 (q := 444) d_law_443 rfl ?_
    refine r_al0 (q := 445) d_law_444 rfl ?_
    refine r_il4 (q := 447) d_law_445 rfl ?_
    refine r_ic (v := 1) (q := 448) d_law_447 rfl rfl ?_
    refine r_iadd (q := 449) d_law_448 rfl ?_
    refine am_sl (q := 450) d_law_449 rfl ?_ rfl ?_
    · (refine vp_of ?_ ?_ <;> (((try simp +decide only [b01, b10, b11, am_up, and_true, and_false, true_and, false_and, if_true, if_false, nn_eq] at *) <;> (try simp only [sw_or, sw_all, or_false, and_true, i32_lt, i32_le, i32_eq, i32_addw, i32_subw, i32_mulw, Int32.reduceToInt] at *) <;> omega)))
    refine r_vi1 mo_MO_argument d_law_450 rfl rfl rfl (q := 453) rfl ?_
    refine sp_MO_argument (by first | assumption | omega | decide | ((try simp +decide only [b01, b10, b11, am_up, and_true, and_false, true_and, false_and, if_true, if_false, nn_eq] at *) <;> (try simp only [sw_or, sw_all, or_false, and_true, i32_lt, i32_le, i32_eq, i32_addw, i32_subw, i32_mulw, Int32.reduceToInt] at *) <;> omega) | (apply_assumption; done)) (by first | assumption | omega | decide | ((try simp +decide only [b01, b10, b11, am_up, and_true, and_false, true_and, false_and, if_true, if_false, nn_eq] at *) <;> (try simp only [sw_or, sw_all, or_false, and_true, i32_lt, i32_le, i32_eq, i32_addw, i32_subw, i32_mulw, Int32.reduceToInt] at *) <;> omega) | (apply_assumption; done)) (fun e450 => ?_) (fun e450 => ?_)
    · skip
      refine r_ceq (tgt := 802) (q := 456) d_law_453 rfl rfl (fun e453 => ?_) (fun e453 => ?_)
      · skip
        first | exact am_cut (Or.inl ⟨rfl, rfl, _, _, _, rfl, h1 e440⟩) | exact am_cut (Or.inl ⟨rfl, rfl, _, _, _, rfl, h2 e440⟩) | (exfalso; ((try simp +decide only [b01, b10, b11, am_up, and_true, and_false, true_and, false_and, if_true, if_false, nn_eq] at *) <;> (try simp only [sw_or, sw_all, or_false, and_true, i32_lt, i32_le, i32_eq, i32_addw, i32_subw, i32_mulw, Int32.reduceToInt] at *) <;> omega))
      · skip
        refine r_ic (v := 0) (q := 457) d_law_456 rfl rfl ?_
        exfalso; ((try simp +decide only [b01, b10, b11, am_up, and_true, and_false, true_and, false_and, if_true, if_false, nn_eq] at *) <;> (try simp only [sw_or, sw_all, or_false, and_true, i32_lt, i32_le, i32_eq, i32_addw, i32_subw, i32_mulw, Int32.reduceToInt] at *) <;> omega)
    · skip
      refine r_ceq (tgt := 802) (q := 456) d_law_453 rfl rfl (fun e453 => ?_) (fun e453 => ?_)
      · skip
        first | exact am_cut (Or.inl ⟨rfl, rfl, _, _, _, rfl, h1 e440⟩) | exact am_cut (Or.inl ⟨rfl, rfl, _, _, _, rfl, h2 e440⟩) | (exfalso; ((try simp +decide only [b01, b10, b11, am_up, and_true, and_false, true_and, false_and, if_true, if_false, nn_eq] at *) <;> (try simp only [sw_or, sw_all, or_false, and_true, i32_lt, i32_le, i32_eq, i32_addw, i32_subw, i32_mulw, Int32.reduceToInt] at *) <;> omega))
      · skip
        refine r_ic (v := 0) (q := 457) d_law_456 rfl rfl ?_
        exfalso; ((try simp +decide only [b01, b10, b11, am_up, and_true, and_false, true_and, false_and, if_true, if_false, nn_eq] at *) <;> (try simp only [sw_or, sw_all, or_false, and_true, i32_lt, i32_le, i32_eq, i32_addw, i32_subw, i32_mulw, Int32.reduceToInt] at *) <;> omega)
  · skip
    refine r_al2 (q := 444) d_law_443 rfl ?_
    refine r_al0 (q := 445) d_law_444 rfl ?_
    refine r_il4 (q := 447) d_law_445 rfl ?_
    refine r_ic (v := 1) (q := 448) d_law_447 rfl rfl ?_
    refine r_iadd (q := 449) d_law_448 rfl ?_
    refine am_sl (q := 450) d_law_449 rfl ?_ rfl ?_
    · (refine vp_of ?_ ?_ <;> (((try simp +decide only [b01, b10, b11, am_up, and_true, and_false, true_and, false_and, if_true, if_false, nn_eq] at *) <;> (try simp only [sw_or, sw_all, or_false, and_true, i32_lt, i32_le, i32_eq, i32_addw, i32_subw, i32_mulw, Int32.reduceToInt] at *) <;> omega)))
    refine r_vi1 mo_MO_argument d_law_450 rfl rfl rfl (q := 453) rfl ?_
    refine sp_MO_argument (by first | assumption | omega | decide | ((try simp +decide only [b01, b10, b11, am_up, and_true, and_false, true_and, false_and, if_true, if_false, nn_eq] at *) <;> (try simp only [sw_or, sw_all, or_false, and_true, i32_lt, i32_le, i32_eq, i32_addw, i32_subw, i32_mulw, Int32.reduceToInt] at *) <;> omega) | (apply_assumption; done)) (by first | assumption | omega | decide | ((try simp +decide only [b01, b10, b11, am_up, and_true, and_false, true_and, false_and, if_true, if_false, nn_eq] at *) <;> (try simp only [sw_or, sw_all, or_false, and_true, i32_lt, i32_le, i32_eq, i32_addw, i32_subw, i32_mulw, Int32.reduceToInt] at *) <;> omega) | (apply_assumption; done)) (fun e450 => ?_) (fun e450 => ?_)
    · skip
      refine r_ceq (tgt := 802) (q := 456) d_law_453 rfl rfl (fun e453 => ?_) (fun e453 => ?_)
      · skip
        first | exact am_cut (Or.inl ⟨rfl, rfl, _, _, _, rfl, h1 e440⟩) | exact am_cut (Or.inl ⟨rfl, rfl, _, _, _, rfl, h2 e440⟩) | (exfalso; ((try simp +decide only [b01, b10, b11, am_up, and_true, and_false, true_and, false_and, if_true, if_false, nn_eq] at *) <;> (try simp only [sw_or, sw_all, or_false, and_true, i32_lt, i32_le, i32_eq, i32_addw, i32_subw, i32_mulw, Int32.reduceToInt] at *) <;> omega))
      · skip
        refine r_ic (v := 0) (q := 457) d_law_456 rfl rfl ?_
        exfalso; ((try simp +decide only [b01, b10, b11, am_up, and_true, and_false, true_and, false_and, if_true, if_false, nn_eq] at *) <;> (try simp only [sw_or, sw_all, or_false, and_true, i32_lt, i32_le, i32_eq, i32_addw, i32_subw, i32_mulw, Int32.reduceToInt] at *) <;> omega)
    · skip
      refine r_ceq (tgt := 802) (q := 456) d_law_453 rfl rfl (fun e453 => ?_) (fun e453 => ?_)
      · skip
        first | exact am_cut (Or.inl ⟨rfl, rfl, _, _, _, rfl, h1 e440⟩) | exact am_cut (Or.inl ⟨rfl, rfl, _, _, _, rfl, h2 e440⟩) | (exfalso; ((try simp +decide only [b01, b10, b11, am_up, and_true, and_false, true_and, false_and, if_true, if_false, nn_eq] at *) <;> (try simp only [sw_or, sw_all, or_false, and_true, i32_lt, i32_le, i32_eq, i32_addw, i32_subw, i32_mulw, Int32.reduceToInt] at *) <;> omega))
      · skip
        refine r_ic (v := 0) (q := 457) d_law_456 rfl rfl ?_
        exfalso; ((try simp +decide only [b01, b10, b11, am_up, and_true, and_false, true_and, false_and, if_true, if_false, nn_eq] at *) <;> (try simp only [sw_or, sw_all, or_false, and_true, i32_lt, i32_le, i32_eq, i32_addw, i32_subw, i32_mulw, Int32.reduceToInt] at *) <;> omega)
theorem la_2 {L : Nat} {xs : Nat → Int32} {K : Int32 → am_S → Prop} {i : Int32} {a b : Option am_V} {st : am_S} (i0 : 0 ≤ i.toInt) (i6 : i.toInt + 6 ≤ (L : Int)) (iL : L ≤ 3072) (c1 : 0 ≤ (st 323 0).toInt) (c2 : (st 323 0).toInt ≤ 8) (c3 : 0 ≤ (st 66 (st 323 0 - 1).toNatClampNeg).toInt) (c4 : (st 66 (st 323 0 - 1).toNatClampNeg).toInt ≤ 4) (c5 : st 579 0 = st 323 0) (c6 : st 591 0 = st 262 0) (c7 : st 2149 (st 579 0 - 1).toNatClampNeg = st 66 (st 323 0 - 1).toNatClampNeg) (h1 : ¬ st 262 0 = 0 ∨ st 323 0 = 0 ∨ 4 ≤ st 66 (st 323 0 - 1).toNatClampNeg → K i (am_up st 576 0 0)) (h2 : st 262 0 = 0 ∧ ¬ st 323 0 = 0 ∧ st 66 (st 323 0 - 1).toNatClampNeg < 4 → K i (am_up (am_up (am_up (am_up (am_up (am_up (am_up (am_up (am_up (am_up (am_up st 128 (cs_h st) (xs (i + 1).toNatClampNeg)) 129 (cs_h st) (xs (i + 2).toNatClampNeg)) 130 (cs_h st) (xs (i + 3).toNatClampNeg)) 131 (cs_h st) (xs (i + 4).toNatClampNeg)) 66 (cs_m st) (st 66 (cs_m st) + 1)) 576 0 0) 2150 (ms_h st) (xs (i + 1).toNatClampNeg)) 2151 (ms_h st) (xs (i + 2).toNatClampNeg)) 2152 (ms_h st) (xs (i + 3).toNatClampNeg)) 2153 (ms_h st) (xs (i + 4).toNatClampNeg)) 2149 (ms_m st) (st 2149 (ms_m st) + 1))) : am_AW code (g_law L xs (lw_P1 L xs K)) lw_k 304 (lw_lv i a b) [] st := by
  refine r_al1 (q := 305) d_law_304 rfl ?_
  refine r_al0 (q := 306) d_law_305 rfl ?_
  refine r_il4 (q := 308) d_law_306 rfl ?_
  refine r_ic (v := 1) (q := 309) d_law_308 rfl rfl ?_
  refine r_iadd (q := 310) d_law_309 rfl ?_
  refine am_sl (q := 311) d_law_310 rfl ?_ rfl ?_
  · (refine vp_of ?_ ?_ <;> (((try simp +decide only [b01, b10, b11, am_up, and_true, and_false, true_and, false_and, if_true, if_false, nn_eq] at *) <;> (try simp only [sw_or, sw_all, or_false, and_true, i32_lt, i32_le, i32_eq, i32_addw, i32_subw, i32_mulw, Int32.reduceToInt] at *) <;> omega)))
  refine r_al0 (q := 312) d_law_311 rfl ?_
  refine r_il4 (q := 314) d_law_312 rfl ?_
  refine r_ic (v := 2) (q := 315) d_law_314 rfl rfl ?_
  refine r_iadd (q := 316) d_law_315 rfl ?_
  refine am_sl (q := 317) d_law_316 rfl ?_ rfl ?_
  · (refine vp_of ?_ ?_ <;> (((try simp +decide only [b01, b10, b11, am_up, and_true, and_false, true_and, false_and, if_true, if_false, nn_eq] at *) <;> (try simp only [sw_or, sw_all, or_false, and_true, i32_lt, i32_le, i32_eq, i32_addw, i32_subw, i32_mulw, Int32.reduceToInt] at *) <;> omega)))
  refine r_al0 (q := 318) d_law_317 rfl ?_
  refine r_il4 (q := 320) d_law_318 rfl ?_
  refine r_ic (v := 3) (q := 321) d_law_320 rfl rfl ?_
  refine r_iadd (q := 322) d_law_321 rfl ?_
  refine am_sl (q := 323) d_law_322 rfl ?_ rfl ?_
  · (refine vp_of ?_ ?_ <;> (((try simp +decide only [b01, b10, b11, am_up, and_true, and_false, true_and, false_and, if_true, if_false, nn_eq] at *) <;> (try simp only [sw_or, sw_all, or_false, and_true, i32_lt, i32_le, i32_eq, i32_addw, i32_subw, i32_mulw, Int32.reduceToInt] at *) <;> omega)))
  refine r_al0 (q := 324) d_law_323 rfl ?_
  refine r_il4 (q := 326) d_law_324 rfl ?_
  refine r_ic (v := 4) (q := 327) d_law_326 rfl rfl ?_
  refine r_iadd (q := 328) d_law_327 rfl ?_
  refine am_sl (q := 329) d_law_328 rfl ?_ rfl ?_
  · (refine vp_of ?_ ?_ <;> (((try simp +decide only [b01, b10, b11, am_up, and_true, and_false, true_and, false_and, if_true, if_false, nn_eq] at *) <;> (try simp only [sw_or, sw_all, or_false, and_true, i32_lt, i32_le, i32_eq, i32_addw, i32_subw, i32_mulw, Int32.reduceToInt] at *) <;> omega)))
  refine r_vi4 mo_FW_handler d_law_329 rfl rfl rfl (q := 332) rfl ?_
  refine sp_FW_handler (by first | assumption | omega | decide | ((try simp +decide only [b01, b10, b11, am_up, and_true, and_false, true_and, false_and, if_true, if_false, nn_eq] at *) <;> (try simp only [sw_or, sw_all, or_false, and_true, i32_lt, i32_le, i32_eq, i32_addw, i32_subw, i32_mulw, Int32.reduceToInt] at *) <;> omega) | (apply_assumption; done)) (by first | assumption | omega | decide | ((try simp +decide only [b01, b10, b11, am_up, and_true, and_false, true_and, false_and, if_true, if_false, nn_eq] at *) <;> (try simp only [sw_or, sw_all, or_false, and_true, i32_lt, i32_le, i32_eq, i32_addw, i32_subw, i32_mulw, Int32.reduceToInt] at *) <;> omega) | (apply_assumption; done)) (by first | assumption | omega | decide | ((try simp +decide only [b01, b10, b11, am_up, and_true, and_false, true_and, false_and, if_true, if_false, nn_eq] at *) <;> (try simp only [sw_or, sw_all, or_false, and_true, i32_lt, i32_le, i32_eq, i32_addw, i32_subw, i32_mulw, Int32.reduceToInt] at *) <;> omega) | (apply_assumption; done)) (fun e329 => ?_) (fun e329 => ?_)
  · skip
    refine r_al2 (q := 333) d_law_332 rfl ?_
    refine r_al0 (q := 334) d_law_333 rfl ?_
    refine r_il4 (q := 336) d_law_334 rfl ?_
    refine r_ic (v := 1) (q := 337) d_law_336 rfl rfl ?_
    refine r_iadd (q := 338) d_law_337 rfl ?_
    refine am_sl (q := 339) d_law_338 rfl ?_ rfl ?_
    · (refine vp_of ?_ ?_ <;> (((try simp +decide only [b01, b10, b11, am_up, and_true, and_false, true_and, false_and, if_true, if_false, nn_eq] at *) <;> (try simp only [sw_or, sw_all, or_false, and_true, i32_lt, i32_le, i32_eq, i32_addw, i32_subw, i32_mulw, Int32.reduceToInt] at *) <;> omega)))
    refine r_al0 (q := 340) d_law_339 rfl ?_
    refine r_il4 (q := 342) d_law_340 rfl ?_
    refine r_ic (v := 2) (q := 343) d_law_342 rfl rfl ?_
    refine r_iadd (q := 344) d_law_343 rfl ?_
    refine am_sl (q := 345) d_law_344 rfl ?_ rfl ?_
    · (refine vp_of ?_ ?_ <;> (((try simp +decide only [b01, b10, b11, am_up, and_true, and_false, true_and, false_and, if_true, if_false, nn_eq] at *) <;> (try simp only [sw_or, sw_all, or_false, and_true, i32_lt, i32_le, i32_eq, i32_addw, i32_subw, i32_mulw, Int32.reduceToInt] at *) <;> omega)))
    refine r_al0 (q := 346) d_law_345 rfl ?_
    refine r_il4 (q := 348) d_law_346 rfl ?_
    refine r_ic (v := 3) (q := 349) d_law_348 rfl rfl ?_
    refine r_iadd (q := 350) d_law_349 rfl ?_
    refine am_sl (q := 351) d_law_350 rfl ?_ rfl ?_
    · (refine vp_of ?_ ?_ <;> (((try simp +decide only [b01, b10, b11, am_up, and_true, and_false, true_and, false_and, if_true, if_false, nn_eq] at *) <;> (try simp only [sw_or, sw_all, or_false, and_true, i32_lt, i32_le, i32_eq, i32_addw, i32_subw, i32_mulw, Int32.reduceToInt] at *) <;> omega)))
    refine r_al0 (q := 352) d_law_351 rfl ?_
    refine r_il4 (q := 354) d_law_352 rfl ?_
    refine r_ic (v := 4) (q := 355) d_law_354 rfl rfl ?_
    refine r_iadd (q := 356) d_law_355 rfl ?_
    refine am_sl (q := 357) d_law_356 rfl ?_ rfl ?_
    · (refine vp_of ?_ ?_ <;> (((try simp +decide only [b01, b10, b11, am_up, and_true, and_false, true_and, false_and, if_true, if_false, nn_eq] at *) <;> (try simp only [sw_or, sw_all, or_false, and_true, i32_lt, i32_le, i32_eq, i32_addw, i32_subw, i32_mulw, Int32.reduceToInt] at *) <;> omega)))
    refine r_vi4 mo_MO_handler d_law_357 rfl rfl rfl (q := 360) rfl ?_
    refine sp_MO_handler (by first | assumption | omega | decide | ((try simp +decide only [b01, b10, b11, am_up, and_true, and_false, true_and, false_and, if_true, if_false, nn_eq] at *) <;> (try simp only [sw_or, sw_all, or_false, and_true, i32_lt, i32_le, i32_eq, i32_addw, i32_subw, i32_mulw, Int32.reduceToInt] at *) <;> omega) | (apply_assumption; done)) (by first | assumption | omega | decide | ((try simp +decide only [b01, b10, b11, am_up, and_true, and_false, true_and, false_and, if_true, if_false, nn_eq] at *) <;> (try simp only [sw_or, sw_all, or_false, and_true, i32_lt, i32_le, i32_eq, i32_addw, i32_subw, i32_mulw, Int32.reduceToInt] at *) <;> omega) | (apply_assumption; done)) (by first | assumption | omega | decide | ((try simp +decide only [b01, b10, b11, am_up, and_true, and_false, true_and, false_and, if_true, if_false, nn_eq] at *) <;> (try simp only [sw_or, sw_all, or_false, and_true, i32_lt, i32_le, i32_eq, i32_addw, i32_subw, i32_mulw, Int32.reduceToInt] at *) <;> omega) | (apply_assumption; done)) (by first | assumption | omega | decide | ((try simp +decide only [b01, b10, b11, am_up, and_true, and_false, true_and, false_and, if_true, if_false, nn_eq] at *) <;> (try simp only [sw_or, sw_all, or_false, and_true, i32_lt, i32_le, i32_eq, i32_addw, i32_subw, i32_mulw, Int32.reduceToInt] at *) <;> omega) | (apply_assumption; done)) (fun e357 => ?_) (fun e357 => ?_)
    · skip
      refine r_ceq (tgt := 802) (q := 363) d_law_360 rfl rfl (fun e360 => ?_) (fun e360 => ?_)
      · skip
        first | exact am_cut (Or.inl ⟨rfl, rfl, _, _, _, rfl, h1 e329⟩) | exact am_cut (Or.inl ⟨rfl, rfl, _, _, _, rfl, h2 e329⟩) | (exfalso; ((try simp +decide only [b01, b10, b11, am_up, and_true, and_false, true_and, false_and, if_true, if_false, nn_eq] at *) <;> (try simp only [sw_or, sw_all, or_false, and_true, i32_lt, i32_le, i32_eq, i32_addw, i32_subw, i32_mulw, Int32.reduceToInt] at *) <;> omega))
      · skip
        refine r_ic (v := 0) (q := 364) d_law_363 rfl rfl ?_
        exfalso; ((try simp +decide only [b01, b10, b11, am_up, and_true, and_false, true_and, false_and, if_true, if_false, nn_eq] at *) <;> (try simp only [sw_or, sw_all, or_false, and_true, i32_lt, i32_le, i32_eq, i32_addw, i32_subw, i32_mulw, Int32.reduceToInt] at *) <;> omega)
    · skip
      refine r_ceq (tgt := 802) (q := 363) d_law_360 rfl rfl (fun e360 => ?_) (fun e360 => ?_)
      · skip
        first | exact am_cut (Or.inl ⟨rfl, rfl, _, _, _, rfl, h1 e329⟩) | exact am_cut (Or.inl ⟨rfl, rfl, _, _, _, rfl, h2 e329⟩) | (exfalso; ((try simp +decide only [b01, b10, b11, am_up, and_true, and_false, true_and, false_and, if_true, if_false, nn_eq] at *) <;> (try simp only [sw_or, sw_all, or_false, and_true, i32_lt, i32_le, i32_eq, i32_addw, i32_subw, i32_mulw, Int32.reduceToInt] at *) <;> omega))
      · skip
        refine r_ic (v := 0) (q := 364) d_law_363 rfl rfl ?_
        exfalso; ((try simp +decide only [b01, b10, b11, am_up, and_true, and_false, true_and, false_and, if_true, if_false, nn_eq] at *) <;> (try simp only [sw_or, sw_all, or_false, and_true, i32_lt, i32_le, i32_eq, i32_addw, i32_subw, i32_mulw, Int32.reduceToInt] at *) <;> omega)
  · skip
    refine r_al2 (q := 333) d_law_332 rfl ?_
    refine r_al0 (q := 334) d_law_333 rfl ?_
    refine r_il4 (q := 336) d_law_334 rfl ?_
    refine r_ic (v := 1) (q := 337) d_law_336 rfl rfl ?_
    refine r_iadd (q := 338) d_law_337 rfl ?_
    refine am_sl (q := 339) d_law_338 rfl ?_ rfl ?_
    · (refine vp_of ?_ ?_ <;> (((try simp +decide only [b01, b10, b11, am_up, and_true, and_false, true_and, false_and, if_true, if_false, nn_eq] at *) <;> (try simp only [sw_or, sw_all, or_false, and_true, i32_lt, i32_le, i32_eq, i32_addw, i32_subw, i32_mulw, Int32.reduceToInt] at *) <;> omega)))
    refine r_al0 (q := 340) d_law_339 rfl ?_
    refine r_il4 (q := 342) d_law_340 rfl ?_
    refine r_ic (v := 2) (q := 343) d_law_342 rfl rfl ?_
    refine r_iadd (q := 344) d_law_343 rfl ?_
    refine am_sl (q := 345) d_law_344 rfl ?_ rfl ?_
    · (refine vp_of ?_ ?_ <;> (((try simp +decide only [b01, b10, b11, am_up, and_true, and_false, true_and, false_and, if_true, if_false, nn_eq] at *) <;> (try simp only [sw_or, sw_all, or_false, and_true, i32_lt, i32_le, i32_eq, i32_addw, i32_subw, i32_mulw, Int32.reduceToInt] at *) <;> omega)))
    refine r_al0 (q := 346) d_law_345 rfl ?_
    refine r_il4 (q := 348) d_law_346 rfl ?_
    refine r_ic (v := 3) (q := 349) d_law_348 rfl rfl ?_
    refine r_iadd (q := 350) d_law_349 rfl ?_
    refine am_sl (q := 351) d_law_350 rfl ?_ rfl ?_
    · (refine vp_of ?_ ?_ <;> (((try simp +decide only [b01, b10, b11, am_up, and_true, and_false, true_and, false_and, if_true, if_false, nn_eq] at *) <;> (try simp only [sw_or, sw_all, or_false, and_true, i32_lt, i32_le, i32_eq, i32_addw, i32_subw, i32_mulw, Int32.reduceToInt] at *) <;> omega)))
    refine r_al0 (q := 352) d_law_351 rfl ?_
    refine r_il4 (q := 354) d_law_352 rfl ?_
    refine r_ic (v := 4) (q := 355) d_law_354 rfl rfl ?_
    refine r_iadd (q := 356) d_law_355 rfl ?_
    refine am_sl (q := 357) d_law_356 rfl ?_ rfl ?_
    · (refine vp_of ?_ ?_ <;> (((try simp +decide only [b01, b10, b11, am_up, and_true, and_false, true_and, false_and, if_true, if_false, nn_eq] at *) <;> (try simp only [sw_or, sw_all, or_false, and_true, i32_lt, i32_le, i32_eq, i32_addw, i32_subw, i32_mulw, Int32.reduceToInt] at *) <;> omega)))
    refine r_vi4 mo_MO_handler d_law_357 rfl rfl rfl (q := 360) rfl ?_
    refine sp_MO_handler (by first | assumption | omega | decide | ((try simp +decide only [b01, b10, b11, am_up, and_true, and_false, true_and, false_and, if_true, if_false, nn_eq] at *) <;> (try simp only [sw_or, sw_all, or_false, and_true, i32_lt, i32_le, i32_eq, i32_addw, i32_subw, i32_mulw, Int32.reduceToInt] at *) <;> omega) | (apply_assumption; done)) (by first | assumption | omega | decide | ((try simp +decide only [b01, b10, b11, am_up, and_true, and_false, true_and, false_and, if_true, if_false, nn_eq] at *) <;> (try simp only [sw_or, sw_all, or_false, and_true, i32_lt, i32_le, i32_eq, i32_addw, i32_subw, i32_mulw, Int32.reduceToInt] at *) <;> omega) | (apply_assumption; done)) (by first | assumption | omega | decide | ((try simp +decide only [b01, b10, b11, am_up, and_true, and_false, true_and, false_and, if_true, if_false, nn_eq] at *) <;> (try simp only [sw_or, sw_all, or_false, and_true, i32_lt, i32_le, i32_eq, i32_addw, i32_subw, i32_mulw, Int32.reduceToInt] at *) <;> omega) | (apply_assumption; done)) (by first | assumption | omega | decide | ((try simp +decide only [b01, b10, b11, am_up, and_true, and_false, true_and, false_and, if_true, if_false, nn_eq] at *) <;> (try simp only [sw_or, sw_all, or_false, and_true, i32_lt, i32_le, i32_eq, i32_addw, i32_subw, i32_mulw, Int32.reduceToInt] at *) <;> omega) | (apply_assumption; done)) (fun e357 => ?_) (fun e357 => ?_)
    · skip
      refine r_ceq (tgt := 802) (q := 363) d_law_360 rfl rfl (fun e360 => ?_) (fun e360 => ?_)
      · skip
        first | exact am_cut (Or.inl ⟨rfl, rfl, _, _, _, rfl, h1 e329⟩) | exact am_cut (Or.inl ⟨rfl, rfl, _, _, _, rfl, h2 e329⟩) | (exfalso; ((try simp +decide only [b01, b10, b11, am_up, and_true, and_false, true_and, false_and, if_true, if_false, nn_eq] at *) <;> (try simp only [sw_or, sw_all, or_false, and_true, i32_lt, i32_le, i32_eq, i32_addw, i32_subw, i32_mulw, Int32.reduceToInt] at *) <;> omega))
      · skip
        refine r_ic (v := 0) (q := 364) d_law_363 rfl rfl ?_
        exfalso; ((try simp +decide only [b01, b10, b11, am_up, and_true, and_false, true_and, false_and, if_true, if_false, nn_eq] at *) <;> (try simp only [sw_or, sw_all, or_false, and_true, i32_lt, i32_le, i32_eq, i32_addw, i32_subw, i32_mulw, Int32.reduceToInt] at *) <;> omega)
    · skip
      refine r_ceq (tgt := 802) (q := 363) d_law_360 rfl rfl (fun e360 => ?_) (fun e360 => ?_)
      · skip
        first | exact am_cut (Or.inl ⟨rfl, rfl, _, _, _, rfl, h1 e329⟩) | exact am_cut (Or.inl ⟨rfl, rfl, _, _, _, rfl, h2 e329⟩) | (exfalso; ((try simp +decide only [b01, b10, b11, am_up, and_true, and_false, true_and, false_and, if_true, if_false, nn_eq] at *) <;> (try simp only [sw_or, sw_all, or_false, and_true, i32_lt, i32_le, i32_eq, i32_addw, i32_subw, i32_mulw, Int32.reduceToInt] at *) <;> omega))
      · skip
        refine r_ic (v := 0) (q := 364) d_law_363 rfl rfl ?_
        exfalso; ((try simp +decide only [b01, b10, b11, am_up, and_true, and_false, true_and, false_and, if_true, if_false, nn_eq] at *) <;> (try simp only [sw_or, sw_all, or_false, and_true, i32_lt, i32_le, i32_eq, i32_addw, i32_subw, i32_mulw, Int32.reduceToInt] at *) <;> omega)

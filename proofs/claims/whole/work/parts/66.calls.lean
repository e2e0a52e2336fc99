/-! written by wip/whole/gen/walk.py out of 66.calls.txt -/
theorem ki_of {w : am_Wp} (hm : am_Mo w) {as : List am_V} {st : am_S} {f g : Int32 → am_S → Prop} (h : w as st (am_ki g)) (h1 : ∀ p : {p : Int32 × am_S // g p.1 p.2}, f p.1.1 p.1.2) : w as st (am_ki f) := by
  refine hm _ _ _ _ (fun o st' ho => ?_) h
  rcases o with (_ | v | y) | n
  · exact ho
  · exact h1 ⟨(v, st'), ho⟩
  · exact ho
  · exact ho
theorem cmp_s0 {x y : Int32} (h : x = y) (h0 : y = 0) : lg_cmp x.toInt64 (Int64.ofNat 0) = 0 := by
  subst h
  subst h0
  decide
theorem cmp_s1 {x y : Int32} (hy : y = 0 ∨ y = 1) (h : x = y) (h0 : ¬ y = 0) : lg_cmp x.toInt64 (Int64.ofNat 1) = 0 := by
  rcases hy with hy | hy
  · exact absurd hy h0
  · subst h
    subst hy
    decide
theorem sp_MO_verify {st : am_S} {f g : Int32 → am_S → Prop} (c1 : wp_MO_verify [.inr (.inl 128)] st (am_ki g)) (h1 : ∀ p : {p : Int32 × am_S // g p.1 p.2}, f p.1.1 p.1.2) : wp_MO_verify [.inr (.inl 128)] st (am_ki f) := ki_of mo_MO_verify c1 h1
theorem la_3t {L : Nat} {xs : Nat → Int32} {K : Int32 → am_S → Prop} {i : Int32} {a b : Option am_V} {st : am_S} (i0 : 0 ≤ i.toInt) (i6 : i.toInt + 6 ≤ (L : Int)) (iL : L ≤ 3072) {v : Int32} (hv : ¬ v = 0) (c1 : wp_MO_verify [.inr (.inl 128)] st (am_ki (fun _ st2 => st2 576 0 = v ∧ K i st2))) : am_AW code (g_law L xs (lw_P2 K)) lw_k 370 (lw_lv i a b) [.inl v] st := by
  refine r_is5 (q := 372) d_law_370 rfl ?_
  refine r_al2 (q := 373) d_law_372 rfl ?_
  refine r_vi0 mo_MO_verify d_law_373 rfl rfl rfl (q := 376) rfl ?_
  refine sp_MO_verify (by first | assumption | omega | decide | ((try simp +decide only [b01, b10, b11, am_up, and_true, and_false, true_and, false_and, if_true, if_false, nn_eq] at *) <;> (try simp only [sw_or, sw_all, or_false, and_true, i32_lt, i32_le, i32_eq, i32_addw, i32_subw, i32_mulw, Int32.reduceToInt] at *) <;> omega) | (apply_assumption; done)) (fun e373 => ?_)
  · skip
    refine r_is6 (q := 378) d_law_376 rfl ?_
    refine r_al2 (q := 379) d_law_378 rfl ?_
    refine r_vi0 mo_MO_thrown d_law_379 rfl rfl rfl (q := 382) rfl ?_
    refine sp_MO_thrown ?_
    refine r_il5 (q := 384) d_law_382 rfl ?_
    refine r_ceq (tgt := 389) (q := 387) d_law_384 rfl rfl (fun e384 => ?_) (fun e384 => ?_)
    · skip
      refine r_il5 (q := 391) d_law_389 rfl ?_
      refine r_zne (tgt := 406) (q := 394) d_law_391 rfl rfl (fun e391 => ?_) (fun e391 => ?_)
      · skip
        refine am_go (tgt := 802) d_law_406 rfl ?_
        exact am_cut ⟨rfl, rfl, _, _, _, rfl, e373.2.2⟩
      · skip
        refine r_al3 (q := 395) d_law_394 rfl ?_
        refine r_ic (v := 0) (q := 396) d_law_395 rfl rfl ?_
        refine am_al (n := 1) (q := 397) d_law_396 rfl (vp_of (by decide) (by decide)) rfl ?_
        refine r_il6 (q := 399) d_law_397 rfl ?_
        refine am_s (q := 400) d_law_399 rfl rfl ?_
        refine am_s (q := 401) d_law_400 rfl rfl ?_
        refine r_zeq (tgt := 406) (q := 404) d_law_401 rfl rfl (fun e401 => ?_) (fun e401 => ?_)
        · skip
          refine am_go (tgt := 802) d_law_406 rfl ?_
          exact am_cut ⟨rfl, rfl, _, _, _, rfl, e373.2.2⟩
        · skip
          refine r_ic (v := 0) (q := 405) d_law_404 rfl rfl ?_
          exfalso; first | exact absurd e373.2.1 e384 | exact hv (by assumption) | exact absurd (by assumption) hv
    · skip
      refine r_ic (v := 0) (q := 388) d_law_387 rfl rfl ?_
      exfalso; first | exact absurd e373.2.1 e384 | exact hv (by assumption) | exact absurd (by assumption) hv
theorem la_3n {L : Nat} {xs : Nat → Int32} {K : Int32 → am_S → Prop} {i : Int32} {a b : Option am_V} {st : am_S} (i0 : 0 ≤ i.toInt) (i6 : i.toInt + 6 ≤ (L : Int)) (iL : L ≤ 3072) (c1 : wp_MO_verify [.inr (.inl 128)] st (am_ki (fun b9 st2 => st2 576 0 = 0 ∧ (st2 2167 0 = b9) ∧ K i st2))) : am_AW code (g_law L xs (lw_P2 K)) lw_k 370 (lw_lv i a b) [.inl 0] st := by
  refine r_is5 (q := 372) d_law_370 rfl ?_
  refine r_al2 (q := 373) d_law_372 rfl ?_
  refine r_vi0 mo_MO_verify d_law_373 rfl rfl rfl (q := 376) rfl ?_
  refine sp_MO_verify (by first | assumption | omega | decide | ((try simp +decide only [b01, b10, b11, am_up, and_true, and_false, true_and, false_and, if_true, if_false, nn_eq] at *) <;> (try simp only [sw_or, sw_all, or_false, and_true, i32_lt, i32_le, i32_eq, i32_addw, i32_subw, i32_mulw, Int32.reduceToInt] at *) <;> omega) | (apply_assumption; done)) (fun e373 => ?_)
  · skip
    refine r_is6 (q := 378) d_law_376 rfl ?_
    refine r_al2 (q := 379) d_law_378 rfl ?_
    refine r_vi0 mo_MO_thrown d_law_379 rfl rfl rfl (q := 382) rfl ?_
    refine sp_MO_thrown ?_
    refine r_il5 (q := 384) d_law_382 rfl ?_
    refine r_ceq (tgt := 389) (q := 387) d_law_384 rfl rfl (fun e384 => ?_) (fun e384 => ?_)
    · skip
      refine r_il5 (q := 391) d_law_389 rfl ?_
      refine r_zne (tgt := 406) (q := 394) d_law_391 rfl rfl (fun e391 => ?_) (fun e391 => ?_)
      · skip
        refine am_go (tgt := 802) d_law_406 rfl ?_
        exact am_cut ⟨rfl, rfl, _, _, _, rfl, e373.2.2.2⟩
      · skip
        refine r_al3 (q := 395) d_law_394 rfl ?_
        refine r_ic (v := 0) (q := 396) d_law_395 rfl rfl ?_
        refine am_al (n := 1) (q := 397) d_law_396 rfl (vp_of (by decide) (by decide)) rfl ?_
        refine r_il6 (q := 399) d_law_397 rfl ?_
        refine am_s (q := 400) d_law_399 rfl rfl ?_
        refine am_s (q := 401) d_law_400 rfl rfl ?_
        refine r_zeq (tgt := 406) (q := 404) d_law_401 rfl rfl (fun e401 => ?_) (fun e401 => ?_)
        · skip
          refine am_go (tgt := 802) d_law_406 rfl ?_
          exact am_cut ⟨rfl, rfl, _, _, _, rfl, e373.2.2.2⟩
        · skip
          refine r_ic (v := 0) (q := 405) d_law_404 rfl rfl ?_
          exfalso; first | exact absurd e373.2.1 e384 | exact absurd (cmp_of e373.2.2.1) e401
    · skip
      refine r_ic (v := 0) (q := 388) d_law_387 rfl rfl ?_
      exfalso; first | exact absurd e373.2.1 e384 | exact absurd (cmp_of e373.2.2.1) e401
theorem sp_MO_start {x : Int32} {st : am_S} {f g : Int32 → am_S → Prop} (c1 : wp_MO_start [.inr (.inl 128), .inl x] st (am_ki g)) (h1 : ∀ p : {p : Int32 × am_S // g p.1 p.2}, f p.1.1 p.1.2) : wp_MO_start [.inr (.inl 128), .inl x] st (am_ki f) := ki_of mo_MO_start c1 h1
theorem la_7t {L : Nat} {xs : Nat → Int32} {K : Int32 → am_S → Prop} {i : Int32} {a b : Option am_V} {st : am_S} (i0 : 0 ≤ i.toInt) (i6 : i.toInt + 6 ≤ (L : Int)) (iL : L ≤ 3072) {v : Int32} (hv : ¬ v = 0) (c1 : wp_MO_start [.inr (.inl 128), .inl (xs (i + 1).toNatClampNeg)] st (am_ki (fun _ st2 => st2 576 0 = v ∧ K i st2))) : am_AW code (g_law L xs (lw_P2 K)) lw_k 469 (lw_lv i a b) [.inl v] st := by
  refine r_is5 (q := 471) d_law_469 rfl ?_
  refine r_al2 (q := 472) d_law_471 rfl ?_
  refine r_al0 (q := 473) d_law_472 rfl ?_
  refine r_il4 (q := 475) d_law_473 rfl ?_
  refine r_ic (v := 1) (q := 476) d_law_475 rfl rfl ?_
  refine r_iadd (q := 477) d_law_476 rfl ?_
  refine am_sl (q := 478) d_law_477 rfl ?_ rfl ?_
  · (refine vp_of ?_ ?_ <;> (((try simp +decide only [b01, b10, b11, am_up, and_true, and_false, true_and, false_and, if_true, if_false, nn_eq] at *) <;> (try simp only [sw_or, sw_all, or_false, and_true, i32_lt, i32_le, i32_eq, i32_addw, i32_subw, i32_mulw, Int32.reduceToInt] at *) <;> omega)))
  refine r_vi1 mo_MO_start d_law_478 rfl rfl rfl (q := 481) rfl ?_
  refine sp_MO_start (by first | assumption | omega | decide | ((try simp +decide only [b01, b10, b11, am_up, and_true, and_false, true_and, false_and, if_true, if_false, nn_eq] at *) <;> (try simp only [sw_or, sw_all, or_false, and_true, i32_lt, i32_le, i32_eq, i32_addw, i32_subw, i32_mulw, Int32.reduceToInt] at *) <;> omega) | (apply_assumption; done)) (fun e478 => ?_)
  · skip
    refine r_is6 (q := 483) d_law_481 rfl ?_
    refine r_al2 (q := 484) d_law_483 rfl ?_
    refine r_vi0 mo_MO_thrown d_law_484 rfl rfl rfl (q := 487) rfl ?_
    refine sp_MO_thrown ?_
    refine r_il5 (q := 489) d_law_487 rfl ?_
    refine r_ceq (tgt := 494) (q := 492) d_law_489 rfl rfl (fun e489 => ?_) (fun e489 => ?_)
    · skip
      refine r_il5 (q := 496) d_law_494 rfl ?_
      refine r_zne (tgt := 518) (q := 499) d_law_496 rfl rfl (fun e496 => ?_) (fun e496 => ?_)
      · skip
        refine am_go (tgt := 802) d_law_518 rfl ?_
        exact am_cut ⟨rfl, rfl, _, _, _, rfl, e478.2.2⟩
      · skip
        refine r_al3 (q := 500) d_law_499 rfl ?_
        refine r_ic (v := 0) (q := 501) d_law_500 rfl rfl ?_
        refine am_al (n := 1) (q := 502) d_law_501 rfl (vp_of (by decide) (by decide)) rfl ?_
        refine r_il6 (q := 504) d_law_502 rfl ?_
        refine r_zeq (tgt := 511) (q := 507) d_law_504 rfl rfl (fun e504 => ?_) (fun e504 => ?_)
        · skip
          refine am_s (q := 512) d_law_511 rfl rfl ?_
          refine am_s (q := 513) d_law_512 rfl rfl ?_
          refine r_zeq (tgt := 518) (q := 516) d_law_513 rfl rfl (fun e513 => ?_) (fun e513 => ?_)
          · skip
            refine am_go (tgt := 802) d_law_518 rfl ?_
            exact am_cut ⟨rfl, rfl, _, _, _, rfl, e478.2.2⟩
          · skip
            refine r_ic (v := 0) (q := 517) d_law_516 rfl rfl ?_
            exfalso; first | exact absurd e478.2.1 e489 | exact hv (by assumption) | exact absurd (by assumption) hv
        · skip
          refine am_s (q := 508) d_law_507 rfl rfl ?_
          refine am_go (tgt := 512) d_law_508 rfl ?_
          refine am_s (q := 513) d_law_512 rfl rfl ?_
          refine r_zeq (tgt := 518) (q := 516) d_law_513 rfl rfl (fun e513 => ?_) (fun e513 => ?_)
          · skip
            refine am_go (tgt := 802) d_law_518 rfl ?_
            exact am_cut ⟨rfl, rfl, _, _, _, rfl, e478.2.2⟩
          · skip
            refine r_ic (v := 0) (q := 517) d_law_516 rfl rfl ?_
            exfalso; first | exact absurd e478.2.1 e489 | exact hv (by assumption) | exact absurd (by assumption) hv
    · skip
      refine r_ic (v := 0) (q := 493) d_law_492 rfl rfl ?_
      exfalso; first | exact absurd e478.2.1 e489 | exact hv (by assumption) | exact absurd (by assumption) hv
theorem la_7n {L : Nat} {xs : Nat → Int32} {K : Int32 → am_S → Prop} {i : Int32} {a b : Option am_V} {st : am_S} (i0 : 0 ≤ i.toInt) (i6 : i.toInt + 6 ≤ (L : Int)) (iL : L ≤ 3072) (c1 : wp_MO_start [.inr (.inl 128), .inl (xs (i + 1).toNatClampNeg)] st (am_ki (fun b9 st2 => st2 576 0 = 0 ∧ ((b9 = 0 ∨ b9 = 1) ∧ st2 2167 0 = b9) ∧ K i st2))) : am_AW code (g_law L xs (lw_P2 K)) lw_k 469 (lw_lv i a b) [.inl 0] st := by
  refine r_is5 (q := 471) d_law_469 rfl ?_
  refine r_al2 (q := 472) d_law_471 rfl ?_
  refine r_al0 (q := 473) d_law_472 rfl ?_
  refine r_il4 (q := 475) d_law_473 rfl ?_
  refine r_ic (v := 1) (q := 476) d_law_475 rfl rfl ?_
  refine r_iadd (q := 477) d_law_476 rfl ?_
  refine am_sl (q := 478) d_law_477 rfl ?_ rfl ?_
  · (refine vp_of ?_ ?_ <;> (((try simp +decide only [b01, b10, b11, am_up, and_true, and_false, true_and, false_and, if_true, if_false, nn_eq] at *) <;> (try simp only [sw_or, sw_all, or_false, and_true, i32_lt, i32_le, i32_eq, i32_addw, i32_subw, i32_mulw, Int32.reduceToInt] at *) <;> omega)))
  refine r_vi1 mo_MO_start d_law_478 rfl rfl rfl (q := 481) rfl ?_
  refine sp_MO_start (by first | assumption | omega | decide | ((try simp +decide only [b01, b10, b11, am_up, and_true, and_false, true_and, false_and, if_true, if_false, nn_eq] at *) <;> (try simp only [sw_or, sw_all, or_false, and_true, i32_lt, i32_le, i32_eq, i32_addw, i32_subw, i32_mulw, Int32.reduceToInt] at *) <;> omega) | (apply_assumption; done)) (fun e478 => ?_)
  · skip
    refine r_is6 (q := 483) d_law_481 rfl ?_
    refine r_al2 (q := 484) d_law_483 rfl ?_
    refine r_vi0 mo_MO_thrown d_law_484 rfl rfl rfl (q := 487) rfl ?_
    refine sp_MO_thrown ?_
    refine r_il5 (q := 489) d_law_487 rfl ?_
    refine r_ceq (tgt := 494) (q := 492) d_law_489 rfl rfl (fun e489 => ?_) (fun e489 => ?_)
    · skip
      refine r_il5 (q := 496) d_law_494 rfl ?_
      refine r_zne (tgt := 518) (q := 499) d_law_496 rfl rfl (fun e496 => ?_) (fun e496 => ?_)
      · skip
        refine am_go (tgt := 802) d_law_518 rfl ?_
        exact am_cut ⟨rfl, rfl, _, _, _, rfl, e478.2.2.2⟩
      · skip
        refine r_al3 (q := 500) d_law_499 rfl ?_
        refine r_ic (v := 0) (q := 501) d_law_500 rfl rfl ?_
        refine am_al (n := 1) (q := 502) d_law_501 rfl (vp_of (by decide) (by decide)) rfl ?_
        refine r_il6 (q := 504) d_law_502 rfl ?_
        refine r_zeq (tgt := 511) (q := 507) d_law_504 rfl rfl (fun e504 => ?_) (fun e504 => ?_)
        · skip
          refine am_s (q := 512) d_law_511 rfl rfl ?_
          refine am_s (q := 513) d_law_512 rfl rfl ?_
          refine r_zeq (tgt := 518) (q := 516) d_law_513 rfl rfl (fun e513 => ?_) (fun e513 => ?_)
          · skip
            refine am_go (tgt := 802) d_law_518 rfl ?_
            exact am_cut ⟨rfl, rfl, _, _, _, rfl, e478.2.2.2⟩
          · skip
            refine r_ic (v := 0) (q := 517) d_law_516 rfl rfl ?_
            exfalso; first | exact absurd e478.2.1 e489 | exact absurd (cmp_s0 e478.2.2.1.2 e504) e513 | exact absurd (cmp_s1 e478.2.2.1.1 e478.2.2.1.2 e504) e513
        · skip
          refine am_s (q := 508) d_law_507 rfl rfl ?_
          refine am_go (tgt := 512) d_law_508 rfl ?_
          refine am_s (q := 513) d_law_512 rfl rfl ?_
          refine r_zeq (tgt := 518) (q := 516) d_law_513 rfl rfl (fun e513 => ?_) (fun e513 => ?_)
          · skip
            refine am_go (tgt := 802) d_law_518 rfl ?_
            exact am_cut ⟨rfl, rfl, _, _, _, rfl, e478.2.2.2⟩
          · skip
            refine r_ic (v := 0) (q := 517) d_law_516 rfl rfl ?_
            exfalso; first | exact absurd e478.2.1 e489 | exact absurd (cmp_s0 e478.2.2.1.2 e504) e513 | exact absurd (cmp_s1 e478.2.2.1.1 e478.2.2.1.2 e504) e513
    · skip
      refine r_ic (v := 0) (q := 493) d_law_492 rfl rfl ?_
      exfalso; first | exact absurd e478.2.1 e489 | exact absurd (cmp_s0 e478.2.2.1.2 e504) e513 | exact absurd (cmp_s1 e478.2.2.1.1 e478.2.2.1.2 e504) e513
theorem sp_MO_run {x : Int32} {st : am_S} {f g : Int32 → am_S → Prop} (c1 : wp_MO_run [.inr (.inl 128), .inl x] st (am_ki g)) (h1 : ∀ p : {p : Int32 × am_S // g p.1 p.2}, f p.1.1 p.1.2) : wp_MO_run [.inr (.inl 128), .inl x] st (am_ki f) := ki_of mo_MO_run c1 h1
theorem la_8t {L : Nat} {xs : Nat → Int32} {K : Int32 → am_S → Prop} {i : Int32} {a b : Option am_V} {st : am_S} (i0 : 0 ≤ i.toInt) (i6 : i.toInt + 6 ≤ (L : Int)) (iL : L ≤ 3072) {v : Int32} (hv : ¬ v = 0) (c1 : wp_MO_run [.inr (.inl 128), .inl (xs (i + 1).toNatClampNeg)] st (am_ki (fun _ st2 => st2 576 0 = v ∧ K i st2))) : am_AW code (g_law L xs (lw_P2 K)) lw_k 532 (lw_lv i a b) [.inl v] st := by
  refine r_is5 (q := 534) d_law_532 rfl ?_
  refine r_al2 (q := 535) d_law_534 rfl ?_
  refine r_al0 (q := 536) d_law_535 rfl ?_
  refine r_il4 (q := 538) d_law_536 rfl ?_
  refine r_ic (v := 1) (q := 539) d_law_538 rfl rfl ?_
  refine r_iadd (q := 540) d_law_539 rfl ?_
  refine am_sl (q := 541) d_law_540 rfl ?_ rfl ?_
  · (refine vp_of ?_ ?_ <;> (((try simp +decide only [b01, b10, b11, am_up, and_true, and_false, true_and, false_and, if_true, if_false, nn_eq] at *) <;> (try simp only [sw_or, sw_all, or_false, and_true, i32_lt, i32_le, i32_eq, i32_addw, i32_subw, i32_mulw, Int32.reduceToInt] at *) <;> omega)))
  refine r_vi1 mo_MO_run d_law_541 rfl rfl rfl (q := 544) rfl ?_
  refine sp_MO_run (by first | assumption | omega | decide | ((try simp +decide only [b01, b10, b11, am_up, and_true, and_false, true_and, false_and, if_true, if_false, nn_eq] at *) <;> (try simp only [sw_or, sw_all, or_false, and_true, i32_lt, i32_le, i32_eq, i32_addw, i32_subw, i32_mulw, Int32.reduceToInt] at *) <;> omega) | (apply_assumption; done)) (fun e541 => ?_)
  · skip
    refine r_is6 (q := 546) d_law_544 rfl ?_
    refine r_al2 (q := 547) d_law_546 rfl ?_
    refine r_vi0 mo_MO_thrown d_law_547 rfl rfl rfl (q := 550) rfl ?_
    refine sp_MO_thrown ?_
    refine r_il5 (q := 552) d_law_550 rfl ?_
    refine r_ceq (tgt := 557) (q := 555) d_law_552 rfl rfl (fun e552 => ?_) (fun e552 => ?_)
    · skip
      refine r_il5 (q := 559) d_law_557 rfl ?_
      refine r_zne (tgt := 574) (q := 562) d_law_559 rfl rfl (fun e559 => ?_) (fun e559 => ?_)
      · skip
        refine am_go (tgt := 802) d_law_574 rfl ?_
        exact am_cut ⟨rfl, rfl, _, _, _, rfl, e541.2.2⟩
      · skip
        refine r_al3 (q := 563) d_law_562 rfl ?_
        refine r_ic (v := 0) (q := 564) d_law_563 rfl rfl ?_
        refine am_al (n := 1) (q := 565) d_law_564 rfl (vp_of (by decide) (by decide)) rfl ?_
        refine r_il6 (q := 567) d_law_565 rfl ?_
        refine am_s (q := 568) d_law_567 rfl rfl ?_
        refine am_s (q := 569) d_law_568 rfl rfl ?_
        refine r_zeq (tgt := 574) (q := 572) d_law_569 rfl rfl (fun e569 => ?_) (fun e569 => ?_)
        · skip
          refine am_go (tgt := 802) d_law_574 rfl ?_
          exact am_cut ⟨rfl, rfl, _, _, _, rfl, e541.2.2⟩
        · skip
          refine r_ic (v := 0) (q := 573) d_law_572 rfl rfl ?_
          exfalso; first | exact absurd e541.2.1 e552 | exact hv (by assumption) | exact absurd (by assumption) hv
    · skip
      refine r_ic (v := 0) (q := 556) d_law_555 rfl rfl ?_
      exfalso; first | exact absurd e541.2.1 e552 | exact hv (by assumption) | exact absurd (by assumption) hv
theorem la_8n {L : Nat} {xs : Nat → Int32} {K : Int32 → am_S → Prop} {i : Int32} {a b : Option am_V} {st : am_S} (i0 : 0 ≤ i.toInt) (i6 : i.toInt + 6 ≤ (L : Int)) (iL : L ≤ 3072) (c1 : wp_MO_run [.inr (.inl 128), .inl (xs (i + 1).toNatClampNeg)] st (am_ki (fun b9 st2 => st2 576 0 = 0 ∧ (st2 2167 0 = b9) ∧ K i st2))) : am_AW code (g_law L xs (lw_P2 K)) lw_k 532 (lw_lv i a b) [.inl 0] st := by
  refine r_is5 (q := 534) d_law_532 rfl ?_
  refine r_al2 (q := 535) d_law_534 rfl ?_
  refine r_al0 (q := 536) d_law_535 rfl ?_
  refine r_il4 (q := 538) d_law_536 rfl ?_
  refine r_ic (v := 1) (q := 539) d_law_538 rfl rfl ?_
  refine r_iadd (q := 540) d_law_539 rfl ?_
  refine am_sl (q := 541) d_law_540 rfl ?_ rfl ?_
  · (refine vp_of ?_ ?_ <;> (((try simp +decide only [b01, b10, b11, am_up, and_true, and_false, true_and, false_and, if_true, if_false, nn_eq] at *) <;> (try simp only [sw_or, sw_all, or_false, and_true, i32_lt, i32_le, i32_eq, i32_addw, i32_subw, i32_mulw, Int32.reduceToInt] at *) <;> omega)))
  refine r_vi1 mo_MO_run d_law_541 rfl rfl rfl (q := 544) rfl ?_
  refine sp_MO_run (by first | assumption | omega | decide | ((try simp +decide only [b01, b10, b11, am_up, and_true, and_false, true_and, false_and, if_true, if_false, nn_eq] at *) <;> (try simp only [sw_or, sw_all, or_false, and_true, i32_lt, i32_le, i32_eq, i32_addw, i32_subw, i32_mulw, Int32.reduceToInt] at *) <;> omega) | (apply_assumption; done)) (fun e541 => ?_)
  · skip
    refine r_is6 (q := 546) d_law_544 rfl ?_
    refine r_al2 (q := 547) d_law_546 rfl ?_
    refine r_vi0 mo_MO_thrown d_law_547 rfl rfl rfl (q := 550) rfl ?_
    refine sp_MO_thrown ?_
    refine r_il5 (q := 552) d_law_550 rfl ?_
    refine r_ceq (tgt := 557) (q := 555) d_law_552 rfl rfl (fun e552 => ?_) (fun e552 => ?_)
    · skip
      refine r_il5 (q := 559) d_law_557 rfl ?_
      refine r_zne (tgt := 574) (q := 562) d_law_559 rfl rfl (fun e559 => ?_) (fun e559 => ?_)
      · skip
        refine am_go (tgt := 802) d_law_574 rfl ?_
        exact am_cut ⟨rfl, rfl, _, _, _, rfl, e541.2.2.2⟩
      · skip
        refine r_al3 (q := 563) d_law_562 rfl ?_
        refine r_ic (v := 0) (q := 564) d_law_563 rfl rfl ?_
        refine am_al (n := 1) (q := 565) d_law_564 rfl (vp_of (by decide) (by decide)) rfl ?_
        refine r_il6 (q := 567) d_law_565 rfl ?_
        refine am_s (q := 568) d_law_567 rfl rfl ?_
        refine am_s (q := 569) d_law_568 rfl rfl ?_
        refine r_zeq (tgt := 574) (q := 572) d_law_569 rfl rfl (fun e569 => ?_) (fun e569 => ?_)
        · skip
          refine am_go (tgt := 802) d_law_574 rfl ?_
          exact am_cut ⟨rfl, rfl, _, _, _, rfl, e541.2.2.2⟩
        · skip
          refine r_ic (v := 0) (q := 573) d_law_572 rfl rfl ?_
          exfalso; first | exact absurd e541.2.1 e552 | exact absurd (cmp_of e541.2.2.1) e569
    · skip
      refine r_ic (v := 0) (q := 556) d_law_555 rfl rfl ?_
      exfalso; first | exact absurd e541.2.1 e552 | exact absurd (cmp_of e541.2.2.1) e569

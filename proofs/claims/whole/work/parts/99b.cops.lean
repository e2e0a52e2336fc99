/-! written by wip/whole/gen/walk.py out of 99b.cops.txt -/
theorem hs {Q f : am_S → Prop} {x : am_S} (h : ∀ q : {q : am_S // Q q}, f q.1) (hx : Q x) : f x := h ⟨x, hx⟩
theorem RC_tw {P st A : am_S} (hP : PC st P) (hV : VP P) (hB : BV P A) (h : RC P st A) (h1 : 0 < fn A) : (st 518 0).toNatClampNeg = lf A ∧ (st 518 0).toNatClampNeg < 80 ∧ (st 0 (st 518 0).toNatClampNeg).toNatClampNeg = fm A (lf A) ∧ (st 0 (st 518 0).toNatClampNeg).toNatClampNeg < 8 ∧ (st 2 (st 518 0).toNatClampNeg).toInt = (fb A (lf A) : Int) ∧ (st 3 (st 518 0).toNatClampNeg).toInt = (sD A : Int) ∧ (st 70 (st 0 (st 518 0).toNatClampNeg).toNatClampNeg).toInt = (flo P A (lf A) : Int) ∧ (st 71 (st 0 (st 518 0).toNatClampNeg).toNatClampNeg).toInt = (fhe P A (lf A) : Int) ∧ fb A (lf A) + flo P A (lf A) + fhe P A (lf A) + 1 ≤ 80 ∧ sD A ≤ fhe P A (lf A) := by
  obtain ⟨a1, a2, a3, a4, a5, a6, a7, a8, a9, a10, -⟩ := RC_top hP hV hB h h1
  rw [a1]
  rw [a3]
  exact ⟨rfl, a2, rfl, a4, a5, a6, a7, a8, a9, a10⟩
theorem sx_D {P A : am_S} : sx P A = fb A (lf A) + flo P A (lf A) + sD A := rfl
/-- an index of a live cell of another frame is not one of the frame on top -/
theorem oth_c {P A : am_S} (hB : BV P A) {f k : Nat} (hf : f < fn A) (hfl : ¬ f = lf A) (hk : k < flo P A f + ft A f) : fb A f + k < fb A (lf A) := by
  have h1 := BV_en hB (show f < lf A by unfold lf at *; omega) (by unfold lf; omega)
  have h2 := (hB.2.1 f hf).2.2.2.1
  unfold en at h1
  omega
theorem RC_push {P st A : am_S} {v : Int32} (hB : BV P A) (h1 : 0 < fn A) (h : RC P st A) : RC P (am_up (am_up st 2137 (sx P A) v) 3 (lf A) (st 3 (lf A) + 1)) (o_push P A v) := by
  obtain ⟨a1, a2, a3, a4, a5, a6⟩ := h
  have hl : lf A < fn A := by unfold lf; omega
  have e : ∀ b, ¬ b = 2137 → ¬ b = 3 → am_up (am_up st 2137 (sx P A) v) 3 (lf A) (st 3 (lf A) + 1) b = st b := fun b b1 b2 => by rw [am_up_bank b2, am_up_bank b1]
  refine ⟨?_, fun f hf => ?_, fun f hf k hk => ?_, ?_, ?_, ?_⟩
  · rw [e 519 (by decide) (by decide), e 518 (by decide) (by decide), push_o (by decide)]
    exact a1
  · obtain ⟨b1, b2, b3, b4⟩ := a2 f hf
    rw [e 0 (by decide) (by decide), e 1 (by decide) (by decide), e 2 (by decide) (by decide), push_o (b := 2163) (by decide), push_o (b := 2164) (by decide), push_o (b := 2166) (by decide), push_t]
    refine ⟨b1, b2, b3, ?_⟩
    by_cases q : f = lf A
    · rw [q, am_up_eq, if_pos rfl, (a2 (lf A) hl).2.2.2]
    · rw [if_neg q, am_up_ne (fun w => q w.2), am_up_bank (by decide)]
      exact b4
  · have f1 : fb (o_push P A v) f = fb A f := by unfold fb; rw [push_o (by decide)]
    have f2 : flo P (o_push P A v) f = flo P A f := by unfold flo fm; rw [push_o (by decide)]
    rw [f1]
    rw [f2] at hk
    rw [am_up_bank (by decide), push_c]
    by_cases q : f = lf A
    · by_cases q2 : fb A f + k = sx P A
      · rw [if_pos q2, q2, am_up_eq]
      · rw [if_neg q2, am_up_ne (fun w => q2 w.2)]
        refine a3 f hf k ?_
        have g := sD_push (v := v) hB h1
        have e2 : lf (o_push P A v) = lf A := rfl
        rw [q] at hk q2 ⊢
        unfold sD at g
        rw [e2] at g
        rw [g] at hk
        rw [sx_D] at q2
        unfold sD at q2
        omega
    · have f3 : ft (o_push P A v) f = ft A f := by unfold ft; rw [push_t, if_neg q]
      rw [f3] at hk
      have := oth_c hB hf q hk
      have q2 : ¬ fb A f + k = sx P A := by rw [sx_D]; omega
      rw [if_neg q2, am_up_ne (fun w => q2 w.2)]
      exact a3 f hf k hk
  · rw [e 2139 (by decide) (by decide), push_o (by decide)]
    exact a4
  · rw [e 520 (by decide) (by decide), e 2140 (by decide) (by decide), push_o (b := 606) (by decide), push_o (b := 2161) (by decide)]
    exact a5
  · rw [e 521 (by decide) (by decide), e 522 (by decide) (by decide), push_o (b := 603) (by decide), push_o (b := 604) (by decide)]
    exact a6
theorem RC_pop {P st A : am_S} (hB : BV P A) (h1 : 0 < fn A) (h2 : 0 < sD A) (h : RC P st A) : RC P (am_up st 3 (lf A) (st 3 (lf A) - 1)) (o_pop A) := by
  obtain ⟨a1, a2, a3, a4, a5, a6⟩ := h
  have hl : lf A < fn A := by unfold lf; omega
  have e : ∀ b, ¬ b = 3 → am_up st 3 (lf A) (st 3 (lf A) - 1) b = st b := fun b b2 => am_up_bank b2
  refine ⟨?_, fun f hf => ?_, fun f hf k hk => ?_, ?_, ?_, ?_⟩
  · rw [e 519 (by decide), e 518 (by decide), pop_o (by decide)]
    exact a1
  · obtain ⟨b1, b2, b3, b4⟩ := a2 f hf
    rw [e 0 (by decide), e 1 (by decide), e 2 (by decide), pop_o (b := 2163) (by decide), pop_o (b := 2164) (by decide), pop_o (b := 2166) (by decide), pop_t]
    refine ⟨b1, b2, b3, ?_⟩
    by_cases q : f = lf A
    · rw [q, am_up_eq, if_pos rfl, (a2 (lf A) hl).2.2.2]
    · rw [if_neg q, am_up_ne (fun w => q w.2)]
      exact b4
  · have f1 : fb (o_pop A) f = fb A f := by unfold fb; rw [pop_o (by decide)]
    have f2 : flo P (o_pop A) f = flo P A f := by unfold flo fm; rw [pop_o (by decide)]
    have f3 : ft (o_pop A) f ≤ ft A f := by
      by_cases q : f = lf A
      · have g := sD_pop hB h1
        unfold sD at g
        have e2 : lf (o_pop A) = lf A := rfl
        rw [e2] at g
        rw [q, g]
        omega
      · unfold ft
        rw [pop_t, if_neg q]
        exact Nat.le_refl _
    rw [f1]
    rw [f2] at hk
    rw [e 2137 (by decide), pop_o (by decide)]
    exact a3 f hf k (by omega)
  · rw [e 2139 (by decide), pop_o (by decide)]
    exact a4
  · rw [e 520 (by decide), e 2140 (by decide), pop_o (b := 606) (by decide), pop_o (b := 2161) (by decide)]
    exact a5
  · rw [e 521 (by decide), e 522 (by decide), pop_o (b := 603) (by decide), pop_o (b := 604) (by decide)]
    exact a6
theorem sp_MA_push {P st0 A : am_S} {v : Int32} {st : am_S} {f : am_S → Prop} (c1 : PC st0 P) (c2 : VP P) (c3 : BV P A) (c4 : 0 < fn A) (c5 : sD A < fhe P A (lf A)) (c6 : QC P st0 A st) (h1 : ∀ q : {q : am_S // QC P st0 (o_push P A v) q}, f q.1) : wp_MA_push [.inr (.inl 127), .inl v] st (am_kv f) := by
  refine ⟨⟨rfl, Nat.le_of_ble_eq_true rfl⟩, ?_⟩
  obtain ⟨t1, t2, t3, t4, t5, t6, t7, t8, t9, t10⟩ := RC_tw (pc_oR c1 c6.1) c2 c3 c6.2 c4
  have ei : (st 2 (st 518 0).toNatClampNeg + st 70 (st 0 (st 518 0).toNatClampNeg).toNatClampNeg + st 3 (st 518 0).toNatClampNeg).toNatClampNeg = sx P A := by
    rw [nn_eq, i32_addw, i32_addw, sx_D]
    omega
  have vi : vp_in (st 2 (st 518 0).toNatClampNeg + st 70 (st 0 (st 518 0).toNatClampNeg).toNatClampNeg + st 3 (st 518 0).toNatClampNeg) 80 := by
    refine vp_of ?_ ?_ <;> (rw [i32_addw, i32_addw]; omega)
  have kQ := RC_push (v := v) c3 c4 c6.2
  rw [← ei, ← t1] at kQ
  have kF := hs h1 ⟨md_up (md_up c6.1 rfl) rfl, kQ⟩
  have lt : ¬ st 71 (st 0 (st 518 0).toNatClampNeg).toNatClampNeg ≤ st 3 (st 518 0).toNatClampNeg := by
    rw [i32_le]
    omega
  clear h1 kQ c6 c3
  refine r_al0 (q := 1) d_MA_push_0 rfl ?_
  refine gt_MA_latest (q := 4) d_MA_push_1 rfl rfl ?_
  refine gt_FR_high (q := 7) d_MA_push_4 rfl (by first | assumption | (refine pc_of hP ?_; (repeat (first | assumption | exact md_refl | refine md_up ?_ rfl | refine md_fill ?_ rfl | (unfold ik; refine md_up ?_ rfl))); done) | (refine pc_oS hP ?_; (repeat (first | assumption | exact md_refl | refine md_up ?_ rfl | refine md_fill ?_ rfl | (unfold ik; refine md_up ?_ rfl))); done) | (refine pm_of hP ?_; (repeat (first | assumption | exact md_refl | refine md_up ?_ rfl | refine md_fill ?_ rfl | (unfold ik; refine md_up ?_ rfl))); done) | omega | decide | ((try simp +decide only [b01, b10, b11, am_up, ik, and_true, and_false, true_and, false_and, if_true, if_false, nn_eq] at *) <;> (try simp only [sw_or, sw_all, or_false, and_true, i32_lt, i32_le, i32_eq, i32_addw, i32_subw, i32_mulw, Int32.reduceToInt] at *) <;> omega) | (apply_assumption; done)) rfl ?_
  refine r_al0 (q := 8) d_MA_push_7 rfl ?_
  refine gt_MA_latest (q := 11) d_MA_push_8 rfl rfl ?_
  refine gt_FR_body (q := 14) d_MA_push_11 rfl (by first | assumption | (refine pc_of hP ?_; (repeat (first | assumption | exact md_refl | refine md_up ?_ rfl | refine md_fill ?_ rfl | (unfold ik; refine md_up ?_ rfl))); done) | (refine pc_oS hP ?_; (repeat (first | assumption | exact md_refl | refine md_up ?_ rfl | refine md_fill ?_ rfl | (unfold ik; refine md_up ?_ rfl))); done) | (refine pm_of hP ?_; (repeat (first | assumption | exact md_refl | refine md_up ?_ rfl | refine md_fill ?_ rfl | (unfold ik; refine md_up ?_ rfl))); done) | omega | decide | ((try simp +decide only [b01, b10, b11, am_up, ik, and_true, and_false, true_and, false_and, if_true, if_false, nn_eq] at *) <;> (try simp only [sw_or, sw_all, or_false, and_true, i32_lt, i32_le, i32_eq, i32_addw, i32_subw, i32_mulw, Int32.reduceToInt] at *) <;> omega) | (apply_assumption; done)) rfl ?_
  refine gt_ME_height (q := 17) d_MA_push_14 rfl (by first | assumption | (refine pc_of hP ?_; (repeat (first | assumption | exact md_refl | refine md_up ?_ rfl | refine md_fill ?_ rfl | (unfold ik; refine md_up ?_ rfl))); done) | (refine pc_oS hP ?_; (repeat (first | assumption | exact md_refl | refine md_up ?_ rfl | refine md_fill ?_ rfl | (unfold ik; refine md_up ?_ rfl))); done) | (refine pm_of hP ?_; (repeat (first | assumption | exact md_refl | refine md_up ?_ rfl | refine md_fill ?_ rfl | (unfold ik; refine md_up ?_ rfl))); done) | omega | decide | ((try simp +decide only [b01, b10, b11, am_up, ik, and_true, and_false, true_and, false_and, if_true, if_false, nn_eq] at *) <;> (try simp only [sw_or, sw_all, or_false, and_true, i32_lt, i32_le, i32_eq, i32_addw, i32_subw, i32_mulw, Int32.reduceToInt] at *) <;> omega) | (apply_assumption; done)) rfl ?_
  refine r_cge (tgt := 54) (q := 20) d_MA_push_17 rfl rfl (fun e17 => ?_) (fun e17 => ?_)
  · skip
    refine r_rv d_MA_push_54 ?_
    first | exact kF | exact absurd e17 lt
  · skip
    refine r_al0 (q := 21) d_MA_push_20 rfl ?_
    refine gt_MA_cells (q := 24) d_MA_push_21 rfl rfl ?_
    refine r_al0 (q := 25) d_MA_push_24 rfl ?_
    refine gt_MA_latest (q := 28) d_MA_push_25 rfl rfl ?_
    refine r_vi0 mo_FR_firstStackCell d_MA_push_28 rfl (r_kF (by first | assumption | (refine pc_of hP ?_; (repeat (first | assumption | exact md_refl | refine md_up ?_ rfl | refine md_fill ?_ rfl | (unfold ik; refine md_up ?_ rfl))); done) | (refine pc_oS hP ?_; (repeat (first | assumption | exact md_refl | refine md_up ?_ rfl | refine md_fill ?_ rfl | (unfold ik; refine md_up ?_ rfl))); done) | (refine pm_of hP ?_; (repeat (first | assumption | exact md_refl | refine md_up ?_ rfl | refine md_fill ?_ rfl | (unfold ik; refine md_up ?_ rfl))); done) | omega | decide | ((try simp +decide only [b01, b10, b11, am_up, ik, and_true, and_false, true_and, false_and, if_true, if_false, nn_eq] at *) <;> (try simp only [sw_or, sw_all, or_false, and_true, i32_lt, i32_le, i32_eq, i32_addw, i32_subw, i32_mulw, Int32.reduceToInt] at *) <;> omega) | (apply_assumption; done))) rfl (q := 31) rfl ?_
    refine sp_FR_firstStackCell (by first | assumption | (refine pc_of hP ?_; (repeat (first | assumption | exact md_refl | refine md_up ?_ rfl | refine md_fill ?_ rfl | (unfold ik; refine md_up ?_ rfl))); done) | (refine pc_oS hP ?_; (repeat (first | assumption | exact md_refl | refine md_up ?_ rfl | refine md_fill ?_ rfl | (unfold ik; refine md_up ?_ rfl))); done) | (refine pm_of hP ?_; (repeat (first | assumption | exact md_refl | refine md_up ?_ rfl | refine md_fill ?_ rfl | (unfold ik; refine md_up ?_ rfl))); done) | omega | decide | ((try simp +decide only [b01, b10, b11, am_up, ik, and_true, and_false, true_and, false_and, if_true, if_false, nn_eq] at *) <;> (try simp only [sw_or, sw_all, or_false, and_true, i32_lt, i32_le, i32_eq, i32_addw, i32_subw, i32_mulw, Int32.reduceToInt] at *) <;> omega) | (apply_assumption; done)) (by first | assumption | (refine pc_of hP ?_; (repeat (first | assumption | exact md_refl | refine md_up ?_ rfl | refine md_fill ?_ rfl | (unfold ik; refine md_up ?_ rfl))); done) | (refine pc_oS hP ?_; (repeat (first | assumption | exact md_refl | refine md_up ?_ rfl | refine md_fill ?_ rfl | (unfold ik; refine md_up ?_ rfl))); done) | (refine pm_of hP ?_; (repeat (first | assumption | exact md_refl | refine md_up ?_ rfl | refine md_fill ?_ rfl | (unfold ik; refine md_up ?_ rfl))); done) | omega | decide | ((try simp +decide only [b01, b10, b11, am_up, ik, and_true, and_false, true_and, false_and, if_true, if_false, nn_eq] at *) <;> (try simp only [sw_or, sw_all, or_false, and_true, i32_lt, i32_le, i32_eq, i32_addw, i32_subw, i32_mulw, Int32.reduceToInt] at *) <;> omega) | (apply_assumption; done)) ?_
    refine r_al0 (q := 32) d_MA_push_31 rfl ?_
    refine gt_MA_latest (q := 35) d_MA_push_32 rfl rfl ?_
    refine gt_FR_high (q := 38) d_MA_push_35 rfl (by first | assumption | (refine pc_of hP ?_; (repeat (first | assumption | exact md_refl | refine md_up ?_ rfl | refine md_fill ?_ rfl | (unfold ik; refine md_up ?_ rfl))); done) | (refine pc_oS hP ?_; (repeat (first | assumption | exact md_refl | refine md_up ?_ rfl | refine md_fill ?_ rfl | (unfold ik; refine md_up ?_ rfl))); done) | (refine pm_of hP ?_; (repeat (first | assumption | exact md_refl | refine md_up ?_ rfl | refine md_fill ?_ rfl | (unfold ik; refine md_up ?_ rfl))); done) | omega | decide | ((try simp +decide only [b01, b10, b11, am_up, ik, and_true, and_false, true_and, false_and, if_true, if_false, nn_eq] at *) <;> (try simp only [sw_or, sw_all, or_false, and_true, i32_lt, i32_le, i32_eq, i32_addw, i32_subw, i32_mulw, Int32.reduceToInt] at *) <;> omega) | (apply_assumption; done)) rfl ?_
    refine r_iadd (q := 39) d_MA_push_38 rfl ?_
    refine r_il1 (q := 40) d_MA_push_39 rfl ?_
    refine sv_137 (q := 41) d_MA_push_40 ?_ rfl ?_
    · exact vi
    refine r_al0 (q := 42) d_MA_push_41 rfl ?_
    refine gt_MA_latest (q := 45) d_MA_push_42 rfl rfl ?_
    refine r_dupr (q := 46) d_MA_push_45 rfl ?_
    refine gt_FR_high (q := 49) d_MA_push_46 rfl (by first | assumption | (refine pc_of hP ?_; (repeat (first | assumption | exact md_refl | refine md_up ?_ rfl | refine md_fill ?_ rfl | (unfold ik; refine md_up ?_ rfl))); done) | (refine pc_oS hP ?_; (repeat (first | assumption | exact md_refl | refine md_up ?_ rfl | refine md_fill ?_ rfl | (unfold ik; refine md_up ?_ rfl))); done) | (refine pm_of hP ?_; (repeat (first | assumption | exact md_refl | refine md_up ?_ rfl | refine md_fill ?_ rfl | (unfold ik; refine md_up ?_ rfl))); done) | omega | decide | ((try simp +decide only [b01, b10, b11, am_up, ik, and_true, and_false, true_and, false_and, if_true, if_false, nn_eq] at *) <;> (try simp only [sw_or, sw_all, or_false, and_true, i32_lt, i32_le, i32_eq, i32_addw, i32_subw, i32_mulw, Int32.reduceToInt] at *) <;> omega) | (apply_assumption; done)) rfl ?_
    refine r_ic (v := 1) (q := 50) d_MA_push_49 rfl rfl ?_
    refine r_iadd (q := 51) d_MA_push_50 rfl ?_
    refine pt_FR_high (q := 54) d_MA_push_51 rfl (by first | assumption | (refine pc_of hP ?_; (repeat (first | assumption | exact md_refl | refine md_up ?_ rfl | refine md_fill ?_ rfl | (unfold ik; refine md_up ?_ rfl))); done) | (refine pc_oS hP ?_; (repeat (first | assumption | exact md_refl | refine md_up ?_ rfl | refine md_fill ?_ rfl | (unfold ik; refine md_up ?_ rfl))); done) | (refine pm_of hP ?_; (repeat (first | assumption | exact md_refl | refine md_up ?_ rfl | refine md_fill ?_ rfl | (unfold ik; refine md_up ?_ rfl))); done) | omega | decide | ((try simp +decide only [b01, b10, b11, am_up, ik, and_true, and_false, true_and, false_and, if_true, if_false, nn_eq] at *) <;> (try simp only [sw_or, sw_all, or_false, and_true, i32_lt, i32_le, i32_eq, i32_addw, i32_subw, i32_mulw, Int32.reduceToInt] at *) <;> omega) | (apply_assumption; done)) rfl ?_
    refine r_rv d_MA_push_54 ?_
    first | exact kF | exact absurd e17 lt
theorem sp_MA_pop {P st0 A : am_S} {st : am_S} {f : Int32 → am_S → Prop} (c1 : PC st0 P) (c2 : VP P) (c3 : BV P A) (c4 : 0 < fn A) (c5 : 0 < sD A) (c6 : QC P st0 A st) (h1 : ∀ q : {q : am_S // QC P st0 (o_pop A) q}, f (o_val P A) q.1) : wp_MA_pop [.inr (.inl 127)] st (am_ki f) := by
  refine ⟨⟨rfl, Nat.le_of_ble_eq_true rfl⟩, ?_⟩
  obtain ⟨t1, t2, t3, t4, t5, t6, t7, t8, t9, t10⟩ := RC_tw (pc_oR c1 c6.1) c2 c3 c6.2 c4
  have ei : (st 2 (st 518 0).toNatClampNeg + st 70 (st 0 (st 518 0).toNatClampNeg).toNatClampNeg + (st 3 (st 518 0).toNatClampNeg - 1)).toNatClampNeg = sx P A - 1 := by
    rw [nn_eq, i32_addw, i32_addw, i32_subw, sx_D]
    simp only [Int32.reduceToInt]
    omega
  have vi : vp_in (st 2 (st 518 0).toNatClampNeg + st 70 (st 0 (st 518 0).toNatClampNeg).toNatClampNeg + (st 3 (st 518 0).toNatClampNeg - 1)) 80 := by
    refine vp_of ?_ ?_ <;> (rw [i32_addw, i32_addw, i32_subw]; simp only [Int32.reduceToInt]; omega)
  have kQ := RC_pop c3 c4 c5 c6.2
  have hv : st 2137 (sx P A - 1) = o_val P A := by
    have g := c6.2.2.2.1 (lf A) (by unfold lf; omega) (flo P A (lf A) + sD A - 1) (by unfold sD at *; omega)
    have e : fb A (lf A) + (flo P A (lf A) + sD A - 1) = sx P A - 1 := by rw [sx_D]; omega
    rw [e] at g
    exact g
  rw [← t1] at kQ
  have kF := hs (f := f (o_val P A)) h1 ⟨md_up c6.1 rfl, kQ⟩
  rw [← hv, ← ei] at kF
  have nz : ¬ st 3 (st 518 0).toNatClampNeg = 0 := by
    rw [i32_eq]
    simp only [Int32.reduceToInt]
    omega
  clear h1 kQ c6 c3 hv
  refine r_al0 (q := 1) d_MA_pop_0 rfl ?_
  refine gt_MA_latest (q := 4) d_MA_pop_1 rfl rfl ?_
  refine gt_FR_high (q := 7) d_MA_pop_4 rfl (by first | assumption | (refine pc_of hP ?_; (repeat (first | assumption | exact md_refl | refine md_up ?_ rfl | refine md_fill ?_ rfl | (unfold ik; refine md_up ?_ rfl))); done) | (refine pc_oS hP ?_; (repeat (first | assumption | exact md_refl | refine md_up ?_ rfl | refine md_fill ?_ rfl | (unfold ik; refine md_up ?_ rfl))); done) | (refine pm_of hP ?_; (repeat (first | assumption | exact md_refl | refine md_up ?_ rfl | refine md_fill ?_ rfl | (unfold ik; refine md_up ?_ rfl))); done) | omega | decide | ((try simp +decide only [b01, b10, b11, am_up, ik, and_true, and_false, true_and, false_and, if_true, if_false, nn_eq] at *) <;> (try simp only [sw_or, sw_all, or_false, and_true, i32_lt, i32_le, i32_eq, i32_addw, i32_subw, i32_mulw, Int32.reduceToInt] at *) <;> omega) | (apply_assumption; done)) rfl ?_
  refine r_zne (tgt := 12) (q := 10) d_MA_pop_7 rfl rfl (fun e7 => ?_) (fun e7 => ?_)
  · skip
    refine r_al0 (q := 13) d_MA_pop_12 rfl ?_
    refine gt_MA_latest (q := 16) d_MA_pop_13 rfl rfl ?_
    refine r_dupr (q := 17) d_MA_pop_16 rfl ?_
    refine gt_FR_high (q := 20) d_MA_pop_17 rfl (by first | assumption | (refine pc_of hP ?_; (repeat (first | assumption | exact md_refl | refine md_up ?_ rfl | refine md_fill ?_ rfl | (unfold ik; refine md_up ?_ rfl))); done) | (refine pc_oS hP ?_; (repeat (first | assumption | exact md_refl | refine md_up ?_ rfl | refine md_fill ?_ rfl | (unfold ik; refine md_up ?_ rfl))); done) | (refine pm_of hP ?_; (repeat (first | assumption | exact md_refl | refine md_up ?_ rfl | refine md_fill ?_ rfl | (unfold ik; refine md_up ?_ rfl))); done) | omega | decide | ((try simp +decide only [b01, b10, b11, am_up, ik, and_true, and_false, true_and, false_and, if_true, if_false, nn_eq] at *) <;> (try simp only [sw_or, sw_all, or_false, and_true, i32_lt, i32_le, i32_eq, i32_addw, i32_subw, i32_mulw, Int32.reduceToInt] at *) <;> omega) | (apply_assumption; done)) rfl ?_
    refine r_ic (v := 1) (q := 21) d_MA_pop_20 rfl rfl ?_
    refine r_isub (q := 22) d_MA_pop_21 rfl ?_
    refine pt_FR_high (q := 25) d_MA_pop_22 rfl (by first | assumption | (refine pc_of hP ?_; (repeat (first | assumption | exact md_refl | refine md_up ?_ rfl | refine md_fill ?_ rfl | (unfold ik; refine md_up ?_ rfl))); done) | (refine pc_oS hP ?_; (repeat (first | assumption | exact md_refl | refine md_up ?_ rfl | refine md_fill ?_ rfl | (unfold ik; refine md_up ?_ rfl))); done) | (refine pm_of hP ?_; (repeat (first | assumption | exact md_refl | refine md_up ?_ rfl | refine md_fill ?_ rfl | (unfold ik; refine md_up ?_ rfl))); done) | omega | decide | ((try simp +decide only [b01, b10, b11, am_up, ik, and_true, and_false, true_and, false_and, if_true, if_false, nn_eq] at *) <;> (try simp only [sw_or, sw_all, or_false, and_true, i32_lt, i32_le, i32_eq, i32_addw, i32_subw, i32_mulw, Int32.reduceToInt] at *) <;> omega) | (apply_assumption; done)) rfl ?_
    refine r_al0 (q := 26) d_MA_pop_25 rfl ?_
    refine gt_MA_cells (q := 29) d_MA_pop_26 rfl rfl ?_
    refine r_al0 (q := 30) d_MA_pop_29 rfl ?_
    refine gt_MA_latest (q := 33) d_MA_pop_30 rfl rfl ?_
    refine r_vi0 mo_FR_firstStackCell d_MA_pop_33 rfl (r_kF (by first | assumption | (refine pc_of hP ?_; (repeat (first | assumption | exact md_refl | refine md_up ?_ rfl | refine md_fill ?_ rfl | (unfold ik; refine md_up ?_ rfl))); done) | (refine pc_oS hP ?_; (repeat (first | assumption | exact md_refl | refine md_up ?_ rfl | refine md_fill ?_ rfl | (unfold ik; refine md_up ?_ rfl))); done) | (refine pm_of hP ?_; (repeat (first | assumption | exact md_refl | refine md_up ?_ rfl | refine md_fill ?_ rfl | (unfold ik; refine md_up ?_ rfl))); done) | omega | decide | ((try simp +decide only [b01, b10, b11, am_up, ik, and_true, and_false, true_and, false_and, if_true, if_false, nn_eq] at *) <;> (try simp only [sw_or, sw_all, or_false, and_true, i32_lt, i32_le, i32_eq, i32_addw, i32_subw, i32_mulw, Int32.reduceToInt] at *) <;> omega) | (apply_assumption; done))) rfl (q := 36) rfl ?_
    refine sp_FR_firstStackCell (by first | assumption | (refine pc_of hP ?_; (repeat (first | assumption | exact md_refl | refine md_up ?_ rfl | refine md_fill ?_ rfl | (unfold ik; refine md_up ?_ rfl))); done) | (refine pc_oS hP ?_; (repeat (first | assumption | exact md_refl | refine md_up ?_ rfl | refine md_fill ?_ rfl | (unfold ik; refine md_up ?_ rfl))); done) | (refine pm_of hP ?_; (repeat (first | assumption | exact md_refl | refine md_up ?_ rfl | refine md_fill ?_ rfl | (unfold ik; refine md_up ?_ rfl))); done) | omega | decide | ((try simp +decide only [b01, b10, b11, am_up, ik, and_true, and_false, true_and, false_and, if_true, if_false, nn_eq] at *) <;> (try simp only [sw_or, sw_all, or_false, and_true, i32_lt, i32_le, i32_eq, i32_addw, i32_subw, i32_mulw, Int32.reduceToInt] at *) <;> omega) | (apply_assumption; done)) (by first | assumption | (refine pc_of hP ?_; (repeat (first | assumption | exact md_refl | refine md_up ?_ rfl | refine md_fill ?_ rfl | (unfold ik; refine md_up ?_ rfl))); done) | (refine pc_oS hP ?_; (repeat (first | assumption | exact md_refl | refine md_up ?_ rfl | refine md_fill ?_ rfl | (unfold ik; refine md_up ?_ rfl))); done) | (refine pm_of hP ?_; (repeat (first | assumption | exact md_refl | refine md_up ?_ rfl | refine md_fill ?_ rfl | (unfold ik; refine md_up ?_ rfl))); done) | omega | decide | ((try simp +decide only [b01, b10, b11, am_up, ik, and_true, and_false, true_and, false_and, if_true, if_false, nn_eq] at *) <;> (try simp only [sw_or, sw_all, or_false, and_true, i32_lt, i32_le, i32_eq, i32_addw, i32_subw, i32_mulw, Int32.reduceToInt] at *) <;> omega) | (apply_assumption; done)) ?_
    refine r_al0 (q := 37) d_MA_pop_36 rfl ?_
    refine gt_MA_latest (q := 40) d_MA_pop_37 rfl rfl ?_
    refine gt_FR_high (q := 43) d_MA_pop_40 rfl (by first | assumption | (refine pc_of hP ?_; (repeat (first | assumption | exact md_refl | refine md_up ?_ rfl | refine md_fill ?_ rfl | (unfold ik; refine md_up ?_ rfl))); done) | (refine pc_oS hP ?_; (repeat (first | assumption | exact md_refl | refine md_up ?_ rfl | refine md_fill ?_ rfl | (unfold ik; refine md_up ?_ rfl))); done) | (refine pm_of hP ?_; (repeat (first | assumption | exact md_refl | refine md_up ?_ rfl | refine md_fill ?_ rfl | (unfold ik; refine md_up ?_ rfl))); done) | omega | decide | ((try simp +decide only [b01, b10, b11, am_up, ik, and_true, and_false, true_and, false_and, if_true, if_false, nn_eq] at *) <;> (try simp only [sw_or, sw_all, or_false, and_true, i32_lt, i32_le, i32_eq, i32_addw, i32_subw, i32_mulw, Int32.reduceToInt] at *) <;> omega) | (apply_assumption; done)) rfl ?_
    refine r_iadd (q := 44) d_MA_pop_43 rfl ?_
    refine ld_137 (q := 45) d_MA_pop_44 ?_ rfl ?_
    · simp only [am_up_bank (show ¬ (2 : Nat) = 3 by decide), am_up_bank (show ¬ (518 : Nat) = 3 by decide), am_up_bank (show ¬ (70 : Nat) = 3 by decide), am_up_bank (show ¬ (0 : Nat) = 3 by decide), am_up_bank (show ¬ (2137 : Nat) = 3 by decide), am_up_eq]; exact vi
    refine r_ri d_MA_pop_45 ?_
    first | exact absurd e7 nz | (simp only [am_up_bank (show ¬ (2 : Nat) = 3 by decide), am_up_bank (show ¬ (518 : Nat) = 3 by decide), am_up_bank (show ¬ (70 : Nat) = 3 by decide), am_up_bank (show ¬ (0 : Nat) = 3 by decide), am_up_bank (show ¬ (2137 : Nat) = 3 by decide), am_up_eq]; exact kF)
  · skip
    refine r_ic (v := 0) (q := 11) d_MA_pop_10 rfl rfl ?_
    refine r_ri d_MA_pop_11 ?_
    first | exact absurd e7 nz | (simp only [am_up_bank (show ¬ (2 : Nat) = 3 by decide), am_up_bank (show ¬ (518 : Nat) = 3 by decide), am_up_bank (show ¬ (70 : Nat) = 3 by decide), am_up_bank (show ¬ (0 : Nat) = 3 by decide), am_up_bank (show ¬ (2137 : Nat) = 3 by decide), am_up_eq]; exact kF)

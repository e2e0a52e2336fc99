/-! written by wip/whole/gen/walk.py out of 99c.frames.txt -/
def o_set (A : am_S) (z : Int32) : am_S := am_up A 2164 (lf A) z
def o_go (A : am_S) (z : Int32) : am_S := o_set A (A 2164 (lf A) + z)
theorem set_o {A : am_S} {z : Int32} {b : Nat} (h : ¬ b = 2164) : o_set A z b = A b := am_up_bank h
theorem BV_set {P A : am_S} {z : Int32} (h : BV P A) : BV P (o_set A z) := by
  refine BV_tops h (fun b _ _ b3 => set_o b3) (fun f hf => ?_)
  obtain ⟨-, -, g3, g4, -⟩ := h.2.1 f hf
  unfold ft at *
  rw [set_o (by decide)]
  exact ⟨g3, g4⟩
theorem RC_set {P st A : am_S} {z : Int32} (h : RC P st A) : RC P (am_up st 1 (lf A) z) (o_set A z) := by
  obtain ⟨a1, a2, a3, a4, a5, a6⟩ := h
  have e : ∀ b, ¬ b = 1 → am_up st 1 (lf A) z b = st b := fun b b2 => am_up_bank b2
  refine ⟨?_, fun f hf => ?_, ?_, ?_, ?_, ?_⟩
  · rw [e 519 (by decide), e 518 (by decide), set_o (by decide)]
    exact a1
  · obtain ⟨b1, b2, b3, b4⟩ := a2 f hf
    rw [e 0 (by decide), e 2 (by decide), e 3 (by decide), set_o (b := 2163) (by decide), set_o (b := 2165) (by decide), set_o (b := 2166) (by decide)]
    refine ⟨b1, ?_, b3, b4⟩
    unfold o_set
    by_cases q : f = lf A
    · rw [q, am_up_eq, am_up_eq]
    · rw [am_up_ne (fun w => q w.2), am_up_ne (fun w => q w.2)]
      exact b2
  · rw [e 2137 (by decide)]
    unfold flo ft fb fm
    rw [set_o (b := 2162) (by decide), set_o (b := 2163) (by decide), set_o (b := 2165) (by decide), set_o (b := 2166) (by decide)]
    exact a3
  · rw [e 2139 (by decide), set_o (by decide)]
    exact a4
  · rw [e 520 (by decide), e 2140 (by decide), set_o (b := 606) (by decide), set_o (b := 2161) (by decide)]
    exact a5
  · rw [e 521 (by decide), e 522 (by decide), set_o (b := 603) (by decide), set_o (b := 604) (by decide)]
    exact a6
theorem sp_MA_goOn {P st0 A : am_S} {st : am_S} {f : am_S → Prop} (c1 : PC st0 P) (c2 : VP P) (c3 : BV P A) (c4 : 0 < fn A) (c6 : QC P st0 A st) (h1 : ∀ q : {q : am_S // QC P st0 (o_go A (st0 195 2)) q}, f q.1) : wp_MA_goOn [.inr (.inl 127)] st (am_kv f) := by
  refine ⟨⟨rfl, Nat.le_of_ble_eq_true rfl⟩, ?_⟩
  obtain ⟨t1, t2, -⟩ := RC_tw (pc_oR c1 c6.1) c2 c3 c6.2 c4
  have kQ := RC_set (z := A 2164 (lf A) + st0 195 2) c6.2
  have e1 : st 1 (lf A) = A 2164 (lf A) := (c6.2.2.1 (lf A) (by unfold lf; omega)).2.1
  have kF := hs h1 ⟨md_up c6.1 rfl, kQ⟩
  rw [← e1, ← c6.1 195 rfl, ← t1] at kF
  clear h1 kQ c6 c3
  refine r_al0 (q := 1) d_MA_goOn_0 rfl ?_
  refine gt_MA_latest (q := 4) d_MA_goOn_1 rfl rfl ?_
  refine r_dupr (q := 5) d_MA_goOn_4 rfl ?_
  refine gt_FR_place (q := 8) d_MA_goOn_5 rfl (by first | assumption | (refine pc_of hP ?_; (repeat (first | assumption | exact md_refl | refine md_up ?_ rfl | refine md_fill ?_ rfl | (unfold ik; refine md_up ?_ rfl))); done) | (refine pc_oS hP ?_; (repeat (first | assumption | exact md_refl | refine md_up ?_ rfl | refine md_fill ?_ rfl | (unfold ik; refine md_up ?_ rfl))); done) | (refine pm_of hP ?_; (repeat (first | assumption | exact md_refl | refine md_up ?_ rfl | refine md_fill ?_ rfl | (unfold ik; refine md_up ?_ rfl))); done) | omega | decide | ((try simp +decide only [b01, b10, b11, am_up, ik, and_true, and_false, true_and, false_and, if_true, if_false, nn_eq] at *) <;> (try simp only [sw_or, sw_all, or_false, and_true, i32_lt, i32_le, i32_eq, i32_addw, i32_subw, i32_mulw, Int32.reduceToInt] at *) <;> omega) | (apply_assumption; done)) rfl ?_
  refine r_al0 (q := 9) d_MA_goOn_8 rfl ?_
  refine gt_MA_now (q := 12) d_MA_goOn_9 rfl rfl ?_
  refine gt_IN_size (q := 15) d_MA_goOn_12 rfl (by first | assumption | (refine pc_of hP ?_; (repeat (first | assumption | exact md_refl | refine md_up ?_ rfl | refine md_fill ?_ rfl | (unfold ik; refine md_up ?_ rfl))); done) | (refine pc_oS hP ?_; (repeat (first | assumption | exact md_refl | refine md_up ?_ rfl | refine md_fill ?_ rfl | (unfold ik; refine md_up ?_ rfl))); done) | (refine pm_of hP ?_; (repeat (first | assumption | exact md_refl | refine md_up ?_ rfl | refine md_fill ?_ rfl | (unfold ik; refine md_up ?_ rfl))); done) | omega | decide | ((try simp +decide only [b01, b10, b11, am_up, ik, and_true, and_false, true_and, false_and, if_true, if_false, nn_eq] at *) <;> (try simp only [sw_or, sw_all, or_false, and_true, i32_lt, i32_le, i32_eq, i32_addw, i32_subw, i32_mulw, Int32.reduceToInt] at *) <;> omega) | (apply_assumption; done)) rfl ?_
  refine r_iadd (q := 16) d_MA_goOn_15 rfl ?_
  refine pt_FR_place (q := 19) d_MA_goOn_16 rfl (by first | assumption | (refine pc_of hP ?_; (repeat (first | assumption | exact md_refl | refine md_up ?_ rfl | refine md_fill ?_ rfl | (unfold ik; refine md_up ?_ rfl))); done) | (refine pc_oS hP ?_; (repeat (first | assumption | exact md_refl | refine md_up ?_ rfl | refine md_fill ?_ rfl | (unfold ik; refine md_up ?_ rfl))); done) | (refine pm_of hP ?_; (repeat (first | assumption | exact md_refl | refine md_up ?_ rfl | refine md_fill ?_ rfl | (unfold ik; refine md_up ?_ rfl))); done) | omega | decide | ((try simp +decide only [b01, b10, b11, am_up, ik, and_true, and_false, true_and, false_and, if_true, if_false, nn_eq] at *) <;> (try simp only [sw_or, sw_all, or_false, and_true, i32_lt, i32_le, i32_eq, i32_addw, i32_subw, i32_mulw, Int32.reduceToInt] at *) <;> omega) | (apply_assumption; done)) rfl ?_
  refine r_rv d_MA_goOn_19 ?_
  exact kF
theorem sp_MA_cellsTaken {P st0 A : am_S} {st : am_S} {f : Int32 → am_S → Prop} (c1 : PC st0 P) (c2 : VP P) (c3 : BV P A) (c6 : QC P st0 A st) (h : f (A 608 0) st) : wp_MA_cellsTaken [.inr (.inl 127)] st (am_ki f) := by
  refine ⟨⟨rfl, Nat.le_of_ble_eq_true rfl⟩, ?_⟩
  have e519 := c6.2.1.1
  have hn := fn_I c3.1
  have hu := c3.2.2.1
  by_cases e : fn A = 0
  · have z : st 519 0 = 0 := by
      rw [e519, i32_eq, hn, e]
      rfl
    rw [if_pos e] at hu
    have ez : A 608 0 = 0 := by rw [i32_eq]; exact hu.1
    rw [ez] at h
    refine r_al0 (q := 1) d_MA_cellsTaken_0 rfl ?_
    refine gt_MA_frameCount (q := 4) d_MA_cellsTaken_1 rfl rfl ?_
    refine r_zne (tgt := 11) (q := 7) d_MA_cellsTaken_4 rfl rfl (fun e4 => ?_) (fun e4 => ?_)
    · skip
      exact absurd z e4
    · skip
      refine r_ic (v := 0) (q := 8) d_MA_cellsTaken_7 rfl rfl ?_
      refine am_go (tgt := 29) d_MA_cellsTaken_8 rfl ?_
      refine r_ri d_MA_cellsTaken_29 ?_
      exact h
  · have z : ¬ st 519 0 = 0 := by
      rw [e519, i32_eq, hn]
      simp only [Int32.reduceToInt]
      omega
    obtain ⟨t1, t2, t3, t4, t5, t6, t7, t8, t9, t10⟩ := RC_tw (pc_oR c1 c6.1) c2 c3 c6.2 (by omega)
    rw [if_neg e] at hu
    have ez : A 608 0 = st 2 (st 518 0).toNatClampNeg + (st 70 (st 0 (st 518 0).toNatClampNeg).toNatClampNeg + st 71 (st 0 (st 518 0).toNatClampNeg).toNatClampNeg + 1) := by
      rw [i32_eq, hu.1, i32_addw, i32_addw, i32_addw]
      unfold en
      simp only [Int32.reduceToInt]
      omega
    rw [ez] at h
    clear c6 c3
    refine r_al0 (q := 1) d_MA_cellsTaken_0 rfl ?_
    refine gt_MA_frameCount (q := 4) d_MA_cellsTaken_1 rfl rfl ?_
    refine r_zne (tgt := 11) (q := 7) d_MA_cellsTaken_4 rfl rfl (fun e4 => ?_) (fun e4 => ?_)
    · skip
      refine r_al0 (q := 12) d_MA_cellsTaken_11 rfl ?_
      refine gt_MA_latest (q := 15) d_MA_cellsTaken_12 rfl rfl ?_
      refine gt_FR_firstCell (q := 18) d_MA_cellsTaken_15 rfl (by first | assumption | (refine pc_of hP ?_; (repeat (first | assumption | exact md_refl | refine md_up ?_ rfl | refine md_fill ?_ rfl | (unfold ik; refine md_up ?_ rfl))); done) | (refine pc_oS hP ?_; (repeat (first | assumption | exact md_refl | refine md_up ?_ rfl | refine md_fill ?_ rfl | (unfold ik; refine md_up ?_ rfl))); done) | (refine pm_of hP ?_; (repeat (first | assumption | exact md_refl | refine md_up ?_ rfl | refine md_fill ?_ rfl | (unfold ik; refine md_up ?_ rfl))); done) | omega | decide | ((try simp +decide only [b01, b10, b11, am_up, ik, and_true, and_false, true_and, false_and, if_true, if_false, nn_eq] at *) <;> (try simp only [sw_or, sw_all, or_false, and_true, i32_lt, i32_le, i32_eq, i32_addw, i32_subw, i32_mulw, Int32.reduceToInt] at *) <;> omega) | (apply_assumption; done)) rfl ?_
      refine r_al0 (q := 19) d_MA_cellsTaken_18 rfl ?_
      refine gt_MA_latest (q := 22) d_MA_cellsTaken_19 rfl rfl ?_
      refine gt_FR_body (q := 25) d_MA_cellsTaken_22 rfl (by first | assumption | (refine pc_of hP ?_; (repeat (first | assumption | exact md_refl | refine md_up ?_ rfl | refine md_fill ?_ rfl | (unfold ik; refine md_up ?_ rfl))); done) | (refine pc_oS hP ?_; (repeat (first | assumption | exact md_refl | refine md_up ?_ rfl | refine md_fill ?_ rfl | (unfold ik; refine md_up ?_ rfl))); done) | (refine pm_of hP ?_; (repeat (first | assumption | exact md_refl | refine md_up ?_ rfl | refine md_fill ?_ rfl | (unfold ik; refine md_up ?_ rfl))); done) | omega | decide | ((try simp +decide only [b01, b10, b11, am_up, ik, and_true, and_false, true_and, false_and, if_true, if_false, nn_eq] at *) <;> (try simp only [sw_or, sw_all, or_false, and_true, i32_lt, i32_le, i32_eq, i32_addw, i32_subw, i32_mulw, Int32.reduceToInt] at *) <;> omega) | (apply_assumption; done)) rfl ?_
      refine r_vi0 mo_ME_cellsNeeded d_MA_cellsTaken_25 rfl (r_kM (by first | assumption | (refine pc_of hP ?_; (repeat (first | assumption | exact md_refl | refine md_up ?_ rfl | refine md_fill ?_ rfl | (unfold ik; refine md_up ?_ rfl))); done) | (refine pc_oS hP ?_; (repeat (first | assumption | exact md_refl | refine md_up ?_ rfl | refine md_fill ?_ rfl | (unfold ik; refine md_up ?_ rfl))); done) | (refine pm_of hP ?_; (repeat (first | assumption | exact md_refl | refine md_up ?_ rfl | refine md_fill ?_ rfl | (unfold ik; refine md_up ?_ rfl))); done) | omega | decide | ((try simp +decide only [b01, b10, b11, am_up, ik, and_true, and_false, true_and, false_and, if_true, if_false, nn_eq] at *) <;> (try simp only [sw_or, sw_all, or_false, and_true, i32_lt, i32_le, i32_eq, i32_addw, i32_subw, i32_mulw, Int32.reduceToInt] at *) <;> omega) | (apply_assumption; done))) rfl (q := 28) rfl ?_
      refine sp_ME_cellsNeeded (by first | assumption | (refine pc_of hP ?_; (repeat (first | assumption | exact md_refl | refine md_up ?_ rfl | refine md_fill ?_ rfl | (unfold ik; refine md_up ?_ rfl))); done) | (refine pc_oS hP ?_; (repeat (first | assumption | exact md_refl | refine md_up ?_ rfl | refine md_fill ?_ rfl | (unfold ik; refine md_up ?_ rfl))); done) | (refine pm_of hP ?_; (repeat (first | assumption | exact md_refl | refine md_up ?_ rfl | refine md_fill ?_ rfl | (unfold ik; refine md_up ?_ rfl))); done) | omega | decide | ((try simp +decide only [b01, b10, b11, am_up, ik, and_true, and_false, true_and, false_and, if_true, if_false, nn_eq] at *) <;> (try simp only [sw_or, sw_all, or_false, and_true, i32_lt, i32_le, i32_eq, i32_addw, i32_subw, i32_mulw, Int32.reduceToInt] at *) <;> omega) | (apply_assumption; done)) ?_
      refine r_iadd (q := 29) d_MA_cellsTaken_28 rfl ?_
      refine r_ri d_MA_cellsTaken_29 ?_
      exact h
    · skip
      exact absurd e4 z
def o_close (A : am_S) : am_S := am_up (am_up A 610 0 (A 610 0 - 1)) 608 0 (A 2166 (lf A))
theorem close_o {A : am_S} {b : Nat} (h : ¬ b = 610 ∧ ¬ b = 608) : o_close A b = A b := by
  unfold o_close
  rw [am_up_bank h.2, am_up_bank h.1]
theorem close_n {P A : am_S} (h : BV P A) (h1 : 0 < fn A) : fn (o_close A) = fn A - 1 ∧ 0 ≤ (o_close A 610 0).toInt := by
  have hn := fn_I h.1
  have h8 := BV_fn h
  have e : o_close A 610 0 = A 610 0 - 1 := by
    unfold o_close
    rw [am_up_bank (by decide), am_up_eq]
  have e2 : (o_close A 610 0).toInt = (fn A : Int) - 1 := by
    rw [e, i32_subw]
    simp only [Int32.reduceToInt]
    omega
  have e3 : fn (o_close A) = (o_close A 610 0).toInt.toNat := rfl
  omega
theorem BV_close {P A : am_S} (h : BV P A) (h1 : 0 < fn A) : BV P (o_close A) := by
  obtain ⟨n1, n2⟩ := close_n h h1
  have e2 : ∀ f, fm (o_close A) f = fm A f := fun f => by unfold fm; rw [close_o (by decide)]
  have e3 : ∀ f, fb (o_close A) f = fb A f := fun f => by unfold fb; rw [close_o (by decide)]
  have e4 : ∀ f, en P (o_close A) f = en P A f := fun f => by unfold en flo fhe; rw [e2, e3]
  have e5 : ∀ f, fhe P (o_close A) f = fhe P A f := fun f => by unfold fhe; rw [e2]
  have e6 : ∀ f, ft (o_close A) f = ft A f := fun f => by unfold ft; rw [close_o (by decide)]
  have hl := h.2.1 (lf A) (by unfold lf; omega)
  have e608 : (o_close A 608 0).toInt = (fb A (lf A) : Int) := by
    have : o_close A 608 0 = A 2166 (lf A) := am_up_eq
    rw [this]
    have := hl.2.1
    unfold fb
    omega
  refine ⟨n2, fun f hf => ?_, ?_, ?_⟩
  · rw [n1] at hf
    obtain ⟨b1, b2, b3, b4, b5⟩ := h.2.1 f (by omega)
    unfold FV
    rw [e2, e3, e4, e5, e6, n1, close_o (b := 2163) (by decide), close_o (b := 2166) (by decide), close_o (b := 2165) (by decide)]
    exact ⟨b1, b2, b3, b4, fun q => b5 (by omega)⟩
  · rw [e608, n1]
    have h80 := BV_80 h (show lf A < fn A by unfold lf; omega)
    unfold en at h80
    refine ⟨?_, by omega⟩
    by_cases e : fn A - 1 = 0
    · rw [if_pos e]
      have : lf A = 0 := by unfold lf; exact e
      rw [this, h.2.2.2 h1]
      rfl
    · rw [if_neg e, e4]
      have e7 : lf (o_close A) = lf A - 1 := by
        unfold lf
        rw [n1]
      rw [e7]
      have := (h.2.1 (lf A - 1) (by unfold lf; omega)).2.2.2.2 (by unfold lf; omega)
      have e8 : lf A - 1 + 1 = lf A := by unfold lf; omega
      rw [e8] at this
      rw [this]
  · intro q
    rw [e3]
    exact h.2.2.2 h1
theorem RC_close {P st s A : am_S} (hB : BV P A) (h1 : 0 < fn A) (h : RC P st A) (e : ∀ b, ¬ b = 518 → ¬ b = 519 → s b = st b) (e1 : s 519 0 = st 519 0 - 1) (e2 : 1 < fn A → s 518 0 = st 519 0 - 1 - 1) : RC P s (o_close A) := by
  obtain ⟨a1, a2, a3, a4, a5, a6⟩ := h
  obtain ⟨n1, n2⟩ := close_n hB h1
  have e610 : o_close A 610 0 = A 610 0 - 1 := by
    unfold o_close
    rw [am_up_bank (by decide), am_up_eq]
  refine ⟨?_, fun f hf => ?_, fun f hf k hk => ?_, ?_, ?_, ?_⟩
  · rw [e610, e1, a1.1]
    refine ⟨rfl, fun q => ?_⟩
    rw [n1] at q
    rw [e2 (by omega), a1.1]
  · rw [n1] at hf
    rw [e 0 (by decide) (by decide), e 1 (by decide) (by decide), e 2 (by decide) (by decide), e 3 (by decide) (by decide), close_o (b := 2163) (by decide), close_o (b := 2164) (by decide), close_o (b := 2165) (by decide), close_o (b := 2166) (by decide)]
    exact a2 f (by omega)
  · rw [n1] at hf
    unfold flo ft fb fm at *
    rw [close_o (b := 2163) (by decide), close_o (b := 2165) (by decide)] at hk
    rw [e 2137 (by decide) (by decide), close_o (b := 2162) (by decide), close_o (b := 2166) (by decide)]
    exact a3 f (by omega) k hk
  · rw [e 2139 (by decide) (by decide), close_o (by decide)]
    exact a4
  · rw [e 520 (by decide) (by decide), e 2140 (by decide) (by decide), close_o (b := 606) (by decide), close_o (b := 2161) (by decide)]
    exact a5
  · rw [e 521 (by decide) (by decide), e 522 (by decide) (by decide), close_o (b := 603) (by decide), close_o (b := 604) (by decide)]
    exact a6
theorem sp_MA_closeFrame {P st0 A : am_S} {st : am_S} {f : am_S → Prop} (c3 : BV P A) (c4 : 0 < fn A) (c6 : QC P st0 A st) (h1 : ∀ q : {q : am_S // QC P st0 (o_close A) q}, f q.1) : wp_MA_closeFrame [.inr (.inl 127)] st (am_kv f) := by
  refine ⟨⟨rfl, Nat.le_of_ble_eq_true rfl⟩, ?_⟩
  have hn := fn_I c3.1
  have h8 := BV_fn c3
  have e519 : (st 519 0).toInt = (fn A : Int) := by rw [c6.2.1.1]; exact hn
  have e1 : (st 519 0 - 1).toInt = (fn A : Int) - 1 := by
    rw [i32_subw]
    simp only [Int32.reduceToInt]
    omega
  have e2 : (st 519 0 - 1 - 1).toInt = (fn A : Int) - 2 := by
    rw [i32_subw, e1]
    simp only [Int32.reduceToInt]
    omega
  have k1 : st 519 0 - 1 ≤ 0 → f (am_up st 519 0 (st 519 0 - 1)) := by
    intro q
    rw [i32_le, e1] at q
    simp only [Int32.reduceToInt] at q
    exact hs h1 ⟨md_up c6.1 rfl, RC_close c3 c4 c6.2 (fun b _ b2 => am_up_bank b2) am_up_eq (fun w => by omega)⟩
  have k2 : ¬ st 519 0 - 1 ≤ 0 → vp_in (st 519 0 - 1 - 1) 80 ∧ (st 519 0 - 1 - 1).toNatClampNeg < 80 ∧ f (am_up (am_up st 519 0 (st 519 0 - 1)) 518 0 (nI (st 519 0 - 1 - 1).toNatClampNeg)) := by
    intro q
    rw [i32_le, e1] at q
    simp only [Int32.reduceToInt] at q
    refine ⟨vp_of (by omega) (by omega), by rw [nn_eq]; omega, hs h1 ⟨md_up (md_up c6.1 rfl) rfl, RC_close c3 c4 c6.2 (fun b b1 b2 => by rw [am_up_bank b1, am_up_bank b2]) (by rw [am_up_bank (by decide), am_up_eq]) (fun w => ?_)⟩⟩
    rw [am_up_eq]
    exact nI_back (by omega)
  clear h1 c6 c3
  refine r_al0 (q := 1) d_MA_closeFrame_0 rfl ?_
  refine r_dupr (q := 2) d_MA_closeFrame_1 rfl ?_
  refine gt_MA_frameCount (q := 5) d_MA_closeFrame_2 rfl rfl ?_
  refine r_ic (v := 1) (q := 6) d_MA_closeFrame_5 rfl rfl ?_
  refine r_isub (q := 7) d_MA_closeFrame_6 rfl ?_
  refine pt_MA_frameCount (q := 10) d_MA_closeFrame_7 rfl rfl ?_
  refine r_al0 (q := 11) d_MA_closeFrame_10 rfl ?_
  refine gt_MA_frameCount (q := 14) d_MA_closeFrame_11 rfl rfl ?_
  refine r_zle (tgt := 32) (q := 17) d_MA_closeFrame_14 rfl rfl (fun e14 => ?_) (fun e14 => ?_)
  · skip
    refine r_rv d_MA_closeFrame_32 ?_
    first | exact k1 e14 | exact (k2 e14).2.2
  · skip
    refine r_al0 (q := 18) d_MA_closeFrame_17 rfl ?_
    refine r_al0 (q := 19) d_MA_closeFrame_18 rfl ?_
    refine gt_MA_frames (q := 22) d_MA_closeFrame_19 rfl rfl ?_
    refine r_al0 (q := 23) d_MA_closeFrame_22 rfl ?_
    refine gt_MA_frameCount (q := 26) d_MA_closeFrame_23 rfl rfl ?_
    refine r_ic (v := 1) (q := 27) d_MA_closeFrame_26 rfl rfl ?_
    refine r_isub (q := 28) d_MA_closeFrame_27 rfl ?_
    refine ld_138 (q := 29) d_MA_closeFrame_28 ?_ rfl ?_
    · exact (k2 e14).1
    refine pt_MA_latest (q := 32) d_MA_closeFrame_29 rfl (by first | exact (k2 e14).2.1 | assumption | (refine pc_of hP ?_; (repeat (first | assumption | exact md_refl | refine md_up ?_ rfl | refine md_fill ?_ rfl | (unfold ik; refine md_up ?_ rfl))); done) | (refine pc_oS hP ?_; (repeat (first | assumption | exact md_refl | refine md_up ?_ rfl | refine md_fill ?_ rfl | (unfold ik; refine md_up ?_ rfl))); done) | (refine pm_of hP ?_; (repeat (first | assumption | exact md_refl | refine md_up ?_ rfl | refine md_fill ?_ rfl | (unfold ik; refine md_up ?_ rfl))); done) | omega | decide | ((try simp +decide only [b01, b10, b11, am_up, ik, and_true, and_false, true_and, false_and, if_true, if_false, nn_eq] at *) <;> (try simp only [sw_or, sw_all, or_false, and_true, i32_lt, i32_le, i32_eq, i32_addw, i32_subw, i32_mulw, Int32.reduceToInt] at *) <;> omega) | (apply_assumption; done)) rfl ?_
    refine r_rv d_MA_closeFrame_32 ?_
    first | exact k1 e14 | exact (k2 e14).2.2
def o_stop (A : am_S) (w : Int32) : am_S := am_up (am_up (am_up A 603 0 w) 610 0 0) 608 0 0
theorem stop_o {A : am_S} {w : Int32} {b : Nat} (h : ¬ b = 603 ∧ ¬ b = 610 ∧ ¬ b = 608) : o_stop A w b = A b := by
  unfold o_stop
  rw [am_up_bank h.2.2, am_up_bank h.2.1, am_up_bank h.1]
theorem stop_n {A : am_S} {w : Int32} : fn (o_stop A w) = 0 := rfl
theorem BV_stop {P A : am_S} {w : Int32} : BV P (o_stop A w) := by
  refine ⟨(show 0 ≤ (0 : Int32).toInt by decide), fun f hf => absurd hf (by rw [stop_n]; omega), ⟨?_, (show (0 : Int32).toInt ≤ 80 by decide)⟩, fun q => absurd q (by rw [stop_n]; omega)⟩
  rw [stop_n, if_pos rfl]
  rfl
theorem RC_stop {P st s A : am_S} {w : Int32} (h : RC P st A) (e : ∀ b, ¬ b = 519 → ¬ b = 521 → ¬ b = 522 → s b = st b) (e1 : s 519 0 = 0) (e2 : s 521 0 = w) (e3 : s 522 0 = if w = 2 then A 604 0 else 0) : RC P s (o_stop A w) := by
  obtain ⟨a1, a2, a3, a4, a5, a6⟩ := h
  refine ⟨⟨e1, fun q => absurd q (by rw [stop_n]; omega)⟩, fun f hf => absurd hf (by rw [stop_n]; omega), fun f hf => absurd hf (by rw [stop_n]; omega), ?_, ?_, ?_⟩
  · rw [e 2139 (by decide) (by decide) (by decide), stop_o (by decide)]
    exact a4
  · rw [e 520 (by decide) (by decide) (by decide), e 2140 (by decide) (by decide) (by decide), stop_o (b := 606) (by decide), stop_o (b := 2161) (by decide)]
    exact a5
  · have : o_stop A w 603 0 = w := rfl
    rw [this, stop_o (b := 604) (by decide)]
    exact ⟨e2, e3⟩
theorem sq_MA_end {P st0 A : am_S} {w : Int32} {st : am_S} {f : am_S → Prop} (c1 : ¬ w = 2) (c6 : QC P st0 A st) (h1 : ∀ q : {q : am_S // QC P st0 (o_stop A w) q}, f q.1) : wp_MA_end [.inr (.inl 127), .inl w] st (am_kv f) := by
  refine sp_MA_end (hs h1 ⟨md_up (md_up (md_up c6.1 rfl) rfl) rfl, RC_stop c6.2 (fun b b1 b2 b3 => by rw [am_up_bank b1, am_up_bank b3, am_up_bank b2]) am_up_eq (by rw [am_up_bank (by decide), am_up_bank (by decide), am_up_eq]) ?_⟩)
  rw [am_up_bank (by decide), am_up_eq, if_neg c1]

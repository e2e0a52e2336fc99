/-! written by wip/whole/gen/walk.py out of 99e.open.txt -/
def ned (P : am_S) (m : Nat) : Int32 := P 4 m + P 5 m + 1
theorem ned_t {P : am_S} {m : Nat} (hV : VP P) (hm : m < nM P) : (ned P m).toInt = (P 4 m).toInt + (P 5 m).toInt + 1 ∧ 0 ≤ (P 4 m).toInt ∧ (P 4 m).toInt ≤ 8 ∧ 0 ≤ (P 5 m).toInt ∧ (P 5 m).toInt ≤ 8 := by
  have h := hV.2.2 m hm
  unfold VM at h
  unfold ned
  rw [i32_addw, i32_addw]
  simp only [Int32.reduceToInt]
  omega
def o_open (P A : am_S) (y : Int32) : am_S := am_up (am_up (am_fill (am_up (am_up (am_up (am_up A 2163 (fn A) y) 2164 (fn A) 0) 2165 (fn A) 0) 2166 (fn A) (A 608 0)) 2162 (A 608 0).toInt.toNat (ned P y.toNatClampNeg).toInt.toNat 0) 608 0 (A 608 0 + ned P y.toNatClampNeg)) 610 0 (A 610 0 + 1)
theorem open_o {P A : am_S} {y : Int32} {b : Nat} (h : ¬ b = 2163 ∧ ¬ b = 2164 ∧ ¬ b = 2165 ∧ ¬ b = 2166 ∧ ¬ b = 2162 ∧ ¬ b = 608 ∧ ¬ b = 610) : o_open P A y b = A b := by
  unfold o_open
  rw [am_up_bank h.2.2.2.2.2.2, am_up_bank h.2.2.2.2.2.1, am_fill_bank h.2.2.2.2.1, am_up_bank h.2.2.2.1, am_up_bank h.2.2.1, am_up_bank h.2.1, am_up_bank h.1]
theorem open_f {P A : am_S} {y : Int32} {f : Nat} : o_open P A y 2163 f = (if f = fn A then y else A 2163 f) ∧ o_open P A y 2164 f = (if f = fn A then 0 else A 2164 f) ∧ o_open P A y 2165 f = (if f = fn A then 0 else A 2165 f) ∧ o_open P A y 2166 f = (if f = fn A then A 608 0 else A 2166 f) := by
  unfold o_open
  refine ⟨?_, ?_, ?_, ?_⟩
  · rw [am_up_bank (show ¬ (2163 : Nat) = 610 by decide), am_up_bank (show ¬ (2163 : Nat) = 608 by decide), am_fill_bank (by decide), am_up_bank (show ¬ (2163 : Nat) = 2166 by decide), am_up_bank (show ¬ (2163 : Nat) = 2165 by decide), am_up_bank (show ¬ (2163 : Nat) = 2164 by decide)]
    by_cases e : f = fn A
    · rw [if_pos e, e, am_up_eq]
    · rw [if_neg e, am_up_ne (fun q => e q.2)]
  · rw [am_up_bank (show ¬ (2164 : Nat) = 610 by decide), am_up_bank (show ¬ (2164 : Nat) = 608 by decide), am_fill_bank (by decide), am_up_bank (show ¬ (2164 : Nat) = 2166 by decide), am_up_bank (show ¬ (2164 : Nat) = 2165 by decide)]
    by_cases e : f = fn A
    · rw [if_pos e, e, am_up_eq]
    · rw [if_neg e, am_up_ne (fun q => e q.2), am_up_bank (by decide)]
  · rw [am_up_bank (show ¬ (2165 : Nat) = 610 by decide), am_up_bank (show ¬ (2165 : Nat) = 608 by decide), am_fill_bank (by decide), am_up_bank (show ¬ (2165 : Nat) = 2166 by decide)]
    by_cases e : f = fn A
    · rw [if_pos e, e, am_up_eq]
    · rw [if_neg e, am_up_ne (fun q => e q.2), am_up_bank (by decide), am_up_bank (by decide)]
  · rw [am_up_bank (show ¬ (2166 : Nat) = 610 by decide), am_up_bank (show ¬ (2166 : Nat) = 608 by decide), am_fill_bank (by decide)]
    by_cases e : f = fn A
    · rw [if_pos e, e, am_up_eq]
    · rw [if_neg e, am_up_ne (fun q => e q.2), am_up_bank (by decide), am_up_bank (by decide), am_up_bank (by decide)]
theorem open_c {P A : am_S} {y : Int32} {i : Nat} : o_open P A y 2162 i = if (A 608 0).toInt.toNat ≤ i ∧ i < (A 608 0).toInt.toNat + (ned P y.toNatClampNeg).toInt.toNat then 0 else A 2162 i := by
  unfold o_open
  rw [am_up_bank (by decide), am_up_bank (by decide)]
  unfold am_fill
  by_cases e : (A 608 0).toInt.toNat ≤ i ∧ i < (A 608 0).toInt.toNat + (ned P y.toNatClampNeg).toInt.toNat
  · rw [if_pos ⟨rfl, e⟩, if_pos e]
  · rw [if_neg (fun q => e q.2), if_neg e, am_up_bank (by decide), am_up_bank (by decide), am_up_bank (by decide), am_up_bank (by decide)]
theorem open_n {P A : am_S} {y : Int32} (h : BV P A) (hfit : (A 608 0).toInt + 1 ≤ 80) : fn (o_open P A y) = fn A + 1 ∧ o_open P A y 610 0 = A 610 0 + 1 ∧ (o_open P A y 610 0).toInt = (fn A : Int) + 1 := by
  have hn := fn_I h.1
  have h8 := BV_fn h
  have e : o_open P A y 610 0 = A 610 0 + 1 := am_up_eq
  have e2 : (o_open P A y 610 0).toInt = (fn A : Int) + 1 := by
    rw [e, i32_addw]
    simp only [Int32.reduceToInt]
    omega
  refine ⟨?_, e, e2⟩
  have : fn (o_open P A y) = (o_open P A y 610 0).toInt.toNat := rfl
  omega
/-- frames below, and where they lie -/
theorem used_ge {P A : am_S} (h : BV P A) {f : Nat} (hf : f < fn A) : en P A f ≤ (A 608 0).toInt.toNat ∧ fn A ≤ (A 608 0).toInt.toNat := by
  have h2 := h.2.2.1.1
  rw [if_neg (by omega)] at h2
  have h3 := BV_ge h (show lf A < fn A by unfold lf; omega)
  have h4 : fb A (lf A) < en P A (lf A) := by unfold en; omega
  have h5 : lf A = fn A - 1 := rfl
  refine ⟨?_, by omega⟩
  by_cases e : f = lf A
  · rw [e]
    omega
  · have := BV_en h (show f < lf A by omega) (by omega)
    omega
theorem BV_open {P A : am_S} {y : Int32} (hV : VP P) (h : BV P A) (hy : 0 ≤ y.toInt ∧ y.toNatClampNeg < nM P) (hfit : (A 608 0).toInt + (ned P y.toNatClampNeg).toInt ≤ 80) : BV P (o_open P A y) := by
  obtain ⟨d1, d2, d3, d4, d5⟩ := ned_t hV hy.2
  have hu0 : 0 ≤ (A 608 0).toInt := by
    have := h.2.2.1.1
    by_cases e : fn A = 0
    · rw [if_pos e] at this
      omega
    · rw [if_neg e] at this
      omega
  obtain ⟨n1, n2, n3⟩ := open_n (y := y) h (by omega)
  have g1 : ∀ f, ¬ f = fn A → fm (o_open P A y) f = fm A f := fun f hf => by unfold fm; rw [open_f.1, if_neg hf]
  have g2 : ∀ f, ¬ f = fn A → fb (o_open P A y) f = fb A f := fun f hf => by unfold fb; rw [open_f.2.2.2, if_neg hf]
  have g3 : ∀ f, ¬ f = fn A → en P (o_open P A y) f = en P A f := fun f hf => by unfold en flo fhe; rw [g1 f hf, g2 f hf]
  have k1 : fm (o_open P A y) (fn A) = y.toNatClampNeg := by unfold fm; rw [open_f.1, if_pos rfl]
  have k2 : fb (o_open P A y) (fn A) = (A 608 0).toInt.toNat := by unfold fb; rw [open_f.2.2.2, if_pos rfl]
  have k3 : en P (o_open P A y) (fn A) = (A 608 0).toInt.toNat + (ned P y.toNatClampNeg).toInt.toNat := by
    unfold en flo fhe
    rw [k1, k2, d1]
    omega
  have e608 : (o_open P A y 608 0).toInt = (A 608 0).toInt + (ned P y.toNatClampNeg).toInt := by
    have : o_open P A y 608 0 = A 608 0 + ned P y.toNatClampNeg := by
      unfold o_open
      rw [am_up_bank (by decide), am_up_eq]
    rw [this, i32_addw]
    omega
  refine ⟨by omega, fun f hf => ?_, ?_, fun _ => ?_⟩
  · rw [n1] at hf
    by_cases e : f = fn A
    · rw [e]
      unfold FV ft
      rw [k1, open_f.1, open_f.2.2.1, open_f.2.2.2, if_pos rfl, if_pos rfl, if_pos rfl, n1]
      exact ⟨hy, hu0, by decide, Nat.zero_le _, fun q => absurd q (by omega)⟩
    · obtain ⟨b1, b2, b3, b4, b5⟩ := h.2.1 f (by omega)
      unfold FV ft fhe at *
      rw [g1 f e, open_f.1, open_f.2.2.1, open_f.2.2.2, if_neg e, if_neg e, if_neg e, n1, g3 f e]
      refine ⟨b1, b2, b3, b4, fun q => ?_⟩
      by_cases e2 : f + 1 = fn A
      · rw [e2, k2]
        have := h.2.2.1.1
        rw [if_neg (by omega)] at this
        have e3 : lf A = f := by unfold lf; omega
        rw [e3] at this
        omega
      · rw [g2 _ e2]
        exact b5 (by omega)
  · rw [e608, n1, if_neg (by omega)]
    have e3 : lf (o_open P A y) = fn A := by unfold lf; rw [n1]; rfl
    rw [e3, k3]
    omega
  · by_cases e : fn A = 0
    · have := h.2.2.1.1
      rw [if_pos e] at this
      have k4 := k2
      rw [e] at k4
      rw [k4]
      omega
    · rw [g2 0 (fun q => e q.symm)]
      exact h.2.2.2 (by omega)
theorem RC_open {P st s A : am_S} {y : Int32} (hV : VP P) (h : BV P A) (hy : 0 ≤ y.toInt ∧ y.toNatClampNeg < nM P) (hfit : (A 608 0).toInt + (ned P y.toNatClampNeg).toInt ≤ 80) (hR : RC P st A) (e : ∀ b, ¬ b = 0 → ¬ b = 1 → ¬ b = 2 → ¬ b = 3 → ¬ b = 518 → ¬ b = 519 → ¬ b = 2137 → s b = st b) (e1 : s 519 0 = st 519 0 + 1) (e2 : s 518 0 = st 519 0) (e3 : ∀ f, ¬ f = fn A → s 0 f = st 0 f ∧ s 1 f = st 1 f ∧ s 2 f = st 2 f ∧ s 3 f = st 3 f) (e4 : s 0 (fn A) = y ∧ s 1 (fn A) = 0 ∧ s 2 (fn A) = A 608 0 ∧ s 3 (fn A) = 0) (e5 : ∀ i, s 2137 i = if (A 608 0).toInt.toNat ≤ i ∧ i < (A 608 0).toInt.toNat + (P 4 y.toNatClampNeg).toInt.toNat then 0 else st 2137 i) : RC P s (o_open P A y) := by
  obtain ⟨a1, a2, a3, a4, a5, a6⟩ := hR
  obtain ⟨d1, d2, d3, d4, d5⟩ := ned_t hV hy.2
  obtain ⟨n1, n2, n3⟩ := open_n (y := y) h (by omega)
  refine ⟨?_, fun f hf => ?_, fun f hf k hk => ?_, ?_, ?_, ?_⟩
  · rw [n2, e1, e2, a1.1]
    refine ⟨rfl, fun _ => ?_⟩
    exact (Int32.add_sub_cancel _ _).symm
  · rw [n1] at hf
    rw [open_f.1, open_f.2.1, open_f.2.2.1, open_f.2.2.2]
    by_cases q : f = fn A
    · rw [q, if_pos rfl, if_pos rfl, if_pos rfl, if_pos rfl]
      exact e4
    · rw [if_neg q, if_neg q, if_neg q, if_neg q, (e3 f q).1, (e3 f q).2.1, (e3 f q).2.2.1, (e3 f q).2.2.2]
      exact a2 f (by omega)
  · rw [n1] at hf
    by_cases q : f = fn A
    · have k2 : fb (o_open P A y) f = (A 608 0).toInt.toNat := by unfold fb; rw [open_f.2.2.2, if_pos q]
      have k1 : flo P (o_open P A y) f = (P 4 y.toNatClampNeg).toInt.toNat := by unfold flo fm; rw [open_f.1, if_pos q]
      have k3 : ft (o_open P A y) f = 0 := by unfold ft; rw [open_f.2.2.1, if_pos q]; rfl
      rw [k1, k3] at hk
      rw [k2, e5, open_c, if_pos (by omega), if_pos (by omega)]
    · have k2 : fb (o_open P A y) f = fb A f := by unfold fb; rw [open_f.2.2.2, if_neg q]
      have k1 : flo P (o_open P A y) f = flo P A f := by unfold flo fm; rw [open_f.1, if_neg q]
      have k3 : ft (o_open P A y) f = ft A f := by unfold ft; rw [open_f.2.2.1, if_neg q]
      rw [k1, k3] at hk
      have g1 := (used_ge h (show f < fn A by omega)).1
      have g2 := (h.2.1 f (by omega)).2.2.2.1
      unfold en at g1
      rw [k2, e5, open_c, if_neg (by omega), if_neg (by omega)]
      exact a3 f (by omega) k hk
  · rw [e 2139 (by decide) (by decide) (by decide) (by decide) (by decide) (by decide) (by decide), open_o (by decide)]
    exact a4
  · rw [e 520 (by decide) (by decide) (by decide) (by decide) (by decide) (by decide) (by decide), e 2140 (by decide) (by decide) (by decide) (by decide) (by decide) (by decide) (by decide), open_o (b := 606) (by decide), open_o (b := 2161) (by decide)]
    exact a5
  · rw [e 521 (by decide) (by decide) (by decide) (by decide) (by decide) (by decide) (by decide), e 522 (by decide) (by decide) (by decide) (by decide) (by decide) (by decide) (by decide), open_o (b := 603) (by decide), open_o (b := 604) (by decide)]
    exact a6
theorem lp_MA_of {m : Nat} {u : Int32} (h8 : m < 8) (hu : 0 ≤ u.toInt) : ∀ (d : Nat) (x : Int32) (st : am_S) {f : am_S → Prop}, 0 ≤ x.toInt → x.toInt + d = (st 70 m).toInt → u.toInt + (st 70 m).toInt ≤ 80 → f (am_fill st 2137 (u.toInt.toNat + x.toInt.toNat) d 0) → am_AW c_MA_openFrame g_MA_openFrame (fun o st' => am_ok none o ∧ am_kv f o st') 62 [some (.inr (.inl 127)), some (.inr (.inl (m + 80))), some (.inl u), some (.inl x)] [] st := by
  intro d
  induction d with
  | zero =>
    intro x st f c1 c2 c3 h
    rw [am_fill_zero] at h
    refine r_il3 (q := 63) d_MA_openFrame_62 rfl ?_
    refine r_al1 (q := 64) d_MA_openFrame_63 rfl ?_
    refine gt_ME_locals (q := 67) d_MA_openFrame_64 rfl (by first | assumption | (refine pc_of hP ?_; (repeat (first | assumption | exact md_refl | refine md_up ?_ rfl | refine md_fill ?_ rfl | (unfold ik; refine md_up ?_ rfl))); done) | (refine pc_oS hP ?_; (repeat (first | assumption | exact md_refl | refine md_up ?_ rfl | refine md_fill ?_ rfl | (unfold ik; refine md_up ?_ rfl))); done) | (refine pm_of hP ?_; (repeat (first | assumption | exact md_refl | refine md_up ?_ rfl | refine md_fill ?_ rfl | (unfold ik; refine md_up ?_ rfl))); done) | omega | decide | ((try simp +decide only [b01, b10, b11, am_up, ik, and_true, and_false, true_and, false_and, if_true, if_false, nn_eq] at *) <;> (try simp only [sw_or, sw_all, or_false, and_true, i32_lt, i32_le, i32_eq, i32_addw, i32_subw, i32_mulw, Int32.reduceToInt] at *) <;> omega) | (apply_assumption; done)) rfl ?_
    refine r_cge (tgt := 85) (q := 70) d_MA_openFrame_67 rfl rfl (fun e67 => ?_) (fun e67 => ?_)
    · skip
      refine r_rv d_MA_openFrame_85 ?_
      exact h
    · skip
      exfalso; clear h; ((try simp +decide only [b01, b10, b11, am_up, ik, and_true, and_false, true_and, false_and, if_true, if_false, nn_eq] at *) <;> (try simp only [sw_or, sw_all, or_false, and_true, i32_lt, i32_le, i32_eq, i32_addw, i32_subw, i32_mulw, Int32.reduceToInt] at *) <;> omega)
  | succ d ih =>
    intro x st f c1 c2 c3 h
    have ei : (u + x).toNatClampNeg = u.toInt.toNat + x.toInt.toNat := by
      rw [nn_eq, i32_addw]
      omega
    have vi : vp_in (u + x) 80 := by
      refine vp_of ?_ ?_ <;> (rw [i32_addw]; omega)
    have kA : am_AW c_MA_openFrame g_MA_openFrame (fun o st' => am_ok none o ∧ am_kv f o st') 62 [some (.inr (.inl 127)), some (.inr (.inl (m + 80))), some (.inl u), some (.inl (x + 1))] [] (am_up st 2137 (u + x).toNatClampNeg 0) := by
      have ex : (x + 1).toInt = x.toInt + 1 := by
        rw [i32_addw]
        simp only [Int32.reduceToInt]
        omega
      have e70 : am_up st 2137 (u + x).toNatClampNeg 0 70 m = st 70 m := by rw [am_up_bank (by decide)]
      refine ih _ _ (by omega) (by rw [e70]; omega) (by rw [e70]; exact c3) ?_
      rw [ei, am_fill_step (by omega)]
      exact h
    clear ih h
    refine r_il3 (q := 63) d_MA_openFrame_62 rfl ?_
    refine r_al1 (q := 64) d_MA_openFrame_63 rfl ?_
    refine gt_ME_locals (q := 67) d_MA_openFrame_64 rfl (by first | assumption | (refine pc_of hP ?_; (repeat (first | assumption | exact md_refl | refine md_up ?_ rfl | refine md_fill ?_ rfl | (unfold ik; refine md_up ?_ rfl))); done) | (refine pc_oS hP ?_; (repeat (first | assumption | exact md_refl | refine md_up ?_ rfl | refine md_fill ?_ rfl | (unfold ik; refine md_up ?_ rfl))); done) | (refine pm_of hP ?_; (repeat (first | assumption | exact md_refl | refine md_up ?_ rfl | refine md_fill ?_ rfl | (unfold ik; refine md_up ?_ rfl))); done) | omega | decide | ((try simp +decide only [b01, b10, b11, am_up, ik, and_true, and_false, true_and, false_and, if_true, if_false, nn_eq] at *) <;> (try simp only [sw_or, sw_all, or_false, and_true, i32_lt, i32_le, i32_eq, i32_addw, i32_subw, i32_mulw, Int32.reduceToInt] at *) <;> omega) | (apply_assumption; done)) rfl ?_
    refine r_cge (tgt := 85) (q := 70) d_MA_openFrame_67 rfl rfl (fun e67 => ?_) (fun e67 => ?_)
    · skip
      first | exact kA | (exfalso; clear kA; ((try simp +decide only [b01, b10, b11, am_up, ik, and_true, and_false, true_and, false_and, if_true, if_false, nn_eq] at *) <;> (try simp only [sw_or, sw_all, or_false, and_true, i32_lt, i32_le, i32_eq, i32_addw, i32_subw, i32_mulw, Int32.reduceToInt] at *) <;> omega))
    · skip
      refine r_al0 (q := 71) d_MA_openFrame_70 rfl ?_
      refine gt_MA_cells (q := 74) d_MA_openFrame_71 rfl rfl ?_
      refine r_il2 (q := 75) d_MA_openFrame_74 rfl ?_
      refine r_il3 (q := 76) d_MA_openFrame_75 rfl ?_
      refine r_iadd (q := 77) d_MA_openFrame_76 rfl ?_
      refine r_ic (v := 0) (q := 78) d_MA_openFrame_77 rfl rfl ?_
      refine sv_137 (q := 79) d_MA_openFrame_78 ?_ rfl ?_
      · exact vi
      refine r_in3 (v := 1) (q := 82) d_MA_openFrame_79 rfl rfl ?_
      refine am_go (tgt := 62) d_MA_openFrame_82 rfl ?_
      first | exact kA | (exfalso; clear kA; ((try simp +decide only [b01, b10, b11, am_up, ik, and_true, and_false, true_and, false_and, if_true, if_false, nn_eq] at *) <;> (try simp only [sw_or, sw_all, or_false, and_true, i32_lt, i32_le, i32_eq, i32_addw, i32_subw, i32_mulw, Int32.reduceToInt] at *) <;> omega))
theorem sp_MA_openFrame {P st0 A : am_S} {m : Nat} {st : am_S} {f : am_S → Prop} (c1 : PC st0 P) (c2 : VP P) (c3 : BV P A) (c4 : m < nM P) (c5 : (A 608 0).toInt + (ned P m).toInt ≤ 80) (c6 : QC P st0 A st) (h1 : ∀ q : {q : am_S // QC P st0 (o_open P A (nI m)) q ∧ ∀ i, i < (A 608 0).toInt.toNat → q 2137 i = st 2137 i}, f q.1) : wp_MA_openFrame [.inr (.inl 127), .inr (.inl (m + 80))] st (am_kv f) := by
  refine ⟨⟨rfl, Nat.le_of_ble_eq_true rfl⟩, ?_⟩
  have hPs := pc_oR c1 c6.1
  have v8 := (cf hPs c2 c4).1
  have em : (nI m).toNatClampNeg = m := nI_c (by omega)
  obtain ⟨d1, d2, d3, d4, d5⟩ := ned_t c2 c4
  have hn := fn_I c3.1
  have h80 := BV_fn c3
  have hu0 : 0 ≤ (A 608 0).toInt := by
    have := c3.2.2.1.1
    by_cases e : fn A = 0
    · rw [if_pos e] at this
      omega
    · rw [if_neg e] at this
      omega
  have hfn : fn A < 80 := by
    by_cases e : fn A = 0
    · omega
    · have := (used_ge c3 (show 0 < fn A by omega)).2
      omega
  have e519 : st 519 0 = A 610 0 := c6.2.1.1
  have en : (st 519 0).toNatClampNeg = fn A := by rw [e519]; rfl
  have nb' : nI (st 519 0).toNatClampNeg = st 519 0 := nI_back (by rw [e519]; omega)
  have vn : vp_in (st 519 0) 80 := vp_of (by rw [e519]; omega) (by rw [e519]; omega)
  have n80 : (st 519 0).toNatClampNeg < 80 := by omega
  have e70 : (P 4 m).toInt = (st 70 m).toInt := by rw [hPs.1.2.2.2.2.1]
  have kQ : RC P (am_fill (am_up (am_up (am_up (am_up (am_up (am_up st 518 0 (nI (st 519 0).toNatClampNeg)) 519 0 (st 519 0 + 1)) 0 (st 519 0).toNatClampNeg (nI m)) 1 (st 519 0).toNatClampNeg 0) 2 (st 519 0).toNatClampNeg (A 608 0)) 3 (st 519 0).toNatClampNeg 0) 2137 ((A 608 0).toInt.toNat + 0) (st 70 m).toInt.toNat 0) (o_open P A (nI m)) := by
    rw [nb', en]
    refine RC_open c2 c3 ⟨by rw [nI_t (by omega)]; omega, by rw [em]; exact c4⟩ (by rw [em]; exact c5) c6.2 (fun b b0 b1 b2 b3 b4 b5 b6 => ?_) ?_ ?_ (fun f hf => ?_) ?_ (fun i => ?_)
    · rw [am_fill_bank b6, am_up_bank b3, am_up_bank b2, am_up_bank b1, am_up_bank b0, am_up_bank b5, am_up_bank b4]
    · rw [am_fill_bank (by decide), am_up_bank (by decide), am_up_bank (by decide), am_up_bank (by decide), am_up_bank (by decide), am_up_eq]
    · rw [am_fill_bank (by decide), am_up_bank (by decide), am_up_bank (by decide), am_up_bank (by decide), am_up_bank (by decide), am_up_bank (by decide), am_up_eq]
    · refine ⟨?_, ?_, ?_, ?_⟩
      · rw [am_fill_bank (by decide), am_up_bank (by decide), am_up_bank (by decide), am_up_bank (by decide), am_up_ne (fun q => hf q.2), am_up_bank (by decide), am_up_bank (by decide)]
      · rw [am_fill_bank (by decide), am_up_bank (by decide), am_up_bank (by decide), am_up_ne (fun q => hf q.2), am_up_bank (by decide), am_up_bank (by decide), am_up_bank (by decide)]
      · rw [am_fill_bank (by decide), am_up_bank (by decide), am_up_ne (fun q => hf q.2), am_up_bank (by decide), am_up_bank (by decide), am_up_bank (by decide), am_up_bank (by decide)]
      · rw [am_fill_bank (by decide), am_up_ne (fun q => hf q.2), am_up_bank (by decide), am_up_bank (by decide), am_up_bank (by decide), am_up_bank (by decide), am_up_bank (by decide)]
    · refine ⟨?_, ?_, ?_, ?_⟩
      · rw [am_fill_bank (by decide), am_up_bank (by decide), am_up_bank (by decide), am_up_bank (by decide), am_up_eq]
      · rw [am_fill_bank (by decide), am_up_bank (by decide), am_up_bank (by decide), am_up_eq]
      · rw [am_fill_bank (by decide), am_up_bank (by decide), am_up_eq]
      · rw [am_fill_bank (by decide), am_up_eq]
    · rw [em, e70]
      unfold am_fill
      by_cases e : (A 608 0).toInt.toNat ≤ i ∧ i < (A 608 0).toInt.toNat + (st 70 m).toInt.toNat
      · rw [if_pos ⟨rfl, by omega⟩, if_pos e]
      · rw [if_neg (fun q => e (by omega)), if_neg e, am_up_bank (by decide), am_up_bank (by decide), am_up_bank (by decide), am_up_bank (by decide), am_up_bank (by decide), am_up_bank (by decide)]
  have kF := hs h1 ⟨⟨md_fill (md_up (md_up (md_up (md_up (md_up (md_up c6.1 rfl) rfl) rfl) rfl) rfl) rfl) rfl, kQ⟩, fun i hi => by
    unfold am_fill
    rw [if_neg (by omega), am_up_bank (by decide), am_up_bank (by decide), am_up_bank (by decide), am_up_bank (by decide), am_up_bank (by decide), am_up_bank (by decide)]⟩
  have kL := @lp_MA_of m (A 608 0) v8 hu0 (st 70 m).toInt.toNat 0 (am_up (am_up (am_up (am_up (am_up (am_up st 518 0 (nI (st 519 0).toNatClampNeg)) 519 0 (st 519 0 + 1)) 0 (st 519 0).toNatClampNeg (nI m)) 1 (st 519 0).toNatClampNeg 0) 2 (st 519 0).toNatClampNeg (A 608 0)) 3 (st 519 0).toNatClampNeg 0) f (by decide) (by rw [am_up_bank (by decide), am_up_bank (by decide), am_up_bank (by decide), am_up_bank (by decide), am_up_bank (by decide), am_up_bank (by decide)]; simp only [Int32.reduceToInt]; omega) (by rw [am_up_bank (by decide), am_up_bank (by decide), am_up_bank (by decide), am_up_bank (by decide), am_up_bank (by decide), am_up_bank (by decide)]; omega) kF
  have e2 : (nI (st 519 0).toNatClampNeg).toNatClampNeg = (st 519 0).toNatClampNeg := by rw [nb']
  have n80' : (nI (st 519 0).toNatClampNeg).toNatClampNeg < 80 := by rw [e2]; exact n80
  clear h1 kQ kF
  refine r_al0 (q := 1) d_MA_openFrame_0 rfl ?_
  refine r_vi0 mo_MA_cellsTaken d_MA_openFrame_1 rfl rfl rfl (q := 4) rfl ?_
  refine sp_MA_cellsTaken (P := P) (st0 := st0) (A := A) (by first | exact n80 | exact n80' | exact v8 | assumption | (refine pc_of hP ?_; (repeat (first | assumption | exact md_refl | refine md_up ?_ rfl | refine md_fill ?_ rfl | (unfold ik; refine md_up ?_ rfl))); done) | (refine pc_oS hP ?_; (repeat (first | assumption | exact md_refl | refine md_up ?_ rfl | refine md_fill ?_ rfl | (unfold ik; refine md_up ?_ rfl))); done) | (refine pm_of hP ?_; (repeat (first | assumption | exact md_refl | refine md_up ?_ rfl | refine md_fill ?_ rfl | (unfold ik; refine md_up ?_ rfl))); done) | omega | decide | ((try simp +decide only [b01, b10, b11, am_up, ik, and_true, and_false, true_and, false_and, if_true, if_false, nn_eq] at *) <;> (try simp only [sw_or, sw_all, or_false, and_true, i32_lt, i32_le, i32_eq, i32_addw, i32_subw, i32_mulw, Int32.reduceToInt] at *) <;> omega) | (apply_assumption; done)) (by first | exact n80 | exact n80' | exact v8 | assumption | (refine pc_of hP ?_; (repeat (first | assumption | exact md_refl | refine md_up ?_ rfl | refine md_fill ?_ rfl | (unfold ik; refine md_up ?_ rfl))); done) | (refine pc_oS hP ?_; (repeat (first | assumption | exact md_refl | refine md_up ?_ rfl | refine md_fill ?_ rfl | (unfold ik; refine md_up ?_ rfl))); done) | (refine pm_of hP ?_; (repeat (first | assumption | exact md_refl | refine md_up ?_ rfl | refine md_fill ?_ rfl | (unfold ik; refine md_up ?_ rfl))); done) | omega | decide | ((try simp +decide only [b01, b10, b11, am_up, ik, and_true, and_false, true_and, false_and, if_true, if_false, nn_eq] at *) <;> (try simp only [sw_or, sw_all, or_false, and_true, i32_lt, i32_le, i32_eq, i32_addw, i32_subw, i32_mulw, Int32.reduceToInt] at *) <;> omega) | (apply_assumption; done)) (by first | exact n80 | exact n80' | exact v8 | assumption | (refine pc_of hP ?_; (repeat (first | assumption | exact md_refl | refine md_up ?_ rfl | refine md_fill ?_ rfl | (unfold ik; refine md_up ?_ rfl))); done) | (refine pc_oS hP ?_; (repeat (first | assumption | exact md_refl | refine md_up ?_ rfl | refine md_fill ?_ rfl | (unfold ik; refine md_up ?_ rfl))); done) | (refine pm_of hP ?_; (repeat (first | assumption | exact md_refl | refine md_up ?_ rfl | refine md_fill ?_ rfl | (unfold ik; refine md_up ?_ rfl))); done) | omega | decide | ((try simp +decide only [b01, b10, b11, am_up, ik, and_true, and_false, true_and, false_and, if_true, if_false, nn_eq] at *) <;> (try simp only [sw_or, sw_all, or_false, and_true, i32_lt, i32_le, i32_eq, i32_addw, i32_subw, i32_mulw, Int32.reduceToInt] at *) <;> omega) | (apply_assumption; done)) (by first | exact n80 | exact n80' | exact v8 | assumption | (refine pc_of hP ?_; (repeat (first | assumption | exact md_refl | refine md_up ?_ rfl | refine md_fill ?_ rfl | (unfold ik; refine md_up ?_ rfl))); done) | (refine pc_oS hP ?_; (repeat (first | assumption | exact md_refl | refine md_up ?_ rfl | refine md_fill ?_ rfl | (unfold ik; refine md_up ?_ rfl))); done) | (refine pm_of hP ?_; (repeat (first | assumption | exact md_refl | refine md_up ?_ rfl | refine md_fill ?_ rfl | (unfold ik; refine md_up ?_ rfl))); done) | omega | decide | ((try simp +decide only [b01, b10, b11, am_up, ik, and_true, and_false, true_and, false_and, if_true, if_false, nn_eq] at *) <;> (try simp only [sw_or, sw_all, or_false, and_true, i32_lt, i32_le, i32_eq, i32_addw, i32_subw, i32_mulw, Int32.reduceToInt] at *) <;> omega) | (apply_assumption; done)) ?_
  refine r_is2 (q := 5) d_MA_openFrame_4 rfl ?_
  refine r_al0 (q := 6) d_MA_openFrame_5 rfl ?_
  refine r_al0 (q := 7) d_MA_openFrame_6 rfl ?_
  refine gt_MA_frames (q := 10) d_MA_openFrame_7 rfl rfl ?_
  refine r_al0 (q := 11) d_MA_openFrame_10 rfl ?_
  refine gt_MA_frameCount (q := 14) d_MA_openFrame_11 rfl rfl ?_
  refine ld_138 (q := 15) d_MA_openFrame_14 ?_ rfl ?_
  · exact vn
  refine pt_MA_latest (q := 18) d_MA_openFrame_15 rfl (by first | exact n80 | exact n80' | exact v8 | assumption | (refine pc_of hP ?_; (repeat (first | assumption | exact md_refl | refine md_up ?_ rfl | refine md_fill ?_ rfl | (unfold ik; refine md_up ?_ rfl))); done) | (refine pc_oS hP ?_; (repeat (first | assumption | exact md_refl | refine md_up ?_ rfl | refine md_fill ?_ rfl | (unfold ik; refine md_up ?_ rfl))); done) | (refine pm_of hP ?_; (repeat (first | assumption | exact md_refl | refine md_up ?_ rfl | refine md_fill ?_ rfl | (unfold ik; refine md_up ?_ rfl))); done) | omega | decide | ((try simp +decide only [b01, b10, b11, am_up, ik, and_true, and_false, true_and, false_and, if_true, if_false, nn_eq] at *) <;> (try simp only [sw_or, sw_all, or_false, and_true, i32_lt, i32_le, i32_eq, i32_addw, i32_subw, i32_mulw, Int32.reduceToInt] at *) <;> omega) | (apply_assumption; done)) rfl ?_
  refine r_al0 (q := 19) d_MA_openFrame_18 rfl ?_
  refine r_dupr (q := 20) d_MA_openFrame_19 rfl ?_
  refine gt_MA_frameCount (q := 23) d_MA_openFrame_20 rfl rfl ?_
  refine r_ic (v := 1) (q := 24) d_MA_openFrame_23 rfl rfl ?_
  refine r_iadd (q := 25) d_MA_openFrame_24 rfl ?_
  refine pt_MA_frameCount (q := 28) d_MA_openFrame_25 rfl rfl ?_
  refine r_al0 (q := 29) d_MA_openFrame_28 rfl ?_
  refine gt_MA_latest (q := 32) d_MA_openFrame_29 rfl rfl ?_
  refine r_al1 (q := 33) d_MA_openFrame_32 rfl ?_
  refine pt_FR_body (q := 36) d_MA_openFrame_33 rfl (by first | exact n80 | exact n80' | exact v8 | assumption | (refine pc_of hP ?_; (repeat (first | assumption | exact md_refl | refine md_up ?_ rfl | refine md_fill ?_ rfl | (unfold ik; refine md_up ?_ rfl))); done) | (refine pc_oS hP ?_; (repeat (first | assumption | exact md_refl | refine md_up ?_ rfl | refine md_fill ?_ rfl | (unfold ik; refine md_up ?_ rfl))); done) | (refine pm_of hP ?_; (repeat (first | assumption | exact md_refl | refine md_up ?_ rfl | refine md_fill ?_ rfl | (unfold ik; refine md_up ?_ rfl))); done) | omega | decide | ((try simp +decide only [b01, b10, b11, am_up, ik, and_true, and_false, true_and, false_and, if_true, if_false, nn_eq] at *) <;> (try simp only [sw_or, sw_all, or_false, and_true, i32_lt, i32_le, i32_eq, i32_addw, i32_subw, i32_mulw, Int32.reduceToInt] at *) <;> omega) | (apply_assumption; done)) (by first | exact n80 | exact n80' | exact v8 | assumption | (refine pc_of hP ?_; (repeat (first | assumption | exact md_refl | refine md_up ?_ rfl | refine md_fill ?_ rfl | (unfold ik; refine md_up ?_ rfl))); done) | (refine pc_oS hP ?_; (repeat (first | assumption | exact md_refl | refine md_up ?_ rfl | refine md_fill ?_ rfl | (unfold ik; refine md_up ?_ rfl))); done) | (refine pm_of hP ?_; (repeat (first | assumption | exact md_refl | refine md_up ?_ rfl | refine md_fill ?_ rfl | (unfold ik; refine md_up ?_ rfl))); done) | omega | decide | ((try simp +decide only [b01, b10, b11, am_up, ik, and_true, and_false, true_and, false_and, if_true, if_false, nn_eq] at *) <;> (try simp only [sw_or, sw_all, or_false, and_true, i32_lt, i32_le, i32_eq, i32_addw, i32_subw, i32_mulw, Int32.reduceToInt] at *) <;> omega) | (apply_assumption; done)) rfl ?_
  refine r_al0 (q := 37) d_MA_openFrame_36 rfl ?_
  refine gt_MA_latest (q := 40) d_MA_openFrame_37 rfl rfl ?_
  refine r_ic (v := 0) (q := 41) d_MA_openFrame_40 rfl rfl ?_
  refine pt_FR_place (q := 44) d_MA_openFrame_41 rfl (by first | exact n80 | exact n80' | exact v8 | assumption | (refine pc_of hP ?_; (repeat (first | assumption | exact md_refl | refine md_up ?_ rfl | refine md_fill ?_ rfl | (unfold ik; refine md_up ?_ rfl))); done) | (refine pc_oS hP ?_; (repeat (first | assumption | exact md_refl | refine md_up ?_ rfl | refine md_fill ?_ rfl | (unfold ik; refine md_up ?_ rfl))); done) | (refine pm_of hP ?_; (repeat (first | assumption | exact md_refl | refine md_up ?_ rfl | refine md_fill ?_ rfl | (unfold ik; refine md_up ?_ rfl))); done) | omega | decide | ((try simp +decide only [b01, b10, b11, am_up, ik, and_true, and_false, true_and, false_and, if_true, if_false, nn_eq] at *) <;> (try simp only [sw_or, sw_all, or_false, and_true, i32_lt, i32_le, i32_eq, i32_addw, i32_subw, i32_mulw, Int32.reduceToInt] at *) <;> omega) | (apply_assumption; done)) rfl ?_
  refine r_al0 (q := 45) d_MA_openFrame_44 rfl ?_
  refine gt_MA_latest (q := 48) d_MA_openFrame_45 rfl rfl ?_
  refine r_il2 (q := 49) d_MA_openFrame_48 rfl ?_
  refine pt_FR_firstCell (q := 52) d_MA_openFrame_49 rfl (by first | exact n80 | exact n80' | exact v8 | assumption | (refine pc_of hP ?_; (repeat (first | assumption | exact md_refl | refine md_up ?_ rfl | refine md_fill ?_ rfl | (unfold ik; refine md_up ?_ rfl))); done) | (refine pc_oS hP ?_; (repeat (first | assumption | exact md_refl | refine md_up ?_ rfl | refine md_fill ?_ rfl | (unfold ik; refine md_up ?_ rfl))); done) | (refine pm_of hP ?_; (repeat (first | assumption | exact md_refl | refine md_up ?_ rfl | refine md_fill ?_ rfl | (unfold ik; refine md_up ?_ rfl))); done) | omega | decide | ((try simp +decide only [b01, b10, b11, am_up, ik, and_true, and_false, true_and, false_and, if_true, if_false, nn_eq] at *) <;> (try simp only [sw_or, sw_all, or_false, and_true, i32_lt, i32_le, i32_eq, i32_addw, i32_subw, i32_mulw, Int32.reduceToInt] at *) <;> omega) | (apply_assumption; done)) rfl ?_
  refine r_al0 (q := 53) d_MA_openFrame_52 rfl ?_
  refine gt_MA_latest (q := 56) d_MA_openFrame_53 rfl rfl ?_
  refine r_ic (v := 0) (q := 57) d_MA_openFrame_56 rfl rfl ?_
  refine pt_FR_high (q := 60) d_MA_openFrame_57 rfl (by first | exact n80 | exact n80' | exact v8 | assumption | (refine pc_of hP ?_; (repeat (first | assumption | exact md_refl | refine md_up ?_ rfl | refine md_fill ?_ rfl | (unfold ik; refine md_up ?_ rfl))); done) | (refine pc_oS hP ?_; (repeat (first | assumption | exact md_refl | refine md_up ?_ rfl | refine md_fill ?_ rfl | (unfold ik; refine md_up ?_ rfl))); done) | (refine pm_of hP ?_; (repeat (first | assumption | exact md_refl | refine md_up ?_ rfl | refine md_fill ?_ rfl | (unfold ik; refine md_up ?_ rfl))); done) | omega | decide | ((try simp +decide only [b01, b10, b11, am_up, ik, and_true, and_false, true_and, false_and, if_true, if_false, nn_eq] at *) <;> (try simp only [sw_or, sw_all, or_false, and_true, i32_lt, i32_le, i32_eq, i32_addw, i32_subw, i32_mulw, Int32.reduceToInt] at *) <;> omega) | (apply_assumption; done)) rfl ?_
  refine r_ic (v := 0) (q := 61) d_MA_openFrame_60 rfl rfl ?_
  refine r_is3 (q := 62) d_MA_openFrame_61 rfl ?_
  (simp only [am_up_bank (show ¬ (519 : Nat) = 518 by decide), am_up_bank (show ¬ (518 : Nat) = 519 by decide), am_up_bank (show ¬ (518 : Nat) = 0 by decide), am_up_bank (show ¬ (518 : Nat) = 1 by decide), am_up_bank (show ¬ (518 : Nat) = 2 by decide), am_up_eq, e2]; exact kL)

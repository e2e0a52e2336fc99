/-! written by wip/whole/gen/walk.py out of 99n.call2.txt -/
def am_cp (st : am_S) (b d s n : Nat) : am_S := fun b' i => if b' = b ∧ d ≤ i ∧ i < d + n then st b (s + (i - d)) else st b' i
theorem cp_0 {st : am_S} {b d s : Nat} : am_cp st b d s 0 = st := by
  funext b' i
  unfold am_cp
  rw [if_neg (by omega)]
theorem cp_snoc {st : am_S} {b d s n : Nat} : am_up (am_cp st b d s n) b (d + n) (st b (s + n)) = am_cp st b d s (n + 1) := by
  funext b' i
  unfold am_up am_cp
  by_cases h1 : b' = b ∧ i = d + n
  · rw [if_pos h1, if_pos (by omega), h1.2]
    congr 1
    omega
  · rw [if_neg h1]
    by_cases h2 : b' = b ∧ d ≤ i ∧ i < d + n
    · rw [if_pos h2, if_pos (by omega)]
    · rw [if_neg h2, if_neg (by omega)]
theorem cp_bank {st : am_S} {b b' d s n : Nat} (h : ¬ b' = b) : am_cp st b d s n b' = st b' := by
  funext i
  unfold am_cp
  rw [if_neg (fun q => h q.1)]
def o_dec (A : am_S) (c : Int32) : am_S := am_up A 2165 (lf A) (A 2165 (lf A) - c)
theorem dec_o {A : am_S} {c : Int32} {b : Nat} (h : ¬ b = 2165) : o_dec A c b = A b := am_up_bank h
theorem dec_t {A : am_S} {c : Int32} {f : Nat} : o_dec A c 2165 f = if f = lf A then A 2165 (lf A) - c else A 2165 f := by
  unfold o_dec
  by_cases e : f = lf A
  · rw [if_pos e, e, am_up_eq]
  · rw [if_neg e, am_up_ne (fun q => e q.2)]
theorem dec1 {P A : am_S} {c : Int32} (hB : BV P A) (hn : 0 < fn A) (h0 : 0 ≤ c.toInt) (h1 : c.toInt ≤ (sD A : Int)) : BV P (o_dec A c) ∧ fn (o_dec A c) = fn A ∧ (sD (o_dec A c) : Int) = (sD A : Int) - c.toInt ∧ (∀ f, ft (o_dec A c) f ≤ ft A f) := by
  obtain ⟨-, t2, t3, t4, t5⟩ := top_r hB hn
  have key : (A 2165 (lf A) - c).toInt = (sD A : Int) - c.toInt := by
    rw [i32_subw]
    omega
  have e1 : lf (o_dec A c) = lf A := rfl
  refine ⟨BV_tops hB (fun b _ b2 _ => dec_o b2) (fun f hf => ?_), rfl, ?_, fun f => ?_⟩
  · obtain ⟨-, -, g3, g4, -⟩ := hB.2.1 f hf
    unfold ft at *
    rw [dec_t]
    by_cases e : f = lf A
    · rw [if_pos e, key, e]
      unfold sD ft at *
      omega
    · rw [if_neg e]
      exact ⟨g3, g4⟩
  · have : sD (o_dec A c) = (o_dec A c 2165 (lf A)).toInt.toNat := rfl
    rw [this, dec_t, if_pos rfl, key]
    omega
  · unfold ft
    rw [dec_t]
    by_cases e : f = lf A
    · rw [if_pos e, key, e]
      unfold sD ft at *
      omega
    · rw [if_neg e]
      exact Nat.le_refl _
theorem RC_dec {P st A : am_S} {c : Int32} (hB : BV P A) (hn : 0 < fn A) (h0 : 0 ≤ c.toInt) (h1 : c.toInt ≤ (sD A : Int)) (h : RC P st A) : RC P (am_up st 3 (lf A) (st 3 (lf A) - c)) (o_dec A c) := by
  obtain ⟨a1, a2, a3, a4, a5, a6⟩ := h
  obtain ⟨-, -, -, k4⟩ := dec1 hB hn h0 h1
  have hl : lf A < fn A := by unfold lf; omega
  have e : ∀ b, ¬ b = 3 → am_up st 3 (lf A) (st 3 (lf A) - c) b = st b := fun b b2 => am_up_bank b2
  refine ⟨?_, fun f hf => ?_, fun f hf k hk => ?_, ?_, ?_, ?_⟩
  · rw [e 519 (by decide), e 518 (by decide), dec_o (by decide)]
    exact a1
  · obtain ⟨b1, b2, b3, b4⟩ := a2 f hf
    rw [e 0 (by decide), e 1 (by decide), e 2 (by decide), dec_o (b := 2163) (by decide), dec_o (b := 2164) (by decide), dec_o (b := 2166) (by decide), dec_t]
    refine ⟨b1, b2, b3, ?_⟩
    by_cases q : f = lf A
    · rw [q, am_up_eq, if_pos rfl, (a2 (lf A) hl).2.2.2]
    · rw [if_neg q, am_up_ne (fun w => q w.2)]
      exact b4
  · have f1 : fb (o_dec A c) f = fb A f := by unfold fb; rw [dec_o (by decide)]
    have f2 : flo P (o_dec A c) f = flo P A f := by unfold flo fm; rw [dec_o (by decide)]
    have f3 := k4 f
    rw [f1]
    rw [f2] at hk
    rw [e 2137 (by decide), dec_o (by decide)]
    exact a3 f hf k (by omega)
  · rw [e 2139 (by decide), dec_o (by decide)]
    exact a4
  · rw [e 520 (by decide), e 2140 (by decide), dec_o (b := 606) (by decide), dec_o (b := 2161) (by decide)]
    exact a5
  · rw [e 521 (by decide), e 522 (by decide), dec_o (b := 603) (by decide), dec_o (b := 604) (by decide)]
    exact a6
/-- a call of method m -/
def o_call (P A : am_S) (m : Nat) : am_S := if (A 608 0).toInt + (ned P m).toInt ≤ 80 then am_cp (o_open P (o_dec A (P 3 m)) (nI m)) 2162 (A 608 0).toInt.toNat (sx P (o_dec A (P 3 m))) (P 3 m).toInt.toNat else o_stop A 7
theorem sx_dec {P A : am_S} {c : Int32} (hB : BV P A) (hn : 0 < fn A) (h0 : 0 ≤ c.toInt) (h1 : c.toInt ≤ (sD A : Int)) : (sx P (o_dec A c) : Int) = (fb A (lf A) : Int) + flo P A (lf A) + sD A - c.toInt ∧ sx P (o_dec A c) + c.toInt.toNat ≤ fb A (lf A) + flo P A (lf A) + sD A := by
  obtain ⟨-, -, k3, -⟩ := dec1 hB hn h0 h1
  have e : sx P (o_dec A c) = fb A (lf A) + flo P A (lf A) + sD (o_dec A c) := by
    rw [sx_D]
    unfold fb flo fm
    rw [dec_o (b := 2166) (by decide), dec_o (b := 2163) (by decide)]
    rfl
  rw [e]
  omega
theorem lp_MA_ca {P st0 B : am_S} {m u0 s0 n : Nat} {y : Int32} {f : am_S → Prop} (hP : PC st0 P) (hV : VP P) (hm : m < nM P) (hn : n = (P 3 m).toInt.toNat) (hy : y.toInt = (s0 : Int)) (hs0 : s0 + n ≤ u0) (hu : u0 + n ≤ 80) (hl : ∀ s, QC P st0 B s → (s 518 0).toNatClampNeg < 80 ∧ (s 2 (s 518 0).toNatClampNeg).toInt = (u0 : Int)) (hlB : ∀ j s, QC P st0 (am_cp B 2162 u0 s0 j) s → (s 518 0).toNatClampNeg < 80 ∧ (s 2 (s 518 0).toNatClampNeg).toInt = (u0 : Int)) (h : ∀ q : {q : am_S // QC P st0 (am_cp B 2162 u0 s0 n) q}, f q.1) : ∀ (d j : Nat) (x : Int32) (st : am_S), j + d = n → x.toInt = (j : Int) → QC P st0 (am_cp B 2162 u0 s0 j) st → (∀ k, k < n → st 2137 (s0 + k) = B 2162 (s0 + k)) → am_AW c_MA_stepCall g_MA_stepCall (fun o st' => am_ok none o ∧ am_kv f o st') 60 [some (.inr (.inl 127)), some (.inr (.inl (m + 80))), some (.inl y), some (.inl x)] [] st := by
  intro d
  have h3 := hV.2.2 m hm
  unfold VM at h3
  induction d with
  | zero =>
    intro j x st k1 k2 k3 k4
    have q := pc_oR hP k3.1
    have v8 := (cf q hV hm).1
    have e69 : (st 69 m).toInt = (P 3 m).toInt := by rw [q.1.2.2.2.1]
    have ej : j = n := by omega
    rw [ej] at k3
    have kQ := hs h k3
    clear h hl hlB k3 k4
    refine r_il3 (q := 61) d_MA_stepCall_60 rfl ?_
    refine r_al1 (q := 62) d_MA_stepCall_61 rfl ?_
    refine gt_ME_arguments (q := 65) d_MA_stepCall_62 rfl (by first | assumption | (refine pc_of hP ?_; (repeat (first | assumption | exact md_refl | refine md_up ?_ rfl | refine md_fill ?_ rfl | (unfold ik; refine md_up ?_ rfl))); done) | (refine pc_oS hP ?_; (repeat (first | assumption | exact md_refl | refine md_up ?_ rfl | refine md_fill ?_ rfl | (unfold ik; refine md_up ?_ rfl))); done) | (refine pm_of hP ?_; (repeat (first | assumption | exact md_refl | refine md_up ?_ rfl | refine md_fill ?_ rfl | (unfold ik; refine md_up ?_ rfl))); done) | omega | decide | ((try simp +decide only [b01, b10, b11, am_up, ik, and_true, and_false, true_and, false_and, if_true, if_false, nn_eq] at *) <;> (try simp only [sw_or, sw_all, or_false, and_true, i32_lt, i32_le, i32_eq, i32_addw, i32_subw, i32_mulw, Int32.reduceToInt] at *) <;> omega) | (apply_assumption; done)) rfl ?_
    refine r_cge (tgt := 96) (q := 68) d_MA_stepCall_65 rfl rfl (fun e65 => ?_) (fun e65 => ?_)
    · skip
      refine r_rv d_MA_stepCall_96 ?_
      exact kQ
    · skip
      exfalso; clear kQ hP hV q; ((try simp +decide only [b01, b10, b11, am_up, ik, and_true, and_false, true_and, false_and, if_true, if_false, nn_eq] at *) <;> (try simp only [sw_or, sw_all, or_false, and_true, i32_lt, i32_le, i32_eq, i32_addw, i32_subw, i32_mulw, Int32.reduceToInt] at *) <;> omega)
  | succ d ih =>
    intro j x st k1 k2 k3 k4
    have q := pc_oR hP k3.1
    have v8 := (cf q hV hm).1
    have e69 : (st 69 m).toInt = (P 3 m).toInt := by rw [q.1.2.2.2.1]
    obtain ⟨t1, t2⟩ := hlB j st k3
    have ei : (st 2 (st 518 0).toNatClampNeg + x).toNatClampNeg = u0 + j := by
      rw [nn_eq, i32_addw]
      omega
    have vi : vp_in (st 2 (st 518 0).toNatClampNeg + x) 80 := by
      refine vp_of ?_ ?_ <;> (rw [i32_addw]; omega)
    have es : (y + x).toNatClampNeg = s0 + j := by
      rw [nn_eq, i32_addw]
      omega
    have vs : vp_in (y + x) 80 := by
      refine vp_of ?_ ?_ <;> (rw [i32_addw]; omega)
    have kA : am_AW c_MA_stepCall g_MA_stepCall (fun o st' => am_ok none o ∧ am_kv f o st') 60 [some (.inr (.inl 127)), some (.inr (.inl (m + 80))), some (.inl y), some (.inl (x + 1))] [] (am_up st 2137 (st 2 (st 518 0).toNatClampNeg + x).toNatClampNeg (st 2137 (y + x).toNatClampNeg)) := by
      rw [ei, es, k4 j (by omega)]
      refine ih (j + 1) _ _ (by omega) (by rw [i32_addw]; simp only [Int32.reduceToInt]; omega) ⟨md_up k3.1 rfl, ?_⟩ (fun k hk => ?_)
      · have := RC_cell (i := u0 + j) (v := B 2162 (s0 + j)) k3.2
        unfold o_cell at this
        rw [cp_snoc] at this
        exact this
      · rw [am_up_ne (by omega)]
        exact k4 k hk
    clear ih h hl hlB k3 k4
    refine r_il3 (q := 61) d_MA_stepCall_60 rfl ?_
    refine r_al1 (q := 62) d_MA_stepCall_61 rfl ?_
    refine gt_ME_arguments (q := 65) d_MA_stepCall_62 rfl (by first | assumption | (refine pc_of hP ?_; (repeat (first | assumption | exact md_refl | refine md_up ?_ rfl | refine md_fill ?_ rfl | (unfold ik; refine md_up ?_ rfl))); done) | (refine pc_oS hP ?_; (repeat (first | assumption | exact md_refl | refine md_up ?_ rfl | refine md_fill ?_ rfl | (unfold ik; refine md_up ?_ rfl))); done) | (refine pm_of hP ?_; (repeat (first | assumption | exact md_refl | refine md_up ?_ rfl | refine md_fill ?_ rfl | (unfold ik; refine md_up ?_ rfl))); done) | omega | decide | ((try simp +decide only [b01, b10, b11, am_up, ik, and_true, and_false, true_and, false_and, if_true, if_false, nn_eq] at *) <;> (try simp only [sw_or, sw_all, or_false, and_true, i32_lt, i32_le, i32_eq, i32_addw, i32_subw, i32_mulw, Int32.reduceToInt] at *) <;> omega) | (apply_assumption; done)) rfl ?_
    refine r_cge (tgt := 96) (q := 68) d_MA_stepCall_65 rfl rfl (fun e65 => ?_) (fun e65 => ?_)
    · skip
      first | exact kA | (exfalso; clear kA hP hV q; ((try simp +decide only [b01, b10, b11, am_up, ik, and_true, and_false, true_and, false_and, if_true, if_false, nn_eq] at *) <;> (try simp only [sw_or, sw_all, or_false, and_true, i32_lt, i32_le, i32_eq, i32_addw, i32_subw, i32_mulw, Int32.reduceToInt] at *) <;> omega))
    · skip
      refine r_al0 (q := 69) d_MA_stepCall_68 rfl ?_
      refine gt_MA_cells (q := 72) d_MA_stepCall_69 rfl rfl ?_
      refine r_al0 (q := 73) d_MA_stepCall_72 rfl ?_
      refine gt_MA_latest (q := 76) d_MA_stepCall_73 rfl rfl ?_
      refine gt_FR_firstCell (q := 79) d_MA_stepCall_76 rfl (by first | assumption | (refine pc_of hP ?_; (repeat (first | assumption | exact md_refl | refine md_up ?_ rfl | refine md_fill ?_ rfl | (unfold ik; refine md_up ?_ rfl))); done) | (refine pc_oS hP ?_; (repeat (first | assumption | exact md_refl | refine md_up ?_ rfl | refine md_fill ?_ rfl | (unfold ik; refine md_up ?_ rfl))); done) | (refine pm_of hP ?_; (repeat (first | assumption | exact md_refl | refine md_up ?_ rfl | refine md_fill ?_ rfl | (unfold ik; refine md_up ?_ rfl))); done) | omega | decide | ((try simp +decide only [b01, b10, b11, am_up, ik, and_true, and_false, true_and, false_and, if_true, if_false, nn_eq] at *) <;> (try simp only [sw_or, sw_all, or_false, and_true, i32_lt, i32_le, i32_eq, i32_addw, i32_subw, i32_mulw, Int32.reduceToInt] at *) <;> omega) | (apply_assumption; done)) rfl ?_
      refine r_il3 (q := 80) d_MA_stepCall_79 rfl ?_
      refine r_iadd (q := 81) d_MA_stepCall_80 rfl ?_
      refine r_al0 (q := 82) d_MA_stepCall_81 rfl ?_
      refine gt_MA_cells (q := 85) d_MA_stepCall_82 rfl rfl ?_
      refine r_il2 (q := 86) d_MA_stepCall_85 rfl ?_
      refine r_il3 (q := 87) d_MA_stepCall_86 rfl ?_
      refine r_iadd (q := 88) d_MA_stepCall_87 rfl ?_
      refine ld_137 (q := 89) d_MA_stepCall_88 ?_ rfl ?_
      · first | exact vi | exact vs
      refine sv_137 (q := 90) d_MA_stepCall_89 ?_ rfl ?_
      · first | exact vi | exact vs
      refine r_in3 (v := 1) (q := 93) d_MA_stepCall_90 rfl rfl ?_
      refine am_go (tgt := 60) d_MA_stepCall_93 rfl ?_
      first | exact kA | (exfalso; clear kA hP hV q; ((try simp +decide only [b01, b10, b11, am_up, ik, and_true, and_false, true_and, false_and, if_true, if_false, nn_eq] at *) <;> (try simp only [sw_or, sw_all, or_false, and_true, i32_lt, i32_le, i32_eq, i32_addw, i32_subw, i32_mulw, Int32.reduceToInt] at *) <;> omega))
theorem sp_MA_stepCall {P st0 A : am_S} {m : Nat} {st : am_S} {f : am_S → Prop} (c1 : PC st0 P) (c2 : VP P) (c3 : BV P A) (c4 : 0 < fn A) (c5 : m < nM P) (c6 : QC P st0 A st) (c7 : (P 3 m).toInt ≤ (sD A : Int)) (h1 : ∀ q : {q : am_S // QC P st0 (o_call P A m) q}, f q.1) : wp_MA_stepCall [.inr (.inl 127), .inr (.inl (m + 80))] st (am_kv f) := by
  refine ⟨⟨rfl, Nat.le_of_ble_eq_true rfl⟩, ?_⟩
  have hPs := pc_oR c1 c6.1
  have v8 := (cf hPs c2 c5).1
  obtain ⟨d1, d2, d3, d4, d5⟩ := ned_t c2 c5
  have h3 := c2.2.2 m c5
  unfold VM at h3
  obtain ⟨t1, t2, t3, t4, t5, t6, t7, t8, t9, t10⟩ := RC_tw hPs c2 c3 c6.2 c4
  have hu := c3.2.2.1
  rw [if_neg (by omega)] at hu
  have eN : st 70 m + st 71 m + 1 = ned P m := by
    unfold ned
    rw [hPs.1.2.2.2.2.1, hPs.1.2.2.2.2.2.1]
  have cmp : (A 608 0 + ned P m).toInt = (A 608 0).toInt + (ned P m).toInt := by
    rw [i32_addw]
    omega
  have i7 : ¬ (7 : Int32) = 2 := by decide
  have kS : ¬ A 608 0 + (st 70 m + st 71 m + 1) ≤ 80 → ∀ q, QC P st0 (o_stop A 7) q → f q := by
    intro e q hq
    rw [eN, i32_le, cmp] at e
    simp only [Int32.reduceToInt] at e
    refine h1 ⟨q, ?_⟩
    unfold o_call
    rw [if_neg e]
    exact hq
  have k21 : A 608 0 + (st 70 m + st 71 m + 1) ≤ 80 → am_AW c_MA_stepCall g_MA_stepCall (fun o st' => am_ok none o ∧ am_kv f o st') 21 [some (.inr (.inl 127)), some (.inr (.inl (m + 80))), none, none] [] st := by
    intro e
    rw [eN, i32_le, cmp] at e
    simp only [Int32.reduceToInt] at e
    obtain ⟨k1, k2, k3, k4⟩ := dec1 c3 c4 h3.2.1.1 c7
    obtain ⟨x1, x2⟩ := sx_dec (P := P) c3 c4 h3.2.1.1 c7
    have e608 : o_dec A (P 3 m) 608 0 = A 608 0 := rfl
    have e69 : st 69 m = P 3 m := by rw [hPs.1.2.2.2.1]
    have kD := RC_dec c3 c4 h3.2.1.1 c7 c6.2
    rw [← t1, ← e69] at kD
    have kD2 : QC P st0 (o_dec A (P 3 m)) (am_up st 3 (st 518 0).toNatClampNeg (st 3 (st 518 0).toNatClampNeg - st 69 m)) := by
      rw [← e69]
      exact ⟨md_up c6.1 rfl, kD⟩
    have yv : (st 2 (st 518 0).toNatClampNeg + st 70 (st 0 (st 518 0).toNatClampNeg).toNatClampNeg + (st 3 (st 518 0).toNatClampNeg - st 69 m)).toInt = (sx P (o_dec A (P 3 m)) : Int) := by
      rw [x1, i32_addw, i32_addw, i32_subw, e69]
      omega
    have em : (nI m).toNatClampNeg = m := nI_c (by omega)
    have hfit : (o_dec A (P 3 m) 608 0).toInt + (ned P m).toInt ≤ 80 := by rw [e608]; exact e
    have bo := BV_open (y := nI m) c2 k1 ⟨by rw [nI_t (by omega)]; omega, by rw [em]; exact c5⟩ (by rw [em]; exact hfit)
    obtain ⟨o1, o2, o3⟩ := @open_n P (o_dec A (P 3 m)) (nI m) k1 (by omega)
    have lo : lf (o_open P (o_dec A (P 3 m)) (nI m)) = fn A := by unfold lf; rw [o1, k2]; rfl
    have fbo : fb (o_open P (o_dec A (P 3 m)) (nI m)) (fn A) = (A 608 0).toInt.toNat := by unfold fb; rw [open_f.2.2.2, k2, if_pos rfl, e608]
    have hlt : ∀ B s, BV P B → fn B = fn A + 1 → fb B (fn A) = (A 608 0).toInt.toNat → QC P st0 B s → (s 518 0).toNatClampNeg < 80 ∧ (s 2 (s 518 0).toNatClampNeg).toInt = ((A 608 0).toInt.toNat : Int) := by
      intro B s b1 b2 b3 b4
      obtain ⟨w1, w2, w3, w4, w5, -⟩ := RC_tw (pc_oR c1 b4.1) c2 b1 b4.2 (by omega)
      refine ⟨w2, ?_⟩
      have : lf B = fn A := by unfold lf; rw [b2]; rfl
      rw [w5, this, b3]
    have cpB : ∀ n, BV P (am_cp (o_open P (o_dec A (P 3 m)) (nI m)) 2162 (A 608 0).toInt.toNat (sx P (o_dec A (P 3 m))) n) ∧ fn (am_cp (o_open P (o_dec A (P 3 m)) (nI m)) 2162 (A 608 0).toInt.toNat (sx P (o_dec A (P 3 m))) n) = fn A + 1 ∧ fb (am_cp (o_open P (o_dec A (P 3 m)) (nI m)) 2162 (A 608 0).toInt.toNat (sx P (o_dec A (P 3 m))) n) (fn A) = (A 608 0).toInt.toNat := by
      intro n
      refine ⟨BV_eq bo (cp_bank (by decide)) (cp_bank (by decide)) (cp_bank (by decide)) (cp_bank (by decide)) (cp_bank (by decide)), ?_, ?_⟩
      · unfold fn
        rw [cp_bank (by decide)]
        have : (o_open P (o_dec A (P 3 m)) (nI m) 610 0).toInt.toNat = fn A + 1 := by rw [o3, k2]; omega
        exact this
      · unfold fb
        rw [cp_bank (by decide)]
        exact fbo
    have kE : ∀ q : {q : am_S // QC P st0 (am_cp (o_open P (o_dec A (P 3 m)) (nI m)) 2162 (A 608 0).toInt.toNat (sx P (o_dec A (P 3 m))) (P 3 m).toInt.toNat) q}, f q.1 := by
      intro q
      refine h1 ⟨q.1, ?_⟩
      unfold o_call
      rw [if_pos e]
      exact q.2
    have k58 : ∀ s, (QC P st0 (o_open P (o_dec A (P 3 m)) (nI m)) s ∧ ∀ i, i < (o_dec A (P 3 m) 608 0).toInt.toNat → s 2137 i = am_up st 3 (st 518 0).toNatClampNeg (st 3 (st 518 0).toNatClampNeg - st 69 m) 2137 i) → am_AW c_MA_stepCall g_MA_stepCall (fun o st' => am_ok none o ∧ am_kv f o st') 60 [some (.inr (.inl 127)), some (.inr (.inl (m + 80))), some (.inl (st 2 (st 518 0).toNatClampNeg + st 70 (st 0 (st 518 0).toNatClampNeg).toNatClampNeg + (st 3 (st 518 0).toNatClampNeg - st 69 m))), some (.inl 0)] [] s := by
      intro s hsq
      have hu2 : (A 608 0).toInt.toNat = en P A (lf A) := by omega
      have hen : en P A (lf A) = fb A (lf A) + flo P A (lf A) + fhe P A (lf A) + 1 := rfl
      refine lp_MA_ca c1 c2 c5 rfl yv (by omega) (by omega) (fun s hq => hlt _ s bo (by rw [o1, k2]) fbo hq) (fun j s hq => hlt _ s (cpB j).1 (cpB j).2.1 (cpB j).2.2 hq) kE (P 3 m).toInt.toNat 0 0 s (by omega) (by decide) (by rw [cp_0]; exact hsq.1) (fun k hk => ?_)
      rw [hsq.2 _ (by rw [e608]; omega), am_up_bank (by decide), open_c, e608, if_neg (by omega), dec_o (by decide)]
      have g := c6.2.2.2.1 (lf A) (by unfold lf; omega) (sx P (o_dec A (P 3 m)) + k - fb A (lf A)) (by unfold sD at *; omega)
      have e9 : fb A (lf A) + (sx P (o_dec A (P 3 m)) + k - fb A (lf A)) = sx P (o_dec A (P 3 m)) + k := by omega
      rw [e9] at g
      exact g
    clear h1 kS kE
    refine r_al0 (q := 22) d_MA_stepCall_21 rfl ?_
    refine gt_MA_latest (q := 25) d_MA_stepCall_22 rfl rfl ?_
    refine r_dupr (q := 26) d_MA_stepCall_25 rfl ?_
    refine gt_FR_high (q := 29) d_MA_stepCall_26 rfl (by first | exact c1 | exact k1 | exact hfit | exact kD2 | assumption | (refine pc_of hP ?_; (repeat (first | assumption | exact md_refl | refine md_up ?_ rfl | refine md_fill ?_ rfl | (unfold ik; refine md_up ?_ rfl))); done) | (refine pc_oS hP ?_; (repeat (first | assumption | exact md_refl | refine md_up ?_ rfl | refine md_fill ?_ rfl | (unfold ik; refine md_up ?_ rfl))); done) | (refine pm_of hP ?_; (repeat (first | assumption | exact md_refl | refine md_up ?_ rfl | refine md_fill ?_ rfl | (unfold ik; refine md_up ?_ rfl))); done) | omega | decide | ((try simp +decide only [b01, b10, b11, am_up, ik, and_true, and_false, true_and, false_and, if_true, if_false, nn_eq] at *) <;> (try simp only [sw_or, sw_all, or_false, and_true, i32_lt, i32_le, i32_eq, i32_addw, i32_subw, i32_mulw, Int32.reduceToInt] at *) <;> omega) | (apply_assumption; done)) rfl ?_
    refine r_al1 (q := 30) d_MA_stepCall_29 rfl ?_
    refine gt_ME_arguments (q := 33) d_MA_stepCall_30 rfl (by first | exact c1 | exact k1 | exact hfit | exact kD2 | assumption | (refine pc_of hP ?_; (repeat (first | assumption | exact md_refl | refine md_up ?_ rfl | refine md_fill ?_ rfl | (unfold ik; refine md_up ?_ rfl))); done) | (refine pc_oS hP ?_; (repeat (first | assumption | exact md_refl | refine md_up ?_ rfl | refine md_fill ?_ rfl | (unfold ik; refine md_up ?_ rfl))); done) | (refine pm_of hP ?_; (repeat (first | assumption | exact md_refl | refine md_up ?_ rfl | refine md_fill ?_ rfl | (unfold ik; refine md_up ?_ rfl))); done) | omega | decide | ((try simp +decide only [b01, b10, b11, am_up, ik, and_true, and_false, true_and, false_and, if_true, if_false, nn_eq] at *) <;> (try simp only [sw_or, sw_all, or_false, and_true, i32_lt, i32_le, i32_eq, i32_addw, i32_subw, i32_mulw, Int32.reduceToInt] at *) <;> omega) | (apply_assumption; done)) rfl ?_
    refine r_isub (q := 34) d_MA_stepCall_33 rfl ?_
    refine pt_FR_high (q := 37) d_MA_stepCall_34 rfl (by first | exact c1 | exact k1 | exact hfit | exact kD2 | assumption | (refine pc_of hP ?_; (repeat (first | assumption | exact md_refl | refine md_up ?_ rfl | refine md_fill ?_ rfl | (unfold ik; refine md_up ?_ rfl))); done) | (refine pc_oS hP ?_; (repeat (first | assumption | exact md_refl | refine md_up ?_ rfl | refine md_fill ?_ rfl | (unfold ik; refine md_up ?_ rfl))); done) | (refine pm_of hP ?_; (repeat (first | assumption | exact md_refl | refine md_up ?_ rfl | refine md_fill ?_ rfl | (unfold ik; refine md_up ?_ rfl))); done) | omega | decide | ((try simp +decide only [b01, b10, b11, am_up, ik, and_true, and_false, true_and, false_and, if_true, if_false, nn_eq] at *) <;> (try simp only [sw_or, sw_all, or_false, and_true, i32_lt, i32_le, i32_eq, i32_addw, i32_subw, i32_mulw, Int32.reduceToInt] at *) <;> omega) | (apply_assumption; done)) rfl ?_
    refine r_al0 (q := 38) d_MA_stepCall_37 rfl ?_
    refine gt_MA_latest (q := 41) d_MA_stepCall_38 rfl rfl ?_
    refine r_vi0 mo_FR_firstStackCell d_MA_stepCall_41 rfl (r_kF (by first | exact c1 | exact k1 | exact hfit | exact kD2 | assumption | (refine pc_of hP ?_; (repeat (first | assumption | exact md_refl | refine md_up ?_ rfl | refine md_fill ?_ rfl | (unfold ik; refine md_up ?_ rfl))); done) | (refine pc_oS hP ?_; (repeat (first | assumption | exact md_refl | refine md_up ?_ rfl | refine md_fill ?_ rfl | (unfold ik; refine md_up ?_ rfl))); done) | (refine pm_of hP ?_; (repeat (first | assumption | exact md_refl | refine md_up ?_ rfl | refine md_fill ?_ rfl | (unfold ik; refine md_up ?_ rfl))); done) | omega | decide | ((try simp +decide only [b01, b10, b11, am_up, ik, and_true, and_false, true_and, false_and, if_true, if_false, nn_eq] at *) <;> (try simp only [sw_or, sw_all, or_false, and_true, i32_lt, i32_le, i32_eq, i32_addw, i32_subw, i32_mulw, Int32.reduceToInt] at *) <;> omega) | (apply_assumption; done))) rfl (q := 44) rfl ?_
    refine sp_FR_firstStackCell (by first | exact c1 | exact k1 | exact hfit | exact kD2 | assumption | (refine pc_of hP ?_; (repeat (first | assumption | exact md_refl | refine md_up ?_ rfl | refine md_fill ?_ rfl | (unfold ik; refine md_up ?_ rfl))); done) | (refine pc_oS hP ?_; (repeat (first | assumption | exact md_refl | refine md_up ?_ rfl | refine md_fill ?_ rfl | (unfold ik; refine md_up ?_ rfl))); done) | (refine pm_of hP ?_; (repeat (first | assumption | exact md_refl | refine md_up ?_ rfl | refine md_fill ?_ rfl | (unfold ik; refine md_up ?_ rfl))); done) | omega | decide | ((try simp +decide only [b01, b10, b11, am_up, ik, and_true, and_false, true_and, false_and, if_true, if_false, nn_eq] at *) <;> (try simp only [sw_or, sw_all, or_false, and_true, i32_lt, i32_le, i32_eq, i32_addw, i32_subw, i32_mulw, Int32.reduceToInt] at *) <;> omega) | (apply_assumption; done)) (by first | exact c1 | exact k1 | exact hfit | exact kD2 | assumption | (refine pc_of hP ?_; (repeat (first | assumption | exact md_refl | refine md_up ?_ rfl | refine md_fill ?_ rfl | (unfold ik; refine md_up ?_ rfl))); done) | (refine pc_oS hP ?_; (repeat (first | assumption | exact md_refl | refine md_up ?_ rfl | refine md_fill ?_ rfl | (unfold ik; refine md_up ?_ rfl))); done) | (refine pm_of hP ?_; (repeat (first | assumption | exact md_refl | refine md_up ?_ rfl | refine md_fill ?_ rfl | (unfold ik; refine md_up ?_ rfl))); done) | omega | decide | ((try simp +decide only [b01, b10, b11, am_up, ik, and_true, and_false, true_and, false_and, if_true, if_false, nn_eq] at *) <;> (try simp only [sw_or, sw_all, or_false, and_true, i32_lt, i32_le, i32_eq, i32_addw, i32_subw, i32_mulw, Int32.reduceToInt] at *) <;> omega) | (apply_assumption; done)) ?_
    refine r_al0 (q := 45) d_MA_stepCall_44 rfl ?_
    refine gt_MA_latest (q := 48) d_MA_stepCall_45 rfl rfl ?_
    refine gt_FR_high (q := 51) d_MA_stepCall_48 rfl (by first | exact c1 | exact k1 | exact hfit | exact kD2 | assumption | (refine pc_of hP ?_; (repeat (first | assumption | exact md_refl | refine md_up ?_ rfl | refine md_fill ?_ rfl | (unfold ik; refine md_up ?_ rfl))); done) | (refine pc_oS hP ?_; (repeat (first | assumption | exact md_refl | refine md_up ?_ rfl | refine md_fill ?_ rfl | (unfold ik; refine md_up ?_ rfl))); done) | (refine pm_of hP ?_; (repeat (first | assumption | exact md_refl | refine md_up ?_ rfl | refine md_fill ?_ rfl | (unfold ik; refine md_up ?_ rfl))); done) | omega | decide | ((try simp +decide only [b01, b10, b11, am_up, ik, and_true, and_false, true_and, false_and, if_true, if_false, nn_eq] at *) <;> (try simp only [sw_or, sw_all, or_false, and_true, i32_lt, i32_le, i32_eq, i32_addw, i32_subw, i32_mulw, Int32.reduceToInt] at *) <;> omega) | (apply_assumption; done)) rfl ?_
    refine r_iadd (q := 52) d_MA_stepCall_51 rfl ?_
    refine r_is2 (q := 53) d_MA_stepCall_52 rfl ?_
    refine r_al0 (q := 54) d_MA_stepCall_53 rfl ?_
    refine r_al1 (q := 55) d_MA_stepCall_54 rfl ?_
    refine r_vv1 mo_MA_openFrame d_MA_stepCall_55 rfl rfl rfl (q := 58) rfl ?_
    refine sp_MA_openFrame (P := P) (st0 := st0) (A := o_dec A (P 3 m)) (by first | exact c1 | exact k1 | exact hfit | exact kD2 | assumption | (refine pc_of hP ?_; (repeat (first | assumption | exact md_refl | refine md_up ?_ rfl | refine md_fill ?_ rfl | (unfold ik; refine md_up ?_ rfl))); done) | (refine pc_oS hP ?_; (repeat (first | assumption | exact md_refl | refine md_up ?_ rfl | refine md_fill ?_ rfl | (unfold ik; refine md_up ?_ rfl))); done) | (refine pm_of hP ?_; (repeat (first | assumption | exact md_refl | refine md_up ?_ rfl | refine md_fill ?_ rfl | (unfold ik; refine md_up ?_ rfl))); done) | omega | decide | ((try simp +decide only [b01, b10, b11, am_up, ik, and_true, and_false, true_and, false_and, if_true, if_false, nn_eq] at *) <;> (try simp only [sw_or, sw_all, or_false, and_true, i32_lt, i32_le, i32_eq, i32_addw, i32_subw, i32_mulw, Int32.reduceToInt] at *) <;> omega) | (apply_assumption; done)) (by first | exact c1 | exact k1 | exact hfit | exact kD2 | assumption | (refine pc_of hP ?_; (repeat (first | assumption | exact md_refl | refine md_up ?_ rfl | refine md_fill ?_ rfl | (unfold ik; refine md_up ?_ rfl))); done) | (refine pc_oS hP ?_; (repeat (first | assumption | exact md_refl | refine md_up ?_ rfl | refine md_fill ?_ rfl | (unfold ik; refine md_up ?_ rfl))); done) | (refine pm_of hP ?_; (repeat (first | assumption | exact md_refl | refine md_up ?_ rfl | refine md_fill ?_ rfl | (unfold ik; refine md_up ?_ rfl))); done) | omega | decide | ((try simp +decide only [b01, b10, b11, am_up, ik, and_true, and_false, true_and, false_and, if_true, if_false, nn_eq] at *) <;> (try simp only [sw_or, sw_all, or_false, and_true, i32_lt, i32_le, i32_eq, i32_addw, i32_subw, i32_mulw, Int32.reduceToInt] at *) <;> omega) | (apply_assumption; done)) (by first | exact c1 | exact k1 | exact hfit | exact kD2 | assumption | (refine pc_of hP ?_; (repeat (first | assumption | exact md_refl | refine md_up ?_ rfl | refine md_fill ?_ rfl | (unfold ik; refine md_up ?_ rfl))); done) | (refine pc_oS hP ?_; (repeat (first | assumption | exact md_refl | refine md_up ?_ rfl | refine md_fill ?_ rfl | (unfold ik; refine md_up ?_ rfl))); done) | (refine pm_of hP ?_; (repeat (first | assumption | exact md_refl | refine md_up ?_ rfl | refine md_fill ?_ rfl | (unfold ik; refine md_up ?_ rfl))); done) | omega | decide | ((try simp +decide only [b01, b10, b11, am_up, ik, and_true, and_false, true_and, false_and, if_true, if_false, nn_eq] at *) <;> (try simp only [sw_or, sw_all, or_false, and_true, i32_lt, i32_le, i32_eq, i32_addw, i32_subw, i32_mulw, Int32.reduceToInt] at *) <;> omega) | (apply_assumption; done)) (by first | exact c1 | exact k1 | exact hfit | exact kD2 | assumption | (refine pc_of hP ?_; (repeat (first | assumption | exact md_refl | refine md_up ?_ rfl | refine md_fill ?_ rfl | (unfold ik; refine md_up ?_ rfl))); done) | (refine pc_oS hP ?_; (repeat (first | assumption | exact md_refl | refine md_up ?_ rfl | refine md_fill ?_ rfl | (unfold ik; refine md_up ?_ rfl))); done) | (refine pm_of hP ?_; (repeat (first | assumption | exact md_refl | refine md_up ?_ rfl | refine md_fill ?_ rfl | (unfold ik; refine md_up ?_ rfl))); done) | omega | decide | ((try simp +decide only [b01, b10, b11, am_up, ik, and_true, and_false, true_and, false_and, if_true, if_false, nn_eq] at *) <;> (try simp only [sw_or, sw_all, or_false, and_true, i32_lt, i32_le, i32_eq, i32_addw, i32_subw, i32_mulw, Int32.reduceToInt] at *) <;> omega) | (apply_assumption; done)) (by first | exact c1 | exact k1 | exact hfit | exact kD2 | assumption | (refine pc_of hP ?_; (repeat (first | assumption | exact md_refl | refine md_up ?_ rfl | refine md_fill ?_ rfl | (unfold ik; refine md_up ?_ rfl))); done) | (refine pc_oS hP ?_; (repeat (first | assumption | exact md_refl | refine md_up ?_ rfl | refine md_fill ?_ rfl | (unfold ik; refine md_up ?_ rfl))); done) | (refine pm_of hP ?_; (repeat (first | assumption | exact md_refl | refine md_up ?_ rfl | refine md_fill ?_ rfl | (unfold ik; refine md_up ?_ rfl))); done) | omega | decide | ((try simp +decide only [b01, b10, b11, am_up, ik, and_true, and_false, true_and, false_and, if_true, if_false, nn_eq] at *) <;> (try simp only [sw_or, sw_all, or_false, and_true, i32_lt, i32_le, i32_eq, i32_addw, i32_subw, i32_mulw, Int32.reduceToInt] at *) <;> omega) | (apply_assumption; done)) (by first | exact c1 | exact k1 | exact hfit | exact kD2 | assumption | (refine pc_of hP ?_; (repeat (first | assumption | exact md_refl | refine md_up ?_ rfl | refine md_fill ?_ rfl | (unfold ik; refine md_up ?_ rfl))); done) | (refine pc_oS hP ?_; (repeat (first | assumption | exact md_refl | refine md_up ?_ rfl | refine md_fill ?_ rfl | (unfold ik; refine md_up ?_ rfl))); done) | (refine pm_of hP ?_; (repeat (first | assumption | exact md_refl | refine md_up ?_ rfl | refine md_fill ?_ rfl | (unfold ik; refine md_up ?_ rfl))); done) | omega | decide | ((try simp +decide only [b01, b10, b11, am_up, ik, and_true, and_false, true_and, false_and, if_true, if_false, nn_eq] at *) <;> (try simp only [sw_or, sw_all, or_false, and_true, i32_lt, i32_le, i32_eq, i32_addw, i32_subw, i32_mulw, Int32.reduceToInt] at *) <;> omega) | (apply_assumption; done)) (fun e55 => ?_)
    · skip
      refine r_ic (v := 0) (q := 59) d_MA_stepCall_58 rfl rfl ?_
      refine r_is3 (q := 60) d_MA_stepCall_59 rfl ?_
      simp only [am_up_bank (show ¬ (518 : Nat) = 3 by decide), am_up_bank (show ¬ (2 : Nat) = 3 by decide), am_up_bank (show ¬ (70 : Nat) = 3 by decide), am_up_bank (show ¬ (0 : Nat) = 3 by decide), am_up_eq]; exact k58 _ e55.2
  clear h1
  refine r_al0 (q := 1) d_MA_stepCall_0 rfl ?_
  refine r_vi0 mo_MA_cellsTaken d_MA_stepCall_1 rfl rfl rfl (q := 4) rfl ?_
  refine sp_MA_cellsTaken (P := P) (st0 := st0) (A := A) (by first | exact c1 | exact c6 | exact i7 | assumption | (refine pc_of hP ?_; (repeat (first | assumption | exact md_refl | refine md_up ?_ rfl | refine md_fill ?_ rfl | (unfold ik; refine md_up ?_ rfl))); done) | (refine pc_oS hP ?_; (repeat (first | assumption | exact md_refl | refine md_up ?_ rfl | refine md_fill ?_ rfl | (unfold ik; refine md_up ?_ rfl))); done) | (refine pm_of hP ?_; (repeat (first | assumption | exact md_refl | refine md_up ?_ rfl | refine md_fill ?_ rfl | (unfold ik; refine md_up ?_ rfl))); done) | omega | decide | ((try simp +decide only [b01, b10, b11, am_up, ik, and_true, and_false, true_and, false_and, if_true, if_false, nn_eq] at *) <;> (try simp only [sw_or, sw_all, or_false, and_true, i32_lt, i32_le, i32_eq, i32_addw, i32_subw, i32_mulw, Int32.reduceToInt] at *) <;> omega) | (apply_assumption; done)) (by first | exact c1 | exact c6 | exact i7 | assumption | (refine pc_of hP ?_; (repeat (first | assumption | exact md_refl | refine md_up ?_ rfl | refine md_fill ?_ rfl | (unfold ik; refine md_up ?_ rfl))); done) | (refine pc_oS hP ?_; (repeat (first | assumption | exact md_refl | refine md_up ?_ rfl | refine md_fill ?_ rfl | (unfold ik; refine md_up ?_ rfl))); done) | (refine pm_of hP ?_; (repeat (first | assumption | exact md_refl | refine md_up ?_ rfl | refine md_fill ?_ rfl | (unfold ik; refine md_up ?_ rfl))); done) | omega | decide | ((try simp +decide only [b01, b10, b11, am_up, ik, and_true, and_false, true_and, false_and, if_true, if_false, nn_eq] at *) <;> (try simp only [sw_or, sw_all, or_false, and_true, i32_lt, i32_le, i32_eq, i32_addw, i32_subw, i32_mulw, Int32.reduceToInt] at *) <;> omega) | (apply_assumption; done)) (by first | exact c1 | exact c6 | exact i7 | assumption | (refine pc_of hP ?_; (repeat (first | assumption | exact md_refl | refine md_up ?_ rfl | refine md_fill ?_ rfl | (unfold ik; refine md_up ?_ rfl))); done) | (refine pc_oS hP ?_; (repeat (first | assumption | exact md_refl | refine md_up ?_ rfl | refine md_fill ?_ rfl | (unfold ik; refine md_up ?_ rfl))); done) | (refine pm_of hP ?_; (repeat (first | assumption | exact md_refl | refine md_up ?_ rfl | refine md_fill ?_ rfl | (unfold ik; refine md_up ?_ rfl))); done) | omega | decide | ((try simp +decide only [b01, b10, b11, am_up, ik, and_true, and_false, true_and, false_and, if_true, if_false, nn_eq] at *) <;> (try simp only [sw_or, sw_all, or_false, and_true, i32_lt, i32_le, i32_eq, i32_addw, i32_subw, i32_mulw, Int32.reduceToInt] at *) <;> omega) | (apply_assumption; done)) (by first | exact c1 | exact c6 | exact i7 | assumption | (refine pc_of hP ?_; (repeat (first | assumption | exact md_refl | refine md_up ?_ rfl | refine md_fill ?_ rfl | (unfold ik; refine md_up ?_ rfl))); done) | (refine pc_oS hP ?_; (repeat (first | assumption | exact md_refl | refine md_up ?_ rfl | refine md_fill ?_ rfl | (unfold ik; refine md_up ?_ rfl))); done) | (refine pm_of hP ?_; (repeat (first | assumption | exact md_refl | refine md_up ?_ rfl | refine md_fill ?_ rfl | (unfold ik; refine md_up ?_ rfl))); done) | omega | decide | ((try simp +decide only [b01, b10, b11, am_up, ik, and_true, and_false, true_and, false_and, if_true, if_false, nn_eq] at *) <;> (try simp only [sw_or, sw_all, or_false, and_true, i32_lt, i32_le, i32_eq, i32_addw, i32_subw, i32_mulw, Int32.reduceToInt] at *) <;> omega) | (apply_assumption; done)) ?_
  refine r_al1 (q := 5) d_MA_stepCall_4 rfl ?_
  refine r_vi0 mo_ME_cellsNeeded d_MA_stepCall_5 rfl (r_kM (by first | exact c1 | exact c6 | exact i7 | assumption | (refine pc_of hP ?_; (repeat (first | assumption | exact md_refl | refine md_up ?_ rfl | refine md_fill ?_ rfl | (unfold ik; refine md_up ?_ rfl))); done) | (refine pc_oS hP ?_; (repeat (first | assumption | exact md_refl | refine md_up ?_ rfl | refine md_fill ?_ rfl | (unfold ik; refine md_up ?_ rfl))); done) | (refine pm_of hP ?_; (repeat (first | assumption | exact md_refl | refine md_up ?_ rfl | refine md_fill ?_ rfl | (unfold ik; refine md_up ?_ rfl))); done) | omega | decide | ((try simp +decide only [b01, b10, b11, am_up, ik, and_true, and_false, true_and, false_and, if_true, if_false, nn_eq] at *) <;> (try simp only [sw_or, sw_all, or_false, and_true, i32_lt, i32_le, i32_eq, i32_addw, i32_subw, i32_mulw, Int32.reduceToInt] at *) <;> omega) | (apply_assumption; done))) rfl (q := 8) rfl ?_
  refine sp_ME_cellsNeeded (by first | exact c1 | exact c6 | exact i7 | assumption | (refine pc_of hP ?_; (repeat (first | assumption | exact md_refl | refine md_up ?_ rfl | refine md_fill ?_ rfl | (unfold ik; refine md_up ?_ rfl))); done) | (refine pc_oS hP ?_; (repeat (first | assumption | exact md_refl | refine md_up ?_ rfl | refine md_fill ?_ rfl | (unfold ik; refine md_up ?_ rfl))); done) | (refine pm_of hP ?_; (repeat (first | assumption | exact md_refl | refine md_up ?_ rfl | refine md_fill ?_ rfl | (unfold ik; refine md_up ?_ rfl))); done) | omega | decide | ((try simp +decide only [b01, b10, b11, am_up, ik, and_true, and_false, true_and, false_and, if_true, if_false, nn_eq] at *) <;> (try simp only [sw_or, sw_all, or_false, and_true, i32_lt, i32_le, i32_eq, i32_addw, i32_subw, i32_mulw, Int32.reduceToInt] at *) <;> omega) | (apply_assumption; done)) ?_
  refine r_iadd (q := 9) d_MA_stepCall_8 rfl ?_
  refine r_bp (v := 80) (q := 11) d_MA_stepCall_9 rfl rfl ?_
  refine r_cle (tgt := 21) (q := 14) d_MA_stepCall_11 rfl rfl (fun e11 => ?_) (fun e11 => ?_)
  · skip
    exact k21 e11
  · skip
    refine r_al0 (q := 15) d_MA_stepCall_14 rfl ?_
    refine r_bp (v := 7) (q := 17) d_MA_stepCall_15 rfl rfl ?_
    refine r_vv1 mo_MA_end d_MA_stepCall_17 rfl rfl rfl (q := 20) rfl ?_
    refine sq_MA_end (P := P) (st0 := st0) (A := A) (by first | exact c1 | exact c6 | exact i7 | assumption | (refine pc_of hP ?_; (repeat (first | assumption | exact md_refl | refine md_up ?_ rfl | refine md_fill ?_ rfl | (unfold ik; refine md_up ?_ rfl))); done) | (refine pc_oS hP ?_; (repeat (first | assumption | exact md_refl | refine md_up ?_ rfl | refine md_fill ?_ rfl | (unfold ik; refine md_up ?_ rfl))); done) | (refine pm_of hP ?_; (repeat (first | assumption | exact md_refl | refine md_up ?_ rfl | refine md_fill ?_ rfl | (unfold ik; refine md_up ?_ rfl))); done) | omega | decide | ((try simp +decide only [b01, b10, b11, am_up, ik, and_true, and_false, true_and, false_and, if_true, if_false, nn_eq] at *) <;> (try simp only [sw_or, sw_all, or_false, and_true, i32_lt, i32_le, i32_eq, i32_addw, i32_subw, i32_mulw, Int32.reduceToInt] at *) <;> omega) | (apply_assumption; done)) (by first | exact c1 | exact c6 | exact i7 | assumption | (refine pc_of hP ?_; (repeat (first | assumption | exact md_refl | refine md_up ?_ rfl | refine md_fill ?_ rfl | (unfold ik; refine md_up ?_ rfl))); done) | (refine pc_oS hP ?_; (repeat (first | assumption | exact md_refl | refine md_up ?_ rfl | refine md_fill ?_ rfl | (unfold ik; refine md_up ?_ rfl))); done) | (refine pm_of hP ?_; (repeat (first | assumption | exact md_refl | refine md_up ?_ rfl | refine md_fill ?_ rfl | (unfold ik; refine md_up ?_ rfl))); done) | omega | decide | ((try simp +decide only [b01, b10, b11, am_up, ik, and_true, and_false, true_and, false_and, if_true, if_false, nn_eq] at *) <;> (try simp only [sw_or, sw_all, or_false, and_true, i32_lt, i32_le, i32_eq, i32_addw, i32_subw, i32_mulw, Int32.reduceToInt] at *) <;> omega) | (apply_assumption; done)) (fun e17 => ?_)
    · skip
      refine r_rv d_MA_stepCall_20 ?_
      exact kS e11 _ e17.2
/-- the frame on top ends and gives v, if it gives an int -/
def o_lv (P A : am_S) (v : Int32) : am_S := if fn A = 1 then o_stop (am_up (o_close A) 604 0 v) 2 else if P 6 (fm A (lf A)) = 0 then o_go (o_close A) 3 else o_go (o_push P (o_close A) v) 3
theorem sp_MA_leave {P st0 A : am_S} {v : Int32} {st : am_S} {f : am_S → Prop} (c1 : PC st0 P) (c2 : VP P) (c3 : BV P A) (c4 : 0 < fn A) (c5 : 1 < fn A → ¬ P 6 (fm A (lf A)) = 0 → sD (o_close A) < fhe P (o_close A) (lf (o_close A))) (c6 : QC P st0 A st) (h1 : ∀ q : {q : am_S // QC P st0 (o_lv P A v) q}, f q.1) : wp_MA_leave [.inr (.inl 127), .inl v] st (am_kv f) := by
  refine ⟨⟨rfl, Nat.le_of_ble_eq_true rfl⟩, ?_⟩
  have hPs := pc_oR c1 c6.1
  obtain ⟨t1, t2, t3, t4, -⟩ := RC_tw hPs c2 c3 c6.2 c4
  have e72 : st 72 (st 0 (st 518 0).toNatClampNeg).toNatClampNeg = P 6 (fm A (lf A)) := by rw [t3, hPs.1.2.2.2.2.2.2]
  have bc := BV_close c3 c4
  obtain ⟨n1, n2⟩ := close_n c3 c4
  have kZ : fn A = 1 → ∀ s, QC P st0 (o_close A) s → f (am_up (am_up (am_up (am_up s 521 0 2) 522 0 0) 519 0 0) 522 0 v) := by
    intro e s hsq
    refine h1 ⟨_, md_up (md_up (md_up (md_up hsq.1 rfl) rfl) rfl) rfl, ?_⟩
    unfold o_lv
    rw [if_pos e]
    have hR : RC P s (am_up (o_close A) 604 0 v) ∨ True := Or.inr trivial
    obtain ⟨a1, a2, a3, a4, a5, a6⟩ := hsq.2
    refine ⟨⟨?_, fun q => absurd q (by rw [stop_n]; omega)⟩, fun f hf => absurd hf (by rw [stop_n]; omega), fun f hf => absurd hf (by rw [stop_n]; omega), ?_, ?_, ?_⟩
    · rw [am_up_bank (by decide), am_up_eq]
      rfl
    · rw [am_up_bank (by decide), am_up_bank (by decide), am_up_bank (by decide), am_up_bank (by decide), stop_o (by decide), am_up_bank (by decide)]
      exact a4
    · rw [am_up_bank (by decide), am_up_bank (by decide), am_up_bank (by decide), am_up_bank (by decide)]
      rw [am_up_bank (by decide), am_up_bank (by decide), am_up_bank (by decide), am_up_bank (by decide)]
      rw [stop_o (by decide), stop_o (by decide), am_up_bank (by decide), am_up_bank (by decide)]
      exact a5
    · rw [am_up_bank (by decide), am_up_bank (by decide), am_up_bank (by decide), am_up_eq, am_up_eq]
      refine ⟨rfl, ?_⟩
      have z1 : o_stop (am_up (o_close A) 604 0 v) 2 603 0 = 2 := rfl
      have z2 : o_stop (am_up (o_close A) 604 0 v) 2 604 0 = v := rfl
      rw [z1, z2, if_pos rfl]
  have e519 : ∀ s, QC P st0 (o_close A) s → (s 519 0).toInt = (fn A : Int) - 1 := by
    intro s hsq
    rw [hsq.2.1.1, fn_I n2, n1]
    omega
  have z0 : ∀ s, QC P st0 (o_close A) s → s 519 0 = 0 → fn A = 1 := by
    intro s hsq q
    have := e519 s hsq
    rw [q] at this
    simp only [Int32.reduceToInt] at this
    omega
  have z1 : ∀ s, QC P st0 (o_close A) s → ¬ s 519 0 = 0 → 1 < fn A := by
    intro s hsq q
    have h9 := e519 s hsq
    rw [i32_eq, h9] at q
    simp only [Int32.reduceToInt] at q
    omega
  have kG : 1 < fn A → ∀ B, (P 6 (fm A (lf A)) = 0 ∧ B = o_close A) ∨ (¬ P 6 (fm A (lf A)) = 0 ∧ B = o_push P (o_close A) v) → ∀ s a2, QC P st0 B s → am_AW c_MA_leave g_MA_leave (fun o st' => am_ok none o ∧ am_kv f o st') 42 [some (.inr (.inl 127)), some (.inl v), a2] [] s := by
    intro e B hBB s a2 hsq
    have bB : BV P B ∧ 0 < fn B := by
      rcases hBB with ⟨q, w⟩ | ⟨q, w⟩
      · rw [w]
        exact ⟨bc, by omega⟩
      · rw [w]
        have := push1 (v := v) bc (by omega) (c5 e q)
        exact ⟨this.1, this.2.1⟩
    obtain ⟨w1, w2, -⟩ := RC_tw (pc_oR c1 hsq.1) c2 bB.1 hsq.2 bB.2
    have e1 : s 1 (lf B) = B 2164 (lf B) := (hsq.2.2.1 (lf B) (by unfold lf; omega)).2.1
    have kQ := RC_set (z := B 2164 (lf B) + 3) hsq.2
    have kF : f (am_up s 1 (lf B) (B 2164 (lf B) + 3)) := by
      refine h1 ⟨_, md_up hsq.1 rfl, ?_⟩
      unfold o_lv
      rw [if_neg (by omega)]
      rcases hBB with ⟨q, w⟩ | ⟨q, w⟩
      · rw [if_pos q, ← w]
        exact kQ
      · rw [if_neg q, ← w]
        exact kQ
    have e3 : op_z 184 = 3 := by decide
    rw [← e1, ← w1, ← e3] at kF
    clear h1 kQ
    refine r_al0 (q := 43) d_MA_leave_42 rfl ?_
    refine gt_MA_latest (q := 46) d_MA_leave_43 rfl rfl ?_
    refine r_dupr (q := 47) d_MA_leave_46 rfl ?_
    refine gt_FR_place (q := 50) d_MA_leave_47 rfl (by first | assumption | (refine pc_of hP ?_; (repeat (first | assumption | exact md_refl | refine md_up ?_ rfl | refine md_fill ?_ rfl | (unfold ik; refine md_up ?_ rfl))); done) | (refine pc_oS hP ?_; (repeat (first | assumption | exact md_refl | refine md_up ?_ rfl | refine md_fill ?_ rfl | (unfold ik; refine md_up ?_ rfl))); done) | (refine pm_of hP ?_; (repeat (first | assumption | exact md_refl | refine md_up ?_ rfl | refine md_fill ?_ rfl | (unfold ik; refine md_up ?_ rfl))); done) | omega | decide | ((try simp +decide only [b01, b10, b11, am_up, ik, and_true, and_false, true_and, false_and, if_true, if_false, nn_eq] at *) <;> (try simp only [sw_or, sw_all, or_false, and_true, i32_lt, i32_le, i32_eq, i32_addw, i32_subw, i32_mulw, Int32.reduceToInt] at *) <;> omega) | (apply_assumption; done)) rfl ?_
    refine r_sp (v := 184) (q := 53) d_MA_leave_50 rfl rfl ?_
    refine r_si1 mo_OP_sizeOf d_MA_leave_53 rfl rfl (q := 56) rfl ?_
    refine sp_OP_sizeOf ?_
    refine r_iadd (q := 57) d_MA_leave_56 rfl ?_
    refine pt_FR_place (q := 60) d_MA_leave_57 rfl (by first | assumption | (refine pc_of hP ?_; (repeat (first | assumption | exact md_refl | refine md_up ?_ rfl | refine md_fill ?_ rfl | (unfold ik; refine md_up ?_ rfl))); done) | (refine pc_oS hP ?_; (repeat (first | assumption | exact md_refl | refine md_up ?_ rfl | refine md_fill ?_ rfl | (unfold ik; refine md_up ?_ rfl))); done) | (refine pm_of hP ?_; (repeat (first | assumption | exact md_refl | refine md_up ?_ rfl | refine md_fill ?_ rfl | (unfold ik; refine md_up ?_ rfl))); done) | omega | decide | ((try simp +decide only [b01, b10, b11, am_up, ik, and_true, and_false, true_and, false_and, if_true, if_false, nn_eq] at *) <;> (try simp only [sw_or, sw_all, or_false, and_true, i32_lt, i32_le, i32_eq, i32_addw, i32_subw, i32_mulw, Int32.reduceToInt] at *) <;> omega) | (apply_assumption; done)) rfl ?_
    refine r_rv d_MA_leave_60 ?_
    exact kF
  clear h1
  have k15 : ∀ s r, r = P 6 (fm A (lf A)) → QC P st0 (o_close A) s → am_AW c_MA_leave g_MA_leave (fun o st' => am_ok none o ∧ am_kv f o st') 15 [some (.inr (.inl 127)), some (.inl v), some (.inl r)] [] s := by
    intro s r hr hsq
    subst hr
    have i1 : ¬ s 519 0 = 0 → 0 < fn (o_close A) := fun q => by have := z1 s hsq q; omega
    refine r_al0 (q := 16) d_MA_leave_15 rfl ?_
    refine gt_MA_frameCount (q := 19) d_MA_leave_16 rfl rfl ?_
    refine r_zne (tgt := 33) (q := 22) d_MA_leave_19 rfl rfl (fun e19 => ?_) (fun e19 => ?_)
    · skip
      refine r_il2 (q := 34) d_MA_leave_33 rfl ?_
      refine r_zeq (tgt := 42) (q := 37) d_MA_leave_34 rfl rfl (fun e34 => ?_) (fun e34 => ?_)
      · skip
        first | exact kG (z1 s hsq e19) _ (Or.inl ⟨e34, rfl⟩) s _ hsq | exact kG (z1 s hsq e19) _ (Or.inr ⟨e34, rfl⟩) _ _ e39.2
      · skip
        refine r_al0 (q := 38) d_MA_leave_37 rfl ?_
        refine r_il1 (q := 39) d_MA_leave_38 rfl ?_
        refine r_vv1 mo_MA_push d_MA_leave_39 rfl rfl rfl (q := 42) rfl ?_
        refine sp_MA_push (P := P) (st0 := st0) (A := o_close A) (by first | exact c1 | exact bc | exact i1 e19 | exact c5 (z1 s hsq e19) e34 | exact hsq | assumption | (refine pc_of hP ?_; (repeat (first | assumption | exact md_refl | refine md_up ?_ rfl | refine md_fill ?_ rfl | (unfold ik; refine md_up ?_ rfl))); done) | (refine pc_oS hP ?_; (repeat (first | assumption | exact md_refl | refine md_up ?_ rfl | refine md_fill ?_ rfl | (unfold ik; refine md_up ?_ rfl))); done) | (refine pm_of hP ?_; (repeat (first | assumption | exact md_refl | refine md_up ?_ rfl | refine md_fill ?_ rfl | (unfold ik; refine md_up ?_ rfl))); done) | omega | decide | ((try simp +decide only [b01, b10, b11, am_up, ik, and_true, and_false, true_and, false_and, if_true, if_false, nn_eq] at *) <;> (try simp only [sw_or, sw_all, or_false, and_true, i32_lt, i32_le, i32_eq, i32_addw, i32_subw, i32_mulw, Int32.reduceToInt] at *) <;> omega) | (apply_assumption; done)) (by first | exact c1 | exact bc | exact i1 e19 | exact c5 (z1 s hsq e19) e34 | exact hsq | assumption | (refine pc_of hP ?_; (repeat (first | assumption | exact md_refl | refine md_up ?_ rfl | refine md_fill ?_ rfl | (unfold ik; refine md_up ?_ rfl))); done) | (refine pc_oS hP ?_; (repeat (first | assumption | exact md_refl | refine md_up ?_ rfl | refine md_fill ?_ rfl | (unfold ik; refine md_up ?_ rfl))); done) | (refine pm_of hP ?_; (repeat (first | assumption | exact md_refl | refine md_up ?_ rfl | refine md_fill ?_ rfl | (unfold ik; refine md_up ?_ rfl))); done) | omega | decide | ((try simp +decide only [b01, b10, b11, am_up, ik, and_true, and_false, true_and, false_and, if_true, if_false, nn_eq] at *) <;> (try simp only [sw_or, sw_all, or_false, and_true, i32_lt, i32_le, i32_eq, i32_addw, i32_subw, i32_mulw, Int32.reduceToInt] at *) <;> omega) | (apply_assumption; done)) (by first | exact c1 | exact bc | exact i1 e19 | exact c5 (z1 s hsq e19) e34 | exact hsq | assumption | (refine pc_of hP ?_; (repeat (first | assumption | exact md_refl | refine md_up ?_ rfl | refine md_fill ?_ rfl | (unfold ik; refine md_up ?_ rfl))); done) | (refine pc_oS hP ?_; (repeat (first | assumption | exact md_refl | refine md_up ?_ rfl | refine md_fill ?_ rfl | (unfold ik; refine md_up ?_ rfl))); done) | (refine pm_of hP ?_; (repeat (first | assumption | exact md_refl | refine md_up ?_ rfl | refine md_fill ?_ rfl | (unfold ik; refine md_up ?_ rfl))); done) | omega | decide | ((try simp +decide only [b01, b10, b11, am_up, ik, and_true, and_false, true_and, false_and, if_true, if_false, nn_eq] at *) <;> (try simp only [sw_or, sw_all, or_false, and_true, i32_lt, i32_le, i32_eq, i32_addw, i32_subw, i32_mulw, Int32.reduceToInt] at *) <;> omega) | (apply_assumption; done)) (by first | exact c1 | exact bc | exact i1 e19 | exact c5 (z1 s hsq e19) e34 | exact hsq | assumption | (refine pc_of hP ?_; (repeat (first | assumption | exact md_refl | refine md_up ?_ rfl | refine md_fill ?_ rfl | (unfold ik; refine md_up ?_ rfl))); done) | (refine pc_oS hP ?_; (repeat (first | assumption | exact md_refl | refine md_up ?_ rfl | refine md_fill ?_ rfl | (unfold ik; refine md_up ?_ rfl))); done) | (refine pm_of hP ?_; (repeat (first | assumption | exact md_refl | refine md_up ?_ rfl | refine md_fill ?_ rfl | (unfold ik; refine md_up ?_ rfl))); done) | omega | decide | ((try simp +decide only [b01, b10, b11, am_up, ik, and_true, and_false, true_and, false_and, if_true, if_false, nn_eq] at *) <;> (try simp only [sw_or, sw_all, or_false, and_true, i32_lt, i32_le, i32_eq, i32_addw, i32_subw, i32_mulw, Int32.reduceToInt] at *) <;> omega) | (apply_assumption; done)) (by first | exact c1 | exact bc | exact i1 e19 | exact c5 (z1 s hsq e19) e34 | exact hsq | assumption | (refine pc_of hP ?_; (repeat (first | assumption | exact md_refl | refine md_up ?_ rfl | refine md_fill ?_ rfl | (unfold ik; refine md_up ?_ rfl))); done) | (refine pc_oS hP ?_; (repeat (first | assumption | exact md_refl | refine md_up ?_ rfl | refine md_fill ?_ rfl | (unfold ik; refine md_up ?_ rfl))); done) | (refine pm_of hP ?_; (repeat (first | assumption | exact md_refl | refine md_up ?_ rfl | refine md_fill ?_ rfl | (unfold ik; refine md_up ?_ rfl))); done) | omega | decide | ((try simp +decide only [b01, b10, b11, am_up, ik, and_true, and_false, true_and, false_and, if_true, if_false, nn_eq] at *) <;> (try simp only [sw_or, sw_all, or_false, and_true, i32_lt, i32_le, i32_eq, i32_addw, i32_subw, i32_mulw, Int32.reduceToInt] at *) <;> omega) | (apply_assumption; done)) (by first | exact c1 | exact bc | exact i1 e19 | exact c5 (z1 s hsq e19) e34 | exact hsq | assumption | (refine pc_of hP ?_; (repeat (first | assumption | exact md_refl | refine md_up ?_ rfl | refine md_fill ?_ rfl | (unfold ik; refine md_up ?_ rfl))); done) | (refine pc_oS hP ?_; (repeat (first | assumption | exact md_refl | refine md_up ?_ rfl | refine md_fill ?_ rfl | (unfold ik; refine md_up ?_ rfl))); done) | (refine pm_of hP ?_; (repeat (first | assumption | exact md_refl | refine md_up ?_ rfl | refine md_fill ?_ rfl | (unfold ik; refine md_up ?_ rfl))); done) | omega | decide | ((try simp +decide only [b01, b10, b11, am_up, ik, and_true, and_false, true_and, false_and, if_true, if_false, nn_eq] at *) <;> (try simp only [sw_or, sw_all, or_false, and_true, i32_lt, i32_le, i32_eq, i32_addw, i32_subw, i32_mulw, Int32.reduceToInt] at *) <;> omega) | (apply_assumption; done)) (fun e39 => ?_)
        · skip
          first | exact kG (z1 s hsq e19) _ (Or.inl ⟨e34, rfl⟩) s _ hsq | exact kG (z1 s hsq e19) _ (Or.inr ⟨e34, rfl⟩) _ _ e39.2
    · skip
      refine r_al0 (q := 23) d_MA_leave_22 rfl ?_
      refine r_ic (v := 2) (q := 24) d_MA_leave_23 rfl rfl ?_
      refine r_vv1 mo_MA_end d_MA_leave_24 rfl rfl rfl (q := 27) rfl ?_
      refine sp_MA_end ?_
      refine r_al0 (q := 28) d_MA_leave_27 rfl ?_
      refine r_il1 (q := 29) d_MA_leave_28 rfl ?_
      refine pt_MA_outcome (q := 32) d_MA_leave_29 rfl rfl ?_
      refine r_rv d_MA_leave_32 ?_
      exact kZ (z0 s hsq e19) s hsq
  clear kZ kG z0 z1 e519
  refine r_al0 (q := 1) d_MA_leave_0 rfl ?_
  refine gt_MA_latest (q := 4) d_MA_leave_1 rfl rfl ?_
  refine gt_FR_body (q := 7) d_MA_leave_4 rfl (by first | exact c6 | assumption | (refine pc_of hP ?_; (repeat (first | assumption | exact md_refl | refine md_up ?_ rfl | refine md_fill ?_ rfl | (unfold ik; refine md_up ?_ rfl))); done) | (refine pc_oS hP ?_; (repeat (first | assumption | exact md_refl | refine md_up ?_ rfl | refine md_fill ?_ rfl | (unfold ik; refine md_up ?_ rfl))); done) | (refine pm_of hP ?_; (repeat (first | assumption | exact md_refl | refine md_up ?_ rfl | refine md_fill ?_ rfl | (unfold ik; refine md_up ?_ rfl))); done) | omega | decide | ((try simp +decide only [b01, b10, b11, am_up, ik, and_true, and_false, true_and, false_and, if_true, if_false, nn_eq] at *) <;> (try simp only [sw_or, sw_all, or_false, and_true, i32_lt, i32_le, i32_eq, i32_addw, i32_subw, i32_mulw, Int32.reduceToInt] at *) <;> omega) | (apply_assumption; done)) rfl ?_
  refine gt_ME_givesInt (q := 10) d_MA_leave_7 rfl (by first | exact c6 | assumption | (refine pc_of hP ?_; (repeat (first | assumption | exact md_refl | refine md_up ?_ rfl | refine md_fill ?_ rfl | (unfold ik; refine md_up ?_ rfl))); done) | (refine pc_oS hP ?_; (repeat (first | assumption | exact md_refl | refine md_up ?_ rfl | refine md_fill ?_ rfl | (unfold ik; refine md_up ?_ rfl))); done) | (refine pm_of hP ?_; (repeat (first | assumption | exact md_refl | refine md_up ?_ rfl | refine md_fill ?_ rfl | (unfold ik; refine md_up ?_ rfl))); done) | omega | decide | ((try simp +decide only [b01, b10, b11, am_up, ik, and_true, and_false, true_and, false_and, if_true, if_false, nn_eq] at *) <;> (try simp only [sw_or, sw_all, or_false, and_true, i32_lt, i32_le, i32_eq, i32_addw, i32_subw, i32_mulw, Int32.reduceToInt] at *) <;> omega) | (apply_assumption; done)) rfl ?_
  refine r_is2 (q := 11) d_MA_leave_10 rfl ?_
  refine r_al0 (q := 12) d_MA_leave_11 rfl ?_
  refine r_vv0 mo_MA_closeFrame d_MA_leave_12 rfl rfl rfl (q := 15) rfl ?_
  refine sp_MA_closeFrame (P := P) (st0 := st0) (A := A) (by first | exact c6 | assumption | (refine pc_of hP ?_; (repeat (first | assumption | exact md_refl | refine md_up ?_ rfl | refine md_fill ?_ rfl | (unfold ik; refine md_up ?_ rfl))); done) | (refine pc_oS hP ?_; (repeat (first | assumption | exact md_refl | refine md_up ?_ rfl | refine md_fill ?_ rfl | (unfold ik; refine md_up ?_ rfl))); done) | (refine pm_of hP ?_; (repeat (first | assumption | exact md_refl | refine md_up ?_ rfl | refine md_fill ?_ rfl | (unfold ik; refine md_up ?_ rfl))); done) | omega | decide | ((try simp +decide only [b01, b10, b11, am_up, ik, and_true, and_false, true_and, false_and, if_true, if_false, nn_eq] at *) <;> (try simp only [sw_or, sw_all, or_false, and_true, i32_lt, i32_le, i32_eq, i32_addw, i32_subw, i32_mulw, Int32.reduceToInt] at *) <;> omega) | (apply_assumption; done)) (by first | exact c6 | assumption | (refine pc_of hP ?_; (repeat (first | assumption | exact md_refl | refine md_up ?_ rfl | refine md_fill ?_ rfl | (unfold ik; refine md_up ?_ rfl))); done) | (refine pc_oS hP ?_; (repeat (first | assumption | exact md_refl | refine md_up ?_ rfl | refine md_fill ?_ rfl | (unfold ik; refine md_up ?_ rfl))); done) | (refine pm_of hP ?_; (repeat (first | assumption | exact md_refl | refine md_up ?_ rfl | refine md_fill ?_ rfl | (unfold ik; refine md_up ?_ rfl))); done) | omega | decide | ((try simp +decide only [b01, b10, b11, am_up, ik, and_true, and_false, true_and, false_and, if_true, if_false, nn_eq] at *) <;> (try simp only [sw_or, sw_all, or_false, and_true, i32_lt, i32_le, i32_eq, i32_addw, i32_subw, i32_mulw, Int32.reduceToInt] at *) <;> omega) | (apply_assumption; done)) (by first | exact c6 | assumption | (refine pc_of hP ?_; (repeat (first | assumption | exact md_refl | refine md_up ?_ rfl | refine md_fill ?_ rfl | (unfold ik; refine md_up ?_ rfl))); done) | (refine pc_oS hP ?_; (repeat (first | assumption | exact md_refl | refine md_up ?_ rfl | refine md_fill ?_ rfl | (unfold ik; refine md_up ?_ rfl))); done) | (refine pm_of hP ?_; (repeat (first | assumption | exact md_refl | refine md_up ?_ rfl | refine md_fill ?_ rfl | (unfold ik; refine md_up ?_ rfl))); done) | omega | decide | ((try simp +decide only [b01, b10, b11, am_up, ik, and_true, and_false, true_and, false_and, if_true, if_false, nn_eq] at *) <;> (try simp only [sw_or, sw_all, or_false, and_true, i32_lt, i32_le, i32_eq, i32_addw, i32_subw, i32_mulw, Int32.reduceToInt] at *) <;> omega) | (apply_assumption; done)) (fun e12 => ?_)
  · skip
    exact k15 _ _ e72 e12.2

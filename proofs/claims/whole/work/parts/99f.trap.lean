/-! written by wip/whole/gen/walk.py out of 99f.trap.txt -/
abbrev am_ne (y n : Int32) (K : Int32 → am_S → Prop) (pc : Nat) (a3 : Option am_V) (st : am_S) : Prop := am_AW c_MO_enter g_MO_enter (fun o' st' => am_ok (some .boolean) o' ∧ am_ki K o' st') pc [some (.inr (.inl 128)), some (.inl y), some (.inl n), a3] [] st
theorem lp_MO_ent {y n : Int32} {K : Int32 → am_S → Prop} (hn : 0 ≤ n.toInt) : ∀ (d : Nat) (x : Int32) (st : am_S), 0 ≤ x.toInt → x.toInt + d = (st 608 0).toInt + n.toInt → (st 608 0).toInt + n.toInt ≤ 80 → 0 ≤ (st 608 0).toInt → (∀ a3, am_ne y n K 100 a3 (am_fill st 2162 x.toInt.toNat d 0)) → am_ne y n K 77 (some (.inl x)) st := by
  intro d
  induction d with
  | zero =>
    intro x st c1 c2 c3 c4 h
    have kA := h (some (.inl x))
    rw [am_fill_zero] at kA
    clear h
    refine r_il3 (q := 78) d_MO_enter_77 rfl ?_
    refine r_al0 (q := 79) d_MO_enter_78 rfl ?_
    refine gt_MO_used (q := 82) d_MO_enter_79 rfl rfl ?_
    refine r_il2 (q := 83) d_MO_enter_82 rfl ?_
    refine r_iadd (q := 84) d_MO_enter_83 rfl ?_
    refine r_cge (tgt := 100) (q := 87) d_MO_enter_84 rfl rfl (fun e84 => ?_) (fun e84 => ?_)
    · skip
      first | exact kA | (exfalso; clear kA; ((try simp +decide only [b01, b10, b11, am_up, ik, and_true, and_false, true_and, false_and, if_true, if_false, nn_eq] at *) <;> (try simp only [sw_or, sw_all, or_false, and_true, i32_lt, i32_le, i32_eq, i32_addw, i32_subw, i32_mulw, Int32.reduceToInt] at *) <;> omega))
    · skip
      first | exact kA | (exfalso; clear kA; ((try simp +decide only [b01, b10, b11, am_up, ik, and_true, and_false, true_and, false_and, if_true, if_false, nn_eq] at *) <;> (try simp only [sw_or, sw_all, or_false, and_true, i32_lt, i32_le, i32_eq, i32_addw, i32_subw, i32_mulw, Int32.reduceToInt] at *) <;> omega))
  | succ d ih =>
    intro x st c1 c2 c3 c4 h
    have ei : x.toNatClampNeg = x.toInt.toNat := nn_eq
    have vi : vp_in x 80 := vp_of c1 (by omega)
    have e608 : am_up st 2162 x.toNatClampNeg 0 608 0 = st 608 0 := by rw [am_up_bank (by decide)]
    have ex : (x + 1).toInt = x.toInt + 1 := by
      rw [i32_addw]
      simp only [Int32.reduceToInt]
      omega
    have kA : am_ne y n K 77 (some (.inl (x + 1))) (am_up st 2162 x.toNatClampNeg 0) := by
      refine ih _ _ (by omega) (by rw [e608]; omega) (by rw [e608]; exact c3) (by rw [e608]; exact c4) (fun a3 => ?_)
      have := h a3
      rw [ei, am_fill_step (by omega)]
      exact this
    clear ih h
    refine r_il3 (q := 78) d_MO_enter_77 rfl ?_
    refine r_al0 (q := 79) d_MO_enter_78 rfl ?_
    refine gt_MO_used (q := 82) d_MO_enter_79 rfl rfl ?_
    refine r_il2 (q := 83) d_MO_enter_82 rfl ?_
    refine r_iadd (q := 84) d_MO_enter_83 rfl ?_
    refine r_cge (tgt := 100) (q := 87) d_MO_enter_84 rfl rfl (fun e84 => ?_) (fun e84 => ?_)
    · skip
      first | exact kA | (exfalso; clear kA; ((try simp +decide only [b01, b10, b11, am_up, ik, and_true, and_false, true_and, false_and, if_true, if_false, nn_eq] at *) <;> (try simp only [sw_or, sw_all, or_false, and_true, i32_lt, i32_le, i32_eq, i32_addw, i32_subw, i32_mulw, Int32.reduceToInt] at *) <;> omega))
    · skip
      refine r_al0 (q := 88) d_MO_enter_87 rfl ?_
      refine gt_MO_cell (q := 91) d_MO_enter_88 rfl rfl ?_
      refine r_il3 (q := 92) d_MO_enter_91 rfl ?_
      refine r_ic (v := 0) (q := 93) d_MO_enter_92 rfl rfl ?_
      refine sv_162 (q := 94) d_MO_enter_93 ?_ rfl ?_
      · exact vi
      refine r_in3 (v := 1) (q := 97) d_MO_enter_94 rfl rfl ?_
      refine am_go (tgt := 77) d_MO_enter_97 rfl ?_
      first | exact kA | (exfalso; clear kA; ((try simp +decide only [b01, b10, b11, am_up, ik, and_true, and_false, true_and, false_and, if_true, if_false, nn_eq] at *) <;> (try simp only [sw_or, sw_all, or_false, and_true, i32_lt, i32_le, i32_eq, i32_addw, i32_subw, i32_mulw, Int32.reduceToInt] at *) <;> omega))
theorem sp_MO_enter {P st0 A : am_S} {y : Int32} {st : am_S} {f : Int32 → am_S → Prop} (c1 : PM st0 P) (c2 : VP P) (c3 : BV P A) (c4 : 0 ≤ y.toInt ∧ y.toNatClampNeg < nM P) (c6 : QM st0 A st) (h1 : ∀ q : {q : am_S // (A 608 0).toInt + (ned P y.toNatClampNeg).toInt ≤ 80 ∧ QM st0 (o_open P A y) q}, f 1 q.1) (h2 : ¬ (A 608 0).toInt + (ned P y.toNatClampNeg).toInt ≤ 80 → f 0 st) : wp_MO_enter [.inr (.inl 128), .inl y] st (am_ki f) := by
  refine ⟨⟨rfl, Nat.le_of_ble_eq_true rfl⟩, ?_⟩
  have hPs := pm_oR c1 c6.1
  obtain ⟨v8, -⟩ := mf hPs c2 c4.2
  have vy : vp_in y 8 := vp_of c4.1 (by rw [nn_eq] at v8; omega)
  obtain ⟨d1, d2, d3, d4, d5⟩ := ned_t c2 c4.2
  have hn := fn_I c3.1
  have h80 := BV_fn c3
  have hu0 : 0 ≤ (A 608 0).toInt ∧ (A 608 0).toInt ≤ 80 := by
    have := c3.2.2.1
    by_cases e : fn A = 0
    · rw [if_pos e] at this
      omega
    · rw [if_neg e] at this
      omega
  have eN : st 2146 y.toNatClampNeg + st 2147 y.toNatClampNeg + 1 = ned P y.toNatClampNeg := by
    unfold ned
    rw [hPs.1.2.2.2.2.1, hPs.1.2.2.2.2.2.1]
  have e608 : st 608 0 = A 608 0 := by rw [c6.2 608 rfl]
  have e610 : st 610 0 = A 610 0 := by rw [c6.2 610 rfl]
  have cmp : (st 608 0 + ned P y.toNatClampNeg).toInt = (A 608 0).toInt + (ned P y.toNatClampNeg).toInt := by
    rw [e608, i32_addw]
    omega
  have kN : ¬ st 608 0 + ned P y.toNatClampNeg ≤ 80 → f 0 st := by
    intro q
    rw [i32_le, cmp] at q
    exact h2 q
  have k29 : st 608 0 + ned P y.toNatClampNeg ≤ 80 → am_ne y (ned P y.toNatClampNeg) f 29 none st := by
    intro q
    rw [i32_le, cmp] at q
    simp only [Int32.reduceToInt] at q
    have hfn : fn A < 80 := by
      by_cases e : fn A = 0
      · omega
      · have := (used_ge c3 (show 0 < fn A by omega)).2
        omega
    have vn : vp_in (st 610 0) 80 := vp_of (by rw [e610]; omega) (by rw [e610]; omega)
    have en : (st 610 0).toNatClampNeg = fn A := by rw [e610]; rfl
    have kQ : RM (am_up (am_up (am_fill (am_up (am_up (am_up (am_up st 2163 (fn A) y) 2164 (fn A) 0) 2165 (fn A) 0) 2166 (fn A) (A 608 0)) 2162 (A 608 0).toInt.toNat (ned P y.toNatClampNeg).toInt.toNat 0) 608 0 (A 608 0 + ned P y.toNatClampNeg)) 610 0 (A 610 0 + 1)) (o_open P A y) := RM_up (RM_up (RM_fill (RM_up (RM_up (RM_up (RM_up c6.2))))))
    have kF := h1 ⟨_, q, md_up (md_up (md_fill (md_up (md_up (md_up (md_up c6.1 rfl) rfl) rfl) rfl) rfl) rfl) rfl, kQ⟩
    simp only at kF
    rw [← e608, ← e610, ← en] at kF
    have kL := @lp_MO_ent y (ned P y.toNatClampNeg) f (by omega) (ned P y.toNatClampNeg).toInt.toNat (st 608 0) (am_up (am_up (am_up (am_up st 2163 (st 610 0).toNatClampNeg y) 2164 (st 610 0).toNatClampNeg 0) 2165 (st 610 0).toNatClampNeg 0) 2166 (st 610 0).toNatClampNeg (st 608 0)) (by rw [e608]; omega) (by rw [am_up_bank (by decide), am_up_bank (by decide), am_up_bank (by decide), am_up_bank (by decide), e608]; omega) (by rw [am_up_bank (by decide), am_up_bank (by decide), am_up_bank (by decide), am_up_bank (by decide), e608]; omega) (by rw [am_up_bank (by decide), am_up_bank (by decide), am_up_bank (by decide), am_up_bank (by decide), e608]; omega) (fun a3 => by
      refine r_al0 (q := 101) d_MO_enter_100 rfl ?_
      refine r_dupr (q := 102) d_MO_enter_101 rfl ?_
      refine gt_MO_used (q := 105) d_MO_enter_102 rfl rfl ?_
      refine r_il2 (q := 106) d_MO_enter_105 rfl ?_
      refine r_iadd (q := 107) d_MO_enter_106 rfl ?_
      refine pt_MO_used (q := 110) d_MO_enter_107 rfl rfl ?_
      refine r_al0 (q := 111) d_MO_enter_110 rfl ?_
      refine r_dupr (q := 112) d_MO_enter_111 rfl ?_
      refine gt_MO_frames (q := 115) d_MO_enter_112 rfl rfl ?_
      refine r_ic (v := 1) (q := 116) d_MO_enter_115 rfl rfl ?_
      refine r_iadd (q := 117) d_MO_enter_116 rfl ?_
      refine pt_MO_frames (q := 120) d_MO_enter_117 rfl rfl ?_
      refine r_ic (v := 1) (q := 121) d_MO_enter_120 rfl rfl ?_
      refine r_rz d_MO_enter_121 (Or.inr rfl) ?_
      exact kF)
    clear kF kQ h1 h2
    refine r_al0 (q := 30) d_MO_enter_29 rfl ?_
    refine gt_MO_frameMethod (q := 33) d_MO_enter_30 rfl rfl ?_
    refine r_al0 (q := 34) d_MO_enter_33 rfl ?_
    refine gt_MO_frames (q := 37) d_MO_enter_34 rfl rfl ?_
    refine r_il1 (q := 38) d_MO_enter_37 rfl ?_
    refine sv_163 (q := 39) d_MO_enter_38 ?_ rfl ?_
    · exact vn
    refine r_al0 (q := 40) d_MO_enter_39 rfl ?_
    refine gt_MO_framePlace (q := 43) d_MO_enter_40 rfl rfl ?_
    refine r_al0 (q := 44) d_MO_enter_43 rfl ?_
    refine gt_MO_frames (q := 47) d_MO_enter_44 rfl rfl ?_
    refine r_ic (v := 0) (q := 48) d_MO_enter_47 rfl rfl ?_
    refine sv_164 (q := 49) d_MO_enter_48 ?_ rfl ?_
    · exact vn
    refine r_al0 (q := 50) d_MO_enter_49 rfl ?_
    refine gt_MO_frameTop (q := 53) d_MO_enter_50 rfl rfl ?_
    refine r_al0 (q := 54) d_MO_enter_53 rfl ?_
    refine gt_MO_frames (q := 57) d_MO_enter_54 rfl rfl ?_
    refine r_ic (v := 0) (q := 58) d_MO_enter_57 rfl rfl ?_
    refine sv_165 (q := 59) d_MO_enter_58 ?_ rfl ?_
    · exact vn
    refine r_al0 (q := 60) d_MO_enter_59 rfl ?_
    refine gt_MO_frameBase (q := 63) d_MO_enter_60 rfl rfl ?_
    refine r_al0 (q := 64) d_MO_enter_63 rfl ?_
    refine gt_MO_frames (q := 67) d_MO_enter_64 rfl rfl ?_
    refine r_al0 (q := 68) d_MO_enter_67 rfl ?_
    refine gt_MO_used (q := 71) d_MO_enter_68 rfl rfl ?_
    refine sv_166 (q := 72) d_MO_enter_71 ?_ rfl ?_
    · exact vn
    refine r_al0 (q := 73) d_MO_enter_72 rfl ?_
    refine gt_MO_used (q := 76) d_MO_enter_73 rfl rfl ?_
    refine r_is3 (q := 77) d_MO_enter_76 rfl ?_
    exact kL
  have kS : ∀ n, n = ned P y.toNatClampNeg → am_ne y n f 16 none st := by
    intro n hne
    subst hne
    clear h1 h2
    refine r_al0 (q := 17) d_MO_enter_16 rfl ?_
    refine gt_MO_used (q := 20) d_MO_enter_17 rfl rfl ?_
    refine r_il2 (q := 21) d_MO_enter_20 rfl ?_
    refine r_iadd (q := 22) d_MO_enter_21 rfl ?_
    refine r_bp (v := 80) (q := 24) d_MO_enter_22 rfl rfl ?_
    refine r_cle (tgt := 29) (q := 27) d_MO_enter_24 rfl rfl (fun e24 => ?_) (fun e24 => ?_)
    · skip
      exact k29 e24
    · skip
      refine r_ic (v := 0) (q := 28) d_MO_enter_27 rfl rfl ?_
      refine r_rz d_MO_enter_28 (by first | assumption | (refine pc_of hP ?_; (repeat (first | assumption | exact md_refl | refine md_up ?_ rfl | refine md_fill ?_ rfl | (unfold ik; refine md_up ?_ rfl))); done) | (refine pc_oS hP ?_; (repeat (first | assumption | exact md_refl | refine md_up ?_ rfl | refine md_fill ?_ rfl | (unfold ik; refine md_up ?_ rfl))); done) | (refine pm_of hP ?_; (repeat (first | assumption | exact md_refl | refine md_up ?_ rfl | refine md_fill ?_ rfl | (unfold ik; refine md_up ?_ rfl))); done) | omega | decide | ((try simp +decide only [b01, b10, b11, am_up, ik, and_true, and_false, true_and, false_and, if_true, if_false, nn_eq] at *) <;> (try simp only [sw_or, sw_all, or_false, and_true, i32_lt, i32_le, i32_eq, i32_addw, i32_subw, i32_mulw, Int32.reduceToInt] at *) <;> omega) | (apply_assumption; done)) ?_
      exact kN e24
  clear h1 h2 k29 kN
  refine r_al0 (q := 1) d_MO_enter_0 rfl ?_
  refine gt_MO_locals (q := 4) d_MO_enter_1 rfl rfl ?_
  refine r_il1 (q := 5) d_MO_enter_4 rfl ?_
  refine ld_146 (q := 6) d_MO_enter_5 ?_ rfl ?_
  · exact vy
  refine r_al0 (q := 7) d_MO_enter_6 rfl ?_
  refine gt_MO_height (q := 10) d_MO_enter_7 rfl rfl ?_
  refine r_il1 (q := 11) d_MO_enter_10 rfl ?_
  refine ld_147 (q := 12) d_MO_enter_11 ?_ rfl ?_
  · exact vy
  refine r_iadd (q := 13) d_MO_enter_12 rfl ?_
  refine r_ic (v := 1) (q := 14) d_MO_enter_13 rfl rfl ?_
  refine r_iadd (q := 15) d_MO_enter_14 rfl ?_
  refine r_is2 (q := 16) d_MO_enter_15 rfl ?_
  exact kS _ eN
-- handlers
def fhR (P : am_S) (m : Nat) (p k : Int32) : Nat → Nat → Int32
  | 0, _ => -1
  | d + 1, j => if (P 8 (4 * m + j) ≤ p ∧ p < P 9 (4 * m + j)) ∧ (P 11 (4 * m + j) = 0 ∨ P 11 (4 * m + j) = k) then P 10 (4 * m + j) else fhR P m p k d (j + 1)
def fhT (P : am_S) (m : Nat) (p k : Int32) : Int32 := fhR P m p k (P 7 m).toInt.toNat 0
theorem lp_ME_ft {P st : am_S} {m : Nat} {p k : Int32} {f : Int32 → am_S → Prop} (hP : PC st P) (hV : VP P) (hm : m < nM P) : ∀ (d j : Nat) (x : Int32) (a4 : Option am_V), j + d = (P 7 m).toInt.toNat → x.toInt = (j : Int) → f (fhR P m p k d j) st → am_AW c_ME_findTarget g_ME_findTarget (fun o st' => am_ok (some .int) o ∧ am_ki f o st') 2 [some (.inr (.inl (m + 80))), some (.inl p), some (.inl k), some (.inl x), a4] [] st := by
  intro d
  obtain ⟨v8, -, -, ⟨-, v1, v2⟩, -⟩ := cf hP hV hm
  have hc : (P 7 m).toInt = (st 66 m).toInt := by rw [hP.2.1]
  induction d with
  | zero =>
    intro j x a4 k1 k2 h
    unfold fhR at h
    refine r_il3 (q := 3) d_ME_findTarget_2 rfl ?_
    refine r_al0 (q := 4) d_ME_findTarget_3 rfl ?_
    refine gt_ME_handlerCount (q := 7) d_ME_findTarget_4 rfl (by first | assumption | (refine pc_of hP ?_; (repeat (first | assumption | exact md_refl | refine md_up ?_ rfl | refine md_fill ?_ rfl | (unfold ik; refine md_up ?_ rfl))); done) | (refine pc_oS hP ?_; (repeat (first | assumption | exact md_refl | refine md_up ?_ rfl | refine md_fill ?_ rfl | (unfold ik; refine md_up ?_ rfl))); done) | (refine pm_of hP ?_; (repeat (first | assumption | exact md_refl | refine md_up ?_ rfl | refine md_fill ?_ rfl | (unfold ik; refine md_up ?_ rfl))); done) | omega | decide | ((try simp +decide only [b01, b10, b11, am_up, ik, and_true, and_false, true_and, false_and, if_true, if_false, nn_eq] at *) <;> (try simp only [sw_or, sw_all, or_false, and_true, i32_lt, i32_le, i32_eq, i32_addw, i32_subw, i32_mulw, Int32.reduceToInt] at *) <;> omega) | (apply_assumption; done)) rfl ?_
    refine r_cge (tgt := 56) (q := 10) d_ME_findTarget_7 rfl rfl (fun e7 => ?_) (fun e7 => ?_)
    · skip
      refine r_ic (v := -1) (q := 57) d_ME_findTarget_56 rfl rfl ?_
      refine r_ri d_ME_findTarget_57 ?_
      exact h
    · skip
      exfalso; clear h hP hV; ((try simp +decide only [b01, b10, b11, am_up, ik, and_true, and_false, true_and, false_and, if_true, if_false, nn_eq] at *) <;> (try simp only [sw_or, sw_all, or_false, and_true, i32_lt, i32_le, i32_eq, i32_addw, i32_subw, i32_mulw, Int32.reduceToInt] at *) <;> omega)
  | succ d ih =>
    intro j x a4 k1 k2 h
    have hx4 : 4 * m + x.toNatClampNeg = 4 * m + j := by rw [nn_eq]; omega
    have h32 : 4 * m + x.toNatClampNeg < 32 := by omega
    have vx : vp_in x 4 := vp_of (by omega) (by omega)
    unfold fhR at h
    rw [← hP.2.2.1, ← hP.2.2.2.1, ← hP.2.2.2.2.1, ← hP.2.2.2.2.2.1, ← hx4] at h
    have kT : (st 128 (4 * m + x.toNatClampNeg) ≤ p ∧ p < st 129 (4 * m + x.toNatClampNeg)) → (st 131 (4 * m + x.toNatClampNeg) = 0 ∨ st 131 (4 * m + x.toNatClampNeg) = k) → f (st 130 (4 * m + x.toNatClampNeg)) st := by
      intro q1 q2
      rw [if_pos ⟨q1, q2⟩] at h
      exact h
    have kN : ¬ ((st 128 (4 * m + x.toNatClampNeg) ≤ p ∧ p < st 129 (4 * m + x.toNatClampNeg)) ∧ (st 131 (4 * m + x.toNatClampNeg) = 0 ∨ st 131 (4 * m + x.toNatClampNeg) = k)) → ∀ a4', am_AW c_ME_findTarget g_ME_findTarget (fun o st' => am_ok (some .int) o ∧ am_ki f o st') 2 [some (.inr (.inl (m + 80))), some (.inl p), some (.inl k), some (.inl (x + 1)), a4'] [] st := by
      intro q a4'
      rw [if_neg q] at h
      exact ih (j + 1) _ a4' (by omega) (by rw [i32_addw]; simp only [Int32.reduceToInt]; omega) h
    clear ih h
    refine r_il3 (q := 3) d_ME_findTarget_2 rfl ?_
    refine r_al0 (q := 4) d_ME_findTarget_3 rfl ?_
    refine gt_ME_handlerCount (q := 7) d_ME_findTarget_4 rfl (by first | assumption | (refine pc_of hP ?_; (repeat (first | assumption | exact md_refl | refine md_up ?_ rfl | refine md_fill ?_ rfl | (unfold ik; refine md_up ?_ rfl))); done) | (refine pc_oS hP ?_; (repeat (first | assumption | exact md_refl | refine md_up ?_ rfl | refine md_fill ?_ rfl | (unfold ik; refine md_up ?_ rfl))); done) | (refine pm_of hP ?_; (repeat (first | assumption | exact md_refl | refine md_up ?_ rfl | refine md_fill ?_ rfl | (unfold ik; refine md_up ?_ rfl))); done) | omega | decide | ((try simp +decide only [b01, b10, b11, am_up, ik, and_true, and_false, true_and, false_and, if_true, if_false, nn_eq] at *) <;> (try simp only [sw_or, sw_all, or_false, and_true, i32_lt, i32_le, i32_eq, i32_addw, i32_subw, i32_mulw, Int32.reduceToInt] at *) <;> omega) | (apply_assumption; done)) rfl ?_
    refine r_cge (tgt := 56) (q := 10) d_ME_findTarget_7 rfl rfl (fun e7 => ?_) (fun e7 => ?_)
    · skip
      first | exact kN (fun q => e21 q.1) _ | exact kN (fun q => q.2.elim e32 e41) _ | (exfalso; clear kT kN hP hV; ((try simp +decide only [b01, b10, b11, am_up, ik, and_true, and_false, true_and, false_and, if_true, if_false, nn_eq] at *) <;> (try simp only [sw_or, sw_all, or_false, and_true, i32_lt, i32_le, i32_eq, i32_addw, i32_subw, i32_mulw, Int32.reduceToInt] at *) <;> omega))
    · skip
      refine r_al0 (q := 11) d_ME_findTarget_10 rfl ?_
      refine gt_ME_handlers (q := 14) d_ME_findTarget_11 rfl (by first | assumption | (refine pc_of hP ?_; (repeat (first | assumption | exact md_refl | refine md_up ?_ rfl | refine md_fill ?_ rfl | (unfold ik; refine md_up ?_ rfl))); done) | (refine pc_oS hP ?_; (repeat (first | assumption | exact md_refl | refine md_up ?_ rfl | refine md_fill ?_ rfl | (unfold ik; refine md_up ?_ rfl))); done) | (refine pm_of hP ?_; (repeat (first | assumption | exact md_refl | refine md_up ?_ rfl | refine md_fill ?_ rfl | (unfold ik; refine md_up ?_ rfl))); done) | omega | decide | ((try simp +decide only [b01, b10, b11, am_up, ik, and_true, and_false, true_and, false_and, if_true, if_false, nn_eq] at *) <;> (try simp only [sw_or, sw_all, or_false, and_true, i32_lt, i32_le, i32_eq, i32_addw, i32_subw, i32_mulw, Int32.reduceToInt] at *) <;> omega) | (apply_assumption; done)) rfl ?_
      refine r_il3 (q := 15) d_ME_findTarget_14 rfl ?_
      refine ld_HA (by first | assumption | (refine pc_of hP ?_; (repeat (first | assumption | exact md_refl | refine md_up ?_ rfl | refine md_fill ?_ rfl | (unfold ik; refine md_up ?_ rfl))); done) | (refine pc_oS hP ?_; (repeat (first | assumption | exact md_refl | refine md_up ?_ rfl | refine md_fill ?_ rfl | (unfold ik; refine md_up ?_ rfl))); done) | (refine pm_of hP ?_; (repeat (first | assumption | exact md_refl | refine md_up ?_ rfl | refine md_fill ?_ rfl | (unfold ik; refine md_up ?_ rfl))); done) | omega | decide | ((try simp +decide only [b01, b10, b11, am_up, ik, and_true, and_false, true_and, false_and, if_true, if_false, nn_eq] at *) <;> (try simp only [sw_or, sw_all, or_false, and_true, i32_lt, i32_le, i32_eq, i32_addw, i32_subw, i32_mulw, Int32.reduceToInt] at *) <;> omega) | (apply_assumption; done)) (q := 16) d_ME_findTarget_15 ?_ rfl ?_
      · exact vx
      refine r_as4 (q := 18) d_ME_findTarget_16 rfl ?_
      refine r_al4 (q := 20) d_ME_findTarget_18 rfl ?_
      refine r_il1 (q := 21) d_ME_findTarget_20 rfl ?_
      refine r_vi1 mo_HA_covers d_ME_findTarget_21 rfl (r_kH (by first | assumption | (refine pc_of hP ?_; (repeat (first | assumption | exact md_refl | refine md_up ?_ rfl | refine md_fill ?_ rfl | (unfold ik; refine md_up ?_ rfl))); done) | (refine pc_oS hP ?_; (repeat (first | assumption | exact md_refl | refine md_up ?_ rfl | refine md_fill ?_ rfl | (unfold ik; refine md_up ?_ rfl))); done) | (refine pm_of hP ?_; (repeat (first | assumption | exact md_refl | refine md_up ?_ rfl | refine md_fill ?_ rfl | (unfold ik; refine md_up ?_ rfl))); done) | omega | decide | ((try simp +decide only [b01, b10, b11, am_up, ik, and_true, and_false, true_and, false_and, if_true, if_false, nn_eq] at *) <;> (try simp only [sw_or, sw_all, or_false, and_true, i32_lt, i32_le, i32_eq, i32_addw, i32_subw, i32_mulw, Int32.reduceToInt] at *) <;> omega) | (apply_assumption; done))) rfl (q := 24) rfl ?_
      refine sq_HA_covers (by first | assumption | (refine pc_of hP ?_; (repeat (first | assumption | exact md_refl | refine md_up ?_ rfl | refine md_fill ?_ rfl | (unfold ik; refine md_up ?_ rfl))); done) | (refine pc_oS hP ?_; (repeat (first | assumption | exact md_refl | refine md_up ?_ rfl | refine md_fill ?_ rfl | (unfold ik; refine md_up ?_ rfl))); done) | (refine pm_of hP ?_; (repeat (first | assumption | exact md_refl | refine md_up ?_ rfl | refine md_fill ?_ rfl | (unfold ik; refine md_up ?_ rfl))); done) | omega | decide | ((try simp +decide only [b01, b10, b11, am_up, ik, and_true, and_false, true_and, false_and, if_true, if_false, nn_eq] at *) <;> (try simp only [sw_or, sw_all, or_false, and_true, i32_lt, i32_le, i32_eq, i32_addw, i32_subw, i32_mulw, Int32.reduceToInt] at *) <;> omega) | (apply_assumption; done)) (fun e21 => ?_) (fun e21 => ?_)
      · skip
        refine r_zeq (tgt := 50) (q := 27) d_ME_findTarget_24 rfl rfl (fun e24 => by exfalso; revert e24; decide) (fun e24 => ?_)
        refine r_al4 (q := 29) d_ME_findTarget_27 rfl ?_
        refine gt_HA_kind (q := 32) d_ME_findTarget_29 rfl (by first | assumption | (refine pc_of hP ?_; (repeat (first | assumption | exact md_refl | refine md_up ?_ rfl | refine md_fill ?_ rfl | (unfold ik; refine md_up ?_ rfl))); done) | (refine pc_oS hP ?_; (repeat (first | assumption | exact md_refl | refine md_up ?_ rfl | refine md_fill ?_ rfl | (unfold ik; refine md_up ?_ rfl))); done) | (refine pm_of hP ?_; (repeat (first | assumption | exact md_refl | refine md_up ?_ rfl | refine md_fill ?_ rfl | (unfold ik; refine md_up ?_ rfl))); done) | omega | decide | ((try simp +decide only [b01, b10, b11, am_up, ik, and_true, and_false, true_and, false_and, if_true, if_false, nn_eq] at *) <;> (try simp only [sw_or, sw_all, or_false, and_true, i32_lt, i32_le, i32_eq, i32_addw, i32_subw, i32_mulw, Int32.reduceToInt] at *) <;> omega) | (apply_assumption; done)) rfl ?_
        refine r_zeq (tgt := 44) (q := 35) d_ME_findTarget_32 rfl rfl (fun e32 => ?_) (fun e32 => ?_)
        · skip
          refine r_al4 (q := 46) d_ME_findTarget_44 rfl ?_
          refine gt_HA_target (q := 49) d_ME_findTarget_46 rfl (by first | assumption | (refine pc_of hP ?_; (repeat (first | assumption | exact md_refl | refine md_up ?_ rfl | refine md_fill ?_ rfl | (unfold ik; refine md_up ?_ rfl))); done) | (refine pc_oS hP ?_; (repeat (first | assumption | exact md_refl | refine md_up ?_ rfl | refine md_fill ?_ rfl | (unfold ik; refine md_up ?_ rfl))); done) | (refine pm_of hP ?_; (repeat (first | assumption | exact md_refl | refine md_up ?_ rfl | refine md_fill ?_ rfl | (unfold ik; refine md_up ?_ rfl))); done) | omega | decide | ((try simp +decide only [b01, b10, b11, am_up, ik, and_true, and_false, true_and, false_and, if_true, if_false, nn_eq] at *) <;> (try simp only [sw_or, sw_all, or_false, and_true, i32_lt, i32_le, i32_eq, i32_addw, i32_subw, i32_mulw, Int32.reduceToInt] at *) <;> omega) | (apply_assumption; done)) rfl ?_
          refine r_ri d_ME_findTarget_49 ?_
          first | exact kT e21 (Or.inl e32) | exact kT e21 (Or.inr e41)
        · skip
          refine r_al4 (q := 37) d_ME_findTarget_35 rfl ?_
          refine gt_HA_kind (q := 40) d_ME_findTarget_37 rfl (by first | assumption | (refine pc_of hP ?_; (repeat (first | assumption | exact md_refl | refine md_up ?_ rfl | refine md_fill ?_ rfl | (unfold ik; refine md_up ?_ rfl))); done) | (refine pc_oS hP ?_; (repeat (first | assumption | exact md_refl | refine md_up ?_ rfl | refine md_fill ?_ rfl | (unfold ik; refine md_up ?_ rfl))); done) | (refine pm_of hP ?_; (repeat (first | assumption | exact md_refl | refine md_up ?_ rfl | refine md_fill ?_ rfl | (unfold ik; refine md_up ?_ rfl))); done) | omega | decide | ((try simp +decide only [b01, b10, b11, am_up, ik, and_true, and_false, true_and, false_and, if_true, if_false, nn_eq] at *) <;> (try simp only [sw_or, sw_all, or_false, and_true, i32_lt, i32_le, i32_eq, i32_addw, i32_subw, i32_mulw, Int32.reduceToInt] at *) <;> omega) | (apply_assumption; done)) rfl ?_
          refine r_il2 (q := 41) d_ME_findTarget_40 rfl ?_
          refine r_cne (tgt := 50) (q := 44) d_ME_findTarget_41 rfl rfl (fun e41 => ?_) (fun e41 => ?_)
          · skip
            refine r_in3 (v := 1) (q := 53) d_ME_findTarget_50 rfl rfl ?_
            refine am_go (tgt := 2) d_ME_findTarget_53 rfl ?_
            first | exact kN (fun q => e21 q.1) _ | exact kN (fun q => q.2.elim e32 e41) _ | (exfalso; clear kT kN hP hV; ((try simp +decide only [b01, b10, b11, am_up, ik, and_true, and_false, true_and, false_and, if_true, if_false, nn_eq] at *) <;> (try simp only [sw_or, sw_all, or_false, and_true, i32_lt, i32_le, i32_eq, i32_addw, i32_subw, i32_mulw, Int32.reduceToInt] at *) <;> omega))
          · skip
            refine r_al4 (q := 46) d_ME_findTarget_44 rfl ?_
            refine gt_HA_target (q := 49) d_ME_findTarget_46 rfl (by first | assumption | (refine pc_of hP ?_; (repeat (first | assumption | exact md_refl | refine md_up ?_ rfl | refine md_fill ?_ rfl | (unfold ik; refine md_up ?_ rfl))); done) | (refine pc_oS hP ?_; (repeat (first | assumption | exact md_refl | refine md_up ?_ rfl | refine md_fill ?_ rfl | (unfold ik; refine md_up ?_ rfl))); done) | (refine pm_of hP ?_; (repeat (first | assumption | exact md_refl | refine md_up ?_ rfl | refine md_fill ?_ rfl | (unfold ik; refine md_up ?_ rfl))); done) | omega | decide | ((try simp +decide only [b01, b10, b11, am_up, ik, and_true, and_false, true_and, false_and, if_true, if_false, nn_eq] at *) <;> (try simp only [sw_or, sw_all, or_false, and_true, i32_lt, i32_le, i32_eq, i32_addw, i32_subw, i32_mulw, Int32.reduceToInt] at *) <;> omega) | (apply_assumption; done)) rfl ?_
            refine r_ri d_ME_findTarget_49 ?_
            first | exact kT e21 (Or.inl e32) | exact kT e21 (Or.inr e41)
      · skip
        refine r_zeq (tgt := 50) (q := 27) d_ME_findTarget_24 rfl rfl (fun e24 => ?_) (fun e24 => by exfalso; revert e24; decide)
        refine r_in3 (v := 1) (q := 53) d_ME_findTarget_50 rfl rfl ?_
        refine am_go (tgt := 2) d_ME_findTarget_53 rfl ?_
        first | exact kN (fun q => e21 q.1) _ | exact kN (fun q => q.2.elim e32 e41) _ | (exfalso; clear kT kN hP hV; ((try simp +decide only [b01, b10, b11, am_up, ik, and_true, and_false, true_and, false_and, if_true, if_false, nn_eq] at *) <;> (try simp only [sw_or, sw_all, or_false, and_true, i32_lt, i32_le, i32_eq, i32_addw, i32_subw, i32_mulw, Int32.reduceToInt] at *) <;> omega))
theorem sp_ME_findTarget {P : am_S} {m : Nat} {p k : Int32} {st : am_S} {f : Int32 → am_S → Prop} (c1 : PC st P) (c2 : VP P) (c3 : m < nM P) (h : f (fhT P m p k) st) : wp_ME_findTarget [.inr (.inl (m + 80)), .inl p, .inl k] st (am_ki f) := by
  refine ⟨⟨rfl, Nat.le_of_ble_eq_true rfl⟩, ?_⟩
  refine r_ic (v := 0) (q := 1) d_ME_findTarget_0 rfl rfl ?_
  refine r_is3 (q := 2) d_ME_findTarget_1 rfl ?_
  exact lp_ME_ft c1 c2 c3 _ 0 _ _ (Nat.zero_add _) (by decide) h
theorem fhR_ok {P : am_S} {m : Nat} {p k : Int32} : ∀ (d j : Nat), j + d = (P 7 m).toInt.toNat → (¬ fhR P m p k d j = -1) → ∃ i, i < (P 7 m).toInt.toNat ∧ (P 8 (4 * m + i) ≤ p ∧ p < P 9 (4 * m + i)) ∧ fhR P m p k d j = P 10 (4 * m + i) := by
  intro d
  induction d with
  | zero =>
    intro j h1 h2
    exact absurd rfl h2
  | succ d ih =>
    intro j h1 h2
    unfold fhR at h2 ⊢
    split at h2
    · rename_i e
      rw [if_pos e]
      exact ⟨j, by omega, e.1, rfl⟩
    · rename_i e
      rw [if_neg e]
      exact ih (j + 1) (by omega) h2

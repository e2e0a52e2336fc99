/-! written by wip/whole/gen/walk.py out of 99yj.mstart2.txt -/
def o_clm (A : am_S) : am_S := am_fill (am_up (am_up (am_up (am_up A 610 0 0) 608 0 0) 606 0 0) 604 0 0) 2160 0 8 0
theorem fill_up {A : am_S} {b b' i i' n : Nat} {v v' : Int32} (h : ¬ b = b') : am_fill (am_up A b i v) b' i' n v' = am_up (am_fill A b' i' n v') b i v := by
  funext c j
  unfold am_fill am_up
  by_cases e : c = b
  · have e' : ¬ c = b' := fun w => h (e.symm.trans w)
    simp only [e', false_and, if_false]
  · simp only [e, false_and, if_false]
theorem clm_clr {A : am_S} : o_clr A = am_up (o_clm A) 603 0 1 := by
  unfold o_clr o_clm
  rw [fill_up (by decide), fill_up (by decide), fill_up (by decide), fill_up (by decide)]
  rw [up_comm (b := 603) (b' := 604) (by decide), up_comm (b := 603) (b' := 606) (by decide), up_comm (b := 603) (b' := 608) (by decide), up_comm (b := 603) (b' := 610) (by decide)]
  congr 1
  generalize am_fill A 2160 0 8 0 = E
  rw [up_comm (b := 604) (b' := 606) (by decide), up_comm (b := 604) (b' := 608) (by decide), up_comm (b := 604) (b' := 610) (by decide)]
  congr 1
  rw [up_comm (b := 606) (b' := 608) (by decide), up_comm (b := 606) (b' := 610) (by decide)]
  congr 1
  exact up_comm (by decide)
theorem open_603 {P A : am_S} {y v : Int32} : o_open P (am_up A 603 0 v) y = am_up (o_open P A y) 603 0 v := by
  have e1 : am_up A 603 0 v 608 0 = A 608 0 := rfl
  have e2 : fn (am_up A 603 0 v) = fn A := rfl
  have e3 : am_up A 603 0 v 610 0 = A 610 0 := rfl
  unfold o_open
  rw [e1, e2, e3]
  rw [up_comm (b := 603) (b' := 2163) (by decide), up_comm (b := 603) (b' := 2164) (by decide), up_comm (b := 603) (b' := 2165) (by decide), up_comm (b := 603) (b' := 2166) (by decide), fill_up (by decide), up_comm (b := 603) (b' := 608) (by decide), up_comm (b := 603) (b' := 610) (by decide)]
theorem giv_603 {E : am_S} {G : Nat → Int32} {n : Nat} {v : Int32} : o_giv (am_up E 603 0 v) G n = am_up (o_giv E G n) 603 0 v := by
  funext b i
  unfold o_giv am_up
  by_cases e : b = 603
  · have e' : ¬ b = 2162 := by omega
    simp only [e', false_and, if_false]
  · simp only [e, false_and, if_false]
theorem BV_clm {P A : am_S} : BV P (o_clm A) := by
  have e : o_clm A 610 0 = 0 := rfl
  have e0 : fn (o_clm A) = 0 := rfl
  have e8 : o_clm A 608 0 = 0 := rfl
  refine ⟨by rw [e]; decide, fun f hf => absurd hf (by rw [e0]; omega), ⟨?_, by rw [e8]; decide⟩, fun hf => absurd hf (by rw [e0]; omega)⟩
  rw [e0, if_pos rfl, e8]
  rfl
theorem sq_MO_start {P A : am_S} {y : Int32} {st : am_S} {f : Int32 → am_S → Prop} (c1 : PM st P) (c2 : VP P) (c3 : RM st A) (h1 : (0 ≤ y.toInt ∧ y.toNatClampNeg < nM P) ∧ P 3 y.toNatClampNeg = st 601 0 → ¬ st 591 0 = 0 → ∀ q : {q : am_S // am_md mR (am_up st 576 0 0) q ∧ RM q (o_beg P A y.toNatClampNeg (st 2159))}, f 1 (am_up q.1 601 0 0)) (h2 : ¬ ((0 ≤ y.toInt ∧ y.toNatClampNeg < nM P) ∧ P 3 y.toNatClampNeg = st 601 0) → f 0 (am_up st 576 0 1)) (h3 : (0 ≤ y.toInt ∧ y.toNatClampNeg < nM P) ∧ P 3 y.toNatClampNeg = st 601 0 → st 591 0 = 0 → f 0 (am_up st 576 0 2)) : wp_MO_start [.inr (.inl 128), .inl y] st (am_ki f) := by
  refine ⟨⟨rfl, Nat.le_of_ble_eq_true rfl⟩, ?_⟩
  have e579 : st 579 0 = P 12 0 := by rw [c1.2.2.2.2.2.2.1]
  have b12 := c2.1
  have hm : 0 ≤ y ∧ y ≤ st 579 0 - 1 ↔ (0 ≤ y.toInt ∧ y.toNatClampNeg < nM P) := by
    rw [i32_le, i32_le, i32_subw, e579, nn_eq]
    simp only [Int32.reduceToInt]
    unfold nM
    omega
  have e2145 : st 2145 y.toNatClampNeg = P 3 y.toNatClampNeg := by rw [c1.1.2.2.2.1]
  have v8 : 0 ≤ y ∧ y ≤ st 579 0 - 1 → vp_in y 8 := by
    intro w
    have w' := hm.mp w
    have h8 : y.toNatClampNeg < 8 := by unfold nM at w'; omega
    refine vp_of w'.1 ?_
    rw [nn_eq] at h8
    omega
  have k56 : (0 ≤ y ∧ y ≤ st 579 0 - 1) → st 2145 y.toNatClampNeg = st 601 0 → ¬ st 591 0 = 0 → am_AW c_MO_start g_MO_start (fun o st' => am_ok (some .boolean) o ∧ am_ki f o st') 56 [some (.inr (.inl 128)), some (.inl y), none, none] [] (am_up st 576 0 0) := by
    intro w1 w2 w3
    have w1' := hm.mp w1
    have kE := h1 ⟨w1', by rw [← e2145]; exact w2⟩ w3
    have ny : nI y.toNatClampNeg = y := nI_back w1'.1
    have n8 := w1'.2
    have vm := (c2.2.2 _ n8).2.1
    generalize hst1 : am_up st 576 0 0 = st1 at *
    have r1 : RM st1 A := by
      rw [← hst1]
      intro b hb
      have hb' : ¬ b = 576 := by
        intro w
        rw [w] at hb
        cases hb
      rw [am_up_bank hb']
      exact c3 b hb
    have p1 : PM st1 P := by rw [← hst1]; exact c1
    have g1 : st1 2159 = st 2159 := by rw [← hst1]; rfl
    have g2 : st1 601 0 = P 3 y.toNatClampNeg := by rw [← hst1, ← e2145, w2]; rfl
    have fit : (o_clm A 608 0).toInt + (ned P y.toNatClampNeg).toInt ≤ 80 := by
      have := ned_t c2 n8
      have e8 : o_clm A 608 0 = 0 := rfl
      rw [e8]
      simp only [Int32.reduceToInt]
      omega
    have bc := @BV_clm P A
    have n0 : 0 ≤ (P 3 y.toNatClampNeg).toInt := by omega
    have n4 : (P 3 y.toNatClampNeg).toInt ≤ 4 := by omega
    have k131 : ∀ q a3, QM st1 (o_giv (o_open P (o_clm A) y) (st1 2159) (P 3 y.toNatClampNeg).toInt.toNat) q → am_AW c_MO_start g_MO_start (fun o st' => am_ok (some .boolean) o ∧ am_ki f o st') 131 [some (.inr (.inl 128)), some (.inl y), some (.inl 1), a3] [] q := by
      intro q a3 hq
      have kF : f 1 (am_up (am_up q 601 0 0) 603 0 1) := by
        rw [up_comm (by decide)]
        refine kE ⟨am_up q 603 0 1, md_up hq.1 rfl, ?_⟩
        unfold o_beg
        rw [clm_clr, open_603, giv_603, ny, ← g1]
        exact RM_up hq.2
      clear kE h1 h2 h3
      refine r_al0 (q := 132) d_MO_start_131 rfl ?_
      refine r_ic (v := 0) (q := 133) d_MO_start_132 rfl rfl ?_
      refine pt_MO_arguments (q := 136) d_MO_start_133 rfl rfl ?_
      refine r_al0 (q := 137) d_MO_start_136 rfl ?_
      refine r_il2 (q := 138) d_MO_start_137 rfl ?_
      refine r_zeq (tgt := 145) (q := 141) d_MO_start_138 rfl rfl (fun e138 => ?_) (fun e138 => ?_)
      · skip
        refine r_bp (v := 7) (q := 147) d_MO_start_145 rfl rfl ?_
        refine pt_MO_state (q := 150) d_MO_start_147 rfl rfl ?_
        refine r_ic (v := 1) (q := 151) d_MO_start_150 rfl rfl ?_
        refine r_rz d_MO_start_151 (by first | assumption | (refine pc_of hP ?_; (repeat (first | assumption | exact md_refl | refine md_up ?_ rfl | refine md_fill ?_ rfl | (unfold ik; refine md_up ?_ rfl))); done) | (refine pc_oS hP ?_; (repeat (first | assumption | exact md_refl | refine md_up ?_ rfl | refine md_fill ?_ rfl | (unfold ik; refine md_up ?_ rfl))); done) | (refine pm_of hP ?_; (repeat (first | assumption | exact md_refl | refine md_up ?_ rfl | refine md_fill ?_ rfl | (unfold ik; refine md_up ?_ rfl))); done) | omega | decide | ((try simp +decide only [b01, b10, b11, am_up, ik, and_true, and_false, true_and, false_and, if_true, if_false, nn_eq] at *) <;> (try simp only [sw_or, sw_all, or_false, and_true, i32_lt, i32_le, i32_eq, i32_addw, i32_subw, i32_mulw, Int32.reduceToInt] at *) <;> omega) | (apply_assumption; done)) ?_
        first | exact kF | exact absurd e138 (by decide)
      · skip
        refine r_ic (v := 1) (q := 142) d_MO_start_141 rfl rfl ?_
        refine am_go (tgt := 147) d_MO_start_142 rfl ?_
        refine pt_MO_state (q := 150) d_MO_start_147 rfl rfl ?_
        refine r_ic (v := 1) (q := 151) d_MO_start_150 rfl rfl ?_
        refine r_rz d_MO_start_151 (by first | assumption | (refine pc_of hP ?_; (repeat (first | assumption | exact md_refl | refine md_up ?_ rfl | refine md_fill ?_ rfl | (unfold ik; refine md_up ?_ rfl))); done) | (refine pc_oS hP ?_; (repeat (first | assumption | exact md_refl | refine md_up ?_ rfl | refine md_fill ?_ rfl | (unfold ik; refine md_up ?_ rfl))); done) | (refine pm_of hP ?_; (repeat (first | assumption | exact md_refl | refine md_up ?_ rfl | refine md_fill ?_ rfl | (unfold ik; refine md_up ?_ rfl))); done) | omega | decide | ((try simp +decide only [b01, b10, b11, am_up, ik, and_true, and_false, true_and, false_and, if_true, if_false, nn_eq] at *) <;> (try simp only [sw_or, sw_all, or_false, and_true, i32_lt, i32_le, i32_eq, i32_addw, i32_subw, i32_mulw, Int32.reduceToInt] at *) <;> omega) | (apply_assumption; done)) ?_
        first | exact kF | exact absurd e138 (by decide)
    have k105 : ∀ q, QM st1 (o_open P (o_clm A) y) q → am_AW c_MO_start g_MO_start (fun o st' => am_ok (some .boolean) o ∧ am_ki f o st') 105 [some (.inr (.inl 128)), some (.inl y), some (.inl 1), some (.inl 0)] [] q := by
      intro q hq
      refine lp_MO_gv (P := P) (n := (P 3 y.toNatClampNeg).toInt.toNat) (C := o_open P (o_clm A) y) (st0 := st1) (by rw [g2]; omega) (by omega) (P 3 y.toNatClampNeg).toInt.toNat 0 0 q rfl (by omega) (by rw [giv_0]; exact hq) k131
    have k97 : ∀ a2, am_AW c_MO_start g_MO_start (fun o st' => am_ok (some .boolean) o ∧ am_ki f o st') 97 [some (.inr (.inl 128)), some (.inl y), a2, none] [] (o_clm st1) := by
      intro a2
      have q0 : QM st1 (o_clm A) (o_clm st1) := ⟨md_fill (md_up (md_up (md_up (md_up md_refl rfl) rfl) rfl) rfl) rfl, RM_fill (RM_up (RM_up (RM_up (RM_up r1))))⟩
      clear kE h1 h2 h3 k131
      generalize o_clm st1 = S at *
      refine r_al0 (q := 98) d_MO_start_97 rfl ?_
      refine r_il1 (q := 99) d_MO_start_98 rfl ?_
      refine r_vi1 mo_MO_enter d_MO_start_99 rfl rfl rfl (q := 102) rfl ?_
      refine sp_MO_enter (P := P) (st0 := st1) (A := o_clm A) (by first | exact p1 | exact w1' | exact bc | exact q0 | assumption | (refine pc_of hP ?_; (repeat (first | assumption | exact md_refl | refine md_up ?_ rfl | refine md_fill ?_ rfl | (unfold ik; refine md_up ?_ rfl))); done) | (refine pc_oS hP ?_; (repeat (first | assumption | exact md_refl | refine md_up ?_ rfl | refine md_fill ?_ rfl | (unfold ik; refine md_up ?_ rfl))); done) | (refine pm_of hP ?_; (repeat (first | assumption | exact md_refl | refine md_up ?_ rfl | refine md_fill ?_ rfl | (unfold ik; refine md_up ?_ rfl))); done) | omega | decide | ((try simp +decide only [b01, b10, b11, am_up, ik, and_true, and_false, true_and, false_and, if_true, if_false, nn_eq] at *) <;> (try simp only [sw_or, sw_all, or_false, and_true, i32_lt, i32_le, i32_eq, i32_addw, i32_subw, i32_mulw, Int32.reduceToInt] at *) <;> omega) | (apply_assumption; done)) (by first | exact p1 | exact w1' | exact bc | exact q0 | assumption | (refine pc_of hP ?_; (repeat (first | assumption | exact md_refl | refine md_up ?_ rfl | refine md_fill ?_ rfl | (unfold ik; refine md_up ?_ rfl))); done) | (refine pc_oS hP ?_; (repeat (first | assumption | exact md_refl | refine md_up ?_ rfl | refine md_fill ?_ rfl | (unfold ik; refine md_up ?_ rfl))); done) | (refine pm_of hP ?_; (repeat (first | assumption | exact md_refl | refine md_up ?_ rfl | refine md_fill ?_ rfl | (unfold ik; refine md_up ?_ rfl))); done) | omega | decide | ((try simp +decide only [b01, b10, b11, am_up, ik, and_true, and_false, true_and, false_and, if_true, if_false, nn_eq] at *) <;> (try simp only [sw_or, sw_all, or_false, and_true, i32_lt, i32_le, i32_eq, i32_addw, i32_subw, i32_mulw, Int32.reduceToInt] at *) <;> omega) | (apply_assumption; done)) (by first | exact p1 | exact w1' | exact bc | exact q0 | assumption | (refine pc_of hP ?_; (repeat (first | assumption | exact md_refl | refine md_up ?_ rfl | refine md_fill ?_ rfl | (unfold ik; refine md_up ?_ rfl))); done) | (refine pc_oS hP ?_; (repeat (first | assumption | exact md_refl | refine md_up ?_ rfl | refine md_fill ?_ rfl | (unfold ik; refine md_up ?_ rfl))); done) | (refine pm_of hP ?_; (repeat (first | assumption | exact md_refl | refine md_up ?_ rfl | refine md_fill ?_ rfl | (unfold ik; refine md_up ?_ rfl))); done) | omega | decide | ((try simp +decide only [b01, b10, b11, am_up, ik, and_true, and_false, true_and, false_and, if_true, if_false, nn_eq] at *) <;> (try simp only [sw_or, sw_all, or_false, and_true, i32_lt, i32_le, i32_eq, i32_addw, i32_subw, i32_mulw, Int32.reduceToInt] at *) <;> omega) | (apply_assumption; done)) (by first | exact p1 | exact w1' | exact bc | exact q0 | assumption | (refine pc_of hP ?_; (repeat (first | assumption | exact md_refl | refine md_up ?_ rfl | refine md_fill ?_ rfl | (unfold ik; refine md_up ?_ rfl))); done) | (refine pc_oS hP ?_; (repeat (first | assumption | exact md_refl | refine md_up ?_ rfl | refine md_fill ?_ rfl | (unfold ik; refine md_up ?_ rfl))); done) | (refine pm_of hP ?_; (repeat (first | assumption | exact md_refl | refine md_up ?_ rfl | refine md_fill ?_ rfl | (unfold ik; refine md_up ?_ rfl))); done) | omega | decide | ((try simp +decide only [b01, b10, b11, am_up, ik, and_true, and_false, true_and, false_and, if_true, if_false, nn_eq] at *) <;> (try simp only [sw_or, sw_all, or_false, and_true, i32_lt, i32_le, i32_eq, i32_addw, i32_subw, i32_mulw, Int32.reduceToInt] at *) <;> omega) | (apply_assumption; done)) (by first | exact p1 | exact w1' | exact bc | exact q0 | assumption | (refine pc_of hP ?_; (repeat (first | assumption | exact md_refl | refine md_up ?_ rfl | refine md_fill ?_ rfl | (unfold ik; refine md_up ?_ rfl))); done) | (refine pc_oS hP ?_; (repeat (first | assumption | exact md_refl | refine md_up ?_ rfl | refine md_fill ?_ rfl | (unfold ik; refine md_up ?_ rfl))); done) | (refine pm_of hP ?_; (repeat (first | assumption | exact md_refl | refine md_up ?_ rfl | refine md_fill ?_ rfl | (unfold ik; refine md_up ?_ rfl))); done) | omega | decide | ((try simp +decide only [b01, b10, b11, am_up, ik, and_true, and_false, true_and, false_and, if_true, if_false, nn_eq] at *) <;> (try simp only [sw_or, sw_all, or_false, and_true, i32_lt, i32_le, i32_eq, i32_addw, i32_subw, i32_mulw, Int32.reduceToInt] at *) <;> omega) | (apply_assumption; done)) (fun e99 => ?_) (fun e99 => ?_)
      · skip
        refine r_is2 (q := 103) d_MO_start_102 rfl ?_
        refine r_ic (v := 0) (q := 104) d_MO_start_103 rfl rfl ?_
        refine r_is3 (q := 105) d_MO_start_104 rfl ?_
        first | exact k105 _ e99.2.2 | exact absurd fit e99
      · skip
        refine r_is2 (q := 103) d_MO_start_102 rfl ?_
        refine r_ic (v := 0) (q := 104) d_MO_start_103 rfl rfl ?_
        refine r_is3 (q := 105) d_MO_start_104 rfl ?_
        first | exact k105 _ e99.2.2 | exact absurd fit e99
    have k78 : am_AW c_MO_start g_MO_start (fun o st' => am_ok (some .boolean) o ∧ am_ki f o st') 78 [some (.inr (.inl 128)), some (.inl y), some (.inl 0), none] [] (am_up (am_up (am_up (am_up st1 610 0 0) 608 0 0) 606 0 0) 604 0 0) := lp_MO_st 8 0 _ (by decide) rfl k97
    clear kE h1 h2 h3 k131 k105 k97
    refine r_al0 (q := 57) d_MO_start_56 rfl ?_
    refine r_ic (v := 0) (q := 58) d_MO_start_57 rfl rfl ?_
    refine pt_MO_frames (q := 61) d_MO_start_58 rfl rfl ?_
    refine r_al0 (q := 62) d_MO_start_61 rfl ?_
    refine r_ic (v := 0) (q := 63) d_MO_start_62 rfl rfl ?_
    refine pt_MO_used (q := 66) d_MO_start_63 rfl rfl ?_
    refine r_al0 (q := 67) d_MO_start_66 rfl ?_
    refine r_ic (v := 0) (q := 68) d_MO_start_67 rfl rfl ?_
    refine pt_MO_taken (q := 71) d_MO_start_68 rfl rfl ?_
    refine r_al0 (q := 72) d_MO_start_71 rfl ?_
    refine r_ic (v := 0) (q := 73) d_MO_start_72 rfl rfl ?_
    refine pt_MO_result (q := 76) d_MO_start_73 rfl rfl ?_
    refine r_ic (v := 0) (q := 77) d_MO_start_76 rfl rfl ?_
    refine r_is2 (q := 78) d_MO_start_77 rfl ?_
    exact k78
  clear h1
  refine r_al0 (q := 1) d_MO_start_0 rfl ?_
  refine r_il1 (q := 2) d_MO_start_1 rfl ?_
  refine r_ic (v := 0) (q := 3) d_MO_start_2 rfl rfl ?_
  refine r_al0 (q := 4) d_MO_start_3 rfl ?_
  refine gt_MO_methods (q := 7) d_MO_start_4 rfl rfl ?_
  refine r_ic (v := 1) (q := 8) d_MO_start_7 rfl rfl ?_
  refine r_isub (q := 9) d_MO_start_8 rfl ?_
  refine r_si3 mo_MO_in d_MO_start_9 rfl rfl (q := 12) rfl ?_
  refine sq_MO_in (fun e9 => ?_) (fun e9 => ?_)
  · skip
    refine r_zeq (tgt := 28) (q := 15) d_MO_start_12 rfl rfl (fun e12 => by exfalso; revert e12; decide) (fun e12 => ?_)
    refine r_al0 (q := 16) d_MO_start_15 rfl ?_
    refine gt_MO_takes (q := 19) d_MO_start_16 rfl rfl ?_
    refine r_il1 (q := 20) d_MO_start_19 rfl ?_
    refine ld_145 (q := 21) d_MO_start_20 ?_ rfl ?_
    · exact v8 e9
    refine r_al0 (q := 22) d_MO_start_21 rfl ?_
    refine gt_MO_arguments (q := 25) d_MO_start_22 rfl rfl ?_
    refine r_ceq (tgt := 32) (q := 28) d_MO_start_25 rfl rfl (fun e25 => ?_) (fun e25 => ?_)
    · skip
      refine r_al0 (q := 33) d_MO_start_32 rfl ?_
      refine gt_MO_verified (q := 36) d_MO_start_33 rfl rfl ?_
      refine r_zne (tgt := 43) (q := 39) d_MO_start_36 rfl rfl (fun e36 => ?_) (fun e36 => ?_)
      · skip
        refine r_ic (v := 0) (q := 44) d_MO_start_43 rfl rfl ?_
        refine pt_MO_thrown (q := 47) d_MO_start_44 rfl rfl ?_
        refine r_al0 (q := 48) d_MO_start_47 rfl ?_
        refine gt_MO_thrown (q := 51) d_MO_start_48 rfl rfl ?_
        refine r_zle (tgt := 56) (q := 54) d_MO_start_51 rfl rfl (fun e51 => ?_) (fun e51 => ?_)
        · skip
          first | exact k56 e9 e25 e36 | exact absurd e51 (by rw [am_up_eq]; decide)
        · skip
          refine r_ic (v := 0) (q := 55) d_MO_start_54 rfl rfl ?_
          refine r_rz d_MO_start_55 (by first | assumption | (refine pc_of hP ?_; (repeat (first | assumption | exact md_refl | refine md_up ?_ rfl | refine md_fill ?_ rfl | (unfold ik; refine md_up ?_ rfl))); done) | (refine pc_oS hP ?_; (repeat (first | assumption | exact md_refl | refine md_up ?_ rfl | refine md_fill ?_ rfl | (unfold ik; refine md_up ?_ rfl))); done) | (refine pm_of hP ?_; (repeat (first | assumption | exact md_refl | refine md_up ?_ rfl | refine md_fill ?_ rfl | (unfold ik; refine md_up ?_ rfl))); done) | omega | decide | ((try simp +decide only [b01, b10, b11, am_up, ik, and_true, and_false, true_and, false_and, if_true, if_false, nn_eq] at *) <;> (try simp only [sw_or, sw_all, or_false, and_true, i32_lt, i32_le, i32_eq, i32_addw, i32_subw, i32_mulw, Int32.reduceToInt] at *) <;> omega) | (apply_assumption; done)) ?_
          first | exact h2 (fun w => e9 (hm.mpr w.1)) | exact h2 (fun w => e25 (e2145.trans w.2)) | exact h3 ⟨hm.mp e9, e2145.symm.trans e25⟩ e36 | exact absurd (by rw [am_up_eq]; decide) e51
      · skip
        refine r_ic (v := 2) (q := 40) d_MO_start_39 rfl rfl ?_
        refine am_go (tgt := 44) d_MO_start_40 rfl ?_
        refine pt_MO_thrown (q := 47) d_MO_start_44 rfl rfl ?_
        refine r_al0 (q := 48) d_MO_start_47 rfl ?_
        refine gt_MO_thrown (q := 51) d_MO_start_48 rfl rfl ?_
        refine r_zle (tgt := 56) (q := 54) d_MO_start_51 rfl rfl (fun e51 => ?_) (fun e51 => ?_)
        · skip
          first | exact k56 e9 e25 e36 | exact absurd e51 (by rw [am_up_eq]; decide)
        · skip
          refine r_ic (v := 0) (q := 55) d_MO_start_54 rfl rfl ?_
          refine r_rz d_MO_start_55 (by first | assumption | (refine pc_of hP ?_; (repeat (first | assumption | exact md_refl | refine md_up ?_ rfl | refine md_fill ?_ rfl | (unfold ik; refine md_up ?_ rfl))); done) | (refine pc_oS hP ?_; (repeat (first | assumption | exact md_refl | refine md_up ?_ rfl | refine md_fill ?_ rfl | (unfold ik; refine md_up ?_ rfl))); done) | (refine pm_of hP ?_; (repeat (first | assumption | exact md_refl | refine md_up ?_ rfl | refine md_fill ?_ rfl | (unfold ik; refine md_up ?_ rfl))); done) | omega | decide | ((try simp +decide only [b01, b10, b11, am_up, ik, and_true, and_false, true_and, false_and, if_true, if_false, nn_eq] at *) <;> (try simp only [sw_or, sw_all, or_false, and_true, i32_lt, i32_le, i32_eq, i32_addw, i32_subw, i32_mulw, Int32.reduceToInt] at *) <;> omega) | (apply_assumption; done)) ?_
          first | exact h2 (fun w => e9 (hm.mpr w.1)) | exact h2 (fun w => e25 (e2145.trans w.2)) | exact h3 ⟨hm.mp e9, e2145.symm.trans e25⟩ e36 | exact absurd (by rw [am_up_eq]; decide) e51
    · skip
      refine r_ic (v := 1) (q := 29) d_MO_start_28 rfl rfl ?_
      refine am_go (tgt := 44) d_MO_start_29 rfl ?_
      refine pt_MO_thrown (q := 47) d_MO_start_44 rfl rfl ?_
      refine r_al0 (q := 48) d_MO_start_47 rfl ?_
      refine gt_MO_thrown (q := 51) d_MO_start_48 rfl rfl ?_
      refine r_zle (tgt := 56) (q := 54) d_MO_start_51 rfl rfl (fun e51 => ?_) (fun e51 => ?_)
      · skip
        first | exact k56 e9 e25 e36 | exact absurd e51 (by rw [am_up_eq]; decide)
      · skip
        refine r_ic (v := 0) (q := 55) d_MO_start_54 rfl rfl ?_
        refine r_rz d_MO_start_55 (by first | assumption | (refine pc_of hP ?_; (repeat (first | assumption | exact md_refl | refine md_up ?_ rfl | refine md_fill ?_ rfl | (unfold ik; refine md_up ?_ rfl))); done) | (refine pc_oS hP ?_; (repeat (first | assumption | exact md_refl | refine md_up ?_ rfl | refine md_fill ?_ rfl | (unfold ik; refine md_up ?_ rfl))); done) | (refine pm_of hP ?_; (repeat (first | assumption | exact md_refl | refine md_up ?_ rfl | refine md_fill ?_ rfl | (unfold ik; refine md_up ?_ rfl))); done) | omega | decide | ((try simp +decide only [b01, b10, b11, am_up, ik, and_true, and_false, true_and, false_and, if_true, if_false, nn_eq] at *) <;> (try simp only [sw_or, sw_all, or_false, and_true, i32_lt, i32_le, i32_eq, i32_addw, i32_subw, i32_mulw, Int32.reduceToInt] at *) <;> omega) | (apply_assumption; done)) ?_
        first | exact h2 (fun w => e9 (hm.mpr w.1)) | exact h2 (fun w => e25 (e2145.trans w.2)) | exact h3 ⟨hm.mp e9, e2145.symm.trans e25⟩ e36 | exact absurd (by rw [am_up_eq]; decide) e51
  · skip
    refine r_zeq (tgt := 28) (q := 15) d_MO_start_12 rfl rfl (fun e12 => ?_) (fun e12 => by exfalso; revert e12; decide)
    refine r_ic (v := 1) (q := 29) d_MO_start_28 rfl rfl ?_
    refine am_go (tgt := 44) d_MO_start_29 rfl ?_
    refine pt_MO_thrown (q := 47) d_MO_start_44 rfl rfl ?_
    refine r_al0 (q := 48) d_MO_start_47 rfl ?_
    refine gt_MO_thrown (q := 51) d_MO_start_48 rfl rfl ?_
    refine r_zle (tgt := 56) (q := 54) d_MO_start_51 rfl rfl (fun e51 => ?_) (fun e51 => ?_)
    · skip
      first | exact k56 e9 e25 e36 | exact absurd e51 (by rw [am_up_eq]; decide)
    · skip
      refine r_ic (v := 0) (q := 55) d_MO_start_54 rfl rfl ?_
      refine r_rz d_MO_start_55 (by first | assumption | (refine pc_of hP ?_; (repeat (first | assumption | exact md_refl | refine md_up ?_ rfl | refine md_fill ?_ rfl | (unfold ik; refine md_up ?_ rfl))); done) | (refine pc_oS hP ?_; (repeat (first | assumption | exact md_refl | refine md_up ?_ rfl | refine md_fill ?_ rfl | (unfold ik; refine md_up ?_ rfl))); done) | (refine pm_of hP ?_; (repeat (first | assumption | exact md_refl | refine md_up ?_ rfl | refine md_fill ?_ rfl | (unfold ik; refine md_up ?_ rfl))); done) | omega | decide | ((try simp +decide only [b01, b10, b11, am_up, ik, and_true, and_false, true_and, false_and, if_true, if_false, nn_eq] at *) <;> (try simp only [sw_or, sw_all, or_false, and_true, i32_lt, i32_le, i32_eq, i32_addw, i32_subw, i32_mulw, Int32.reduceToInt] at *) <;> omega) | (apply_assumption; done)) ?_
      first | exact h2 (fun w => e9 (hm.mpr w.1)) | exact h2 (fun w => e25 (e2145.trans w.2)) | exact h3 ⟨hm.mp e9, e2145.symm.trans e25⟩ e36 | exact absurd (by rw [am_up_eq]; decide) e51

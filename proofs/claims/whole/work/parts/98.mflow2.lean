/-! written by wip/whole/gen/walk.py out of 98.mflow2.txt -/
def flQ (P : am_S) (m : Nat) (st : am_S) (r : Int32) (st' : am_S) : Prop := am_md mL st st' ∧ oM (nb P m) (nl P m) st st' ∧ ((r = 1 ∧ ∃ T, MI P m st' T ∧ Typ P m T) ∨ (r = 0 ∧ ∀ U, ¬ Typ P m U))
abbrev am_fl (y : Int32) (K : Int32 → am_S → Prop) (pc : Nat) (a2 a3 : Option am_V) (stk : List am_V) (st : am_S) : Prop := am_AW c_MO_flow g_MO_flow (fun o' st' => am_ok (some .boolean) o' ∧ am_ki K o' st') pc [some (.inr (.inl 128)), some (.inl y), a2, a3] stk st
/-- one round over the places from j on -/
theorem lp_MO_in {P st0 : am_S} {y v : Int32} {Tr : am_T} {K : Int32 → am_S → Prop} (hP : PM st0 P) (hV : VP P) (hy : 0 ≤ y.toInt ∧ y.toNatClampNeg < nM P) (hS : SHP P y.toNatClampNeg) (hK : ∀ s a3, am_md mL st0 s → oM (nb P y.toNatClampNeg) (nl P y.toNatClampNeg) st0 s → ((s 599 0 = 1 ∧ ∃ T, MI P y.toNatClampNeg s T ∧ le (nl P y.toNatClampNeg) Tr T ∧ CH (nl P y.toNatClampNeg) Tr T 0 (s 600 0) ∧ (s 600 0 = 0 → ∀ q, q < nl P y.toNatClampNeg → ¬ T 2 q = -1 → SO P y.toNatClampNeg T q (T 0 q) (T 1 q) (T 2 q))) ∨ (s 599 0 = 0 ∧ ∀ U, ¬ Typ P y.toNatClampNeg U)) → am_fl y K 142 (some (.inl v)) a3 [] s) : ∀ (d j : Nat) (x : Int32) (st : am_S), j + d = nl P y.toNatClampNeg → x.toInt = (nb P y.toNatClampNeg : Int) + j → am_md mL st0 st → oM (nb P y.toNatClampNeg) (nl P y.toNatClampNeg) st0 st → ((st 599 0 = 1 ∧ ∃ T, MI P y.toNatClampNeg st T ∧ le (nl P y.toNatClampNeg) Tr T ∧ CH (nl P y.toNatClampNeg) Tr T 0 (st 600 0) ∧ (st 600 0 = 0 → ∀ q, q < j → ¬ T 2 q = -1 → SO P y.toNatClampNeg T q (T 0 q) (T 1 q) (T 2 q))) ∨ (st 599 0 = 0 ∧ ∀ U, ¬ Typ P y.toNatClampNeg U)) → am_fl y K 97 (some (.inl v)) (some (.inl x)) [] st := by
  intro d
  induction d with
  | zero =>
    intro j x st k1 k2 k3 k4 k5
    have q := pm_oL hP k3
    obtain ⟨v8, ⟨v1, v2, v3, v4, v5⟩, -⟩ := mf q hV hy.2
    have vy : vp_in y 8 := vp_of hy.1 (by rw [nn_eq] at v8; omega)
    have vy9 : vp_in y 9 := vp_of hy.1 (by rw [nn_eq] at v8; omega)
    have hb : (nb P y.toNatClampNeg : Int) = (st 2143 y.toNatClampNeg).toInt := by unfold nb; rw [← q.1.2.1 _ hy.2]; omega
    have hl : (nl P y.toNatClampNeg : Int) = (st 2144 y.toNatClampNeg).toInt := by unfold nl; rw [← q.1.2.2.1]; omega
    have e : j = nl P y.toNatClampNeg := by omega
    rw [e] at k5
    have kQ := hK st (some (.inl x)) k3 k4 k5
    clear hK k3 k4 k5
    refine r_il3 (q := 98) d_MO_flow_97 rfl ?_
    refine r_al0 (q := 99) d_MO_flow_98 rfl ?_
    refine gt_MO_begin (q := 102) d_MO_flow_99 rfl rfl ?_
    refine r_il1 (q := 103) d_MO_flow_102 rfl ?_
    refine ld_143 (q := 104) d_MO_flow_103 ?_ rfl ?_
    · first | exact vy | exact vy9
    refine r_al0 (q := 105) d_MO_flow_104 rfl ?_
    refine gt_MO_length (q := 108) d_MO_flow_105 rfl rfl ?_
    refine r_il1 (q := 109) d_MO_flow_108 rfl ?_
    refine ld_144 (q := 110) d_MO_flow_109 ?_ rfl ?_
    · first | exact vy | exact vy9
    refine r_iadd (q := 111) d_MO_flow_110 rfl ?_
    refine r_cge (tgt := 142) (q := 114) d_MO_flow_111 rfl rfl (fun e111 => ?_) (fun e111 => ?_)
    · skip
      first | exact kQ | (exfalso; clear kQ hP hV hS q; ((try simp +decide only [b01, b10, b11, am_up, ik, and_true, and_false, true_and, false_and, if_true, if_false, nn_eq] at *) <;> (try simp only [sw_or, sw_all, or_false, and_true, i32_lt, i32_le, i32_eq, i32_addw, i32_subw, i32_mulw, Int32.reduceToInt] at *) <;> omega))
    · skip
      first | exact kQ | (exfalso; clear kQ hP hV hS q; ((try simp +decide only [b01, b10, b11, am_up, ik, and_true, and_false, true_and, false_and, if_true, if_false, nn_eq] at *) <;> (try simp only [sw_or, sw_all, or_false, and_true, i32_lt, i32_le, i32_eq, i32_addw, i32_subw, i32_mulw, Int32.reduceToInt] at *) <;> omega))
  | succ d ih =>
    intro j x st k1 k2 k3 k4 k5
    have q := pm_oL hP k3
    obtain ⟨v8, ⟨v1, v2, v3, v4, v5⟩, -⟩ := mf q hV hy.2
    have vy : vp_in y 8 := vp_of hy.1 (by rw [nn_eq] at v8; omega)
    have vy9 : vp_in y 9 := vp_of hy.1 (by rw [nn_eq] at v8; omega)
    have hb : (nb P y.toNatClampNeg : Int) = (st 2143 y.toNatClampNeg).toInt := by unfold nb; rw [← q.1.2.1 _ hy.2]; omega
    have hl : (nl P y.toNatClampNeg : Int) = (st 2144 y.toNatClampNeg).toInt := by unfold nl; rw [← q.1.2.2.1]; omega
    have vx : vp_in x 201 := vp_of (by omega) (by omega)
    have hxn : x.toNatClampNeg = nb P y.toNatClampNeg + j := by rw [nn_eq]; omega
    rcases k5 with ⟨g1, T, g2, g3, g4, g5⟩ | ⟨g1, g2⟩
    · -- all is well so far
      have kN : st 2155 x.toNatClampNeg = 0 → am_fl y K 97 (some (.inl v)) (some (.inl (x + 1))) [] st := by
        intro h
        refine ih (j + 1) _ st (by omega) (by rw [i32_addw]; simp only [Int32.reduceToInt]; omega) k3 k4 (Or.inl ⟨g1, T, g2, g3, g4, fun h6 r hr hr2 => ?_⟩)
        by_cases e : r = j
        · rw [hxn, ← e] at h
          rcases g2.1 r (by omega) with w | w
          · exact absurd w.1 hr2
          · exact absurd (h.symm.trans w.2.1) (by decide)
        · exact g5 h6 r (by omega) hr2
      have hT : ¬ st 2155 x.toNatClampNeg = 0 → j < nl P y.toNatClampNeg ∧ ¬ T 2 j = -1 := by
        intro h
        rw [hxn] at h
        rcases g2.1 j (by omega) with w | w
        · exact absurd w.2 h
        · exact ⟨by omega, w.1⟩
      have kF : ∀ s, ffQ P y.toNatClampNeg T j st s → am_fl y K 97 (some (.inl v)) (some (.inl (x + 1))) [] s := by
        intro s hs
        obtain ⟨a1, a2, a3⟩ := hs
        refine ih (j + 1) _ s (by omega) (by rw [i32_addw]; simp only [Int32.reduceToInt]; omega) (md_trans k3 a1) (oM_trans k4 a2) ?_
        rcases a3 with ⟨b1, T', b2, b3, b4, b5⟩ | b
        · refine Or.inl ⟨b1, T', b2, le_trans' g3 b3, CH_trans g4 b5, fun h6 r hr hr2 => ?_⟩
          rcases b5 with ⟨e1, e2⟩ | ⟨-, e2⟩
          · subst e1
            by_cases e : r = j
            · rw [e]
              exact b4
            · exact g5 (by rw [← e2]; exact h6) r (by omega) hr2
          · rw [e2] at h6
            exact absurd h6 (by decide)
        · exact Or.inr b
      clear ih hK
      refine r_il3 (q := 98) d_MO_flow_97 rfl ?_
      refine r_al0 (q := 99) d_MO_flow_98 rfl ?_
      refine gt_MO_begin (q := 102) d_MO_flow_99 rfl rfl ?_
      refine r_il1 (q := 103) d_MO_flow_102 rfl ?_
      refine ld_143 (q := 104) d_MO_flow_103 ?_ rfl ?_
      · first | exact vy | exact vy9 | exact vx
      refine r_al0 (q := 105) d_MO_flow_104 rfl ?_
      refine gt_MO_length (q := 108) d_MO_flow_105 rfl rfl ?_
      refine r_il1 (q := 109) d_MO_flow_108 rfl ?_
      refine ld_144 (q := 110) d_MO_flow_109 ?_ rfl ?_
      · first | exact vy | exact vy9 | exact vx
      refine r_iadd (q := 111) d_MO_flow_110 rfl ?_
      refine r_cge (tgt := 142) (q := 114) d_MO_flow_111 rfl rfl (fun e111 => ?_) (fun e111 => ?_)
      · skip
        first | exact kN e127 | exact kF _ e133.2 | exact absurd (g1.symm.trans e118) (by decide) | (exfalso; clear kN kF hT hP hV hS q k3 k4 g2 g3 g4 g5; ((try simp +decide only [b01, b10, b11, am_up, ik, and_true, and_false, true_and, false_and, if_true, if_false, nn_eq] at *) <;> (try simp only [sw_or, sw_all, or_false, and_true, i32_lt, i32_le, i32_eq, i32_addw, i32_subw, i32_mulw, Int32.reduceToInt] at *) <;> omega))
      · skip
        refine r_al0 (q := 115) d_MO_flow_114 rfl ?_
        refine gt_MO_good (q := 118) d_MO_flow_115 rfl rfl ?_
        refine r_zeq (tgt := 142) (q := 121) d_MO_flow_118 rfl rfl (fun e118 => ?_) (fun e118 => ?_)
        · skip
          first | exact kN e127 | exact kF _ e133.2 | exact absurd (g1.symm.trans e118) (by decide) | (exfalso; clear kN kF hT hP hV hS q k3 k4 g2 g3 g4 g5; ((try simp +decide only [b01, b10, b11, am_up, ik, and_true, and_false, true_and, false_and, if_true, if_false, nn_eq] at *) <;> (try simp only [sw_or, sw_all, or_false, and_true, i32_lt, i32_le, i32_eq, i32_addw, i32_subw, i32_mulw, Int32.reduceToInt] at *) <;> omega))
        · skip
          refine r_al0 (q := 122) d_MO_flow_121 rfl ?_
          refine gt_MO_has (q := 125) d_MO_flow_122 rfl rfl ?_
          refine r_il3 (q := 126) d_MO_flow_125 rfl ?_
          refine ld_155 (q := 127) d_MO_flow_126 ?_ rfl ?_
          · first | exact vy | exact vy9 | exact vx
          refine r_zeq (tgt := 136) (q := 130) d_MO_flow_127 rfl rfl (fun e127 => ?_) (fun e127 => ?_)
          · skip
            refine r_in3 (v := 1) (q := 139) d_MO_flow_136 rfl rfl ?_
            refine am_go (tgt := 97) d_MO_flow_139 rfl ?_
            first | exact kN e127 | exact kF _ e133.2 | exact absurd (g1.symm.trans e118) (by decide) | (exfalso; clear kN kF hT hP hV hS q k3 k4 g2 g3 g4 g5; ((try simp +decide only [b01, b10, b11, am_up, ik, and_true, and_false, true_and, false_and, if_true, if_false, nn_eq] at *) <;> (try simp only [sw_or, sw_all, or_false, and_true, i32_lt, i32_le, i32_eq, i32_addw, i32_subw, i32_mulw, Int32.reduceToInt] at *) <;> omega))
          · skip
            refine r_al0 (q := 131) d_MO_flow_130 rfl ?_
            refine r_il1 (q := 132) d_MO_flow_131 rfl ?_
            refine r_il3 (q := 133) d_MO_flow_132 rfl ?_
            refine r_vv2 mo_MO_flowFrom d_MO_flow_133 rfl rfl rfl (q := 136) rfl ?_
            refine sp_MO_flowFrom (P := P) (T := T) (p := j) (by first | exact q | exact k2 | exact hT e127 | exact g2 | exact g1 | assumption | (refine pc_of hP ?_; (repeat (first | assumption | exact md_refl | refine md_up ?_ rfl | refine md_fill ?_ rfl | (unfold ik; refine md_up ?_ rfl))); done) | (refine pc_oS hP ?_; (repeat (first | assumption | exact md_refl | refine md_up ?_ rfl | refine md_fill ?_ rfl | (unfold ik; refine md_up ?_ rfl))); done) | (refine pm_of hP ?_; (repeat (first | assumption | exact md_refl | refine md_up ?_ rfl | refine md_fill ?_ rfl | (unfold ik; refine md_up ?_ rfl))); done) | omega | decide | ((try simp +decide only [b01, b10, b11, am_up, ik, and_true, and_false, true_and, false_and, if_true, if_false, nn_eq] at *) <;> (try simp only [sw_or, sw_all, or_false, and_true, i32_lt, i32_le, i32_eq, i32_addw, i32_subw, i32_mulw, Int32.reduceToInt] at *) <;> omega) | (apply_assumption; done)) (by first | exact q | exact k2 | exact hT e127 | exact g2 | exact g1 | assumption | (refine pc_of hP ?_; (repeat (first | assumption | exact md_refl | refine md_up ?_ rfl | refine md_fill ?_ rfl | (unfold ik; refine md_up ?_ rfl))); done) | (refine pc_oS hP ?_; (repeat (first | assumption | exact md_refl | refine md_up ?_ rfl | refine md_fill ?_ rfl | (unfold ik; refine md_up ?_ rfl))); done) | (refine pm_of hP ?_; (repeat (first | assumption | exact md_refl | refine md_up ?_ rfl | refine md_fill ?_ rfl | (unfold ik; refine md_up ?_ rfl))); done) | omega | decide | ((try simp +decide only [b01, b10, b11, am_up, ik, and_true, and_false, true_and, false_and, if_true, if_false, nn_eq] at *) <;> (try simp only [sw_or, sw_all, or_false, and_true, i32_lt, i32_le, i32_eq, i32_addw, i32_subw, i32_mulw, Int32.reduceToInt] at *) <;> omega) | (apply_assumption; done)) (by first | exact q | exact k2 | exact hT e127 | exact g2 | exact g1 | assumption | (refine pc_of hP ?_; (repeat (first | assumption | exact md_refl | refine md_up ?_ rfl | refine md_fill ?_ rfl | (unfold ik; refine md_up ?_ rfl))); done) | (refine pc_oS hP ?_; (repeat (first | assumption | exact md_refl | refine md_up ?_ rfl | refine md_fill ?_ rfl | (unfold ik; refine md_up ?_ rfl))); done) | (refine pm_of hP ?_; (repeat (first | assumption | exact md_refl | refine md_up ?_ rfl | refine md_fill ?_ rfl | (unfold ik; refine md_up ?_ rfl))); done) | omega | decide | ((try simp +decide only [b01, b10, b11, am_up, ik, and_true, and_false, true_and, false_and, if_true, if_false, nn_eq] at *) <;> (try simp only [sw_or, sw_all, or_false, and_true, i32_lt, i32_le, i32_eq, i32_addw, i32_subw, i32_mulw, Int32.reduceToInt] at *) <;> omega) | (apply_assumption; done)) (by first | exact q | exact k2 | exact hT e127 | exact g2 | exact g1 | assumption | (refine pc_of hP ?_; (repeat (first | assumption | exact md_refl | refine md_up ?_ rfl | refine md_fill ?_ rfl | (unfold ik; refine md_up ?_ rfl))); done) | (refine pc_oS hP ?_; (repeat (first | assumption | exact md_refl | refine md_up ?_ rfl | refine md_fill ?_ rfl | (unfold ik; refine md_up ?_ rfl))); done) | (refine pm_of hP ?_; (repeat (first | assumption | exact md_refl | refine md_up ?_ rfl | refine md_fill ?_ rfl | (unfold ik; refine md_up ?_ rfl))); done) | omega | decide | ((try simp +decide only [b01, b10, b11, am_up, ik, and_true, and_false, true_and, false_and, if_true, if_false, nn_eq] at *) <;> (try simp only [sw_or, sw_all, or_false, and_true, i32_lt, i32_le, i32_eq, i32_addw, i32_subw, i32_mulw, Int32.reduceToInt] at *) <;> omega) | (apply_assumption; done)) (by first | exact q | exact k2 | exact hT e127 | exact g2 | exact g1 | assumption | (refine pc_of hP ?_; (repeat (first | assumption | exact md_refl | refine md_up ?_ rfl | refine md_fill ?_ rfl | (unfold ik; refine md_up ?_ rfl))); done) | (refine pc_oS hP ?_; (repeat (first | assumption | exact md_refl | refine md_up ?_ rfl | refine md_fill ?_ rfl | (unfold ik; refine md_up ?_ rfl))); done) | (refine pm_of hP ?_; (repeat (first | assumption | exact md_refl | refine md_up ?_ rfl | refine md_fill ?_ rfl | (unfold ik; refine md_up ?_ rfl))); done) | omega | decide | ((try simp +decide only [b01, b10, b11, am_up, ik, and_true, and_false, true_and, false_and, if_true, if_false, nn_eq] at *) <;> (try simp only [sw_or, sw_all, or_false, and_true, i32_lt, i32_le, i32_eq, i32_addw, i32_subw, i32_mulw, Int32.reduceToInt] at *) <;> omega) | (apply_assumption; done)) (by first | exact q | exact k2 | exact hT e127 | exact g2 | exact g1 | assumption | (refine pc_of hP ?_; (repeat (first | assumption | exact md_refl | refine md_up ?_ rfl | refine md_fill ?_ rfl | (unfold ik; refine md_up ?_ rfl))); done) | (refine pc_oS hP ?_; (repeat (first | assumption | exact md_refl | refine md_up ?_ rfl | refine md_fill ?_ rfl | (unfold ik; refine md_up ?_ rfl))); done) | (refine pm_of hP ?_; (repeat (first | assumption | exact md_refl | refine md_up ?_ rfl | refine md_fill ?_ rfl | (unfold ik; refine md_up ?_ rfl))); done) | omega | decide | ((try simp +decide only [b01, b10, b11, am_up, ik, and_true, and_false, true_and, false_and, if_true, if_false, nn_eq] at *) <;> (try simp only [sw_or, sw_all, or_false, and_true, i32_lt, i32_le, i32_eq, i32_addw, i32_subw, i32_mulw, Int32.reduceToInt] at *) <;> omega) | (apply_assumption; done)) (by first | exact q | exact k2 | exact hT e127 | exact g2 | exact g1 | assumption | (refine pc_of hP ?_; (repeat (first | assumption | exact md_refl | refine md_up ?_ rfl | refine md_fill ?_ rfl | (unfold ik; refine md_up ?_ rfl))); done) | (refine pc_oS hP ?_; (repeat (first | assumption | exact md_refl | refine md_up ?_ rfl | refine md_fill ?_ rfl | (unfold ik; refine md_up ?_ rfl))); done) | (refine pm_of hP ?_; (repeat (first | assumption | exact md_refl | refine md_up ?_ rfl | refine md_fill ?_ rfl | (unfold ik; refine md_up ?_ rfl))); done) | omega | decide | ((try simp +decide only [b01, b10, b11, am_up, ik, and_true, and_false, true_and, false_and, if_true, if_false, nn_eq] at *) <;> (try simp only [sw_or, sw_all, or_false, and_true, i32_lt, i32_le, i32_eq, i32_addw, i32_subw, i32_mulw, Int32.reduceToInt] at *) <;> omega) | (apply_assumption; done)) (by first | exact q | exact k2 | exact hT e127 | exact g2 | exact g1 | assumption | (refine pc_of hP ?_; (repeat (first | assumption | exact md_refl | refine md_up ?_ rfl | refine md_fill ?_ rfl | (unfold ik; refine md_up ?_ rfl))); done) | (refine pc_oS hP ?_; (repeat (first | assumption | exact md_refl | refine md_up ?_ rfl | refine md_fill ?_ rfl | (unfold ik; refine md_up ?_ rfl))); done) | (refine pm_of hP ?_; (repeat (first | assumption | exact md_refl | refine md_up ?_ rfl | refine md_fill ?_ rfl | (unfold ik; refine md_up ?_ rfl))); done) | omega | decide | ((try simp +decide only [b01, b10, b11, am_up, ik, and_true, and_false, true_and, false_and, if_true, if_false, nn_eq] at *) <;> (try simp only [sw_or, sw_all, or_false, and_true, i32_lt, i32_le, i32_eq, i32_addw, i32_subw, i32_mulw, Int32.reduceToInt] at *) <;> omega) | (apply_assumption; done)) (fun e133 => ?_)
            · skip
              refine r_in3 (v := 1) (q := 139) d_MO_flow_136 rfl rfl ?_
              refine am_go (tgt := 97) d_MO_flow_139 rfl ?_
              first | exact kN e127 | exact kF _ e133.2 | exact absurd (g1.symm.trans e118) (by decide) | (exfalso; clear kN kF hT hP hV hS q k3 k4 g2 g3 g4 g5; ((try simp +decide only [b01, b10, b11, am_up, ik, and_true, and_false, true_and, false_and, if_true, if_false, nn_eq] at *) <;> (try simp only [sw_or, sw_all, or_false, and_true, i32_lt, i32_le, i32_eq, i32_addw, i32_subw, i32_mulw, Int32.reduceToInt] at *) <;> omega))
    · -- it has gone wrong
      have kQ := hK st (some (.inl x)) k3 k4 (Or.inr ⟨g1, g2⟩)
      clear ih hK
      refine r_il3 (q := 98) d_MO_flow_97 rfl ?_
      refine r_al0 (q := 99) d_MO_flow_98 rfl ?_
      refine gt_MO_begin (q := 102) d_MO_flow_99 rfl rfl ?_
      refine r_il1 (q := 103) d_MO_flow_102 rfl ?_
      refine ld_143 (q := 104) d_MO_flow_103 ?_ rfl ?_
      · first | exact vy | exact vy9
      refine r_al0 (q := 105) d_MO_flow_104 rfl ?_
      refine gt_MO_length (q := 108) d_MO_flow_105 rfl rfl ?_
      refine r_il1 (q := 109) d_MO_flow_108 rfl ?_
      refine ld_144 (q := 110) d_MO_flow_109 ?_ rfl ?_
      · first | exact vy | exact vy9
      refine r_iadd (q := 111) d_MO_flow_110 rfl ?_
      refine r_cge (tgt := 142) (q := 114) d_MO_flow_111 rfl rfl (fun e111 => ?_) (fun e111 => ?_)
      · skip
        first | exact kQ | exact absurd g1 e118
      · skip
        refine r_al0 (q := 115) d_MO_flow_114 rfl ?_
        refine gt_MO_good (q := 118) d_MO_flow_115 rfl rfl ?_
        refine r_zeq (tgt := 142) (q := 121) d_MO_flow_118 rfl rfl (fun e118 => ?_) (fun e118 => ?_)
        · skip
          first | exact kQ | exact absurd g1 e118
        · skip
          first | exact kQ | exact absurd g1 e118
def mrI (P : am_S) (m v : Nat) (st : am_S) : Prop := (st 599 0 = 1 ∧ ∃ T, MI P m st T ∧ Ar (nl P m) T 0 (ini (P 3 m).toInt.toNat) 0 0 ∧ ((st 600 0 = 1 ∧ v + mu (nl P m) T ≤ 9 * nl P m) ∨ (st 600 0 = 0 ∧ Typ P m T))) ∨ (st 599 0 = 0 ∧ ∀ U, ¬ Typ P m U)
theorem lp_MO_rd {P st0 : am_S} {y : Int32} (hP : PM st0 P) (hV : VP P) (hy : 0 ≤ y.toInt ∧ y.toNatClampNeg < nM P) (hS : SHP P y.toNatClampNeg) : ∀ (d v : Nat) (x : Int32) (a3 : Option am_V) (st : am_S), v + d = 2000 → x.toInt = (v : Int) → am_md mL st0 st → oM (nb P y.toNatClampNeg) (nl P y.toNatClampNeg) st0 st → mrI P y.toNatClampNeg v st → am_fl y (flQ P y.toNatClampNeg st0) 64 (some (.inl x)) a3 [] st := by
  intro d
  have hN : nl P y.toNatClampNeg ≤ 200 := by
    have h3 := hV.2.2 _ hy.2
    have h4 := hV.1
    unfold VM at h3
    unfold nl
    omega
  induction d with
  | zero =>
    intro v x a3 st k1 k2 k3 k4 k5
    rcases k5 with ⟨g1, T, g2, g3, ⟨g4, g5⟩ | ⟨g4, g5⟩⟩ | ⟨g1, g2⟩
    · omega
    · have kQ : flQ P y.toNatClampNeg st0 (st 599 0) st := ⟨k3, k4, Or.inl ⟨g1, T, g2, g5⟩⟩
      have kZ : st 599 0 = 0 ∨ st 599 0 = 1 := Or.inr g1
      clear k3 k4 g2 g3 g5
      refine r_il2 (q := 65) d_MO_flow_64 rfl ?_
      refine r_sp (v := 2000) (q := 68) d_MO_flow_65 rfl rfl ?_
      refine r_cge (tgt := 148) (q := 71) d_MO_flow_68 rfl rfl (fun e68 => ?_) (fun e68 => ?_)
      · skip
        refine r_al0 (q := 149) d_MO_flow_148 rfl ?_
        refine gt_MO_good (q := 152) d_MO_flow_149 rfl rfl ?_
        refine r_rz d_MO_flow_152 (by first | exact kZ | assumption | (refine pc_of hP ?_; (repeat (first | assumption | exact md_refl | refine md_up ?_ rfl | refine md_fill ?_ rfl | (unfold ik; refine md_up ?_ rfl))); done) | (refine pc_oS hP ?_; (repeat (first | assumption | exact md_refl | refine md_up ?_ rfl | refine md_fill ?_ rfl | (unfold ik; refine md_up ?_ rfl))); done) | (refine pm_of hP ?_; (repeat (first | assumption | exact md_refl | refine md_up ?_ rfl | refine md_fill ?_ rfl | (unfold ik; refine md_up ?_ rfl))); done) | omega | decide | ((try simp +decide only [b01, b10, b11, am_up, ik, and_true, and_false, true_and, false_and, if_true, if_false, nn_eq] at *) <;> (try simp only [sw_or, sw_all, or_false, and_true, i32_lt, i32_le, i32_eq, i32_addw, i32_subw, i32_mulw, Int32.reduceToInt] at *) <;> omega) | (apply_assumption; done)) ?_
        exact kQ
      · skip
        exfalso; clear kQ hP hV hS; ((try simp +decide only [b01, b10, b11, am_up, ik, and_true, and_false, true_and, false_and, if_true, if_false, nn_eq] at *) <;> (try simp only [sw_or, sw_all, or_false, and_true, i32_lt, i32_le, i32_eq, i32_addw, i32_subw, i32_mulw, Int32.reduceToInt] at *) <;> omega)
    · have kQ : flQ P y.toNatClampNeg st0 (st 599 0) st := ⟨k3, k4, Or.inr ⟨g1, g2⟩⟩
      have kZ : st 599 0 = 0 ∨ st 599 0 = 1 := Or.inl g1
      clear k3 k4 g2
      refine r_il2 (q := 65) d_MO_flow_64 rfl ?_
      refine r_sp (v := 2000) (q := 68) d_MO_flow_65 rfl rfl ?_
      refine r_cge (tgt := 148) (q := 71) d_MO_flow_68 rfl rfl (fun e68 => ?_) (fun e68 => ?_)
      · skip
        refine r_al0 (q := 149) d_MO_flow_148 rfl ?_
        refine gt_MO_good (q := 152) d_MO_flow_149 rfl rfl ?_
        refine r_rz d_MO_flow_152 (by first | exact kZ | assumption | (refine pc_of hP ?_; (repeat (first | assumption | exact md_refl | refine md_up ?_ rfl | refine md_fill ?_ rfl | (unfold ik; refine md_up ?_ rfl))); done) | (refine pc_oS hP ?_; (repeat (first | assumption | exact md_refl | refine md_up ?_ rfl | refine md_fill ?_ rfl | (unfold ik; refine md_up ?_ rfl))); done) | (refine pm_of hP ?_; (repeat (first | assumption | exact md_refl | refine md_up ?_ rfl | refine md_fill ?_ rfl | (unfold ik; refine md_up ?_ rfl))); done) | omega | decide | ((try simp +decide only [b01, b10, b11, am_up, ik, and_true, and_false, true_and, false_and, if_true, if_false, nn_eq] at *) <;> (try simp only [sw_or, sw_all, or_false, and_true, i32_lt, i32_le, i32_eq, i32_addw, i32_subw, i32_mulw, Int32.reduceToInt] at *) <;> omega) | (apply_assumption; done)) ?_
        exact kQ
      · skip
        exfalso; clear kQ hP hV hS; ((try simp +decide only [b01, b10, b11, am_up, ik, and_true, and_false, true_and, false_and, if_true, if_false, nn_eq] at *) <;> (try simp only [sw_or, sw_all, or_false, and_true, i32_lt, i32_le, i32_eq, i32_addw, i32_subw, i32_mulw, Int32.reduceToInt] at *) <;> omega)
  | succ d ih =>
    intro v x a3 st k1 k2 k3 k4 k5
    have q := pm_oL hP k3
    obtain ⟨v8, ⟨v1, v2, v3, v4, v5⟩, -⟩ := mf q hV hy.2
    have vy9 : vp_in y 9 := vp_of hy.1 (by rw [nn_eq] at v8; omega)
    have hb : (nb P y.toNatClampNeg : Int) = (st 2143 y.toNatClampNeg).toInt := by unfold nb; rw [← q.1.2.1 _ hy.2]; omega
    rcases k5 with ⟨g1, T, g2, g3, ⟨g4, g5⟩ | ⟨g4, g5⟩⟩ | ⟨g1, g2⟩
    · have g2' : MI P y.toNatClampNeg (am_up st 600 0 0) T := MI_bk g2 (am_up_bank (by decide)) (am_up_bank (by decide)) (am_up_bank (by decide))
      have kR : ∀ s a3, am_md mL st0 s → oM (nb P y.toNatClampNeg) (nl P y.toNatClampNeg) st0 s → ((s 599 0 = 1 ∧ ∃ T', MI P y.toNatClampNeg s T' ∧ le (nl P y.toNatClampNeg) T T' ∧ CH (nl P y.toNatClampNeg) T T' 0 (s 600 0) ∧ (s 600 0 = 0 → ∀ q, q < nl P y.toNatClampNeg → ¬ T' 2 q = -1 → SO P y.toNatClampNeg T' q (T' 0 q) (T' 1 q) (T' 2 q))) ∨ (s 599 0 = 0 ∧ ∀ U, ¬ Typ P y.toNatClampNeg U)) → am_fl y (flQ P y.toNatClampNeg st0) 142 (some (.inl x)) a3 [] s := by
        intro s a3 s1 s2 s3
        have kE : am_fl y (flQ P y.toNatClampNeg st0) 64 (some (.inl (x + 1))) a3 [] s := by
          refine ih (v + 1) _ a3 s (by omega) (by rw [i32_addw]; simp only [Int32.reduceToInt]; omega) s1 s2 ?_
          rcases s3 with ⟨b1, T', b2, b3, b4, b5⟩ | b
          · refine Or.inl ⟨b1, T', b2, Ar_le g3 b3, ?_⟩
            rcases b4 with ⟨e1, e2⟩ | ⟨e1, e2⟩
            · exact Or.inr ⟨e2, Ar_le g3 b3, b5 e2⟩
            · exact Or.inl ⟨e2, by omega⟩
          · exact Or.inr b
        clear ih
        refine r_in2 (v := 1) (q := 145) d_MO_flow_142 rfl rfl ?_
        refine am_go (tgt := 64) d_MO_flow_145 rfl ?_
        exact kE
      have kI := lp_MO_in (v := x) hP hV hy hS kR (nl P y.toNatClampNeg) 0 (st 2143 y.toNatClampNeg) (am_up st 600 0 0) (by omega) (by omega) (md_up k3 rfl) (oM_bk k4 (am_up_bank (by decide)) (am_up_bank (by decide)) (am_up_bank (by decide))) (Or.inl ⟨by rw [am_up_bank (by decide)]; exact g1, T, g2', le_refl', by rw [am_up_eq]; exact CH_refl, fun _ r hr => absurd hr (by omega)⟩)
      clear kR ih k3 k4 g2 g3 g2'
      refine r_il2 (q := 65) d_MO_flow_64 rfl ?_
      refine r_sp (v := 2000) (q := 68) d_MO_flow_65 rfl rfl ?_
      refine r_cge (tgt := 148) (q := 71) d_MO_flow_68 rfl rfl (fun e68 => ?_) (fun e68 => ?_)
      · skip
        first | exact kI | exact absurd (g4.symm.trans e75) (by decide) | exact absurd (g1.symm.trans e82) (by decide) | (exfalso; clear kI hP hV hS q; ((try simp +decide only [b01, b10, b11, am_up, ik, and_true, and_false, true_and, false_and, if_true, if_false, nn_eq] at *) <;> (try simp only [sw_or, sw_all, or_false, and_true, i32_lt, i32_le, i32_eq, i32_addw, i32_subw, i32_mulw, Int32.reduceToInt] at *) <;> omega))
      · skip
        refine r_al0 (q := 72) d_MO_flow_71 rfl ?_
        refine gt_MO_more (q := 75) d_MO_flow_72 rfl rfl ?_
        refine r_zeq (tgt := 148) (q := 78) d_MO_flow_75 rfl rfl (fun e75 => ?_) (fun e75 => ?_)
        · skip
          first | exact kI | exact absurd (g4.symm.trans e75) (by decide) | exact absurd (g1.symm.trans e82) (by decide) | (exfalso; clear kI hP hV hS q; ((try simp +decide only [b01, b10, b11, am_up, ik, and_true, and_false, true_and, false_and, if_true, if_false, nn_eq] at *) <;> (try simp only [sw_or, sw_all, or_false, and_true, i32_lt, i32_le, i32_eq, i32_addw, i32_subw, i32_mulw, Int32.reduceToInt] at *) <;> omega))
        · skip
          refine r_al0 (q := 79) d_MO_flow_78 rfl ?_
          refine gt_MO_good (q := 82) d_MO_flow_79 rfl rfl ?_
          refine r_zeq (tgt := 148) (q := 85) d_MO_flow_82 rfl rfl (fun e82 => ?_) (fun e82 => ?_)
          · skip
            first | exact kI | exact absurd (g4.symm.trans e75) (by decide) | exact absurd (g1.symm.trans e82) (by decide) | (exfalso; clear kI hP hV hS q; ((try simp +decide only [b01, b10, b11, am_up, ik, and_true, and_false, true_and, false_and, if_true, if_false, nn_eq] at *) <;> (try simp only [sw_or, sw_all, or_false, and_true, i32_lt, i32_le, i32_eq, i32_addw, i32_subw, i32_mulw, Int32.reduceToInt] at *) <;> omega))
          · skip
            refine r_al0 (q := 86) d_MO_flow_85 rfl ?_
            refine r_ic (v := 0) (q := 87) d_MO_flow_86 rfl rfl ?_
            refine pt_MO_more (q := 90) d_MO_flow_87 rfl (by first | assumption | (refine pc_of hP ?_; (repeat (first | assumption | exact md_refl | refine md_up ?_ rfl | refine md_fill ?_ rfl | (unfold ik; refine md_up ?_ rfl))); done) | (refine pc_oS hP ?_; (repeat (first | assumption | exact md_refl | refine md_up ?_ rfl | refine md_fill ?_ rfl | (unfold ik; refine md_up ?_ rfl))); done) | (refine pm_of hP ?_; (repeat (first | assumption | exact md_refl | refine md_up ?_ rfl | refine md_fill ?_ rfl | (unfold ik; refine md_up ?_ rfl))); done) | omega | decide | ((try simp +decide only [b01, b10, b11, am_up, ik, and_true, and_false, true_and, false_and, if_true, if_false, nn_eq] at *) <;> (try simp only [sw_or, sw_all, or_false, and_true, i32_lt, i32_le, i32_eq, i32_addw, i32_subw, i32_mulw, Int32.reduceToInt] at *) <;> omega) | (apply_assumption; done)) rfl ?_
            refine r_al0 (q := 91) d_MO_flow_90 rfl ?_
            refine gt_MO_begin (q := 94) d_MO_flow_91 rfl rfl ?_
            refine r_il1 (q := 95) d_MO_flow_94 rfl ?_
            refine ld_143 (q := 96) d_MO_flow_95 ?_ rfl ?_
            · exact vy9
            refine r_is3 (q := 97) d_MO_flow_96 rfl ?_
            first | exact kI | exact absurd (g4.symm.trans e75) (by decide) | exact absurd (g1.symm.trans e82) (by decide) | (exfalso; clear kI hP hV hS q; ((try simp +decide only [b01, b10, b11, am_up, ik, and_true, and_false, true_and, false_and, if_true, if_false, nn_eq] at *) <;> (try simp only [sw_or, sw_all, or_false, and_true, i32_lt, i32_le, i32_eq, i32_addw, i32_subw, i32_mulw, Int32.reduceToInt] at *) <;> omega))
    · have kQ : flQ P y.toNatClampNeg st0 (st 599 0) st := ⟨k3, k4, Or.inl ⟨g1, T, g2, g5⟩⟩
      have kZ : st 599 0 = 0 ∨ st 599 0 = 1 := Or.inr g1
      clear k3 k4 g2 g3 g5 ih
      refine r_il2 (q := 65) d_MO_flow_64 rfl ?_
      refine r_sp (v := 2000) (q := 68) d_MO_flow_65 rfl rfl ?_
      refine r_cge (tgt := 148) (q := 71) d_MO_flow_68 rfl rfl (fun e68 => ?_) (fun e68 => ?_)
      · skip
        refine r_al0 (q := 149) d_MO_flow_148 rfl ?_
        refine gt_MO_good (q := 152) d_MO_flow_149 rfl rfl ?_
        refine r_rz d_MO_flow_152 (by first | exact kZ | assumption | (refine pc_of hP ?_; (repeat (first | assumption | exact md_refl | refine md_up ?_ rfl | refine md_fill ?_ rfl | (unfold ik; refine md_up ?_ rfl))); done) | (refine pc_oS hP ?_; (repeat (first | assumption | exact md_refl | refine md_up ?_ rfl | refine md_fill ?_ rfl | (unfold ik; refine md_up ?_ rfl))); done) | (refine pm_of hP ?_; (repeat (first | assumption | exact md_refl | refine md_up ?_ rfl | refine md_fill ?_ rfl | (unfold ik; refine md_up ?_ rfl))); done) | omega | decide | ((try simp +decide only [b01, b10, b11, am_up, ik, and_true, and_false, true_and, false_and, if_true, if_false, nn_eq] at *) <;> (try simp only [sw_or, sw_all, or_false, and_true, i32_lt, i32_le, i32_eq, i32_addw, i32_subw, i32_mulw, Int32.reduceToInt] at *) <;> omega) | (apply_assumption; done)) ?_
        exact kQ
      · skip
        refine r_al0 (q := 72) d_MO_flow_71 rfl ?_
        refine gt_MO_more (q := 75) d_MO_flow_72 rfl rfl ?_
        refine r_zeq (tgt := 148) (q := 78) d_MO_flow_75 rfl rfl (fun e75 => ?_) (fun e75 => ?_)
        · skip
          refine r_al0 (q := 149) d_MO_flow_148 rfl ?_
          refine gt_MO_good (q := 152) d_MO_flow_149 rfl rfl ?_
          refine r_rz d_MO_flow_152 (by first | exact kZ | assumption | (refine pc_of hP ?_; (repeat (first | assumption | exact md_refl | refine md_up ?_ rfl | refine md_fill ?_ rfl | (unfold ik; refine md_up ?_ rfl))); done) | (refine pc_oS hP ?_; (repeat (first | assumption | exact md_refl | refine md_up ?_ rfl | refine md_fill ?_ rfl | (unfold ik; refine md_up ?_ rfl))); done) | (refine pm_of hP ?_; (repeat (first | assumption | exact md_refl | refine md_up ?_ rfl | refine md_fill ?_ rfl | (unfold ik; refine md_up ?_ rfl))); done) | omega | decide | ((try simp +decide only [b01, b10, b11, am_up, ik, and_true, and_false, true_and, false_and, if_true, if_false, nn_eq] at *) <;> (try simp only [sw_or, sw_all, or_false, and_true, i32_lt, i32_le, i32_eq, i32_addw, i32_subw, i32_mulw, Int32.reduceToInt] at *) <;> omega) | (apply_assumption; done)) ?_
          exact kQ
        · skip
          exact absurd g4 e75
    · have kQ : flQ P y.toNatClampNeg st0 (st 599 0) st := ⟨k3, k4, Or.inr ⟨g1, g2⟩⟩
      have kZ : st 599 0 = 0 ∨ st 599 0 = 1 := Or.inl g1
      clear k3 k4 g2 ih
      refine r_il2 (q := 65) d_MO_flow_64 rfl ?_
      refine r_sp (v := 2000) (q := 68) d_MO_flow_65 rfl rfl ?_
      refine r_cge (tgt := 148) (q := 71) d_MO_flow_68 rfl rfl (fun e68 => ?_) (fun e68 => ?_)
      · skip
        refine r_al0 (q := 149) d_MO_flow_148 rfl ?_
        refine gt_MO_good (q := 152) d_MO_flow_149 rfl rfl ?_
        refine r_rz d_MO_flow_152 (by first | exact kZ | assumption | (refine pc_of hP ?_; (repeat (first | assumption | exact md_refl | refine md_up ?_ rfl | refine md_fill ?_ rfl | (unfold ik; refine md_up ?_ rfl))); done) | (refine pc_oS hP ?_; (repeat (first | assumption | exact md_refl | refine md_up ?_ rfl | refine md_fill ?_ rfl | (unfold ik; refine md_up ?_ rfl))); done) | (refine pm_of hP ?_; (repeat (first | assumption | exact md_refl | refine md_up ?_ rfl | refine md_fill ?_ rfl | (unfold ik; refine md_up ?_ rfl))); done) | omega | decide | ((try simp +decide only [b01, b10, b11, am_up, ik, and_true, and_false, true_and, false_and, if_true, if_false, nn_eq] at *) <;> (try simp only [sw_or, sw_all, or_false, and_true, i32_lt, i32_le, i32_eq, i32_addw, i32_subw, i32_mulw, Int32.reduceToInt] at *) <;> omega) | (apply_assumption; done)) ?_
        exact kQ
      · skip
        refine r_al0 (q := 72) d_MO_flow_71 rfl ?_
        refine gt_MO_more (q := 75) d_MO_flow_72 rfl rfl ?_
        refine r_zeq (tgt := 148) (q := 78) d_MO_flow_75 rfl rfl (fun e75 => ?_) (fun e75 => ?_)
        · skip
          refine r_al0 (q := 149) d_MO_flow_148 rfl ?_
          refine gt_MO_good (q := 152) d_MO_flow_149 rfl rfl ?_
          refine r_rz d_MO_flow_152 (by first | exact kZ | assumption | (refine pc_of hP ?_; (repeat (first | assumption | exact md_refl | refine md_up ?_ rfl | refine md_fill ?_ rfl | (unfold ik; refine md_up ?_ rfl))); done) | (refine pc_oS hP ?_; (repeat (first | assumption | exact md_refl | refine md_up ?_ rfl | refine md_fill ?_ rfl | (unfold ik; refine md_up ?_ rfl))); done) | (refine pm_of hP ?_; (repeat (first | assumption | exact md_refl | refine md_up ?_ rfl | refine md_fill ?_ rfl | (unfold ik; refine md_up ?_ rfl))); done) | omega | decide | ((try simp +decide only [b01, b10, b11, am_up, ik, and_true, and_false, true_and, false_and, if_true, if_false, nn_eq] at *) <;> (try simp only [sw_or, sw_all, or_false, and_true, i32_lt, i32_le, i32_eq, i32_addw, i32_subw, i32_mulw, Int32.reduceToInt] at *) <;> omega) | (apply_assumption; done)) ?_
          exact kQ
        · skip
          refine r_al0 (q := 79) d_MO_flow_78 rfl ?_
          refine gt_MO_good (q := 82) d_MO_flow_79 rfl rfl ?_
          refine r_zeq (tgt := 148) (q := 85) d_MO_flow_82 rfl rfl (fun e82 => ?_) (fun e82 => ?_)
          · skip
            refine r_al0 (q := 149) d_MO_flow_148 rfl ?_
            refine gt_MO_good (q := 152) d_MO_flow_149 rfl rfl ?_
            refine r_rz d_MO_flow_152 (by first | exact kZ | assumption | (refine pc_of hP ?_; (repeat (first | assumption | exact md_refl | refine md_up ?_ rfl | refine md_fill ?_ rfl | (unfold ik; refine md_up ?_ rfl))); done) | (refine pc_oS hP ?_; (repeat (first | assumption | exact md_refl | refine md_up ?_ rfl | refine md_fill ?_ rfl | (unfold ik; refine md_up ?_ rfl))); done) | (refine pm_of hP ?_; (repeat (first | assumption | exact md_refl | refine md_up ?_ rfl | refine md_fill ?_ rfl | (unfold ik; refine md_up ?_ rfl))); done) | omega | decide | ((try simp +decide only [b01, b10, b11, am_up, ik, and_true, and_false, true_and, false_and, if_true, if_false, nn_eq] at *) <;> (try simp only [sw_or, sw_all, or_false, and_true, i32_lt, i32_le, i32_eq, i32_addw, i32_subw, i32_mulw, Int32.reduceToInt] at *) <;> omega) | (apply_assumption; done)) ?_
            exact kQ
          · skip
            exact absurd g1 e82
theorem lp_MO_ini {y : Int32} {K : Int32 → am_S → Prop} {st0 : am_S} (hy : 0 ≤ y.toInt ∧ y.toInt < 8) (hK : ∀ s : am_S, ∀ v, (∀ b, ¬ b = 2158 → s b = st0 b) → (∀ k : Nat, k < 16 → s 2158 k = if (k : Int) < (st0 2145 y.toNatClampNeg).toInt then 1 else 0) → am_fl y K 35 (some (.inl v)) none [] s) : ∀ (d j : Nat) (st : am_S), j + d = 16 → (∀ b, ¬ b = 2158 → st b = st0 b) → (∀ k : Nat, k < j → st 2158 k = if (k : Int) < (st0 2145 y.toNatClampNeg).toInt then 1 else 0) → am_fl y K 2 (some (.inl (nI j))) none [] st := by
  intro d
  have vy : vp_in y 8 := vp_of hy.1 hy.2
  induction d with
  | zero =>
    intro j st k1 k2 k3
    have e : j = 16 := by omega
    subst e
    have kQ := hK st (nI 16) k2 k3
    clear hK k2 k3
    refine r_il2 (q := 3) d_MO_flow_2 rfl ?_
    refine r_bp (v := 16) (q := 5) d_MO_flow_3 rfl rfl ?_
    refine r_cge (tgt := 35) (q := 8) d_MO_flow_5 rfl rfl (fun e5 => ?_) (fun e5 => ?_)
    · skip
      first | exact kQ | exact absurd (by decide) e5
    · skip
      first | exact kQ | exact absurd (by decide) e5
  | succ d ih =>
    intro j st k1 k2 k3
    have hn : (nI j).toInt = j := nI_t (by omega)
    have vj : vp_in (nI j) 16 := vp_of (by omega) (by omega)
    have ej : (nI j).toNatClampNeg = j := nI_c (by omega)
    have e45 : st 2145 y.toNatClampNeg = st0 2145 y.toNatClampNeg := by rw [k2 2145 (by decide)]
    have kA : ∀ g, g = (if (j : Int) < (st0 2145 y.toNatClampNeg).toInt then 1 else 0) → am_fl y K 2 (some (.inl (nI j + 1))) none [] (am_up st 2158 (nI j).toNatClampNeg g) := by
      intro g hg
      rw [nI_s, ej]
      refine ih (j + 1) _ (by omega) (fun b hb => by rw [am_up_bank hb]; exact k2 b hb) ?_
      intro k hk
      by_cases e : k = j
      · rw [e, am_up_eq, hg]
      · rw [am_up_ne (by omega)]
        exact k3 k (by omega)
    have hlt : ¬ 16 ≤ nI j := by
      rw [i32_le, hn]
      simp only [Int32.reduceToInt]
      omega
    have m1 : ¬ st 2145 y.toNatClampNeg ≤ nI j → (1 : Int32) = (if (j : Int) < (st0 2145 y.toNatClampNeg).toInt then 1 else 0) := by
      intro h
      rw [i32_le, hn, e45] at h
      rw [if_pos (by omega)]
    have m0 : st 2145 y.toNatClampNeg ≤ nI j → (0 : Int32) = (if (j : Int) < (st0 2145 y.toNatClampNeg).toInt then 1 else 0) := by
      intro h
      rw [i32_le, hn, e45] at h
      rw [if_neg (by omega)]
    clear ih hK k2 k3
    refine r_il2 (q := 3) d_MO_flow_2 rfl ?_
    refine r_bp (v := 16) (q := 5) d_MO_flow_3 rfl rfl ?_
    refine r_cge (tgt := 35) (q := 8) d_MO_flow_5 rfl rfl (fun e5 => ?_) (fun e5 => ?_)
    · skip
      first | exact kA _ (m1 e20) | exact kA _ (m0 e20) | exact absurd e5 hlt
    · skip
      refine r_al0 (q := 9) d_MO_flow_8 rfl ?_
      refine gt_MO_now (q := 12) d_MO_flow_9 rfl rfl ?_
      refine r_il2 (q := 13) d_MO_flow_12 rfl ?_
      refine r_il2 (q := 14) d_MO_flow_13 rfl ?_
      refine r_al0 (q := 15) d_MO_flow_14 rfl ?_
      refine gt_MO_takes (q := 18) d_MO_flow_15 rfl rfl ?_
      refine r_il1 (q := 19) d_MO_flow_18 rfl ?_
      refine ld_145 (q := 20) d_MO_flow_19 ?_ rfl ?_
      · first | exact vj | exact vy
      refine r_cge (tgt := 27) (q := 23) d_MO_flow_20 rfl rfl (fun e20 => ?_) (fun e20 => ?_)
      · skip
        refine r_ic (v := 0) (q := 28) d_MO_flow_27 rfl rfl ?_
        refine sv_158 (q := 29) d_MO_flow_28 ?_ rfl ?_
        · first | exact vj | exact vy
        refine r_in2 (v := 1) (q := 32) d_MO_flow_29 rfl rfl ?_
        refine am_go (tgt := 2) d_MO_flow_32 rfl ?_
        first | exact kA _ (m1 e20) | exact kA _ (m0 e20) | exact absurd e5 hlt
      · skip
        refine r_ic (v := 1) (q := 24) d_MO_flow_23 rfl rfl ?_
        refine am_go (tgt := 28) d_MO_flow_24 rfl ?_
        refine sv_158 (q := 29) d_MO_flow_28 ?_ rfl ?_
        · first | exact vj | exact vy
        refine r_in2 (v := 1) (q := 32) d_MO_flow_29 rfl rfl ?_
        refine am_go (tgt := 2) d_MO_flow_32 rfl ?_
        first | exact kA _ (m1 e20) | exact kA _ (m0 e20) | exact absurd e5 hlt
theorem sp_MO_flow {P : am_S} {y : Int32} {st : am_S} {f : Int32 → am_S → Prop} (c1 : PM st P) (c2 : VP P) (c3 : 0 ≤ y.toInt ∧ y.toNatClampNeg < nM P) (c4 : SHP P y.toNatClampNeg) (c5 : ∀ p, p < nl P y.toNatClampNeg → st 2155 (nb P y.toNatClampNeg + p) = 0) (h1 : ∀ q : {q : Int32 × am_S // flQ P y.toNatClampNeg st q.1 q.2}, f q.1.1 q.1.2) : wp_MO_flow [.inr (.inl 128), .inl y] st (am_ki f) := by
  refine ki_of (g := flQ P y.toNatClampNeg st) mo_MO_flow ?_ h1
  refine ⟨⟨rfl, Nat.le_of_ble_eq_true rfl⟩, ?_⟩
  clear h1
  obtain ⟨v8, ⟨v1, v2, v3, v4, v5⟩, ⟨u1, u2, u3, u4, u5, u6⟩, -⟩ := mf c1 c2 c3.2
  have hy8 : 0 ≤ y.toInt ∧ y.toInt < 8 := ⟨c3.1, by rw [nn_eq] at v8; omega⟩
  have vy9 : vp_in y 9 := vp_of hy8.1 (by omega)
  have hb : (nb P y.toNatClampNeg : Int) = (st 2143 y.toNatClampNeg).toInt := by unfold nb; rw [← c1.1.2.1 _ c3.2]; omega
  have h45 : (P 3 y.toNatClampNeg).toInt = (st 2145 y.toNatClampNeg).toInt := by rw [c1.1.2.2.2.1]
  have h46 : (P 4 y.toNatClampNeg).toInt = (st 2146 y.toNatClampNeg).toInt := by rw [c1.1.2.2.2.2.1]
  have h47 : (P 5 y.toNatClampNeg).toInt = (st 2147 y.toNatClampNeg).toInt := by rw [c1.1.2.2.2.2.2.1]
  have hT0 : MI P y.toNatClampNeg st (fun _ _ => -1) := ⟨fun p hp => Or.inl ⟨rfl, c5 p hp⟩, fun p _ q => absurd rfl q, fun U _ p _ q => absurd rfl q, fun p _ q => absurd rfl q⟩
  have hini := @ini_at (P 3 y.toNatClampNeg).toInt.toNat (by omega)
  have k35 : ∀ s : am_S, ∀ v, (∀ b, ¬ b = 2158 → s b = st b) → (∀ k : Nat, k < 16 → s 2158 k = if (k : Int) < (st 2145 y.toNatClampNeg).toInt then 1 else 0) → am_fl y (flQ P y.toNatClampNeg st) 35 (some (.inl v)) none [] s := by
    intro s v s1 s2
    have hbk : ∀ b, ¬ b = 2158 → ¬ b = 598 → ¬ b = 599 → am_up (am_up s 598 0 0) 599 0 1 b = st b := fun b b1 b2 b3 => by rw [am_up_bank b3, am_up_bank b2]; exact s1 b b1
    have g : GS P y.toNatClampNeg (P 5 y.toNatClampNeg) st (fun _ _ => -1) (ini (P 3 y.toNatClampNeg).toInt.toNat) 0 0 (fun _ => True) (am_up (am_up s 598 0 0) 599 0 1) := by
      refine ⟨fun b hb => hbk b (fun q => ?_) (fun q => ?_) (fun q => ?_), fun i _ => ?_, Or.inl ⟨⟨?_, am_up_eq, ini_wf (by omega), fun k hk => ?_, 0, by omega, rfl, ?_, ⟨fun k _ hk => at_zero hk, fun k hk => absurd hk (by omega)⟩, fun k hk => absurd hk (by omega)⟩, _, MI_bk hT0 (hbk 2155 (by decide) (by decide) (by decide)) (hbk 2156 (by decide) (by decide) (by decide)) (hbk 2157 (by decide) (by decide) (by decide)), le_refl', trivial, ?_⟩⟩
      · subst q
        exact absurd hb (by decide)
      · subst q
        exact absurd hb (by decide)
      · subst q
        exact absurd hb (by decide)
      · rw [hbk 2155 (by decide) (by decide) (by decide), hbk 2156 (by decide) (by decide) (by decide), hbk 2157 (by decide) (by decide) (by decide)]
        exact ⟨rfl, rfl, fun _ _ => rfl⟩
      · rw [am_up_bank (by decide), am_up_eq]
        simp only [Int32.reduceToInt]
        omega
      · rw [am_up_bank (by decide), am_up_bank (by decide), s2 k (by omega), hini k (by omega)]
        by_cases e : (k : Int) < (st 2145 y.toNatClampNeg).toInt
        · rw [if_pos e, if_pos (by omega)]
        · rw [if_neg e, if_neg (by omega)]
      · rw [am_up_bank (by decide), am_up_eq]
        rfl
      · rw [hbk 600 (by decide) (by decide) (by decide)]
        exact CH_refl
    have d4 : (am_up (am_up s 598 0 0) 599 0 1 2143 y.toNatClampNeg).toInt = (nb P y.toNatClampNeg : Int) + 0 := by
      rw [hbk 2143 (by decide) (by decide) (by decide)]
      omega
    have d5 : (0 : Int) ≤ 0 ∧ ((0 : Int) < (nl P y.toNatClampNeg : Int) → bg P y.toNatClampNeg (0 : Int).toNat) := ⟨Int.le_refl _, fun _ => rfl⟩
    have d9 : moX (nl P y.toNatClampNeg) (fun _ => True) := fun _ _ _ _ => trivial
    have d10 : LZ P y.toNatClampNeg (ini (P 3 y.toNatClampNeg).toInt.toNat) := by
      intro k k1 k2
      rw [hini k (by omega), if_neg (by omega)]
    have d11 : ∀ U, Typ P y.toNatClampNeg U → (¬ (0 : Int32) = 0 → 1 ≤ (P 5 y.toNatClampNeg).toInt) ∧ Ar (nl P y.toNatClampNeg) U 0 (ini (P 3 y.toNatClampNeg).toInt.toNat) (coR 0 0) (coR 0 0) := fun U hU => ⟨fun q => absurd rfl q, hU.1⟩
    have kE : ∀ s', GS P y.toNatClampNeg (P 5 y.toNatClampNeg) st (fun _ _ => -1) (ini (P 3 y.toNatClampNeg).toInt.toNat) 0 0 (fun T => True ∧ (¬ (0 : Int32) = 0 → 1 ≤ (P 5 y.toNatClampNeg).toInt) ∧ Ar (nl P y.toNatClampNeg) T 0 (ini (P 3 y.toNatClampNeg).toInt.toNat) (coR 0 0) (coR 0 0)) s' → am_fl y (flQ P y.toNatClampNeg st) 64 (some (.inl 0)) none [] (am_up s' 600 0 1) := by
      intro s' g'
      obtain ⟨a1, a2, a3⟩ := g'
      refine lp_MO_rd c1 c2 c3 c4 2000 0 0 none _ (by omega) (by decide) (md_up a1 rfl) (oM_bk a2 (am_up_bank (by decide)) (am_up_bank (by decide)) (am_up_bank (by decide))) ?_
      rcases a3 with ⟨b1, T, b2, b3, b4, b5⟩ | ⟨b1, b2⟩
      · refine Or.inl ⟨by rw [am_up_bank (by decide)]; exact b1.2.1, T, MI_bk b2 (am_up_bank (by decide)) (am_up_bank (by decide)) (am_up_bank (by decide)), b4.2.2, Or.inl ⟨am_up_eq, ?_⟩⟩
        have := @mu_le (nl P y.toNatClampNeg) T
        omega
      · exact Or.inr ⟨by rw [am_up_bank (by decide)]; exact b1.2, b2⟩
    refine r_al0 (q := 36) d_MO_flow_35 rfl ?_
    refine r_ic (v := 0) (q := 37) d_MO_flow_36 rfl rfl ?_
    refine pt_MO_top (q := 40) d_MO_flow_37 rfl rfl ?_
    refine r_al0 (q := 41) d_MO_flow_40 rfl ?_
    refine r_ic (v := 1) (q := 42) d_MO_flow_41 rfl rfl ?_
    refine pt_MO_good (q := 45) d_MO_flow_42 rfl (by first | exact c1 | exact d4 | exact d5 | exact rfl | exact g | exact d9 | exact d10 | exact Or.inl rfl | exact d11 | assumption | (refine pc_of hP ?_; (repeat (first | assumption | exact md_refl | refine md_up ?_ rfl | refine md_fill ?_ rfl | (unfold ik; refine md_up ?_ rfl))); done) | (refine pc_oS hP ?_; (repeat (first | assumption | exact md_refl | refine md_up ?_ rfl | refine md_fill ?_ rfl | (unfold ik; refine md_up ?_ rfl))); done) | (refine pm_of hP ?_; (repeat (first | assumption | exact md_refl | refine md_up ?_ rfl | refine md_fill ?_ rfl | (unfold ik; refine md_up ?_ rfl))); done) | omega | decide | ((try simp +decide only [b01, b10, b11, am_up, ik, and_true, and_false, true_and, false_and, if_true, if_false, nn_eq] at *) <;> (try simp only [sw_or, sw_all, or_false, and_true, i32_lt, i32_le, i32_eq, i32_addw, i32_subw, i32_mulw, Int32.reduceToInt] at *) <;> omega) | (apply_assumption; done)) rfl ?_
    refine r_al0 (q := 46) d_MO_flow_45 rfl ?_
    refine r_il1 (q := 47) d_MO_flow_46 rfl ?_
    refine r_al0 (q := 48) d_MO_flow_47 rfl ?_
    refine gt_MO_begin (q := 51) d_MO_flow_48 rfl rfl ?_
    refine r_il1 (q := 52) d_MO_flow_51 rfl ?_
    refine ld_143 (q := 53) d_MO_flow_52 ?_ rfl ?_
    · exact vy9
    refine r_ic (v := 0) (q := 54) d_MO_flow_53 rfl rfl ?_
    refine r_vv3 mo_MO_come d_MO_flow_54 rfl rfl rfl (q := 57) rfl ?_
    refine sq_MO_come (P := P) (st0 := st) (T0 := fun _ _ => -1) (X := fun _ => True) (hei := P 5 y.toNatClampNeg) (L := ini (P 3 y.toNatClampNeg).toInt.toNat) (R := 0) (H := 0) (z := 0) (by first | exact c1 | exact d4 | exact d5 | exact rfl | exact g | exact d9 | exact d10 | exact Or.inl rfl | exact d11 | assumption | (refine pc_of hP ?_; (repeat (first | assumption | exact md_refl | refine md_up ?_ rfl | refine md_fill ?_ rfl | (unfold ik; refine md_up ?_ rfl))); done) | (refine pc_oS hP ?_; (repeat (first | assumption | exact md_refl | refine md_up ?_ rfl | refine md_fill ?_ rfl | (unfold ik; refine md_up ?_ rfl))); done) | (refine pm_of hP ?_; (repeat (first | assumption | exact md_refl | refine md_up ?_ rfl | refine md_fill ?_ rfl | (unfold ik; refine md_up ?_ rfl))); done) | omega | decide | ((try simp +decide only [b01, b10, b11, am_up, ik, and_true, and_false, true_and, false_and, if_true, if_false, nn_eq] at *) <;> (try simp only [sw_or, sw_all, or_false, and_true, i32_lt, i32_le, i32_eq, i32_addw, i32_subw, i32_mulw, Int32.reduceToInt] at *) <;> omega) | (apply_assumption; done)) (by first | exact c1 | exact d4 | exact d5 | exact rfl | exact g | exact d9 | exact d10 | exact Or.inl rfl | exact d11 | assumption | (refine pc_of hP ?_; (repeat (first | assumption | exact md_refl | refine md_up ?_ rfl | refine md_fill ?_ rfl | (unfold ik; refine md_up ?_ rfl))); done) | (refine pc_oS hP ?_; (repeat (first | assumption | exact md_refl | refine md_up ?_ rfl | refine md_fill ?_ rfl | (unfold ik; refine md_up ?_ rfl))); done) | (refine pm_of hP ?_; (repeat (first | assumption | exact md_refl | refine md_up ?_ rfl | refine md_fill ?_ rfl | (unfold ik; refine md_up ?_ rfl))); done) | omega | decide | ((try simp +decide only [b01, b10, b11, am_up, ik, and_true, and_false, true_and, false_and, if_true, if_false, nn_eq] at *) <;> (try simp only [sw_or, sw_all, or_false, and_true, i32_lt, i32_le, i32_eq, i32_addw, i32_subw, i32_mulw, Int32.reduceToInt] at *) <;> omega) | (apply_assumption; done)) (by first | exact c1 | exact d4 | exact d5 | exact rfl | exact g | exact d9 | exact d10 | exact Or.inl rfl | exact d11 | assumption | (refine pc_of hP ?_; (repeat (first | assumption | exact md_refl | refine md_up ?_ rfl | refine md_fill ?_ rfl | (unfold ik; refine md_up ?_ rfl))); done) | (refine pc_oS hP ?_; (repeat (first | assumption | exact md_refl | refine md_up ?_ rfl | refine md_fill ?_ rfl | (unfold ik; refine md_up ?_ rfl))); done) | (refine pm_of hP ?_; (repeat (first | assumption | exact md_refl | refine md_up ?_ rfl | refine md_fill ?_ rfl | (unfold ik; refine md_up ?_ rfl))); done) | omega | decide | ((try simp +decide only [b01, b10, b11, am_up, ik, and_true, and_false, true_and, false_and, if_true, if_false, nn_eq] at *) <;> (try simp only [sw_or, sw_all, or_false, and_true, i32_lt, i32_le, i32_eq, i32_addw, i32_subw, i32_mulw, Int32.reduceToInt] at *) <;> omega) | (apply_assumption; done)) (by first | exact c1 | exact d4 | exact d5 | exact rfl | exact g | exact d9 | exact d10 | exact Or.inl rfl | exact d11 | assumption | (refine pc_of hP ?_; (repeat (first | assumption | exact md_refl | refine md_up ?_ rfl | refine md_fill ?_ rfl | (unfold ik; refine md_up ?_ rfl))); done) | (refine pc_oS hP ?_; (repeat (first | assumption | exact md_refl | refine md_up ?_ rfl | refine md_fill ?_ rfl | (unfold ik; refine md_up ?_ rfl))); done) | (refine pm_of hP ?_; (repeat (first | assumption | exact md_refl | refine md_up ?_ rfl | refine md_fill ?_ rfl | (unfold ik; refine md_up ?_ rfl))); done) | omega | decide | ((try simp +decide only [b01, b10, b11, am_up, ik, and_true, and_false, true_and, false_and, if_true, if_false, nn_eq] at *) <;> (try simp only [sw_or, sw_all, or_false, and_true, i32_lt, i32_le, i32_eq, i32_addw, i32_subw, i32_mulw, Int32.reduceToInt] at *) <;> omega) | (apply_assumption; done)) (by first | exact c1 | exact d4 | exact d5 | exact rfl | exact g | exact d9 | exact d10 | exact Or.inl rfl | exact d11 | assumption | (refine pc_of hP ?_; (repeat (first | assumption | exact md_refl | refine md_up ?_ rfl | refine md_fill ?_ rfl | (unfold ik; refine md_up ?_ rfl))); done) | (refine pc_oS hP ?_; (repeat (first | assumption | exact md_refl | refine md_up ?_ rfl | refine md_fill ?_ rfl | (unfold ik; refine md_up ?_ rfl))); done) | (refine pm_of hP ?_; (repeat (first | assumption | exact md_refl | refine md_up ?_ rfl | refine md_fill ?_ rfl | (unfold ik; refine md_up ?_ rfl))); done) | omega | decide | ((try simp +decide only [b01, b10, b11, am_up, ik, and_true, and_false, true_and, false_and, if_true, if_false, nn_eq] at *) <;> (try simp only [sw_or, sw_all, or_false, and_true, i32_lt, i32_le, i32_eq, i32_addw, i32_subw, i32_mulw, Int32.reduceToInt] at *) <;> omega) | (apply_assumption; done)) (by first | exact c1 | exact d4 | exact d5 | exact rfl | exact g | exact d9 | exact d10 | exact Or.inl rfl | exact d11 | assumption | (refine pc_of hP ?_; (repeat (first | assumption | exact md_refl | refine md_up ?_ rfl | refine md_fill ?_ rfl | (unfold ik; refine md_up ?_ rfl))); done) | (refine pc_oS hP ?_; (repeat (first | assumption | exact md_refl | refine md_up ?_ rfl | refine md_fill ?_ rfl | (unfold ik; refine md_up ?_ rfl))); done) | (refine pm_of hP ?_; (repeat (first | assumption | exact md_refl | refine md_up ?_ rfl | refine md_fill ?_ rfl | (unfold ik; refine md_up ?_ rfl))); done) | omega | decide | ((try simp +decide only [b01, b10, b11, am_up, ik, and_true, and_false, true_and, false_and, if_true, if_false, nn_eq] at *) <;> (try simp only [sw_or, sw_all, or_false, and_true, i32_lt, i32_le, i32_eq, i32_addw, i32_subw, i32_mulw, Int32.reduceToInt] at *) <;> omega) | (apply_assumption; done)) (by first | exact c1 | exact d4 | exact d5 | exact rfl | exact g | exact d9 | exact d10 | exact Or.inl rfl | exact d11 | assumption | (refine pc_of hP ?_; (repeat (first | assumption | exact md_refl | refine md_up ?_ rfl | refine md_fill ?_ rfl | (unfold ik; refine md_up ?_ rfl))); done) | (refine pc_oS hP ?_; (repeat (first | assumption | exact md_refl | refine md_up ?_ rfl | refine md_fill ?_ rfl | (unfold ik; refine md_up ?_ rfl))); done) | (refine pm_of hP ?_; (repeat (first | assumption | exact md_refl | refine md_up ?_ rfl | refine md_fill ?_ rfl | (unfold ik; refine md_up ?_ rfl))); done) | omega | decide | ((try simp +decide only [b01, b10, b11, am_up, ik, and_true, and_false, true_and, false_and, if_true, if_false, nn_eq] at *) <;> (try simp only [sw_or, sw_all, or_false, and_true, i32_lt, i32_le, i32_eq, i32_addw, i32_subw, i32_mulw, Int32.reduceToInt] at *) <;> omega) | (apply_assumption; done)) (by first | exact c1 | exact d4 | exact d5 | exact rfl | exact g | exact d9 | exact d10 | exact Or.inl rfl | exact d11 | assumption | (refine pc_of hP ?_; (repeat (first | assumption | exact md_refl | refine md_up ?_ rfl | refine md_fill ?_ rfl | (unfold ik; refine md_up ?_ rfl))); done) | (refine pc_oS hP ?_; (repeat (first | assumption | exact md_refl | refine md_up ?_ rfl | refine md_fill ?_ rfl | (unfold ik; refine md_up ?_ rfl))); done) | (refine pm_of hP ?_; (repeat (first | assumption | exact md_refl | refine md_up ?_ rfl | refine md_fill ?_ rfl | (unfold ik; refine md_up ?_ rfl))); done) | omega | decide | ((try simp +decide only [b01, b10, b11, am_up, ik, and_true, and_false, true_and, false_and, if_true, if_false, nn_eq] at *) <;> (try simp only [sw_or, sw_all, or_false, and_true, i32_lt, i32_le, i32_eq, i32_addw, i32_subw, i32_mulw, Int32.reduceToInt] at *) <;> omega) | (apply_assumption; done)) (by first | exact c1 | exact d4 | exact d5 | exact rfl | exact g | exact d9 | exact d10 | exact Or.inl rfl | exact d11 | assumption | (refine pc_of hP ?_; (repeat (first | assumption | exact md_refl | refine md_up ?_ rfl | refine md_fill ?_ rfl | (unfold ik; refine md_up ?_ rfl))); done) | (refine pc_oS hP ?_; (repeat (first | assumption | exact md_refl | refine md_up ?_ rfl | refine md_fill ?_ rfl | (unfold ik; refine md_up ?_ rfl))); done) | (refine pm_of hP ?_; (repeat (first | assumption | exact md_refl | refine md_up ?_ rfl | refine md_fill ?_ rfl | (unfold ik; refine md_up ?_ rfl))); done) | omega | decide | ((try simp +decide only [b01, b10, b11, am_up, ik, and_true, and_false, true_and, false_and, if_true, if_false, nn_eq] at *) <;> (try simp only [sw_or, sw_all, or_false, and_true, i32_lt, i32_le, i32_eq, i32_addw, i32_subw, i32_mulw, Int32.reduceToInt] at *) <;> omega) | (apply_assumption; done)) (by first | exact c1 | exact d4 | exact d5 | exact rfl | exact g | exact d9 | exact d10 | exact Or.inl rfl | exact d11 | assumption | (refine pc_of hP ?_; (repeat (first | assumption | exact md_refl | refine md_up ?_ rfl | refine md_fill ?_ rfl | (unfold ik; refine md_up ?_ rfl))); done) | (refine pc_oS hP ?_; (repeat (first | assumption | exact md_refl | refine md_up ?_ rfl | refine md_fill ?_ rfl | (unfold ik; refine md_up ?_ rfl))); done) | (refine pm_of hP ?_; (repeat (first | assumption | exact md_refl | refine md_up ?_ rfl | refine md_fill ?_ rfl | (unfold ik; refine md_up ?_ rfl))); done) | omega | decide | ((try simp +decide only [b01, b10, b11, am_up, ik, and_true, and_false, true_and, false_and, if_true, if_false, nn_eq] at *) <;> (try simp only [sw_or, sw_all, or_false, and_true, i32_lt, i32_le, i32_eq, i32_addw, i32_subw, i32_mulw, Int32.reduceToInt] at *) <;> omega) | (apply_assumption; done)) (by first | exact c1 | exact d4 | exact d5 | exact rfl | exact g | exact d9 | exact d10 | exact Or.inl rfl | exact d11 | assumption | (refine pc_of hP ?_; (repeat (first | assumption | exact md_refl | refine md_up ?_ rfl | refine md_fill ?_ rfl | (unfold ik; refine md_up ?_ rfl))); done) | (refine pc_oS hP ?_; (repeat (first | assumption | exact md_refl | refine md_up ?_ rfl | refine md_fill ?_ rfl | (unfold ik; refine md_up ?_ rfl))); done) | (refine pm_of hP ?_; (repeat (first | assumption | exact md_refl | refine md_up ?_ rfl | refine md_fill ?_ rfl | (unfold ik; refine md_up ?_ rfl))); done) | omega | decide | ((try simp +decide only [b01, b10, b11, am_up, ik, and_true, and_false, true_and, false_and, if_true, if_false, nn_eq] at *) <;> (try simp only [sw_or, sw_all, or_false, and_true, i32_lt, i32_le, i32_eq, i32_addw, i32_subw, i32_mulw, Int32.reduceToInt] at *) <;> omega) | (apply_assumption; done)) (fun e54 => ?_)
    · skip
      refine r_al0 (q := 58) d_MO_flow_57 rfl ?_
      refine r_ic (v := 1) (q := 59) d_MO_flow_58 rfl rfl ?_
      refine pt_MO_more (q := 62) d_MO_flow_59 rfl (by first | exact c1 | exact d4 | exact d5 | exact rfl | exact g | exact d9 | exact d10 | exact Or.inl rfl | exact d11 | assumption | (refine pc_of hP ?_; (repeat (first | assumption | exact md_refl | refine md_up ?_ rfl | refine md_fill ?_ rfl | (unfold ik; refine md_up ?_ rfl))); done) | (refine pc_oS hP ?_; (repeat (first | assumption | exact md_refl | refine md_up ?_ rfl | refine md_fill ?_ rfl | (unfold ik; refine md_up ?_ rfl))); done) | (refine pm_of hP ?_; (repeat (first | assumption | exact md_refl | refine md_up ?_ rfl | refine md_fill ?_ rfl | (unfold ik; refine md_up ?_ rfl))); done) | omega | decide | ((try simp +decide only [b01, b10, b11, am_up, ik, and_true, and_false, true_and, false_and, if_true, if_false, nn_eq] at *) <;> (try simp only [sw_or, sw_all, or_false, and_true, i32_lt, i32_le, i32_eq, i32_addw, i32_subw, i32_mulw, Int32.reduceToInt] at *) <;> omega) | (apply_assumption; done)) rfl ?_
      refine r_ic (v := 0) (q := 63) d_MO_flow_62 rfl rfl ?_
      refine r_is2 (q := 64) d_MO_flow_63 rfl ?_
      exact kE _ e54.2
  have kL := lp_MO_ini (st0 := st) hy8 k35 16 0 st (by omega) (fun _ _ => rfl) (fun k hk => absurd hk (by omega))
  clear k35
  refine r_ic (v := 0) (q := 1) d_MO_flow_0 rfl rfl ?_
  refine r_is2 (q := 2) d_MO_flow_1 rfl ?_
  exact kL

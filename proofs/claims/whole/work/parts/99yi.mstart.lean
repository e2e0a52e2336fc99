/-! written by wip/whole/gen/walk.py out of 99yi.mstart.txt -/
theorem lp_MO_st {y : Int32} {k : Option am_V ⊕ Nat → am_S → Prop} : ∀ (d : Nat) (x : Int32) (st : am_S), 0 ≤ x.toInt → x.toInt + d = 8 → (∀ a2, am_AW c_MO_start g_MO_start k 97 [some (.inr (.inl 128)), some (.inl y), a2, none] [] (am_fill st 2160 x.toInt.toNat d 0)) → am_AW c_MO_start g_MO_start k 78 [some (.inr (.inl 128)), some (.inl y), some (.inl x), none] [] st := by
  intro d
  induction d with
  | zero =>
    intro x st c1 c2 h
    have kA := h (some (.inl x))
    rw [am_fill_zero] at kA
    clear h
    have hge : 8 ≤ x := by
      rw [i32_le]
      simp only [Int32.reduceToInt]
      omega
    refine r_il2 (q := 79) d_MO_start_78 rfl ?_
    refine r_bp (v := 8) (q := 81) d_MO_start_79 rfl rfl ?_
    refine r_cge (tgt := 97) (q := 84) d_MO_start_81 rfl rfl (fun e81 => ?_) (fun e81 => ?_)
    · skip
      first | exact kA | exact absurd hge e81
    · skip
      first | exact kA | exact absurd hge e81
  | succ d ih =>
    intro x st c1 c2 h
    have hlt : ¬ 8 ≤ x := by
      rw [i32_le]
      simp only [Int32.reduceToInt]
      omega
    have ex : (x + 1).toInt = x.toInt + 1 := by
      rw [i32_addw]
      simp only [Int32.reduceToInt]
      omega
    have vx : vp_in x 8 := vp_of c1 (by omega)
    have kA : am_AW c_MO_start g_MO_start k 78 [some (.inr (.inl 128)), some (.inl y), some (.inl (x + 1)), none] [] (am_up st 2160 x.toNatClampNeg 0) := by
      refine ih _ _ (by omega) (by omega) (fun a2 => ?_)
      have e1 : (x + 1).toInt.toNat = x.toInt.toNat + 1 := by omega
      have e2 : x.toNatClampNeg = x.toInt.toNat := nn_eq
      rw [e2, am_fill_step e1]
      exact h a2
    clear h
    refine r_il2 (q := 79) d_MO_start_78 rfl ?_
    refine r_bp (v := 8) (q := 81) d_MO_start_79 rfl rfl ?_
    refine r_cge (tgt := 97) (q := 84) d_MO_start_81 rfl rfl (fun e81 => ?_) (fun e81 => ?_)
    · skip
      first | exact kA | exact absurd e81 hlt
    · skip
      refine r_al0 (q := 85) d_MO_start_84 rfl ?_
      refine gt_MO_statics (q := 88) d_MO_start_85 rfl rfl ?_
      refine r_il2 (q := 89) d_MO_start_88 rfl ?_
      refine r_ic (v := 0) (q := 90) d_MO_start_89 rfl rfl ?_
      refine sv_160 (q := 91) d_MO_start_90 ?_ rfl ?_
      · exact vx
      refine r_in2 (v := 1) (q := 94) d_MO_start_91 rfl rfl ?_
      refine am_go (tgt := 78) d_MO_start_94 rfl ?_
      first | exact kA | exact absurd e81 hlt
theorem lp_MO_gv {P st0 C : am_S} {y : Int32} {n : Nat} {k : Option am_V ⊕ Nat → am_S → Prop} (hn : (st0 601 0).toInt = (n : Int)) (h4 : n ≤ 4) {a : Int32} : ∀ (d j : Nat) (x : Int32) (st : am_S), x.toInt = (j : Int) → j + d = n → QM st0 (o_giv C (st0 2159) j) st → (∀ q a3, QM st0 (o_giv C (st0 2159) n) q → am_AW c_MO_start g_MO_start k 131 [some (.inr (.inl 128)), some (.inl y), some (.inl a), a3] [] q) → am_AW c_MO_start g_MO_start k 105 [some (.inr (.inl 128)), some (.inl y), some (.inl a), some (.inl x)] [] st := by
  intro d
  induction d with
  | zero =>
    intro j x st hx hj hq h
    have ej : n = j := by omega
    rw [ej] at h
    have kQ := h st (some (.inl x)) hq
    clear h
    have hge : st 601 0 ≤ x := by
      rw [hq.1 601 rfl, i32_le]
      omega
    refine r_il3 (q := 106) d_MO_start_105 rfl ?_
    refine r_al0 (q := 107) d_MO_start_106 rfl ?_
    refine gt_MO_arguments (q := 110) d_MO_start_107 rfl rfl ?_
    refine r_cge (tgt := 131) (q := 113) d_MO_start_110 rfl rfl (fun e110 => ?_) (fun e110 => ?_)
    · skip
      first | exact kQ | exact absurd hge e110
    · skip
      first | exact kQ | exact absurd hge e110
  | succ d ih =>
    intro j x st hx hj hq h
    have hlt : ¬ st 601 0 ≤ x := by
      rw [hq.1 601 rfl, i32_le]
      omega
    have exn : x.toNatClampNeg = j := by
      rw [nn_eq, hx]
      omega
    have v1 : vp_in x 80 := vp_of (by omega) (by omega)
    have v2 : vp_in x 4 := vp_of (by omega) (by omega)
    have ex : (x + 1).toInt = ((j + 1 : Nat) : Int) := by
      rw [i32_addw, hx]
      simp only [Int32.reduceToInt]
      omega
    have k105 : am_AW c_MO_start g_MO_start k 105 [some (.inr (.inl 128)), some (.inl y), some (.inl a), some (.inl (x + 1))] [] (am_up st 2162 x.toNatClampNeg (st 2159 x.toNatClampNeg)) := by
      refine ih (j + 1) (x + 1) _ ex (by omega) ⟨md_up hq.1 rfl, ?_⟩ h
      rw [exn, hq.1 2159 rfl, ← giv_s]
      exact RM_up hq.2
    clear h
    refine r_il3 (q := 106) d_MO_start_105 rfl ?_
    refine r_al0 (q := 107) d_MO_start_106 rfl ?_
    refine gt_MO_arguments (q := 110) d_MO_start_107 rfl rfl ?_
    refine r_cge (tgt := 131) (q := 113) d_MO_start_110 rfl rfl (fun e110 => ?_) (fun e110 => ?_)
    · skip
      first | exact k105 | exact absurd e110 hlt
    · skip
      refine r_al0 (q := 114) d_MO_start_113 rfl ?_
      refine gt_MO_cell (q := 117) d_MO_start_114 rfl rfl ?_
      refine r_il3 (q := 118) d_MO_start_117 rfl ?_
      refine r_al0 (q := 119) d_MO_start_118 rfl ?_
      refine gt_MO_argument (q := 122) d_MO_start_119 rfl rfl ?_
      refine r_il3 (q := 123) d_MO_start_122 rfl ?_
      refine ld_159 (q := 124) d_MO_start_123 ?_ rfl ?_
      · first | with_reducible exact v1 | with_reducible exact v2
      refine sv_162 (q := 125) d_MO_start_124 ?_ rfl ?_
      · first | with_reducible exact v1 | with_reducible exact v2
      refine r_in3 (v := 1) (q := 128) d_MO_start_125 rfl rfl ?_
      refine am_go (tgt := 105) d_MO_start_128 rfl ?_
      first | exact k105 | exact absurd e110 hlt

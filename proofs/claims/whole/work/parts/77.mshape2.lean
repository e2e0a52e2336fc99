/-! written by wip/whole/gen/walk.py out of 77.mshape2.txt -/
def mS (b : Nat) : Bool := b == 2154
theorem md_S {s t : am_S} (h : am_md mS s t) : am_md mV s t := by
  intro b hb
  refine h b ?_
  unfold mS
  unfold mV at hb
  simp only [beq_eq_false_iff_ne]
  intro q
  subst q
  exact absurd hb (by decide)
theorem iss_of {P st : am_S} {m : Nat} {z : Int32} (hB : ∀ q, q < nl P m → st 2154 (nb P m + q) = if nx P m q = q then 1 else 0) (hb : (nb P m : Int) = (st 2143 m).toInt) (hl : (nl P m : Int) = (st 2144 m).toInt) (h2 : (st 2143 m).toInt + (st 2144 m).toInt ≤ 200) : ((0 ≤ z ∧ z < st 2144 m) ∧ ¬ st 2154 (st 2143 m + z).toNatClampNeg = 0) ↔ isB P m z.toInt := by
  unfold isB
  rw [i32_le, i32_lt]
  simp only [Int32.reduceToInt]
  by_cases h : 0 ≤ z.toInt ∧ z.toInt < (st 2144 m).toInt
  · have e : (st 2143 m + z).toNatClampNeg = nb P m + z.toInt.toNat := by rw [nn_eq, i32_addw]; omega
    rw [e, hB _ (by omega)]
    unfold bg
    by_cases h3 : nx P m z.toInt.toNat = z.toInt.toNat
    · rw [if_pos h3]
      exact ⟨fun _ => ⟨h.1, by omega, h3⟩, fun _ => ⟨h, by decide⟩⟩
    · rw [if_neg h3]
      exact ⟨fun q => absurd rfl q.2, fun q => absurd q.2.2 h3⟩
  · exact ⟨fun q => absurd q.1 h, fun q => absurd ⟨q.1, by omega⟩ h⟩
theorem g_lt {z y : Int32} (q : ¬ y ≤ z) : z < y := by rw [i32_le] at q; rw [i32_lt]; omega
theorem g_nl {z y : Int32} (q : y ≤ z) : ¬ z < y := by rw [i32_le] at q; rw [i32_lt]; omega
theorem lp_MO_sh3 {P st : am_S} {y x z : Int32} {G : Prop} (hP : PM st P) (hV : VP P) (hy : 0 ≤ y.toInt ∧ y.toNatClampNeg < nM P) (hB : ∀ q, q < nl P y.toNatClampNeg → st 2154 (nb P y.toNatClampNeg + q) = if nx P y.toNatClampNeg q = q then 1 else 0) {f : Int32 → am_S → Prop} (h1 : G ∧ SH3 P y.toNatClampNeg → f 1 st) (h2 : ¬ (G ∧ SH3 P y.toNatClampNeg) → f 0 st) : ∀ (d p : Nat) (r w : Int32), p + d = (P 7 y.toNatClampNeg).toInt.toNat → w.toInt = 4 * (y.toNatClampNeg : Int) + p → ((r = 1 ∧ G ∧ ∀ q, q < p → hO P y.toNatClampNeg (4 * y.toNatClampNeg + q)) ∨ (r = 0 ∧ ¬ (G ∧ ∀ q, q < p → hO P y.toNatClampNeg (4 * y.toNatClampNeg + q)))) → am_AW c_MO_shape g_MO_shape (fun o st' => am_ok (some .boolean) o ∧ am_ki f o st') 149 [some (.inr (.inl 128)), some (.inl y), some (.inl x), some (.inl z), some (.inl r), some (.inl w)] [] st := by
  intro d
  obtain ⟨v8, ⟨v1, v2, v3, v4, v5⟩, v6, ⟨-, v7, v9⟩, v10⟩ := mf hP hV hy.2
  have hb : (nb P y.toNatClampNeg : Int) = (st 2143 y.toNatClampNeg).toInt := by unfold nb; rw [← hP.1.2.1 _ hy.2]; omega
  have hl : (nl P y.toNatClampNeg : Int) = (st 2144 y.toNatClampNeg).toInt := by unfold nl; rw [← hP.1.2.2.1]; omega
  have vy : vp_in y 8 := vp_of hy.1 (by rw [nn_eq] at v8; omega)
  have y8 : 0 ≤ y.toInt ∧ y.toInt < 8 := ⟨hy.1, by rw [nn_eq] at v8; omega⟩
  have v11 : (st 2143 y.toNatClampNeg).toInt + (st 2144 y.toNatClampNeg).toInt ≤ 200 := by omega
  have yn : (y.toNatClampNeg : Int) = y.toInt := by rw [nn_eq]; omega
  have kI : ∀ z : Int32, ((0 ≤ z ∧ z < st 2144 y.toNatClampNeg) ∧ ¬ st 2154 (st 2143 y.toNatClampNeg + z).toNatClampNeg = 0) ↔ isB P y.toNatClampNeg z.toInt := fun z => iss_of hB hb hl (by omega)
  have hh : ∀ h, hO P y.toNatClampNeg h ↔ st 2150 h < st 2151 h ∧ ((0 ≤ st 2150 h ∧ st 2150 h < st 2144 y.toNatClampNeg) ∧ ¬ st 2154 (st 2143 y.toNatClampNeg + st 2150 h).toNatClampNeg = 0) ∧ (st 2151 h = st 2144 y.toNatClampNeg ∨ ((0 ≤ st 2151 h ∧ st 2151 h < st 2144 y.toNatClampNeg) ∧ ¬ st 2154 (st 2143 y.toNatClampNeg + st 2151 h).toNatClampNeg = 0)) ∧ ((0 ≤ st 2152 h ∧ st 2152 h < st 2144 y.toNatClampNeg) ∧ ¬ st 2154 (st 2143 y.toNatClampNeg + st 2152 h).toNatClampNeg = 0) ∧ 0 ≤ st 2153 h ∧ st 2153 h ≤ 4 := by
    intro h
    rw [kI, kI, kI]
    unfold hO
    rw [hP.1.2.2.1, hP.2.2.1, hP.2.2.2.1, hP.2.2.2.2.1, hP.2.2.2.2.2.1]
  clear kI hB
  have hc : (P 7 y.toNatClampNeg).toInt = (st 2149 y.toNatClampNeg).toInt := by rw [hP.2.1]
  induction d with
  | zero =>
    intro p r w k1 k2 k3
    rw [hc] at k1
    have k4 : p = (st 2149 y.toNatClampNeg).toInt.toNat := by omega
    rcases k3 with ⟨rfl, g⟩ | ⟨rfl, g⟩
    · skip
      refine r_il5 (q := 151) d_MO_shape_149 rfl ?_
      refine r_ic (v := 4) (q := 152) d_MO_shape_151 rfl rfl ?_
      refine r_il1 (q := 153) d_MO_shape_152 rfl ?_
      refine r_imul (q := 154) d_MO_shape_153 rfl ?_
      refine r_al0 (q := 155) d_MO_shape_154 rfl ?_
      refine gt_MO_handlers (q := 158) d_MO_shape_155 rfl rfl ?_
      refine r_il1 (q := 159) d_MO_shape_158 rfl ?_
      refine ld_149 (q := 160) d_MO_shape_159 ?_ rfl ?_
      · exact vy
      refine r_iadd (q := 161) d_MO_shape_160 rfl ?_
      refine r_cge (tgt := 275) (q := 164) d_MO_shape_161 rfl rfl (fun e161 => ?_) (fun e161 => ?_)
      · skip
        refine r_il4 (q := 277) d_MO_shape_275 rfl ?_
        refine r_rz d_MO_shape_277 (by first | assumption | (refine pc_of hP ?_; (repeat (first | assumption | exact md_refl | refine md_up ?_ rfl | refine md_fill ?_ rfl | (unfold ik; refine md_up ?_ rfl))); done) | (refine pm_of hP ?_; (repeat (first | assumption | exact md_refl | refine md_up ?_ rfl | refine md_fill ?_ rfl | (unfold ik; refine md_up ?_ rfl))); done) | omega | decide | ((try simp +decide only [b01, b10, b11, am_up, ik, and_true, and_false, true_and, false_and, if_true, if_false, nn_eq] at *) <;> (try simp only [sw_or, sw_all, or_false, and_true, i32_lt, i32_le, i32_eq, i32_addw, i32_subw, i32_mulw, Int32.reduceToInt] at *) <;> omega) | (apply_assumption; done)) ?_
        exact h1 ⟨g.1, by unfold SH3; rw [hc, ← k4]; exact g.2⟩
      · skip
        exfalso; clear h1 h2 hh hP hV g; ((try simp +decide only [b01, b10, b11, am_up, ik, and_true, and_false, true_and, false_and, if_true, if_false, nn_eq] at *) <;> (try simp only [sw_or, sw_all, or_false, and_true, i32_lt, i32_le, i32_eq, i32_addw, i32_subw, i32_mulw, Int32.reduceToInt] at *) <;> omega)
    · skip
      refine r_il5 (q := 151) d_MO_shape_149 rfl ?_
      refine r_ic (v := 4) (q := 152) d_MO_shape_151 rfl rfl ?_
      refine r_il1 (q := 153) d_MO_shape_152 rfl ?_
      refine r_imul (q := 154) d_MO_shape_153 rfl ?_
      refine r_al0 (q := 155) d_MO_shape_154 rfl ?_
      refine gt_MO_handlers (q := 158) d_MO_shape_155 rfl rfl ?_
      refine r_il1 (q := 159) d_MO_shape_158 rfl ?_
      refine ld_149 (q := 160) d_MO_shape_159 ?_ rfl ?_
      · exact vy
      refine r_iadd (q := 161) d_MO_shape_160 rfl ?_
      refine r_cge (tgt := 275) (q := 164) d_MO_shape_161 rfl rfl (fun e161 => ?_) (fun e161 => ?_)
      · skip
        refine r_il4 (q := 277) d_MO_shape_275 rfl ?_
        refine r_rz d_MO_shape_277 (by first | assumption | (refine pc_of hP ?_; (repeat (first | assumption | exact md_refl | refine md_up ?_ rfl | refine md_fill ?_ rfl | (unfold ik; refine md_up ?_ rfl))); done) | (refine pm_of hP ?_; (repeat (first | assumption | exact md_refl | refine md_up ?_ rfl | refine md_fill ?_ rfl | (unfold ik; refine md_up ?_ rfl))); done) | omega | decide | ((try simp +decide only [b01, b10, b11, am_up, ik, and_true, and_false, true_and, false_and, if_true, if_false, nn_eq] at *) <;> (try simp only [sw_or, sw_all, or_false, and_true, i32_lt, i32_le, i32_eq, i32_addw, i32_subw, i32_mulw, Int32.reduceToInt] at *) <;> omega) | (apply_assumption; done)) ?_
        exact h2 (fun q => g ⟨q.1, by have := q.2; unfold SH3 at this; rw [hc, ← k4] at this; exact this⟩)
      · skip
        exfalso; clear h1 h2 hh hP hV g; ((try simp +decide only [b01, b10, b11, am_up, ik, and_true, and_false, true_and, false_and, if_true, if_false, nn_eq] at *) <;> (try simp only [sw_or, sw_all, or_false, and_true, i32_lt, i32_le, i32_eq, i32_addw, i32_subw, i32_mulw, Int32.reduceToInt] at *) <;> omega)
  | succ d ih =>
    intro p r w k1 k2 k3
    have hw : w.toNatClampNeg = 4 * y.toNatClampNeg + p := by rw [nn_eq]; omega
    have vw : vp_in w 32 := vp_of (by omega) (by omega)
    have kA : ∀ r', ((r' = 1 ∧ G ∧ ∀ q, q < p + 1 → hO P y.toNatClampNeg (4 * y.toNatClampNeg + q)) ∨ (r' = 0 ∧ ¬ (G ∧ ∀ q, q < p + 1 → hO P y.toNatClampNeg (4 * y.toNatClampNeg + q)))) → am_AW c_MO_shape g_MO_shape (fun o st' => am_ok (some .boolean) o ∧ am_ki f o st') 149 [some (.inr (.inl 128)), some (.inl y), some (.inl x), some (.inl z), some (.inl r'), some (.inl (w + 1))] [] st := fun r' g => ih (p + 1) r' _ (by omega) (by rw [i32_addw]; simp only [Int32.reduceToInt]; omega) g
    clear ih
    rcases k3 with ⟨rfl, g⟩ | ⟨rfl, g⟩
    · have kT : hO P y.toNatClampNeg w.toNatClampNeg → am_AW c_MO_shape g_MO_shape (fun o st' => am_ok (some .boolean) o ∧ am_ki f o st') 149 [some (.inr (.inl 128)), some (.inl y), some (.inl x), some (.inl z), some (.inl 1), some (.inl (w + 1))] [] st := fun q => kA 1 (Or.inl ⟨rfl, g.1, fb_k (Q := fun q => hO P y.toNatClampNeg (4 * y.toNatClampNeg + q)) g.2 (hw ▸ q)⟩)
      have kF : ¬ hO P y.toNatClampNeg w.toNatClampNeg → am_AW c_MO_shape g_MO_shape (fun o st' => am_ok (some .boolean) o ∧ am_ki f o st') 149 [some (.inr (.inl 128)), some (.inl y), some (.inl x), some (.inl z), some (.inl 0), some (.inl (w + 1))] [] st := fun q => kA 0 (Or.inr ⟨rfl, fun z => q (by rw [hw]; exact z.2 p (by omega))⟩)
      rw [hh] at kT kF
      clear kA hh h1 h2 g
      refine r_il5 (q := 151) d_MO_shape_149 rfl ?_
      refine r_ic (v := 4) (q := 152) d_MO_shape_151 rfl rfl ?_
      refine r_il1 (q := 153) d_MO_shape_152 rfl ?_
      refine r_imul (q := 154) d_MO_shape_153 rfl ?_
      refine r_al0 (q := 155) d_MO_shape_154 rfl ?_
      refine gt_MO_handlers (q := 158) d_MO_shape_155 rfl rfl ?_
      refine r_il1 (q := 159) d_MO_shape_158 rfl ?_
      refine ld_149 (q := 160) d_MO_shape_159 ?_ rfl ?_
      · first | exact vy | exact vw
      refine r_iadd (q := 161) d_MO_shape_160 rfl ?_
      refine r_cge (tgt := 275) (q := 164) d_MO_shape_161 rfl rfl (fun e161 => ?_) (fun e161 => ?_)
      · skip
        first | exact kT ⟨g_lt e183, e195, Or.inr e210, e241, e256.1, e256.2⟩ | exact kT ⟨g_lt e183, e195, Or.inl e229, e241, e256.1, e256.2⟩ | exact kF (fun q => g_nl e183 q.1) | exact kF (fun q => e195 q.2.1) | exact kF (fun q => q.2.2.1.elim e229 e210) | exact kF (fun q => e241 q.2.2.2.1) | exact kF (fun q => e256 q.2.2.2.2) | (exfalso; clear hP hV kT kF; ((try simp +decide only [b01, b10, b11, am_up, ik, and_true, and_false, true_and, false_and, if_true, if_false, nn_eq] at *) <;> (try simp only [sw_or, sw_all, or_false, and_true, i32_lt, i32_le, i32_eq, i32_addw, i32_subw, i32_mulw, Int32.reduceToInt] at *) <;> omega))
      · skip
        refine r_il4 (q := 166) d_MO_shape_164 rfl ?_
        refine r_zeq (tgt := 266) (q := 169) d_MO_shape_166 rfl rfl (fun e166 => by exfalso; revert e166; decide) (fun e166 => ?_)
        refine r_al0 (q := 170) d_MO_shape_169 rfl ?_
        refine gt_MO_from (q := 173) d_MO_shape_170 rfl rfl ?_
        refine r_il5 (q := 175) d_MO_shape_173 rfl ?_
        refine ld_150 (q := 176) d_MO_shape_175 ?_ rfl ?_
        · first | exact vy | exact vw
        refine r_al0 (q := 177) d_MO_shape_176 rfl ?_
        refine gt_MO_to (q := 180) d_MO_shape_177 rfl rfl ?_
        refine r_il5 (q := 182) d_MO_shape_180 rfl ?_
        refine ld_151 (q := 183) d_MO_shape_182 ?_ rfl ?_
        · first | exact vy | exact vw
        refine r_cge (tgt := 266) (q := 186) d_MO_shape_183 rfl rfl (fun e183 => ?_) (fun e183 => ?_)
        · skip
          refine r_ic (v := 0) (q := 267) d_MO_shape_266 rfl rfl ?_
          refine r_is4 (q := 269) d_MO_shape_267 rfl ?_
          refine r_in5 (v := 1) (q := 272) d_MO_shape_269 rfl rfl ?_
          refine am_go (tgt := 149) d_MO_shape_272 rfl ?_
          first | exact kT ⟨g_lt e183, e195, Or.inr e210, e241, e256.1, e256.2⟩ | exact kT ⟨g_lt e183, e195, Or.inl e229, e241, e256.1, e256.2⟩ | exact kF (fun q => g_nl e183 q.1) | exact kF (fun q => e195 q.2.1) | exact kF (fun q => q.2.2.1.elim e229 e210) | exact kF (fun q => e241 q.2.2.2.1) | exact kF (fun q => e256 q.2.2.2.2) | (exfalso; clear hP hV kT kF; ((try simp +decide only [b01, b10, b11, am_up, ik, and_true, and_false, true_and, false_and, if_true, if_false, nn_eq] at *) <;> (try simp only [sw_or, sw_all, or_false, and_true, i32_lt, i32_le, i32_eq, i32_addw, i32_subw, i32_mulw, Int32.reduceToInt] at *) <;> omega))
        · skip
          refine r_al0 (q := 187) d_MO_shape_186 rfl ?_
          refine r_il1 (q := 188) d_MO_shape_187 rfl ?_
          refine r_al0 (q := 189) d_MO_shape_188 rfl ?_
          refine gt_MO_from (q := 192) d_MO_shape_189 rfl rfl ?_
          refine r_il5 (q := 194) d_MO_shape_192 rfl ?_
          refine ld_150 (q := 195) d_MO_shape_194 ?_ rfl ?_
          · first | exact vy | exact vw
          refine r_vi2 mo_MO_isStart d_MO_shape_195 rfl rfl rfl (q := 198) rfl ?_
          refine sp_MO_isStart (by first | assumption | (refine pc_of hP ?_; (repeat (first | assumption | exact md_refl | refine md_up ?_ rfl | refine md_fill ?_ rfl | (unfold ik; refine md_up ?_ rfl))); done) | (refine pm_of hP ?_; (repeat (first | assumption | exact md_refl | refine md_up ?_ rfl | refine md_fill ?_ rfl | (unfold ik; refine md_up ?_ rfl))); done) | omega | decide | ((try simp +decide only [b01, b10, b11, am_up, ik, and_true, and_false, true_and, false_and, if_true, if_false, nn_eq] at *) <;> (try simp only [sw_or, sw_all, or_false, and_true, i32_lt, i32_le, i32_eq, i32_addw, i32_subw, i32_mulw, Int32.reduceToInt] at *) <;> omega) | (apply_assumption; done)) (by first | assumption | (refine pc_of hP ?_; (repeat (first | assumption | exact md_refl | refine md_up ?_ rfl | refine md_fill ?_ rfl | (unfold ik; refine md_up ?_ rfl))); done) | (refine pm_of hP ?_; (repeat (first | assumption | exact md_refl | refine md_up ?_ rfl | refine md_fill ?_ rfl | (unfold ik; refine md_up ?_ rfl))); done) | omega | decide | ((try simp +decide only [b01, b10, b11, am_up, ik, and_true, and_false, true_and, false_and, if_true, if_false, nn_eq] at *) <;> (try simp only [sw_or, sw_all, or_false, and_true, i32_lt, i32_le, i32_eq, i32_addw, i32_subw, i32_mulw, Int32.reduceToInt] at *) <;> omega) | (apply_assumption; done)) (by first | assumption | (refine pc_of hP ?_; (repeat (first | assumption | exact md_refl | refine md_up ?_ rfl | refine md_fill ?_ rfl | (unfold ik; refine md_up ?_ rfl))); done) | (refine pm_of hP ?_; (repeat (first | assumption | exact md_refl | refine md_up ?_ rfl | refine md_fill ?_ rfl | (unfold ik; refine md_up ?_ rfl))); done) | omega | decide | ((try simp +decide only [b01, b10, b11, am_up, ik, and_true, and_false, true_and, false_and, if_true, if_false, nn_eq] at *) <;> (try simp only [sw_or, sw_all, or_false, and_true, i32_lt, i32_le, i32_eq, i32_addw, i32_subw, i32_mulw, Int32.reduceToInt] at *) <;> omega) | (apply_assumption; done)) (fun e195 => ?_) (fun e195 => ?_)
          · skip
            refine r_zeq (tgt := 266) (q := 201) d_MO_shape_198 rfl rfl (fun e198 => by exfalso; revert e198; decide) (fun e198 => ?_)
            refine r_al0 (q := 202) d_MO_shape_201 rfl ?_
            refine r_il1 (q := 203) d_MO_shape_202 rfl ?_
            refine r_al0 (q := 204) d_MO_shape_203 rfl ?_
            refine gt_MO_to (q := 207) d_MO_shape_204 rfl rfl ?_
            refine r_il5 (q := 209) d_MO_shape_207 rfl ?_
            refine ld_151 (q := 210) d_MO_shape_209 ?_ rfl ?_
            · first | exact vy | exact vw
            refine r_vi2 mo_MO_isStart d_MO_shape_210 rfl rfl rfl (q := 213) rfl ?_
            refine sp_MO_isStart (by first | assumption | (refine pc_of hP ?_; (repeat (first | assumption | exact md_refl | refine md_up ?_ rfl | refine md_fill ?_ rfl | (unfold ik; refine md_up ?_ rfl))); done) | (refine pm_of hP ?_; (repeat (first | assumption | exact md_refl | refine md_up ?_ rfl | refine md_fill ?_ rfl | (unfold ik; refine md_up ?_ rfl))); done) | omega | decide | ((try simp +decide only [b01, b10, b11, am_up, ik, and_true, and_false, true_and, false_and, if_true, if_false, nn_eq] at *) <;> (try simp only [sw_or, sw_all, or_false, and_true, i32_lt, i32_le, i32_eq, i32_addw, i32_subw, i32_mulw, Int32.reduceToInt] at *) <;> omega) | (apply_assumption; done)) (by first | assumption | (refine pc_of hP ?_; (repeat (first | assumption | exact md_refl | refine md_up ?_ rfl | refine md_fill ?_ rfl | (unfold ik; refine md_up ?_ rfl))); done) | (refine pm_of hP ?_; (repeat (first | assumption | exact md_refl | refine md_up ?_ rfl | refine md_fill ?_ rfl | (unfold ik; refine md_up ?_ rfl))); done) | omega | decide | ((try simp +decide only [b01, b10, b11, am_up, ik, and_true, and_false, true_and, false_and, if_true, if_false, nn_eq] at *) <;> (try simp only [sw_or, sw_all, or_false, and_true, i32_lt, i32_le, i32_eq, i32_addw, i32_subw, i32_mulw, Int32.reduceToInt] at *) <;> omega) | (apply_assumption; done)) (by first | assumption | (refine pc_of hP ?_; (repeat (first | assumption | exact md_refl | refine md_up ?_ rfl | refine md_fill ?_ rfl | (unfold ik; refine md_up ?_ rfl))); done) | (refine pm_of hP ?_; (repeat (first | assumption | exact md_refl | refine md_up ?_ rfl | refine md_fill ?_ rfl | (unfold ik; refine md_up ?_ rfl))); done) | omega | decide | ((try simp +decide only [b01, b10, b11, am_up, ik, and_true, and_false, true_and, false_and, if_true, if_false, nn_eq] at *) <;> (try simp only [sw_or, sw_all, or_false, and_true, i32_lt, i32_le, i32_eq, i32_addw, i32_subw, i32_mulw, Int32.reduceToInt] at *) <;> omega) | (apply_assumption; done)) (fun e210 => ?_) (fun e210 => ?_)
            · skip
              refine r_zne (tgt := 232) (q := 216) d_MO_shape_213 rfl rfl (fun e213 => ?_) (fun e213 => by exfalso; revert e213; decide)
              refine r_al0 (q := 233) d_MO_shape_232 rfl ?_
              refine r_il1 (q := 234) d_MO_shape_233 rfl ?_
              refine r_al0 (q := 235) d_MO_shape_234 rfl ?_
              refine gt_MO_target (q := 238) d_MO_shape_235 rfl rfl ?_
              refine r_il5 (q := 240) d_MO_shape_238 rfl ?_
              refine ld_152 (q := 241) d_MO_shape_240 ?_ rfl ?_
              · first | exact vy | exact vw
              refine r_vi2 mo_MO_isStart d_MO_shape_241 rfl rfl rfl (q := 244) rfl ?_
              refine sp_MO_isStart (by first | assumption | (refine pc_of hP ?_; (repeat (first | assumption | exact md_refl | refine md_up ?_ rfl | refine md_fill ?_ rfl | (unfold ik; refine md_up ?_ rfl))); done) | (refine pm_of hP ?_; (repeat (first | assumption | exact md_refl | refine md_up ?_ rfl | refine md_fill ?_ rfl | (unfold ik; refine md_up ?_ rfl))); done) | omega | decide | ((try simp +decide only [b01, b10, b11, am_up, ik, and_true, and_false, true_and, false_and, if_true, if_false, nn_eq] at *) <;> (try simp only [sw_or, sw_all, or_false, and_true, i32_lt, i32_le, i32_eq, i32_addw, i32_subw, i32_mulw, Int32.reduceToInt] at *) <;> omega) | (apply_assumption; done)) (by first | assumption | (refine pc_of hP ?_; (repeat (first | assumption | exact md_refl | refine md_up ?_ rfl | refine md_fill ?_ rfl | (unfold ik; refine md_up ?_ rfl))); done) | (refine pm_of hP ?_; (repeat (first | assumption | exact md_refl | refine md_up ?_ rfl | refine md_fill ?_ rfl | (unfold ik; refine md_up ?_ rfl))); done) | omega | decide | ((try simp +decide only [b01, b10, b11, am_up, ik, and_true, and_false, true_and, false_and, if_true, if_false, nn_eq] at *) <;> (try simp only [sw_or, sw_all, or_false, and_true, i32_lt, i32_le, i32_eq, i32_addw, i32_subw, i32_mulw, Int32.reduceToInt] at *) <;> omega) | (apply_assumption; done)) (by first | assumption | (refine pc_of hP ?_; (repeat (first | assumption | exact md_refl | refine md_up ?_ rfl | refine md_fill ?_ rfl | (unfold ik; refine md_up ?_ rfl))); done) | (refine pm_of hP ?_; (repeat (first | assumption | exact md_refl | refine md_up ?_ rfl | refine md_fill ?_ rfl | (unfold ik; refine md_up ?_ rfl))); done) | omega | decide | ((try simp +decide only [b01, b10, b11, am_up, ik, and_true, and_false, true_and, false_and, if_true, if_false, nn_eq] at *) <;> (try simp only [sw_or, sw_all, or_false, and_true, i32_lt, i32_le, i32_eq, i32_addw, i32_subw, i32_mulw, Int32.reduceToInt] at *) <;> omega) | (apply_assumption; done)) (fun e241 => ?_) (fun e241 => ?_)
              · skip
                refine r_zeq (tgt := 266) (q := 247) d_MO_shape_244 rfl rfl (fun e244 => by exfalso; revert e244; decide) (fun e244 => ?_)
                refine r_al0 (q := 248) d_MO_shape_247 rfl ?_
                refine gt_MO_kind (q := 251) d_MO_shape_248 rfl rfl ?_
                refine r_il5 (q := 253) d_MO_shape_251 rfl ?_
                refine ld_153 (q := 254) d_MO_shape_253 ?_ rfl ?_
                · first | exact vy | exact vw
                refine r_ic (v := 0) (q := 255) d_MO_shape_254 rfl rfl ?_
                refine r_ic (v := 4) (q := 256) d_MO_shape_255 rfl rfl ?_
                refine r_si3 mo_MO_in d_MO_shape_256 rfl rfl (q := 259) rfl ?_
                refine sq_MO_in (fun e256 => ?_) (fun e256 => ?_)
                · skip
                  refine r_zeq (tgt := 266) (q := 262) d_MO_shape_259 rfl rfl (fun e259 => by exfalso; revert e259; decide) (fun e259 => ?_)
                  refine r_ic (v := 1) (q := 263) d_MO_shape_262 rfl rfl ?_
                  refine am_go (tgt := 267) d_MO_shape_263 rfl ?_
                  refine r_is4 (q := 269) d_MO_shape_267 rfl ?_
                  refine r_in5 (v := 1) (q := 272) d_MO_shape_269 rfl rfl ?_
                  refine am_go (tgt := 149) d_MO_shape_272 rfl ?_
                  first | exact kT ⟨g_lt e183, e195, Or.inr e210, e241, e256.1, e256.2⟩ | exact kT ⟨g_lt e183, e195, Or.inl e229, e241, e256.1, e256.2⟩ | exact kF (fun q => g_nl e183 q.1) | exact kF (fun q => e195 q.2.1) | exact kF (fun q => q.2.2.1.elim e229 e210) | exact kF (fun q => e241 q.2.2.2.1) | exact kF (fun q => e256 q.2.2.2.2) | (exfalso; clear hP hV kT kF; ((try simp +decide only [b01, b10, b11, am_up, ik, and_true, and_false, true_and, false_and, if_true, if_false, nn_eq] at *) <;> (try simp only [sw_or, sw_all, or_false, and_true, i32_lt, i32_le, i32_eq, i32_addw, i32_subw, i32_mulw, Int32.reduceToInt] at *) <;> omega))
                · skip
                  refine r_zeq (tgt := 266) (q := 262) d_MO_shape_259 rfl rfl (fun e259 => ?_) (fun e259 => by exfalso; revert e259; decide)
                  refine r_ic (v := 0) (q := 267) d_MO_shape_266 rfl rfl ?_
                  refine r_is4 (q := 269) d_MO_shape_267 rfl ?_
                  refine r_in5 (v := 1) (q := 272) d_MO_shape_269 rfl rfl ?_
                  refine am_go (tgt := 149) d_MO_shape_272 rfl ?_
                  first | exact kT ⟨g_lt e183, e195, Or.inr e210, e241, e256.1, e256.2⟩ | exact kT ⟨g_lt e183, e195, Or.inl e229, e241, e256.1, e256.2⟩ | exact kF (fun q => g_nl e183 q.1) | exact kF (fun q => e195 q.2.1) | exact kF (fun q => q.2.2.1.elim e229 e210) | exact kF (fun q => e241 q.2.2.2.1) | exact kF (fun q => e256 q.2.2.2.2) | (exfalso; clear hP hV kT kF; ((try simp +decide only [b01, b10, b11, am_up, ik, and_true, and_false, true_and, false_and, if_true, if_false, nn_eq] at *) <;> (try simp only [sw_or, sw_all, or_false, and_true, i32_lt, i32_le, i32_eq, i32_addw, i32_subw, i32_mulw, Int32.reduceToInt] at *) <;> omega))
              · skip
                refine r_zeq (tgt := 266) (q := 247) d_MO_shape_244 rfl rfl (fun e244 => ?_) (fun e244 => by exfalso; revert e244; decide)
                refine r_ic (v := 0) (q := 267) d_MO_shape_266 rfl rfl ?_
                refine r_is4 (q := 269) d_MO_shape_267 rfl ?_
                refine r_in5 (v := 1) (q := 272) d_MO_shape_269 rfl rfl ?_
                refine am_go (tgt := 149) d_MO_shape_272 rfl ?_
                first | exact kT ⟨g_lt e183, e195, Or.inr e210, e241, e256.1, e256.2⟩ | exact kT ⟨g_lt e183, e195, Or.inl e229, e241, e256.1, e256.2⟩ | exact kF (fun q => g_nl e183 q.1) | exact kF (fun q => e195 q.2.1) | exact kF (fun q => q.2.2.1.elim e229 e210) | exact kF (fun q => e241 q.2.2.2.1) | exact kF (fun q => e256 q.2.2.2.2) | (exfalso; clear hP hV kT kF; ((try simp +decide only [b01, b10, b11, am_up, ik, and_true, and_false, true_and, false_and, if_true, if_false, nn_eq] at *) <;> (try simp only [sw_or, sw_all, or_false, and_true, i32_lt, i32_le, i32_eq, i32_addw, i32_subw, i32_mulw, Int32.reduceToInt] at *) <;> omega))
            · skip
              refine r_zne (tgt := 232) (q := 216) d_MO_shape_213 rfl rfl (fun e213 => by exfalso; revert e213; decide) (fun e213 => ?_)
              refine r_al0 (q := 217) d_MO_shape_216 rfl ?_
              refine gt_MO_to (q := 220) d_MO_shape_217 rfl rfl ?_
              refine r_il5 (q := 222) d_MO_shape_220 rfl ?_
              refine ld_151 (q := 223) d_MO_shape_222 ?_ rfl ?_
              · first | exact vy | exact vw
              refine r_al0 (q := 224) d_MO_shape_223 rfl ?_
              refine gt_MO_length (q := 227) d_MO_shape_224 rfl rfl ?_
              refine r_il1 (q := 228) d_MO_shape_227 rfl ?_
              refine ld_144 (q := 229) d_MO_shape_228 ?_ rfl ?_
              · first | exact vy | exact vw
              refine r_cne (tgt := 266) (q := 232) d_MO_shape_229 rfl rfl (fun e229 => ?_) (fun e229 => ?_)
              · skip
                refine r_ic (v := 0) (q := 267) d_MO_shape_266 rfl rfl ?_
                refine r_is4 (q := 269) d_MO_shape_267 rfl ?_
                refine r_in5 (v := 1) (q := 272) d_MO_shape_269 rfl rfl ?_
                refine am_go (tgt := 149) d_MO_shape_272 rfl ?_
                first | exact kT ⟨g_lt e183, e195, Or.inr e210, e241, e256.1, e256.2⟩ | exact kT ⟨g_lt e183, e195, Or.inl e229, e241, e256.1, e256.2⟩ | exact kF (fun q => g_nl e183 q.1) | exact kF (fun q => e195 q.2.1) | exact kF (fun q => q.2.2.1.elim e229 e210) | exact kF (fun q => e241 q.2.2.2.1) | exact kF (fun q => e256 q.2.2.2.2) | (exfalso; clear hP hV kT kF; ((try simp +decide only [b01, b10, b11, am_up, ik, and_true, and_false, true_and, false_and, if_true, if_false, nn_eq] at *) <;> (try simp only [sw_or, sw_all, or_false, and_true, i32_lt, i32_le, i32_eq, i32_addw, i32_subw, i32_mulw, Int32.reduceToInt] at *) <;> omega))
              · skip
                refine r_al0 (q := 233) d_MO_shape_232 rfl ?_
                refine r_il1 (q := 234) d_MO_shape_233 rfl ?_
                refine r_al0 (q := 235) d_MO_shape_234 rfl ?_
                refine gt_MO_target (q := 238) d_MO_shape_235 rfl rfl ?_
                refine r_il5 (q := 240) d_MO_shape_238 rfl ?_
                refine ld_152 (q := 241) d_MO_shape_240 ?_ rfl ?_
                · first | exact vy | exact vw
                refine r_vi2 mo_MO_isStart d_MO_shape_241 rfl rfl rfl (q := 244) rfl ?_
                refine sp_MO_isStart (by first | assumption | (refine pc_of hP ?_; (repeat (first | assumption | exact md_refl | refine md_up ?_ rfl | refine md_fill ?_ rfl | (unfold ik; refine md_up ?_ rfl))); done) | (refine pm_of hP ?_; (repeat (first | assumption | exact md_refl | refine md_up ?_ rfl | refine md_fill ?_ rfl | (unfold ik; refine md_up ?_ rfl))); done) | omega | decide | ((try simp +decide only [b01, b10, b11, am_up, ik, and_true, and_false, true_and, false_and, if_true, if_false, nn_eq] at *) <;> (try simp only [sw_or, sw_all, or_false, and_true, i32_lt, i32_le, i32_eq, i32_addw, i32_subw, i32_mulw, Int32.reduceToInt] at *) <;> omega) | (apply_assumption; done)) (by first | assumption | (refine pc_of hP ?_; (repeat (first | assumption | exact md_refl | refine md_up ?_ rfl | refine md_fill ?_ rfl | (unfold ik; refine md_up ?_ rfl))); done) | (refine pm_of hP ?_; (repeat (first | assumption | exact md_refl | refine md_up ?_ rfl | refine md_fill ?_ rfl | (unfold ik; refine md_up ?_ rfl))); done) | omega | decide | ((try simp +decide only [b01, b10, b11, am_up, ik, and_true, and_false, true_and, false_and, if_true, if_false, nn_eq] at *) <;> (try simp only [sw_or, sw_all, or_false, and_true, i32_lt, i32_le, i32_eq, i32_addw, i32_subw, i32_mulw, Int32.reduceToInt] at *) <;> omega) | (apply_assumption; done)) (by first | assumption | (refine pc_of hP ?_; (repeat (first | assumption | exact md_refl | refine md_up ?_ rfl | refine md_fill ?_ rfl | (unfold ik; refine md_up ?_ rfl))); done) | (refine pm_of hP ?_; (repeat (first | assumption | exact md_refl | refine md_up ?_ rfl | refine md_fill ?_ rfl | (unfold ik; refine md_up ?_ rfl))); done) | omega | decide | ((try simp +decide only [b01, b10, b11, am_up, ik, and_true, and_false, true_and, false_and, if_true, if_false, nn_eq] at *) <;> (try simp only [sw_or, sw_all, or_false, and_true, i32_lt, i32_le, i32_eq, i32_addw, i32_subw, i32_mulw, Int32.reduceToInt] at *) <;> omega) | (apply_assumption; done)) (fun e241 => ?_) (fun e241 => ?_)
                · skip
                  refine r_zeq (tgt := 266) (q := 247) d_MO_shape_244 rfl rfl (fun e244 => by exfalso; revert e244; decide) (fun e244 => ?_)
                  refine r_al0 (q := 248) d_MO_shape_247 rfl ?_
                  refine gt_MO_kind (q := 251) d_MO_shape_248 rfl rfl ?_
                  refine r_il5 (q := 253) d_MO_shape_251 rfl ?_
                  refine ld_153 (q := 254) d_MO_shape_253 ?_ rfl ?_
                  · first | exact vy | exact vw
                  refine r_ic (v := 0) (q := 255) d_MO_shape_254 rfl rfl ?_
                  refine r_ic (v := 4) (q := 256) d_MO_shape_255 rfl rfl ?_
                  refine r_si3 mo_MO_in d_MO_shape_256 rfl rfl (q := 259) rfl ?_
                  refine sq_MO_in (fun e256 => ?_) (fun e256 => ?_)
                  · skip
                    refine r_zeq (tgt := 266) (q := 262) d_MO_shape_259 rfl rfl (fun e259 => by exfalso; revert e259; decide) (fun e259 => ?_)
                    refine r_ic (v := 1) (q := 263) d_MO_shape_262 rfl rfl ?_
                    refine am_go (tgt := 267) d_MO_shape_263 rfl ?_
                    refine r_is4 (q := 269) d_MO_shape_267 rfl ?_
                    refine r_in5 (v := 1) (q := 272) d_MO_shape_269 rfl rfl ?_
                    refine am_go (tgt := 149) d_MO_shape_272 rfl ?_
                    first | exact kT ⟨g_lt e183, e195, Or.inr e210, e241, e256.1, e256.2⟩ | exact kT ⟨g_lt e183, e195, Or.inl e229, e241, e256.1, e256.2⟩ | exact kF (fun q => g_nl e183 q.1) | exact kF (fun q => e195 q.2.1) | exact kF (fun q => q.2.2.1.elim e229 e210) | exact kF (fun q => e241 q.2.2.2.1) | exact kF (fun q => e256 q.2.2.2.2) | (exfalso; clear hP hV kT kF; ((try simp +decide only [b01, b10, b11, am_up, ik, and_true, and_false, true_and, false_and, if_true, if_false, nn_eq] at *) <;> (try simp only [sw_or, sw_all, or_false, and_true, i32_lt, i32_le, i32_eq, i32_addw, i32_subw, i32_mulw, Int32.reduceToInt] at *) <;> omega))
                  · skip
                    refine r_zeq (tgt := 266) (q := 262) d_MO_shape_259 rfl rfl (fun e259 => ?_) (fun e259 => by exfalso; revert e259; decide)
                    refine r_ic (v := 0) (q := 267) d_MO_shape_266 rfl rfl ?_
                    refine r_is4 (q := 269) d_MO_shape_267 rfl ?_
                    refine r_in5 (v := 1) (q := 272) d_MO_shape_269 rfl rfl ?_
                    refine am_go (tgt := 149) d_MO_shape_272 rfl ?_
                    first | exact kT ⟨g_lt e183, e195, Or.inr e210, e241, e256.1, e256.2⟩ | exact kT ⟨g_lt e183, e195, Or.inl e229, e241, e256.1, e256.2⟩ | exact kF (fun q => g_nl e183 q.1) | exact kF (fun q => e195 q.2.1) | exact kF (fun q => q.2.2.1.elim e229 e210) | exact kF (fun q => e241 q.2.2.2.1) | exact kF (fun q => e256 q.2.2.2.2) | (exfalso; clear hP hV kT kF; ((try simp +decide only [b01, b10, b11, am_up, ik, and_true, and_false, true_and, false_and, if_true, if_false, nn_eq] at *) <;> (try simp only [sw_or, sw_all, or_false, and_true, i32_lt, i32_le, i32_eq, i32_addw, i32_subw, i32_mulw, Int32.reduceToInt] at *) <;> omega))
                · skip
                  refine r_zeq (tgt := 266) (q := 247) d_MO_shape_244 rfl rfl (fun e244 => ?_) (fun e244 => by exfalso; revert e244; decide)
                  refine r_ic (v := 0) (q := 267) d_MO_shape_266 rfl rfl ?_
                  refine r_is4 (q := 269) d_MO_shape_267 rfl ?_
                  refine r_in5 (v := 1) (q := 272) d_MO_shape_269 rfl rfl ?_
                  refine am_go (tgt := 149) d_MO_shape_272 rfl ?_
                  first | exact kT ⟨g_lt e183, e195, Or.inr e210, e241, e256.1, e256.2⟩ | exact kT ⟨g_lt e183, e195, Or.inl e229, e241, e256.1, e256.2⟩ | exact kF (fun q => g_nl e183 q.1) | exact kF (fun q => e195 q.2.1) | exact kF (fun q => q.2.2.1.elim e229 e210) | exact kF (fun q => e241 q.2.2.2.1) | exact kF (fun q => e256 q.2.2.2.2) | (exfalso; clear hP hV kT kF; ((try simp +decide only [b01, b10, b11, am_up, ik, and_true, and_false, true_and, false_and, if_true, if_false, nn_eq] at *) <;> (try simp only [sw_or, sw_all, or_false, and_true, i32_lt, i32_le, i32_eq, i32_addw, i32_subw, i32_mulw, Int32.reduceToInt] at *) <;> omega))
          · skip
            refine r_zeq (tgt := 266) (q := 201) d_MO_shape_198 rfl rfl (fun e198 => ?_) (fun e198 => by exfalso; revert e198; decide)
            refine r_ic (v := 0) (q := 267) d_MO_shape_266 rfl rfl ?_
            refine r_is4 (q := 269) d_MO_shape_267 rfl ?_
            refine r_in5 (v := 1) (q := 272) d_MO_shape_269 rfl rfl ?_
            refine am_go (tgt := 149) d_MO_shape_272 rfl ?_
            first | exact kT ⟨g_lt e183, e195, Or.inr e210, e241, e256.1, e256.2⟩ | exact kT ⟨g_lt e183, e195, Or.inl e229, e241, e256.1, e256.2⟩ | exact kF (fun q => g_nl e183 q.1) | exact kF (fun q => e195 q.2.1) | exact kF (fun q => q.2.2.1.elim e229 e210) | exact kF (fun q => e241 q.2.2.2.1) | exact kF (fun q => e256 q.2.2.2.2) | (exfalso; clear hP hV kT kF; ((try simp +decide only [b01, b10, b11, am_up, ik, and_true, and_false, true_and, false_and, if_true, if_false, nn_eq] at *) <;> (try simp only [sw_or, sw_all, or_false, and_true, i32_lt, i32_le, i32_eq, i32_addw, i32_subw, i32_mulw, Int32.reduceToInt] at *) <;> omega))
    · skip
      refine r_il5 (q := 151) d_MO_shape_149 rfl ?_
      refine r_ic (v := 4) (q := 152) d_MO_shape_151 rfl rfl ?_
      refine r_il1 (q := 153) d_MO_shape_152 rfl ?_
      refine r_imul (q := 154) d_MO_shape_153 rfl ?_
      refine r_al0 (q := 155) d_MO_shape_154 rfl ?_
      refine gt_MO_handlers (q := 158) d_MO_shape_155 rfl rfl ?_
      refine r_il1 (q := 159) d_MO_shape_158 rfl ?_
      refine ld_149 (q := 160) d_MO_shape_159 ?_ rfl ?_
      · exact vy
      refine r_iadd (q := 161) d_MO_shape_160 rfl ?_
      refine r_cge (tgt := 275) (q := 164) d_MO_shape_161 rfl rfl (fun e161 => ?_) (fun e161 => ?_)
      · skip
        first | exact kA 0 (Or.inr ⟨rfl, fun z => g ⟨z.1, fun q hq => z.2 q (by omega)⟩⟩) | (exfalso; clear hP hV h1 h2 kA hh g; ((try simp +decide only [b01, b10, b11, am_up, ik, and_true, and_false, true_and, false_and, if_true, if_false, nn_eq] at *) <;> (try simp only [sw_or, sw_all, or_false, and_true, i32_lt, i32_le, i32_eq, i32_addw, i32_subw, i32_mulw, Int32.reduceToInt] at *) <;> omega))
      · skip
        refine r_il4 (q := 166) d_MO_shape_164 rfl ?_
        refine r_zeq (tgt := 266) (q := 169) d_MO_shape_166 rfl rfl (fun e166 => ?_) (fun e166 => by exfalso; revert e166; decide)
        refine r_ic (v := 0) (q := 267) d_MO_shape_266 rfl rfl ?_
        refine r_is4 (q := 269) d_MO_shape_267 rfl ?_
        refine r_in5 (v := 1) (q := 272) d_MO_shape_269 rfl rfl ?_
        refine am_go (tgt := 149) d_MO_shape_272 rfl ?_
        first | exact kA 0 (Or.inr ⟨rfl, fun z => g ⟨z.1, fun q hq => z.2 q (by omega)⟩⟩) | (exfalso; clear hP hV h1 h2 kA hh g; ((try simp +decide only [b01, b10, b11, am_up, ik, and_true, and_false, true_and, false_and, if_true, if_false, nn_eq] at *) <;> (try simp only [sw_or, sw_all, or_false, and_true, i32_lt, i32_le, i32_eq, i32_addw, i32_subw, i32_mulw, Int32.reduceToInt] at *) <;> omega))
theorem lp_MO_sh2 {P st : am_S} {y x z : Int32} (hP : PM st P) (hV : VP P) (hy : 0 ≤ y.toInt ∧ y.toNatClampNeg < nM P) (hz : z.toInt = (nb P y.toNatClampNeg : Int) + nl P y.toNatClampNeg) (hS : SH1 P y.toNatClampNeg) (hB : ∀ q, q < nl P y.toNatClampNeg → st 2154 (nb P y.toNatClampNeg + q) = if nx P y.toNatClampNeg q = q then 1 else 0) {f : Int32 → am_S → Prop} (h1 : SH2 P y.toNatClampNeg ∧ SH3 P y.toNatClampNeg → f 1 st) (h2 : ¬ (SH2 P y.toNatClampNeg ∧ SH3 P y.toNatClampNeg) → f 0 st) : ∀ (d p : Nat) (r w : Int32), p + d = nl P y.toNatClampNeg → w.toInt = (nb P y.toNatClampNeg : Int) + p → ((r = 1 ∧ ∀ q, q < p → bg P y.toNatClampNeg q → op_jump (pO P (nb P y.toNatClampNeg + q)) → isB P y.toNatClampNeg ((q : Int) + (pN P (nb P y.toNatClampNeg + q)).toInt)) ∨ (r = 0 ∧ ¬ (∀ q, q < p → bg P y.toNatClampNeg q → op_jump (pO P (nb P y.toNatClampNeg + q)) → isB P y.toNatClampNeg ((q : Int) + (pN P (nb P y.toNatClampNeg + q)).toInt)))) → am_AW c_MO_shape g_MO_shape (fun o st' => am_ok (some .boolean) o ∧ am_ki f o st') 71 [some (.inr (.inl 128)), some (.inl y), some (.inl x), some (.inl z), some (.inl r), some (.inl w)] [] st := by
  intro d
  obtain ⟨v8, ⟨v1, v2, v3, v4, v5⟩, v6, ⟨-, v7, v9⟩, v10⟩ := mf hP hV hy.2
  have hb : (nb P y.toNatClampNeg : Int) = (st 2143 y.toNatClampNeg).toInt := by unfold nb; rw [← hP.1.2.1 _ hy.2]; omega
  have hl : (nl P y.toNatClampNeg : Int) = (st 2144 y.toNatClampNeg).toInt := by unfold nl; rw [← hP.1.2.2.1]; omega
  have vy : vp_in y 8 := vp_of hy.1 (by rw [nn_eq] at v8; omega)
  have vy9 : vp_in y 9 := vp_of hy.1 (by rw [nn_eq] at v8; omega)
  have y8 : 0 ≤ y.toInt ∧ y.toInt < 8 := ⟨hy.1, by rw [nn_eq] at v8; omega⟩
  have v11 : (st 2143 y.toNatClampNeg).toInt + (st 2144 y.toNatClampNeg).toInt ≤ 200 := by omega
  have kI : ∀ z : Int32, ((0 ≤ z ∧ z < st 2144 y.toNatClampNeg) ∧ ¬ st 2154 (st 2143 y.toNatClampNeg + z).toNatClampNeg = 0) ↔ isB P y.toNatClampNeg z.toInt := fun z => iss_of hB hb hl (by omega)
  have y4 : (4 * y).toInt = 4 * (y.toNatClampNeg : Int) + 0 := by
    rw [i32_mulw, nn_eq]
    simp only [Int32.reduceToInt]
    omega
  induction d with
  | zero =>
    intro p r w k1 k2 k3
    have k4 : p = nl P y.toNatClampNeg := by omega
    have k5 : (r = 1 ∧ SH2 P y.toNatClampNeg ∧ ∀ q, q < 0 → hO P y.toNatClampNeg (4 * y.toNatClampNeg + q)) ∨ (r = 0 ∧ ¬ (SH2 P y.toNatClampNeg ∧ ∀ q, q < 0 → hO P y.toNatClampNeg (4 * y.toNatClampNeg + q))) := by
      subst k4
      rcases k3 with ⟨e, g⟩ | ⟨e, g⟩
      · exact Or.inl ⟨e, g, fun q hq => absurd hq (by omega)⟩
      · exact Or.inr ⟨e, fun q => g q.1⟩
    refine r_il5 (q := 73) d_MO_shape_71 rfl ?_
    refine r_il3 (q := 74) d_MO_shape_73 rfl ?_
    refine r_cge (tgt := 144) (q := 77) d_MO_shape_74 rfl rfl (fun e74 => ?_) (fun e74 => ?_)
    · skip
      refine r_ic (v := 4) (q := 145) d_MO_shape_144 rfl rfl ?_
      refine r_il1 (q := 146) d_MO_shape_145 rfl ?_
      refine r_imul (q := 147) d_MO_shape_146 rfl ?_
      refine r_is5 (q := 149) d_MO_shape_147 rfl ?_
      first | exact lp_MO_sh3 hP hV hy hB h1 h2 _ 0 _ _ (Nat.zero_add _) y4 k5 | (exfalso; clear h1 h2 hP hV k3 k5 hB kI hS; ((try simp +decide only [b01, b10, b11, am_up, ik, and_true, and_false, true_and, false_and, if_true, if_false, nn_eq] at *) <;> (try simp only [sw_or, sw_all, or_false, and_true, i32_lt, i32_le, i32_eq, i32_addw, i32_subw, i32_mulw, Int32.reduceToInt] at *) <;> omega))
    · skip
      first | exact lp_MO_sh3 hP hV hy hB h1 h2 _ 0 _ _ (Nat.zero_add _) y4 k5 | (exfalso; clear h1 h2 hP hV k3 k5 hB kI hS; ((try simp +decide only [b01, b10, b11, am_up, ik, and_true, and_false, true_and, false_and, if_true, if_false, nn_eq] at *) <;> (try simp only [sw_or, sw_all, or_false, and_true, i32_lt, i32_le, i32_eq, i32_addw, i32_subw, i32_mulw, Int32.reduceToInt] at *) <;> omega))
  | succ d ih =>
    intro p r w k1 k2 k3
    have hw : w.toNatClampNeg = nb P y.toNatClampNeg + p := by rw [nn_eq]; omega
    have vw : vp_in w 200 := vp_of (by omega) (by omega)
    have vw1 : vp_in w 201 := vp_of (by omega) (by omega)
    have hst := hB p (by omega)
    rw [← hw] at hst
    have b0 := hV.2.1 w.toNatClampNeg
    have kb : ¬ st 2154 w.toNatClampNeg = 0 → bg P y.toNatClampNeg p := by
      intro q
      by_cases e : nx P y.toNatClampNeg p = p
      · exact e
      · rw [if_neg e] at hst
        exact absurd hst q
    have kb2 : st 2154 w.toNatClampNeg = 0 → ¬ bg P y.toNatClampNeg p := by
      intro q e
      rw [if_pos (show nx P y.toNatClampNeg p = p from e), q] at hst
      exact absurd hst (by decide)
    have hq0 := hP.1.1
    have hO : op_jump (pO P w.toNatClampNeg) ↔ op_jump (st 2142 w.toNatClampNeg) := by
      unfold pO
      rw [hq0]
      exact oj_O b0.1 b0.2
    have kW : ¬ st 2154 w.toNatClampNeg = 0 → op_jump (st 2142 w.toNatClampNeg) → (0 ≤ (w + 1).toInt ∧ (w + 1).toInt < 199) ∧ (w - st 2143 y.toNatClampNeg + wv (st 2142 (w + 1).toNatClampNeg) (st 2142 (w + 1 + 1).toNatClampNeg)).toInt = (p : Int) + (pN P w.toNatClampNeg).toInt := by
      intro g1 g2
      have o := (hS p (by omega) (kb g1)).2.1
      rw [← hw] at o
      have r := pN_n hV (hO.mpr g2)
      rw [hq0] at g2
      obtain ⟨d1, d2, -⟩ := @dN_j _ (P 0 (w.toNatClampNeg + 1)) (P 0 (w.toNatClampNeg + 2)) b0.1 b0.2 g2
      have d3 : (pZ P w.toNatClampNeg).toInt = 3 := by unfold pZ; rw [d2]; rfl
      have w1 : (w + 1).toNatClampNeg = w.toNatClampNeg + 1 ∧ (w + 1 + 1).toNatClampNeg = w.toNatClampNeg + 2 ∧ 0 ≤ (w + 1).toInt ∧ (w + 1).toInt < 199 := by
        simp only [nn_eq, i32_addw, Int32.reduceToInt]
        omega
      have d4 : wv (st 2142 (w + 1).toNatClampNeg) (st 2142 (w + 1 + 1).toNatClampNeg) = pN P w.toNatClampNeg := by
        rw [w1.1, w1.2.1, hq0, ← d1]
        rfl
      rw [d4]
      refine ⟨w1.2.2, ?_⟩
      rw [i32_addw, i32_subw]
      omega
    have kA : ∀ r', ((r' = 1 ∧ ∀ q, q < p + 1 → bg P y.toNatClampNeg q → op_jump (pO P (nb P y.toNatClampNeg + q)) → isB P y.toNatClampNeg ((q : Int) + (pN P (nb P y.toNatClampNeg + q)).toInt)) ∨ (r' = 0 ∧ ¬ (∀ q, q < p + 1 → bg P y.toNatClampNeg q → op_jump (pO P (nb P y.toNatClampNeg + q)) → isB P y.toNatClampNeg ((q : Int) + (pN P (nb P y.toNatClampNeg + q)).toInt)))) → am_AW c_MO_shape g_MO_shape (fun o st' => am_ok (some .boolean) o ∧ am_ki f o st') 71 [some (.inr (.inl 128)), some (.inl y), some (.inl x), some (.inl z), some (.inl r'), some (.inl (w + 1))] [] st := fun r' g => ih (p + 1) r' _ (by omega) (by rw [i32_addw]; simp only [Int32.reduceToInt]; omega) g
    clear ih hB
    rcases k3 with ⟨rfl, g⟩ | ⟨rfl, g⟩
    · have kT : (bg P y.toNatClampNeg p → op_jump (pO P w.toNatClampNeg) → isB P y.toNatClampNeg ((p : Int) + (pN P w.toNatClampNeg).toInt)) → am_AW c_MO_shape g_MO_shape (fun o st' => am_ok (some .boolean) o ∧ am_ki f o st') 71 [some (.inr (.inl 128)), some (.inl y), some (.inl x), some (.inl z), some (.inl 1), some (.inl (w + 1))] [] st := fun q => kA 1 (Or.inl ⟨rfl, fb_k g (by rw [hw] at q; exact q)⟩)
      have kF : ¬ (bg P y.toNatClampNeg p → op_jump (pO P w.toNatClampNeg) → isB P y.toNatClampNeg ((p : Int) + (pN P w.toNatClampNeg).toInt)) → am_AW c_MO_shape g_MO_shape (fun o st' => am_ok (some .boolean) o ∧ am_ki f o st') 71 [some (.inr (.inl 128)), some (.inl y), some (.inl x), some (.inl z), some (.inl 0), some (.inl (w + 1))] [] st := fun q => kA 0 (Or.inr ⟨rfl, fun z => q (by rw [hw]; exact z p (by omega))⟩)
      clear kA h1 h2 g
      have kK : ∀ g1 : ¬ st 2154 w.toNatClampNeg = 0, ∀ g2 : op_jump (st 2142 w.toNatClampNeg), (((0 ≤ w - st 2143 y.toNatClampNeg + wv (st 2142 (w + 1).toNatClampNeg) (st 2142 (w + 1 + 1).toNatClampNeg) ∧ w - st 2143 y.toNatClampNeg + wv (st 2142 (w + 1).toNatClampNeg) (st 2142 (w + 1 + 1).toNatClampNeg) < st 2144 y.toNatClampNeg) ∧ ¬ st 2154 (st 2143 y.toNatClampNeg + (w - st 2143 y.toNatClampNeg + wv (st 2142 (w + 1).toNatClampNeg) (st 2142 (w + 1 + 1).toNatClampNeg))).toNatClampNeg = 0) ↔ isB P y.toNatClampNeg ((p : Int) + (pN P w.toNatClampNeg).toInt)) := fun g1 g2 => by rw [kI, (kW g1 g2).2]
      refine r_il5 (q := 73) d_MO_shape_71 rfl ?_
      refine r_il3 (q := 74) d_MO_shape_73 rfl ?_
      refine r_cge (tgt := 144) (q := 77) d_MO_shape_74 rfl rfl (fun e74 => ?_) (fun e74 => ?_)
      · skip
        first | exact kT (fun q => absurd q (kb2 e89)) | exact kT (fun _ q => absurd (hO.mp q) e99) | exact kT (fun _ _ => (kK e89 e99).mp e125) | exact kF (fun q => e125 ((kK e89 e99).mpr (q (kb e89) (hO.mpr e99)))) | (exfalso; clear hP hV kT kF kI kK hS; ((try simp +decide only [b01, b10, b11, am_up, ik, and_true, and_false, true_and, false_and, if_true, if_false, nn_eq] at *) <;> (try simp only [sw_or, sw_all, or_false, and_true, i32_lt, i32_le, i32_eq, i32_addw, i32_subw, i32_mulw, Int32.reduceToInt] at *) <;> omega))
      · skip
        refine r_il4 (q := 79) d_MO_shape_77 rfl ?_
        refine r_zeq (tgt := 135) (q := 82) d_MO_shape_79 rfl rfl (fun e79 => by exfalso; revert e79; decide) (fun e79 => ?_)
        refine r_al0 (q := 83) d_MO_shape_82 rfl ?_
        refine gt_MO_starts (q := 86) d_MO_shape_83 rfl rfl ?_
        refine r_il5 (q := 88) d_MO_shape_86 rfl ?_
        refine ld_154 (q := 89) d_MO_shape_88 ?_ rfl ?_
        · first | exact vy | exact vy9 | exact vw | exact vw1
        refine r_zeq (tgt := 131) (q := 92) d_MO_shape_89 rfl rfl (fun e89 => ?_) (fun e89 => ?_)
        · skip
          refine r_ic (v := 1) (q := 132) d_MO_shape_131 rfl rfl ?_
          refine am_go (tgt := 136) d_MO_shape_132 rfl ?_
          refine r_is4 (q := 138) d_MO_shape_136 rfl ?_
          refine r_in5 (v := 1) (q := 141) d_MO_shape_138 rfl rfl ?_
          refine am_go (tgt := 71) d_MO_shape_141 rfl ?_
          first | exact kT (fun q => absurd q (kb2 e89)) | exact kT (fun _ q => absurd (hO.mp q) e99) | exact kT (fun _ _ => (kK e89 e99).mp e125) | exact kF (fun q => e125 ((kK e89 e99).mpr (q (kb e89) (hO.mpr e99)))) | (exfalso; clear hP hV kT kF kI kK hS; ((try simp +decide only [b01, b10, b11, am_up, ik, and_true, and_false, true_and, false_and, if_true, if_false, nn_eq] at *) <;> (try simp only [sw_or, sw_all, or_false, and_true, i32_lt, i32_le, i32_eq, i32_addw, i32_subw, i32_mulw, Int32.reduceToInt] at *) <;> omega))
        · skip
          refine r_al0 (q := 93) d_MO_shape_92 rfl ?_
          refine gt_MO_code (q := 96) d_MO_shape_93 rfl rfl ?_
          refine r_il5 (q := 98) d_MO_shape_96 rfl ?_
          refine ld_142 (q := 99) d_MO_shape_98 ?_ rfl ?_
          · first | exact vy | exact vy9 | exact vw | exact vw1
          refine r_si1 mo_MO_isJump d_MO_shape_99 rfl rfl (q := 102) rfl ?_
          refine sp_MO_isJump (fun e99 => ?_) (fun e99 => ?_)
          · skip
            refine r_zeq (tgt := 131) (q := 105) d_MO_shape_102 rfl rfl (fun e102 => by exfalso; revert e102; decide) (fun e102 => ?_)
            refine r_al0 (q := 106) d_MO_shape_105 rfl ?_
            refine r_il1 (q := 107) d_MO_shape_106 rfl ?_
            refine r_il5 (q := 109) d_MO_shape_107 rfl ?_
            refine r_al0 (q := 110) d_MO_shape_109 rfl ?_
            refine gt_MO_begin (q := 113) d_MO_shape_110 rfl rfl ?_
            refine r_il1 (q := 114) d_MO_shape_113 rfl ?_
            refine ld_143 (q := 115) d_MO_shape_114 ?_ rfl ?_
            · first | exact vy | exact vy9 | exact vw | exact vw1
            refine r_isub (q := 116) d_MO_shape_115 rfl ?_
            refine r_al0 (q := 117) d_MO_shape_116 rfl ?_
            refine r_il5 (q := 119) d_MO_shape_117 rfl ?_
            refine r_ic (v := 1) (q := 120) d_MO_shape_119 rfl rfl ?_
            refine r_iadd (q := 121) d_MO_shape_120 rfl ?_
            refine r_vi1 mo_MO_word d_MO_shape_121 rfl rfl rfl (q := 124) rfl ?_
            refine sp_MO_word (P := P) (by first | exact (kW e89 e99).1 | assumption | (refine pc_of hP ?_; (repeat (first | assumption | exact md_refl | refine md_up ?_ rfl | refine md_fill ?_ rfl | (unfold ik; refine md_up ?_ rfl))); done) | (refine pm_of hP ?_; (repeat (first | assumption | exact md_refl | refine md_up ?_ rfl | refine md_fill ?_ rfl | (unfold ik; refine md_up ?_ rfl))); done) | omega | decide | ((try simp +decide only [b01, b10, b11, am_up, ik, and_true, and_false, true_and, false_and, if_true, if_false, nn_eq] at *) <;> (try simp only [sw_or, sw_all, or_false, and_true, i32_lt, i32_le, i32_eq, i32_addw, i32_subw, i32_mulw, Int32.reduceToInt] at *) <;> omega) | (apply_assumption; done)) (by first | exact (kW e89 e99).1 | assumption | (refine pc_of hP ?_; (repeat (first | assumption | exact md_refl | refine md_up ?_ rfl | refine md_fill ?_ rfl | (unfold ik; refine md_up ?_ rfl))); done) | (refine pm_of hP ?_; (repeat (first | assumption | exact md_refl | refine md_up ?_ rfl | refine md_fill ?_ rfl | (unfold ik; refine md_up ?_ rfl))); done) | omega | decide | ((try simp +decide only [b01, b10, b11, am_up, ik, and_true, and_false, true_and, false_and, if_true, if_false, nn_eq] at *) <;> (try simp only [sw_or, sw_all, or_false, and_true, i32_lt, i32_le, i32_eq, i32_addw, i32_subw, i32_mulw, Int32.reduceToInt] at *) <;> omega) | (apply_assumption; done)) (by first | exact (kW e89 e99).1 | assumption | (refine pc_of hP ?_; (repeat (first | assumption | exact md_refl | refine md_up ?_ rfl | refine md_fill ?_ rfl | (unfold ik; refine md_up ?_ rfl))); done) | (refine pm_of hP ?_; (repeat (first | assumption | exact md_refl | refine md_up ?_ rfl | refine md_fill ?_ rfl | (unfold ik; refine md_up ?_ rfl))); done) | omega | decide | ((try simp +decide only [b01, b10, b11, am_up, ik, and_true, and_false, true_and, false_and, if_true, if_false, nn_eq] at *) <;> (try simp only [sw_or, sw_all, or_false, and_true, i32_lt, i32_le, i32_eq, i32_addw, i32_subw, i32_mulw, Int32.reduceToInt] at *) <;> omega) | (apply_assumption; done)) ?_
            refine r_iadd (q := 125) d_MO_shape_124 rfl ?_
            refine r_vi2 mo_MO_isStart d_MO_shape_125 rfl rfl rfl (q := 128) rfl ?_
            refine sp_MO_isStart (by first | exact (kW e89 e99).1 | assumption | (refine pc_of hP ?_; (repeat (first | assumption | exact md_refl | refine md_up ?_ rfl | refine md_fill ?_ rfl | (unfold ik; refine md_up ?_ rfl))); done) | (refine pm_of hP ?_; (repeat (first | assumption | exact md_refl | refine md_up ?_ rfl | refine md_fill ?_ rfl | (unfold ik; refine md_up ?_ rfl))); done) | omega | decide | ((try simp +decide only [b01, b10, b11, am_up, ik, and_true, and_false, true_and, false_and, if_true, if_false, nn_eq] at *) <;> (try simp only [sw_or, sw_all, or_false, and_true, i32_lt, i32_le, i32_eq, i32_addw, i32_subw, i32_mulw, Int32.reduceToInt] at *) <;> omega) | (apply_assumption; done)) (by first | exact (kW e89 e99).1 | assumption | (refine pc_of hP ?_; (repeat (first | assumption | exact md_refl | refine md_up ?_ rfl | refine md_fill ?_ rfl | (unfold ik; refine md_up ?_ rfl))); done) | (refine pm_of hP ?_; (repeat (first | assumption | exact md_refl | refine md_up ?_ rfl | refine md_fill ?_ rfl | (unfold ik; refine md_up ?_ rfl))); done) | omega | decide | ((try simp +decide only [b01, b10, b11, am_up, ik, and_true, and_false, true_and, false_and, if_true, if_false, nn_eq] at *) <;> (try simp only [sw_or, sw_all, or_false, and_true, i32_lt, i32_le, i32_eq, i32_addw, i32_subw, i32_mulw, Int32.reduceToInt] at *) <;> omega) | (apply_assumption; done)) (by first | exact (kW e89 e99).1 | assumption | (refine pc_of hP ?_; (repeat (first | assumption | exact md_refl | refine md_up ?_ rfl | refine md_fill ?_ rfl | (unfold ik; refine md_up ?_ rfl))); done) | (refine pm_of hP ?_; (repeat (first | assumption | exact md_refl | refine md_up ?_ rfl | refine md_fill ?_ rfl | (unfold ik; refine md_up ?_ rfl))); done) | omega | decide | ((try simp +decide only [b01, b10, b11, am_up, ik, and_true, and_false, true_and, false_and, if_true, if_false, nn_eq] at *) <;> (try simp only [sw_or, sw_all, or_false, and_true, i32_lt, i32_le, i32_eq, i32_addw, i32_subw, i32_mulw, Int32.reduceToInt] at *) <;> omega) | (apply_assumption; done)) (fun e125 => ?_) (fun e125 => ?_)
            · skip
              refine r_zeq (tgt := 135) (q := 131) d_MO_shape_128 rfl rfl (fun e128 => by exfalso; revert e128; decide) (fun e128 => ?_)
              refine r_ic (v := 1) (q := 132) d_MO_shape_131 rfl rfl ?_
              refine am_go (tgt := 136) d_MO_shape_132 rfl ?_
              refine r_is4 (q := 138) d_MO_shape_136 rfl ?_
              refine r_in5 (v := 1) (q := 141) d_MO_shape_138 rfl rfl ?_
              refine am_go (tgt := 71) d_MO_shape_141 rfl ?_
              first | exact kT (fun q => absurd q (kb2 e89)) | exact kT (fun _ q => absurd (hO.mp q) e99) | exact kT (fun _ _ => (kK e89 e99).mp e125) | exact kF (fun q => e125 ((kK e89 e99).mpr (q (kb e89) (hO.mpr e99)))) | (exfalso; clear hP hV kT kF kI kK hS; ((try simp +decide only [b01, b10, b11, am_up, ik, and_true, and_false, true_and, false_and, if_true, if_false, nn_eq] at *) <;> (try simp only [sw_or, sw_all, or_false, and_true, i32_lt, i32_le, i32_eq, i32_addw, i32_subw, i32_mulw, Int32.reduceToInt] at *) <;> omega))
            · skip
              refine r_zeq (tgt := 135) (q := 131) d_MO_shape_128 rfl rfl (fun e128 => ?_) (fun e128 => by exfalso; revert e128; decide)
              refine r_ic (v := 0) (q := 136) d_MO_shape_135 rfl rfl ?_
              refine r_is4 (q := 138) d_MO_shape_136 rfl ?_
              refine r_in5 (v := 1) (q := 141) d_MO_shape_138 rfl rfl ?_
              refine am_go (tgt := 71) d_MO_shape_141 rfl ?_
              first | exact kT (fun q => absurd q (kb2 e89)) | exact kT (fun _ q => absurd (hO.mp q) e99) | exact kT (fun _ _ => (kK e89 e99).mp e125) | exact kF (fun q => e125 ((kK e89 e99).mpr (q (kb e89) (hO.mpr e99)))) | (exfalso; clear hP hV kT kF kI kK hS; ((try simp +decide only [b01, b10, b11, am_up, ik, and_true, and_false, true_and, false_and, if_true, if_false, nn_eq] at *) <;> (try simp only [sw_or, sw_all, or_false, and_true, i32_lt, i32_le, i32_eq, i32_addw, i32_subw, i32_mulw, Int32.reduceToInt] at *) <;> omega))
          · skip
            refine r_zeq (tgt := 131) (q := 105) d_MO_shape_102 rfl rfl (fun e102 => ?_) (fun e102 => by exfalso; revert e102; decide)
            refine r_ic (v := 1) (q := 132) d_MO_shape_131 rfl rfl ?_
            refine am_go (tgt := 136) d_MO_shape_132 rfl ?_
            refine r_is4 (q := 138) d_MO_shape_136 rfl ?_
            refine r_in5 (v := 1) (q := 141) d_MO_shape_138 rfl rfl ?_
            refine am_go (tgt := 71) d_MO_shape_141 rfl ?_
            first | exact kT (fun q => absurd q (kb2 e89)) | exact kT (fun _ q => absurd (hO.mp q) e99) | exact kT (fun _ _ => (kK e89 e99).mp e125) | exact kF (fun q => e125 ((kK e89 e99).mpr (q (kb e89) (hO.mpr e99)))) | (exfalso; clear hP hV kT kF kI kK hS; ((try simp +decide only [b01, b10, b11, am_up, ik, and_true, and_false, true_and, false_and, if_true, if_false, nn_eq] at *) <;> (try simp only [sw_or, sw_all, or_false, and_true, i32_lt, i32_le, i32_eq, i32_addw, i32_subw, i32_mulw, Int32.reduceToInt] at *) <;> omega))
    · skip
      refine r_il5 (q := 73) d_MO_shape_71 rfl ?_
      refine r_il3 (q := 74) d_MO_shape_73 rfl ?_
      refine r_cge (tgt := 144) (q := 77) d_MO_shape_74 rfl rfl (fun e74 => ?_) (fun e74 => ?_)
      · skip
        first | exact kA 0 (Or.inr ⟨rfl, fun z => g (fun q hq => z q (by omega))⟩) | (exfalso; clear hP hV h1 h2 kA g hS kI; ((try simp +decide only [b01, b10, b11, am_up, ik, and_true, and_false, true_and, false_and, if_true, if_false, nn_eq] at *) <;> (try simp only [sw_or, sw_all, or_false, and_true, i32_lt, i32_le, i32_eq, i32_addw, i32_subw, i32_mulw, Int32.reduceToInt] at *) <;> omega))
      · skip
        refine r_il4 (q := 79) d_MO_shape_77 rfl ?_
        refine r_zeq (tgt := 135) (q := 82) d_MO_shape_79 rfl rfl (fun e79 => ?_) (fun e79 => by exfalso; revert e79; decide)
        refine r_ic (v := 0) (q := 136) d_MO_shape_135 rfl rfl ?_
        refine r_is4 (q := 138) d_MO_shape_136 rfl ?_
        refine r_in5 (v := 1) (q := 141) d_MO_shape_138 rfl rfl ?_
        refine am_go (tgt := 71) d_MO_shape_141 rfl ?_
        first | exact kA 0 (Or.inr ⟨rfl, fun z => g (fun q hq => z q (by omega))⟩) | (exfalso; clear hP hV h1 h2 kA g hS kI; ((try simp +decide only [b01, b10, b11, am_up, ik, and_true, and_false, true_and, false_and, if_true, if_false, nn_eq] at *) <;> (try simp only [sw_or, sw_all, or_false, and_true, i32_lt, i32_le, i32_eq, i32_addw, i32_subw, i32_mulw, Int32.reduceToInt] at *) <;> omega))
def msQ (P st0 : am_S) (m : Nat) (r : Int32) (st' : am_S) : Prop := am_md mS st0 st' ∧ (∀ i, (i < nb P m ∨ nb P m + nl P m ≤ i) → st' 2154 i = st0 2154 i) ∧ ((r = 1 ∧ SHP P m ∧ ∀ q, q < nl P m → st' 2154 (nb P m + q) = if nx P m q = q then 1 else 0) ∨ (r = 0 ∧ ¬ SHP P m))
theorem lp_MO_sh1 {P st0 : am_S} {y z : Int32} {a4 a5 : Option am_V} (hP : PM st0 P) (hV : VP P) (hy : 0 ≤ y.toInt ∧ y.toNatClampNeg < nM P) (hz : z.toInt = (nb P y.toNatClampNeg : Int) + nl P y.toNatClampNeg) : ∀ (d p : Nat) (x : Int32) (st : am_S), nl P y.toNatClampNeg ≤ p + d → p ≤ nl P y.toNatClampNeg → x.toInt = (nb P y.toNatClampNeg : Int) + p → bg P y.toNatClampNeg p → am_md mS st0 st → (∀ i, (i < nb P y.toNatClampNeg ∨ nb P y.toNatClampNeg + nl P y.toNatClampNeg ≤ i) → st 2154 i = st0 2154 i) → (∀ q, q < p → st 2154 (nb P y.toNatClampNeg + q) = if nx P y.toNatClampNeg q = q then 1 else 0) → (∀ q, p ≤ q → q < nl P y.toNatClampNeg → st 2154 (nb P y.toNatClampNeg + q) = 0) → (∀ q, q < p → bg P y.toNatClampNeg q → okI P y.toNatClampNeg q) → am_AW c_MO_shape g_MO_shape (fun o st' => am_ok (some .boolean) o ∧ am_ki (msQ P st0 y.toNatClampNeg) o st') 21 [some (.inr (.inl 128)), some (.inl y), some (.inl x), some (.inl z), a4, a5] [] st := by
  intro d
  induction d with
  | zero =>
    intro p x st k1 k2 k3 k4 k5 k6 k7 k8 k9
    have hP' := pm_of hP (md_S k5)
    obtain ⟨v8, ⟨v1, v2, v3, v4, v5⟩, v6, ⟨-, v7, v9⟩, v10⟩ := mf hP' hV hy.2
    have hb : (nb P y.toNatClampNeg : Int) = (st 2143 y.toNatClampNeg).toInt := by unfold nb; rw [← hP'.1.2.1 _ hy.2]; omega
    have vy9 : vp_in y 9 := vp_of hy.1 (by rw [nn_eq] at v8; omega)
    have e : p = nl P y.toNatClampNeg := by omega
    have hS : SH1 P y.toNatClampNeg := by unfold SH1; rw [← e]; exact k9
    have hQ1 : SH2 P y.toNatClampNeg ∧ SH3 P y.toNatClampNeg → msQ P st0 y.toNatClampNeg 1 st := fun q => ⟨k5, k6, Or.inl ⟨rfl, ⟨hS, q⟩, by rw [← e]; exact k7⟩⟩
    have hQ2 : ¬ (SH2 P y.toNatClampNeg ∧ SH3 P y.toNatClampNeg) → msQ P st0 y.toNatClampNeg 0 st := fun q => ⟨k5, k6, Or.inr ⟨rfl, fun w => q w.2⟩⟩
    refine r_il2 (q := 22) d_MO_shape_21 rfl ?_
    refine r_il3 (q := 23) d_MO_shape_22 rfl ?_
    refine r_cge (tgt := 60) (q := 26) d_MO_shape_23 rfl rfl (fun e23 => ?_) (fun e23 => ?_)
    · skip
      refine r_ic (v := 1) (q := 61) d_MO_shape_60 rfl rfl ?_
      refine r_is4 (q := 63) d_MO_shape_61 rfl ?_
      refine r_al0 (q := 64) d_MO_shape_63 rfl ?_
      refine gt_MO_begin (q := 67) d_MO_shape_64 rfl rfl ?_
      refine r_il1 (q := 68) d_MO_shape_67 rfl ?_
      refine ld_143 (q := 69) d_MO_shape_68 ?_ rfl ?_
      · exact vy9
      refine r_is5 (q := 71) d_MO_shape_69 rfl ?_
      first | exact lp_MO_sh2 hP' hV hy hz hS (by rw [← e]; exact k7) hQ1 hQ2 _ 0 _ _ (Nat.zero_add _) (by omega) (Or.inl ⟨rfl, fun q hq => absurd hq (by omega)⟩) | (exfalso; clear hP hP' hV k4 k6 k7 k8 k9 hQ1 hQ2 hS k5; ((try simp +decide only [b01, b10, b11, am_up, ik, and_true, and_false, true_and, false_and, if_true, if_false, nn_eq] at *) <;> (try simp only [sw_or, sw_all, or_false, and_true, i32_lt, i32_le, i32_eq, i32_addw, i32_subw, i32_mulw, Int32.reduceToInt] at *) <;> omega))
    · skip
      first | exact lp_MO_sh2 hP' hV hy hz hS (by rw [← e]; exact k7) hQ1 hQ2 _ 0 _ _ (Nat.zero_add _) (by omega) (Or.inl ⟨rfl, fun q hq => absurd hq (by omega)⟩) | (exfalso; clear hP hP' hV k4 k6 k7 k8 k9 hQ1 hQ2 hS k5; ((try simp +decide only [b01, b10, b11, am_up, ik, and_true, and_false, true_and, false_and, if_true, if_false, nn_eq] at *) <;> (try simp only [sw_or, sw_all, or_false, and_true, i32_lt, i32_le, i32_eq, i32_addw, i32_subw, i32_mulw, Int32.reduceToInt] at *) <;> omega))
  | succ d ih =>
    intro p x st k1 k2 k3 k4 k5 k6 k7 k8 k9
    have hP' := pm_of hP (md_S k5)
    obtain ⟨v8, ⟨v1, v2, v3, v4, v5⟩, v6, ⟨-, v7, v9⟩, v10⟩ := mf hP' hV hy.2
    have hb : (nb P y.toNatClampNeg : Int) = (st 2143 y.toNatClampNeg).toInt := by unfold nb; rw [← hP'.1.2.1 _ hy.2]; omega
    have hl : (nl P y.toNatClampNeg : Int) = (st 2144 y.toNatClampNeg).toInt := by unfold nl; rw [← hP'.1.2.2.1]; omega
    have vy9 : vp_in y 9 := vp_of hy.1 (by rw [nn_eq] at v8; omega)
    by_cases e : p = nl P y.toNatClampNeg
    · have hS : SH1 P y.toNatClampNeg := by unfold SH1; rw [← e]; exact k9
      have hQ1 : SH2 P y.toNatClampNeg ∧ SH3 P y.toNatClampNeg → msQ P st0 y.toNatClampNeg 1 st := fun q => ⟨k5, k6, Or.inl ⟨rfl, ⟨hS, q⟩, by rw [← e]; exact k7⟩⟩
      have hQ2 : ¬ (SH2 P y.toNatClampNeg ∧ SH3 P y.toNatClampNeg) → msQ P st0 y.toNatClampNeg 0 st := fun q => ⟨k5, k6, Or.inr ⟨rfl, fun w => q w.2⟩⟩
      clear ih
      refine r_il2 (q := 22) d_MO_shape_21 rfl ?_
      refine r_il3 (q := 23) d_MO_shape_22 rfl ?_
      refine r_cge (tgt := 60) (q := 26) d_MO_shape_23 rfl rfl (fun e23 => ?_) (fun e23 => ?_)
      · skip
        refine r_ic (v := 1) (q := 61) d_MO_shape_60 rfl rfl ?_
        refine r_is4 (q := 63) d_MO_shape_61 rfl ?_
        refine r_al0 (q := 64) d_MO_shape_63 rfl ?_
        refine gt_MO_begin (q := 67) d_MO_shape_64 rfl rfl ?_
        refine r_il1 (q := 68) d_MO_shape_67 rfl ?_
        refine ld_143 (q := 69) d_MO_shape_68 ?_ rfl ?_
        · exact vy9
        refine r_is5 (q := 71) d_MO_shape_69 rfl ?_
        first | exact lp_MO_sh2 hP' hV hy hz hS (by rw [← e]; exact k7) hQ1 hQ2 _ 0 _ _ (Nat.zero_add _) (by omega) (Or.inl ⟨rfl, fun q hq => absurd hq (by omega)⟩) | (exfalso; clear hP hP' hV k4 k6 k7 k8 k9 hQ1 hQ2 hS k5; ((try simp +decide only [b01, b10, b11, am_up, ik, and_true, and_false, true_and, false_and, if_true, if_false, nn_eq] at *) <;> (try simp only [sw_or, sw_all, or_false, and_true, i32_lt, i32_le, i32_eq, i32_addw, i32_subw, i32_mulw, Int32.reduceToInt] at *) <;> omega))
      · skip
        first | exact lp_MO_sh2 hP' hV hy hz hS (by rw [← e]; exact k7) hQ1 hQ2 _ 0 _ _ (Nat.zero_add _) (by omega) (Or.inl ⟨rfl, fun q hq => absurd hq (by omega)⟩) | (exfalso; clear hP hP' hV k4 k6 k7 k8 k9 hQ1 hQ2 hS k5; ((try simp +decide only [b01, b10, b11, am_up, ik, and_true, and_false, true_and, false_and, if_true, if_false, nn_eq] at *) <;> (try simp only [sw_or, sw_all, or_false, and_true, i32_lt, i32_le, i32_eq, i32_addw, i32_subw, i32_mulw, Int32.reduceToInt] at *) <;> omega))
    · have e2 : p < nl P y.toNatClampNeg := by omega
      have hxp : x.toNatClampNeg = nb P y.toNatClampNeg + p := by rw [nn_eq]; omega
      have b0 := hV.2.1 x.toNatClampNeg
      rw [← hP'.1.1] at b0
      have vx : vp_in x 200 := vp_of (by omega) (by omega)
      have vx1 : vp_in x 201 := vp_of (by omega) (by omega)
      have hZ : pZ P x.toNatClampNeg = dZ (st 2142 x.toNatClampNeg) := by unfold pZ; rw [hP'.1.1]
      have hzz := @pZ_n P x.toNatClampNeg hV
      have kC : ¬ okI P y.toNatClampNeg p → msQ P st0 y.toNatClampNeg 0 st := fun q => ⟨k5, k6, Or.inr ⟨rfl, fun w => q (w.1 p e2 k4)⟩⟩
      have kA : okI P y.toNatClampNeg p → am_AW c_MO_shape g_MO_shape (fun o st' => am_ok (some .boolean) o ∧ am_ki (msQ P st0 y.toNatClampNeg) o st') 21 [some (.inr (.inl 128)), some (.inl y), some (.inl (x + dZ (st 2142 x.toNatClampNeg))), some (.inl z), a4, a5] [] (am_up st 2154 x.toNatClampNeg 1) := by
        intro o
        have o2 := o.2.1
        have o3 := pZ_1 hV o.1
        rw [← hxp] at o2 o3
        have n1 := nx_in k4
        rw [← hxp] at n1
        refine ih (p + (pZ P x.toNatClampNeg).toInt.toNat) _ _ (by omega) o2 (by rw [i32_addw, ← hZ]; omega) (n1 _ (by omega) (by omega)) (md_up k5 rfl) (fun i hi => by rw [am_up_ne (by omega)]; exact k6 i hi) ?_ ?_ ?_
        · intro q hq
          by_cases a : q = p
          · rw [a, ← hxp, am_up_eq]
            exact (if_pos k4).symm
          · rw [am_up_ne (by omega)]
            by_cases a2 : q < p
            · exact k7 q a2
            · have n2 := n1 (q - p) (by omega) (by omega)
              have e9 : p + (q - p) = q := by omega
              rw [e9] at n2
              rw [k8 q (by omega) (by omega), if_neg (by omega)]
        · intro q h1 h2
          rw [am_up_ne (by omega)]
          exact k8 q (by omega) h2
        · intro q hq hbq
          by_cases a : q = p
          · rw [a]
            exact o
          · by_cases a2 : q < p
            · exact k9 q a2 hbq
            · have n2 := n1 (q - p) (by omega) (by omega)
              have e9 : p + (q - p) = q := by omega
              rw [e9] at n2
              unfold bg at hbq
              omega
      clear ih
      refine r_il2 (q := 22) d_MO_shape_21 rfl ?_
      refine r_il3 (q := 23) d_MO_shape_22 rfl ?_
      refine r_cge (tgt := 60) (q := 26) d_MO_shape_23 rfl rfl (fun e23 => ?_) (fun e23 => ?_)
      · skip
        first | exact kA e30 | (exfalso; clear hP hP' hV k4 k6 k7 k8 k9 kA kC k5; ((try simp +decide only [b01, b10, b11, am_up, ik, and_true, and_false, true_and, false_and, if_true, if_false, nn_eq] at *) <;> (try simp only [sw_or, sw_all, or_false, and_true, i32_lt, i32_le, i32_eq, i32_addw, i32_subw, i32_mulw, Int32.reduceToInt] at *) <;> omega))
      · skip
        refine r_al0 (q := 27) d_MO_shape_26 rfl ?_
        refine r_il1 (q := 28) d_MO_shape_27 rfl ?_
        refine r_il2 (q := 29) d_MO_shape_28 rfl ?_
        refine r_il3 (q := 30) d_MO_shape_29 rfl ?_
        refine r_vi3 mo_MO_instruction d_MO_shape_30 rfl rfl rfl (q := 33) rfl ?_
        refine sp_MO_instruction (P := P) (p := p) (by first | assumption | (refine pc_of hP ?_; (repeat (first | assumption | exact md_refl | refine md_up ?_ rfl | refine md_fill ?_ rfl | (unfold ik; refine md_up ?_ rfl))); done) | (refine pm_of hP ?_; (repeat (first | assumption | exact md_refl | refine md_up ?_ rfl | refine md_fill ?_ rfl | (unfold ik; refine md_up ?_ rfl))); done) | omega | decide | ((try simp +decide only [b01, b10, b11, am_up, ik, and_true, and_false, true_and, false_and, if_true, if_false, nn_eq] at *) <;> (try simp only [sw_or, sw_all, or_false, and_true, i32_lt, i32_le, i32_eq, i32_addw, i32_subw, i32_mulw, Int32.reduceToInt] at *) <;> omega) | (apply_assumption; done)) (by first | assumption | (refine pc_of hP ?_; (repeat (first | assumption | exact md_refl | refine md_up ?_ rfl | refine md_fill ?_ rfl | (unfold ik; refine md_up ?_ rfl))); done) | (refine pm_of hP ?_; (repeat (first | assumption | exact md_refl | refine md_up ?_ rfl | refine md_fill ?_ rfl | (unfold ik; refine md_up ?_ rfl))); done) | omega | decide | ((try simp +decide only [b01, b10, b11, am_up, ik, and_true, and_false, true_and, false_and, if_true, if_false, nn_eq] at *) <;> (try simp only [sw_or, sw_all, or_false, and_true, i32_lt, i32_le, i32_eq, i32_addw, i32_subw, i32_mulw, Int32.reduceToInt] at *) <;> omega) | (apply_assumption; done)) (by first | assumption | (refine pc_of hP ?_; (repeat (first | assumption | exact md_refl | refine md_up ?_ rfl | refine md_fill ?_ rfl | (unfold ik; refine md_up ?_ rfl))); done) | (refine pm_of hP ?_; (repeat (first | assumption | exact md_refl | refine md_up ?_ rfl | refine md_fill ?_ rfl | (unfold ik; refine md_up ?_ rfl))); done) | omega | decide | ((try simp +decide only [b01, b10, b11, am_up, ik, and_true, and_false, true_and, false_and, if_true, if_false, nn_eq] at *) <;> (try simp only [sw_or, sw_all, or_false, and_true, i32_lt, i32_le, i32_eq, i32_addw, i32_subw, i32_mulw, Int32.reduceToInt] at *) <;> omega) | (apply_assumption; done)) (by first | assumption | (refine pc_of hP ?_; (repeat (first | assumption | exact md_refl | refine md_up ?_ rfl | refine md_fill ?_ rfl | (unfold ik; refine md_up ?_ rfl))); done) | (refine pm_of hP ?_; (repeat (first | assumption | exact md_refl | refine md_up ?_ rfl | refine md_fill ?_ rfl | (unfold ik; refine md_up ?_ rfl))); done) | omega | decide | ((try simp +decide only [b01, b10, b11, am_up, ik, and_true, and_false, true_and, false_and, if_true, if_false, nn_eq] at *) <;> (try simp only [sw_or, sw_all, or_false, and_true, i32_lt, i32_le, i32_eq, i32_addw, i32_subw, i32_mulw, Int32.reduceToInt] at *) <;> omega) | (apply_assumption; done)) (by first | assumption | (refine pc_of hP ?_; (repeat (first | assumption | exact md_refl | refine md_up ?_ rfl | refine md_fill ?_ rfl | (unfold ik; refine md_up ?_ rfl))); done) | (refine pm_of hP ?_; (repeat (first | assumption | exact md_refl | refine md_up ?_ rfl | refine md_fill ?_ rfl | (unfold ik; refine md_up ?_ rfl))); done) | omega | decide | ((try simp +decide only [b01, b10, b11, am_up, ik, and_true, and_false, true_and, false_and, if_true, if_false, nn_eq] at *) <;> (try simp only [sw_or, sw_all, or_false, and_true, i32_lt, i32_le, i32_eq, i32_addw, i32_subw, i32_mulw, Int32.reduceToInt] at *) <;> omega) | (apply_assumption; done)) (by first | assumption | (refine pc_of hP ?_; (repeat (first | assumption | exact md_refl | refine md_up ?_ rfl | refine md_fill ?_ rfl | (unfold ik; refine md_up ?_ rfl))); done) | (refine pm_of hP ?_; (repeat (first | assumption | exact md_refl | refine md_up ?_ rfl | refine md_fill ?_ rfl | (unfold ik; refine md_up ?_ rfl))); done) | omega | decide | ((try simp +decide only [b01, b10, b11, am_up, ik, and_true, and_false, true_and, false_and, if_true, if_false, nn_eq] at *) <;> (try simp only [sw_or, sw_all, or_false, and_true, i32_lt, i32_le, i32_eq, i32_addw, i32_subw, i32_mulw, Int32.reduceToInt] at *) <;> omega) | (apply_assumption; done)) (fun e30 => ?_) (fun e30 => ?_)
        · skip
          refine r_zne (tgt := 38) (q := 36) d_MO_shape_33 rfl rfl (fun e33 => ?_) (fun e33 => by exfalso; revert e33; decide)
          refine r_al0 (q := 39) d_MO_shape_38 rfl ?_
          refine gt_MO_starts (q := 42) d_MO_shape_39 rfl rfl ?_
          refine r_il2 (q := 43) d_MO_shape_42 rfl ?_
          refine r_ic (v := 1) (q := 44) d_MO_shape_43 rfl rfl ?_
          refine sv_154 (q := 45) d_MO_shape_44 (by first | assumption | (refine pc_of hP ?_; (repeat (first | assumption | exact md_refl | refine md_up ?_ rfl | refine md_fill ?_ rfl | (unfold ik; refine md_up ?_ rfl))); done) | (refine pm_of hP ?_; (repeat (first | assumption | exact md_refl | refine md_up ?_ rfl | refine md_fill ?_ rfl | (unfold ik; refine md_up ?_ rfl))); done) | omega | decide | ((try simp +decide only [b01, b10, b11, am_up, ik, and_true, and_false, true_and, false_and, if_true, if_false, nn_eq] at *) <;> (try simp only [sw_or, sw_all, or_false, and_true, i32_lt, i32_le, i32_eq, i32_addw, i32_subw, i32_mulw, Int32.reduceToInt] at *) <;> omega) | (apply_assumption; done)) ?_ rfl ?_
          · first | exact vx | exact vx1
          refine r_il2 (q := 46) d_MO_shape_45 rfl ?_
          refine r_al0 (q := 47) d_MO_shape_46 rfl ?_
          refine gt_MO_code (q := 50) d_MO_shape_47 rfl rfl ?_
          refine r_il2 (q := 51) d_MO_shape_50 rfl ?_
          refine ld_142 (q := 52) d_MO_shape_51 ?_ rfl ?_
          · first | exact vx | exact vx1
          refine r_si1 mo_MO_wide d_MO_shape_52 rfl rfl (q := 55) rfl ?_
          refine sp_MO_wide (by first | assumption | (refine pc_of hP ?_; (repeat (first | assumption | exact md_refl | refine md_up ?_ rfl | refine md_fill ?_ rfl | (unfold ik; refine md_up ?_ rfl))); done) | (refine pm_of hP ?_; (repeat (first | assumption | exact md_refl | refine md_up ?_ rfl | refine md_fill ?_ rfl | (unfold ik; refine md_up ?_ rfl))); done) | omega | decide | ((try simp +decide only [b01, b10, b11, am_up, ik, and_true, and_false, true_and, false_and, if_true, if_false, nn_eq] at *) <;> (try simp only [sw_or, sw_all, or_false, and_true, i32_lt, i32_le, i32_eq, i32_addw, i32_subw, i32_mulw, Int32.reduceToInt] at *) <;> omega) | (apply_assumption; done)) ?_
          refine r_iadd (q := 56) d_MO_shape_55 rfl ?_
          refine r_is2 (q := 57) d_MO_shape_56 rfl ?_
          refine am_go (tgt := 21) d_MO_shape_57 rfl ?_
          first | exact kA e30 | (exfalso; clear hP hP' hV k4 k6 k7 k8 k9 kA kC k5; ((try simp +decide only [b01, b10, b11, am_up, ik, and_true, and_false, true_and, false_and, if_true, if_false, nn_eq] at *) <;> (try simp only [sw_or, sw_all, or_false, and_true, i32_lt, i32_le, i32_eq, i32_addw, i32_subw, i32_mulw, Int32.reduceToInt] at *) <;> omega))
        · skip
          refine r_zne (tgt := 38) (q := 36) d_MO_shape_33 rfl rfl (fun e33 => by exfalso; revert e33; decide) (fun e33 => ?_)
          refine r_ic (v := 0) (q := 37) d_MO_shape_36 rfl rfl ?_
          refine r_rz d_MO_shape_37 (by first | assumption | (refine pc_of hP ?_; (repeat (first | assumption | exact md_refl | refine md_up ?_ rfl | refine md_fill ?_ rfl | (unfold ik; refine md_up ?_ rfl))); done) | (refine pm_of hP ?_; (repeat (first | assumption | exact md_refl | refine md_up ?_ rfl | refine md_fill ?_ rfl | (unfold ik; refine md_up ?_ rfl))); done) | omega | decide | ((try simp +decide only [b01, b10, b11, am_up, ik, and_true, and_false, true_and, false_and, if_true, if_false, nn_eq] at *) <;> (try simp only [sw_or, sw_all, or_false, and_true, i32_lt, i32_le, i32_eq, i32_addw, i32_subw, i32_mulw, Int32.reduceToInt] at *) <;> omega) | (apply_assumption; done)) ?_
          exact kC e30
theorem sp_MO_shape {P : am_S} {y : Int32} {st : am_S} {f : Int32 → am_S → Prop} (c1 : PM st P) (c2 : VP P) (c3 : 0 ≤ y.toInt ∧ y.toNatClampNeg < nM P) (c4 : ∀ q, q < nl P y.toNatClampNeg → st 2154 (nb P y.toNatClampNeg + q) = 0) (h1 : ∀ p : {p : Int32 × am_S // msQ P st y.toNatClampNeg p.1 p.2}, f p.1.1 p.1.2) : wp_MO_shape [.inr (.inl 128), .inl y] st (am_ki f) := by
  refine ki_of (g := msQ P st y.toNatClampNeg) mo_MO_shape ?_ h1
  refine ⟨⟨rfl, Nat.le_of_ble_eq_true rfl⟩, ?_⟩
  obtain ⟨v8, ⟨v1, v2, v3, v4, v5⟩, v6, ⟨-, v7, v9⟩, v10⟩ := mf c1 c2 c3.2
  have hb : (nb P y.toNatClampNeg : Int) = (st 2143 y.toNatClampNeg).toInt := by unfold nb; rw [← c1.1.2.1 _ c3.2]; omega
  have hl : (nl P y.toNatClampNeg : Int) = (st 2144 y.toNatClampNeg).toInt := by unfold nl; rw [← c1.1.2.2.1]; omega
  have vy : vp_in y 8 := vp_of c3.1 (by rw [nn_eq] at v8; omega)
  have vy9 : vp_in y 9 := vp_of c3.1 (by rw [nn_eq] at v8; omega)
  refine r_al0 (q := 1) d_MO_shape_0 rfl ?_
  refine gt_MO_begin (q := 4) d_MO_shape_1 rfl rfl ?_
  refine r_il1 (q := 5) d_MO_shape_4 rfl ?_
  refine ld_143 (q := 6) d_MO_shape_5 ?_ rfl ?_
  · first | exact vy | exact vy9
  refine r_is2 (q := 7) d_MO_shape_6 rfl ?_
  refine r_al0 (q := 8) d_MO_shape_7 rfl ?_
  refine gt_MO_begin (q := 11) d_MO_shape_8 rfl rfl ?_
  refine r_il1 (q := 12) d_MO_shape_11 rfl ?_
  refine ld_143 (q := 13) d_MO_shape_12 ?_ rfl ?_
  · first | exact vy | exact vy9
  refine r_al0 (q := 14) d_MO_shape_13 rfl ?_
  refine gt_MO_length (q := 17) d_MO_shape_14 rfl rfl ?_
  refine r_il1 (q := 18) d_MO_shape_17 rfl ?_
  refine ld_144 (q := 19) d_MO_shape_18 ?_ rfl ?_
  · first | exact vy | exact vy9
  refine r_iadd (q := 20) d_MO_shape_19 rfl ?_
  refine r_is3 (q := 21) d_MO_shape_20 rfl ?_
  exact lp_MO_sh1 c1 c2 c3 (by rw [i32_addw]; omega) _ 0 _ _ (by rw [Nat.zero_add]; exact Nat.le_refl _) (Nat.zero_le _) (by omega) rfl md_refl (fun i _ => rfl) (fun q hq => absurd hq (by omega)) (fun q _ hq => c4 q hq) (fun q hq => absurd hq (by omega))

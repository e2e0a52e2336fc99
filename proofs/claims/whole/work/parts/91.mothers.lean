/-! written by wip/whole/gen/walk.py out of 91.mothers.txt -/
def itA (g : am_ts → am_ts) : Nat → am_ts → am_ts
  | 0, o => o
  | n + 1, o => itA g n (g o)
def topT (o : am_ts) : Int32 := match o with
  | none => 0
  | some (_, R, H) => ty_at R (H - 1)
def mo_A (b : Int32) : Prop := op_calc b ∨ b = 46 ∨ b = 79 ∨ (159 ≤ b ∧ b ≤ 164)
def mo_B (b : Int32) : Prop := b = 116 ∨ (153 ≤ b ∧ b ≤ 158) ∨ b = 172 ∨ b = 179 ∨ b = 188
def mo_C (b : Int32) : Prop := b = 46 ∨ b = 79 ∨ b = 190 ∨ b = 198 ∨ b = 199
def mo_D (b : Int32) : Prop := op_calc b ∨ b = 116 ∨ b = 46 ∨ b = 190
theorem itA_none {t : Int32} {n : Nat} : itA (offA t) n none = none := by
  induction n with
  | zero => rfl
  | succ n ih => exact ih
theorem NS_if {st : am_S} {hei g : Int32} {o : am_ts} {c : Prop} [Decidable c] (h : NS st hei o) (hg : (g = 1 ∧ ¬ st 599 0 = 0 ∧ c) ∨ (g = 0 ∧ (st 599 0 = 0 ∨ ¬ c))) : NS (am_up st 599 0 g) hei (ifA c o) := by
  have hb : 0 ≤ (am_up st 599 0 g 598 0).toInt ∧ (am_up st 599 0 g 598 0).toInt ≤ hei.toInt ∧ hei.toInt ≤ 8 := h.1
  unfold ifA
  rcases hg with ⟨g1, g2, g3⟩ | ⟨g1, g2⟩
  · rw [if_pos g3]
    rcases o with _ | ⟨L, R, H⟩
    · exact absurd h.2 g2
    · obtain ⟨-, a1, a2, a3, a4⟩ := h
      exact ⟨hb, by rw [am_up_eq]; exact g1, a2, a3, a4⟩
  · by_cases c0 : c
    · rw [if_pos c0]
      have g3 := g2.resolve_right (fun q => q c0)
      rcases o with _ | ⟨L, R, H⟩
      · exact ⟨hb, by rw [am_up_eq]; exact g1⟩
      · exact absurd (g3.symm.trans h.2.1) (by decide)
    · rw [if_neg c0]
      exact ⟨hb, by rw [am_up_eq]; exact g1⟩
/-- what others does to the state in hand -/
def otR (gm hei b i r : Int32) (c1 c2 c3 c4 : Prop) [Decidable c1] [Decidable c2] [Decidable c3] [Decidable c4] (o : am_ts) : am_ts :=
  let o2 := itA (offA 2) r.toInt.toNat (itA (offA 1) i.toInt.toNat o)
  let o3 := if c1 then offA 0 o2 else o2
  let o4 := if c2 then onA hei 1 o3 else if c3 then onA hei 2 o3 else o3
  ifA c4 o4
abbrev am_oth (y x b : Int32) (K : am_S → Prop) (pc : Nat) (a4 a5 a6 a7 : Option am_V) (stk : List am_V) (st : am_S) : Prop := am_AW c_MO_others g_MO_others (fun o' st' => am_ok none o' ∧ am_kv K o' st') pc [some (.inr (.inl 128)), some (.inl y), some (.inl x), some (.inl b), a4, a5, a6, a7] stk st
theorem lp_ot1 {y x b z hei : Int32} {K : am_S → Prop} {st0 : am_S} (hz : 0 ≤ z.toInt ∧ z.toInt < 8) : ∀ (d : Nat) (w : Int32) (a6 a7 : Option am_V) (o : am_ts) (st : am_S), 0 ≤ w.toInt → w.toInt + d = (st0 2145 z.toNatClampNeg).toInt → am_md mN st0 st → NS st hei o → (∀ w' a6' s, am_md mN st0 s → NS s hei (itA (offA 1) d o) → am_oth y x b K 105 (some (.inl z)) (some (.inl w')) a6' a7 [] s) → am_oth y x b K 80 (some (.inl z)) (some (.inl w)) a6 a7 [] st := by
  intro d
  have vz : vp_in z 8 := vp_of hz.1 hz.2
  induction d with
  | zero =>
    intro w a6 a7 o st k0 k1 k2 k3 k4
    have e : st 2145 z.toNatClampNeg = st0 2145 z.toNatClampNeg := by rw [k2 2145 rfl]
    have kA := k4 w a6 st k2 k3
    clear k4
    refine r_il5 (q := 82) d_MO_others_80 rfl ?_
    refine r_al0 (q := 83) d_MO_others_82 rfl ?_
    refine gt_MO_takes (q := 86) d_MO_others_83 rfl rfl ?_
    refine r_il4 (q := 88) d_MO_others_86 rfl ?_
    refine ld_145 (q := 89) d_MO_others_88 ?_ rfl ?_
    · exact vz
    refine r_cge (tgt := 105) (q := 92) d_MO_others_89 rfl rfl (fun e89 => ?_) (fun e89 => ?_)
    · skip
      first | exact kA | (exfalso; rw [e] at e89; clear kA k2 k3; ((try simp +decide only [b01, b10, b11, am_up, ik, and_true, and_false, true_and, false_and, if_true, if_false, nn_eq] at *) <;> (try simp only [sw_or, sw_all, or_false, and_true, i32_lt, i32_le, i32_eq, i32_addw, i32_subw, i32_mulw, Int32.reduceToInt] at *) <;> omega))
    · skip
      first | exact kA | (exfalso; rw [e] at e89; clear kA k2 k3; ((try simp +decide only [b01, b10, b11, am_up, ik, and_true, and_false, true_and, false_and, if_true, if_false, nn_eq] at *) <;> (try simp only [sw_or, sw_all, or_false, and_true, i32_lt, i32_le, i32_eq, i32_addw, i32_subw, i32_mulw, Int32.reduceToInt] at *) <;> omega))
  | succ d ih =>
    intro w a6 a7 o st k0 k1 k2 k3 k4
    have e : st 2145 z.toNatClampNeg = st0 2145 z.toNatClampNeg := by rw [k2 2145 rfl]
    have hr := i32_rg (st0 2145 z.toNatClampNeg)
    have kA : ∀ r s a6', ofQ 1 hei o st r s → am_oth y x b K 80 (some (.inl z)) (some (.inl (w + 1))) a6' a7 [] s := by
      intro r s a6' h
      exact ih _ a6' a7 (offA 1 o) s (by rw [i32_addw]; simp only [Int32.reduceToInt]; omega) (by rw [i32_addw]; simp only [Int32.reduceToInt]; omega) (md_trans k2 h.1) h.2.1 k4
    clear k4 ih
    refine r_il5 (q := 82) d_MO_others_80 rfl ?_
    refine r_al0 (q := 83) d_MO_others_82 rfl ?_
    refine gt_MO_takes (q := 86) d_MO_others_83 rfl rfl ?_
    refine r_il4 (q := 88) d_MO_others_86 rfl ?_
    refine ld_145 (q := 89) d_MO_others_88 ?_ rfl ?_
    · exact vz
    refine r_cge (tgt := 105) (q := 92) d_MO_others_89 rfl rfl (fun e89 => ?_) (fun e89 => ?_)
    · skip
      first | exact kA _ _ _ e94.2 | (exfalso; rw [e] at e89; clear kA k2 k3; ((try simp +decide only [b01, b10, b11, am_up, ik, and_true, and_false, true_and, false_and, if_true, if_false, nn_eq] at *) <;> (try simp only [sw_or, sw_all, or_false, and_true, i32_lt, i32_le, i32_eq, i32_addw, i32_subw, i32_mulw, Int32.reduceToInt] at *) <;> omega))
    · skip
      refine r_al0 (q := 93) d_MO_others_92 rfl ?_
      refine r_ic (v := 1) (q := 94) d_MO_others_93 rfl rfl ?_
      refine r_vi1 mo_MO_off d_MO_others_94 rfl rfl rfl (q := 97) rfl ?_
      refine sp_MO_off (o := o) (hei := hei) (by first | exact k3 | assumption | (refine pc_of hP ?_; (repeat (first | assumption | exact md_refl | refine md_up ?_ rfl | refine md_fill ?_ rfl | (unfold ik; refine md_up ?_ rfl))); done) | (refine pm_of hP ?_; (repeat (first | assumption | exact md_refl | refine md_up ?_ rfl | refine md_fill ?_ rfl | (unfold ik; refine md_up ?_ rfl))); done) | omega | decide | ((try simp +decide only [b01, b10, b11, am_up, ik, and_true, and_false, true_and, false_and, if_true, if_false, nn_eq] at *) <;> (try simp only [sw_or, sw_all, or_false, and_true, i32_lt, i32_le, i32_eq, i32_addw, i32_subw, i32_mulw, Int32.reduceToInt] at *) <;> omega) | (apply_assumption; done)) (fun e94 => ?_)
      · skip
        refine r_is6 (q := 99) d_MO_others_97 rfl ?_
        refine r_in5 (v := 1) (q := 102) d_MO_others_99 rfl rfl ?_
        refine am_go (tgt := 80) d_MO_others_102 rfl ?_
        first | exact kA _ _ _ e94.2 | (exfalso; rw [e] at e89; clear kA k2 k3; ((try simp +decide only [b01, b10, b11, am_up, ik, and_true, and_false, true_and, false_and, if_true, if_false, nn_eq] at *) <;> (try simp only [sw_or, sw_all, or_false, and_true, i32_lt, i32_le, i32_eq, i32_addw, i32_subw, i32_mulw, Int32.reduceToInt] at *) <;> omega))
theorem lp_ot3 {y x b i r hei : Int32} {K : am_S → Prop} {st0 : am_S} : ∀ (d : Nat) (w : Int32) (a7 : Option am_V) (o : am_ts) (st : am_S), 0 ≤ w.toInt → w.toInt + d = r.toInt → am_md mN st0 st → NS st hei o → (∀ w' a7' s, am_md mN st0 s → NS s hei (itA (offA 2) d o) → am_oth y x b K 325 (some (.inl i)) (some (.inl r)) (some (.inl w')) a7' [] s) → am_oth y x b K 305 (some (.inl i)) (some (.inl r)) (some (.inl w)) a7 [] st := by
  intro d
  induction d with
  | zero =>
    intro w a7 o st k0 k1 k2 k3 k4
    have kA := k4 w a7 st k2 k3
    clear k4
    refine r_il6 (q := 307) d_MO_others_305 rfl ?_
    refine r_il5 (q := 309) d_MO_others_307 rfl ?_
    refine r_cge (tgt := 325) (q := 312) d_MO_others_309 rfl rfl (fun e309 => ?_) (fun e309 => ?_)
    · skip
      first | exact kA | (exfalso; clear kA k2 k3; ((try simp +decide only [b01, b10, b11, am_up, ik, and_true, and_false, true_and, false_and, if_true, if_false, nn_eq] at *) <;> (try simp only [sw_or, sw_all, or_false, and_true, i32_lt, i32_le, i32_eq, i32_addw, i32_subw, i32_mulw, Int32.reduceToInt] at *) <;> omega))
    · skip
      first | exact kA | (exfalso; clear kA k2 k3; ((try simp +decide only [b01, b10, b11, am_up, ik, and_true, and_false, true_and, false_and, if_true, if_false, nn_eq] at *) <;> (try simp only [sw_or, sw_all, or_false, and_true, i32_lt, i32_le, i32_eq, i32_addw, i32_subw, i32_mulw, Int32.reduceToInt] at *) <;> omega))
  | succ d ih =>
    intro w a7 o st k0 k1 k2 k3 k4
    have hr := i32_rg r
    have kA : ∀ r' s a7', ofQ 2 hei o st r' s → am_oth y x b K 305 (some (.inl i)) (some (.inl r)) (some (.inl (w + 1))) a7' [] s := by
      intro r' s a7' h
      exact ih _ a7' (offA 2 o) s (by rw [i32_addw]; simp only [Int32.reduceToInt]; omega) (by rw [i32_addw]; simp only [Int32.reduceToInt]; omega) (md_trans k2 h.1) h.2.1 k4
    clear k4 ih
    refine r_il6 (q := 307) d_MO_others_305 rfl ?_
    refine r_il5 (q := 309) d_MO_others_307 rfl ?_
    refine r_cge (tgt := 325) (q := 312) d_MO_others_309 rfl rfl (fun e309 => ?_) (fun e309 => ?_)
    · skip
      first | exact kA _ _ _ e314.2 | (exfalso; clear kA k2 k3; ((try simp +decide only [b01, b10, b11, am_up, ik, and_true, and_false, true_and, false_and, if_true, if_false, nn_eq] at *) <;> (try simp only [sw_or, sw_all, or_false, and_true, i32_lt, i32_le, i32_eq, i32_addw, i32_subw, i32_mulw, Int32.reduceToInt] at *) <;> omega))
    · skip
      refine r_al0 (q := 313) d_MO_others_312 rfl ?_
      refine r_ic (v := 2) (q := 314) d_MO_others_313 rfl rfl ?_
      refine r_vi1 mo_MO_off d_MO_others_314 rfl rfl rfl (q := 317) rfl ?_
      refine sp_MO_off (o := o) (hei := hei) (by first | exact k3 | assumption | (refine pc_of hP ?_; (repeat (first | assumption | exact md_refl | refine md_up ?_ rfl | refine md_fill ?_ rfl | (unfold ik; refine md_up ?_ rfl))); done) | (refine pm_of hP ?_; (repeat (first | assumption | exact md_refl | refine md_up ?_ rfl | refine md_fill ?_ rfl | (unfold ik; refine md_up ?_ rfl))); done) | omega | decide | ((try simp +decide only [b01, b10, b11, am_up, ik, and_true, and_false, true_and, false_and, if_true, if_false, nn_eq] at *) <;> (try simp only [sw_or, sw_all, or_false, and_true, i32_lt, i32_le, i32_eq, i32_addw, i32_subw, i32_mulw, Int32.reduceToInt] at *) <;> omega) | (apply_assumption; done)) (fun e314 => ?_)
      · skip
        refine r_is7 (q := 319) d_MO_others_317 rfl ?_
        refine r_in6 (v := 1) (q := 322) d_MO_others_319 rfl rfl ?_
        refine am_go (tgt := 305) d_MO_others_322 rfl ?_
        first | exact kA _ _ _ e314.2 | (exfalso; clear kA k2 k3; ((try simp +decide only [b01, b10, b11, am_up, ik, and_true, and_false, true_and, false_and, if_true, if_false, nn_eq] at *) <;> (try simp only [sw_or, sw_all, or_false, and_true, i32_lt, i32_le, i32_eq, i32_addw, i32_subw, i32_mulw, Int32.reduceToInt] at *) <;> omega))
theorem lp_ot2 {y x b i r hei : Int32} {K : am_S → Prop} {st0 : am_S} : ∀ (d : Nat) (w : Int32) (a7 : Option am_V) (o : am_ts) (st : am_S), 0 ≤ w.toInt → w.toInt + d = i.toInt → am_md mN st0 st → NS st hei o → (∀ w' a7' s, am_md mN st0 s → NS s hei (itA (offA 1) d o) → am_oth y x b K 302 (some (.inl i)) (some (.inl r)) (some (.inl w')) a7' [] s) → am_oth y x b K 282 (some (.inl i)) (some (.inl r)) (some (.inl w)) a7 [] st := by
  intro d
  induction d with
  | zero =>
    intro w a7 o st k0 k1 k2 k3 k4
    have kA := k4 w a7 st k2 k3
    clear k4
    refine r_il6 (q := 284) d_MO_others_282 rfl ?_
    refine r_il4 (q := 286) d_MO_others_284 rfl ?_
    refine r_cge (tgt := 302) (q := 289) d_MO_others_286 rfl rfl (fun e286 => ?_) (fun e286 => ?_)
    · skip
      first | exact kA | (exfalso; clear kA k2 k3; ((try simp +decide only [b01, b10, b11, am_up, ik, and_true, and_false, true_and, false_and, if_true, if_false, nn_eq] at *) <;> (try simp only [sw_or, sw_all, or_false, and_true, i32_lt, i32_le, i32_eq, i32_addw, i32_subw, i32_mulw, Int32.reduceToInt] at *) <;> omega))
    · skip
      first | exact kA | (exfalso; clear kA k2 k3; ((try simp +decide only [b01, b10, b11, am_up, ik, and_true, and_false, true_and, false_and, if_true, if_false, nn_eq] at *) <;> (try simp only [sw_or, sw_all, or_false, and_true, i32_lt, i32_le, i32_eq, i32_addw, i32_subw, i32_mulw, Int32.reduceToInt] at *) <;> omega))
  | succ d ih =>
    intro w a7 o st k0 k1 k2 k3 k4
    have hr := i32_rg i
    have kA : ∀ r' s a7', ofQ 1 hei o st r' s → am_oth y x b K 282 (some (.inl i)) (some (.inl r)) (some (.inl (w + 1))) a7' [] s := by
      intro r' s a7' h
      exact ih _ a7' (offA 1 o) s (by rw [i32_addw]; simp only [Int32.reduceToInt]; omega) (by rw [i32_addw]; simp only [Int32.reduceToInt]; omega) (md_trans k2 h.1) h.2.1 k4
    clear k4 ih
    refine r_il6 (q := 284) d_MO_others_282 rfl ?_
    refine r_il4 (q := 286) d_MO_others_284 rfl ?_
    refine r_cge (tgt := 302) (q := 289) d_MO_others_286 rfl rfl (fun e286 => ?_) (fun e286 => ?_)
    · skip
      first | exact kA _ _ _ e291.2 | (exfalso; clear kA k2 k3; ((try simp +decide only [b01, b10, b11, am_up, ik, and_true, and_false, true_and, false_and, if_true, if_false, nn_eq] at *) <;> (try simp only [sw_or, sw_all, or_false, and_true, i32_lt, i32_le, i32_eq, i32_addw, i32_subw, i32_mulw, Int32.reduceToInt] at *) <;> omega))
    · skip
      refine r_al0 (q := 290) d_MO_others_289 rfl ?_
      refine r_ic (v := 1) (q := 291) d_MO_others_290 rfl rfl ?_
      refine r_vi1 mo_MO_off d_MO_others_291 rfl rfl rfl (q := 294) rfl ?_
      refine sp_MO_off (o := o) (hei := hei) (by first | exact k3 | assumption | (refine pc_of hP ?_; (repeat (first | assumption | exact md_refl | refine md_up ?_ rfl | refine md_fill ?_ rfl | (unfold ik; refine md_up ?_ rfl))); done) | (refine pm_of hP ?_; (repeat (first | assumption | exact md_refl | refine md_up ?_ rfl | refine md_fill ?_ rfl | (unfold ik; refine md_up ?_ rfl))); done) | omega | decide | ((try simp +decide only [b01, b10, b11, am_up, ik, and_true, and_false, true_and, false_and, if_true, if_false, nn_eq] at *) <;> (try simp only [sw_or, sw_all, or_false, and_true, i32_lt, i32_le, i32_eq, i32_addw, i32_subw, i32_mulw, Int32.reduceToInt] at *) <;> omega) | (apply_assumption; done)) (fun e291 => ?_)
      · skip
        refine r_is7 (q := 296) d_MO_others_294 rfl ?_
        refine r_in6 (v := 1) (q := 299) d_MO_others_296 rfl rfl ?_
        refine am_go (tgt := 282) d_MO_others_299 rfl ?_
        first | exact kA _ _ _ e291.2 | (exfalso; clear kA k2 k3; ((try simp +decide only [b01, b10, b11, am_up, ik, and_true, and_false, true_and, false_and, if_true, if_false, nn_eq] at *) <;> (try simp only [sw_or, sw_all, or_false, and_true, i32_lt, i32_le, i32_eq, i32_addw, i32_subw, i32_mulw, Int32.reduceToInt] at *) <;> omega))

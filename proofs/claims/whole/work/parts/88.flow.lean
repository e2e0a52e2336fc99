/-! written by wip/whole/gen/walk.py out of 88.flow.txt -/
def fgQ (P : am_S) (m : Nat) (st st' : am_S) : Prop := am_md cV st st' ∧ oS (nb P m) (nl P m) st st' ∧ (∀ p, p < nl P m → st' 2134 (nb P m + p) = -1 ∧ st' 2136 (nb P m + p) = 0) ∧ st' 455 0 = 0
theorem kv_of {w : am_Wp} (hm : am_Mo w) {as : List am_V} {st : am_S} {f g : am_S → Prop} (h : w as st (am_kv g)) (h1 : ∀ p : {p : am_S // g p}, f p.1) : w as st (am_kv f) := by
  refine hm _ _ _ _ (fun o st' ho => ?_) h
  rcases o with (_ | v | y) | n
  · exact h1 ⟨st', ho⟩
  · exact ho
  · exact ho
  · exact ho
theorem lp_FL_fg {P st0 : am_S} {m : Nat} (hP : PC st0 P) (hV : VP P) (hm : m < nM P) : ∀ (d p : Nat) (x : Int32) (st : am_S), p + d = nl P m → x.toInt = (nb P m : Int) + p → am_md cV st0 st → oS (nb P m) (nl P m) st0 st → (∀ q, q < p → st 2134 (nb P m + q) = -1 ∧ st 2136 (nb P m + q) = 0) → am_AW c_FL_forgetStates g_FL_forgetStates (fun o st' => am_ok none o ∧ am_kv (fgQ P m st0) o st') 5 [some (.inr (.inl 126)), some (.inr (.inl (m + 80))), some (.inl x)] [] st := by
  intro d
  induction d with
  | zero =>
    intro p x st k1 k2 k3 k4 k5
    have q := pc_of hP k3
    obtain ⟨v8, ⟨v1, v2, v3, v4, v5⟩, -⟩ := cf q hV hm
    have hb : (nb P m : Int) = (st 67 m).toInt := by unfold nb; rw [← q.1.2.1]; omega
    have hl : (nl P m : Int) = (st 68 m).toInt := by unfold nl; rw [← q.1.2.2.1]; omega
    have e : p = nl P m := by omega
    have kQ : fgQ P m st0 (am_up st 455 0 0) := by
      refine ⟨md_up k3 rfl, oS_up k4 (Or.inr (by decide)), ?_, am_up_eq⟩
      rw [am_up_bank (by decide), am_up_bank (by decide), ← e]
      exact k5
    clear k3 k4 k5
    refine r_il2 (q := 6) d_FL_forgetStates_5 rfl ?_
    refine r_al1 (q := 7) d_FL_forgetStates_6 rfl ?_
    refine r_vi0 mo_ME_end d_FL_forgetStates_7 rfl (r_kM (by first | assumption | (refine pc_of hP ?_; (repeat (first | assumption | exact md_refl | refine md_up ?_ rfl | refine md_fill ?_ rfl | (unfold ik; refine md_up ?_ rfl))); done) | (refine pm_of hP ?_; (repeat (first | assumption | exact md_refl | refine md_up ?_ rfl | refine md_fill ?_ rfl | (unfold ik; refine md_up ?_ rfl))); done) | omega | decide | ((try simp +decide only [b01, b10, b11, am_up, ik, and_true, and_false, true_and, false_and, if_true, if_false, nn_eq] at *) <;> (try simp only [sw_or, sw_all, or_false, and_true, i32_lt, i32_le, i32_eq, i32_addw, i32_subw, i32_mulw, Int32.reduceToInt] at *) <;> omega) | (apply_assumption; done))) rfl (q := 10) rfl ?_
    refine sp_ME_end (by first | assumption | (refine pc_of hP ?_; (repeat (first | assumption | exact md_refl | refine md_up ?_ rfl | refine md_fill ?_ rfl | (unfold ik; refine md_up ?_ rfl))); done) | (refine pm_of hP ?_; (repeat (first | assumption | exact md_refl | refine md_up ?_ rfl | refine md_fill ?_ rfl | (unfold ik; refine md_up ?_ rfl))); done) | omega | decide | ((try simp +decide only [b01, b10, b11, am_up, ik, and_true, and_false, true_and, false_and, if_true, if_false, nn_eq] at *) <;> (try simp only [sw_or, sw_all, or_false, and_true, i32_lt, i32_le, i32_eq, i32_addw, i32_subw, i32_mulw, Int32.reduceToInt] at *) <;> omega) | (apply_assumption; done)) ?_
    refine r_cge (tgt := 33) (q := 13) d_FL_forgetStates_10 rfl rfl (fun e10 => ?_) (fun e10 => ?_)
    · skip
      refine r_al0 (q := 34) d_FL_forgetStates_33 rfl ?_
      refine r_ic (v := 0) (q := 35) d_FL_forgetStates_34 rfl rfl ?_
      refine pt_FL_waitingCount (q := 38) d_FL_forgetStates_35 rfl rfl ?_
      refine r_rv d_FL_forgetStates_38 ?_
      exact kQ
    · skip
      exfalso; clear hP hV q kQ; ((try simp +decide only [b01, b10, b11, am_up, ik, and_true, and_false, true_and, false_and, if_true, if_false, nn_eq] at *) <;> (try simp only [sw_or, sw_all, or_false, and_true, i32_lt, i32_le, i32_eq, i32_addw, i32_subw, i32_mulw, Int32.reduceToInt] at *) <;> omega)
  | succ d ih =>
    intro p x st k1 k2 k3 k4 k5
    have q := pc_of hP k3
    obtain ⟨v8, ⟨v1, v2, v3, v4, v5⟩, -⟩ := cf q hV hm
    have hb : (nb P m : Int) = (st 67 m).toInt := by unfold nb; rw [← q.1.2.1]; omega
    have hl : (nl P m : Int) = (st 68 m).toInt := by unfold nl; rw [← q.1.2.2.1]; omega
    have hx : x.toNatClampNeg = nb P m + p := by rw [nn_eq]; omega
    have vx : vp_in x 200 := vp_of (by omega) (by omega)
    have kA : am_AW c_FL_forgetStates g_FL_forgetStates (fun o st' => am_ok none o ∧ am_kv (fgQ P m st0) o st') 5 [some (.inr (.inl 126)), some (.inr (.inl (m + 80))), some (.inl (x + 1))] [] (am_up (am_up st 2134 x.toNatClampNeg (-1)) 2136 x.toNatClampNeg 0) := by
      rw [hx]
      refine ih (p + 1) _ _ (by omega) (by rw [i32_addw]; simp only [Int32.reduceToInt]; omega) (md_up (md_up k3 rfl) rfl) (oS_up (oS_up k4 (Or.inl (by omega))) (Or.inl (by omega))) ?_
      intro r hr
      by_cases e : r = p
      · rw [e, am_up_bank (by decide), am_up_eq, am_up_eq]
        exact ⟨rfl, rfl⟩
      · rw [am_up_bank (by decide), am_up_ne (by omega), am_up_ne (by omega), am_up_bank (by decide)]
        exact k5 r (by omega)
    clear ih k5
    refine r_il2 (q := 6) d_FL_forgetStates_5 rfl ?_
    refine r_al1 (q := 7) d_FL_forgetStates_6 rfl ?_
    refine r_vi0 mo_ME_end d_FL_forgetStates_7 rfl (r_kM (by first | assumption | (refine pc_of hP ?_; (repeat (first | assumption | exact md_refl | refine md_up ?_ rfl | refine md_fill ?_ rfl | (unfold ik; refine md_up ?_ rfl))); done) | (refine pm_of hP ?_; (repeat (first | assumption | exact md_refl | refine md_up ?_ rfl | refine md_fill ?_ rfl | (unfold ik; refine md_up ?_ rfl))); done) | omega | decide | ((try simp +decide only [b01, b10, b11, am_up, ik, and_true, and_false, true_and, false_and, if_true, if_false, nn_eq] at *) <;> (try simp only [sw_or, sw_all, or_false, and_true, i32_lt, i32_le, i32_eq, i32_addw, i32_subw, i32_mulw, Int32.reduceToInt] at *) <;> omega) | (apply_assumption; done))) rfl (q := 10) rfl ?_
    refine sp_ME_end (by first | assumption | (refine pc_of hP ?_; (repeat (first | assumption | exact md_refl | refine md_up ?_ rfl | refine md_fill ?_ rfl | (unfold ik; refine md_up ?_ rfl))); done) | (refine pm_of hP ?_; (repeat (first | assumption | exact md_refl | refine md_up ?_ rfl | refine md_fill ?_ rfl | (unfold ik; refine md_up ?_ rfl))); done) | omega | decide | ((try simp +decide only [b01, b10, b11, am_up, ik, and_true, and_false, true_and, false_and, if_true, if_false, nn_eq] at *) <;> (try simp only [sw_or, sw_all, or_false, and_true, i32_lt, i32_le, i32_eq, i32_addw, i32_subw, i32_mulw, Int32.reduceToInt] at *) <;> omega) | (apply_assumption; done)) ?_
    refine r_cge (tgt := 33) (q := 13) d_FL_forgetStates_10 rfl rfl (fun e10 => ?_) (fun e10 => ?_)
    · skip
      first | exact kA | (exfalso; clear hP hV q kA k3 k4; ((try simp +decide only [b01, b10, b11, am_up, ik, and_true, and_false, true_and, false_and, if_true, if_false, nn_eq] at *) <;> (try simp only [sw_or, sw_all, or_false, and_true, i32_lt, i32_le, i32_eq, i32_addw, i32_subw, i32_mulw, Int32.reduceToInt] at *) <;> omega))
    · skip
      refine r_al0 (q := 14) d_FL_forgetStates_13 rfl ?_
      refine gt_FL_foundHeight (q := 17) d_FL_forgetStates_14 rfl rfl ?_
      refine r_il2 (q := 18) d_FL_forgetStates_17 rfl ?_
      refine r_ic (v := -1) (q := 19) d_FL_forgetStates_18 rfl rfl ?_
      refine sv_134 (q := 20) d_FL_forgetStates_19 ?_ rfl ?_
      · exact vx
      refine r_al0 (q := 21) d_FL_forgetStates_20 rfl ?_
      refine gt_FL_isWaiting (q := 24) d_FL_forgetStates_21 rfl rfl ?_
      refine r_il2 (q := 25) d_FL_forgetStates_24 rfl ?_
      refine r_ic (v := 0) (q := 26) d_FL_forgetStates_25 rfl rfl ?_
      refine sv_136 (q := 27) d_FL_forgetStates_26 (by first | assumption | (refine pc_of hP ?_; (repeat (first | assumption | exact md_refl | refine md_up ?_ rfl | refine md_fill ?_ rfl | (unfold ik; refine md_up ?_ rfl))); done) | (refine pm_of hP ?_; (repeat (first | assumption | exact md_refl | refine md_up ?_ rfl | refine md_fill ?_ rfl | (unfold ik; refine md_up ?_ rfl))); done) | omega | decide | ((try simp +decide only [b01, b10, b11, am_up, ik, and_true, and_false, true_and, false_and, if_true, if_false, nn_eq] at *) <;> (try simp only [sw_or, sw_all, or_false, and_true, i32_lt, i32_le, i32_eq, i32_addw, i32_subw, i32_mulw, Int32.reduceToInt] at *) <;> omega) | (apply_assumption; done)) ?_ rfl ?_
      · exact vx
      refine r_in2 (v := 1) (q := 30) d_FL_forgetStates_27 rfl rfl ?_
      refine am_go (tgt := 5) d_FL_forgetStates_30 rfl ?_
      first | exact kA | (exfalso; clear hP hV q kA k3 k4; ((try simp +decide only [b01, b10, b11, am_up, ik, and_true, and_false, true_and, false_and, if_true, if_false, nn_eq] at *) <;> (try simp only [sw_or, sw_all, or_false, and_true, i32_lt, i32_le, i32_eq, i32_addw, i32_subw, i32_mulw, Int32.reduceToInt] at *) <;> omega))
theorem sp_FL_forgetStates {P : am_S} {m : Nat} {st : am_S} {f : am_S → Prop} (c1 : PC st P) (c2 : VP P) (c3 : m < nM P) (h1 : ∀ p : {p : am_S // fgQ P m st p}, f p.1) : wp_FL_forgetStates [.inr (.inl 126), .inr (.inl (m + 80))] st (am_kv f) := by
  refine kv_of (g := fgQ P m st) mo_FL_forgetStates ?_ h1
  refine ⟨⟨rfl, Nat.le_of_ble_eq_true rfl⟩, ?_⟩
  obtain ⟨v8, ⟨v1, -⟩, -⟩ := cf c1 c2 c3
  have hb : (nb P m : Int) = (st 67 m).toInt := by unfold nb; rw [← c1.1.2.1]; omega
  refine r_al1 (q := 1) d_FL_forgetStates_0 rfl ?_
  refine gt_ME_first (q := 4) d_FL_forgetStates_1 rfl (by first | assumption | (refine pc_of hP ?_; (repeat (first | assumption | exact md_refl | refine md_up ?_ rfl | refine md_fill ?_ rfl | (unfold ik; refine md_up ?_ rfl))); done) | (refine pm_of hP ?_; (repeat (first | assumption | exact md_refl | refine md_up ?_ rfl | refine md_fill ?_ rfl | (unfold ik; refine md_up ?_ rfl))); done) | omega | decide | ((try simp +decide only [b01, b10, b11, am_up, ik, and_true, and_false, true_and, false_and, if_true, if_false, nn_eq] at *) <;> (try simp only [sw_or, sw_all, or_false, and_true, i32_lt, i32_le, i32_eq, i32_addw, i32_subw, i32_mulw, Int32.reduceToInt] at *) <;> omega) | (apply_assumption; done)) rfl ?_
  refine r_is2 (q := 5) d_FL_forgetStates_4 rfl ?_
  exact lp_FL_fg c1 c2 c3 _ 0 _ _ (Nat.zero_add _) (by omega) md_refl oS_refl (fun q hq => absurd hq (by omega))
theorem lp_FL_at {m : Nat} {st : am_S} {f : Int32 → am_S → Prop} (h8 : m < 8) (h0 : 0 ≤ (st 69 m).toInt) (h : f (ini (st 69 m).toInt.toNat) st) : ∀ d j : Nat, j + d = (st 69 m).toInt.toNat → am_AW c_FL_argumentTypes g_FL_argumentTypes (fun o st' => am_ok (some .int) o ∧ am_ki f o st') 4 [some (.inr (.inl (m + 80))), some (.inl (ini j)), some (.inl (nI j))] [] st := by
  intro d
  induction d with
  | zero =>
    intro j k1
    have e : j = (st 69 m).toInt.toNat := by omega
    have hr := i32_rg (st 69 m)
    have hn : (nI j).toInt = (st 69 m).toInt := by rw [nI_t (by omega)]; omega
    rw [← e] at h
    refine r_il2 (q := 5) d_FL_argumentTypes_4 rfl ?_
    refine r_al0 (q := 6) d_FL_argumentTypes_5 rfl ?_
    refine gt_ME_arguments (q := 9) d_FL_argumentTypes_6 rfl (by first | assumption | (refine pc_of hP ?_; (repeat (first | assumption | exact md_refl | refine md_up ?_ rfl | refine md_fill ?_ rfl | (unfold ik; refine md_up ?_ rfl))); done) | (refine pm_of hP ?_; (repeat (first | assumption | exact md_refl | refine md_up ?_ rfl | refine md_fill ?_ rfl | (unfold ik; refine md_up ?_ rfl))); done) | omega | decide | ((try simp +decide only [b01, b10, b11, am_up, ik, and_true, and_false, true_and, false_and, if_true, if_false, nn_eq] at *) <;> (try simp only [sw_or, sw_all, or_false, and_true, i32_lt, i32_le, i32_eq, i32_addw, i32_subw, i32_mulw, Int32.reduceToInt] at *) <;> omega) | (apply_assumption; done)) rfl ?_
    refine r_cge (tgt := 25) (q := 12) d_FL_argumentTypes_9 rfl rfl (fun e9 => ?_) (fun e9 => ?_)
    · skip
      refine r_il1 (q := 26) d_FL_argumentTypes_25 rfl ?_
      refine r_ri d_FL_argumentTypes_26 ?_
      exact h
    · skip
      exfalso; clear h; ((try simp +decide only [b01, b10, b11, am_up, ik, and_true, and_false, true_and, false_and, if_true, if_false, nn_eq] at *) <;> (try simp only [sw_or, sw_all, or_false, and_true, i32_lt, i32_le, i32_eq, i32_addw, i32_subw, i32_mulw, Int32.reduceToInt] at *) <;> omega)
  | succ d ih =>
    intro j k1
    have hr := i32_rg (st 69 m)
    have hn : (nI j).toInt = j := nI_t (by omega)
    have kA := ih (j + 1) (by omega)
    rw [← nI_s] at kA
    clear ih h
    refine r_il2 (q := 5) d_FL_argumentTypes_4 rfl ?_
    refine r_al0 (q := 6) d_FL_argumentTypes_5 rfl ?_
    refine gt_ME_arguments (q := 9) d_FL_argumentTypes_6 rfl (by first | assumption | (refine pc_of hP ?_; (repeat (first | assumption | exact md_refl | refine md_up ?_ rfl | refine md_fill ?_ rfl | (unfold ik; refine md_up ?_ rfl))); done) | (refine pm_of hP ?_; (repeat (first | assumption | exact md_refl | refine md_up ?_ rfl | refine md_fill ?_ rfl | (unfold ik; refine md_up ?_ rfl))); done) | omega | decide | ((try simp +decide only [b01, b10, b11, am_up, ik, and_true, and_false, true_and, false_and, if_true, if_false, nn_eq] at *) <;> (try simp only [sw_or, sw_all, or_false, and_true, i32_lt, i32_le, i32_eq, i32_addw, i32_subw, i32_mulw, Int32.reduceToInt] at *) <;> omega) | (apply_assumption; done)) rfl ?_
    refine r_cge (tgt := 25) (q := 12) d_FL_argumentTypes_9 rfl rfl (fun e9 => ?_) (fun e9 => ?_)
    · skip
      first | exact kA | (exfalso; clear kA; ((try simp +decide only [b01, b10, b11, am_up, ik, and_true, and_false, true_and, false_and, if_true, if_false, nn_eq] at *) <;> (try simp only [sw_or, sw_all, or_false, and_true, i32_lt, i32_le, i32_eq, i32_addw, i32_subw, i32_mulw, Int32.reduceToInt] at *) <;> omega))
    · skip
      refine r_il1 (q := 13) d_FL_argumentTypes_12 rfl ?_
      refine r_il2 (q := 14) d_FL_argumentTypes_13 rfl ?_
      refine r_ic (v := 1) (q := 15) d_FL_argumentTypes_14 rfl rfl ?_
      refine r_si3 mo_TY_with d_FL_argumentTypes_15 rfl rfl (q := 18) rfl ?_
      refine sp_TY_with ?_
      refine r_is1 (q := 19) d_FL_argumentTypes_18 rfl ?_
      refine r_in2 (v := 1) (q := 22) d_FL_argumentTypes_19 rfl rfl ?_
      refine am_go (tgt := 4) d_FL_argumentTypes_22 rfl ?_
      first | exact kA | (exfalso; clear kA; ((try simp +decide only [b01, b10, b11, am_up, ik, and_true, and_false, true_and, false_and, if_true, if_false, nn_eq] at *) <;> (try simp only [sw_or, sw_all, or_false, and_true, i32_lt, i32_le, i32_eq, i32_addw, i32_subw, i32_mulw, Int32.reduceToInt] at *) <;> omega))
theorem sp_FL_argumentTypes {m : Nat} {st : am_S} {f : Int32 → am_S → Prop} (c1 : m < 8) (c2 : 0 ≤ (st 69 m).toInt) (h : f (ini (st 69 m).toInt.toNat) st) : wp_FL_argumentTypes [.inr (.inl (m + 80))] st (am_ki f) := by
  refine ⟨⟨rfl, Nat.le_of_ble_eq_true rfl⟩, ?_⟩
  refine r_ic (v := 0) (q := 1) d_FL_argumentTypes_0 rfl rfl ?_
  refine r_is1 (q := 2) d_FL_argumentTypes_1 rfl ?_
  refine r_ic (v := 0) (q := 3) d_FL_argumentTypes_2 rfl rfl ?_
  refine r_is2 (q := 4) d_FL_argumentTypes_3 rfl ?_
  exact lp_FL_at c1 c2 h _ 0 (Nat.zero_add _)
theorem CI_0 {P : am_S} {m : Nat} {st : am_S} (h1 : ∀ p, p < nl P m → st 2134 (nb P m + p) = -1 ∧ st 2136 (nb P m + p) = 0) (h2 : st 455 0 = 0) : CI P m 0 (nl P m) 0 0 0 st := by
  have h3 : ∀ p, p < nl P m → cT st (nb P m) 2 p = -1 := fun p hp => (h1 p hp).1
  refine ⟨fun p hp q => absurd (h3 p hp) q, fun U _ p hp q => absurd (h3 p hp) q, ⟨by rw [h2]; decide, fun p hp => Or.inl (h1 p hp).2, ?_, ?_, ?_⟩, ?_, fun p hp q => absurd (h3 p hp) q⟩
  · rw [h2]
    have := @sm_bd (fun p => if st 2136 (nb P m + p) = 0 then 1 else 0) (nl P m) 1 (fun i _ => by split <;> omega)
    simp only [Int32.reduceToInt]
    omega
  · rw [h2]
    intro j hj
    simp only [Int32.reduceToInt] at hj
    omega
  · intro p hp q
    rw [(h1 p hp).2] at q
    exact absurd q (by decide)
  · rw [h2]
    have := @mu_le (nl P m) (cT st (nb P m))
    simp only [Int32.reduceToInt]
    omega
/-- the place on top of the row is taken for a visit -/
theorem CI_pop {P : am_S} {m v p : Nat} {st : am_S} (h : CI P m v (nl P m) 0 0 0 st) (hw : 0 < (st 455 0).toInt) (hp : (st 2135 ((st 455 0).toInt.toNat - 1)).toInt = (p : Int)) : CI P m (v + 1) p (st 2132 (nb P m + p)) (st 2133 (nb P m + p)) (st 2134 (nb P m + p)) (am_up (am_up st 455 0 (st 455 0 - 1)) 2136 (nb P m + p) 0) ∧ p < nl P m ∧ ¬ st 2134 (nb P m + p) = -1 := by
  obtain ⟨a1, a2, ⟨b1, b2, b3, b4, b5⟩, a4, a5⟩ := h
  obtain ⟨d1, d2, d3⟩ := b4 _ (show (st 455 0).toInt.toNat - 1 < (st 455 0).toInt.toNat by omega)
  rw [hp] at d1 d2 d3
  rw [Int.toNat_natCast] at d3
  have hpN : p < nl P m := by omega
  have e1 : cT (am_up (am_up st 455 0 (st 455 0 - 1)) 2136 (nb P m + p) 0) (nb P m) = cT st (nb P m) := by
    funext j q
    unfold cT
    rw [am_up_bank (by decide), am_up_bank (by decide), am_up_bank (by decide), am_up_bank (by decide), am_up_bank (by decide), am_up_bank (by decide)]
  have e2 : (am_up (am_up st 455 0 (st 455 0 - 1)) 2136 (nb P m + p) 0 455 0).toInt = (st 455 0).toInt - 1 := by
    have := i32_rg (st 455 0)
    rw [am_up_bank (by decide), am_up_eq, i32_subw]
    simp only [Int32.reduceToInt]
    omega
  have e3 : ∀ q, ¬ q = p → am_up (am_up st 455 0 (st 455 0 - 1)) 2136 (nb P m + p) 0 2136 (nb P m + q) = st 2136 (nb P m + q) := by
    intro q hq
    rw [am_up_ne (by omega), am_up_bank (by decide)]
  have e4 : am_up (am_up st 455 0 (st 455 0 - 1)) 2136 (nb P m + p) 0 2136 (nb P m + p) = 0 := am_up_eq
  have e5 : am_up (am_up st 455 0 (st 455 0 - 1)) 2136 (nb P m + p) 0 2135 = st 2135 := by rw [am_up_bank (by decide), am_up_bank (by decide)]
  have e6 : am_up (am_up st 455 0 (st 455 0 - 1)) 2136 (nb P m + p) 0 2134 = st 2134 := by rw [am_up_bank (by decide), am_up_bank (by decide)]
  generalize am_up (am_up st 455 0 (st 455 0 - 1)) 2136 (nb P m + p) 0 = s at *
  have s2 := @sm_ch (fun q => if s 2136 (nb P m + q) = 0 then 1 else 0) (fun q => if st 2136 (nb P m + q) = 0 then 1 else 0) (nl P m) p (fun i _ hi => by simp only [e3 i hi]) hpN
  have s3 : (if s 2136 (nb P m + p) = 0 then 1 else 0) = 1 := if_pos e4
  simp only [s3] at s2
  refine ⟨⟨by rw [e1]; exact a1, by rw [e1]; exact a2, ⟨by omega, ?_, by omega, ?_, ?_⟩, by rw [e1]; omega, ?_⟩, hpN, d3⟩
  · intro q hq
    by_cases e : q = p
    · rw [e, e4]
      exact Or.inl rfl
    · rw [e3 q e]
      exact b2 q hq
  · intro j hj
    rw [e5, e6]
    exact b4 j (by omega)
  · intro q hq h1
    by_cases e : q = p
    · rw [e, e4] at h1
      exact absurd h1 (by decide)
    · rw [e3 q e] at h1
      obtain ⟨j, j1, j2⟩ := b5 q hq h1
      refine ⟨j, ?_, by rw [e5]; exact j2⟩
      have : ¬ j = (st 455 0).toInt.toNat - 1 := by
        intro ej
        rw [ej, hp] at j2
        omega
      omega
  · intro q hq h1
    rw [e1] at h1 ⊢
    by_cases e : q = p
    · rw [e]
      exact Or.inr (Or.inl ⟨rfl, rfl, rfl, rfl⟩)
    · rw [e3 q e]
      rcases a5 q hq h1 with c | c | c
      · exact Or.inl c
      · omega
      · exact Or.inr (Or.inr c)
def hfQ (P : am_S) (m : Nat) (st : am_S) (r : Int32) (st' : am_S) : Prop := am_md cV st st' ∧ oS (nb P m) (nl P m) st st' ∧ ((r = 1 ∧ Typ P m (cT st' (nb P m)) ∧ (∀ U, Typ P m U → le (nl P m) (cT st' (nb P m)) U) ∧ WT P m (cT st' (nb P m))) ∨ (r = 0 ∧ ∀ U, ¬ Typ P m U))
theorem vi_1 {P : am_S} {m v : Nat} {r : Int32} {st st' : am_S} (h : viQ P m v st r st') (hr : ¬ r = 0) : am_md cV st st' ∧ oS (nb P m) (nl P m) st st' ∧ CI P m v (nl P m) 0 0 0 st' ∧ le (nl P m) (cT st (nb P m)) (cT st' (nb P m)) := by
  rcases h.2.2 with q | q
  · exact ⟨h.1, h.2.1, q.2⟩
  · exact absurd q.1 hr
theorem vi_0 {P : am_S} {m v : Nat} {r : Int32} {st st' : am_S} (h : viQ P m v st r st') (hr : r = 0) : am_md cV st st' ∧ oS (nb P m) (nl P m) st st' ∧ ∀ U, ¬ Typ P m U := by
  rcases h.2.2 with q | q
  · exact absurd (q.1.symm.trans hr) (by decide)
  · exact ⟨h.1, h.2.1, q.2⟩
theorem hf_end {P st0 st : am_S} {m v : Nat} (h : CI P m v (nl P m) 0 0 0 st) (hw : (st 455 0).toInt ≤ 0) (hA : Ar (nl P m) (cT st (nb P m)) 0 (ini (P 3 m).toInt.toNat) 0 0) (h1 : am_md cV st0 st) (h2 : oS (nb P m) (nl P m) st0 st) : hfQ P m st0 1 st := by
  obtain ⟨a1, a2, ⟨b1, b2, b3, b4, b5⟩, a4, a5⟩ := h
  refine ⟨h1, h2, Or.inl ⟨rfl, ⟨hA, fun p hp hq => ?_⟩, a2, a1⟩⟩
  rcases a5 p hp hq with c | c | c
  · obtain ⟨j, j1, -⟩ := b5 p hp c
    omega
  · omega
  · exact c
theorem lp_FL_hf {P st0 : am_S} {m : Nat} (hP : PC st0 P) (hV : VP P) (hm : m < nM P) (hS : SHP P m) : ∀ (d v : Nat) (x : Int32) (a3 : Option am_V) (st : am_S), v + d = 1800 → x.toInt = (v : Int) → am_md cV st0 st → oS (nb P m) (nl P m) st0 st → CI P m v (nl P m) 0 0 0 st → Ar (nl P m) (cT st (nb P m)) 0 (ini (P 3 m).toInt.toNat) 0 0 → am_AW c_FL_holdsFor g_FL_holdsFor (fun o st' => am_ok (some .boolean) o ∧ am_ki (hfQ P m st0) o st') 24 [some (.inr (.inl 126)), some (.inr (.inl (m + 80))), some (.inl x), a3] [] st := by
  intro d
  have hN : nl P m ≤ 200 := by
    have h3 := hV.2.2 m hm
    have h4 := hV.1
    unfold VM at h3
    unfold nl
    omega
  induction d with
  | zero =>
    intro v x a3 st k1 k2 k3 k4 k5 k6
    have k7 := k5.2.2.2.1
    have kQ := hf_end (st0 := st0) k5 (by omega) k6 k3 k4
    clear k3 k4 k5 k6
    refine r_il2 (q := 25) d_FL_holdsFor_24 rfl ?_
    refine r_sp (v := 1800) (q := 28) d_FL_holdsFor_25 rfl rfl ?_
    refine r_cge (tgt := 87) (q := 31) d_FL_holdsFor_28 rfl rfl (fun e28 => ?_) (fun e28 => ?_)
    · skip
      refine r_ic (v := 1) (q := 88) d_FL_holdsFor_87 rfl rfl ?_
      refine r_rz d_FL_holdsFor_88 (by first | assumption | (refine pc_of hP ?_; (repeat (first | assumption | exact md_refl | refine md_up ?_ rfl | refine md_fill ?_ rfl | (unfold ik; refine md_up ?_ rfl))); done) | (refine pm_of hP ?_; (repeat (first | assumption | exact md_refl | refine md_up ?_ rfl | refine md_fill ?_ rfl | (unfold ik; refine md_up ?_ rfl))); done) | omega | decide | ((try simp +decide only [b01, b10, b11, am_up, ik, and_true, and_false, true_and, false_and, if_true, if_false, nn_eq] at *) <;> (try simp only [sw_or, sw_all, or_false, and_true, i32_lt, i32_le, i32_eq, i32_addw, i32_subw, i32_mulw, Int32.reduceToInt] at *) <;> omega) | (apply_assumption; done)) ?_
      exact kQ
    · skip
      exfalso; clear hP hV hS kQ; ((try simp +decide only [b01, b10, b11, am_up, ik, and_true, and_false, true_and, false_and, if_true, if_false, nn_eq] at *) <;> (try simp only [sw_or, sw_all, or_false, and_true, i32_lt, i32_le, i32_eq, i32_addw, i32_subw, i32_mulw, Int32.reduceToInt] at *) <;> omega)
  | succ d ih =>
    intro v x a3 st k1 k2 k3 k4 k5 k6
    have hPs := pc_of hP k3
    obtain ⟨v8, ⟨v1, v2, v3, v4, v5⟩, -⟩ := cf hPs hV hm
    have hb : (nb P m : Int) = (st 67 m).toInt := by unfold nb; rw [← hPs.1.2.1]; omega
    have hl : (nl P m : Int) = (st 68 m).toInt := by unfold nl; rw [← hPs.1.2.2.1]; omega
    have k7 := k5.2.2.2.1
    by_cases hw : (st 455 0).toInt ≤ 0
    · have kQ := hf_end (st0 := st0) k5 hw k6 k3 k4
      clear k3 k4 k5 k6 ih
      refine r_il2 (q := 25) d_FL_holdsFor_24 rfl ?_
      refine r_sp (v := 1800) (q := 28) d_FL_holdsFor_25 rfl rfl ?_
      refine r_cge (tgt := 87) (q := 31) d_FL_holdsFor_28 rfl rfl (fun e28 => ?_) (fun e28 => ?_)
      · skip
        refine r_ic (v := 1) (q := 88) d_FL_holdsFor_87 rfl rfl ?_
        refine r_rz d_FL_holdsFor_88 (by first | assumption | (refine pc_of hP ?_; (repeat (first | assumption | exact md_refl | refine md_up ?_ rfl | refine md_fill ?_ rfl | (unfold ik; refine md_up ?_ rfl))); done) | (refine pm_of hP ?_; (repeat (first | assumption | exact md_refl | refine md_up ?_ rfl | refine md_fill ?_ rfl | (unfold ik; refine md_up ?_ rfl))); done) | omega | decide | ((try simp +decide only [b01, b10, b11, am_up, ik, and_true, and_false, true_and, false_and, if_true, if_false, nn_eq] at *) <;> (try simp only [sw_or, sw_all, or_false, and_true, i32_lt, i32_le, i32_eq, i32_addw, i32_subw, i32_mulw, Int32.reduceToInt] at *) <;> omega) | (apply_assumption; done)) ?_
        exact kQ
      · skip
        refine r_al0 (q := 32) d_FL_holdsFor_31 rfl ?_
        refine gt_FL_waitingCount (q := 35) d_FL_holdsFor_32 rfl rfl ?_
        refine r_zle (tgt := 87) (q := 38) d_FL_holdsFor_35 rfl rfl (fun e35 => ?_) (fun e35 => ?_)
        · skip
          refine r_ic (v := 1) (q := 88) d_FL_holdsFor_87 rfl rfl ?_
          refine r_rz d_FL_holdsFor_88 (by first | assumption | (refine pc_of hP ?_; (repeat (first | assumption | exact md_refl | refine md_up ?_ rfl | refine md_fill ?_ rfl | (unfold ik; refine md_up ?_ rfl))); done) | (refine pm_of hP ?_; (repeat (first | assumption | exact md_refl | refine md_up ?_ rfl | refine md_fill ?_ rfl | (unfold ik; refine md_up ?_ rfl))); done) | omega | decide | ((try simp +decide only [b01, b10, b11, am_up, ik, and_true, and_false, true_and, false_and, if_true, if_false, nn_eq] at *) <;> (try simp only [sw_or, sw_all, or_false, and_true, i32_lt, i32_le, i32_eq, i32_addw, i32_subw, i32_mulw, Int32.reduceToInt] at *) <;> omega) | (apply_assumption; done)) ?_
          exact kQ
        · skip
          exfalso; clear hP hV hS kQ hPs; ((try simp +decide only [b01, b10, b11, am_up, ik, and_true, and_false, true_and, false_and, if_true, if_false, nn_eq] at *) <;> (try simp only [sw_or, sw_all, or_false, and_true, i32_lt, i32_le, i32_eq, i32_addw, i32_subw, i32_mulw, Int32.reduceToInt] at *) <;> omega)
    · have hw : 0 < (st 455 0).toInt := by omega
      have hwc : (st 455 0).toInt.toNat ≤ nl P m := by
        have := k5.2.2.1.2.2.1
        omega
      have hd := k5.2.2.1.2.2.2.1 ((st 455 0).toInt.toNat - 1) (by omega)
      have e455 : (st 455 0 - 1).toNatClampNeg = (st 455 0).toInt.toNat - 1 ∧ 0 ≤ (st 455 0 - 1).toInt ∧ (st 455 0 - 1).toInt < 200 := by
        rw [nn_eq, i32_subw]
        simp only [Int32.reduceToInt]
        omega
      generalize hy : st 2135 (st 455 0 - 1).toNatClampNeg = y at *
      rw [← e455.1, hy] at hd
      have hyp : y.toInt = ((y.toInt.toNat : Nat) : Int) := by omega
      obtain ⟨g1, g2, g3⟩ := CI_pop (p := y.toInt.toNat) k5 hw (by rw [← e455.1, hy]; exact hyp)
      have ha : (st 67 m + y).toNatClampNeg = nb P m + y.toInt.toNat := by rw [nn_eq, i32_addw]; omega
      have va : vp_in (st 67 m + y) 200 := vp_of (by rw [i32_addw]; omega) (by rw [i32_addw]; omega)
      have vw : vp_in (st 455 0 - 1) 200 := vp_of e455.2.1 e455.2.2
      generalize hs : am_up (am_up st 455 0 (st 455 0 - 1)) 2136 (nb P m + y.toInt.toNat) 0 = s at *
      have s1 : am_md cV st0 s := by rw [← hs]; exact md_up (md_up k3 rfl) rfl
      have s2 : oS (nb P m) (nl P m) st0 s := by rw [← hs]; exact oS_up (oS_up k4 (Or.inr (by decide))) (Or.inr (by decide))
      have s3 : ∀ b, 2131 < b ∧ b < 2136 → s b = st b := by
        intro b hb
        rw [← hs, am_up_bank (by omega), am_up_bank (by omega)]
      have s4 : cT s (nb P m) = cT st (nb P m) := by
        funext j q
        unfold cT
        rw [s3 2132 (by omega), s3 2133 (by omega), s3 2134 (by omega)]
      have s5 : y.toInt.toNat < nl P m ∧ ¬ cT s (nb P m) 2 y.toInt.toNat = -1 := by
        rw [s4]
        exact ⟨g2, g3⟩
      have s6 := pc_of hP s1
      rw [← s3 2132 (by omega), ← s3 2133 (by omega), ← s3 2134 (by omega)] at g1
      have kE : ∀ r s' a3, viQ P m (v + 1) s r s' → ¬ r = 0 → am_AW c_FL_holdsFor g_FL_holdsFor (fun o st' => am_ok (some .boolean) o ∧ am_ki (hfQ P m st0) o st') 24 [some (.inr (.inl 126)), some (.inr (.inl (m + 80))), some (.inl (x + 1)), a3] [] s' := by
        intro r s' a3 h hr
        obtain ⟨z1, z2, z3, z4⟩ := vi_1 h hr
        rw [s4] at z4
        exact ih (v + 1) _ a3 s' (by omega) (by rw [i32_addw]; simp only [Int32.reduceToInt]; omega) (md_trans s1 z1) (oS_trans s2 z2) z3 (Ar_le k6 z4)
      have kF : ∀ r s', viQ P m (v + 1) s r s' → r = 0 → hfQ P m st0 0 s' := by
        intro r s' h hr
        obtain ⟨z1, z2, z3⟩ := vi_0 h hr
        exact ⟨md_trans s1 z1, oS_trans s2 z2, Or.inr ⟨rfl, z3⟩⟩
      have k70 : am_AW c_FL_holdsFor g_FL_holdsFor (fun o st' => am_ok (some .boolean) o ∧ am_ki (hfQ P m st0) o st') 70 [some (.inr (.inl 126)), some (.inr (.inl (m + 80))), some (.inl x), some (.inl y)] [] s := by
        refine r_al0 (q := 71) d_FL_holdsFor_70 rfl ?_
        refine r_al1 (q := 72) d_FL_holdsFor_71 rfl ?_
        refine r_il3 (q := 73) d_FL_holdsFor_72 rfl ?_
        refine r_vi2 mo_FL_visit d_FL_holdsFor_73 rfl rfl rfl (q := 76) rfl ?_
        refine sp_FL_visit (P := P) (v := v + 1) (p := y.toInt.toNat) (by first | exact s6 | exact hyp | exact s5 | exact g1 | assumption | (refine pc_of hP ?_; (repeat (first | assumption | exact md_refl | refine md_up ?_ rfl | refine md_fill ?_ rfl | (unfold ik; refine md_up ?_ rfl))); done) | (refine pm_of hP ?_; (repeat (first | assumption | exact md_refl | refine md_up ?_ rfl | refine md_fill ?_ rfl | (unfold ik; refine md_up ?_ rfl))); done) | omega | decide | ((try simp +decide only [b01, b10, b11, am_up, ik, and_true, and_false, true_and, false_and, if_true, if_false, nn_eq] at *) <;> (try simp only [sw_or, sw_all, or_false, and_true, i32_lt, i32_le, i32_eq, i32_addw, i32_subw, i32_mulw, Int32.reduceToInt] at *) <;> omega) | (apply_assumption; done)) (by first | exact s6 | exact hyp | exact s5 | exact g1 | assumption | (refine pc_of hP ?_; (repeat (first | assumption | exact md_refl | refine md_up ?_ rfl | refine md_fill ?_ rfl | (unfold ik; refine md_up ?_ rfl))); done) | (refine pm_of hP ?_; (repeat (first | assumption | exact md_refl | refine md_up ?_ rfl | refine md_fill ?_ rfl | (unfold ik; refine md_up ?_ rfl))); done) | omega | decide | ((try simp +decide only [b01, b10, b11, am_up, ik, and_true, and_false, true_and, false_and, if_true, if_false, nn_eq] at *) <;> (try simp only [sw_or, sw_all, or_false, and_true, i32_lt, i32_le, i32_eq, i32_addw, i32_subw, i32_mulw, Int32.reduceToInt] at *) <;> omega) | (apply_assumption; done)) (by first | exact s6 | exact hyp | exact s5 | exact g1 | assumption | (refine pc_of hP ?_; (repeat (first | assumption | exact md_refl | refine md_up ?_ rfl | refine md_fill ?_ rfl | (unfold ik; refine md_up ?_ rfl))); done) | (refine pm_of hP ?_; (repeat (first | assumption | exact md_refl | refine md_up ?_ rfl | refine md_fill ?_ rfl | (unfold ik; refine md_up ?_ rfl))); done) | omega | decide | ((try simp +decide only [b01, b10, b11, am_up, ik, and_true, and_false, true_and, false_and, if_true, if_false, nn_eq] at *) <;> (try simp only [sw_or, sw_all, or_false, and_true, i32_lt, i32_le, i32_eq, i32_addw, i32_subw, i32_mulw, Int32.reduceToInt] at *) <;> omega) | (apply_assumption; done)) (by first | exact s6 | exact hyp | exact s5 | exact g1 | assumption | (refine pc_of hP ?_; (repeat (first | assumption | exact md_refl | refine md_up ?_ rfl | refine md_fill ?_ rfl | (unfold ik; refine md_up ?_ rfl))); done) | (refine pm_of hP ?_; (repeat (first | assumption | exact md_refl | refine md_up ?_ rfl | refine md_fill ?_ rfl | (unfold ik; refine md_up ?_ rfl))); done) | omega | decide | ((try simp +decide only [b01, b10, b11, am_up, ik, and_true, and_false, true_and, false_and, if_true, if_false, nn_eq] at *) <;> (try simp only [sw_or, sw_all, or_false, and_true, i32_lt, i32_le, i32_eq, i32_addw, i32_subw, i32_mulw, Int32.reduceToInt] at *) <;> omega) | (apply_assumption; done)) (by first | exact s6 | exact hyp | exact s5 | exact g1 | assumption | (refine pc_of hP ?_; (repeat (first | assumption | exact md_refl | refine md_up ?_ rfl | refine md_fill ?_ rfl | (unfold ik; refine md_up ?_ rfl))); done) | (refine pm_of hP ?_; (repeat (first | assumption | exact md_refl | refine md_up ?_ rfl | refine md_fill ?_ rfl | (unfold ik; refine md_up ?_ rfl))); done) | omega | decide | ((try simp +decide only [b01, b10, b11, am_up, ik, and_true, and_false, true_and, false_and, if_true, if_false, nn_eq] at *) <;> (try simp only [sw_or, sw_all, or_false, and_true, i32_lt, i32_le, i32_eq, i32_addw, i32_subw, i32_mulw, Int32.reduceToInt] at *) <;> omega) | (apply_assumption; done)) (by first | exact s6 | exact hyp | exact s5 | exact g1 | assumption | (refine pc_of hP ?_; (repeat (first | assumption | exact md_refl | refine md_up ?_ rfl | refine md_fill ?_ rfl | (unfold ik; refine md_up ?_ rfl))); done) | (refine pm_of hP ?_; (repeat (first | assumption | exact md_refl | refine md_up ?_ rfl | refine md_fill ?_ rfl | (unfold ik; refine md_up ?_ rfl))); done) | omega | decide | ((try simp +decide only [b01, b10, b11, am_up, ik, and_true, and_false, true_and, false_and, if_true, if_false, nn_eq] at *) <;> (try simp only [sw_or, sw_all, or_false, and_true, i32_lt, i32_le, i32_eq, i32_addw, i32_subw, i32_mulw, Int32.reduceToInt] at *) <;> omega) | (apply_assumption; done)) (by first | exact s6 | exact hyp | exact s5 | exact g1 | assumption | (refine pc_of hP ?_; (repeat (first | assumption | exact md_refl | refine md_up ?_ rfl | refine md_fill ?_ rfl | (unfold ik; refine md_up ?_ rfl))); done) | (refine pm_of hP ?_; (repeat (first | assumption | exact md_refl | refine md_up ?_ rfl | refine md_fill ?_ rfl | (unfold ik; refine md_up ?_ rfl))); done) | omega | decide | ((try simp +decide only [b01, b10, b11, am_up, ik, and_true, and_false, true_and, false_and, if_true, if_false, nn_eq] at *) <;> (try simp only [sw_or, sw_all, or_false, and_true, i32_lt, i32_le, i32_eq, i32_addw, i32_subw, i32_mulw, Int32.reduceToInt] at *) <;> omega) | (apply_assumption; done)) (fun e73 => ?_)
        · skip
          refine r_zne (tgt := 81) (q := 79) d_FL_holdsFor_76 rfl rfl (fun e76 => ?_) (fun e76 => ?_)
          · skip
            refine r_in2 (v := 1) (q := 84) d_FL_holdsFor_81 rfl rfl ?_
            refine am_go (tgt := 24) d_FL_holdsFor_84 rfl ?_
            exact kE _ _ _ e73.2 e76
          · skip
            refine r_ic (v := 0) (q := 80) d_FL_holdsFor_79 rfl rfl ?_
            refine r_rz d_FL_holdsFor_80 (by first | exact s6 | exact hyp | exact s5 | exact g1 | assumption | (refine pc_of hP ?_; (repeat (first | assumption | exact md_refl | refine md_up ?_ rfl | refine md_fill ?_ rfl | (unfold ik; refine md_up ?_ rfl))); done) | (refine pm_of hP ?_; (repeat (first | assumption | exact md_refl | refine md_up ?_ rfl | refine md_fill ?_ rfl | (unfold ik; refine md_up ?_ rfl))); done) | omega | decide | ((try simp +decide only [b01, b10, b11, am_up, ik, and_true, and_false, true_and, false_and, if_true, if_false, nn_eq] at *) <;> (try simp only [sw_or, sw_all, or_false, and_true, i32_lt, i32_le, i32_eq, i32_addw, i32_subw, i32_mulw, Int32.reduceToInt] at *) <;> omega) | (apply_assumption; done)) ?_
            exact kF _ _ e73.2 e76
      clear ih kE kF k3 k4 k5 k6 g1 s1 s2 s3 s4 s5 s6 hd
      rw [← hs, ← ha, ← hy] at k70
      rw [← hy] at va
      clear hs
      refine r_il2 (q := 25) d_FL_holdsFor_24 rfl ?_
      refine r_sp (v := 1800) (q := 28) d_FL_holdsFor_25 rfl rfl ?_
      refine r_cge (tgt := 87) (q := 31) d_FL_holdsFor_28 rfl rfl (fun e28 => ?_) (fun e28 => ?_)
      · skip
        first | exact k70 | (exfalso; clear hP hV hS k70 hPs va vw ha hyp hy; ((try simp +decide only [b01, b10, b11, am_up, ik, and_true, and_false, true_and, false_and, if_true, if_false, nn_eq] at *) <;> (try simp only [sw_or, sw_all, or_false, and_true, i32_lt, i32_le, i32_eq, i32_addw, i32_subw, i32_mulw, Int32.reduceToInt] at *) <;> omega))
      · skip
        refine r_al0 (q := 32) d_FL_holdsFor_31 rfl ?_
        refine gt_FL_waitingCount (q := 35) d_FL_holdsFor_32 rfl rfl ?_
        refine r_zle (tgt := 87) (q := 38) d_FL_holdsFor_35 rfl rfl (fun e35 => ?_) (fun e35 => ?_)
        · skip
          first | exact k70 | (exfalso; clear hP hV hS k70 hPs va vw ha hyp hy; ((try simp +decide only [b01, b10, b11, am_up, ik, and_true, and_false, true_and, false_and, if_true, if_false, nn_eq] at *) <;> (try simp only [sw_or, sw_all, or_false, and_true, i32_lt, i32_le, i32_eq, i32_addw, i32_subw, i32_mulw, Int32.reduceToInt] at *) <;> omega))
        · skip
          refine r_al0 (q := 39) d_FL_holdsFor_38 rfl ?_
          refine r_dupr (q := 40) d_FL_holdsFor_39 rfl ?_
          refine gt_FL_waitingCount (q := 43) d_FL_holdsFor_40 rfl rfl ?_
          refine r_ic (v := 1) (q := 44) d_FL_holdsFor_43 rfl rfl ?_
          refine r_isub (q := 45) d_FL_holdsFor_44 rfl ?_
          refine pt_FL_waitingCount (q := 48) d_FL_holdsFor_45 rfl rfl ?_
          refine r_al0 (q := 49) d_FL_holdsFor_48 rfl ?_
          refine gt_FL_waiting (q := 52) d_FL_holdsFor_49 rfl rfl ?_
          refine r_al0 (q := 53) d_FL_holdsFor_52 rfl ?_
          refine gt_FL_waitingCount (q := 56) d_FL_holdsFor_53 rfl rfl ?_
          refine ld_135 (q := 57) d_FL_holdsFor_56 ?_ rfl ?_
          · first | exact vw | exact va
          refine r_is3 (q := 58) d_FL_holdsFor_57 rfl ?_
          refine r_al0 (q := 59) d_FL_holdsFor_58 rfl ?_
          refine gt_FL_isWaiting (q := 62) d_FL_holdsFor_59 rfl rfl ?_
          refine r_al1 (q := 63) d_FL_holdsFor_62 rfl ?_
          refine gt_ME_first (q := 66) d_FL_holdsFor_63 rfl (by first | assumption | (refine pc_of hP ?_; (repeat (first | assumption | exact md_refl | refine md_up ?_ rfl | refine md_fill ?_ rfl | (unfold ik; refine md_up ?_ rfl))); done) | (refine pm_of hP ?_; (repeat (first | assumption | exact md_refl | refine md_up ?_ rfl | refine md_fill ?_ rfl | (unfold ik; refine md_up ?_ rfl))); done) | omega | decide | ((try simp +decide only [b01, b10, b11, am_up, ik, and_true, and_false, true_and, false_and, if_true, if_false, nn_eq] at *) <;> (try simp only [sw_or, sw_all, or_false, and_true, i32_lt, i32_le, i32_eq, i32_addw, i32_subw, i32_mulw, Int32.reduceToInt] at *) <;> omega) | (apply_assumption; done)) rfl ?_
          refine r_il3 (q := 67) d_FL_holdsFor_66 rfl ?_
          refine r_iadd (q := 68) d_FL_holdsFor_67 rfl ?_
          refine r_ic (v := 0) (q := 69) d_FL_holdsFor_68 rfl rfl ?_
          refine sv_136 (q := 70) d_FL_holdsFor_69 (by first | assumption | (refine pc_of hP ?_; (repeat (first | assumption | exact md_refl | refine md_up ?_ rfl | refine md_fill ?_ rfl | (unfold ik; refine md_up ?_ rfl))); done) | (refine pm_of hP ?_; (repeat (first | assumption | exact md_refl | refine md_up ?_ rfl | refine md_fill ?_ rfl | (unfold ik; refine md_up ?_ rfl))); done) | omega | decide | ((try simp +decide only [b01, b10, b11, am_up, ik, and_true, and_false, true_and, false_and, if_true, if_false, nn_eq] at *) <;> (try simp only [sw_or, sw_all, or_false, and_true, i32_lt, i32_le, i32_eq, i32_addw, i32_subw, i32_mulw, Int32.reduceToInt] at *) <;> omega) | (apply_assumption; done)) ?_ rfl ?_
          · first | exact vw | exact va
          first | exact k70 | (exfalso; clear hP hV hS k70 hPs va vw ha hyp hy; ((try simp +decide only [b01, b10, b11, am_up, ik, and_true, and_false, true_and, false_and, if_true, if_false, nn_eq] at *) <;> (try simp only [sw_or, sw_all, or_false, and_true, i32_lt, i32_le, i32_eq, i32_addw, i32_subw, i32_mulw, Int32.reduceToInt] at *) <;> omega))
theorem sp_FL_holdsFor {P : am_S} {m : Nat} {st : am_S} {f : Int32 → am_S → Prop} (c1 : PC st P) (c2 : VP P) (c3 : m < nM P) (c4 : SHP P m) (h1 : ∀ q : {q : Int32 × am_S // hfQ P m st q.1 q.2}, f q.1.1 q.1.2) : wp_FL_holdsFor [.inr (.inl 126), .inr (.inl (m + 80))] st (am_ki f) := by
  refine ki_of (g := hfQ P m st) mo_FL_holdsFor ?_ h1
  refine ⟨⟨rfl, Nat.le_of_ble_eq_true rfl⟩, ?_⟩
  clear h1
  obtain ⟨v8, -, ⟨v1, v2, v3, v4, v5, v6⟩, -⟩ := cf c1 c2 c3
  have q3 := c1.1.2.2.2.1
  have q5 := c1.1.2.2.2.2.2.1
  have kI : ∀ s : am_S, fgQ P m st s → am_AW c_FL_holdsFor g_FL_holdsFor (fun o st' => am_ok (some .boolean) o ∧ am_ki (hfQ P m st) o st') 5 [some (.inr (.inl 126)), some (.inr (.inl (m + 80))), none, none] [] s := by
    intro s hs
    have hPs := pc_of c1 hs.1
    have hCI := CI_0 hs.2.2.1 hs.2.2.2
    have e69 : s 69 m = st 69 m := by rw [hs.1 69 rfl]
    have w69 : 0 ≤ (s 69 m).toInt := by rw [e69]; exact v1
    have hWS : WS P m (ini (s 69 m).toInt.toNat) 0 0 := ini_WS (by rw [e69]; omega) (by rw [← q5]; exact v5)
    have hbg : 0 ≤ (0 : Int32).toInt → (0 : Int32).toInt < (nl P m : Int) → bg P m (0 : Int32).toInt.toNat := fun _ _ => rfl
    have e3 : (P 3 m).toInt.toNat = (s 69 m).toInt.toNat := by rw [e69, q3]
    have hA : ∀ U, Typ P m U → Ar (nl P m) U (0 : Int32).toInt (ini (s 69 m).toInt.toNat) 0 0 := by
      intro U hU
      have := hU.1
      rw [e3] at this
      exact this
    have kE : ∀ r s', ctQ P m 0 (nl P m) 0 0 0 0 (ini (s 69 m).toInt.toNat) 0 0 s r s' → ¬ r = 0 → am_AW c_FL_holdsFor g_FL_holdsFor (fun o st' => am_ok (some .boolean) o ∧ am_ki (hfQ P m st) o st') 24 [some (.inr (.inl 126)), some (.inr (.inl (m + 80))), some (.inl 0), none] [] s' := by
      intro r s' h hr
      obtain ⟨z1, z2, z3, z4, z5⟩ := ct_1 h hr
      rw [← e3] at z5
      exact lp_FL_hf c1 c2 c3 c4 1800 0 0 none s' (by omega) (by decide) (md_trans hs.1 (md_W z1)) (oS_trans hs.2.1 z2) z3 z5
    have kF : ∀ r s', ctQ P m 0 (nl P m) 0 0 0 0 (ini (s 69 m).toInt.toNat) 0 0 s r s' → r = 0 → hfQ P m st 0 s' := by
      intro r s' h hr
      obtain ⟨z1, z2, z3⟩ := ct_0 h hr
      exact ⟨md_trans hs.1 (md_W z1), oS_trans hs.2.1 z2, Or.inr ⟨rfl, z3⟩⟩
    refine r_al0 (q := 6) d_FL_holdsFor_5 rfl ?_
    refine r_al1 (q := 7) d_FL_holdsFor_6 rfl ?_
    refine r_ic (v := 0) (q := 8) d_FL_holdsFor_7 rfl rfl ?_
    refine r_al1 (q := 9) d_FL_holdsFor_8 rfl ?_
    refine r_si1 mo_FL_argumentTypes d_FL_holdsFor_9 rfl rfl (q := 12) rfl ?_
    refine sp_FL_argumentTypes (by first | exact hPs | exact hCI | exact hWS | exact hbg | exact hA | exact w69 | assumption | (refine pc_of hP ?_; (repeat (first | assumption | exact md_refl | refine md_up ?_ rfl | refine md_fill ?_ rfl | (unfold ik; refine md_up ?_ rfl))); done) | (refine pm_of hP ?_; (repeat (first | assumption | exact md_refl | refine md_up ?_ rfl | refine md_fill ?_ rfl | (unfold ik; refine md_up ?_ rfl))); done) | omega | decide | ((try simp +decide only [b01, b10, b11, am_up, ik, and_true, and_false, true_and, false_and, if_true, if_false, nn_eq] at *) <;> (try simp only [sw_or, sw_all, or_false, and_true, i32_lt, i32_le, i32_eq, i32_addw, i32_subw, i32_mulw, Int32.reduceToInt] at *) <;> omega) | (apply_assumption; done)) (by first | exact hPs | exact hCI | exact hWS | exact hbg | exact hA | exact w69 | assumption | (refine pc_of hP ?_; (repeat (first | assumption | exact md_refl | refine md_up ?_ rfl | refine md_fill ?_ rfl | (unfold ik; refine md_up ?_ rfl))); done) | (refine pm_of hP ?_; (repeat (first | assumption | exact md_refl | refine md_up ?_ rfl | refine md_fill ?_ rfl | (unfold ik; refine md_up ?_ rfl))); done) | omega | decide | ((try simp +decide only [b01, b10, b11, am_up, ik, and_true, and_false, true_and, false_and, if_true, if_false, nn_eq] at *) <;> (try simp only [sw_or, sw_all, or_false, and_true, i32_lt, i32_le, i32_eq, i32_addw, i32_subw, i32_mulw, Int32.reduceToInt] at *) <;> omega) | (apply_assumption; done)) ?_
    refine r_ic (v := 0) (q := 13) d_FL_holdsFor_12 rfl rfl ?_
    refine r_ic (v := 0) (q := 14) d_FL_holdsFor_13 rfl rfl ?_
    refine r_vi5 mo_FL_comeTo d_FL_holdsFor_14 rfl rfl rfl (q := 17) rfl ?_
    refine sp_FL_comeTo (P := P) (v := 0) (p0 := nl P m) (L0 := 0) (R0 := 0) (H0 := 0) (by first | exact hPs | exact hCI | exact hWS | exact hbg | exact hA | exact w69 | assumption | (refine pc_of hP ?_; (repeat (first | assumption | exact md_refl | refine md_up ?_ rfl | refine md_fill ?_ rfl | (unfold ik; refine md_up ?_ rfl))); done) | (refine pm_of hP ?_; (repeat (first | assumption | exact md_refl | refine md_up ?_ rfl | refine md_fill ?_ rfl | (unfold ik; refine md_up ?_ rfl))); done) | omega | decide | ((try simp +decide only [b01, b10, b11, am_up, ik, and_true, and_false, true_and, false_and, if_true, if_false, nn_eq] at *) <;> (try simp only [sw_or, sw_all, or_false, and_true, i32_lt, i32_le, i32_eq, i32_addw, i32_subw, i32_mulw, Int32.reduceToInt] at *) <;> omega) | (apply_assumption; done)) (by first | exact hPs | exact hCI | exact hWS | exact hbg | exact hA | exact w69 | assumption | (refine pc_of hP ?_; (repeat (first | assumption | exact md_refl | refine md_up ?_ rfl | refine md_fill ?_ rfl | (unfold ik; refine md_up ?_ rfl))); done) | (refine pm_of hP ?_; (repeat (first | assumption | exact md_refl | refine md_up ?_ rfl | refine md_fill ?_ rfl | (unfold ik; refine md_up ?_ rfl))); done) | omega | decide | ((try simp +decide only [b01, b10, b11, am_up, ik, and_true, and_false, true_and, false_and, if_true, if_false, nn_eq] at *) <;> (try simp only [sw_or, sw_all, or_false, and_true, i32_lt, i32_le, i32_eq, i32_addw, i32_subw, i32_mulw, Int32.reduceToInt] at *) <;> omega) | (apply_assumption; done)) (by first | exact hPs | exact hCI | exact hWS | exact hbg | exact hA | exact w69 | assumption | (refine pc_of hP ?_; (repeat (first | assumption | exact md_refl | refine md_up ?_ rfl | refine md_fill ?_ rfl | (unfold ik; refine md_up ?_ rfl))); done) | (refine pm_of hP ?_; (repeat (first | assumption | exact md_refl | refine md_up ?_ rfl | refine md_fill ?_ rfl | (unfold ik; refine md_up ?_ rfl))); done) | omega | decide | ((try simp +decide only [b01, b10, b11, am_up, ik, and_true, and_false, true_and, false_and, if_true, if_false, nn_eq] at *) <;> (try simp only [sw_or, sw_all, or_false, and_true, i32_lt, i32_le, i32_eq, i32_addw, i32_subw, i32_mulw, Int32.reduceToInt] at *) <;> omega) | (apply_assumption; done)) (by first | exact hPs | exact hCI | exact hWS | exact hbg | exact hA | exact w69 | assumption | (refine pc_of hP ?_; (repeat (first | assumption | exact md_refl | refine md_up ?_ rfl | refine md_fill ?_ rfl | (unfold ik; refine md_up ?_ rfl))); done) | (refine pm_of hP ?_; (repeat (first | assumption | exact md_refl | refine md_up ?_ rfl | refine md_fill ?_ rfl | (unfold ik; refine md_up ?_ rfl))); done) | omega | decide | ((try simp +decide only [b01, b10, b11, am_up, ik, and_true, and_false, true_and, false_and, if_true, if_false, nn_eq] at *) <;> (try simp only [sw_or, sw_all, or_false, and_true, i32_lt, i32_le, i32_eq, i32_addw, i32_subw, i32_mulw, Int32.reduceToInt] at *) <;> omega) | (apply_assumption; done)) (by first | exact hPs | exact hCI | exact hWS | exact hbg | exact hA | exact w69 | assumption | (refine pc_of hP ?_; (repeat (first | assumption | exact md_refl | refine md_up ?_ rfl | refine md_fill ?_ rfl | (unfold ik; refine md_up ?_ rfl))); done) | (refine pm_of hP ?_; (repeat (first | assumption | exact md_refl | refine md_up ?_ rfl | refine md_fill ?_ rfl | (unfold ik; refine md_up ?_ rfl))); done) | omega | decide | ((try simp +decide only [b01, b10, b11, am_up, ik, and_true, and_false, true_and, false_and, if_true, if_false, nn_eq] at *) <;> (try simp only [sw_or, sw_all, or_false, and_true, i32_lt, i32_le, i32_eq, i32_addw, i32_subw, i32_mulw, Int32.reduceToInt] at *) <;> omega) | (apply_assumption; done)) (by first | exact hPs | exact hCI | exact hWS | exact hbg | exact hA | exact w69 | assumption | (refine pc_of hP ?_; (repeat (first | assumption | exact md_refl | refine md_up ?_ rfl | refine md_fill ?_ rfl | (unfold ik; refine md_up ?_ rfl))); done) | (refine pm_of hP ?_; (repeat (first | assumption | exact md_refl | refine md_up ?_ rfl | refine md_fill ?_ rfl | (unfold ik; refine md_up ?_ rfl))); done) | omega | decide | ((try simp +decide only [b01, b10, b11, am_up, ik, and_true, and_false, true_and, false_and, if_true, if_false, nn_eq] at *) <;> (try simp only [sw_or, sw_all, or_false, and_true, i32_lt, i32_le, i32_eq, i32_addw, i32_subw, i32_mulw, Int32.reduceToInt] at *) <;> omega) | (apply_assumption; done)) (by first | exact hPs | exact hCI | exact hWS | exact hbg | exact hA | exact w69 | assumption | (refine pc_of hP ?_; (repeat (first | assumption | exact md_refl | refine md_up ?_ rfl | refine md_fill ?_ rfl | (unfold ik; refine md_up ?_ rfl))); done) | (refine pm_of hP ?_; (repeat (first | assumption | exact md_refl | refine md_up ?_ rfl | refine md_fill ?_ rfl | (unfold ik; refine md_up ?_ rfl))); done) | omega | decide | ((try simp +decide only [b01, b10, b11, am_up, ik, and_true, and_false, true_and, false_and, if_true, if_false, nn_eq] at *) <;> (try simp only [sw_or, sw_all, or_false, and_true, i32_lt, i32_le, i32_eq, i32_addw, i32_subw, i32_mulw, Int32.reduceToInt] at *) <;> omega) | (apply_assumption; done)) (fun e14 => ?_)
    · skip
      refine r_zne (tgt := 22) (q := 20) d_FL_holdsFor_17 rfl rfl (fun e17 => ?_) (fun e17 => ?_)
      · skip
        refine r_ic (v := 0) (q := 23) d_FL_holdsFor_22 rfl rfl ?_
        refine r_is2 (q := 24) d_FL_holdsFor_23 rfl ?_
        exact kE _ _ e14.2 e17
      · skip
        refine r_ic (v := 0) (q := 21) d_FL_holdsFor_20 rfl rfl ?_
        refine r_rz d_FL_holdsFor_21 (by first | exact hPs | exact hCI | exact hWS | exact hbg | exact hA | exact w69 | assumption | (refine pc_of hP ?_; (repeat (first | assumption | exact md_refl | refine md_up ?_ rfl | refine md_fill ?_ rfl | (unfold ik; refine md_up ?_ rfl))); done) | (refine pm_of hP ?_; (repeat (first | assumption | exact md_refl | refine md_up ?_ rfl | refine md_fill ?_ rfl | (unfold ik; refine md_up ?_ rfl))); done) | omega | decide | ((try simp +decide only [b01, b10, b11, am_up, ik, and_true, and_false, true_and, false_and, if_true, if_false, nn_eq] at *) <;> (try simp only [sw_or, sw_all, or_false, and_true, i32_lt, i32_le, i32_eq, i32_addw, i32_subw, i32_mulw, Int32.reduceToInt] at *) <;> omega) | (apply_assumption; done)) ?_
        exact kF _ _ e14.2 e17
  refine r_al0 (q := 1) d_FL_holdsFor_0 rfl ?_
  refine r_al1 (q := 2) d_FL_holdsFor_1 rfl ?_
  refine r_vv1 mo_FL_forgetStates d_FL_holdsFor_2 rfl rfl rfl (q := 5) rfl ?_
  refine sp_FL_forgetStates (P := P) (by first | assumption | (refine pc_of hP ?_; (repeat (first | assumption | exact md_refl | refine md_up ?_ rfl | refine md_fill ?_ rfl | (unfold ik; refine md_up ?_ rfl))); done) | (refine pm_of hP ?_; (repeat (first | assumption | exact md_refl | refine md_up ?_ rfl | refine md_fill ?_ rfl | (unfold ik; refine md_up ?_ rfl))); done) | omega | decide | ((try simp +decide only [b01, b10, b11, am_up, ik, and_true, and_false, true_and, false_and, if_true, if_false, nn_eq] at *) <;> (try simp only [sw_or, sw_all, or_false, and_true, i32_lt, i32_le, i32_eq, i32_addw, i32_subw, i32_mulw, Int32.reduceToInt] at *) <;> omega) | (apply_assumption; done)) (by first | assumption | (refine pc_of hP ?_; (repeat (first | assumption | exact md_refl | refine md_up ?_ rfl | refine md_fill ?_ rfl | (unfold ik; refine md_up ?_ rfl))); done) | (refine pm_of hP ?_; (repeat (first | assumption | exact md_refl | refine md_up ?_ rfl | refine md_fill ?_ rfl | (unfold ik; refine md_up ?_ rfl))); done) | omega | decide | ((try simp +decide only [b01, b10, b11, am_up, ik, and_true, and_false, true_and, false_and, if_true, if_false, nn_eq] at *) <;> (try simp only [sw_or, sw_all, or_false, and_true, i32_lt, i32_le, i32_eq, i32_addw, i32_subw, i32_mulw, Int32.reduceToInt] at *) <;> omega) | (apply_assumption; done)) (by first | assumption | (refine pc_of hP ?_; (repeat (first | assumption | exact md_refl | refine md_up ?_ rfl | refine md_fill ?_ rfl | (unfold ik; refine md_up ?_ rfl))); done) | (refine pm_of hP ?_; (repeat (first | assumption | exact md_refl | refine md_up ?_ rfl | refine md_fill ?_ rfl | (unfold ik; refine md_up ?_ rfl))); done) | omega | decide | ((try simp +decide only [b01, b10, b11, am_up, ik, and_true, and_false, true_and, false_and, if_true, if_false, nn_eq] at *) <;> (try simp only [sw_or, sw_all, or_false, and_true, i32_lt, i32_le, i32_eq, i32_addw, i32_subw, i32_mulw, Int32.reduceToInt] at *) <;> omega) | (apply_assumption; done)) (fun e2 => ?_)
  · skip
    exact kI _ e2.2

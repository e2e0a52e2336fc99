/-! written by wip/whole/gen/walk.py out of 81.apply2.txt -/
theorem lp_FL_call {c : Nat} {st : am_S} {f : Int32 → am_S → Prop} (hc : c < 8) : ∀ (d : Nat) (x R H : Int32), 0 ≤ x.toInt → x.toInt + d = (st 69 c).toInt → (∀ q : Int32 × Int32, ∀ y, pops (List.replicate d 1) R H = some q → am_AW c_FL_applyCall g_FL_applyCall (fun o st' => am_ok (some .boolean) o ∧ am_ki f o st') 61 [some (.inr (.inl 126)), some (.inr (.inl (c + 80))), some (.inl y)] [] (fs st q.1 q.2)) → (∀ q : Int32 × Int32, pops (List.replicate d 1) R H = none → f 0 (fs st q.1 q.2)) → am_AW c_FL_applyCall g_FL_applyCall (fun o st' => am_ok (some .boolean) o ∧ am_ki f o st') 37 [some (.inr (.inl 126)), some (.inr (.inl (c + 80))), some (.inl x)] [] (fs st R H) := by
  intro d
  induction d with
  | zero =>
    intro x R H k1 k2 h1 h2
    have e69 : fs st R H 69 c = st 69 c := by rw [fs_n (by decide)]
    refine r_il2 (q := 38) d_FL_applyCall_37 rfl ?_
    refine r_al1 (q := 39) d_FL_applyCall_38 rfl ?_
    refine gt_ME_arguments (q := 42) d_FL_applyCall_39 rfl (by first | assumption | (refine pc_of hP ?_; (repeat (first | assumption | exact md_refl | refine md_up ?_ rfl | refine md_fill ?_ rfl | (unfold ik; refine md_up ?_ rfl))); done) | (refine pm_of hP ?_; (repeat (first | assumption | exact md_refl | refine md_up ?_ rfl | refine md_fill ?_ rfl | (unfold ik; refine md_up ?_ rfl))); done) | omega | decide | ((try simp +decide only [b01, b10, b11, am_up, ik, and_true, and_false, true_and, false_and, if_true, if_false, nn_eq] at *) <;> (try simp only [sw_or, sw_all, or_false, and_true, i32_lt, i32_le, i32_eq, i32_addw, i32_subw, i32_mulw, Int32.reduceToInt] at *) <;> omega) | (apply_assumption; done)) rfl ?_
    refine r_cge (tgt := 61) (q := 45) d_FL_applyCall_42 rfl rfl (fun e42 => ?_) (fun e42 => ?_)
    · skip
      first | exact h1 (R, H) _ rfl | (exfalso; rw [e69] at e42; clear h1 h2; ((try simp +decide only [b01, b10, b11, am_up, ik, and_true, and_false, true_and, false_and, if_true, if_false, nn_eq] at *) <;> (try simp only [sw_or, sw_all, or_false, and_true, i32_lt, i32_le, i32_eq, i32_addw, i32_subw, i32_mulw, Int32.reduceToInt] at *) <;> omega))
    · skip
      first | exact h1 (R, H) _ rfl | (exfalso; rw [e69] at e42; clear h1 h2; ((try simp +decide only [b01, b10, b11, am_up, ik, and_true, and_false, true_and, false_and, if_true, if_false, nn_eq] at *) <;> (try simp only [sw_or, sw_all, or_false, and_true, i32_lt, i32_le, i32_eq, i32_addw, i32_subw, i32_mulw, Int32.reduceToInt] at *) <;> omega))
  | succ d ih =>
    intro x R H k1 k2 h1 h2
    have e69 : fs st R H 69 c = st 69 c := by rw [fs_n (by decide)]
    have kA : tkT R H = 1 → am_AW c_FL_applyCall g_FL_applyCall (fun o st' => am_ok (some .boolean) o ∧ am_ki f o st') 37 [some (.inr (.inl 126)), some (.inr (.inl (c + 80))), some (.inl (x + 1))] [] (fs st (tkR R H) (tkH H)) := by
      intro e
      have hx := i32_rg (st 69 c)
      refine ih _ _ _ (by rw [i32_addw]; simp only [Int32.reduceToInt]; omega) (by rw [i32_addw]; simp only [Int32.reduceToInt]; omega) (fun q y hq => h1 q y ?_) (fun q hq => h2 q ?_)
      · rw [List.replicate_succ]
        unfold pops
        rw [if_pos e]
        exact hq
      · rw [List.replicate_succ]
        unfold pops
        rw [if_pos e]
        exact hq
    have kB : ¬ tkT R H = 1 → f 0 (fs st (tkR R H) (tkH H)) := by
      intro e
      refine h2 (_, _) ?_
      rw [List.replicate_succ]
      unfold pops
      rw [if_neg e]
    clear ih h1 h2
    refine r_il2 (q := 38) d_FL_applyCall_37 rfl ?_
    refine r_al1 (q := 39) d_FL_applyCall_38 rfl ?_
    refine gt_ME_arguments (q := 42) d_FL_applyCall_39 rfl (by first | assumption | (refine pc_of hP ?_; (repeat (first | assumption | exact md_refl | refine md_up ?_ rfl | refine md_fill ?_ rfl | (unfold ik; refine md_up ?_ rfl))); done) | (refine pm_of hP ?_; (repeat (first | assumption | exact md_refl | refine md_up ?_ rfl | refine md_fill ?_ rfl | (unfold ik; refine md_up ?_ rfl))); done) | omega | decide | ((try simp +decide only [b01, b10, b11, am_up, ik, and_true, and_false, true_and, false_and, if_true, if_false, nn_eq] at *) <;> (try simp only [sw_or, sw_all, or_false, and_true, i32_lt, i32_le, i32_eq, i32_addw, i32_subw, i32_mulw, Int32.reduceToInt] at *) <;> omega) | (apply_assumption; done)) rfl ?_
    refine r_cge (tgt := 61) (q := 45) d_FL_applyCall_42 rfl rfl (fun e42 => ?_) (fun e42 => ?_)
    · skip
      (try simp only [fs_fs, fs_R, fs_H] at *); first | exact kA e50 | (exfalso; rw [e69] at e42; clear kA kB; ((try simp +decide only [b01, b10, b11, am_up, ik, and_true, and_false, true_and, false_and, if_true, if_false, nn_eq] at *) <;> (try simp only [sw_or, sw_all, or_false, and_true, i32_lt, i32_le, i32_eq, i32_addw, i32_subw, i32_mulw, Int32.reduceToInt] at *) <;> omega))
    · skip
      refine r_al0 (q := 46) d_FL_applyCall_45 rfl ?_
      refine r_vi0 mo_FL_takeAny d_FL_applyCall_46 rfl rfl rfl (q := 49) rfl ?_
      refine sp_FL_takeAny ?_
      refine r_ic (v := 1) (q := 50) d_FL_applyCall_49 rfl rfl ?_
      refine r_ceq (tgt := 55) (q := 53) d_FL_applyCall_50 rfl rfl (fun e50 => ?_) (fun e50 => ?_)
      · skip
        refine r_in2 (v := 1) (q := 58) d_FL_applyCall_55 rfl rfl ?_
        refine am_go (tgt := 37) d_FL_applyCall_58 rfl ?_
        (try simp only [fs_fs, fs_R, fs_H] at *); first | exact kA e50 | (exfalso; rw [e69] at e42; clear kA kB; ((try simp +decide only [b01, b10, b11, am_up, ik, and_true, and_false, true_and, false_and, if_true, if_false, nn_eq] at *) <;> (try simp only [sw_or, sw_all, or_false, and_true, i32_lt, i32_le, i32_eq, i32_addw, i32_subw, i32_mulw, Int32.reduceToInt] at *) <;> omega))
      · skip
        refine r_ic (v := 0) (q := 54) d_FL_applyCall_53 rfl rfl ?_
        refine r_rz d_FL_applyCall_54 (by first | assumption | (refine pc_of hP ?_; (repeat (first | assumption | exact md_refl | refine md_up ?_ rfl | refine md_fill ?_ rfl | (unfold ik; refine md_up ?_ rfl))); done) | (refine pm_of hP ?_; (repeat (first | assumption | exact md_refl | refine md_up ?_ rfl | refine md_fill ?_ rfl | (unfold ik; refine md_up ?_ rfl))); done) | omega | decide | ((try simp +decide only [b01, b10, b11, am_up, ik, and_true, and_false, true_and, false_and, if_true, if_false, nn_eq] at *) <;> (try simp only [sw_or, sw_all, or_false, and_true, i32_lt, i32_le, i32_eq, i32_addw, i32_subw, i32_mulw, Int32.reduceToInt] at *) <;> omega) | (apply_assumption; done)) ?_
        (try simp only [fs_fs, fs_R, fs_H] at *); exact kB e50
theorem sp_FL_applyCall {P : am_S} {st : am_S} {f : Int32 → am_S → Prop} (c1 : PC st P) (c2 : VP P) (c3 : 0 ≤ st 193 1 ∧ st 193 1 < st 323 0) (h1 : ∀ q : {q : Int32 × Int32 // pops (List.replicate (P 3 (st 193 1).toNatClampNeg).toNatClampNeg 1) (st 457 0) (st 458 0) = some q}, f 1 (fs st (puR q.1.1 q.1.2 (if P 6 (st 193 1).toNatClampNeg = 0 then 0 else 1)) (puH q.1.2 (if P 6 (st 193 1).toNatClampNeg = 0 then 0 else 1)))) (h2 : ∀ q : {q : Int32 × Int32 // pops (List.replicate (P 3 (st 193 1).toNatClampNeg).toNatClampNeg 1) (st 457 0) (st 458 0) = none}, f 0 (fs st q.1.1 q.1.2)) : wp_FL_applyCall [.inr (.inl 126)] st (am_ki f) := by
  refine ⟨⟨rfl, Nat.le_of_ble_eq_true rfl⟩, ?_⟩
  have hm : (st 193 1).toNatClampNeg < nM P := by
    have h := c3
    rw [i32_le, i32_lt, c1.2.2.2.2.2.2.1] at h
    simp only [Int32.reduceToInt] at h
    unfold nM
    rw [nn_eq]
    omega
  obtain ⟨v8, -, ⟨v1, v2, -⟩, -⟩ := cf c1 c2 hm
  have v0 : 0 ≤ (st 193 1).toInt := by
    have h := c3.1
    rw [i32_le] at h
    exact h
  have vn : vp_in (st 193 1) 8 := vp_of v0 (by rw [nn_eq] at v8; omega)
  have e3 : (P 3 (st 193 1).toNatClampNeg).toNatClampNeg = (st 69 (st 193 1).toNatClampNeg).toInt.toNat := by rw [nn_eq, c1.1.2.2.2.1]
  have e6 : P 6 (st 193 1).toNatClampNeg = st 72 (st 193 1).toNatClampNeg := by rw [c1.1.2.2.2.2.2.2]
  rw [e3, e6] at h1
  rw [e3] at h2
  clear e3 e6 hm
  have k61 : ∀ q : Int32 × Int32, ∀ y, pops (List.replicate (st 69 (st 193 1).toNatClampNeg).toInt.toNat 1) (st 457 0) (st 458 0) = some q → am_AW c_FL_applyCall g_FL_applyCall (fun o st' => am_ok (some .boolean) o ∧ am_ki f o st') 61 [some (.inr (.inl 126)), some (.inr (.inl ((st 193 1).toNatClampNeg + 80))), some (.inl y)] [] (fs st q.1 q.2) := by
    intro q y hq
    have g := h1 ⟨q, hq⟩
    clear h1 h2
    simp only at g
    have e72 : fs st q.1 q.2 72 (st 193 1).toNatClampNeg = st 72 (st 193 1).toNatClampNeg := by rw [fs_n (by decide)]
    by_cases e : st 72 (st 193 1).toNatClampNeg = 0
    · rw [if_pos e, pu_0.1, (@pu_0 q.1 _).2] at g
      refine r_al1 (q := 62) d_FL_applyCall_61 rfl ?_
      refine gt_ME_givesInt (q := 65) d_FL_applyCall_62 rfl (by first | assumption | (refine pc_of hP ?_; (repeat (first | assumption | exact md_refl | refine md_up ?_ rfl | refine md_fill ?_ rfl | (unfold ik; refine md_up ?_ rfl))); done) | (refine pm_of hP ?_; (repeat (first | assumption | exact md_refl | refine md_up ?_ rfl | refine md_fill ?_ rfl | (unfold ik; refine md_up ?_ rfl))); done) | omega | decide | ((try simp +decide only [b01, b10, b11, am_up, ik, and_true, and_false, true_and, false_and, if_true, if_false, nn_eq] at *) <;> (try simp only [sw_or, sw_all, or_false, and_true, i32_lt, i32_le, i32_eq, i32_addw, i32_subw, i32_mulw, Int32.reduceToInt] at *) <;> omega) | (apply_assumption; done)) rfl ?_
      refine r_zeq (tgt := 73) (q := 68) d_FL_applyCall_65 rfl rfl (fun e65 => ?_) (fun e65 => ?_)
      · skip
        refine r_ic (v := 1) (q := 74) d_FL_applyCall_73 rfl rfl ?_
        refine r_rz d_FL_applyCall_74 (by first | assumption | (refine pc_of hP ?_; (repeat (first | assumption | exact md_refl | refine md_up ?_ rfl | refine md_fill ?_ rfl | (unfold ik; refine md_up ?_ rfl))); done) | (refine pm_of hP ?_; (repeat (first | assumption | exact md_refl | refine md_up ?_ rfl | refine md_fill ?_ rfl | (unfold ik; refine md_up ?_ rfl))); done) | omega | decide | ((try simp +decide only [b01, b10, b11, am_up, ik, and_true, and_false, true_and, false_and, if_true, if_false, nn_eq] at *) <;> (try simp only [sw_or, sw_all, or_false, and_true, i32_lt, i32_le, i32_eq, i32_addw, i32_subw, i32_mulw, Int32.reduceToInt] at *) <;> omega) | (apply_assumption; done)) ?_
        (try simp only [fs_fs, fs_R, fs_H] at *); rw [e72] at e65; first | exact g | exact absurd e e65
      · skip
        refine r_al0 (q := 69) d_FL_applyCall_68 rfl ?_
        refine r_ic (v := 1) (q := 70) d_FL_applyCall_69 rfl rfl ?_
        refine r_vv1 mo_FL_put d_FL_applyCall_70 rfl rfl rfl (q := 73) rfl ?_
        refine sp_FL_put ?_
        refine r_ic (v := 1) (q := 74) d_FL_applyCall_73 rfl rfl ?_
        refine r_rz d_FL_applyCall_74 (by first | assumption | (refine pc_of hP ?_; (repeat (first | assumption | exact md_refl | refine md_up ?_ rfl | refine md_fill ?_ rfl | (unfold ik; refine md_up ?_ rfl))); done) | (refine pm_of hP ?_; (repeat (first | assumption | exact md_refl | refine md_up ?_ rfl | refine md_fill ?_ rfl | (unfold ik; refine md_up ?_ rfl))); done) | omega | decide | ((try simp +decide only [b01, b10, b11, am_up, ik, and_true, and_false, true_and, false_and, if_true, if_false, nn_eq] at *) <;> (try simp only [sw_or, sw_all, or_false, and_true, i32_lt, i32_le, i32_eq, i32_addw, i32_subw, i32_mulw, Int32.reduceToInt] at *) <;> omega) | (apply_assumption; done)) ?_
        (try simp only [fs_fs, fs_R, fs_H] at *); rw [e72] at e65; first | exact g | exact absurd e e65
    · rw [if_neg e] at g
      refine r_al1 (q := 62) d_FL_applyCall_61 rfl ?_
      refine gt_ME_givesInt (q := 65) d_FL_applyCall_62 rfl (by first | assumption | (refine pc_of hP ?_; (repeat (first | assumption | exact md_refl | refine md_up ?_ rfl | refine md_fill ?_ rfl | (unfold ik; refine md_up ?_ rfl))); done) | (refine pm_of hP ?_; (repeat (first | assumption | exact md_refl | refine md_up ?_ rfl | refine md_fill ?_ rfl | (unfold ik; refine md_up ?_ rfl))); done) | omega | decide | ((try simp +decide only [b01, b10, b11, am_up, ik, and_true, and_false, true_and, false_and, if_true, if_false, nn_eq] at *) <;> (try simp only [sw_or, sw_all, or_false, and_true, i32_lt, i32_le, i32_eq, i32_addw, i32_subw, i32_mulw, Int32.reduceToInt] at *) <;> omega) | (apply_assumption; done)) rfl ?_
      refine r_zeq (tgt := 73) (q := 68) d_FL_applyCall_65 rfl rfl (fun e65 => ?_) (fun e65 => ?_)
      · skip
        refine r_ic (v := 1) (q := 74) d_FL_applyCall_73 rfl rfl ?_
        refine r_rz d_FL_applyCall_74 (by first | assumption | (refine pc_of hP ?_; (repeat (first | assumption | exact md_refl | refine md_up ?_ rfl | refine md_fill ?_ rfl | (unfold ik; refine md_up ?_ rfl))); done) | (refine pm_of hP ?_; (repeat (first | assumption | exact md_refl | refine md_up ?_ rfl | refine md_fill ?_ rfl | (unfold ik; refine md_up ?_ rfl))); done) | omega | decide | ((try simp +decide only [b01, b10, b11, am_up, ik, and_true, and_false, true_and, false_and, if_true, if_false, nn_eq] at *) <;> (try simp only [sw_or, sw_all, or_false, and_true, i32_lt, i32_le, i32_eq, i32_addw, i32_subw, i32_mulw, Int32.reduceToInt] at *) <;> omega) | (apply_assumption; done)) ?_
        (try simp only [fs_fs, fs_R, fs_H] at *); rw [e72] at e65; first | exact g | exact absurd e65 e
      · skip
        refine r_al0 (q := 69) d_FL_applyCall_68 rfl ?_
        refine r_ic (v := 1) (q := 70) d_FL_applyCall_69 rfl rfl ?_
        refine r_vv1 mo_FL_put d_FL_applyCall_70 rfl rfl rfl (q := 73) rfl ?_
        refine sp_FL_put ?_
        refine r_ic (v := 1) (q := 74) d_FL_applyCall_73 rfl rfl ?_
        refine r_rz d_FL_applyCall_74 (by first | assumption | (refine pc_of hP ?_; (repeat (first | assumption | exact md_refl | refine md_up ?_ rfl | refine md_fill ?_ rfl | (unfold ik; refine md_up ?_ rfl))); done) | (refine pm_of hP ?_; (repeat (first | assumption | exact md_refl | refine md_up ?_ rfl | refine md_fill ?_ rfl | (unfold ik; refine md_up ?_ rfl))); done) | omega | decide | ((try simp +decide only [b01, b10, b11, am_up, ik, and_true, and_false, true_and, false_and, if_true, if_false, nn_eq] at *) <;> (try simp only [sw_or, sw_all, or_false, and_true, i32_lt, i32_le, i32_eq, i32_addw, i32_subw, i32_mulw, Int32.reduceToInt] at *) <;> omega) | (apply_assumption; done)) ?_
        (try simp only [fs_fs, fs_R, fs_H] at *); rw [e72] at e65; first | exact g | exact absurd e65 e
  refine r_al0 (q := 1) d_FL_applyCall_0 rfl ?_
  refine gt_FL_code (q := 4) d_FL_applyCall_1 rfl rfl ?_
  refine r_al0 (q := 5) d_FL_applyCall_4 rfl ?_
  refine gt_FL_now (q := 8) d_FL_applyCall_5 rfl rfl ?_
  refine gt_IN_number (q := 11) d_FL_applyCall_8 rfl (by first | assumption | (refine pc_of hP ?_; (repeat (first | assumption | exact md_refl | refine md_up ?_ rfl | refine md_fill ?_ rfl | (unfold ik; refine md_up ?_ rfl))); done) | (refine pm_of hP ?_; (repeat (first | assumption | exact md_refl | refine md_up ?_ rfl | refine md_fill ?_ rfl | (unfold ik; refine md_up ?_ rfl))); done) | omega | decide | ((try simp +decide only [b01, b10, b11, am_up, ik, and_true, and_false, true_and, false_and, if_true, if_false, nn_eq] at *) <;> (try simp only [sw_or, sw_all, or_false, and_true, i32_lt, i32_le, i32_eq, i32_addw, i32_subw, i32_mulw, Int32.reduceToInt] at *) <;> omega) | (apply_assumption; done)) rfl ?_
  refine r_vi1 mo_CO_hasMethod d_FL_applyCall_11 rfl rfl rfl (q := 14) rfl ?_
  refine sq_CO_hasMethod (fun e11 => ?_) (fun e11 => ?_)
  · skip
    refine r_zne (tgt := 19) (q := 17) d_FL_applyCall_14 rfl rfl (fun e14 => ?_) (fun e14 => by exfalso; revert e14; decide)
    refine r_al0 (q := 20) d_FL_applyCall_19 rfl ?_
    refine gt_FL_code (q := 23) d_FL_applyCall_20 rfl rfl ?_
    refine gt_CO_methods (q := 26) d_FL_applyCall_23 rfl rfl ?_
    refine r_al0 (q := 27) d_FL_applyCall_26 rfl ?_
    refine gt_FL_now (q := 30) d_FL_applyCall_27 rfl rfl ?_
    refine gt_IN_number (q := 33) d_FL_applyCall_30 rfl (by first | assumption | (refine pc_of hP ?_; (repeat (first | assumption | exact md_refl | refine md_up ?_ rfl | refine md_fill ?_ rfl | (unfold ik; refine md_up ?_ rfl))); done) | (refine pm_of hP ?_; (repeat (first | assumption | exact md_refl | refine md_up ?_ rfl | refine md_fill ?_ rfl | (unfold ik; refine md_up ?_ rfl))); done) | omega | decide | ((try simp +decide only [b01, b10, b11, am_up, ik, and_true, and_false, true_and, false_and, if_true, if_false, nn_eq] at *) <;> (try simp only [sw_or, sw_all, or_false, and_true, i32_lt, i32_le, i32_eq, i32_addw, i32_subw, i32_mulw, Int32.reduceToInt] at *) <;> omega) | (apply_assumption; done)) rfl ?_
    refine ld_130 (q := 34) d_FL_applyCall_33 ?_ rfl ?_
    · exact vn
    refine r_as1 (q := 35) d_FL_applyCall_34 rfl ?_
    refine r_ic (v := 0) (q := 36) d_FL_applyCall_35 rfl rfl ?_
    refine r_is2 (q := 37) d_FL_applyCall_36 rfl ?_
    have g := lp_FL_call v8 _ 0 (st 457 0) (st 458 0) (by decide) (by simp only [Int32.reduceToInt]; omega) k61 (fun q hq => h2 ⟨q, hq⟩); rw [fs_self rfl rfl] at g; exact g
  · skip
    refine r_zne (tgt := 19) (q := 17) d_FL_applyCall_14 rfl rfl (fun e14 => by exfalso; revert e14; decide) (fun e14 => ?_)
    refine r_ic (v := 0) (q := 18) d_FL_applyCall_17 rfl rfl ?_
    refine r_rz d_FL_applyCall_18 (by first | assumption | (refine pc_of hP ?_; (repeat (first | assumption | exact md_refl | refine md_up ?_ rfl | refine md_fill ?_ rfl | (unfold ik; refine md_up ?_ rfl))); done) | (refine pm_of hP ?_; (repeat (first | assumption | exact md_refl | refine md_up ?_ rfl | refine md_fill ?_ rfl | (unfold ik; refine md_up ?_ rfl))); done) | omega | decide | ((try simp +decide only [b01, b10, b11, am_up, ik, and_true, and_false, true_and, false_and, if_true, if_false, nn_eq] at *) <;> (try simp only [sw_or, sw_all, or_false, and_true, i32_lt, i32_le, i32_eq, i32_addw, i32_subw, i32_mulw, Int32.reduceToInt] at *) <;> omega) | (apply_assumption; done)) ?_
    exact absurd c3 e11
def fl (st : am_S) (L R H : Int32) : am_S := am_up (fs st R H) 456 0 L
theorem fl_self {st : am_S} {R H : Int32} : fl st (st 456 0) R H = fs st R H := by
  unfold fl
  exact am_up_self (by rw [fs_n (by decide)])
theorem fl_fs {st : am_S} {L R H R' H' : Int32} : fs (am_up (fs st R H) 456 0 L) R' H' = fl st L R' H' := by
  funext b i
  unfold fl fs am_up
  by_cases h1 : b = 457 ∧ i = 0
  · rw [if_pos h1, if_neg (by omega), if_pos h1]
  · by_cases h2 : b = 458 ∧ i = 0
    · rw [if_neg h1, if_pos h2, if_neg (by omega), if_neg h1, if_pos h2]
    · rw [if_neg h1, if_neg h2, if_neg h1, if_neg h2, if_neg h1, if_neg h2]
theorem lp_FL_plain {r w : Int32} {st : am_S} {f : Int32 → am_S → Prop} (l : List Int32) : ∀ (j : Nat) (a : Option am_V) (R H : Int32), j + l.length = 3 → (∀ i, ∀ (hi : i < l.length), l[i]'hi = ty_at w (nI (j + i))) → (∀ q : Int32 × Int32, ∀ a' x', popz l R H = some q → am_AW c_FL_applyPlain g_FL_applyPlain (fun o st' => am_ok (some .boolean) o ∧ am_ki f o st') 82 [some (.inr (.inl 126)), some (.inl r), some (.inl w), some (.inl x'), a'] [] (fs st q.1 q.2)) → (∀ q : Int32 × Int32, popz l R H = none → f 0 (fs st q.1 q.2)) → am_AW c_FL_applyPlain g_FL_applyPlain (fun o st' => am_ok (some .boolean) o ∧ am_ki f o st') 48 [some (.inr (.inl 126)), some (.inl r), some (.inl w), some (.inl (nI j)), a] [] (fs st R H) := by
  induction l with
  | nil =>
    intro j a R H k1 k2 h1 h2
    have e : j = 3 := by simpa using k1
    subst e
    refine r_il3 (q := 49) d_FL_applyPlain_48 rfl ?_
    refine r_ic (v := 3) (q := 50) d_FL_applyPlain_49 rfl rfl ?_
    refine r_cge (tgt := 82) (q := 53) d_FL_applyPlain_50 rfl rfl (fun e50 => ?_) (fun e50 => ?_)
    · skip
      first | exact h1 (R, H) _ _ rfl | (exfalso; exact e50 (by decide))
    · skip
      first | exact h1 (R, H) _ _ rfl | (exfalso; exact e50 (by decide))
  | cons t l ih =>
    intro j a R H k1 k2 h1 h2
    have hj : j < 3 := by rw [List.length_cons] at k1; omega
    have ht : t = ty_at w (nI j) := by
      have := k2 0 (by rw [List.length_cons]; omega)
      simpa using this
    have hn : ¬ (3 : Int32) ≤ nI j := by
      rw [i32_le, nI_t (by omega)]
      simp only [Int32.reduceToInt]
      omega
    have kA : ∀ a' R' H', (∀ q : Int32 × Int32, popz l R' H' = some q → popz (t :: l) R H = some q) → (popz l R' H' = none → popz (t :: l) R H = none) → am_AW c_FL_applyPlain g_FL_applyPlain (fun o st' => am_ok (some .boolean) o ∧ am_ki f o st') 48 [some (.inr (.inl 126)), some (.inl r), some (.inl w), some (.inl (nI j + 1)), a'] [] (fs st R' H') := by
      intro a' R' H' g1 g2
      rw [nI_s]
      refine ih (j + 1) a' R' H' (by rw [List.length_cons] at k1; omega) (fun i hi => ?_) (fun q a'' x'' hq => h1 q a'' x'' (g1 q hq)) (fun q hq => h2 q (g2 hq))
      have := k2 (i + 1) (by rw [List.length_cons]; omega)
      rw [List.getElem_cons_succ] at this
      rw [this]
      congr 2
      omega
    have p1 : ty_at w (nI j) = 0 → ∀ R' H', R' = R → H' = H → popz l R' H' = popz (t :: l) R H := by
      intro e R' H' e1 e2
      subst e1 e2
      conv => rhs; unfold popz
      rw [ht, if_pos e]
    have p2 : ¬ ty_at w (nI j) = 0 → tkT R H = ty_at w (nI j) → popz l (tkR R H) (tkH H) = popz (t :: l) R H := by
      intro e e2
      conv => rhs; unfold popz
      rw [ht, if_neg e, if_pos e2]
    have p3 : ¬ ty_at w (nI j) = 0 → ¬ tkT R H = ty_at w (nI j) → popz (t :: l) R H = none := by
      intro e e2
      unfold popz
      rw [ht, if_neg e, if_neg e2]
    clear ih
    refine r_il3 (q := 49) d_FL_applyPlain_48 rfl ?_
    refine r_ic (v := 3) (q := 50) d_FL_applyPlain_49 rfl rfl ?_
    refine r_cge (tgt := 82) (q := 53) d_FL_applyPlain_50 rfl rfl (fun e50 => ?_) (fun e50 => ?_)
    · skip
      (try simp only [fs_fs, fs_R, fs_H] at *); first | exact kA _ _ _ (fun q hq => by rw [← p2 e62 e71]; exact hq) (fun hq => by rw [← p2 e62 e71]; exact hq) | exact kA _ _ _ (fun q hq => by rw [← p1 e62 R H rfl rfl]; exact hq) (fun hq => by rw [← p1 e62 R H rfl rfl]; exact hq) | exact absurd e50 hn
    · skip
      refine r_il2 (q := 54) d_FL_applyPlain_53 rfl ?_
      refine r_il3 (q := 55) d_FL_applyPlain_54 rfl ?_
      refine r_si2 mo_TY_at d_FL_applyPlain_55 rfl rfl (q := 58) rfl ?_
      refine sp_TY_at ?_
      refine r_is4 (q := 60) d_FL_applyPlain_58 rfl ?_
      refine r_il4 (q := 62) d_FL_applyPlain_60 rfl ?_
      refine r_zeq (tgt := 76) (q := 65) d_FL_applyPlain_62 rfl rfl (fun e62 => ?_) (fun e62 => ?_)
      · skip
        refine r_in3 (v := 1) (q := 79) d_FL_applyPlain_76 rfl rfl ?_
        refine am_go (tgt := 48) d_FL_applyPlain_79 rfl ?_
        (try simp only [fs_fs, fs_R, fs_H] at *); first | exact kA _ _ _ (fun q hq => by rw [← p2 e62 e71]; exact hq) (fun hq => by rw [← p2 e62 e71]; exact hq) | exact kA _ _ _ (fun q hq => by rw [← p1 e62 R H rfl rfl]; exact hq) (fun hq => by rw [← p1 e62 R H rfl rfl]; exact hq) | exact absurd e50 hn
      · skip
        refine r_al0 (q := 66) d_FL_applyPlain_65 rfl ?_
        refine r_vi0 mo_FL_takeAny d_FL_applyPlain_66 rfl rfl rfl (q := 69) rfl ?_
        refine sp_FL_takeAny ?_
        refine r_il4 (q := 71) d_FL_applyPlain_69 rfl ?_
        refine r_ceq (tgt := 76) (q := 74) d_FL_applyPlain_71 rfl rfl (fun e71 => ?_) (fun e71 => ?_)
        · skip
          refine r_in3 (v := 1) (q := 79) d_FL_applyPlain_76 rfl rfl ?_
          refine am_go (tgt := 48) d_FL_applyPlain_79 rfl ?_
          (try simp only [fs_fs, fs_R, fs_H] at *); first | exact kA _ _ _ (fun q hq => by rw [← p2 e62 e71]; exact hq) (fun hq => by rw [← p2 e62 e71]; exact hq) | exact kA _ _ _ (fun q hq => by rw [← p1 e62 R H rfl rfl]; exact hq) (fun hq => by rw [← p1 e62 R H rfl rfl]; exact hq) | exact absurd e50 hn
        · skip
          refine r_ic (v := 0) (q := 75) d_FL_applyPlain_74 rfl rfl ?_
          refine r_rz d_FL_applyPlain_75 (by first | assumption | (refine pc_of hP ?_; (repeat (first | assumption | exact md_refl | refine md_up ?_ rfl | refine md_fill ?_ rfl | (unfold ik; refine md_up ?_ rfl))); done) | (refine pm_of hP ?_; (repeat (first | assumption | exact md_refl | refine md_up ?_ rfl | refine md_fill ?_ rfl | (unfold ik; refine md_up ?_ rfl))); done) | omega | decide | ((try simp +decide only [b01, b10, b11, am_up, ik, and_true, and_false, true_and, false_and, if_true, if_false, nn_eq] at *) <;> (try simp only [sw_or, sw_all, or_false, and_true, i32_lt, i32_le, i32_eq, i32_addw, i32_subw, i32_mulw, Int32.reduceToInt] at *) <;> omega) | (apply_assumption; done)) ?_
          (try simp only [fs_fs, fs_R, fs_H] at *); exact h2 (_, _) (p3 e62 e71)
theorem sp_FL_applyPlain {st : am_S} {f : Int32 → am_S → Prop} (h1 : ∀ q : {q : Int32 × Int32 // (ty_rl (st 192 1) = 0 ∨ ty_at (st 456 0) (st 193 1) = ty_rl (st 192 1)) ∧ pops (ty_du (st 192 1)) (st 457 0) (st 458 0) = some q}, f 1 (fl st (lw (st 192 1) (st 193 1) (st 456 0)) (puR q.1.1 q.1.2 (ty_pt (st 192 1))) (puH q.1.2 (ty_pt (st 192 1))))) (h2 : ∀ q : {q : Int32 × Int32 // ¬ ((ty_rl (st 192 1) = 0 ∨ ty_at (st 456 0) (st 193 1) = ty_rl (st 192 1)) ∧ ∃ q, pops (ty_du (st 192 1)) (st 457 0) (st 458 0) = some q)}, f 0 (fs st q.1.1 q.1.2)) : wp_FL_applyPlain [.inr (.inl 126)] st (am_ki f) := by
  refine ⟨⟨rfl, Nat.le_of_ble_eq_true rfl⟩, ?_⟩
  have k82 : (ty_rl (st 192 1) = 0 ∨ ty_at (st 456 0) (st 193 1) = ty_rl (st 192 1)) → ∀ q : Int32 × Int32, ∀ a' x', popz [ty_at (ty_tk (st 192 1)) (nI 0), ty_at (ty_tk (st 192 1)) (nI 1), ty_at (ty_tk (st 192 1)) (nI 2)] (st 457 0) (st 458 0) = some q → am_AW c_FL_applyPlain g_FL_applyPlain (fun o st' => am_ok (some .boolean) o ∧ am_ki f o st') 82 [some (.inr (.inl 126)), some (.inl (ty_rl (st 192 1))), some (.inl (ty_tk (st 192 1))), some (.inl x'), a'] [] (fs st q.1 q.2) := by
    intro hr q a' x' hq
    rw [popz_du] at hq
    have g := h1 ⟨q, hr, hq⟩
    clear h1 h2
    simp only at g
    have e192 : fs st q.1 q.2 192 1 = st 192 1 := by rw [fs_n (by decide)]
    have e193 : fs st q.1 q.2 193 1 = st 193 1 := by rw [fs_n (by decide)]
    have e456 : fs st q.1 q.2 456 0 = st 456 0 := by rw [fs_n (by decide)]
    have kE : ∀ L, fl st L (puR q.1 q.2 (ty_pt (st 192 1))) (puH q.2 (ty_pt (st 192 1))) = fs (am_up (fs st q.1 q.2) 456 0 L) (puR q.1 q.2 (ty_pt (st 192 1))) (puH q.2 (ty_pt (st 192 1))) := fun L => fl_fs.symm
    unfold lw at g
    by_cases e : ty_wr (st 192 1) = 0
    · rw [if_pos e, fl_self] at g
      refine r_al0 (q := 83) d_FL_applyPlain_82 rfl ?_
      refine gt_FL_now (q := 86) d_FL_applyPlain_83 rfl rfl ?_
      refine gt_IN_operation (q := 89) d_FL_applyPlain_86 rfl (by first | assumption | (refine pc_of hP ?_; (repeat (first | assumption | exact md_refl | refine md_up ?_ rfl | refine md_fill ?_ rfl | (unfold ik; refine md_up ?_ rfl))); done) | (refine pm_of hP ?_; (repeat (first | assumption | exact md_refl | refine md_up ?_ rfl | refine md_fill ?_ rfl | (unfold ik; refine md_up ?_ rfl))); done) | omega | decide | ((try simp +decide only [b01, b10, b11, am_up, ik, and_true, and_false, true_and, false_and, if_true, if_false, nn_eq] at *) <;> (try simp only [sw_or, sw_all, or_false, and_true, i32_lt, i32_le, i32_eq, i32_addw, i32_subw, i32_mulw, Int32.reduceToInt] at *) <;> omega) | (apply_assumption; done)) rfl ?_
      refine r_si1 mo_TY_writtenToLocal d_FL_applyPlain_89 rfl rfl (q := 92) rfl ?_
      refine sp_TY_writtenToLocal ?_
      refine r_is3 (q := 93) d_FL_applyPlain_92 rfl ?_
      refine r_il3 (q := 94) d_FL_applyPlain_93 rfl ?_
      refine r_zeq (tgt := 116) (q := 97) d_FL_applyPlain_94 rfl rfl (fun e94 => ?_) (fun e94 => ?_)
      · skip
        refine r_al0 (q := 117) d_FL_applyPlain_116 rfl ?_
        refine r_al0 (q := 118) d_FL_applyPlain_117 rfl ?_
        refine gt_FL_now (q := 121) d_FL_applyPlain_118 rfl rfl ?_
        refine gt_IN_operation (q := 124) d_FL_applyPlain_121 rfl (by first | assumption | (refine pc_of hP ?_; (repeat (first | assumption | exact md_refl | refine md_up ?_ rfl | refine md_fill ?_ rfl | (unfold ik; refine md_up ?_ rfl))); done) | (refine pm_of hP ?_; (repeat (first | assumption | exact md_refl | refine md_up ?_ rfl | refine md_fill ?_ rfl | (unfold ik; refine md_up ?_ rfl))); done) | omega | decide | ((try simp +decide only [b01, b10, b11, am_up, ik, and_true, and_false, true_and, false_and, if_true, if_false, nn_eq] at *) <;> (try simp only [sw_or, sw_all, or_false, and_true, i32_lt, i32_le, i32_eq, i32_addw, i32_subw, i32_mulw, Int32.reduceToInt] at *) <;> omega) | (apply_assumption; done)) rfl ?_
        refine r_si1 mo_TY_put d_FL_applyPlain_124 rfl rfl (q := 127) rfl ?_
        refine sp_TY_put ?_
        refine r_vv1 mo_FL_put d_FL_applyPlain_127 rfl rfl rfl (q := 130) rfl ?_
        refine sp_FL_put ?_
        refine r_ic (v := 1) (q := 131) d_FL_applyPlain_130 rfl rfl ?_
        refine r_rz d_FL_applyPlain_131 (by first | assumption | (refine pc_of hP ?_; (repeat (first | assumption | exact md_refl | refine md_up ?_ rfl | refine md_fill ?_ rfl | (unfold ik; refine md_up ?_ rfl))); done) | (refine pm_of hP ?_; (repeat (first | assumption | exact md_refl | refine md_up ?_ rfl | refine md_fill ?_ rfl | (unfold ik; refine md_up ?_ rfl))); done) | omega | decide | ((try simp +decide only [b01, b10, b11, am_up, ik, and_true, and_false, true_and, false_and, if_true, if_false, nn_eq] at *) <;> (try simp only [sw_or, sw_all, or_false, and_true, i32_lt, i32_le, i32_eq, i32_addw, i32_subw, i32_mulw, Int32.reduceToInt] at *) <;> omega) | (apply_assumption; done)) ?_
        first | exact absurd e e94 | (simp only [fs_fs, fs_R, fs_H, e192] at *; exact g)
      · skip
        refine r_al0 (q := 98) d_FL_applyPlain_97 rfl ?_
        refine r_al0 (q := 99) d_FL_applyPlain_98 rfl ?_
        refine gt_FL_locals (q := 102) d_FL_applyPlain_99 rfl rfl ?_
        refine r_al0 (q := 103) d_FL_applyPlain_102 rfl ?_
        refine gt_FL_now (q := 106) d_FL_applyPlain_103 rfl rfl ?_
        refine gt_IN_number (q := 109) d_FL_applyPlain_106 rfl (by first | assumption | (refine pc_of hP ?_; (repeat (first | assumption | exact md_refl | refine md_up ?_ rfl | refine md_fill ?_ rfl | (unfold ik; refine md_up ?_ rfl))); done) | (refine pm_of hP ?_; (repeat (first | assumption | exact md_refl | refine md_up ?_ rfl | refine md_fill ?_ rfl | (unfold ik; refine md_up ?_ rfl))); done) | omega | decide | ((try simp +decide only [b01, b10, b11, am_up, ik, and_true, and_false, true_and, false_and, if_true, if_false, nn_eq] at *) <;> (try simp only [sw_or, sw_all, or_false, and_true, i32_lt, i32_le, i32_eq, i32_addw, i32_subw, i32_mulw, Int32.reduceToInt] at *) <;> omega) | (apply_assumption; done)) rfl ?_
        refine r_il3 (q := 110) d_FL_applyPlain_109 rfl ?_
        refine r_si3 mo_TY_with d_FL_applyPlain_110 rfl rfl (q := 113) rfl ?_
        refine sp_TY_with ?_
        refine pt_FL_locals (q := 116) d_FL_applyPlain_113 rfl rfl ?_
        refine r_al0 (q := 117) d_FL_applyPlain_116 rfl ?_
        refine r_al0 (q := 118) d_FL_applyPlain_117 rfl ?_
        refine gt_FL_now (q := 121) d_FL_applyPlain_118 rfl rfl ?_
        refine gt_IN_operation (q := 124) d_FL_applyPlain_121 rfl (by first | assumption | (refine pc_of hP ?_; (repeat (first | assumption | exact md_refl | refine md_up ?_ rfl | refine md_fill ?_ rfl | (unfold ik; refine md_up ?_ rfl))); done) | (refine pm_of hP ?_; (repeat (first | assumption | exact md_refl | refine md_up ?_ rfl | refine md_fill ?_ rfl | (unfold ik; refine md_up ?_ rfl))); done) | omega | decide | ((try simp +decide only [b01, b10, b11, am_up, ik, and_true, and_false, true_and, false_and, if_true, if_false, nn_eq] at *) <;> (try simp only [sw_or, sw_all, or_false, and_true, i32_lt, i32_le, i32_eq, i32_addw, i32_subw, i32_mulw, Int32.reduceToInt] at *) <;> omega) | (apply_assumption; done)) rfl ?_
        refine r_si1 mo_TY_put d_FL_applyPlain_124 rfl rfl (q := 127) rfl ?_
        refine sp_TY_put ?_
        refine r_vv1 mo_FL_put d_FL_applyPlain_127 rfl rfl rfl (q := 130) rfl ?_
        refine sp_FL_put ?_
        refine r_ic (v := 1) (q := 131) d_FL_applyPlain_130 rfl rfl ?_
        refine r_rz d_FL_applyPlain_131 (by first | assumption | (refine pc_of hP ?_; (repeat (first | assumption | exact md_refl | refine md_up ?_ rfl | refine md_fill ?_ rfl | (unfold ik; refine md_up ?_ rfl))); done) | (refine pm_of hP ?_; (repeat (first | assumption | exact md_refl | refine md_up ?_ rfl | refine md_fill ?_ rfl | (unfold ik; refine md_up ?_ rfl))); done) | omega | decide | ((try simp +decide only [b01, b10, b11, am_up, ik, and_true, and_false, true_and, false_and, if_true, if_false, nn_eq] at *) <;> (try simp only [sw_or, sw_all, or_false, and_true, i32_lt, i32_le, i32_eq, i32_addw, i32_subw, i32_mulw, Int32.reduceToInt] at *) <;> omega) | (apply_assumption; done)) ?_
        first | exact absurd e e94 | (simp only [fs_fs, fs_R, fs_H, e192] at *; exact g)
    · rw [if_neg e, kE] at g
      refine r_al0 (q := 83) d_FL_applyPlain_82 rfl ?_
      refine gt_FL_now (q := 86) d_FL_applyPlain_83 rfl rfl ?_
      refine gt_IN_operation (q := 89) d_FL_applyPlain_86 rfl (by first | assumption | (refine pc_of hP ?_; (repeat (first | assumption | exact md_refl | refine md_up ?_ rfl | refine md_fill ?_ rfl | (unfold ik; refine md_up ?_ rfl))); done) | (refine pm_of hP ?_; (repeat (first | assumption | exact md_refl | refine md_up ?_ rfl | refine md_fill ?_ rfl | (unfold ik; refine md_up ?_ rfl))); done) | omega | decide | ((try simp +decide only [b01, b10, b11, am_up, ik, and_true, and_false, true_and, false_and, if_true, if_false, nn_eq] at *) <;> (try simp only [sw_or, sw_all, or_false, and_true, i32_lt, i32_le, i32_eq, i32_addw, i32_subw, i32_mulw, Int32.reduceToInt] at *) <;> omega) | (apply_assumption; done)) rfl ?_
      refine r_si1 mo_TY_writtenToLocal d_FL_applyPlain_89 rfl rfl (q := 92) rfl ?_
      refine sp_TY_writtenToLocal ?_
      refine r_is3 (q := 93) d_FL_applyPlain_92 rfl ?_
      refine r_il3 (q := 94) d_FL_applyPlain_93 rfl ?_
      refine r_zeq (tgt := 116) (q := 97) d_FL_applyPlain_94 rfl rfl (fun e94 => ?_) (fun e94 => ?_)
      · skip
        refine r_al0 (q := 117) d_FL_applyPlain_116 rfl ?_
        refine r_al0 (q := 118) d_FL_applyPlain_117 rfl ?_
        refine gt_FL_now (q := 121) d_FL_applyPlain_118 rfl rfl ?_
        refine gt_IN_operation (q := 124) d_FL_applyPlain_121 rfl (by first | assumption | (refine pc_of hP ?_; (repeat (first | assumption | exact md_refl | refine md_up ?_ rfl | refine md_fill ?_ rfl | (unfold ik; refine md_up ?_ rfl))); done) | (refine pm_of hP ?_; (repeat (first | assumption | exact md_refl | refine md_up ?_ rfl | refine md_fill ?_ rfl | (unfold ik; refine md_up ?_ rfl))); done) | omega | decide | ((try simp +decide only [b01, b10, b11, am_up, ik, and_true, and_false, true_and, false_and, if_true, if_false, nn_eq] at *) <;> (try simp only [sw_or, sw_all, or_false, and_true, i32_lt, i32_le, i32_eq, i32_addw, i32_subw, i32_mulw, Int32.reduceToInt] at *) <;> omega) | (apply_assumption; done)) rfl ?_
        refine r_si1 mo_TY_put d_FL_applyPlain_124 rfl rfl (q := 127) rfl ?_
        refine sp_TY_put ?_
        refine r_vv1 mo_FL_put d_FL_applyPlain_127 rfl rfl rfl (q := 130) rfl ?_
        refine sp_FL_put ?_
        refine r_ic (v := 1) (q := 131) d_FL_applyPlain_130 rfl rfl ?_
        refine r_rz d_FL_applyPlain_131 (by first | assumption | (refine pc_of hP ?_; (repeat (first | assumption | exact md_refl | refine md_up ?_ rfl | refine md_fill ?_ rfl | (unfold ik; refine md_up ?_ rfl))); done) | (refine pm_of hP ?_; (repeat (first | assumption | exact md_refl | refine md_up ?_ rfl | refine md_fill ?_ rfl | (unfold ik; refine md_up ?_ rfl))); done) | omega | decide | ((try simp +decide only [b01, b10, b11, am_up, ik, and_true, and_false, true_and, false_and, if_true, if_false, nn_eq] at *) <;> (try simp only [sw_or, sw_all, or_false, and_true, i32_lt, i32_le, i32_eq, i32_addw, i32_subw, i32_mulw, Int32.reduceToInt] at *) <;> omega) | (apply_assumption; done)) ?_
        first | exact absurd e94 e | exact g
      · skip
        refine r_al0 (q := 98) d_FL_applyPlain_97 rfl ?_
        refine r_al0 (q := 99) d_FL_applyPlain_98 rfl ?_
        refine gt_FL_locals (q := 102) d_FL_applyPlain_99 rfl rfl ?_
        refine r_al0 (q := 103) d_FL_applyPlain_102 rfl ?_
        refine gt_FL_now (q := 106) d_FL_applyPlain_103 rfl rfl ?_
        refine gt_IN_number (q := 109) d_FL_applyPlain_106 rfl (by first | assumption | (refine pc_of hP ?_; (repeat (first | assumption | exact md_refl | refine md_up ?_ rfl | refine md_fill ?_ rfl | (unfold ik; refine md_up ?_ rfl))); done) | (refine pm_of hP ?_; (repeat (first | assumption | exact md_refl | refine md_up ?_ rfl | refine md_fill ?_ rfl | (unfold ik; refine md_up ?_ rfl))); done) | omega | decide | ((try simp +decide only [b01, b10, b11, am_up, ik, and_true, and_false, true_and, false_and, if_true, if_false, nn_eq] at *) <;> (try simp only [sw_or, sw_all, or_false, and_true, i32_lt, i32_le, i32_eq, i32_addw, i32_subw, i32_mulw, Int32.reduceToInt] at *) <;> omega) | (apply_assumption; done)) rfl ?_
        refine r_il3 (q := 110) d_FL_applyPlain_109 rfl ?_
        refine r_si3 mo_TY_with d_FL_applyPlain_110 rfl rfl (q := 113) rfl ?_
        refine sp_TY_with ?_
        refine pt_FL_locals (q := 116) d_FL_applyPlain_113 rfl rfl ?_
        refine r_al0 (q := 117) d_FL_applyPlain_116 rfl ?_
        refine r_al0 (q := 118) d_FL_applyPlain_117 rfl ?_
        refine gt_FL_now (q := 121) d_FL_applyPlain_118 rfl rfl ?_
        refine gt_IN_operation (q := 124) d_FL_applyPlain_121 rfl (by first | assumption | (refine pc_of hP ?_; (repeat (first | assumption | exact md_refl | refine md_up ?_ rfl | refine md_fill ?_ rfl | (unfold ik; refine md_up ?_ rfl))); done) | (refine pm_of hP ?_; (repeat (first | assumption | exact md_refl | refine md_up ?_ rfl | refine md_fill ?_ rfl | (unfold ik; refine md_up ?_ rfl))); done) | omega | decide | ((try simp +decide only [b01, b10, b11, am_up, ik, and_true, and_false, true_and, false_and, if_true, if_false, nn_eq] at *) <;> (try simp only [sw_or, sw_all, or_false, and_true, i32_lt, i32_le, i32_eq, i32_addw, i32_subw, i32_mulw, Int32.reduceToInt] at *) <;> omega) | (apply_assumption; done)) rfl ?_
        refine r_si1 mo_TY_put d_FL_applyPlain_124 rfl rfl (q := 127) rfl ?_
        refine sp_TY_put ?_
        refine r_vv1 mo_FL_put d_FL_applyPlain_127 rfl rfl rfl (q := 130) rfl ?_
        refine sp_FL_put ?_
        refine r_ic (v := 1) (q := 131) d_FL_applyPlain_130 rfl rfl ?_
        refine r_rz d_FL_applyPlain_131 (by first | assumption | (refine pc_of hP ?_; (repeat (first | assumption | exact md_refl | refine md_up ?_ rfl | refine md_fill ?_ rfl | (unfold ik; refine md_up ?_ rfl))); done) | (refine pm_of hP ?_; (repeat (first | assumption | exact md_refl | refine md_up ?_ rfl | refine md_fill ?_ rfl | (unfold ik; refine md_up ?_ rfl))); done) | omega | decide | ((try simp +decide only [b01, b10, b11, am_up, ik, and_true, and_false, true_and, false_and, if_true, if_false, nn_eq] at *) <;> (try simp only [sw_or, sw_all, or_false, and_true, i32_lt, i32_le, i32_eq, i32_addw, i32_subw, i32_mulw, Int32.reduceToInt] at *) <;> omega) | (apply_assumption; done)) ?_
        first | exact absurd e94 e | exact g
  have kL : ∀ (hr : ty_rl (st 192 1) = 0 ∨ ty_at (st 456 0) (st 193 1) = ty_rl (st 192 1)) a, am_AW c_FL_applyPlain g_FL_applyPlain (fun o st' => am_ok (some .boolean) o ∧ am_ki f o st') 48 [some (.inr (.inl 126)), some (.inl (ty_rl (st 192 1))), some (.inl (ty_tk (st 192 1))), some (.inl 0), a] [] st := by
    intro hr a
    have g := @lp_FL_plain (ty_rl (st 192 1)) (ty_tk (st 192 1)) st f [ty_at (ty_tk (st 192 1)) (nI 0), ty_at (ty_tk (st 192 1)) (nI 1), ty_at (ty_tk (st 192 1)) (nI 2)] 0 a (st 457 0) (st 458 0) rfl (fun i hi => ?_) (k82 hr) (fun q hq => h2 ⟨q, fun z => ?_⟩)
    · rw [fs_self rfl rfl] at g
      exact g
    · match i, hi with
      | 0, _ => rfl
      | 1, _ => rfl
      | 2, _ => rfl
    · rw [popz_du] at hq
      obtain ⟨z1, z2, z3⟩ := z
      rw [hq] at z3
      cases z3
  refine r_al0 (q := 1) d_FL_applyPlain_0 rfl ?_
  refine gt_FL_now (q := 4) d_FL_applyPlain_1 rfl rfl ?_
  refine gt_IN_operation (q := 7) d_FL_applyPlain_4 rfl (by first | assumption | (refine pc_of hP ?_; (repeat (first | assumption | exact md_refl | refine md_up ?_ rfl | refine md_fill ?_ rfl | (unfold ik; refine md_up ?_ rfl))); done) | (refine pm_of hP ?_; (repeat (first | assumption | exact md_refl | refine md_up ?_ rfl | refine md_fill ?_ rfl | (unfold ik; refine md_up ?_ rfl))); done) | omega | decide | ((try simp +decide only [b01, b10, b11, am_up, ik, and_true, and_false, true_and, false_and, if_true, if_false, nn_eq] at *) <;> (try simp only [sw_or, sw_all, or_false, and_true, i32_lt, i32_le, i32_eq, i32_addw, i32_subw, i32_mulw, Int32.reduceToInt] at *) <;> omega) | (apply_assumption; done)) rfl ?_
  refine r_si1 mo_TY_readFromLocal d_FL_applyPlain_7 rfl rfl (q := 10) rfl ?_
  refine sp_TY_readFromLocal ?_
  refine r_is1 (q := 11) d_FL_applyPlain_10 rfl ?_
  refine r_il1 (q := 12) d_FL_applyPlain_11 rfl ?_
  refine r_zeq (tgt := 35) (q := 15) d_FL_applyPlain_12 rfl rfl (fun e12 => ?_) (fun e12 => ?_)
  · skip
    refine r_al0 (q := 36) d_FL_applyPlain_35 rfl ?_
    refine gt_FL_now (q := 39) d_FL_applyPlain_36 rfl rfl ?_
    refine gt_IN_operation (q := 42) d_FL_applyPlain_39 rfl (by first | assumption | (refine pc_of hP ?_; (repeat (first | assumption | exact md_refl | refine md_up ?_ rfl | refine md_fill ?_ rfl | (unfold ik; refine md_up ?_ rfl))); done) | (refine pm_of hP ?_; (repeat (first | assumption | exact md_refl | refine md_up ?_ rfl | refine md_fill ?_ rfl | (unfold ik; refine md_up ?_ rfl))); done) | omega | decide | ((try simp +decide only [b01, b10, b11, am_up, ik, and_true, and_false, true_and, false_and, if_true, if_false, nn_eq] at *) <;> (try simp only [sw_or, sw_all, or_false, and_true, i32_lt, i32_le, i32_eq, i32_addw, i32_subw, i32_mulw, Int32.reduceToInt] at *) <;> omega) | (apply_assumption; done)) rfl ?_
    refine r_si1 mo_TY_taken d_FL_applyPlain_42 rfl rfl (q := 45) rfl ?_
    refine sp_TY_taken ?_
    refine r_is2 (q := 46) d_FL_applyPlain_45 rfl ?_
    refine r_ic (v := 0) (q := 47) d_FL_applyPlain_46 rfl rfl ?_
    refine r_is3 (q := 48) d_FL_applyPlain_47 rfl ?_
    first | exact kL (Or.inl e12) _ | exact kL (Or.inr e30) _
  · skip
    refine r_al0 (q := 16) d_FL_applyPlain_15 rfl ?_
    refine gt_FL_locals (q := 19) d_FL_applyPlain_16 rfl rfl ?_
    refine r_al0 (q := 20) d_FL_applyPlain_19 rfl ?_
    refine gt_FL_now (q := 23) d_FL_applyPlain_20 rfl rfl ?_
    refine gt_IN_number (q := 26) d_FL_applyPlain_23 rfl (by first | assumption | (refine pc_of hP ?_; (repeat (first | assumption | exact md_refl | refine md_up ?_ rfl | refine md_fill ?_ rfl | (unfold ik; refine md_up ?_ rfl))); done) | (refine pm_of hP ?_; (repeat (first | assumption | exact md_refl | refine md_up ?_ rfl | refine md_fill ?_ rfl | (unfold ik; refine md_up ?_ rfl))); done) | omega | decide | ((try simp +decide only [b01, b10, b11, am_up, ik, and_true, and_false, true_and, false_and, if_true, if_false, nn_eq] at *) <;> (try simp only [sw_or, sw_all, or_false, and_true, i32_lt, i32_le, i32_eq, i32_addw, i32_subw, i32_mulw, Int32.reduceToInt] at *) <;> omega) | (apply_assumption; done)) rfl ?_
    refine r_si2 mo_TY_at d_FL_applyPlain_26 rfl rfl (q := 29) rfl ?_
    refine sp_TY_at ?_
    refine r_il1 (q := 30) d_FL_applyPlain_29 rfl ?_
    refine r_ceq (tgt := 35) (q := 33) d_FL_applyPlain_30 rfl rfl (fun e30 => ?_) (fun e30 => ?_)
    · skip
      refine r_al0 (q := 36) d_FL_applyPlain_35 rfl ?_
      refine gt_FL_now (q := 39) d_FL_applyPlain_36 rfl rfl ?_
      refine gt_IN_operation (q := 42) d_FL_applyPlain_39 rfl (by first | assumption | (refine pc_of hP ?_; (repeat (first | assumption | exact md_refl | refine md_up ?_ rfl | refine md_fill ?_ rfl | (unfold ik; refine md_up ?_ rfl))); done) | (refine pm_of hP ?_; (repeat (first | assumption | exact md_refl | refine md_up ?_ rfl | refine md_fill ?_ rfl | (unfold ik; refine md_up ?_ rfl))); done) | omega | decide | ((try simp +decide only [b01, b10, b11, am_up, ik, and_true, and_false, true_and, false_and, if_true, if_false, nn_eq] at *) <;> (try simp only [sw_or, sw_all, or_false, and_true, i32_lt, i32_le, i32_eq, i32_addw, i32_subw, i32_mulw, Int32.reduceToInt] at *) <;> omega) | (apply_assumption; done)) rfl ?_
      refine r_si1 mo_TY_taken d_FL_applyPlain_42 rfl rfl (q := 45) rfl ?_
      refine sp_TY_taken ?_
      refine r_is2 (q := 46) d_FL_applyPlain_45 rfl ?_
      refine r_ic (v := 0) (q := 47) d_FL_applyPlain_46 rfl rfl ?_
      refine r_is3 (q := 48) d_FL_applyPlain_47 rfl ?_
      first | exact kL (Or.inl e12) _ | exact kL (Or.inr e30) _
    · skip
      refine r_ic (v := 0) (q := 34) d_FL_applyPlain_33 rfl rfl ?_
      refine r_rz d_FL_applyPlain_34 (by first | assumption | (refine pc_of hP ?_; (repeat (first | assumption | exact md_refl | refine md_up ?_ rfl | refine md_fill ?_ rfl | (unfold ik; refine md_up ?_ rfl))); done) | (refine pm_of hP ?_; (repeat (first | assumption | exact md_refl | refine md_up ?_ rfl | refine md_fill ?_ rfl | (unfold ik; refine md_up ?_ rfl))); done) | omega | decide | ((try simp +decide only [b01, b10, b11, am_up, ik, and_true, and_false, true_and, false_and, if_true, if_false, nn_eq] at *) <;> (try simp only [sw_or, sw_all, or_false, and_true, i32_lt, i32_le, i32_eq, i32_addw, i32_subw, i32_mulw, Int32.reduceToInt] at *) <;> omega) | (apply_assumption; done)) ?_
      have g := h2 ⟨(st 457 0, st 458 0), fun z => z.1.elim e12 e30⟩; simp only at g; rw [fs_self rfl rfl] at g; exact g
theorem ss_87 {P : am_S} {m : Nat} {n R H : Int32} : ss P m 87 n R H = if tkT R H = 0 then none else some (tkR R H, tkH H) := by
  unfold ss
  rw [if_pos rfl]
theorem ss_89 {P : am_S} {m : Nat} {n R H : Int32} : ss P m 89 n R H = if tkT R H = 0 then none else some (puR (puR (tkR R H) (tkH H) (tkT R H)) (puH (tkH H) (tkT R H)) (tkT R H), puH (puH (tkH H) (tkT R H)) (tkT R H)) := by
  unfold ss
  rw [if_neg (by decide), if_pos rfl]
theorem ss_95 {P : am_S} {m : Nat} {n R H : Int32} : ss P m 95 n R H = if tkT R H = 0 ∨ tkT (tkR R H) (tkH H) = 0 then none else some (puR (puR (tkR (tkR R H) (tkH H)) (tkH (tkH H)) (tkT R H)) (puH (tkH (tkH H)) (tkT R H)) (tkT (tkR R H) (tkH H)), puH (puH (tkH (tkH H)) (tkT R H)) (tkT (tkR R H) (tkH H))) := by
  unfold ss
  rw [if_neg (by decide), if_neg (by decide), if_pos rfl]
theorem ss_pl {P : am_S} {m : Nat} {op n R H : Int32} (h1 : ¬ op = 87) (h2 : ¬ op = 89) (h3 : ¬ op = 95) (h4 : ¬ op = 184) (h5 : op = 172 → ¬ P 6 m = 0) (h6 : op = 177 → P 6 m = 0) : ss P m op n R H = (pops (ty_du op) R H).map (fun q => (puR q.1 q.2 (ty_pt op), puH q.2 (ty_pt op))) := by
  unfold ss dues puts
  rw [if_neg h1, if_neg h2, if_neg h3, if_neg, if_neg h4, if_neg h4]
  rintro (⟨a, b⟩ | ⟨a, b⟩)
  · exact h5 a b
  · exact b (h6 a)
theorem ss_bad {P : am_S} {m : Nat} {op n R H : Int32} (h : (op = 172 ∧ P 6 m = 0) ∨ (op = 177 ∧ ¬ P 6 m = 0)) : ss P m op n R H = none := by
  unfold ss
  have e : ¬ op = 87 ∧ ¬ op = 89 ∧ ¬ op = 95 := by
    rcases h with ⟨a, -⟩ | ⟨a, -⟩ <;> rw [a] <;> decide
  rw [if_neg e.1, if_neg e.2.1, if_neg e.2.2, if_pos h]
theorem ss_184 {P : am_S} {m : Nat} {n R H : Int32} : ss P m 184 n R H = (pops (List.replicate (P 3 n.toNatClampNeg).toNatClampNeg 1) R H).map (fun q => (puR q.1 q.2 (if P 6 n.toNatClampNeg = 0 then 0 else 1), puH q.2 (if P 6 n.toNatClampNeg = 0 then 0 else 1))) := by
  unfold ss dues puts
  rw [if_neg (by decide), if_neg (by decide), if_neg (by decide), if_neg (by rintro (⟨a, -⟩ | ⟨a, -⟩) <;> exact absurd a (by decide)), if_pos rfl, if_pos rfl]

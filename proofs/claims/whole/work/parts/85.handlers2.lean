/-! written by wip/whole/gen/walk.py out of 85.handlers2.txt -/
theorem ct_1 {P : am_S} {m v p0 : Nat} {L0 R0 H0 x L R H r : Int32} {st st' : am_S} (h : ctQ P m v p0 L0 R0 H0 x L R H st r st') (hr : ¬ r = 0) : am_md cW st st' ∧ oS (nb P m) (nl P m) st st' ∧ CI P m v p0 L0 R0 H0 st' ∧ le (nl P m) (cT st (nb P m)) (cT st' (nb P m)) ∧ Ar (nl P m) (cT st' (nb P m)) x.toInt L R H := by
  rcases h.2.2 with q | q
  · exact ⟨h.1, h.2.1, q.2⟩
  · exact absurd q.1 hr
theorem ct_0 {P : am_S} {m v p0 : Nat} {L0 R0 H0 x L R H r : Int32} {st st' : am_S} (h : ctQ P m v p0 L0 R0 H0 x L R H st r st') (hr : r = 0) : am_md cW st st' ∧ oS (nb P m) (nl P m) st st' ∧ ∀ U, ¬ Typ P m U := by
  rcases h.2.2 with q | q
  · exact absurd (q.1.symm.trans hr) (by decide)
  · exact ⟨h.1, h.2.1, q.2⟩
def chQ (P : am_S) (m v p0 : Nat) (L0 R0 H0 : Int32) (p : Nat) (L : Int32) (st : am_S) (r : Int32) (st' : am_S) : Prop := am_md cW st st' ∧ oS (nb P m) (nl P m) st st' ∧ ((r = 1 ∧ CI P m v p0 L0 R0 H0 st' ∧ le (nl P m) (cT st (nb P m)) (cT st' (nb P m)) ∧ ∀ k, k < (P 7 m).toInt.toNat → cov P (4 * m + k) p → 1 ≤ (P 5 m).toInt ∧ Ar (nl P m) (cT st' (nb P m)) (P 10 (4 * m + k)).toInt L 1 1) ∨ (r = 0 ∧ ∀ U, ¬ Typ P m U))
theorem sq_HA_covers {o : Nat} {x : Int32} {st : am_S} {f : Int32 → am_S → Prop} (c1 : o < 32) (h1 : st 128 o ≤ x ∧ x < st 129 o → f 1 st) (h2 : ¬ (st 128 o ≤ x ∧ x < st 129 o) → f 0 st) : wp_HA_covers [.inr (.inl (o + 88)), .inl x] st (am_ki f) := by
  refine ⟨⟨rfl, Nat.le_of_ble_eq_true rfl⟩, ?_⟩
  refine r_al0 (q := 1) d_HA_covers_0 rfl ?_
  refine gt_HA_from (q := 4) d_HA_covers_1 rfl (by first | assumption | (refine pc_of hP ?_; (repeat (first | assumption | exact md_refl | refine md_up ?_ rfl | refine md_fill ?_ rfl | (unfold ik; refine md_up ?_ rfl))); done) | (refine pm_of hP ?_; (repeat (first | assumption | exact md_refl | refine md_up ?_ rfl | refine md_fill ?_ rfl | (unfold ik; refine md_up ?_ rfl))); done) | omega | decide | ((try simp +decide only [b01, b10, b11, am_up, ik, and_true, and_false, true_and, false_and, if_true, if_false, nn_eq] at *) <;> (try simp only [sw_or, sw_all, or_false, and_true, i32_lt, i32_le, i32_eq, i32_addw, i32_subw, i32_mulw, Int32.reduceToInt] at *) <;> omega) | (apply_assumption; done)) rfl ?_
  refine r_il1 (q := 5) d_HA_covers_4 rfl ?_
  refine r_cgt (tgt := 20) (q := 8) d_HA_covers_5 rfl rfl (fun e5 => ?_) (fun e5 => ?_)
  · skip
    refine r_ic (v := 0) (q := 21) d_HA_covers_20 rfl rfl ?_
    refine r_rz d_HA_covers_21 (by first | assumption | (refine pc_of hP ?_; (repeat (first | assumption | exact md_refl | refine md_up ?_ rfl | refine md_fill ?_ rfl | (unfold ik; refine md_up ?_ rfl))); done) | (refine pm_of hP ?_; (repeat (first | assumption | exact md_refl | refine md_up ?_ rfl | refine md_fill ?_ rfl | (unfold ik; refine md_up ?_ rfl))); done) | omega | decide | ((try simp +decide only [b01, b10, b11, am_up, ik, and_true, and_false, true_and, false_and, if_true, if_false, nn_eq] at *) <;> (try simp only [sw_or, sw_all, or_false, and_true, i32_lt, i32_le, i32_eq, i32_addw, i32_subw, i32_mulw, Int32.reduceToInt] at *) <;> omega) | (apply_assumption; done)) ?_
    first | (refine h1 ?_ <;> ((try simp +decide only [b01, b10, b11, am_up, ik, and_true, and_false, true_and, false_and, if_true, if_false, nn_eq] at *) <;> (try simp only [sw_or, sw_all, or_false, and_true, i32_lt, i32_le, i32_eq, i32_addw, i32_subw, i32_mulw, Int32.reduceToInt] at *) <;> omega)) | (refine h2 ?_ <;> ((try simp +decide only [b01, b10, b11, am_up, ik, and_true, and_false, true_and, false_and, if_true, if_false, nn_eq] at *) <;> (try simp only [sw_or, sw_all, or_false, and_true, i32_lt, i32_le, i32_eq, i32_addw, i32_subw, i32_mulw, Int32.reduceToInt] at *) <;> omega)) | (exfalso; ((try simp +decide only [b01, b10, b11, am_up, ik, and_true, and_false, true_and, false_and, if_true, if_false, nn_eq] at *) <;> (try simp only [sw_or, sw_all, or_false, and_true, i32_lt, i32_le, i32_eq, i32_addw, i32_subw, i32_mulw, Int32.reduceToInt] at *) <;> omega))
  · skip
    refine r_il1 (q := 9) d_HA_covers_8 rfl ?_
    refine r_al0 (q := 10) d_HA_covers_9 rfl ?_
    refine gt_HA_to (q := 13) d_HA_covers_10 rfl (by first | assumption | (refine pc_of hP ?_; (repeat (first | assumption | exact md_refl | refine md_up ?_ rfl | refine md_fill ?_ rfl | (unfold ik; refine md_up ?_ rfl))); done) | (refine pm_of hP ?_; (repeat (first | assumption | exact md_refl | refine md_up ?_ rfl | refine md_fill ?_ rfl | (unfold ik; refine md_up ?_ rfl))); done) | omega | decide | ((try simp +decide only [b01, b10, b11, am_up, ik, and_true, and_false, true_and, false_and, if_true, if_false, nn_eq] at *) <;> (try simp only [sw_or, sw_all, or_false, and_true, i32_lt, i32_le, i32_eq, i32_addw, i32_subw, i32_mulw, Int32.reduceToInt] at *) <;> omega) | (apply_assumption; done)) rfl ?_
    refine r_cge (tgt := 20) (q := 16) d_HA_covers_13 rfl rfl (fun e13 => ?_) (fun e13 => ?_)
    · skip
      refine r_ic (v := 0) (q := 21) d_HA_covers_20 rfl rfl ?_
      refine r_rz d_HA_covers_21 (by first | assumption | (refine pc_of hP ?_; (repeat (first | assumption | exact md_refl | refine md_up ?_ rfl | refine md_fill ?_ rfl | (unfold ik; refine md_up ?_ rfl))); done) | (refine pm_of hP ?_; (repeat (first | assumption | exact md_refl | refine md_up ?_ rfl | refine md_fill ?_ rfl | (unfold ik; refine md_up ?_ rfl))); done) | omega | decide | ((try simp +decide only [b01, b10, b11, am_up, ik, and_true, and_false, true_and, false_and, if_true, if_false, nn_eq] at *) <;> (try simp only [sw_or, sw_all, or_false, and_true, i32_lt, i32_le, i32_eq, i32_addw, i32_subw, i32_mulw, Int32.reduceToInt] at *) <;> omega) | (apply_assumption; done)) ?_
      first | (refine h1 ?_ <;> ((try simp +decide only [b01, b10, b11, am_up, ik, and_true, and_false, true_and, false_and, if_true, if_false, nn_eq] at *) <;> (try simp only [sw_or, sw_all, or_false, and_true, i32_lt, i32_le, i32_eq, i32_addw, i32_subw, i32_mulw, Int32.reduceToInt] at *) <;> omega)) | (refine h2 ?_ <;> ((try simp +decide only [b01, b10, b11, am_up, ik, and_true, and_false, true_and, false_and, if_true, if_false, nn_eq] at *) <;> (try simp only [sw_or, sw_all, or_false, and_true, i32_lt, i32_le, i32_eq, i32_addw, i32_subw, i32_mulw, Int32.reduceToInt] at *) <;> omega)) | (exfalso; ((try simp +decide only [b01, b10, b11, am_up, ik, and_true, and_false, true_and, false_and, if_true, if_false, nn_eq] at *) <;> (try simp only [sw_or, sw_all, or_false, and_true, i32_lt, i32_le, i32_eq, i32_addw, i32_subw, i32_mulw, Int32.reduceToInt] at *) <;> omega))
    · skip
      refine r_ic (v := 1) (q := 17) d_HA_covers_16 rfl rfl ?_
      refine am_go (tgt := 21) d_HA_covers_17 rfl ?_
      refine r_rz d_HA_covers_21 (by first | assumption | (refine pc_of hP ?_; (repeat (first | assumption | exact md_refl | refine md_up ?_ rfl | refine md_fill ?_ rfl | (unfold ik; refine md_up ?_ rfl))); done) | (refine pm_of hP ?_; (repeat (first | assumption | exact md_refl | refine md_up ?_ rfl | refine md_fill ?_ rfl | (unfold ik; refine md_up ?_ rfl))); done) | omega | decide | ((try simp +decide only [b01, b10, b11, am_up, ik, and_true, and_false, true_and, false_and, if_true, if_false, nn_eq] at *) <;> (try simp only [sw_or, sw_all, or_false, and_true, i32_lt, i32_le, i32_eq, i32_addw, i32_subw, i32_mulw, Int32.reduceToInt] at *) <;> omega) | (apply_assumption; done)) ?_
      first | (refine h1 ?_ <;> ((try simp +decide only [b01, b10, b11, am_up, ik, and_true, and_false, true_and, false_and, if_true, if_false, nn_eq] at *) <;> (try simp only [sw_or, sw_all, or_false, and_true, i32_lt, i32_le, i32_eq, i32_addw, i32_subw, i32_mulw, Int32.reduceToInt] at *) <;> omega)) | (refine h2 ?_ <;> ((try simp +decide only [b01, b10, b11, am_up, ik, and_true, and_false, true_and, false_and, if_true, if_false, nn_eq] at *) <;> (try simp only [sw_or, sw_all, or_false, and_true, i32_lt, i32_le, i32_eq, i32_addw, i32_subw, i32_mulw, Int32.reduceToInt] at *) <;> omega)) | (exfalso; ((try simp +decide only [b01, b10, b11, am_up, ik, and_true, and_false, true_and, false_and, if_true, if_false, nn_eq] at *) <;> (try simp only [sw_or, sw_all, or_false, and_true, i32_lt, i32_le, i32_eq, i32_addw, i32_subw, i32_mulw, Int32.reduceToInt] at *) <;> omega))
theorem lp_FL_ch {P st0 : am_S} {m v p0 p : Nat} {L0 R0 H0 L y : Int32} {b4 : Option am_V} (hP : PC st0 P) (hV : VP P) (hm : m < nM P) (hS : SHP P m) (hy : y.toInt = (p : Int)) (hL : wfL L) (hL0 : st0 456 0 = L) (hA : ∀ U, Typ P m U → ∀ k, k < (P 7 m).toInt.toNat → cov P (4 * m + k) p → 1 ≤ (P 5 m).toInt ∧ Ar (nl P m) U (P 10 (4 * m + k)).toInt L 1 1) : ∀ (d j : Nat) (x : Int32) (b4 : Option am_V) (st : am_S), j + d = (P 7 m).toInt.toNat → x.toInt = (j : Int) → am_md cW st0 st → oS (nb P m) (nl P m) st0 st → CI P m v p0 L0 R0 H0 st → le (nl P m) (cT st0 (nb P m)) (cT st (nb P m)) → (∀ k, k < j → cov P (4 * m + k) p → 1 ≤ (P 5 m).toInt ∧ Ar (nl P m) (cT st (nb P m)) (P 10 (4 * m + k)).toInt L 1 1) → am_AW c_FL_comeToHandlers g_FL_comeToHandlers (fun o st' => am_ok (some .boolean) o ∧ am_ki (chQ P m v p0 L0 R0 H0 p L st0) o st') 2 [some (.inr (.inl 126)), some (.inr (.inl (m + 80))), some (.inl y), some (.inl x), b4] [] st := by
  intro d
  induction d with
  | zero =>
    intro j x b4 st k1 k2 k3 k4 k5 k6 k7
    have q := pc_of hP (md_W k3)
    obtain ⟨v8, -, -, ⟨-, v1, v2⟩, -⟩ := cf q hV hm
    have hc : (P 7 m).toInt = (st 66 m).toInt := by rw [q.2.1]
    have e : j = (P 7 m).toInt.toNat := by omega
    have kQ : chQ P m v p0 L0 R0 H0 p L st0 1 st := ⟨k3, k4, Or.inl ⟨rfl, k5, k6, by rw [← e]; exact k7⟩⟩
    clear q k3 k4 k5 k6 k7 hA
    refine r_il3 (q := 3) d_FL_comeToHandlers_2 rfl ?_
    refine r_al1 (q := 4) d_FL_comeToHandlers_3 rfl ?_
    refine gt_ME_handlerCount (q := 7) d_FL_comeToHandlers_4 rfl (by first | assumption | (refine pc_of hP ?_; (repeat (first | assumption | exact md_refl | refine md_up ?_ rfl | refine md_fill ?_ rfl | (unfold ik; refine md_up ?_ rfl))); done) | (refine pm_of hP ?_; (repeat (first | assumption | exact md_refl | refine md_up ?_ rfl | refine md_fill ?_ rfl | (unfold ik; refine md_up ?_ rfl))); done) | omega | decide | ((try simp +decide only [b01, b10, b11, am_up, ik, and_true, and_false, true_and, false_and, if_true, if_false, nn_eq] at *) <;> (try simp only [sw_or, sw_all, or_false, and_true, i32_lt, i32_le, i32_eq, i32_addw, i32_subw, i32_mulw, Int32.reduceToInt] at *) <;> omega) | (apply_assumption; done)) rfl ?_
    refine r_cge (tgt := 62) (q := 10) d_FL_comeToHandlers_7 rfl rfl (fun e7 => ?_) (fun e7 => ?_)
    · skip
      refine r_ic (v := 1) (q := 63) d_FL_comeToHandlers_62 rfl rfl ?_
      refine r_rz d_FL_comeToHandlers_63 (by first | assumption | (refine pc_of hP ?_; (repeat (first | assumption | exact md_refl | refine md_up ?_ rfl | refine md_fill ?_ rfl | (unfold ik; refine md_up ?_ rfl))); done) | (refine pm_of hP ?_; (repeat (first | assumption | exact md_refl | refine md_up ?_ rfl | refine md_fill ?_ rfl | (unfold ik; refine md_up ?_ rfl))); done) | omega | decide | ((try simp +decide only [b01, b10, b11, am_up, ik, and_true, and_false, true_and, false_and, if_true, if_false, nn_eq] at *) <;> (try simp only [sw_or, sw_all, or_false, and_true, i32_lt, i32_le, i32_eq, i32_addw, i32_subw, i32_mulw, Int32.reduceToInt] at *) <;> omega) | (apply_assumption; done)) ?_
      exact kQ
    · skip
      exfalso; clear hP hV hS hL kQ; ((try simp +decide only [b01, b10, b11, am_up, ik, and_true, and_false, true_and, false_and, if_true, if_false, nn_eq] at *) <;> (try simp only [sw_or, sw_all, or_false, and_true, i32_lt, i32_le, i32_eq, i32_addw, i32_subw, i32_mulw, Int32.reduceToInt] at *) <;> omega)
  | succ d ih =>
    intro j x b4 st k1 k2 k3 k4 k5 k6 k7
    have q := pc_of hP (md_W k3)
    obtain ⟨v8, -, ⟨-, -, -, -, v3, v4⟩, ⟨-, v1, v2⟩, -⟩ := cf q hV hm
    have hc : (P 7 m).toInt = (st 66 m).toInt := by rw [q.2.1]
    have h5 : (P 5 m).toInt = (st 71 m).toInt := by rw [q.1.2.2.2.2.2.1]
    have hx4 : 4 * m + x.toNatClampNeg = 4 * m + j := by rw [nn_eq]; omega
    have h32 : 4 * m + x.toNatClampNeg < 32 := by omega
    have vx : vp_in x 4 := vp_of (by omega) (by omega)
    have h10 : P 10 (4 * m + j) = st 130 (4 * m + x.toNatClampNeg) := by rw [hx4, q.2.2.2.2.1]
    have hcv : cov P (4 * m + j) p ↔ (st 128 (4 * m + x.toNatClampNeg) ≤ y ∧ y < st 129 (4 * m + x.toNatClampNeg)) := by
      unfold cov
      rw [← q.2.2.1, ← q.2.2.2.1, i32_le, i32_lt, hy, hx4]
    have hO := hS.2.2 j (by omega)
    have hLs : st 456 0 = L := by rw [k3 456 rfl]; exact hL0
    have kA : ∀ b4' s, am_md cW st s → oS (nb P m) (nl P m) st s → CI P m v p0 L0 R0 H0 s → le (nl P m) (cT st (nb P m)) (cT s (nb P m)) → (cov P (4 * m + j) p → 1 ≤ (P 5 m).toInt ∧ Ar (nl P m) (cT s (nb P m)) (P 10 (4 * m + j)).toInt L 1 1) → am_AW c_FL_comeToHandlers g_FL_comeToHandlers (fun o st' => am_ok (some .boolean) o ∧ am_ki (chQ P m v p0 L0 R0 H0 p L st0) o st') 2 [some (.inr (.inl 126)), some (.inr (.inl (m + 80))), some (.inl y), some (.inl (x + 1)), b4'] [] s := by
      intro b4' s s1 s2 s3 s4 s5
      refine ih (j + 1) _ b4' s (by omega) (by rw [i32_addw]; simp only [Int32.reduceToInt]; omega) (md_trans k3 s1) (oS_trans k4 s2) s3 (le_trans' k6 s4) ?_
      intro k hk hc2
      by_cases e : k = j
      · rw [e] at hc2 ⊢
        exact s5 hc2
      · have := k7 k (by omega) hc2
        exact ⟨this.1, Ar_le this.2 s4⟩
    have kF : ∀ s, am_md cW st s → oS (nb P m) (nl P m) st s → (∀ U, ¬ Typ P m U) → chQ P m v p0 L0 R0 H0 p L st0 0 s := fun s s1 s2 s3 => ⟨md_trans k3 s1, oS_trans k4 s2, Or.inr ⟨rfl, s3⟩⟩
    have kU : (st 128 (4 * m + x.toNatClampNeg) ≤ y ∧ y < st 129 (4 * m + x.toNatClampNeg)) → ∀ U, Typ P m U → 1 ≤ (st 71 m).toInt ∧ Ar (nl P m) U (st 130 (4 * m + x.toNatClampNeg)).toInt (st 456 0) 1 1 := by
      intro c U hU
      have := hA U hU j (by omega) (hcv.mpr c)
      rw [h10, h5] at this
      rw [hLs]
      exact this
    have kW : ¬ st 71 m < 1 → WS P m (st 456 0) 1 1 := by
      intro h
      rw [i32_lt] at h
      simp only [Int32.reduceToInt] at h
      rw [hLs]
      exact wf_h hL (by omega)
    have kT : 0 ≤ (st 130 (4 * m + x.toNatClampNeg)).toInt → (st 130 (4 * m + x.toNatClampNeg)).toInt < (nl P m : Int) → bg P m (st 130 (4 * m + x.toNatClampNeg)).toInt.toNat := by
      intro _ _
      rw [← h10]
      exact hO.2.2.2.1.2.2
    have kH : st 71 m < 1 → ¬ 1 ≤ (st 71 m).toInt := by
      intro h
      rw [i32_lt] at h
      simp only [Int32.reduceToInt] at h
      omega
    have kH2 : ¬ st 71 m < 1 → 1 ≤ (P 5 m).toInt := by
      intro h
      rw [i32_lt] at h
      simp only [Int32.reduceToInt] at h
      omega
    have k10 : (P 10 (4 * m + j)).toInt = (st 130 (4 * m + x.toNatClampNeg)).toInt := by rw [h10]
    clear ih hA k7 hO
    refine r_il3 (q := 3) d_FL_comeToHandlers_2 rfl ?_
    refine r_al1 (q := 4) d_FL_comeToHandlers_3 rfl ?_
    refine gt_ME_handlerCount (q := 7) d_FL_comeToHandlers_4 rfl (by first | exact q | exact kW e32 | exact kT | exact fun U hU => (kU e21 U hU).2 | assumption | (refine pc_of hP ?_; (repeat (first | assumption | exact md_refl | refine md_up ?_ rfl | refine md_fill ?_ rfl | (unfold ik; refine md_up ?_ rfl))); done) | (refine pm_of hP ?_; (repeat (first | assumption | exact md_refl | refine md_up ?_ rfl | refine md_fill ?_ rfl | (unfold ik; refine md_up ?_ rfl))); done) | omega | decide | ((try simp +decide only [b01, b10, b11, am_up, ik, and_true, and_false, true_and, false_and, if_true, if_false, nn_eq] at *) <;> (try simp only [sw_or, sw_all, or_false, and_true, i32_lt, i32_le, i32_eq, i32_addw, i32_subw, i32_mulw, Int32.reduceToInt] at *) <;> omega) | (apply_assumption; done)) rfl ?_
    refine r_cge (tgt := 62) (q := 10) d_FL_comeToHandlers_7 rfl rfl (fun e7 => ?_) (fun e7 => ?_)
    · skip
      first | exact kA _ _ md_refl oS_refl k5 le_refl' (fun c => absurd (hcv.mp c) e21) | (obtain ⟨z1, z2, z3, z4, z5⟩ := ct_1 e48.2 e51; exact kA _ _ z1 z2 z3 z4 (fun _ => ⟨kH2 e32, by rw [k10, ← hLs]; exact z5⟩)) | (exfalso; clear hP hV hS hL kA kF kU kW kT kH kH2 k3 k4 k5 k6 q; ((try simp +decide only [b01, b10, b11, am_up, ik, and_true, and_false, true_and, false_and, if_true, if_false, nn_eq] at *) <;> (try simp only [sw_or, sw_all, or_false, and_true, i32_lt, i32_le, i32_eq, i32_addw, i32_subw, i32_mulw, Int32.reduceToInt] at *) <;> omega))
    · skip
      refine r_al1 (q := 11) d_FL_comeToHandlers_10 rfl ?_
      refine gt_ME_handlers (q := 14) d_FL_comeToHandlers_11 rfl (by first | exact q | exact kW e32 | exact kT | exact fun U hU => (kU e21 U hU).2 | assumption | (refine pc_of hP ?_; (repeat (first | assumption | exact md_refl | refine md_up ?_ rfl | refine md_fill ?_ rfl | (unfold ik; refine md_up ?_ rfl))); done) | (refine pm_of hP ?_; (repeat (first | assumption | exact md_refl | refine md_up ?_ rfl | refine md_fill ?_ rfl | (unfold ik; refine md_up ?_ rfl))); done) | omega | decide | ((try simp +decide only [b01, b10, b11, am_up, ik, and_true, and_false, true_and, false_and, if_true, if_false, nn_eq] at *) <;> (try simp only [sw_or, sw_all, or_false, and_true, i32_lt, i32_le, i32_eq, i32_addw, i32_subw, i32_mulw, Int32.reduceToInt] at *) <;> omega) | (apply_assumption; done)) rfl ?_
      refine r_il3 (q := 15) d_FL_comeToHandlers_14 rfl ?_
      refine ld_HA (by first | exact q | exact kW e32 | exact kT | exact fun U hU => (kU e21 U hU).2 | assumption | (refine pc_of hP ?_; (repeat (first | assumption | exact md_refl | refine md_up ?_ rfl | refine md_fill ?_ rfl | (unfold ik; refine md_up ?_ rfl))); done) | (refine pm_of hP ?_; (repeat (first | assumption | exact md_refl | refine md_up ?_ rfl | refine md_fill ?_ rfl | (unfold ik; refine md_up ?_ rfl))); done) | omega | decide | ((try simp +decide only [b01, b10, b11, am_up, ik, and_true, and_false, true_and, false_and, if_true, if_false, nn_eq] at *) <;> (try simp only [sw_or, sw_all, or_false, and_true, i32_lt, i32_le, i32_eq, i32_addw, i32_subw, i32_mulw, Int32.reduceToInt] at *) <;> omega) | (apply_assumption; done)) (q := 16) d_FL_comeToHandlers_15 ?_ rfl ?_
      · exact vx
      refine r_as4 (q := 18) d_FL_comeToHandlers_16 rfl ?_
      refine r_al4 (q := 20) d_FL_comeToHandlers_18 rfl ?_
      refine r_il2 (q := 21) d_FL_comeToHandlers_20 rfl ?_
      refine r_vi1 mo_HA_covers d_FL_comeToHandlers_21 rfl (r_kH (by first | exact q | exact kW e32 | exact kT | exact fun U hU => (kU e21 U hU).2 | assumption | (refine pc_of hP ?_; (repeat (first | assumption | exact md_refl | refine md_up ?_ rfl | refine md_fill ?_ rfl | (unfold ik; refine md_up ?_ rfl))); done) | (refine pm_of hP ?_; (repeat (first | assumption | exact md_refl | refine md_up ?_ rfl | refine md_fill ?_ rfl | (unfold ik; refine md_up ?_ rfl))); done) | omega | decide | ((try simp +decide only [b01, b10, b11, am_up, ik, and_true, and_false, true_and, false_and, if_true, if_false, nn_eq] at *) <;> (try simp only [sw_or, sw_all, or_false, and_true, i32_lt, i32_le, i32_eq, i32_addw, i32_subw, i32_mulw, Int32.reduceToInt] at *) <;> omega) | (apply_assumption; done))) rfl (q := 24) rfl ?_
      refine sq_HA_covers (by first | exact q | exact kW e32 | exact kT | exact fun U hU => (kU e21 U hU).2 | assumption | (refine pc_of hP ?_; (repeat (first | assumption | exact md_refl | refine md_up ?_ rfl | refine md_fill ?_ rfl | (unfold ik; refine md_up ?_ rfl))); done) | (refine pm_of hP ?_; (repeat (first | assumption | exact md_refl | refine md_up ?_ rfl | refine md_fill ?_ rfl | (unfold ik; refine md_up ?_ rfl))); done) | omega | decide | ((try simp +decide only [b01, b10, b11, am_up, ik, and_true, and_false, true_and, false_and, if_true, if_false, nn_eq] at *) <;> (try simp only [sw_or, sw_all, or_false, and_true, i32_lt, i32_le, i32_eq, i32_addw, i32_subw, i32_mulw, Int32.reduceToInt] at *) <;> omega) | (apply_assumption; done)) (fun e21 => ?_) (fun e21 => ?_)
      · skip
        refine r_zeq (tgt := 56) (q := 27) d_FL_comeToHandlers_24 rfl rfl (fun e24 => by exfalso; revert e24; decide) (fun e24 => ?_)
        refine r_al1 (q := 28) d_FL_comeToHandlers_27 rfl ?_
        refine gt_ME_height (q := 31) d_FL_comeToHandlers_28 rfl (by first | exact q | exact kW e32 | exact kT | exact fun U hU => (kU e21 U hU).2 | assumption | (refine pc_of hP ?_; (repeat (first | assumption | exact md_refl | refine md_up ?_ rfl | refine md_fill ?_ rfl | (unfold ik; refine md_up ?_ rfl))); done) | (refine pm_of hP ?_; (repeat (first | assumption | exact md_refl | refine md_up ?_ rfl | refine md_fill ?_ rfl | (unfold ik; refine md_up ?_ rfl))); done) | omega | decide | ((try simp +decide only [b01, b10, b11, am_up, ik, and_true, and_false, true_and, false_and, if_true, if_false, nn_eq] at *) <;> (try simp only [sw_or, sw_all, or_false, and_true, i32_lt, i32_le, i32_eq, i32_addw, i32_subw, i32_mulw, Int32.reduceToInt] at *) <;> omega) | (apply_assumption; done)) rfl ?_
        refine r_ic (v := 1) (q := 32) d_FL_comeToHandlers_31 rfl rfl ?_
        refine r_clt (tgt := 54) (q := 35) d_FL_comeToHandlers_32 rfl rfl (fun e32 => ?_) (fun e32 => ?_)
        · skip
          refine r_ic (v := 0) (q := 55) d_FL_comeToHandlers_54 rfl rfl ?_
          refine r_rz d_FL_comeToHandlers_55 (by first | exact q | exact kW e32 | exact kT | exact fun U hU => (kU e21 U hU).2 | assumption | (refine pc_of hP ?_; (repeat (first | assumption | exact md_refl | refine md_up ?_ rfl | refine md_fill ?_ rfl | (unfold ik; refine md_up ?_ rfl))); done) | (refine pm_of hP ?_; (repeat (first | assumption | exact md_refl | refine md_up ?_ rfl | refine md_fill ?_ rfl | (unfold ik; refine md_up ?_ rfl))); done) | omega | decide | ((try simp +decide only [b01, b10, b11, am_up, ik, and_true, and_false, true_and, false_and, if_true, if_false, nn_eq] at *) <;> (try simp only [sw_or, sw_all, or_false, and_true, i32_lt, i32_le, i32_eq, i32_addw, i32_subw, i32_mulw, Int32.reduceToInt] at *) <;> omega) | (apply_assumption; done)) ?_
          first | exact kF _ md_refl oS_refl (fun U hU => kH e32 (kU e21 U hU).1) | (obtain ⟨z1, z2, z3⟩ := ct_0 e48.2 e51; exact kF _ z1 z2 z3)
        · skip
          refine r_al0 (q := 36) d_FL_comeToHandlers_35 rfl ?_
          refine r_al1 (q := 37) d_FL_comeToHandlers_36 rfl ?_
          refine r_al4 (q := 39) d_FL_comeToHandlers_37 rfl ?_
          refine gt_HA_target (q := 42) d_FL_comeToHandlers_39 rfl (by first | exact q | exact kW e32 | exact kT | exact fun U hU => (kU e21 U hU).2 | assumption | (refine pc_of hP ?_; (repeat (first | assumption | exact md_refl | refine md_up ?_ rfl | refine md_fill ?_ rfl | (unfold ik; refine md_up ?_ rfl))); done) | (refine pm_of hP ?_; (repeat (first | assumption | exact md_refl | refine md_up ?_ rfl | refine md_fill ?_ rfl | (unfold ik; refine md_up ?_ rfl))); done) | omega | decide | ((try simp +decide only [b01, b10, b11, am_up, ik, and_true, and_false, true_and, false_and, if_true, if_false, nn_eq] at *) <;> (try simp only [sw_or, sw_all, or_false, and_true, i32_lt, i32_le, i32_eq, i32_addw, i32_subw, i32_mulw, Int32.reduceToInt] at *) <;> omega) | (apply_assumption; done)) rfl ?_
          refine r_al0 (q := 43) d_FL_comeToHandlers_42 rfl ?_
          refine gt_FL_locals (q := 46) d_FL_comeToHandlers_43 rfl rfl ?_
          refine r_ic (v := 1) (q := 47) d_FL_comeToHandlers_46 rfl rfl ?_
          refine r_ic (v := 1) (q := 48) d_FL_comeToHandlers_47 rfl rfl ?_
          refine r_vi5 mo_FL_comeTo d_FL_comeToHandlers_48 rfl rfl rfl (q := 51) rfl ?_
          refine sp_FL_comeTo (P := P) (v := v) (p0 := p0) (L0 := L0) (R0 := R0) (H0 := H0) (by first | exact q | exact kW e32 | exact kT | exact fun U hU => (kU e21 U hU).2 | assumption | (refine pc_of hP ?_; (repeat (first | assumption | exact md_refl | refine md_up ?_ rfl | refine md_fill ?_ rfl | (unfold ik; refine md_up ?_ rfl))); done) | (refine pm_of hP ?_; (repeat (first | assumption | exact md_refl | refine md_up ?_ rfl | refine md_fill ?_ rfl | (unfold ik; refine md_up ?_ rfl))); done) | omega | decide | ((try simp +decide only [b01, b10, b11, am_up, ik, and_true, and_false, true_and, false_and, if_true, if_false, nn_eq] at *) <;> (try simp only [sw_or, sw_all, or_false, and_true, i32_lt, i32_le, i32_eq, i32_addw, i32_subw, i32_mulw, Int32.reduceToInt] at *) <;> omega) | (apply_assumption; done)) (by first | exact q | exact kW e32 | exact kT | exact fun U hU => (kU e21 U hU).2 | assumption | (refine pc_of hP ?_; (repeat (first | assumption | exact md_refl | refine md_up ?_ rfl | refine md_fill ?_ rfl | (unfold ik; refine md_up ?_ rfl))); done) | (refine pm_of hP ?_; (repeat (first | assumption | exact md_refl | refine md_up ?_ rfl | refine md_fill ?_ rfl | (unfold ik; refine md_up ?_ rfl))); done) | omega | decide | ((try simp +decide only [b01, b10, b11, am_up, ik, and_true, and_false, true_and, false_and, if_true, if_false, nn_eq] at *) <;> (try simp only [sw_or, sw_all, or_false, and_true, i32_lt, i32_le, i32_eq, i32_addw, i32_subw, i32_mulw, Int32.reduceToInt] at *) <;> omega) | (apply_assumption; done)) (by first | exact q | exact kW e32 | exact kT | exact fun U hU => (kU e21 U hU).2 | assumption | (refine pc_of hP ?_; (repeat (first | assumption | exact md_refl | refine md_up ?_ rfl | refine md_fill ?_ rfl | (unfold ik; refine md_up ?_ rfl))); done) | (refine pm_of hP ?_; (repeat (first | assumption | exact md_refl | refine md_up ?_ rfl | refine md_fill ?_ rfl | (unfold ik; refine md_up ?_ rfl))); done) | omega | decide | ((try simp +decide only [b01, b10, b11, am_up, ik, and_true, and_false, true_and, false_and, if_true, if_false, nn_eq] at *) <;> (try simp only [sw_or, sw_all, or_false, and_true, i32_lt, i32_le, i32_eq, i32_addw, i32_subw, i32_mulw, Int32.reduceToInt] at *) <;> omega) | (apply_assumption; done)) (by first | exact q | exact kW e32 | exact kT | exact fun U hU => (kU e21 U hU).2 | assumption | (refine pc_of hP ?_; (repeat (first | assumption | exact md_refl | refine md_up ?_ rfl | refine md_fill ?_ rfl | (unfold ik; refine md_up ?_ rfl))); done) | (refine pm_of hP ?_; (repeat (first | assumption | exact md_refl | refine md_up ?_ rfl | refine md_fill ?_ rfl | (unfold ik; refine md_up ?_ rfl))); done) | omega | decide | ((try simp +decide only [b01, b10, b11, am_up, ik, and_true, and_false, true_and, false_and, if_true, if_false, nn_eq] at *) <;> (try simp only [sw_or, sw_all, or_false, and_true, i32_lt, i32_le, i32_eq, i32_addw, i32_subw, i32_mulw, Int32.reduceToInt] at *) <;> omega) | (apply_assumption; done)) (by first | exact q | exact kW e32 | exact kT | exact fun U hU => (kU e21 U hU).2 | assumption | (refine pc_of hP ?_; (repeat (first | assumption | exact md_refl | refine md_up ?_ rfl | refine md_fill ?_ rfl | (unfold ik; refine md_up ?_ rfl))); done) | (refine pm_of hP ?_; (repeat (first | assumption | exact md_refl | refine md_up ?_ rfl | refine md_fill ?_ rfl | (unfold ik; refine md_up ?_ rfl))); done) | omega | decide | ((try simp +decide only [b01, b10, b11, am_up, ik, and_true, and_false, true_and, false_and, if_true, if_false, nn_eq] at *) <;> (try simp only [sw_or, sw_all, or_false, and_true, i32_lt, i32_le, i32_eq, i32_addw, i32_subw, i32_mulw, Int32.reduceToInt] at *) <;> omega) | (apply_assumption; done)) (by first | exact q | exact kW e32 | exact kT | exact fun U hU => (kU e21 U hU).2 | assumption | (refine pc_of hP ?_; (repeat (first | assumption | exact md_refl | refine md_up ?_ rfl | refine md_fill ?_ rfl | (unfold ik; refine md_up ?_ rfl))); done) | (refine pm_of hP ?_; (repeat (first | assumption | exact md_refl | refine md_up ?_ rfl | refine md_fill ?_ rfl | (unfold ik; refine md_up ?_ rfl))); done) | omega | decide | ((try simp +decide only [b01, b10, b11, am_up, ik, and_true, and_false, true_and, false_and, if_true, if_false, nn_eq] at *) <;> (try simp only [sw_or, sw_all, or_false, and_true, i32_lt, i32_le, i32_eq, i32_addw, i32_subw, i32_mulw, Int32.reduceToInt] at *) <;> omega) | (apply_assumption; done)) (by first | exact q | exact kW e32 | exact kT | exact fun U hU => (kU e21 U hU).2 | assumption | (refine pc_of hP ?_; (repeat (first | assumption | exact md_refl | refine md_up ?_ rfl | refine md_fill ?_ rfl | (unfold ik; refine md_up ?_ rfl))); done) | (refine pm_of hP ?_; (repeat (first | assumption | exact md_refl | refine md_up ?_ rfl | refine md_fill ?_ rfl | (unfold ik; refine md_up ?_ rfl))); done) | omega | decide | ((try simp +decide only [b01, b10, b11, am_up, ik, and_true, and_false, true_and, false_and, if_true, if_false, nn_eq] at *) <;> (try simp only [sw_or, sw_all, or_false, and_true, i32_lt, i32_le, i32_eq, i32_addw, i32_subw, i32_mulw, Int32.reduceToInt] at *) <;> omega) | (apply_assumption; done)) (fun e48 => ?_)
          · skip
            refine r_zne (tgt := 56) (q := 54) d_FL_comeToHandlers_51 rfl rfl (fun e51 => ?_) (fun e51 => ?_)
            · skip
              refine r_in3 (v := 1) (q := 59) d_FL_comeToHandlers_56 rfl rfl ?_
              refine am_go (tgt := 2) d_FL_comeToHandlers_59 rfl ?_
              first | exact kA _ _ md_refl oS_refl k5 le_refl' (fun c => absurd (hcv.mp c) e21) | (obtain ⟨z1, z2, z3, z4, z5⟩ := ct_1 e48.2 e51; exact kA _ _ z1 z2 z3 z4 (fun _ => ⟨kH2 e32, by rw [k10, ← hLs]; exact z5⟩)) | (exfalso; clear hP hV hS hL kA kF kU kW kT kH kH2 k3 k4 k5 k6 q; ((try simp +decide only [b01, b10, b11, am_up, ik, and_true, and_false, true_and, false_and, if_true, if_false, nn_eq] at *) <;> (try simp only [sw_or, sw_all, or_false, and_true, i32_lt, i32_le, i32_eq, i32_addw, i32_subw, i32_mulw, Int32.reduceToInt] at *) <;> omega))
            · skip
              refine r_ic (v := 0) (q := 55) d_FL_comeToHandlers_54 rfl rfl ?_
              refine r_rz d_FL_comeToHandlers_55 (by first | exact q | exact kW e32 | exact kT | exact fun U hU => (kU e21 U hU).2 | assumption | (refine pc_of hP ?_; (repeat (first | assumption | exact md_refl | refine md_up ?_ rfl | refine md_fill ?_ rfl | (unfold ik; refine md_up ?_ rfl))); done) | (refine pm_of hP ?_; (repeat (first | assumption | exact md_refl | refine md_up ?_ rfl | refine md_fill ?_ rfl | (unfold ik; refine md_up ?_ rfl))); done) | omega | decide | ((try simp +decide only [b01, b10, b11, am_up, ik, and_true, and_false, true_and, false_and, if_true, if_false, nn_eq] at *) <;> (try simp only [sw_or, sw_all, or_false, and_true, i32_lt, i32_le, i32_eq, i32_addw, i32_subw, i32_mulw, Int32.reduceToInt] at *) <;> omega) | (apply_assumption; done)) ?_
              first | exact kF _ md_refl oS_refl (fun U hU => kH e32 (kU e21 U hU).1) | (obtain ⟨z1, z2, z3⟩ := ct_0 e48.2 e51; exact kF _ z1 z2 z3)
      · skip
        refine r_zeq (tgt := 56) (q := 27) d_FL_comeToHandlers_24 rfl rfl (fun e24 => ?_) (fun e24 => by exfalso; revert e24; decide)
        refine r_in3 (v := 1) (q := 59) d_FL_comeToHandlers_56 rfl rfl ?_
        refine am_go (tgt := 2) d_FL_comeToHandlers_59 rfl ?_
        first | exact kA _ _ md_refl oS_refl k5 le_refl' (fun c => absurd (hcv.mp c) e21) | (obtain ⟨z1, z2, z3, z4, z5⟩ := ct_1 e48.2 e51; exact kA _ _ z1 z2 z3 z4 (fun _ => ⟨kH2 e32, by rw [k10, ← hLs]; exact z5⟩)) | (exfalso; clear hP hV hS hL kA kF kU kW kT kH kH2 k3 k4 k5 k6 q; ((try simp +decide only [b01, b10, b11, am_up, ik, and_true, and_false, true_and, false_and, if_true, if_false, nn_eq] at *) <;> (try simp only [sw_or, sw_all, or_false, and_true, i32_lt, i32_le, i32_eq, i32_addw, i32_subw, i32_mulw, Int32.reduceToInt] at *) <;> omega))
theorem sp_FL_comeToHandlers {P : am_S} {m v p0 p : Nat} {L0 R0 H0 y : Int32} {st : am_S} {f : Int32 → am_S → Prop} (c1 : PC st P) (c2 : VP P) (c3 : m < nM P) (c4 : SHP P m) (c5 : y.toInt = (p : Int)) (c6 : wfL (st 456 0)) (c7 : CI P m v p0 L0 R0 H0 st) (c8 : ∀ U, Typ P m U → ∀ k, k < (P 7 m).toInt.toNat → cov P (4 * m + k) p → 1 ≤ (P 5 m).toInt ∧ Ar (nl P m) U (P 10 (4 * m + k)).toInt (st 456 0) 1 1) (h1 : ∀ q : {q : Int32 × am_S // chQ P m v p0 L0 R0 H0 p (st 456 0) st q.1 q.2}, f q.1.1 q.1.2) : wp_FL_comeToHandlers [.inr (.inl 126), .inr (.inl (m + 80)), .inl y] st (am_ki f) := by
  refine ki_of (g := chQ P m v p0 L0 R0 H0 p (st 456 0) st) mo_FL_comeToHandlers ?_ h1
  refine ⟨⟨rfl, Nat.le_of_ble_eq_true rfl⟩, ?_⟩
  refine r_ic (v := 0) (q := 1) d_FL_comeToHandlers_0 rfl rfl ?_
  refine r_is3 (q := 2) d_FL_comeToHandlers_1 rfl ?_
  exact lp_FL_ch (b4 := none) c1 c2 c3 c4 c5 c6 rfl c8 _ 0 _ _ _ (Nat.zero_add _) (by decide) md_refl oS_refl c7 le_refl' (fun k hk => absurd hk (by omega))

/-! written by wip/whole/gen/walk.py out of 83.come.txt -/
def cT (st : am_S) (B : Nat) : am_T := fun j p => if j = 0 then st 2132 (B + p) else if j = 1 then st 2133 (B + p) else st 2134 (B + p)
def cW (b : Nat) : Bool := (2132 ≤ b && b ≤ 2136) || b == 455
theorem md_W {s t : am_S} (h : am_md cW s t) : am_md cV s t := by
  intro b hb
  refine h b ?_
  unfold cV at hb
  unfold cW
  simp only [Bool.or_eq_false_iff, Bool.and_eq_false_iff, decide_eq_false_iff_not, beq_eq_false_iff_ne] at hb ⊢
  omega
/-- the row of places that wait -/
def WQ (N B : Nat) (st : am_S) : Prop := 0 ≤ (st 455 0).toInt ∧ (∀ p, p < N → st 2136 (B + p) = 0 ∨ st 2136 (B + p) = 1) ∧ (st 455 0).toInt.toNat + sm (fun p => if st 2136 (B + p) = 0 then 1 else 0) N ≤ N ∧ (∀ j, j < (st 455 0).toInt.toNat → 0 ≤ (st 2135 j).toInt ∧ (st 2135 j).toInt < (N : Int) ∧ ¬ st 2134 (B + (st 2135 j).toInt.toNat) = -1) ∧ (∀ p, p < N → st 2136 (B + p) = 1 → ∃ j, j < (st 455 0).toInt.toNat ∧ (st 2135 j).toInt = (p : Int))
def CI (P : am_S) (m v p0 : Nat) (L0 R0 H0 : Int32) (st : am_S) : Prop := WT P m (cT st (nb P m)) ∧ (∀ U, Typ P m U → le (nl P m) (cT st (nb P m)) U) ∧ WQ (nl P m) (nb P m) st ∧ v + (st 455 0).toInt.toNat + mu (nl P m) (cT st (nb P m)) ≤ 9 * nl P m ∧ ∀ p, p < nl P m → ¬ cT st (nb P m) 2 p = -1 → st 2136 (nb P m + p) = 1 ∨ (p = p0 ∧ cT st (nb P m) 0 p = L0 ∧ cT st (nb P m) 1 p = R0 ∧ cT st (nb P m) 2 p = H0) ∨ SO P m (cT st (nb P m)) p (cT st (nb P m) 0 p) (cT st (nb P m) 1 p) (cT st (nb P m) 2 p)
def awS (st : am_S) (a : Nat) (x : Int32) : am_S := if st 2136 a = 0 then am_up (am_up (am_up st 2136 a 1) 2135 (st 455 0).toNatClampNeg x) 455 0 (st 455 0 + 1) else st
theorem awS_n {st : am_S} {a b : Nat} {x : Int32} (h : ¬ b = 2135 ∧ ¬ b = 2136 ∧ ¬ b = 455) : awS st a x b = st b := by
  unfold awS
  split
  · rw [am_up_bank h.2.2, am_up_bank h.1, am_up_bank h.2.1]
  · rfl
theorem awS_md {s st : am_S} {a : Nat} {x : Int32} (h : am_md cW s st) : am_md cW s (awS st a x) := by
  unfold awS
  split
  · exact md_up (md_up (md_up h rfl) rfl) rfl
  · exact h
theorem cT_aw {st : am_S} {a B : Nat} {x : Int32} : cT (awS st a x) B = cT st B := by
  funext j p
  unfold cT
  rw [awS_n (by decide), awS_n (by decide), awS_n (by decide)]
theorem WQ_aw {N B p : Nat} {st : am_S} {x : Int32} (hN : N ≤ 200) (h : WQ N B st) (hp : p < N) (hx : x.toInt = (p : Int)) (hf : ¬ st 2134 (B + p) = -1) : WQ N B (awS st (B + p) x) ∧ awS st (B + p) x 2136 (B + p) = 1 ∧ (∀ q, ¬ q = p → awS st (B + p) x 2136 (B + q) = st 2136 (B + q)) ∧ (awS st (B + p) x 455 0).toInt.toNat ≤ (st 455 0).toInt.toNat + 1 ∧ (st 2136 (B + p) = 0 → (st 455 0).toInt < 200) := by
  obtain ⟨a1, a2, a3, a4, a5⟩ := h
  by_cases e : st 2136 (B + p) = 0
  · have s1 : ∀ i, i < N → ¬ i = p → (fun q => if (awS st (B + p) x) 2136 (B + q) = 0 then 1 else 0) i = (fun q => if st 2136 (B + q) = 0 then 1 else 0) i := by
      intro i hi hip
      unfold awS
      rw [if_pos e]
      simp only
      rw [am_up_bank (by decide), am_up_bank (by decide), am_up_ne (by omega)]
    have s2 := sm_ch s1 hp
    have v1 : (awS st (B + p) x) 2136 (B + p) = 1 := by
      unfold awS
      rw [if_pos e, am_up_bank (by decide), am_up_bank (by decide), am_up_eq]
    have v2 : (awS st (B + p) x) 455 0 = st 455 0 + 1 := by
      unfold awS
      rw [if_pos e, am_up_eq]
    have v3 : ∀ q, ¬ q = p → (awS st (B + p) x) 2136 (B + q) = st 2136 (B + q) := by
      intro q hq
      unfold awS
      rw [if_pos e, am_up_bank (by decide), am_up_bank (by decide), am_up_ne (by omega)]
    have s3 : (if (awS st (B + p) x) 2136 (B + p) = 0 then 1 else 0) = 0 := by rw [v1, if_neg (by decide)]
    have s4 : (if st 2136 (B + p) = 0 then 1 else 0) = 1 := if_pos e
    simp only [s3, s4] at s2
    have v4 : (awS st (B + p) x 455 0).toInt = (st 455 0).toInt + 1 := by
      rw [v2, i32_addw]
      simp only [Int32.reduceToInt]
      omega
    have v5 : ∀ j, ¬ j = (st 455 0).toInt.toNat → (awS st (B + p) x) 2135 j = st 2135 j := by
      intro j hj
      unfold awS
      rw [if_pos e, am_up_bank (by decide), am_up_ne (by rw [nn_eq]; omega), am_up_bank (by decide)]
    have v6 : (awS st (B + p) x) 2135 (st 455 0).toInt.toNat = x := by
      unfold awS
      rw [if_pos e, am_up_bank (by decide), nn_eq, am_up_eq]
    have v7 : (awS st (B + p) x) 2134 = st 2134 := awS_n (by decide)
    refine ⟨⟨by omega, ?_, by omega, ?_, ?_⟩, v1, v3, by omega, fun _ => by omega⟩
    · intro q hq
      by_cases eq : q = p
      · rw [eq, v1]
        exact Or.inr rfl
      · rw [v3 q eq]
        exact a2 q hq
    · intro j hj
      by_cases ej : j = (st 455 0).toInt.toNat
      · rw [ej, v6, v7, hx]
        exact ⟨by omega, by omega, hf⟩
      · rw [v5 j ej, v7]
        exact a4 j (by omega)
    · intro q hq h1
      by_cases eq : q = p
      · exact ⟨(st 455 0).toInt.toNat, by omega, by rw [v6, hx, eq]⟩
      · rw [v3 q eq] at h1
        obtain ⟨j, j1, j2⟩ := a5 q hq h1
        exact ⟨j, by omega, by rw [v5 j (by omega)]; exact j2⟩
  · have e2 : awS st (B + p) x = st := by
      unfold awS
      rw [if_neg e]
    rw [e2]
    exact ⟨⟨a1, a2, a3, a4, a5⟩, (a2 p hp).resolve_left e, fun _ _ => rfl, by omega, fun q => absurd q e⟩
theorem sp_FL_awaitVisit {m : Nat} {x : Int32} {st : am_S} {f : am_S → Prop} (c1 : m < 8) (c2 : 0 ≤ (st 67 m + x).toInt ∧ (st 67 m + x).toInt < 200) (c3 : 0 ≤ (st 455 0).toInt) (c4 : st 2136 (st 67 m + x).toNatClampNeg = 0 → (st 455 0).toInt < 200) (h : f (awS st (st 67 m + x).toNatClampNeg x)) : wp_FL_awaitVisit [.inr (.inl 126), .inr (.inl (m + 80)), .inl x] st (am_kv f) := by
  refine ⟨⟨rfl, Nat.le_of_ble_eq_true rfl⟩, ?_⟩
  unfold awS at h
  have vx : vp_in (st 67 m + x) 200 := vp_of c2.1 c2.2
  by_cases e : st 2136 (st 67 m + x).toNatClampNeg = 0
  · have c4 := c4 e
    rw [if_pos e] at h
    have vw : vp_in (st 455 0) 200 := vp_of c3 c4
    refine r_al1 (q := 1) d_FL_awaitVisit_0 rfl ?_
    refine gt_ME_first (q := 4) d_FL_awaitVisit_1 rfl (by first | assumption | (refine pc_of hP ?_; (repeat (first | assumption | exact md_refl | refine md_up ?_ rfl | refine md_fill ?_ rfl | (unfold ik; refine md_up ?_ rfl))); done) | (refine pm_of hP ?_; (repeat (first | assumption | exact md_refl | refine md_up ?_ rfl | refine md_fill ?_ rfl | (unfold ik; refine md_up ?_ rfl))); done) | omega | decide | ((try simp +decide only [b01, b10, b11, am_up, ik, and_true, and_false, true_and, false_and, if_true, if_false, nn_eq] at *) <;> (try simp only [sw_or, sw_all, or_false, and_true, i32_lt, i32_le, i32_eq, i32_addw, i32_subw, i32_mulw, Int32.reduceToInt] at *) <;> omega) | (apply_assumption; done)) rfl ?_
    refine r_il2 (q := 5) d_FL_awaitVisit_4 rfl ?_
    refine r_iadd (q := 6) d_FL_awaitVisit_5 rfl ?_
    refine r_is3 (q := 7) d_FL_awaitVisit_6 rfl ?_
    refine r_al0 (q := 8) d_FL_awaitVisit_7 rfl ?_
    refine gt_FL_isWaiting (q := 11) d_FL_awaitVisit_8 rfl rfl ?_
    refine r_il3 (q := 12) d_FL_awaitVisit_11 rfl ?_
    refine ld_136 (q := 13) d_FL_awaitVisit_12 ?_ rfl ?_
    · first | exact vx | exact vw
    refine r_zne (tgt := 55) (q := 16) d_FL_awaitVisit_13 rfl rfl (fun e13 => ?_) (fun e13 => ?_)
    · skip
      refine r_rv d_FL_awaitVisit_55 ?_
      first | exact h | exact absurd e e13 | (exfalso; clear h; ((try simp +decide only [b01, b10, b11, am_up, ik, and_true, and_false, true_and, false_and, if_true, if_false, nn_eq] at *) <;> (try simp only [sw_or, sw_all, or_false, and_true, i32_lt, i32_le, i32_eq, i32_addw, i32_subw, i32_mulw, Int32.reduceToInt] at *) <;> omega))
    · skip
      refine r_al0 (q := 17) d_FL_awaitVisit_16 rfl ?_
      refine gt_FL_waitingCount (q := 20) d_FL_awaitVisit_17 rfl rfl ?_
      refine r_al0 (q := 21) d_FL_awaitVisit_20 rfl ?_
      refine gt_FL_waiting (q := 24) d_FL_awaitVisit_21 rfl rfl ?_
      refine r_len (q := 25) d_FL_awaitVisit_24 rfl ?_
      refine r_cge (tgt := 55) (q := 28) d_FL_awaitVisit_25 rfl rfl (fun e25 => ?_) (fun e25 => ?_)
      · skip
        refine r_rv d_FL_awaitVisit_55 ?_
        first | exact h | exact absurd e e13 | (exfalso; clear h; ((try simp +decide only [b01, b10, b11, am_up, ik, and_true, and_false, true_and, false_and, if_true, if_false, nn_eq] at *) <;> (try simp only [sw_or, sw_all, or_false, and_true, i32_lt, i32_le, i32_eq, i32_addw, i32_subw, i32_mulw, Int32.reduceToInt] at *) <;> omega))
      · skip
        refine r_al0 (q := 29) d_FL_awaitVisit_28 rfl ?_
        refine gt_FL_isWaiting (q := 32) d_FL_awaitVisit_29 rfl rfl ?_
        refine r_il3 (q := 33) d_FL_awaitVisit_32 rfl ?_
        refine r_ic (v := 1) (q := 34) d_FL_awaitVisit_33 rfl rfl ?_
        refine sv_136 (q := 35) d_FL_awaitVisit_34 (by first | assumption | (refine pc_of hP ?_; (repeat (first | assumption | exact md_refl | refine md_up ?_ rfl | refine md_fill ?_ rfl | (unfold ik; refine md_up ?_ rfl))); done) | (refine pm_of hP ?_; (repeat (first | assumption | exact md_refl | refine md_up ?_ rfl | refine md_fill ?_ rfl | (unfold ik; refine md_up ?_ rfl))); done) | omega | decide | ((try simp +decide only [b01, b10, b11, am_up, ik, and_true, and_false, true_and, false_and, if_true, if_false, nn_eq] at *) <;> (try simp only [sw_or, sw_all, or_false, and_true, i32_lt, i32_le, i32_eq, i32_addw, i32_subw, i32_mulw, Int32.reduceToInt] at *) <;> omega) | (apply_assumption; done)) ?_ rfl ?_
        · first | exact vx | exact vw
        refine r_al0 (q := 36) d_FL_awaitVisit_35 rfl ?_
        refine gt_FL_waiting (q := 39) d_FL_awaitVisit_36 rfl rfl ?_
        refine r_al0 (q := 40) d_FL_awaitVisit_39 rfl ?_
        refine gt_FL_waitingCount (q := 43) d_FL_awaitVisit_40 rfl rfl ?_
        refine r_il2 (q := 44) d_FL_awaitVisit_43 rfl ?_
        refine sv_135 (q := 45) d_FL_awaitVisit_44 ?_ rfl ?_
        · first | exact vx | exact vw
        refine r_al0 (q := 46) d_FL_awaitVisit_45 rfl ?_
        refine r_dupr (q := 47) d_FL_awaitVisit_46 rfl ?_
        refine gt_FL_waitingCount (q := 50) d_FL_awaitVisit_47 rfl rfl ?_
        refine r_ic (v := 1) (q := 51) d_FL_awaitVisit_50 rfl rfl ?_
        refine r_iadd (q := 52) d_FL_awaitVisit_51 rfl ?_
        refine pt_FL_waitingCount (q := 55) d_FL_awaitVisit_52 rfl rfl ?_
        refine r_rv d_FL_awaitVisit_55 ?_
        first | exact h | exact absurd e e13 | (exfalso; clear h; ((try simp +decide only [b01, b10, b11, am_up, ik, and_true, and_false, true_and, false_and, if_true, if_false, nn_eq] at *) <;> (try simp only [sw_or, sw_all, or_false, and_true, i32_lt, i32_le, i32_eq, i32_addw, i32_subw, i32_mulw, Int32.reduceToInt] at *) <;> omega))
  · rw [if_neg e] at h
    refine r_al1 (q := 1) d_FL_awaitVisit_0 rfl ?_
    refine gt_ME_first (q := 4) d_FL_awaitVisit_1 rfl (by first | assumption | (refine pc_of hP ?_; (repeat (first | assumption | exact md_refl | refine md_up ?_ rfl | refine md_fill ?_ rfl | (unfold ik; refine md_up ?_ rfl))); done) | (refine pm_of hP ?_; (repeat (first | assumption | exact md_refl | refine md_up ?_ rfl | refine md_fill ?_ rfl | (unfold ik; refine md_up ?_ rfl))); done) | omega | decide | ((try simp +decide only [b01, b10, b11, am_up, ik, and_true, and_false, true_and, false_and, if_true, if_false, nn_eq] at *) <;> (try simp only [sw_or, sw_all, or_false, and_true, i32_lt, i32_le, i32_eq, i32_addw, i32_subw, i32_mulw, Int32.reduceToInt] at *) <;> omega) | (apply_assumption; done)) rfl ?_
    refine r_il2 (q := 5) d_FL_awaitVisit_4 rfl ?_
    refine r_iadd (q := 6) d_FL_awaitVisit_5 rfl ?_
    refine r_is3 (q := 7) d_FL_awaitVisit_6 rfl ?_
    refine r_al0 (q := 8) d_FL_awaitVisit_7 rfl ?_
    refine gt_FL_isWaiting (q := 11) d_FL_awaitVisit_8 rfl rfl ?_
    refine r_il3 (q := 12) d_FL_awaitVisit_11 rfl ?_
    refine ld_136 (q := 13) d_FL_awaitVisit_12 ?_ rfl ?_
    · exact vx
    refine r_zne (tgt := 55) (q := 16) d_FL_awaitVisit_13 rfl rfl (fun e13 => ?_) (fun e13 => ?_)
    · skip
      refine r_rv d_FL_awaitVisit_55 ?_
      exact h
    · skip
      exact absurd e13 e

/-! written by wip/whole/gen/walk.py out of 84.come2.txt -/
theorem WS_H {P : am_S} {m : Nat} {L R H : Int32} (hv : VP P) (hm : m < nM P) (h : WS P m L R H) : ¬ H = -1 := by
  obtain ⟨-, k, a, b, -⟩ := h
  have h3 := hv.2.2 m hm
  unfold VM at h3
  rw [b, i32_eq, nI_t (by omega)]
  simp only [Int32.reduceToInt]
  omega
theorem CI_ch {P : am_S} {m v p0 p : Nat} {L0 R0 H0 L R H x : Int32} {st st1 : am_S} (hv : VP P) (hm : m < nM P) (h : CI P m v p0 L0 R0 H0 st) (hp : p < nl P m) (hx : x.toInt = (p : Int)) (hs : WS P m L R H) (hb : bg P m p) (hA : ∀ U, Typ P m U → Ar (nl P m) U (p : Int) L R H) (hc : cT st (nb P m) 2 p = -1 ∨ (cT st (nb P m) 2 p = H ∧ cT st (nb P m) 1 p = R)) (hch : cT st (nb P m) 2 p = -1 ∨ ¬ ty_com (cT st (nb P m) 0 p) L = cT st (nb P m) 0 p) (e1 : cT st1 (nb P m) = cm (cT st (nb P m)) p L R H) (e2 : st1 2135 = st 2135) (e3 : st1 2136 = st 2136) (e4 : st1 455 = st 455) : CI P m v p0 L0 R0 H0 (awS st1 (nb P m + p) x) ∧ (st1 2136 (nb P m + p) = 0 → (st1 455 0).toInt < 200) := by
  obtain ⟨a1, a2, a3, a4, a5⟩ := h
  have hH := WS_H hv hm hs
  have h3 := hv.2.2 m hm
  have h4 := hv.1
  unfold VM at h3
  have hN : nl P m ≤ 200 := by unfold nl; omega
  have f2 : ∀ q, st1 2134 (nb P m + q) = cm (cT st (nb P m)) p L R H 2 q := fun q => by rw [← e1]; rfl
  have hne : ∀ q, ¬ st 2134 (nb P m + q) = -1 → ¬ st1 2134 (nb P m + q) = -1 := by
    intro q hq
    rw [f2]
    by_cases e : q = p
    · rw [e, cm_2]
      split
      · exact hH
      · assumption
    · rw [cm_n e]
      exact hq
  have hpp : ¬ st1 2134 (nb P m + p) = -1 := by
    rw [f2, cm_2]
    split
    · exact hH
    · assumption
  have w1 : WQ (nl P m) (nb P m) st1 := by
    unfold WQ
    rw [e2, e3, e4]
    exact ⟨a3.1, a3.2.1, a3.2.2.1, fun j hj => ⟨(a3.2.2.2.1 j hj).1, (a3.2.2.2.1 j hj).2.1, hne _ (a3.2.2.2.1 j hj).2.2⟩, a3.2.2.2.2⟩
  obtain ⟨w2, w3, w4, w5, w6⟩ := WQ_aw hN w1 hp hx hpp
  refine ⟨⟨?_, ?_, w2, ?_, ?_⟩, w6⟩
  · rw [cT_aw, e1]
    exact WT_cm a1 hs hb
  · intro U hU
    rw [cT_aw, e1]
    exact cm_lb (a2 U hU) (hA U hU)
  · rw [cT_aw, e1]
    have := @mu_ch (nl P m) (cT st (nb P m)) p L R H hp hH hch
    rw [e4] at w5
    omega
  · intro q hq hq2
    rw [cT_aw, e1] at hq2 ⊢
    by_cases e : q = p
    · rw [e]
      exact Or.inl w3
    · rw [w4 q e, e3]
      rw [cm_n e] at hq2
      rw [cm_n e, cm_n e, cm_n e]
      rcases a5 q hq hq2 with a | a | a
      · exact Or.inl a
      · exact Or.inr (Or.inl a)
      · exact Or.inr (Or.inr (SO_le a cm_le))
/-- what is found of other methods stays -/
def oS (B N : Nat) (s t : am_S) : Prop := ∀ i, (i < B ∨ B + N ≤ i) → t 2132 i = s 2132 i ∧ t 2133 i = s 2133 i ∧ t 2134 i = s 2134 i
theorem oS_refl {B N : Nat} {s : am_S} : oS B N s s := fun _ _ => ⟨rfl, rfl, rfl⟩
theorem oS_trans {B N : Nat} {s t u : am_S} (h : oS B N s t) (h' : oS B N t u) : oS B N s u := fun i hi => ⟨(h' i hi).1.trans (h i hi).1, (h' i hi).2.1.trans (h i hi).2.1, (h' i hi).2.2.trans (h i hi).2.2⟩
theorem oS_aw {B N a : Nat} {x : Int32} {s t : am_S} (h : oS B N s t) : oS B N s (awS t a x) := by
  intro i hi
  rw [awS_n (by decide), awS_n (by decide), awS_n (by decide)]
  exact h i hi
theorem oS_up {B N b i : Nat} {v : Int32} {s t : am_S} (h : oS B N s t) (hb : (B ≤ i ∧ i < B + N) ∨ (¬ b = 2132 ∧ ¬ b = 2133 ∧ ¬ b = 2134)) : oS B N s (am_up t b i v) := by
  intro j hj
  rw [am_up_ne (by omega), am_up_ne (by omega), am_up_ne (by omega)]
  exact h j hj
def ctQ (P : am_S) (m v p0 : Nat) (L0 R0 H0 x L R H : Int32) (st : am_S) (r : Int32) (st' : am_S) : Prop := am_md cW st st' ∧ oS (nb P m) (nl P m) st st' ∧ ((r = 1 ∧ CI P m v p0 L0 R0 H0 st' ∧ le (nl P m) (cT st (nb P m)) (cT st' (nb P m)) ∧ Ar (nl P m) (cT st' (nb P m)) x.toInt L R H) ∨ (r = 0 ∧ ∀ U, ¬ Typ P m U))
theorem sp_FL_comeTo {P : am_S} {m v p0 : Nat} {L0 R0 H0 x L R H : Int32} {st : am_S} {f : Int32 → am_S → Prop} (c1 : PC st P) (c2 : VP P) (c3 : m < nM P) (c4 : CI P m v p0 L0 R0 H0 st) (c5 : WS P m L R H) (c6 : 0 ≤ x.toInt → x.toInt < (nl P m : Int) → bg P m x.toInt.toNat) (c7 : ∀ U, Typ P m U → Ar (nl P m) U x.toInt L R H) (h1 : ∀ q : {q : Int32 × am_S // ctQ P m v p0 L0 R0 H0 x L R H st q.1 q.2}, f q.1.1 q.1.2) : wp_FL_comeTo [.inr (.inl 126), .inr (.inl (m + 80)), .inl x, .inl L, .inl R, .inl H] st (am_ki f) := by
  refine ki_of (g := ctQ P m v p0 L0 R0 H0 x L R H st) mo_FL_comeTo ?_ h1
  refine ⟨⟨rfl, Nat.le_of_ble_eq_true rfl⟩, ?_⟩
  clear h1
  obtain ⟨v8, ⟨v1, v2, v3, v4, v5⟩, -⟩ := cf c1 c2 c3
  have hb : (nb P m : Int) = (st 67 m).toInt := by unfold nb; rw [← c1.1.2.1]; omega
  have hl : (nl P m : Int) = (st 68 m).toInt := by unfold nl; rw [← c1.1.2.2.1]; omega
  have vm8 : m < 8 := v8
  have hH := WS_H c2 c3 c5
  by_cases hr : 0 ≤ x.toInt ∧ x.toInt < (nl P m : Int)
  · have hp : x.toInt.toNat < nl P m := by omega
    have hx : x.toInt = ((x.toInt.toNat : Nat) : Int) := by omega
    have hxa : (st 67 m + x).toNatClampNeg = nb P m + x.toInt.toNat := by rw [nn_eq, i32_addw]; omega
    have hxb : 0 ≤ (st 67 m + x).toInt ∧ (st 67 m + x).toInt < 200 := by rw [i32_addw]; omega
    have vx : vp_in (st 67 m + x) 200 := vp_of hxb.1 hxb.2
    have hbg := c6 hr.1 hr.2
    rw [hx] at c7
    have t0 : cT st (nb P m) 0 x.toInt.toNat = st 2132 (nb P m + x.toInt.toNat) := rfl
    have t1 : cT st (nb P m) 1 x.toInt.toNat = st 2133 (nb P m + x.toInt.toNat) := rfl
    have t2 : cT st (nb P m) 2 x.toInt.toNat = st 2134 (nb P m + x.toInt.toNat) := rfl
    rw [← hxa] at t0 t1 t2
    have wq := c4.2.2.1
    -- a state comes for the first time
    have kN : st 2134 (st 67 m + x).toNatClampNeg = -1 → (0 ≤ (st 455 0).toInt ∧ (st 2136 (st 67 m + x).toNatClampNeg = 0 → (st 455 0).toInt < 200)) ∧ ctQ P m v p0 L0 R0 H0 x L R H st 1 (awS (am_up (am_up (am_up st 2132 (st 67 m + x).toNatClampNeg L) 2133 (st 67 m + x).toNatClampNeg R) 2134 (st 67 m + x).toNatClampNeg H) (st 67 m + x).toNatClampNeg x) := by
      intro e
      rw [← t2] at e
      have e1 : cT (am_up (am_up (am_up st 2132 (st 67 m + x).toNatClampNeg L) 2133 (st 67 m + x).toNatClampNeg R) 2134 (st 67 m + x).toNatClampNeg H) (nb P m) = cm (cT st (nb P m)) x.toInt.toNat L R H := by
        funext j q
        unfold cm
        rw [hxa]
        by_cases eq : q = x.toInt.toNat
        · rw [if_pos eq, if_pos e, eq]
          unfold cT
          simp only [am_up_bank (show ¬ (2132 : Nat) = 2134 by decide), am_up_bank (show ¬ (2132 : Nat) = 2133 by decide), am_up_bank (show ¬ (2133 : Nat) = 2134 by decide), am_up_eq]
        · rw [if_neg eq]
          unfold cT
          rw [am_up_ne (by omega), am_up_ne (by omega), am_up_ne (by omega), am_up_ne (by omega), am_up_ne (by omega), am_up_ne (by omega), am_up_ne (by omega), am_up_ne (by omega), am_up_ne (by omega)]
      have key := CI_ch (x := x) c2 c3 c4 hp hx c5 hbg c7 (Or.inl e) (Or.inl e) e1 (by rw [am_up_bank (by decide), am_up_bank (by decide), am_up_bank (by decide)]) (by rw [am_up_bank (by decide), am_up_bank (by decide), am_up_bank (by decide)]) (by rw [am_up_bank (by decide), am_up_bank (by decide), am_up_bank (by decide)])
      rw [← hxa] at key
      refine ⟨⟨wq.1, key.2⟩, awS_md (md_up (md_up (md_up md_refl rfl) rfl) rfl), oS_aw (oS_up (oS_up (oS_up oS_refl (Or.inl (by omega))) (Or.inl (by omega))) (Or.inl (by omega))), Or.inl ⟨rfl, key.1, ?_, ?_⟩⟩
      · rw [cT_aw, e1]
        exact cm_le
      · rw [cT_aw, e1, hx]
        exact cm_Ar hp hH (Or.inl e)
    -- it comes again, with less known
    have kL : ¬ st 2134 (st 67 m + x).toNatClampNeg = -1 → st 2134 (st 67 m + x).toNatClampNeg = H → st 2133 (st 67 m + x).toNatClampNeg = R → ¬ ty_com (st 2132 (st 67 m + x).toNatClampNeg) L = st 2132 (st 67 m + x).toNatClampNeg → (0 ≤ (st 455 0).toInt ∧ (st 2136 (st 67 m + x).toNatClampNeg = 0 → (st 455 0).toInt < 200)) ∧ ctQ P m v p0 L0 R0 H0 x L R H st 1 (awS (am_up st 2132 (st 67 m + x).toNatClampNeg (ty_com (st 2132 (st 67 m + x).toNatClampNeg) L)) (st 67 m + x).toNatClampNeg x) := by
      intro e eH eR eL
      rw [← t0] at eL
      rw [← t1] at eR
      rw [← t2] at e eH
      have e1 : cT (am_up st 2132 (st 67 m + x).toNatClampNeg (ty_com (st 2132 (st 67 m + x).toNatClampNeg) L)) (nb P m) = cm (cT st (nb P m)) x.toInt.toNat L R H := by
        funext j q
        unfold cm
        rw [← t0, hxa]
        by_cases eq : q = x.toInt.toNat
        · rw [if_pos eq, if_neg e, eq]
          unfold cT
          simp only [am_up_bank (show ¬ (2133 : Nat) = 2132 by decide), am_up_bank (show ¬ (2134 : Nat) = 2132 by decide), am_up_eq]
          split <;> rfl
        · rw [if_neg eq]
          unfold cT
          rw [am_up_ne (by omega), am_up_ne (by omega), am_up_ne (by omega)]
      have key := CI_ch (x := x) c2 c3 c4 hp hx c5 hbg c7 (Or.inr ⟨eH, eR⟩) (Or.inr eL) e1 (by rw [am_up_bank (by decide)]) (by rw [am_up_bank (by decide)]) (by rw [am_up_bank (by decide)])
      rw [← hxa] at key
      refine ⟨⟨wq.1, key.2⟩, awS_md (md_up md_refl rfl), oS_aw (oS_up oS_refl (Or.inl (by omega))), Or.inl ⟨rfl, key.1, ?_, ?_⟩⟩
      · rw [cT_aw, e1]
        exact cm_le
      · rw [cT_aw, e1, hx]
        exact cm_Ar hp hH (Or.inr ⟨eH, eR⟩)
    -- it comes again as it was
    have kS : ¬ st 2134 (st 67 m + x).toNatClampNeg = -1 → st 2134 (st 67 m + x).toNatClampNeg = H → st 2133 (st 67 m + x).toNatClampNeg = R → ty_com (st 2132 (st 67 m + x).toNatClampNeg) L = st 2132 (st 67 m + x).toNatClampNeg → ctQ P m v p0 L0 R0 H0 x L R H st 1 st := by
      intro e eH eR eL
      rw [← t0] at eL
      rw [← t1] at eR
      rw [← t2] at e eH
      refine ⟨md_refl, oS_refl, Or.inl ⟨rfl, c4, le_refl', ?_⟩⟩
      have := @cm_Ar (nl P m) (cT st (nb P m)) x.toInt.toNat L R H hp hH (Or.inr ⟨eH, eR⟩)
      rw [cm_same e eL] at this
      rw [hx]
      exact this
    -- it does not fit
    have kB : ¬ st 2134 (st 67 m + x).toNatClampNeg = -1 → ¬ (st 2134 (st 67 m + x).toNatClampNeg = H ∧ st 2133 (st 67 m + x).toNatClampNeg = R) → ctQ P m v p0 L0 R0 H0 x L R H st 0 st := by
      intro e eB
      refine ⟨md_refl, oS_refl, Or.inr ⟨rfl, fun U hU => ?_⟩⟩
      rcases cm_bad (c4.2.1 U hU) (c7 U hU) with q | q
      · rw [t2] at q
        exact e q
      · rw [t1, t2] at q
        exact eB q
    clear c4 c5 c6 c7 wq hH t0 t1 t2 hbg
    have m8 := v8
    refine r_il2 (q := 1) d_FL_comeTo_0 rfl ?_
    refine r_zlt (tgt := 12) (q := 4) d_FL_comeTo_1 rfl rfl (fun e1 => ?_) (fun e1 => ?_)
    · skip
      refine r_ic (v := 0) (q := 13) d_FL_comeTo_12 rfl rfl ?_
      refine r_rz d_FL_comeTo_13 (by first | exact hxb | exact (kN e30).1.1 | exact (kN e30).1.2 | exact (kL e30 e76 e88 (fun q => e115 q)).1.1 | exact (kL e30 e76 e88 e115).1.2 | assumption | (refine pc_of hP ?_; (repeat (first | assumption | exact md_refl | refine md_up ?_ rfl | refine md_fill ?_ rfl | (unfold ik; refine md_up ?_ rfl))); done) | (refine pm_of hP ?_; (repeat (first | assumption | exact md_refl | refine md_up ?_ rfl | refine md_fill ?_ rfl | (unfold ik; refine md_up ?_ rfl))); done) | omega | decide | ((try simp +decide only [b01, b10, b11, am_up, ik, and_true, and_false, true_and, false_and, if_true, if_false, nn_eq] at *) <;> (try simp only [sw_or, sw_all, or_false, and_true, i32_lt, i32_le, i32_eq, i32_addw, i32_subw, i32_mulw, Int32.reduceToInt] at *) <;> omega) | (apply_assumption; done)) ?_
      first | exact (kN e30).2 | exact kB e30 (fun q => e76 q.1) | exact kB e30 (fun q => e88 q.2) | exact kS e30 e76 e88 e115 | exact (kL e30 e76 e88 e115).2 | (exfalso; clear kN kL kS kB c1 c2; ((try simp +decide only [b01, b10, b11, am_up, ik, and_true, and_false, true_and, false_and, if_true, if_false, nn_eq] at *) <;> (try simp only [sw_or, sw_all, or_false, and_true, i32_lt, i32_le, i32_eq, i32_addw, i32_subw, i32_mulw, Int32.reduceToInt] at *) <;> omega))
    · skip
      refine r_il2 (q := 5) d_FL_comeTo_4 rfl ?_
      refine r_al1 (q := 6) d_FL_comeTo_5 rfl ?_
      refine gt_ME_length (q := 9) d_FL_comeTo_6 rfl (by first | exact hxb | exact (kN e30).1.1 | exact (kN e30).1.2 | exact (kL e30 e76 e88 (fun q => e115 q)).1.1 | exact (kL e30 e76 e88 e115).1.2 | assumption | (refine pc_of hP ?_; (repeat (first | assumption | exact md_refl | refine md_up ?_ rfl | refine md_fill ?_ rfl | (unfold ik; refine md_up ?_ rfl))); done) | (refine pm_of hP ?_; (repeat (first | assumption | exact md_refl | refine md_up ?_ rfl | refine md_fill ?_ rfl | (unfold ik; refine md_up ?_ rfl))); done) | omega | decide | ((try simp +decide only [b01, b10, b11, am_up, ik, and_true, and_false, true_and, false_and, if_true, if_false, nn_eq] at *) <;> (try simp only [sw_or, sw_all, or_false, and_true, i32_lt, i32_le, i32_eq, i32_addw, i32_subw, i32_mulw, Int32.reduceToInt] at *) <;> omega) | (apply_assumption; done)) rfl ?_
      refine r_clt (tgt := 14) (q := 12) d_FL_comeTo_9 rfl rfl (fun e9 => ?_) (fun e9 => ?_)
      · skip
        refine r_al1 (q := 15) d_FL_comeTo_14 rfl ?_
        refine gt_ME_first (q := 18) d_FL_comeTo_15 rfl (by first | exact hxb | exact (kN e30).1.1 | exact (kN e30).1.2 | exact (kL e30 e76 e88 (fun q => e115 q)).1.1 | exact (kL e30 e76 e88 e115).1.2 | assumption | (refine pc_of hP ?_; (repeat (first | assumption | exact md_refl | refine md_up ?_ rfl | refine md_fill ?_ rfl | (unfold ik; refine md_up ?_ rfl))); done) | (refine pm_of hP ?_; (repeat (first | assumption | exact md_refl | refine md_up ?_ rfl | refine md_fill ?_ rfl | (unfold ik; refine md_up ?_ rfl))); done) | omega | decide | ((try simp +decide only [b01, b10, b11, am_up, ik, and_true, and_false, true_and, false_and, if_true, if_false, nn_eq] at *) <;> (try simp only [sw_or, sw_all, or_false, and_true, i32_lt, i32_le, i32_eq, i32_addw, i32_subw, i32_mulw, Int32.reduceToInt] at *) <;> omega) | (apply_assumption; done)) rfl ?_
        refine r_il2 (q := 19) d_FL_comeTo_18 rfl ?_
        refine r_iadd (q := 20) d_FL_comeTo_19 rfl ?_
        refine r_is6 (q := 22) d_FL_comeTo_20 rfl ?_
        refine r_al0 (q := 23) d_FL_comeTo_22 rfl ?_
        refine gt_FL_foundHeight (q := 26) d_FL_comeTo_23 rfl rfl ?_
        refine r_il6 (q := 28) d_FL_comeTo_26 rfl ?_
        refine ld_134 (q := 29) d_FL_comeTo_28 ?_ rfl ?_
        · exact vx
        refine r_ic (v := -1) (q := 30) d_FL_comeTo_29 rfl rfl ?_
        refine r_cne (tgt := 67) (q := 33) d_FL_comeTo_30 rfl rfl (fun e30 => ?_) (fun e30 => ?_)
        · skip
          refine r_al0 (q := 68) d_FL_comeTo_67 rfl ?_
          refine gt_FL_foundHeight (q := 71) d_FL_comeTo_68 rfl rfl ?_
          refine r_il6 (q := 73) d_FL_comeTo_71 rfl ?_
          refine ld_134 (q := 74) d_FL_comeTo_73 ?_ rfl ?_
          · exact vx
          refine r_il5 (q := 76) d_FL_comeTo_74 rfl ?_
          refine r_cne (tgt := 91) (q := 79) d_FL_comeTo_76 rfl rfl (fun e76 => ?_) (fun e76 => ?_)
          · skip
            refine r_ic (v := 0) (q := 92) d_FL_comeTo_91 rfl rfl ?_
            refine r_rz d_FL_comeTo_92 (by first | exact hxb | exact (kN e30).1.1 | exact (kN e30).1.2 | exact (kL e30 e76 e88 (fun q => e115 q)).1.1 | exact (kL e30 e76 e88 e115).1.2 | assumption | (refine pc_of hP ?_; (repeat (first | assumption | exact md_refl | refine md_up ?_ rfl | refine md_fill ?_ rfl | (unfold ik; refine md_up ?_ rfl))); done) | (refine pm_of hP ?_; (repeat (first | assumption | exact md_refl | refine md_up ?_ rfl | refine md_fill ?_ rfl | (unfold ik; refine md_up ?_ rfl))); done) | omega | decide | ((try simp +decide only [b01, b10, b11, am_up, ik, and_true, and_false, true_and, false_and, if_true, if_false, nn_eq] at *) <;> (try simp only [sw_or, sw_all, or_false, and_true, i32_lt, i32_le, i32_eq, i32_addw, i32_subw, i32_mulw, Int32.reduceToInt] at *) <;> omega) | (apply_assumption; done)) ?_
            first | exact (kN e30).2 | exact kB e30 (fun q => e76 q.1) | exact kB e30 (fun q => e88 q.2) | exact kS e30 e76 e88 e115 | exact (kL e30 e76 e88 e115).2 | (exfalso; clear kN kL kS kB c1 c2; ((try simp +decide only [b01, b10, b11, am_up, ik, and_true, and_false, true_and, false_and, if_true, if_false, nn_eq] at *) <;> (try simp only [sw_or, sw_all, or_false, and_true, i32_lt, i32_le, i32_eq, i32_addw, i32_subw, i32_mulw, Int32.reduceToInt] at *) <;> omega))
          · skip
            refine r_al0 (q := 80) d_FL_comeTo_79 rfl ?_
            refine gt_FL_foundStack (q := 83) d_FL_comeTo_80 rfl rfl ?_
            refine r_il6 (q := 85) d_FL_comeTo_83 rfl ?_
            refine ld_133 (q := 86) d_FL_comeTo_85 ?_ rfl ?_
            · exact vx
            refine r_il4 (q := 88) d_FL_comeTo_86 rfl ?_
            refine r_ceq (tgt := 93) (q := 91) d_FL_comeTo_88 rfl rfl (fun e88 => ?_) (fun e88 => ?_)
            · skip
              refine r_al0 (q := 94) d_FL_comeTo_93 rfl ?_
              refine gt_FL_foundLocals (q := 97) d_FL_comeTo_94 rfl rfl ?_
              refine r_il6 (q := 99) d_FL_comeTo_97 rfl ?_
              refine ld_132 (q := 100) d_FL_comeTo_99 ?_ rfl ?_
              · exact vx
              refine r_il3 (q := 101) d_FL_comeTo_100 rfl ?_
              refine r_si2 mo_TY_common d_FL_comeTo_101 rfl rfl (q := 104) rfl ?_
              refine sp_TY_common ?_
              refine r_is7 (q := 106) d_FL_comeTo_104 rfl ?_
              refine r_il7 (q := 108) d_FL_comeTo_106 rfl ?_
              refine r_al0 (q := 109) d_FL_comeTo_108 rfl ?_
              refine gt_FL_foundLocals (q := 112) d_FL_comeTo_109 rfl rfl ?_
              refine r_il6 (q := 114) d_FL_comeTo_112 rfl ?_
              refine ld_132 (q := 115) d_FL_comeTo_114 ?_ rfl ?_
              · exact vx
              refine r_ceq (tgt := 133) (q := 118) d_FL_comeTo_115 rfl rfl (fun e115 => ?_) (fun e115 => ?_)
              · skip
                refine r_ic (v := 1) (q := 134) d_FL_comeTo_133 rfl rfl ?_
                refine r_rz d_FL_comeTo_134 (by first | exact hxb | exact (kN e30).1.1 | exact (kN e30).1.2 | exact (kL e30 e76 e88 (fun q => e115 q)).1.1 | exact (kL e30 e76 e88 e115).1.2 | assumption | (refine pc_of hP ?_; (repeat (first | assumption | exact md_refl | refine md_up ?_ rfl | refine md_fill ?_ rfl | (unfold ik; refine md_up ?_ rfl))); done) | (refine pm_of hP ?_; (repeat (first | assumption | exact md_refl | refine md_up ?_ rfl | refine md_fill ?_ rfl | (unfold ik; refine md_up ?_ rfl))); done) | omega | decide | ((try simp +decide only [b01, b10, b11, am_up, ik, and_true, and_false, true_and, false_and, if_true, if_false, nn_eq] at *) <;> (try simp only [sw_or, sw_all, or_false, and_true, i32_lt, i32_le, i32_eq, i32_addw, i32_subw, i32_mulw, Int32.reduceToInt] at *) <;> omega) | (apply_assumption; done)) ?_
                first | exact (kN e30).2 | exact kB e30 (fun q => e76 q.1) | exact kB e30 (fun q => e88 q.2) | exact kS e30 e76 e88 e115 | exact (kL e30 e76 e88 e115).2 | (exfalso; clear kN kL kS kB c1 c2; ((try simp +decide only [b01, b10, b11, am_up, ik, and_true, and_false, true_and, false_and, if_true, if_false, nn_eq] at *) <;> (try simp only [sw_or, sw_all, or_false, and_true, i32_lt, i32_le, i32_eq, i32_addw, i32_subw, i32_mulw, Int32.reduceToInt] at *) <;> omega))
              · skip
                refine r_al0 (q := 119) d_FL_comeTo_118 rfl ?_
                refine gt_FL_foundLocals (q := 122) d_FL_comeTo_119 rfl rfl ?_
                refine r_il6 (q := 124) d_FL_comeTo_122 rfl ?_
                refine r_il7 (q := 126) d_FL_comeTo_124 rfl ?_
                refine sv_132 (q := 127) d_FL_comeTo_126 ?_ rfl ?_
                · exact vx
                refine r_al0 (q := 128) d_FL_comeTo_127 rfl ?_
                refine r_al1 (q := 129) d_FL_comeTo_128 rfl ?_
                refine r_il2 (q := 130) d_FL_comeTo_129 rfl ?_
                refine r_vv2 mo_FL_awaitVisit d_FL_comeTo_130 rfl rfl rfl (q := 133) rfl ?_
                refine sp_FL_awaitVisit (by first | exact hxb | exact (kN e30).1.1 | exact (kN e30).1.2 | exact (kL e30 e76 e88 (fun q => e115 q)).1.1 | exact (kL e30 e76 e88 e115).1.2 | assumption | (refine pc_of hP ?_; (repeat (first | assumption | exact md_refl | refine md_up ?_ rfl | refine md_fill ?_ rfl | (unfold ik; refine md_up ?_ rfl))); done) | (refine pm_of hP ?_; (repeat (first | assumption | exact md_refl | refine md_up ?_ rfl | refine md_fill ?_ rfl | (unfold ik; refine md_up ?_ rfl))); done) | omega | decide | ((try simp +decide only [b01, b10, b11, am_up, ik, and_true, and_false, true_and, false_and, if_true, if_false, nn_eq] at *) <;> (try simp only [sw_or, sw_all, or_false, and_true, i32_lt, i32_le, i32_eq, i32_addw, i32_subw, i32_mulw, Int32.reduceToInt] at *) <;> omega) | (apply_assumption; done)) (by first | exact hxb | exact (kN e30).1.1 | exact (kN e30).1.2 | exact (kL e30 e76 e88 (fun q => e115 q)).1.1 | exact (kL e30 e76 e88 e115).1.2 | assumption | (refine pc_of hP ?_; (repeat (first | assumption | exact md_refl | refine md_up ?_ rfl | refine md_fill ?_ rfl | (unfold ik; refine md_up ?_ rfl))); done) | (refine pm_of hP ?_; (repeat (first | assumption | exact md_refl | refine md_up ?_ rfl | refine md_fill ?_ rfl | (unfold ik; refine md_up ?_ rfl))); done) | omega | decide | ((try simp +decide only [b01, b10, b11, am_up, ik, and_true, and_false, true_and, false_and, if_true, if_false, nn_eq] at *) <;> (try simp only [sw_or, sw_all, or_false, and_true, i32_lt, i32_le, i32_eq, i32_addw, i32_subw, i32_mulw, Int32.reduceToInt] at *) <;> omega) | (apply_assumption; done)) (by first | exact hxb | exact (kN e30).1.1 | exact (kN e30).1.2 | exact (kL e30 e76 e88 (fun q => e115 q)).1.1 | exact (kL e30 e76 e88 e115).1.2 | assumption | (refine pc_of hP ?_; (repeat (first | assumption | exact md_refl | refine md_up ?_ rfl | refine md_fill ?_ rfl | (unfold ik; refine md_up ?_ rfl))); done) | (refine pm_of hP ?_; (repeat (first | assumption | exact md_refl | refine md_up ?_ rfl | refine md_fill ?_ rfl | (unfold ik; refine md_up ?_ rfl))); done) | omega | decide | ((try simp +decide only [b01, b10, b11, am_up, ik, and_true, and_false, true_and, false_and, if_true, if_false, nn_eq] at *) <;> (try simp only [sw_or, sw_all, or_false, and_true, i32_lt, i32_le, i32_eq, i32_addw, i32_subw, i32_mulw, Int32.reduceToInt] at *) <;> omega) | (apply_assumption; done)) (by first | exact hxb | exact (kN e30).1.1 | exact (kN e30).1.2 | exact (kL e30 e76 e88 (fun q => e115 q)).1.1 | exact (kL e30 e76 e88 e115).1.2 | assumption | (refine pc_of hP ?_; (repeat (first | assumption | exact md_refl | refine md_up ?_ rfl | refine md_fill ?_ rfl | (unfold ik; refine md_up ?_ rfl))); done) | (refine pm_of hP ?_; (repeat (first | assumption | exact md_refl | refine md_up ?_ rfl | refine md_fill ?_ rfl | (unfold ik; refine md_up ?_ rfl))); done) | omega | decide | ((try simp +decide only [b01, b10, b11, am_up, ik, and_true, and_false, true_and, false_and, if_true, if_false, nn_eq] at *) <;> (try simp only [sw_or, sw_all, or_false, and_true, i32_lt, i32_le, i32_eq, i32_addw, i32_subw, i32_mulw, Int32.reduceToInt] at *) <;> omega) | (apply_assumption; done)) ?_
                refine r_ic (v := 1) (q := 134) d_FL_comeTo_133 rfl rfl ?_
                refine r_rz d_FL_comeTo_134 (by first | exact hxb | exact (kN e30).1.1 | exact (kN e30).1.2 | exact (kL e30 e76 e88 (fun q => e115 q)).1.1 | exact (kL e30 e76 e88 e115).1.2 | assumption | (refine pc_of hP ?_; (repeat (first | assumption | exact md_refl | refine md_up ?_ rfl | refine md_fill ?_ rfl | (unfold ik; refine md_up ?_ rfl))); done) | (refine pm_of hP ?_; (repeat (first | assumption | exact md_refl | refine md_up ?_ rfl | refine md_fill ?_ rfl | (unfold ik; refine md_up ?_ rfl))); done) | omega | decide | ((try simp +decide only [b01, b10, b11, am_up, ik, and_true, and_false, true_and, false_and, if_true, if_false, nn_eq] at *) <;> (try simp only [sw_or, sw_all, or_false, and_true, i32_lt, i32_le, i32_eq, i32_addw, i32_subw, i32_mulw, Int32.reduceToInt] at *) <;> omega) | (apply_assumption; done)) ?_
                first | exact (kN e30).2 | exact kB e30 (fun q => e76 q.1) | exact kB e30 (fun q => e88 q.2) | exact kS e30 e76 e88 e115 | exact (kL e30 e76 e88 e115).2 | (exfalso; clear kN kL kS kB c1 c2; ((try simp +decide only [b01, b10, b11, am_up, ik, and_true, and_false, true_and, false_and, if_true, if_false, nn_eq] at *) <;> (try simp only [sw_or, sw_all, or_false, and_true, i32_lt, i32_le, i32_eq, i32_addw, i32_subw, i32_mulw, Int32.reduceToInt] at *) <;> omega))
            · skip
              refine r_ic (v := 0) (q := 92) d_FL_comeTo_91 rfl rfl ?_
              refine r_rz d_FL_comeTo_92 (by first | exact hxb | exact (kN e30).1.1 | exact (kN e30).1.2 | exact (kL e30 e76 e88 (fun q => e115 q)).1.1 | exact (kL e30 e76 e88 e115).1.2 | assumption | (refine pc_of hP ?_; (repeat (first | assumption | exact md_refl | refine md_up ?_ rfl | refine md_fill ?_ rfl | (unfold ik; refine md_up ?_ rfl))); done) | (refine pm_of hP ?_; (repeat (first | assumption | exact md_refl | refine md_up ?_ rfl | refine md_fill ?_ rfl | (unfold ik; refine md_up ?_ rfl))); done) | omega | decide | ((try simp +decide only [b01, b10, b11, am_up, ik, and_true, and_false, true_and, false_and, if_true, if_false, nn_eq] at *) <;> (try simp only [sw_or, sw_all, or_false, and_true, i32_lt, i32_le, i32_eq, i32_addw, i32_subw, i32_mulw, Int32.reduceToInt] at *) <;> omega) | (apply_assumption; done)) ?_
              first | exact (kN e30).2 | exact kB e30 (fun q => e76 q.1) | exact kB e30 (fun q => e88 q.2) | exact kS e30 e76 e88 e115 | exact (kL e30 e76 e88 e115).2 | (exfalso; clear kN kL kS kB c1 c2; ((try simp +decide only [b01, b10, b11, am_up, ik, and_true, and_false, true_and, false_and, if_true, if_false, nn_eq] at *) <;> (try simp only [sw_or, sw_all, or_false, and_true, i32_lt, i32_le, i32_eq, i32_addw, i32_subw, i32_mulw, Int32.reduceToInt] at *) <;> omega))
        · skip
          refine r_al0 (q := 34) d_FL_comeTo_33 rfl ?_
          refine gt_FL_foundLocals (q := 37) d_FL_comeTo_34 rfl rfl ?_
          refine r_il6 (q := 39) d_FL_comeTo_37 rfl ?_
          refine r_il3 (q := 40) d_FL_comeTo_39 rfl ?_
          refine sv_132 (q := 41) d_FL_comeTo_40 ?_ rfl ?_
          · exact vx
          refine r_al0 (q := 42) d_FL_comeTo_41 rfl ?_
          refine gt_FL_foundStack (q := 45) d_FL_comeTo_42 rfl rfl ?_
          refine r_il6 (q := 47) d_FL_comeTo_45 rfl ?_
          refine r_il4 (q := 49) d_FL_comeTo_47 rfl ?_
          refine sv_133 (q := 50) d_FL_comeTo_49 ?_ rfl ?_
          · exact vx
          refine r_al0 (q := 51) d_FL_comeTo_50 rfl ?_
          refine gt_FL_foundHeight (q := 54) d_FL_comeTo_51 rfl rfl ?_
          refine r_il6 (q := 56) d_FL_comeTo_54 rfl ?_
          refine r_il5 (q := 58) d_FL_comeTo_56 rfl ?_
          refine sv_134 (q := 59) d_FL_comeTo_58 ?_ rfl ?_
          · exact vx
          refine r_al0 (q := 60) d_FL_comeTo_59 rfl ?_
          refine r_al1 (q := 61) d_FL_comeTo_60 rfl ?_
          refine r_il2 (q := 62) d_FL_comeTo_61 rfl ?_
          refine r_vv2 mo_FL_awaitVisit d_FL_comeTo_62 rfl rfl rfl (q := 65) rfl ?_
          refine sp_FL_awaitVisit (by first | exact hxb | exact (kN e30).1.1 | exact (kN e30).1.2 | exact (kL e30 e76 e88 (fun q => e115 q)).1.1 | exact (kL e30 e76 e88 e115).1.2 | assumption | (refine pc_of hP ?_; (repeat (first | assumption | exact md_refl | refine md_up ?_ rfl | refine md_fill ?_ rfl | (unfold ik; refine md_up ?_ rfl))); done) | (refine pm_of hP ?_; (repeat (first | assumption | exact md_refl | refine md_up ?_ rfl | refine md_fill ?_ rfl | (unfold ik; refine md_up ?_ rfl))); done) | omega | decide | ((try simp +decide only [b01, b10, b11, am_up, ik, and_true, and_false, true_and, false_and, if_true, if_false, nn_eq] at *) <;> (try simp only [sw_or, sw_all, or_false, and_true, i32_lt, i32_le, i32_eq, i32_addw, i32_subw, i32_mulw, Int32.reduceToInt] at *) <;> omega) | (apply_assumption; done)) (by first | exact hxb | exact (kN e30).1.1 | exact (kN e30).1.2 | exact (kL e30 e76 e88 (fun q => e115 q)).1.1 | exact (kL e30 e76 e88 e115).1.2 | assumption | (refine pc_of hP ?_; (repeat (first | assumption | exact md_refl | refine md_up ?_ rfl | refine md_fill ?_ rfl | (unfold ik; refine md_up ?_ rfl))); done) | (refine pm_of hP ?_; (repeat (first | assumption | exact md_refl | refine md_up ?_ rfl | refine md_fill ?_ rfl | (unfold ik; refine md_up ?_ rfl))); done) | omega | decide | ((try simp +decide only [b01, b10, b11, am_up, ik, and_true, and_false, true_and, false_and, if_true, if_false, nn_eq] at *) <;> (try simp only [sw_or, sw_all, or_false, and_true, i32_lt, i32_le, i32_eq, i32_addw, i32_subw, i32_mulw, Int32.reduceToInt] at *) <;> omega) | (apply_assumption; done)) (by first | exact hxb | exact (kN e30).1.1 | exact (kN e30).1.2 | exact (kL e30 e76 e88 (fun q => e115 q)).1.1 | exact (kL e30 e76 e88 e115).1.2 | assumption | (refine pc_of hP ?_; (repeat (first | assumption | exact md_refl | refine md_up ?_ rfl | refine md_fill ?_ rfl | (unfold ik; refine md_up ?_ rfl))); done) | (refine pm_of hP ?_; (repeat (first | assumption | exact md_refl | refine md_up ?_ rfl | refine md_fill ?_ rfl | (unfold ik; refine md_up ?_ rfl))); done) | omega | decide | ((try simp +decide only [b01, b10, b11, am_up, ik, and_true, and_false, true_and, false_and, if_true, if_false, nn_eq] at *) <;> (try simp only [sw_or, sw_all, or_false, and_true, i32_lt, i32_le, i32_eq, i32_addw, i32_subw, i32_mulw, Int32.reduceToInt] at *) <;> omega) | (apply_assumption; done)) (by first | exact hxb | exact (kN e30).1.1 | exact (kN e30).1.2 | exact (kL e30 e76 e88 (fun q => e115 q)).1.1 | exact (kL e30 e76 e88 e115).1.2 | assumption | (refine pc_of hP ?_; (repeat (first | assumption | exact md_refl | refine md_up ?_ rfl | refine md_fill ?_ rfl | (unfold ik; refine md_up ?_ rfl))); done) | (refine pm_of hP ?_; (repeat (first | assumption | exact md_refl | refine md_up ?_ rfl | refine md_fill ?_ rfl | (unfold ik; refine md_up ?_ rfl))); done) | omega | decide | ((try simp +decide only [b01, b10, b11, am_up, ik, and_true, and_false, true_and, false_and, if_true, if_false, nn_eq] at *) <;> (try simp only [sw_or, sw_all, or_false, and_true, i32_lt, i32_le, i32_eq, i32_addw, i32_subw, i32_mulw, Int32.reduceToInt] at *) <;> omega) | (apply_assumption; done)) ?_
          refine r_ic (v := 1) (q := 66) d_FL_comeTo_65 rfl rfl ?_
          refine r_rz d_FL_comeTo_66 (by first | exact hxb | exact (kN e30).1.1 | exact (kN e30).1.2 | exact (kL e30 e76 e88 (fun q => e115 q)).1.1 | exact (kL e30 e76 e88 e115).1.2 | assumption | (refine pc_of hP ?_; (repeat (first | assumption | exact md_refl | refine md_up ?_ rfl | refine md_fill ?_ rfl | (unfold ik; refine md_up ?_ rfl))); done) | (refine pm_of hP ?_; (repeat (first | assumption | exact md_refl | refine md_up ?_ rfl | refine md_fill ?_ rfl | (unfold ik; refine md_up ?_ rfl))); done) | omega | decide | ((try simp +decide only [b01, b10, b11, am_up, ik, and_true, and_false, true_and, false_and, if_true, if_false, nn_eq] at *) <;> (try simp only [sw_or, sw_all, or_false, and_true, i32_lt, i32_le, i32_eq, i32_addw, i32_subw, i32_mulw, Int32.reduceToInt] at *) <;> omega) | (apply_assumption; done)) ?_
          first | exact (kN e30).2 | exact kB e30 (fun q => e76 q.1) | exact kB e30 (fun q => e88 q.2) | exact kS e30 e76 e88 e115 | exact (kL e30 e76 e88 e115).2 | (exfalso; clear kN kL kS kB c1 c2; ((try simp +decide only [b01, b10, b11, am_up, ik, and_true, and_false, true_and, false_and, if_true, if_false, nn_eq] at *) <;> (try simp only [sw_or, sw_all, or_false, and_true, i32_lt, i32_le, i32_eq, i32_addw, i32_subw, i32_mulw, Int32.reduceToInt] at *) <;> omega))
      · skip
        refine r_ic (v := 0) (q := 13) d_FL_comeTo_12 rfl rfl ?_
        refine r_rz d_FL_comeTo_13 (by first | exact hxb | exact (kN e30).1.1 | exact (kN e30).1.2 | exact (kL e30 e76 e88 (fun q => e115 q)).1.1 | exact (kL e30 e76 e88 e115).1.2 | assumption | (refine pc_of hP ?_; (repeat (first | assumption | exact md_refl | refine md_up ?_ rfl | refine md_fill ?_ rfl | (unfold ik; refine md_up ?_ rfl))); done) | (refine pm_of hP ?_; (repeat (first | assumption | exact md_refl | refine md_up ?_ rfl | refine md_fill ?_ rfl | (unfold ik; refine md_up ?_ rfl))); done) | omega | decide | ((try simp +decide only [b01, b10, b11, am_up, ik, and_true, and_false, true_and, false_and, if_true, if_false, nn_eq] at *) <;> (try simp only [sw_or, sw_all, or_false, and_true, i32_lt, i32_le, i32_eq, i32_addw, i32_subw, i32_mulw, Int32.reduceToInt] at *) <;> omega) | (apply_assumption; done)) ?_
        first | exact (kN e30).2 | exact kB e30 (fun q => e76 q.1) | exact kB e30 (fun q => e88 q.2) | exact kS e30 e76 e88 e115 | exact (kL e30 e76 e88 e115).2 | (exfalso; clear kN kL kS kB c1 c2; ((try simp +decide only [b01, b10, b11, am_up, ik, and_true, and_false, true_and, false_and, if_true, if_false, nn_eq] at *) <;> (try simp only [sw_or, sw_all, or_false, and_true, i32_lt, i32_le, i32_eq, i32_addw, i32_subw, i32_mulw, Int32.reduceToInt] at *) <;> omega))
  · have kB : ctQ P m v p0 L0 R0 H0 x L R H st 0 st := ⟨md_refl, oS_refl, Or.inr ⟨rfl, fun U hU => hr ⟨(c7 U hU).1, (c7 U hU).2.1⟩⟩⟩
    clear c4 c5 c6 c7 hH
    refine r_il2 (q := 1) d_FL_comeTo_0 rfl ?_
    refine r_zlt (tgt := 12) (q := 4) d_FL_comeTo_1 rfl rfl (fun e1 => ?_) (fun e1 => ?_)
    · skip
      refine r_ic (v := 0) (q := 13) d_FL_comeTo_12 rfl rfl ?_
      refine r_rz d_FL_comeTo_13 (by first | assumption | (refine pc_of hP ?_; (repeat (first | assumption | exact md_refl | refine md_up ?_ rfl | refine md_fill ?_ rfl | (unfold ik; refine md_up ?_ rfl))); done) | (refine pm_of hP ?_; (repeat (first | assumption | exact md_refl | refine md_up ?_ rfl | refine md_fill ?_ rfl | (unfold ik; refine md_up ?_ rfl))); done) | omega | decide | ((try simp +decide only [b01, b10, b11, am_up, ik, and_true, and_false, true_and, false_and, if_true, if_false, nn_eq] at *) <;> (try simp only [sw_or, sw_all, or_false, and_true, i32_lt, i32_le, i32_eq, i32_addw, i32_subw, i32_mulw, Int32.reduceToInt] at *) <;> omega) | (apply_assumption; done)) ?_
      exact kB
    · skip
      refine r_il2 (q := 5) d_FL_comeTo_4 rfl ?_
      refine r_al1 (q := 6) d_FL_comeTo_5 rfl ?_
      refine gt_ME_length (q := 9) d_FL_comeTo_6 rfl (by first | assumption | (refine pc_of hP ?_; (repeat (first | assumption | exact md_refl | refine md_up ?_ rfl | refine md_fill ?_ rfl | (unfold ik; refine md_up ?_ rfl))); done) | (refine pm_of hP ?_; (repeat (first | assumption | exact md_refl | refine md_up ?_ rfl | refine md_fill ?_ rfl | (unfold ik; refine md_up ?_ rfl))); done) | omega | decide | ((try simp +decide only [b01, b10, b11, am_up, ik, and_true, and_false, true_and, false_and, if_true, if_false, nn_eq] at *) <;> (try simp only [sw_or, sw_all, or_false, and_true, i32_lt, i32_le, i32_eq, i32_addw, i32_subw, i32_mulw, Int32.reduceToInt] at *) <;> omega) | (apply_assumption; done)) rfl ?_
      refine r_clt (tgt := 14) (q := 12) d_FL_comeTo_9 rfl rfl (fun e9 => ?_) (fun e9 => ?_)
      · skip
        exfalso; clear kB c1 c2; ((try simp +decide only [b01, b10, b11, am_up, ik, and_true, and_false, true_and, false_and, if_true, if_false, nn_eq] at *) <;> (try simp only [sw_or, sw_all, or_false, and_true, i32_lt, i32_le, i32_eq, i32_addw, i32_subw, i32_mulw, Int32.reduceToInt] at *) <;> omega)
      · skip
        refine r_ic (v := 0) (q := 13) d_FL_comeTo_12 rfl rfl ?_
        refine r_rz d_FL_comeTo_13 (by first | assumption | (refine pc_of hP ?_; (repeat (first | assumption | exact md_refl | refine md_up ?_ rfl | refine md_fill ?_ rfl | (unfold ik; refine md_up ?_ rfl))); done) | (refine pm_of hP ?_; (repeat (first | assumption | exact md_refl | refine md_up ?_ rfl | refine md_fill ?_ rfl | (unfold ik; refine md_up ?_ rfl))); done) | omega | decide | ((try simp +decide only [b01, b10, b11, am_up, ik, and_true, and_false, true_and, false_and, if_true, if_false, nn_eq] at *) <;> (try simp only [sw_or, sw_all, or_false, and_true, i32_lt, i32_le, i32_eq, i32_addw, i32_subw, i32_mulw, Int32.reduceToInt] at *) <;> omega) | (apply_assumption; done)) ?_
        exact kB

/-! written by wip/whole/gen/walk.py out of 96.mhand.txt -/
/-- banks that the reference's flow may write -/
def mL (b : Nat) : Bool := (2155 ≤ b && b ≤ 2158) || (598 ≤ b && b ≤ 600)
theorem md_L {s t : am_S} (h : am_md mL s t) : am_md mV s t := by
  intro b hb
  refine h b ?_
  unfold mV at hb
  unfold mL
  simp only [Bool.or_eq_false_iff, Bool.and_eq_false_iff, decide_eq_false_iff_not, beq_eq_false_iff_ne] at hb ⊢
  omega
theorem md_KL {s t : am_S} (h : am_md mK s t) : am_md mL s t := by
  intro b hb
  refine h b ?_
  unfold mL at hb
  unfold mK
  simp only [Bool.or_eq_false_iff, Bool.and_eq_false_iff, decide_eq_false_iff_not, beq_eq_false_iff_ne] at hb ⊢
  omega
theorem md_NL {s t : am_S} (h : am_md mN s t) : am_md mL s t := by
  intro b hb
  refine h b ?_
  unfold mL at hb
  unfold mN
  simp only [Bool.or_eq_false_iff, Bool.and_eq_false_iff, decide_eq_false_iff_not, beq_eq_false_iff_ne] at hb ⊢
  omega
theorem pm_oL {s t P : am_S} (h : PM s P) (hm : am_md mL s t) : PM t P := pm_of h (md_L hm)
/-- under way in one instruction of the reference: all is well so far and X holds of what is found, or no typing exists -/
def GS (P : am_S) (m : Nat) (hei : Int32) (st0 : am_S) (T0 : am_T) (L R H : Int32) (X : am_T → Prop) (st : am_S) : Prop := am_md mL st0 st ∧ oM (nb P m) (nl P m) st0 st ∧ ((NS st hei (some (L, R, H)) ∧ ∃ T, MI P m st T ∧ le (nl P m) T0 T ∧ X T ∧ CH (nl P m) T0 T (st0 600 0) (st 600 0)) ∨ (NS st hei none ∧ ∀ U, ¬ Typ P m U))
def moX (N : Nat) (X : am_T → Prop) : Prop := ∀ T T', le N T T' → X T → X T'
theorem NS_K {s t : am_S} {hei : Int32} {o : am_ts} (h : NS s hei o) (hm : am_md mK s t) (e : t 599 0 = s 599 0) : NS t hei o := by
  unfold NS at *
  rw [e, hm 598 rfl, hm 2158 rfl]
  exact h
theorem NS_bad {s t : am_S} {hei : Int32} {o : am_ts} (h : NS s hei o) (hm : am_md mK s t) (e : t 599 0 = 0) : NS t hei none := by
  refine ⟨?_, e⟩
  rw [hm 598 rfl]
  exact h.1
theorem sq_MO_come {P : am_S} {x y c hei L R H : Int32} {z : Int} {st0 st : am_S} {T0 : am_T} {X : am_T → Prop} {f : am_S → Prop} (c1 : PM st0 P) (c2 : VP P) (c3 : 0 ≤ y.toInt ∧ y.toNatClampNeg < nM P) (c4 : x.toInt = (nb P y.toNatClampNeg : Int) + z) (c5 : 0 ≤ z ∧ (z < (nl P y.toNatClampNeg : Int) → bg P y.toNatClampNeg z.toNat)) (c6 : P 5 y.toNatClampNeg = hei) (c7 : GS P y.toNatClampNeg hei st0 T0 L R H X st) (c8 : c = 0 ∨ c = 1) (c9 : moX (nl P y.toNatClampNeg) X) (c10 : LZ P y.toNatClampNeg L) (c11 : ∀ U, Typ P y.toNatClampNeg U → (¬ c = 0 → 1 ≤ hei.toInt) ∧ Ar (nl P y.toNatClampNeg) U z L (coR c R) (coR c H)) (h1 : ∀ p : {p : am_S // GS P y.toNatClampNeg hei st0 T0 L R H (fun T => X T ∧ (¬ c = 0 → 1 ≤ hei.toInt) ∧ Ar (nl P y.toNatClampNeg) T z L (coR c R) (coR c H)) p}, f p.1) : wp_MO_come [.inr (.inl 128), .inl y, .inl x, .inl c] st (am_kv f) := by
  obtain ⟨a1, a2, a3⟩ := c7
  rcases a3 with ⟨b1, T, b2, b3, b4, b5⟩ | ⟨b1, b2⟩
  · refine sp_MO_come (P := P) (z := z) (hei := hei) (o := some (L, R, H)) (pm_oL c1 a1) c2 c3 c4 c5 c6 b1 c8 (fun p => h1 ⟨p.1, ?_⟩)
    obtain ⟨p, q1, q2, q3, q4⟩ := p
    refine ⟨md_trans a1 (md_KL q1), oM_trans a2 q2, ?_⟩
    rcases (q4 L R H rfl).2 T b2 c10 c11 with ⟨g1, T', g2, g3, g4, g5, g6⟩ | ⟨g1, g2⟩
    · exact Or.inl ⟨NS_K b1 q1 (g1.trans b1.2.1.symm), T', g2, le_trans' b3 g3, ⟨c9 T T' g3 b4, g4, g5⟩, CH_trans b5 g6⟩
    · exact Or.inr ⟨NS_bad b1 q1 g1, g2⟩
  · refine sp_MO_come (P := P) (z := z) (hei := hei) (o := none) (pm_oL c1 a1) c2 c3 c4 c5 c6 b1 c8 (fun p => h1 ⟨p.1, ?_⟩)
    obtain ⟨p, q1, q2, q3, q4⟩ := p
    exact ⟨md_trans a1 (md_KL q1), oM_trans a2 q2, Or.inr ⟨NS_bad b1 q1 (q3 rfl), b2⟩⟩
theorem GS_w {P : am_S} {m : Nat} {hei L R H : Int32} {st0 st : am_S} {T0 : am_T} {X Y : am_T → Prop} (h : GS P m hei st0 T0 L R H X st) (hXY : ∀ T, X T → Y T) : GS P m hei st0 T0 L R H Y st := by
  obtain ⟨a1, a2, a3⟩ := h
  refine ⟨a1, a2, ?_⟩
  rcases a3 with ⟨b1, T, b2, b3, b4, b5⟩ | b
  · exact Or.inl ⟨b1, T, b2, b3, hXY T b4, b5⟩
  · exact Or.inr b
/-- handlers below j that cover p have the state L -/
def hX (P : am_S) (m p j : Nat) (L : Int32) (T : am_T) : Prop := ∀ k, k < j → cov P (4 * m + k) p → 1 ≤ (P 5 m).toInt ∧ Ar (nl P m) T (P 10 (4 * m + k)).toInt L 1 1
theorem hX_mo {P : am_S} {m p j : Nat} {L : Int32} : moX (nl P m) (hX P m p j L) := fun _ _ h q k hk hc => ⟨(q k hk hc).1, Ar_le (q k hk hc).2 h⟩
theorem moX_and {N : Nat} {X Y : am_T → Prop} (h : moX N X) (h' : moX N Y) : moX N (fun T => X T ∧ Y T) := fun T T' hl q => ⟨h T T' hl q.1, h' T T' hl q.2⟩
theorem lp_MO_th {P st0 : am_S} {y w hei L R H : Int32} {p : Nat} {T0 : am_T} {X : am_T → Prop} {K : am_S → Prop} (hP : PM st0 P) (hV : VP P) (hy : 0 ≤ y.toInt ∧ y.toNatClampNeg < nM P) (hS : SHP P y.toNatClampNeg) (hw : w.toInt = (p : Int)) (hh : P 5 y.toNatClampNeg = hei) (hXm : moX (nl P y.toNatClampNeg) X) (hL : LZ P y.toNatClampNeg L) (hA : ∀ U, Typ P y.toNatClampNeg U → hX P y.toNatClampNeg p (P 7 y.toNatClampNeg).toInt.toNat L U) (hK : ∀ s, GS P y.toNatClampNeg hei st0 T0 L R H (fun T => X T ∧ hX P y.toNatClampNeg p (P 7 y.toNatClampNeg).toInt.toNat L T) s → K s) : ∀ (d j : Nat) (h : Int32) (st : am_S), j + d = (P 7 y.toNatClampNeg).toInt.toNat → h.toInt = 4 * (y.toNatClampNeg : Int) + j → GS P y.toNatClampNeg hei st0 T0 L R H (fun T => X T ∧ hX P y.toNatClampNeg p j L T) st → am_AW c_MO_toHandlers g_MO_toHandlers (fun o' st' => am_ok none o' ∧ am_kv K o' st') 4 [some (.inr (.inl 128)), some (.inl y), some (.inl w), some (.inl h)] [] st := by
  intro d
  induction d with
  | zero =>
    intro j h st k1 k2 k3
    have q := pm_oL hP k3.1
    obtain ⟨v8, -, -, ⟨-, v7, v9⟩, -⟩ := mf q hV hy.2
    have vy : vp_in y 8 := vp_of hy.1 (by rw [nn_eq] at v8; omega)
    have yn : (y.toNatClampNeg : Int) = y.toInt := by rw [nn_eq]; omega
    have hc : (P 7 y.toNatClampNeg).toInt = (st 2149 y.toNatClampNeg).toInt := by rw [q.2.1]
    have e : j = (P 7 y.toNatClampNeg).toInt.toNat := by omega
    rw [e] at k3
    have kQ := hK st k3
    clear hK k3 hA hXm hS hL
    refine r_il3 (q := 5) d_MO_toHandlers_4 rfl ?_
    refine r_ic (v := 4) (q := 6) d_MO_toHandlers_5 rfl rfl ?_
    refine r_il1 (q := 7) d_MO_toHandlers_6 rfl ?_
    refine r_imul (q := 8) d_MO_toHandlers_7 rfl ?_
    refine r_al0 (q := 9) d_MO_toHandlers_8 rfl ?_
    refine gt_MO_handlers (q := 12) d_MO_toHandlers_9 rfl rfl ?_
    refine r_il1 (q := 13) d_MO_toHandlers_12 rfl ?_
    refine ld_149 (q := 14) d_MO_toHandlers_13 ?_ rfl ?_
    · exact vy
    refine r_iadd (q := 15) d_MO_toHandlers_14 rfl ?_
    refine r_cge (tgt := 63) (q := 18) d_MO_toHandlers_15 rfl rfl (fun e15 => ?_) (fun e15 => ?_)
    · skip
      refine r_rv d_MO_toHandlers_63 ?_
      exact kQ
    · skip
      exfalso; clear kQ hP hV q; ((try simp +decide only [b01, b10, b11, am_up, ik, and_true, and_false, true_and, false_and, if_true, if_false, nn_eq] at *) <;> (try simp only [sw_or, sw_all, or_false, and_true, i32_lt, i32_le, i32_eq, i32_addw, i32_subw, i32_mulw, Int32.reduceToInt] at *) <;> omega)
  | succ d ih =>
    intro j h st k1 k2 k3
    have q := pm_oL hP k3.1
    obtain ⟨v8, ⟨v1, v2, v3, v4, v5⟩, -, ⟨-, v7, v9⟩, -⟩ := mf q hV hy.2
    have vy : vp_in y 8 := vp_of hy.1 (by rw [nn_eq] at v8; omega)
    have vy9 : vp_in y 9 := vp_of hy.1 (by rw [nn_eq] at v8; omega)
    have yn : (y.toNatClampNeg : Int) = y.toInt := by rw [nn_eq]; omega
    have hc : (P 7 y.toNatClampNeg).toInt = (st 2149 y.toNatClampNeg).toInt := by rw [q.2.1]
    have hb : (nb P y.toNatClampNeg : Int) = (st 2143 y.toNatClampNeg).toInt := by unfold nb; rw [← q.1.2.1 _ hy.2]; omega
    have hx4 : h.toNatClampNeg = 4 * y.toNatClampNeg + j := by rw [nn_eq]; omega
    have vh : vp_in h 32 := vp_of (by omega) (by omega)
    have h10 : P 10 (4 * y.toNatClampNeg + j) = st 2152 h.toNatClampNeg := by rw [hx4, q.2.2.2.2.1]
    have hcv : cov P (4 * y.toNatClampNeg + j) p ↔ (st 2150 h.toNatClampNeg ≤ w ∧ w < st 2151 h.toNatClampNeg) := by
      unfold cov
      rw [← q.2.2.1, ← q.2.2.2.1, i32_le, i32_lt, hw, hx4]
    have hO := (hS.2.2 j (by omega)).2.2.2.1
    rw [h10] at hO
    have hN : nl P y.toNatClampNeg ≤ 200 := by
      have h3 := hV.2.2 _ hy.2
      have h4 := hV.1
      unfold VM at h3
      unfold nl
      omega
    have kA : ∀ s, GS P y.toNatClampNeg hei st0 T0 L R H (fun T => X T ∧ hX P y.toNatClampNeg p (j + 1) L T) s → am_AW c_MO_toHandlers g_MO_toHandlers (fun o' st' => am_ok none o' ∧ am_kv K o' st') 4 [some (.inr (.inl 128)), some (.inl y), some (.inl w), some (.inl (h + 1))] [] s := fun s hs => ih (j + 1) _ s (by omega) (by rw [i32_addw]; simp only [Int32.reduceToInt]; omega) hs
    have kN : ¬ (st 2150 h.toNatClampNeg ≤ w ∧ w < st 2151 h.toNatClampNeg) → am_AW c_MO_toHandlers g_MO_toHandlers (fun o' st' => am_ok none o' ∧ am_kv K o' st') 4 [some (.inr (.inl 128)), some (.inl y), some (.inl w), some (.inl (h + 1))] [] st := by
      intro hn
      refine kA st (GS_w k3 (fun T hT => ⟨hT.1, fun k hk hc => ?_⟩))
      by_cases e : k = j
      · rw [e] at hc
        exact absurd (hcv.mp hc) hn
      · exact hT.2 k (by omega) hc
    have kC : (st 2150 h.toNatClampNeg ≤ w ∧ w < st 2151 h.toNatClampNeg) → ∀ s, GS P y.toNatClampNeg hei st0 T0 L R H (fun T => (X T ∧ hX P y.toNatClampNeg p j L T) ∧ (¬ (1 : Int32) = 0 → 1 ≤ hei.toInt) ∧ Ar (nl P y.toNatClampNeg) T (st 2152 h.toNatClampNeg).toInt L (coR 1 R) (coR 1 H)) s → am_AW c_MO_toHandlers g_MO_toHandlers (fun o' st' => am_ok none o' ∧ am_kv K o' st') 4 [some (.inr (.inl 128)), some (.inl y), some (.inl w), some (.inl (h + 1))] [] s := by
      intro hn s hs
      refine kA s (GS_w hs (fun T hT => ⟨hT.1.1, fun k hk hc => ?_⟩))
      by_cases e : k = j
      · rw [e, h10, hh]
        exact ⟨hT.2.1 (by decide), hT.2.2⟩
      · exact hT.1.2 k (by omega) hc
    have cA : (st 2150 h.toNatClampNeg ≤ w ∧ w < st 2151 h.toNatClampNeg) → ∀ U, Typ P y.toNatClampNeg U → (¬ (1 : Int32) = 0 → 1 ≤ hei.toInt) ∧ Ar (nl P y.toNatClampNeg) U (st 2152 h.toNatClampNeg).toInt L (coR 1 R) (coR 1 H) := by
      intro hn U hU
      have := hA U hU j (by omega) (hcv.mpr hn)
      rw [h10, hh] at this
      exact ⟨fun _ => this.1, this.2⟩
    have c4 : (st 2143 y.toNatClampNeg + st 2152 h.toNatClampNeg).toInt = (nb P y.toNatClampNeg : Int) + (st 2152 h.toNatClampNeg).toInt := by
      have := hO.1
      have := hO.2.1
      rw [i32_addw]
      omega
    have c5 : 0 ≤ (st 2152 h.toNatClampNeg).toInt ∧ ((st 2152 h.toNatClampNeg).toInt < (nl P y.toNatClampNeg : Int) → bg P y.toNatClampNeg (st 2152 h.toNatClampNeg).toInt.toNat) := ⟨hO.1, fun _ => hO.2.2⟩
    have c9 : moX (nl P y.toNatClampNeg) (fun T => X T ∧ hX P y.toNatClampNeg p j L T) := moX_and hXm hX_mo
    have cov1 : ¬ w < st 2150 h.toNatClampNeg → st 2150 h.toNatClampNeg ≤ w := fun q => by rw [i32_lt] at q; rw [i32_le]; omega
    have cov2 : w < st 2150 h.toNatClampNeg → ¬ st 2150 h.toNatClampNeg ≤ w := fun q => by rw [i32_lt] at q; rw [i32_le]; omega
    clear ih hK hA
    refine r_il3 (q := 5) d_MO_toHandlers_4 rfl ?_
    refine r_ic (v := 4) (q := 6) d_MO_toHandlers_5 rfl rfl ?_
    refine r_il1 (q := 7) d_MO_toHandlers_6 rfl ?_
    refine r_imul (q := 8) d_MO_toHandlers_7 rfl ?_
    refine r_al0 (q := 9) d_MO_toHandlers_8 rfl ?_
    refine gt_MO_handlers (q := 12) d_MO_toHandlers_9 rfl rfl ?_
    refine r_il1 (q := 13) d_MO_toHandlers_12 rfl ?_
    refine ld_149 (q := 14) d_MO_toHandlers_13 ?_ rfl ?_
    · first | exact vy | exact vy9 | exact vh
    refine r_iadd (q := 15) d_MO_toHandlers_14 rfl ?_
    refine r_cge (tgt := 63) (q := 18) d_MO_toHandlers_15 rfl rfl (fun e15 => ?_) (fun e15 => ?_)
    · skip
      first | exact kN (fun q => cov2 e25 q.1) | exact kN (fun q => g_nl e35 q.2) | exact kC ⟨cov1 e25, g_lt e35⟩ _ e54.2 | (exfalso; clear kA kN kC cA hP hV q hS hL c9 hXm k3 hcv cov1 cov2; ((try simp +decide only [b01, b10, b11, am_up, ik, and_true, and_false, true_and, false_and, if_true, if_false, nn_eq] at *) <;> (try simp only [sw_or, sw_all, or_false, and_true, i32_lt, i32_le, i32_eq, i32_addw, i32_subw, i32_mulw, Int32.reduceToInt] at *) <;> omega))
    · skip
      refine r_al0 (q := 19) d_MO_toHandlers_18 rfl ?_
      refine gt_MO_from (q := 22) d_MO_toHandlers_19 rfl rfl ?_
      refine r_il3 (q := 23) d_MO_toHandlers_22 rfl ?_
      refine ld_150 (q := 24) d_MO_toHandlers_23 ?_ rfl ?_
      · first | exact vy | exact vy9 | exact vh
      refine r_il2 (q := 25) d_MO_toHandlers_24 rfl ?_
      refine r_cgt (tgt := 57) (q := 28) d_MO_toHandlers_25 rfl rfl (fun e25 => ?_) (fun e25 => ?_)
      · skip
        refine r_in3 (v := 1) (q := 60) d_MO_toHandlers_57 rfl rfl ?_
        refine am_go (tgt := 4) d_MO_toHandlers_60 rfl ?_
        first | exact kN (fun q => cov2 e25 q.1) | exact kN (fun q => g_nl e35 q.2) | exact kC ⟨cov1 e25, g_lt e35⟩ _ e54.2 | (exfalso; clear kA kN kC cA hP hV q hS hL c9 hXm k3 hcv cov1 cov2; ((try simp +decide only [b01, b10, b11, am_up, ik, and_true, and_false, true_and, false_and, if_true, if_false, nn_eq] at *) <;> (try simp only [sw_or, sw_all, or_false, and_true, i32_lt, i32_le, i32_eq, i32_addw, i32_subw, i32_mulw, Int32.reduceToInt] at *) <;> omega))
      · skip
        refine r_il2 (q := 29) d_MO_toHandlers_28 rfl ?_
        refine r_al0 (q := 30) d_MO_toHandlers_29 rfl ?_
        refine gt_MO_to (q := 33) d_MO_toHandlers_30 rfl rfl ?_
        refine r_il3 (q := 34) d_MO_toHandlers_33 rfl ?_
        refine ld_151 (q := 35) d_MO_toHandlers_34 ?_ rfl ?_
        · first | exact vy | exact vy9 | exact vh
        refine r_cge (tgt := 57) (q := 38) d_MO_toHandlers_35 rfl rfl (fun e35 => ?_) (fun e35 => ?_)
        · skip
          refine r_in3 (v := 1) (q := 60) d_MO_toHandlers_57 rfl rfl ?_
          refine am_go (tgt := 4) d_MO_toHandlers_60 rfl ?_
          first | exact kN (fun q => cov2 e25 q.1) | exact kN (fun q => g_nl e35 q.2) | exact kC ⟨cov1 e25, g_lt e35⟩ _ e54.2 | (exfalso; clear kA kN kC cA hP hV q hS hL c9 hXm k3 hcv cov1 cov2; ((try simp +decide only [b01, b10, b11, am_up, ik, and_true, and_false, true_and, false_and, if_true, if_false, nn_eq] at *) <;> (try simp only [sw_or, sw_all, or_false, and_true, i32_lt, i32_le, i32_eq, i32_addw, i32_subw, i32_mulw, Int32.reduceToInt] at *) <;> omega))
        · skip
          refine r_al0 (q := 39) d_MO_toHandlers_38 rfl ?_
          refine r_il1 (q := 40) d_MO_toHandlers_39 rfl ?_
          refine r_al0 (q := 41) d_MO_toHandlers_40 rfl ?_
          refine gt_MO_begin (q := 44) d_MO_toHandlers_41 rfl rfl ?_
          refine r_il1 (q := 45) d_MO_toHandlers_44 rfl ?_
          refine ld_143 (q := 46) d_MO_toHandlers_45 ?_ rfl ?_
          · first | exact vy | exact vy9 | exact vh
          refine r_al0 (q := 47) d_MO_toHandlers_46 rfl ?_
          refine gt_MO_target (q := 50) d_MO_toHandlers_47 rfl rfl ?_
          refine r_il3 (q := 51) d_MO_toHandlers_50 rfl ?_
          refine ld_152 (q := 52) d_MO_toHandlers_51 ?_ rfl ?_
          · first | exact vy | exact vy9 | exact vh
          refine r_iadd (q := 53) d_MO_toHandlers_52 rfl ?_
          refine r_ic (v := 1) (q := 54) d_MO_toHandlers_53 rfl rfl ?_
          refine r_vv3 mo_MO_come d_MO_toHandlers_54 rfl rfl rfl (q := 57) rfl ?_
          refine sq_MO_come (P := P) (st0 := st0) (T0 := T0) (X := fun T => X T ∧ hX P y.toNatClampNeg p j L T) (hei := hei) (L := L) (R := R) (H := H) (z := (st 2152 h.toNatClampNeg).toInt) (by first | exact hP | exact c4 | exact c5 | exact k3 | exact c9 | exact hL | exact Or.inr rfl | exact cA ⟨cov1 e25, g_lt e35⟩ | assumption | (refine pc_of hP ?_; (repeat (first | assumption | exact md_refl | refine md_up ?_ rfl | refine md_fill ?_ rfl | (unfold ik; refine md_up ?_ rfl))); done) | (refine pc_oS hP ?_; (repeat (first | assumption | exact md_refl | refine md_up ?_ rfl | refine md_fill ?_ rfl | (unfold ik; refine md_up ?_ rfl))); done) | (refine pm_of hP ?_; (repeat (first | assumption | exact md_refl | refine md_up ?_ rfl | refine md_fill ?_ rfl | (unfold ik; refine md_up ?_ rfl))); done) | omega | decide | ((try simp +decide only [b01, b10, b11, am_up, ik, and_true, and_false, true_and, false_and, if_true, if_false, nn_eq] at *) <;> (try simp only [sw_or, sw_all, or_false, and_true, i32_lt, i32_le, i32_eq, i32_addw, i32_subw, i32_mulw, Int32.reduceToInt] at *) <;> omega) | (apply_assumption; done)) (by first | exact hP | exact c4 | exact c5 | exact k3 | exact c9 | exact hL | exact Or.inr rfl | exact cA ⟨cov1 e25, g_lt e35⟩ | assumption | (refine pc_of hP ?_; (repeat (first | assumption | exact md_refl | refine md_up ?_ rfl | refine md_fill ?_ rfl | (unfold ik; refine md_up ?_ rfl))); done) | (refine pc_oS hP ?_; (repeat (first | assumption | exact md_refl | refine md_up ?_ rfl | refine md_fill ?_ rfl | (unfold ik; refine md_up ?_ rfl))); done) | (refine pm_of hP ?_; (repeat (first | assumption | exact md_refl | refine md_up ?_ rfl | refine md_fill ?_ rfl | (unfold ik; refine md_up ?_ rfl))); done) | omega | decide | ((try simp +decide only [b01, b10, b11, am_up, ik, and_true, and_false, true_and, false_and, if_true, if_false, nn_eq] at *) <;> (try simp only [sw_or, sw_all, or_false, and_true, i32_lt, i32_le, i32_eq, i32_addw, i32_subw, i32_mulw, Int32.reduceToInt] at *) <;> omega) | (apply_assumption; done)) (by first | exact hP | exact c4 | exact c5 | exact k3 | exact c9 | exact hL | exact Or.inr rfl | exact cA ⟨cov1 e25, g_lt e35⟩ | assumption | (refine pc_of hP ?_; (repeat (first | assumption | exact md_refl | refine md_up ?_ rfl | refine md_fill ?_ rfl | (unfold ik; refine md_up ?_ rfl))); done) | (refine pc_oS hP ?_; (repeat (first | assumption | exact md_refl | refine md_up ?_ rfl | refine md_fill ?_ rfl | (unfold ik; refine md_up ?_ rfl))); done) | (refine pm_of hP ?_; (repeat (first | assumption | exact md_refl | refine md_up ?_ rfl | refine md_fill ?_ rfl | (unfold ik; refine md_up ?_ rfl))); done) | omega | decide | ((try simp +decide only [b01, b10, b11, am_up, ik, and_true, and_false, true_and, false_and, if_true, if_false, nn_eq] at *) <;> (try simp only [sw_or, sw_all, or_false, and_true, i32_lt, i32_le, i32_eq, i32_addw, i32_subw, i32_mulw, Int32.reduceToInt] at *) <;> omega) | (apply_assumption; done)) (by first | exact hP | exact c4 | exact c5 | exact k3 | exact c9 | exact hL | exact Or.inr rfl | exact cA ⟨cov1 e25, g_lt e35⟩ | assumption | (refine pc_of hP ?_; (repeat (first | assumption | exact md_refl | refine md_up ?_ rfl | refine md_fill ?_ rfl | (unfold ik; refine md_up ?_ rfl))); done) | (refine pc_oS hP ?_; (repeat (first | assumption | exact md_refl | refine md_up ?_ rfl | refine md_fill ?_ rfl | (unfold ik; refine md_up ?_ rfl))); done) | (refine pm_of hP ?_; (repeat (first | assumption | exact md_refl | refine md_up ?_ rfl | refine md_fill ?_ rfl | (unfold ik; refine md_up ?_ rfl))); done) | omega | decide | ((try simp +decide only [b01, b10, b11, am_up, ik, and_true, and_false, true_and, false_and, if_true, if_false, nn_eq] at *) <;> (try simp only [sw_or, sw_all, or_false, and_true, i32_lt, i32_le, i32_eq, i32_addw, i32_subw, i32_mulw, Int32.reduceToInt] at *) <;> omega) | (apply_assumption; done)) (by first | exact hP | exact c4 | exact c5 | exact k3 | exact c9 | exact hL | exact Or.inr rfl | exact cA ⟨cov1 e25, g_lt e35⟩ | assumption | (refine pc_of hP ?_; (repeat (first | assumption | exact md_refl | refine md_up ?_ rfl | refine md_fill ?_ rfl | (unfold ik; refine md_up ?_ rfl))); done) | (refine pc_oS hP ?_; (repeat (first | assumption | exact md_refl | refine md_up ?_ rfl | refine md_fill ?_ rfl | (unfold ik; refine md_up ?_ rfl))); done) | (refine pm_of hP ?_; (repeat (first | assumption | exact md_refl | refine md_up ?_ rfl | refine md_fill ?_ rfl | (unfold ik; refine md_up ?_ rfl))); done) | omega | decide | ((try simp +decide only [b01, b10, b11, am_up, ik, and_true, and_false, true_and, false_and, if_true, if_false, nn_eq] at *) <;> (try simp only [sw_or, sw_all, or_false, and_true, i32_lt, i32_le, i32_eq, i32_addw, i32_subw, i32_mulw, Int32.reduceToInt] at *) <;> omega) | (apply_assumption; done)) (by first | exact hP | exact c4 | exact c5 | exact k3 | exact c9 | exact hL | exact Or.inr rfl | exact cA ⟨cov1 e25, g_lt e35⟩ | assumption | (refine pc_of hP ?_; (repeat (first | assumption | exact md_refl | refine md_up ?_ rfl | refine md_fill ?_ rfl | (unfold ik; refine md_up ?_ rfl))); done) | (refine pc_oS hP ?_; (repeat (first | assumption | exact md_refl | refine md_up ?_ rfl | refine md_fill ?_ rfl | (unfold ik; refine md_up ?_ rfl))); done) | (refine pm_of hP ?_; (repeat (first | assumption | exact md_refl | refine md_up ?_ rfl | refine md_fill ?_ rfl | (unfold ik; refine md_up ?_ rfl))); done) | omega | decide | ((try simp +decide only [b01, b10, b11, am_up, ik, and_true, and_false, true_and, false_and, if_true, if_false, nn_eq] at *) <;> (try simp only [sw_or, sw_all, or_false, and_true, i32_lt, i32_le, i32_eq, i32_addw, i32_subw, i32_mulw, Int32.reduceToInt] at *) <;> omega) | (apply_assumption; done)) (by first | exact hP | exact c4 | exact c5 | exact k3 | exact c9 | exact hL | exact Or.inr rfl | exact cA ⟨cov1 e25, g_lt e35⟩ | assumption | (refine pc_of hP ?_; (repeat (first | assumption | exact md_refl | refine md_up ?_ rfl | refine md_fill ?_ rfl | (unfold ik; refine md_up ?_ rfl))); done) | (refine pc_oS hP ?_; (repeat (first | assumption | exact md_refl | refine md_up ?_ rfl | refine md_fill ?_ rfl | (unfold ik; refine md_up ?_ rfl))); done) | (refine pm_of hP ?_; (repeat (first | assumption | exact md_refl | refine md_up ?_ rfl | refine md_fill ?_ rfl | (unfold ik; refine md_up ?_ rfl))); done) | omega | decide | ((try simp +decide only [b01, b10, b11, am_up, ik, and_true, and_false, true_and, false_and, if_true, if_false, nn_eq] at *) <;> (try simp only [sw_or, sw_all, or_false, and_true, i32_lt, i32_le, i32_eq, i32_addw, i32_subw, i32_mulw, Int32.reduceToInt] at *) <;> omega) | (apply_assumption; done)) (by first | exact hP | exact c4 | exact c5 | exact k3 | exact c9 | exact hL | exact Or.inr rfl | exact cA ⟨cov1 e25, g_lt e35⟩ | assumption | (refine pc_of hP ?_; (repeat (first | assumption | exact md_refl | refine md_up ?_ rfl | refine md_fill ?_ rfl | (unfold ik; refine md_up ?_ rfl))); done) | (refine pc_oS hP ?_; (repeat (first | assumption | exact md_refl | refine md_up ?_ rfl | refine md_fill ?_ rfl | (unfold ik; refine md_up ?_ rfl))); done) | (refine pm_of hP ?_; (repeat (first | assumption | exact md_refl | refine md_up ?_ rfl | refine md_fill ?_ rfl | (unfold ik; refine md_up ?_ rfl))); done) | omega | decide | ((try simp +decide only [b01, b10, b11, am_up, ik, and_true, and_false, true_and, false_and, if_true, if_false, nn_eq] at *) <;> (try simp only [sw_or, sw_all, or_false, and_true, i32_lt, i32_le, i32_eq, i32_addw, i32_subw, i32_mulw, Int32.reduceToInt] at *) <;> omega) | (apply_assumption; done)) (by first | exact hP | exact c4 | exact c5 | exact k3 | exact c9 | exact hL | exact Or.inr rfl | exact cA ⟨cov1 e25, g_lt e35⟩ | assumption | (refine pc_of hP ?_; (repeat (first | assumption | exact md_refl | refine md_up ?_ rfl | refine md_fill ?_ rfl | (unfold ik; refine md_up ?_ rfl))); done) | (refine pc_oS hP ?_; (repeat (first | assumption | exact md_refl | refine md_up ?_ rfl | refine md_fill ?_ rfl | (unfold ik; refine md_up ?_ rfl))); done) | (refine pm_of hP ?_; (repeat (first | assumption | exact md_refl | refine md_up ?_ rfl | refine md_fill ?_ rfl | (unfold ik; refine md_up ?_ rfl))); done) | omega | decide | ((try simp +decide only [b01, b10, b11, am_up, ik, and_true, and_false, true_and, false_and, if_true, if_false, nn_eq] at *) <;> (try simp only [sw_or, sw_all, or_false, and_true, i32_lt, i32_le, i32_eq, i32_addw, i32_subw, i32_mulw, Int32.reduceToInt] at *) <;> omega) | (apply_assumption; done)) (by first | exact hP | exact c4 | exact c5 | exact k3 | exact c9 | exact hL | exact Or.inr rfl | exact cA ⟨cov1 e25, g_lt e35⟩ | assumption | (refine pc_of hP ?_; (repeat (first | assumption | exact md_refl | refine md_up ?_ rfl | refine md_fill ?_ rfl | (unfold ik; refine md_up ?_ rfl))); done) | (refine pc_oS hP ?_; (repeat (first | assumption | exact md_refl | refine md_up ?_ rfl | refine md_fill ?_ rfl | (unfold ik; refine md_up ?_ rfl))); done) | (refine pm_of hP ?_; (repeat (first | assumption | exact md_refl | refine md_up ?_ rfl | refine md_fill ?_ rfl | (unfold ik; refine md_up ?_ rfl))); done) | omega | decide | ((try simp +decide only [b01, b10, b11, am_up, ik, and_true, and_false, true_and, false_and, if_true, if_false, nn_eq] at *) <;> (try simp only [sw_or, sw_all, or_false, and_true, i32_lt, i32_le, i32_eq, i32_addw, i32_subw, i32_mulw, Int32.reduceToInt] at *) <;> omega) | (apply_assumption; done)) (by first | exact hP | exact c4 | exact c5 | exact k3 | exact c9 | exact hL | exact Or.inr rfl | exact cA ⟨cov1 e25, g_lt e35⟩ | assumption | (refine pc_of hP ?_; (repeat (first | assumption | exact md_refl | refine md_up ?_ rfl | refine md_fill ?_ rfl | (unfold ik; refine md_up ?_ rfl))); done) | (refine pc_oS hP ?_; (repeat (first | assumption | exact md_refl | refine md_up ?_ rfl | refine md_fill ?_ rfl | (unfold ik; refine md_up ?_ rfl))); done) | (refine pm_of hP ?_; (repeat (first | assumption | exact md_refl | refine md_up ?_ rfl | refine md_fill ?_ rfl | (unfold ik; refine md_up ?_ rfl))); done) | omega | decide | ((try simp +decide only [b01, b10, b11, am_up, ik, and_true, and_false, true_and, false_and, if_true, if_false, nn_eq] at *) <;> (try simp only [sw_or, sw_all, or_false, and_true, i32_lt, i32_le, i32_eq, i32_addw, i32_subw, i32_mulw, Int32.reduceToInt] at *) <;> omega) | (apply_assumption; done)) (fun e54 => ?_)
          · skip
            refine r_in3 (v := 1) (q := 60) d_MO_toHandlers_57 rfl rfl ?_
            refine am_go (tgt := 4) d_MO_toHandlers_60 rfl ?_
            first | exact kN (fun q => cov2 e25 q.1) | exact kN (fun q => g_nl e35 q.2) | exact kC ⟨cov1 e25, g_lt e35⟩ _ e54.2 | (exfalso; clear kA kN kC cA hP hV q hS hL c9 hXm k3 hcv cov1 cov2; ((try simp +decide only [b01, b10, b11, am_up, ik, and_true, and_false, true_and, false_and, if_true, if_false, nn_eq] at *) <;> (try simp only [sw_or, sw_all, or_false, and_true, i32_lt, i32_le, i32_eq, i32_addw, i32_subw, i32_mulw, Int32.reduceToInt] at *) <;> omega))
theorem sp_MO_toHandlers {P : am_S} {y w hei L R H : Int32} {p : Nat} {st0 st : am_S} {T0 : am_T} {X : am_T → Prop} {f : am_S → Prop} (c1 : PM st0 P) (c2 : VP P) (c3 : 0 ≤ y.toInt ∧ y.toNatClampNeg < nM P) (c4 : SHP P y.toNatClampNeg) (c5 : w.toInt = (p : Int)) (c6 : P 5 y.toNatClampNeg = hei) (c7 : GS P y.toNatClampNeg hei st0 T0 L R H X st) (c8 : moX (nl P y.toNatClampNeg) X) (c9 : LZ P y.toNatClampNeg L) (c10 : ∀ U, Typ P y.toNatClampNeg U → hX P y.toNatClampNeg p (P 7 y.toNatClampNeg).toInt.toNat L U) (h1 : ∀ q : {q : am_S // GS P y.toNatClampNeg hei st0 T0 L R H (fun T => X T ∧ hX P y.toNatClampNeg p (P 7 y.toNatClampNeg).toInt.toNat L T) q}, f q.1) : wp_MO_toHandlers [.inr (.inl 128), .inl y, .inl w] st (am_kv f) := by
  refine ⟨⟨rfl, Nat.le_of_ble_eq_true rfl⟩, ?_⟩
  have y4 : (4 * y).toInt = 4 * (y.toNatClampNeg : Int) + ((0 : Nat) : Int) := by
    have h3 := c2.1
    have := c3.2
    unfold nM at this
    rw [i32_mulw]
    rw [nn_eq] at *
    simp only [Int32.reduceToInt]
    omega
  refine r_ic (v := 4) (q := 1) d_MO_toHandlers_0 rfl rfl ?_
  refine r_il1 (q := 2) d_MO_toHandlers_1 rfl ?_
  refine r_imul (q := 3) d_MO_toHandlers_2 rfl ?_
  refine r_is3 (q := 4) d_MO_toHandlers_3 rfl ?_
  exact lp_MO_th c1 c2 c3 c4 c5 c6 c8 c9 c10 (fun s hs => h1 ⟨s, hs⟩) _ 0 _ _ (Nat.zero_add _) y4 (GS_w c7 (fun T hT => ⟨hT, fun k hk => absurd hk (by omega)⟩))

/-! written by wip/whole/gen/walk.py out of 95.mcome2.txt -/
def coR (c R : Int32) : Int32 := if c = 0 then R else 1
def coQ (P : am_S) (m : Nat) (hei c : Int32) (z : Int) (o : am_ts) (st st' : am_S) : Prop := am_md mK st st' ∧ oM (nb P m) (nl P m) st st' ∧ (o = none → st' 599 0 = 0) ∧ ∀ L R H, o = some (L, R, H) → (st' 599 0 = 0 ∨ st' 599 0 = 1) ∧ ∀ T, MI P m st T → LZ P m L → (∀ U, Typ P m U → (¬ c = 0 → 1 ≤ hei.toInt) ∧ Ar (nl P m) U z L (coR c R) (coR c H)) → (st' 599 0 = 1 ∧ ∃ T', MI P m st' T' ∧ le (nl P m) T T' ∧ (¬ c = 0 → 1 ≤ hei.toInt) ∧ Ar (nl P m) T' z L (coR c R) (coR c H) ∧ CH (nl P m) T T' (st 600 0) (st' 600 0)) ∨ (st' 599 0 = 0 ∧ ∀ U, ¬ Typ P m U)
theorem sp_MO_come {P : am_S} {x y c hei : Int32} {z : Int} {o : am_ts} {st : am_S} {f : am_S → Prop} (c1 : PM st P) (c2 : VP P) (c3 : 0 ≤ y.toInt ∧ y.toNatClampNeg < nM P) (c4 : x.toInt = (nb P y.toNatClampNeg : Int) + z) (c5 : 0 ≤ z ∧ (z < (nl P y.toNatClampNeg : Int) → bg P y.toNatClampNeg z.toNat)) (c6 : P 5 y.toNatClampNeg = hei) (c7 : NS st hei o) (c8 : c = 0 ∨ c = 1) (h1 : ∀ p : {p : am_S // coQ P y.toNatClampNeg hei c z o st p}, f p.1) : wp_MO_come [.inr (.inl 128), .inl y, .inl x, .inl c] st (am_kv f) := by
  refine kv_of (g := coQ P y.toNatClampNeg hei c z o st) mo_MO_come ?_ h1
  refine ⟨⟨rfl, Nat.le_of_ble_eq_true rfl⟩, ?_⟩
  clear h1
  obtain ⟨v8, ⟨v1, v2, v3, v4, v5⟩, ⟨u1, u2, u3, u4, u5, u6⟩, ⟨v6, -⟩, -⟩ := mf c1 c2 c3.2
  have hy8 : 0 ≤ y.toInt ∧ y.toInt < 8 := ⟨c3.1, by rw [nn_eq] at v8; omega⟩
  have vy : vp_in y 8 := vp_of hy8.1 hy8.2
  have vy9 : vp_in y 9 := vp_of hy8.1 (by omega)
  have hb : (nb P y.toNatClampNeg : Int) = (st 2143 y.toNatClampNeg).toInt := by unfold nb; rw [← c1.1.2.1 _ c3.2]; omega
  have hl : (nl P y.toNatClampNeg : Int) = (st 2144 y.toNatClampNeg).toInt := by unfold nl; rw [← c1.1.2.2.1]; omega
  have h47 : st 2147 y.toNatClampNeg = hei := by rw [c1.1.2.2.2.2.2.1]; exact c6
  have h46 : st 2146 y.toNatClampNeg = P 4 y.toNatClampNeg := by rw [c1.1.2.2.2.2.1]
  have hN := c7.1
  generalize hm : y.toNatClampNeg = m at *
  have hH1 : ¬ (1 : Int32) = -1 := by decide
  -- the state in hand, if it is good
  have hS : ∀ L R H, o = some (L, R, H) → st 599 0 = 1 ∧ (∀ k, k < 8 → st 2158 k = ty_at L (nI k)) ∧ st 598 0 = H ∧ (∀ k : Nat, (k : Int) < H.toInt → st 2158 (8 + k) = ty_at R (nI k)) ∧ ((¬ c = 0 → 1 ≤ hei.toInt) → WS P m L (coR c R) (coR c H)) ∧ (coR c H).toInt ≤ 8 ∧ ¬ coR c H = -1 := by
    intro L R H ho
    rw [ho] at c7
    obtain ⟨-, a1, a2, a3, h, h8, e1, e2, e3, e4⟩ := c7
    have hh : (h : Int) ≤ hei.toInt := by
      have := hN.2.1
      rw [e2, nI_t (by omega)] at this
      exact this
    refine ⟨a1, a3, by rw [e2, e1], fun k hk => ?_, fun hc => ?_, ?_, ?_⟩
    · rw [e1, nI_t (by omega)] at hk
      exact e4 k (by omega)
    · by_cases e : c = 0
      · unfold coR
        rw [if_pos e, if_pos e]
        exact ⟨a2, h, by rw [c6]; exact hh, e1, e3⟩
      · unfold coR
        rw [if_neg e, if_neg e]
        exact wf_h a2 (by rw [c6]; exact hc e)
    · unfold coR
      split
      · rw [e1, nI_t (by omega)]
        omega
      · decide
    · unfold coR
      split
      · rw [e1, i32_eq, nI_t (by omega)]
        simp only [Int32.reduceToInt]
        omega
      · exact hH1
  have hG : st 599 0 = 0 ∨ st 599 0 = 1 := by
    rcases NS_good c7 with h | h
    · exact Or.inl h.1
    · exact Or.inr h.1
  have hNone : o = none → st 599 0 = 0 := by
    intro h
    rw [h] at c7
    exact c7.2
  -- out of the method, or no room for what is caught
  have kBad : (∀ L R H, o = some (L, R, H) → (∀ U, Typ P m U → (¬ c = 0 → 1 ≤ hei.toInt) ∧ Ar (nl P m) U z L (coR c R) (coR c H)) → ∀ U, ¬ Typ P m U) → coQ P m hei c z o st (am_up st 599 0 0) := by
    intro h
    refine ⟨md_up md_refl rfl, fun i _ => ?_, fun _ => am_up_eq, fun L R H ho => ⟨Or.inl am_up_eq, fun T hT hz hA => Or.inr ⟨am_up_eq, h L R H ho hA⟩⟩⟩
    rw [am_up_bank (by decide), am_up_bank (by decide), am_up_bank (by decide)]
    exact ⟨rfl, rfl, fun _ _ => rfl⟩
  have kOut : st 2143 m + st 2144 m ≤ x → coQ P m hei c z o st (am_up st 599 0 0) := by
    intro h
    refine kBad (fun L R H ho hA U hU => ?_)
    have := (hA U hU).2.2.1
    rw [i32_le, i32_addw] at h
    omega
  have kNoR : ¬ c = 0 → st 2147 m = 0 → coQ P m hei c z o st (am_up st 599 0 0) := by
    intro h h2
    refine kBad (fun L R H ho hA U hU => ?_)
    have := (hA U hU).1 h
    rw [h47] at h2
    rw [h2] at this
    exact absurd this (by decide)
  have k50 : ∀ n, n = coR c (st 598 0) → ¬ st 2143 m + st 2144 m ≤ x → (c = 0 ∨ ¬ st 2147 m = 0) → am_co y x c n (coQ P m hei c z o st) 50 none st := by
    intro n hn hin hroom
    rw [i32_le, i32_addw] at hin
    have hz : z < (nl P m : Int) := by omega
    obtain ⟨p, hp⟩ : ∃ p : Nat, z = (p : Int) := ⟨z.toNat, by omega⟩
    subst hp
    have hpN : p < nl P m := by omega
    have hbg := c5.2 hz
    rw [Int.toNat_natCast] at hbg
    have hxa : x.toInt = ((nb P m + p : Nat) : Int) := by omega
    have hxn : x.toNatClampNeg = nb P m + p := by rw [nn_eq]; omega
    have ha : nb P m + p < 200 := by omega
    have vx : vp_in x 200 := vp_of (by omega) (by omega)
    have vx1 : vp_in x 201 := vp_of (by omega) (by omega)
    have hn8 : 0 ≤ n.toInt ∧ n.toInt ≤ 8 := by
      rw [hn]
      unfold coR
      split
      · omega
      · decide
    have hhei : ¬ c = 0 → 1 ≤ hei.toInt := by
      intro h
      have := hroom.resolve_left h
      rw [h47, i32_eq] at this
      simp only [Int32.reduceToInt] at this
      omega
    -- the first arrival
    have kNew : st 2155 x.toNatClampNeg = 0 → ∀ s : am_S, (∀ b, ¬ b = 2156 → s b = am_up (am_up (am_up st 2155 x.toNatClampNeg 1) 600 0 1) 2157 x.toNatClampNeg n b) → (∀ i, ¬ (16 * (nb P m + p) ≤ i ∧ i < 16 * (nb P m + p) + 16) → s 2156 i = am_up (am_up (am_up st 2155 x.toNatClampNeg 1) 600 0 1) 2157 x.toNatClampNeg n 2156 i) → (∀ k, k < 16 → s 2156 (16 * (nb P m + p) + k) = if ¬ c = 0 ∧ k = 8 then 1 else am_up (am_up (am_up st 2155 x.toNatClampNeg 1) 600 0 1) 2157 x.toNatClampNeg n 2158 k) → coQ P m hei c (p : Int) o st s := by
      intro h0 s s1 s2 s3
      rw [hxn] at h0 s1 s2 s3
      have f1 : ∀ b, ¬ b = 2156 → ¬ b = 2155 → ¬ b = 2157 → ¬ b = 600 → s b = st b := by
        intro b b1 b2 b3 b4
        rw [s1 b b1, am_up_bank b3, am_up_bank b4, am_up_bank b2]
      have g2156 : ∀ i, am_up (am_up (am_up st 2155 (nb P m + p) 1) 600 0 1) 2157 (nb P m + p) n 2156 i = st 2156 i := fun i => by rw [am_up_bank (by decide), am_up_bank (by decide), am_up_bank (by decide)]
      have g2158 : ∀ i, am_up (am_up (am_up st 2155 (nb P m + p) 1) 600 0 1) 2157 (nb P m + p) n 2158 i = st 2158 i := fun i => by rw [am_up_bank (by decide), am_up_bank (by decide), am_up_bank (by decide)]
      have f2 : ∀ i, ¬ i = nb P m + p → s 2155 i = st 2155 i ∧ s 2157 i = st 2157 i ∧ ∀ k, k < 16 → s 2156 (16 * i + k) = st 2156 (16 * i + k) := by
        intro i hi
        refine ⟨?_, ?_, fun k hk => ?_⟩
        · rw [s1 2155 (by decide), am_up_bank (by decide), am_up_bank (by decide), am_up_ne (by omega)]
        · rw [s1 2157 (by decide), am_up_ne (by omega), am_up_bank (by decide), am_up_bank (by decide)]
        · rw [s2 _ (by omega), g2156]
      have f599 : s 599 0 = st 599 0 := by rw [f1 599 (by decide) (by decide) (by decide) (by decide)]
      refine ⟨?_, fun i hi => f2 i (by omega), fun ho => by rw [f599]; exact hNone ho, fun L R H ho => ⟨by rw [f599]; exact hG, fun T hT hLz hA => Or.inl ?_⟩⟩
      · intro b hb
        unfold mK at hb
        simp only [Bool.or_eq_false_iff, Bool.and_eq_false_iff, decide_eq_false_iff_not, beq_eq_false_iff_ne] at hb
        exact f1 b (by omega) (by omega) (by omega) (by omega)
      · obtain ⟨w1, w2, w3, w4, w5, w6, w7⟩ := hS L R H ho
        have hT2 : T 2 p = -1 := by
          rcases hT.1 p hpN with q | q
          · exact q.1
          · rw [h0] at q
            exact absurd q.2.1 (by decide)
        have hWS := w5 hhei
        have key := MI_cm (s := s) hT hpN hWS w7 hLz hbg (fun U hU => (hA U hU).2) (Or.inl hT2) (fun q _ hqp => f2 _ (by omega)) (by rw [s1 2155 (by decide), am_up_bank (by decide), am_up_bank (by decide), am_up_eq]) (by rw [s1 2157 (by decide), am_up_eq, hn, w3]) (fun k hk => by rw [s3 k (by omega), if_neg (by omega), g2158, cm_0, if_pos hT2]; exact w2 k hk) (fun k hk => ?_) w6 (WT_8 c2 c3.2 hT.2.1)
        · refine ⟨by rw [f599]; exact w1, _, key, cm_le, hhei, cm_Ar hpN w7 (Or.inl hT2), Or.inr ⟨mu_ch hpN w7 (Or.inl hT2), ?_⟩⟩
          rw [s1 600 (by decide), am_up_bank (by decide), am_up_eq]
        · have e9 := s3 (8 + k) (by omega)
          rw [← Nat.add_assoc, g2158] at e9
          rw [e9]
          unfold coR at hk ⊢
          by_cases e : c = 0
          · rw [if_neg (fun q => q.1 e), if_pos e]
            rw [if_pos e] at hk
            exact w4 k hk
          · rw [if_neg e] at hk
            have k0 : k = 0 := by
              simp only [Int32.reduceToInt] at hk
              omega
            rw [if_pos ⟨e, by omega⟩, if_neg e, k0]
            decide
    -- a later arrival
    have kOld : ¬ st 2155 x.toNatClampNeg = 0 → ∀ g, (g = 1 ∧ ¬ st 599 0 = 0 ∧ st 2157 x.toNatClampNeg = n) ∨ (g = 0 ∧ (st 599 0 = 0 ∨ ¬ st 2157 x.toNatClampNeg = n)) → ∀ s s' : am_S, (∀ b, ¬ b = 599 → s b = am_up st 599 0 g b) → ((s 599 0 = 1 ∧ ¬ am_up st 599 0 g 599 0 = 0 ∧ ∀ k : Nat, (k : Int) < n.toInt → coE (am_up st 599 0 g) (nb P m + p) c k) ∨ (s 599 0 = 0 ∧ (am_up st 599 0 g 599 0 = 0 ∨ ¬ ∀ k : Nat, (k : Int) < n.toInt → coE (am_up st 599 0 g) (nb P m + p) c k))) → (∀ b, ¬ b = 2156 → ¬ b = 600 → s' b = s b) → (∀ i, ¬ (16 * (nb P m + p) ≤ i ∧ i < 16 * (nb P m + p) + 8) → s' 2156 i = s 2156 i) → (∀ k, k < 8 → (s' 2156 (16 * (nb P m + p) + k) = 0 ∧ coL s (nb P m + p) k ∧ (k : Int) < (s 2146 m).toInt) ∨ (s' 2156 (16 * (nb P m + p) + k) = s 2156 (16 * (nb P m + p) + k) ∧ ¬ (coL s (nb P m + p) k ∧ (k : Int) < (s 2146 m).toInt))) → ((s' 600 0 = s 600 0 ∧ ∀ k : Nat, (k : Int) < (s 2146 m).toInt → ¬ coL s (nb P m + p) k) ∨ (s' 600 0 = 1 ∧ ∃ k : Nat, (k : Int) < (s 2146 m).toInt ∧ coL s (nb P m + p) k)) → coQ P m hei c (p : Int) o st s' := by
      intro h0 g hg s s' s1 s2 r1 r2 r3 r4
      rw [hxn] at h0 hg
      have f1 : ∀ b, ¬ b = 599 → s b = st b := fun b hb => by rw [s1 b hb, am_up_bank hb]
      have f2 : ∀ b, ¬ b = 2156 → ¬ b = 600 → ¬ b = 599 → s' b = st b := fun b b1 b2 b3 => by rw [r1 b b1 b2, f1 b b3]
      have fE : ∀ k, coE (am_up st 599 0 g) (nb P m + p) c k ↔ coE st (nb P m + p) c k := by
        intro k
        unfold coE
        rw [am_up_bank (by decide), am_up_bank (by decide)]
      have fL : ∀ k, coL s (nb P m + p) k ↔ coL st (nb P m + p) k := by
        intro k
        unfold coL
        rw [f1 2156 (by decide), f1 2158 (by decide)]
      have e46 : (s 2146 m).toInt = (P 4 m).toInt := by rw [f1 2146 (by decide), h46]
      have e599 : s' 599 0 = s 599 0 := by rw [r1 599 (by decide) (by decide)]
      have e600 : s 600 0 = st 600 0 := by rw [f1 600 (by decide)]
      simp only [fE, am_up_eq] at s2
      have r5 : ∀ i, ¬ i = nb P m + p → s' 2155 i = st 2155 i ∧ s' 2157 i = st 2157 i ∧ ∀ k, k < 16 → s' 2156 (16 * i + k) = st 2156 (16 * i + k) := by
        intro i hi
        rw [f2 2155 (by decide) (by decide) (by decide), f2 2157 (by decide) (by decide) (by decide)]
        refine ⟨rfl, rfl, fun k hk => ?_⟩
        rw [r2 _ (by omega), f1 2156 (by decide)]
      refine ⟨?_, fun i hi => r5 i (by omega), fun ho => ?_, fun L R H ho => ⟨?_, fun T hT hLz hA => ?_⟩⟩
      · intro b hb
        unfold mK at hb
        simp only [Bool.or_eq_false_iff, Bool.and_eq_false_iff, decide_eq_false_iff_not, beq_eq_false_iff_ne] at hb
        exact f2 b (by omega) (by omega) (by omega)
      · rw [e599]
        have q0 := hNone ho
        rcases s2 with q | q
        · rcases hg with w | w
          · exact absurd q0 w.2.1
          · exact absurd w.1 q.2.1
        · exact q.1
      · rw [e599]
        rcases s2 with q | q
        · exact Or.inr q.1
        · exact Or.inl q.1
      · obtain ⟨w1, w2, w3, w4, w5, w6, w7⟩ := hS L R H ho
        have hWS := w5 hhei
        have hnH : n = coR c H := by rw [hn, w3]
        obtain ⟨t1, t2, t3, t4, t5⟩ : ¬ T 2 p = -1 ∧ st 2155 (nb P m + p) = 1 ∧ st 2157 (nb P m + p) = T 2 p ∧ (∀ k, k < 8 → st 2156 (16 * (nb P m + p) + k) = ty_at (T 0 p) (nI k)) ∧ ∀ k : Nat, (k : Int) < (T 2 p).toInt → st 2156 (16 * (nb P m + p) + 8 + k) = ty_at (T 1 p) (nI k) := by
          rcases hT.1 p hpN with q | q
          · exact absurd q.2 h0
          · exact q
        obtain ⟨-, hwT0, kT, hkT, hkT2, hwT1⟩ := hT.2.1 p hpN t1
        -- rows agree just if the cells do
        have fitE : ∀ k : Nat, (k : Int) < (coR c H).toInt → (T 2 p = coR c H) → (coE st (nb P m + p) c k ↔ ty_at (T 1 p) (nI k) = ty_at (coR c R) (nI k)) := by
          intro k hk e
          unfold coE
          rw [t5 k (by rw [e]; exact hk)]
          by_cases ec : c = 0
          · unfold coR at hk ⊢
            rw [if_neg (fun q => q ec), if_pos ec]
            rw [if_pos ec] at hk
            rw [w4 k hk]
          · unfold coR at hk ⊢
            rw [if_pos ec, if_neg ec]
            rw [if_neg ec] at hk
            have k0 : k = 0 := by
              simp only [Int32.reduceToInt] at hk
              omega
            have e1 : ty_at 1 (nI 0) = 1 := by decide
            rw [k0, e1]
        obtain ⟨-, kS, hle, hkS, hwS⟩ := hWS
        rcases s2 with ⟨q1, q2, q3⟩ | ⟨q1, q2⟩
        · -- it fits
          have hgg : g = 1 ∧ ¬ st 599 0 = 0 ∧ st 2157 (nb P m + p) = n := by
            rcases hg with w | w
            · exact w
            · exact absurd w.1 q2
          have eH : T 2 p = coR c H := by rw [← t3, hgg.2.2, hnH]
          have eR : T 1 p = coR c R := by
            have ek : kT = kS := by
              have : nI kT = nI kS := by rw [← hkT2, ← hkS, eH]
              have h3 := c2.2.2 m c3.2
              unfold VM at h3
              have hk8 : kS ≤ 8 := by omega
              rw [nI_i (by omega) (by omega)] at this
              exact this
            rw [← ek] at hwS
            refine row_eq hwT1 hwS (fun k hk => ?_)
            have hk2 : (k : Int) < (coR c H).toInt := by
              have h3 := c2.2.2 m c3.2
              unfold VM at h3
              rw [← eH, hkT2, nI_t (by omega)]
              omega
            exact (fitE k hk2 eH).mp (q3 k (by rw [hnH]; exact hk2))
          refine Or.inl ⟨by rw [e599]; exact q1, cm T p L (coR c R) (coR c H), ?_, cm_le, hhei, cm_Ar hpN w7 (Or.inr ⟨eH, eR⟩), ?_⟩
          · refine MI_cm hT hpN (w5 hhei) w7 hLz hbg (fun U hU => (hA U hU).2) (Or.inr ⟨eH, eR⟩) (fun q _ hqp => r5 _ (by omega)) (by rw [f2 2155 (by decide) (by decide) (by decide)]; exact t2) (by rw [f2 2157 (by decide) (by decide) (by decide), hgg.2.2, hnH]) (fun k hk => ?_) (fun k hk => ?_) w6 (WT_8 c2 c3.2 hT.2.1)
            · rw [cm_0, if_neg t1, at_com hk]
              rcases r3 k hk with ⟨a1, a2, a3⟩ | ⟨a1, a2⟩
              · rw [fL] at a2
                unfold coL at a2
                rw [t4 k hk, w2 k hk] at a2
                rw [a1, if_neg a2.1]
              · rw [a1, f1 2156 (by decide), t4 k hk]
                rw [fL, e46] at a2
                by_cases eq : ty_at (T 0 p) (nI k) = ty_at L (nI k)
                · rw [if_pos eq]
                · rw [if_neg eq]
                  refine Decidable.byContradiction fun ne => ?_
                  by_cases kl : (k : Int) < (P 4 m).toInt
                  · refine a2 ⟨?_, kl⟩
                    unfold coL
                    rw [t4 k hk, w2 k hk]
                    exact ⟨eq, ne⟩
                  · exact ne (hT.2.2.2 p hpN t1 k (by omega) hk)
            · rw [r2 _ (by omega), f1 2156 (by decide), t5 k (by rw [eH]; exact hk), eR]
          · rcases r4 with ⟨a1, a2⟩ | ⟨a1, k, a2, a3⟩
            · refine Or.inl ⟨cm_same t1 ?_, by rw [a1, e600]⟩
              refine at_ext fun k hk => ?_
              by_cases k8 : k < 8
              · rw [at_com k8]
                by_cases eq : ty_at (T 0 p) (nI k) = ty_at L (nI k)
                · rw [if_pos eq]
                · rw [if_neg eq]
                  refine (Decidable.byContradiction fun ne => ?_ : ty_at (T 0 p) (nI k) = 0).symm
                  by_cases kl : (k : Int) < (P 4 m).toInt
                  · refine a2 k (by rw [e46]; exact kl) ?_
                    rw [fL]
                    unfold coL
                    rw [t4 k k8, w2 k k8]
                    exact ⟨eq, ne⟩
                  · exact ne (hT.2.2.2 p hpN t1 k (by omega) k8)
              · exact at_com_hi hk (by omega)
            · refine Or.inr ⟨mu_ch hpN w7 (Or.inr fun q => ?_), a1⟩
              have k8 : k < 8 := by
                rw [e46, ← h46] at a2
                omega
              rw [fL] at a3
              unfold coL at a3
              rw [t4 k k8, w2 k k8] at a3
              have := @at_com (T 0 p) L k k8
              rw [q, if_neg a3.1] at this
              exact a3.2 this
        · -- it does not
          refine Or.inr ⟨by rw [e599]; exact q1, fun U hU => ?_⟩
          have hfit := (cm_bad (hT.2.2.1 U hU) (hA U hU).2).resolve_left t1
          rcases q2 with q2 | q2
          · rcases hg with w | w
            · rw [w.1] at q2
              exact absurd q2 (by decide)
            · rcases w.2 with w2' | w2'
              · rw [w1] at w2'
                exact absurd w2' (by decide)
              · exact w2' (by rw [t3, hnH]; exact hfit.1)
          · refine q2 (fun k hk => ?_)
            rw [hnH] at hk
            rw [fitE k hk hfit.1, hfit.2]
    have k130 : ¬ st 2155 x.toNatClampNeg = 0 → ∀ g, (g = 1 ∧ ¬ st 599 0 = 0 ∧ st 2157 x.toNatClampNeg = n) ∨ (g = 0 ∧ (st 599 0 = 0 ∨ ¬ st 2157 x.toNatClampNeg = n)) → am_co y x c n (coQ P m hei c (p : Int) o st) 157 none (am_up st 599 0 g) := by
      intro h0 g hg
      have hg01 : (am_up st 599 0 g 599 0 = 1 ∧ ¬ am_up st 599 0 g 599 0 = 0 ∧ ∀ k : Nat, k < 0 → coE (am_up st 599 0 g) (nb P m + p) c k) ∨ (am_up st 599 0 g 599 0 = 0 ∧ (am_up st 599 0 g 599 0 = 0 ∨ ¬ ∀ k : Nat, k < 0 → coE (am_up st 599 0 g) (nb P m + p) c k)) := by
        rw [am_up_eq]
        rcases hg with w | w
        · exact Or.inl ⟨w.1, by rw [w.1]; decide, fun k hk => absurd hk (by omega)⟩
        · exact Or.inr ⟨w.1, Or.inl w.1⟩
      have kL2 := @lp_co2 y x c n (coQ P m hei c (p : Int) o st) (am_up st 599 0 g) (nb P m + p) hxa ha hn8 (fun s a5 s1 s2 => by
        have e46 : s 2146 y.toNatClampNeg = st 2146 m := by rw [s1 2146 (by decide), am_up_bank (by decide), hm]
        have kL3 := @lp_co3 y x c n (coQ P m hei c (p : Int) o st) s (nb P m + p) hxa ha hy8 (by rw [e46]; omega) (fun s' r1 r2 r3 r4 => by
          rw [hm] at r3 r4
          exact kOld h0 g hg s s' s1 s2 r1 r2 r3 r4) (s 2146 y.toNatClampNeg).toInt.toNat 0 s (by rw [e46]; omega) (fun _ _ _ => rfl) (fun _ _ => rfl) (fun k hk => absurd hk (by omega)) (Or.inl ⟨rfl, fun k hk => absurd hk (by omega)⟩)
        refine r_ic (v := 0) (q := 226) d_MO_come_225 rfl rfl ?_
        refine r_is5 (q := 228) d_MO_come_226 rfl ?_
        exact kL3) n.toInt.toNat 0 (am_up st 599 0 g) (by omega) (fun _ _ => rfl) hg01
      refine r_ic (v := 0) (q := 158) d_MO_come_157 rfl rfl ?_
      refine r_is5 (q := 160) d_MO_come_158 rfl ?_
      exact kL2
    have k82 : st 2155 x.toNatClampNeg = 0 → am_co y x c n (coQ P m hei c (p : Int) o st) 82 (some (.inl 0)) (am_up (am_up (am_up st 2155 x.toNatClampNeg 1) 600 0 1) 2157 x.toNatClampNeg n) := fun h0 => lp_co1 hxa ha (kNew h0) 16 0 _ (by omega) (fun _ _ => rfl) (fun _ _ => rfl) (fun k hk => absurd hk (by omega))
    clear kNew kOld hbg hS
    refine r_al0 (q := 51) d_MO_come_50 rfl ?_
    refine gt_MO_has (q := 54) d_MO_come_51 rfl rfl ?_
    refine r_il2 (q := 55) d_MO_come_54 rfl ?_
    refine ld_155 (q := 56) d_MO_come_55 ?_ rfl ?_
    · first | exact vx1 | exact vx
    refine r_zne (tgt := 130) (q := 59) d_MO_come_56 rfl rfl (fun e56 => ?_) (fun e56 => ?_)
    · skip
      refine r_al0 (q := 131) d_MO_come_130 rfl ?_
      refine r_al0 (q := 132) d_MO_come_131 rfl ?_
      refine gt_MO_good (q := 135) d_MO_come_132 rfl rfl ?_
      refine r_zeq (tgt := 153) (q := 138) d_MO_come_135 rfl rfl (fun e135 => ?_) (fun e135 => ?_)
      · skip
        refine r_ic (v := 0) (q := 154) d_MO_come_153 rfl rfl ?_
        refine pt_MO_good (q := 157) d_MO_come_154 rfl (by first | assumption | (refine pc_of hP ?_; (repeat (first | assumption | exact md_refl | refine md_up ?_ rfl | refine md_fill ?_ rfl | (unfold ik; refine md_up ?_ rfl))); done) | (refine pm_of hP ?_; (repeat (first | assumption | exact md_refl | refine md_up ?_ rfl | refine md_fill ?_ rfl | (unfold ik; refine md_up ?_ rfl))); done) | omega | decide | ((try simp +decide only [b01, b10, b11, am_up, ik, and_true, and_false, true_and, false_and, if_true, if_false, nn_eq] at *) <;> (try simp only [sw_or, sw_all, or_false, and_true, i32_lt, i32_le, i32_eq, i32_addw, i32_subw, i32_mulw, Int32.reduceToInt] at *) <;> omega) | (apply_assumption; done)) rfl ?_
        first | exact k82 e56 | exact k130 e56 1 (Or.inl ⟨rfl, e135, e146⟩) | exact k130 e56 0 (Or.inr ⟨rfl, Or.inr e146⟩) | exact k130 e56 0 (Or.inr ⟨rfl, Or.inl e135⟩)
      · skip
        refine r_al0 (q := 139) d_MO_come_138 rfl ?_
        refine gt_MO_high (q := 142) d_MO_come_139 rfl rfl ?_
        refine r_il2 (q := 143) d_MO_come_142 rfl ?_
        refine ld_157 (q := 144) d_MO_come_143 ?_ rfl ?_
        · first | exact vx1 | exact vx
        refine r_il4 (q := 146) d_MO_come_144 rfl ?_
        refine r_cne (tgt := 153) (q := 149) d_MO_come_146 rfl rfl (fun e146 => ?_) (fun e146 => ?_)
        · skip
          refine r_ic (v := 0) (q := 154) d_MO_come_153 rfl rfl ?_
          refine pt_MO_good (q := 157) d_MO_come_154 rfl (by first | assumption | (refine pc_of hP ?_; (repeat (first | assumption | exact md_refl | refine md_up ?_ rfl | refine md_fill ?_ rfl | (unfold ik; refine md_up ?_ rfl))); done) | (refine pm_of hP ?_; (repeat (first | assumption | exact md_refl | refine md_up ?_ rfl | refine md_fill ?_ rfl | (unfold ik; refine md_up ?_ rfl))); done) | omega | decide | ((try simp +decide only [b01, b10, b11, am_up, ik, and_true, and_false, true_and, false_and, if_true, if_false, nn_eq] at *) <;> (try simp only [sw_or, sw_all, or_false, and_true, i32_lt, i32_le, i32_eq, i32_addw, i32_subw, i32_mulw, Int32.reduceToInt] at *) <;> omega) | (apply_assumption; done)) rfl ?_
          first | exact k82 e56 | exact k130 e56 1 (Or.inl ⟨rfl, e135, e146⟩) | exact k130 e56 0 (Or.inr ⟨rfl, Or.inr e146⟩) | exact k130 e56 0 (Or.inr ⟨rfl, Or.inl e135⟩)
        · skip
          refine r_ic (v := 1) (q := 150) d_MO_come_149 rfl rfl ?_
          refine am_go (tgt := 154) d_MO_come_150 rfl ?_
          refine pt_MO_good (q := 157) d_MO_come_154 rfl (by first | assumption | (refine pc_of hP ?_; (repeat (first | assumption | exact md_refl | refine md_up ?_ rfl | refine md_fill ?_ rfl | (unfold ik; refine md_up ?_ rfl))); done) | (refine pm_of hP ?_; (repeat (first | assumption | exact md_refl | refine md_up ?_ rfl | refine md_fill ?_ rfl | (unfold ik; refine md_up ?_ rfl))); done) | omega | decide | ((try simp +decide only [b01, b10, b11, am_up, ik, and_true, and_false, true_and, false_and, if_true, if_false, nn_eq] at *) <;> (try simp only [sw_or, sw_all, or_false, and_true, i32_lt, i32_le, i32_eq, i32_addw, i32_subw, i32_mulw, Int32.reduceToInt] at *) <;> omega) | (apply_assumption; done)) rfl ?_
          first | exact k82 e56 | exact k130 e56 1 (Or.inl ⟨rfl, e135, e146⟩) | exact k130 e56 0 (Or.inr ⟨rfl, Or.inr e146⟩) | exact k130 e56 0 (Or.inr ⟨rfl, Or.inl e135⟩)
    · skip
      refine r_al0 (q := 60) d_MO_come_59 rfl ?_
      refine gt_MO_has (q := 63) d_MO_come_60 rfl rfl ?_
      refine r_il2 (q := 64) d_MO_come_63 rfl ?_
      refine r_ic (v := 1) (q := 65) d_MO_come_64 rfl rfl ?_
      refine sv_155 (q := 66) d_MO_come_65 (by first | assumption | (refine pc_of hP ?_; (repeat (first | assumption | exact md_refl | refine md_up ?_ rfl | refine md_fill ?_ rfl | (unfold ik; refine md_up ?_ rfl))); done) | (refine pm_of hP ?_; (repeat (first | assumption | exact md_refl | refine md_up ?_ rfl | refine md_fill ?_ rfl | (unfold ik; refine md_up ?_ rfl))); done) | omega | decide | ((try simp +decide only [b01, b10, b11, am_up, ik, and_true, and_false, true_and, false_and, if_true, if_false, nn_eq] at *) <;> (try simp only [sw_or, sw_all, or_false, and_true, i32_lt, i32_le, i32_eq, i32_addw, i32_subw, i32_mulw, Int32.reduceToInt] at *) <;> omega) | (apply_assumption; done)) ?_ rfl ?_
      · first | exact vx1 | exact vx
      refine r_al0 (q := 67) d_MO_come_66 rfl ?_
      refine r_ic (v := 1) (q := 68) d_MO_come_67 rfl rfl ?_
      refine pt_MO_more (q := 71) d_MO_come_68 rfl (by first | assumption | (refine pc_of hP ?_; (repeat (first | assumption | exact md_refl | refine md_up ?_ rfl | refine md_fill ?_ rfl | (unfold ik; refine md_up ?_ rfl))); done) | (refine pm_of hP ?_; (repeat (first | assumption | exact md_refl | refine md_up ?_ rfl | refine md_fill ?_ rfl | (unfold ik; refine md_up ?_ rfl))); done) | omega | decide | ((try simp +decide only [b01, b10, b11, am_up, ik, and_true, and_false, true_and, false_and, if_true, if_false, nn_eq] at *) <;> (try simp only [sw_or, sw_all, or_false, and_true, i32_lt, i32_le, i32_eq, i32_addw, i32_subw, i32_mulw, Int32.reduceToInt] at *) <;> omega) | (apply_assumption; done)) rfl ?_
      refine r_al0 (q := 72) d_MO_come_71 rfl ?_
      refine gt_MO_high (q := 75) d_MO_come_72 rfl rfl ?_
      refine r_il2 (q := 76) d_MO_come_75 rfl ?_
      refine r_il4 (q := 78) d_MO_come_76 rfl ?_
      refine sv_157 (q := 79) d_MO_come_78 ?_ rfl ?_
      · first | exact vx1 | exact vx
      refine r_ic (v := 0) (q := 80) d_MO_come_79 rfl rfl ?_
      refine r_is5 (q := 82) d_MO_come_80 rfl ?_
      first | exact k82 e56 | exact k130 e56 1 (Or.inl ⟨rfl, e135, e146⟩) | exact k130 e56 0 (Or.inr ⟨rfl, Or.inr e146⟩) | exact k130 e56 0 (Or.inr ⟨rfl, Or.inl e135⟩)
  subst hm
  have k14 : ∀ n, n = coR c (st 598 0) → am_co y x c n (coQ P y.toNatClampNeg hei c z o st) 14 none st := by
    intro n hn
    have k50' := k50 n hn
    clear k50 kBad hS hNone
    refine r_il2 (q := 15) d_MO_come_14 rfl ?_
    refine r_al0 (q := 16) d_MO_come_15 rfl ?_
    refine gt_MO_begin (q := 19) d_MO_come_16 rfl rfl ?_
    refine r_il1 (q := 20) d_MO_come_19 rfl ?_
    refine ld_143 (q := 21) d_MO_come_20 ?_ rfl ?_
    · first | exact vy | exact vy9
    refine r_al0 (q := 22) d_MO_come_21 rfl ?_
    refine gt_MO_length (q := 25) d_MO_come_22 rfl rfl ?_
    refine r_il1 (q := 26) d_MO_come_25 rfl ?_
    refine ld_144 (q := 27) d_MO_come_26 ?_ rfl ?_
    · first | exact vy | exact vy9
    refine r_iadd (q := 28) d_MO_come_27 rfl ?_
    refine r_cge (tgt := 44) (q := 31) d_MO_come_28 rfl rfl (fun e28 => ?_) (fun e28 => ?_)
    · skip
      refine r_al0 (q := 45) d_MO_come_44 rfl ?_
      refine r_ic (v := 0) (q := 46) d_MO_come_45 rfl rfl ?_
      refine pt_MO_good (q := 49) d_MO_come_46 rfl (by first | assumption | (refine pc_of hP ?_; (repeat (first | assumption | exact md_refl | refine md_up ?_ rfl | refine md_fill ?_ rfl | (unfold ik; refine md_up ?_ rfl))); done) | (refine pm_of hP ?_; (repeat (first | assumption | exact md_refl | refine md_up ?_ rfl | refine md_fill ?_ rfl | (unfold ik; refine md_up ?_ rfl))); done) | omega | decide | ((try simp +decide only [b01, b10, b11, am_up, ik, and_true, and_false, true_and, false_and, if_true, if_false, nn_eq] at *) <;> (try simp only [sw_or, sw_all, or_false, and_true, i32_lt, i32_le, i32_eq, i32_addw, i32_subw, i32_mulw, Int32.reduceToInt] at *) <;> omega) | (apply_assumption; done)) rfl ?_
      refine r_rv d_MO_come_49 ?_
      first | exact kOut e28 | exact kNoR e32 e41
    · skip
      refine r_il3 (q := 32) d_MO_come_31 rfl ?_
      refine r_zeq (tgt := 50) (q := 35) d_MO_come_32 rfl rfl (fun e32 => ?_) (fun e32 => ?_)
      · skip
        first | exact k50' e28 (Or.inl e32) | exact k50' e28 (Or.inr e41)
      · skip
        refine r_al0 (q := 36) d_MO_come_35 rfl ?_
        refine gt_MO_height (q := 39) d_MO_come_36 rfl rfl ?_
        refine r_il1 (q := 40) d_MO_come_39 rfl ?_
        refine ld_147 (q := 41) d_MO_come_40 ?_ rfl ?_
        · first | exact vy | exact vy9
        refine r_zne (tgt := 50) (q := 44) d_MO_come_41 rfl rfl (fun e41 => ?_) (fun e41 => ?_)
        · skip
          first | exact k50' e28 (Or.inl e32) | exact k50' e28 (Or.inr e41)
        · skip
          refine r_al0 (q := 45) d_MO_come_44 rfl ?_
          refine r_ic (v := 0) (q := 46) d_MO_come_45 rfl rfl ?_
          refine pt_MO_good (q := 49) d_MO_come_46 rfl (by first | assumption | (refine pc_of hP ?_; (repeat (first | assumption | exact md_refl | refine md_up ?_ rfl | refine md_fill ?_ rfl | (unfold ik; refine md_up ?_ rfl))); done) | (refine pm_of hP ?_; (repeat (first | assumption | exact md_refl | refine md_up ?_ rfl | refine md_fill ?_ rfl | (unfold ik; refine md_up ?_ rfl))); done) | omega | decide | ((try simp +decide only [b01, b10, b11, am_up, ik, and_true, and_false, true_and, false_and, if_true, if_false, nn_eq] at *) <;> (try simp only [sw_or, sw_all, or_false, and_true, i32_lt, i32_le, i32_eq, i32_addw, i32_subw, i32_mulw, Int32.reduceToInt] at *) <;> omega) | (apply_assumption; done)) rfl ?_
          refine r_rv d_MO_come_49 ?_
          first | exact kOut e28 | exact kNoR e32 e41
  have m0 : c = 0 → st 598 0 = coR c (st 598 0) := fun h => (if_pos h).symm
  have m1 : ¬ c = 0 → (1 : Int32) = coR c (st 598 0) := fun h => (if_neg h).symm
  clear k50 kOut kNoR kBad hS hNone
  refine r_il3 (q := 1) d_MO_come_0 rfl ?_
  refine r_zeq (tgt := 8) (q := 4) d_MO_come_1 rfl rfl (fun e1 => ?_) (fun e1 => ?_)
  · skip
    refine r_al0 (q := 9) d_MO_come_8 rfl ?_
    refine gt_MO_top (q := 12) d_MO_come_9 rfl rfl ?_
    refine r_is4 (q := 14) d_MO_come_12 rfl ?_
    first | exact k14 _ (m0 e1) | exact k14 _ (m1 e1)
  · skip
    refine r_ic (v := 1) (q := 5) d_MO_come_4 rfl rfl ?_
    refine am_go (tgt := 12) d_MO_come_5 rfl ?_
    refine r_is4 (q := 14) d_MO_come_12 rfl ?_
    first | exact k14 _ (m0 e1) | exact k14 _ (m1 e1)

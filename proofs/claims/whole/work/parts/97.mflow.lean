/-! written by wip/whole/gen/walk.py out of 97.mflow.txt -/
def ffQ (P : am_S) (m : Nat) (T : am_T) (p : Nat) (st st' : am_S) : Prop := am_md mL st st' ∧ oM (nb P m) (nl P m) st st' ∧ ((st' 599 0 = 1 ∧ ∃ T', MI P m st' T' ∧ le (nl P m) T T' ∧ SO P m T' p (T 0 p) (T 1 p) (T 2 p) ∧ CH (nl P m) T T' (st 600 0) (st' 600 0)) ∨ (st' 599 0 = 0 ∧ ∀ U, ¬ Typ P m U))
theorem MI_bk {P : am_S} {m : Nat} {s t : am_S} {T : am_T} (h : MI P m s T) (h5 : t 2155 = s 2155) (h6 : t 2156 = s 2156) (h7 : t 2157 = s 2157) : MI P m t T := by
  refine ⟨?_, h.2⟩
  unfold MT
  rw [h5, h6, h7]
  exact h.1
theorem oM_bk {B N : Nat} {s t u : am_S} (h : oM B N s t) (h5 : u 2155 = t 2155) (h6 : u 2156 = t 2156) (h7 : u 2157 = t 2157) : oM B N s u := by
  unfold oM
  rw [h5, h6, h7]
  exact h
theorem lp_MO_cp {y x b : Int32} {K : am_S → Prop} {st0 : am_S} {a : Nat} (hx : x.toInt = (a : Int)) (ha : a < 200) (hK : ∀ s : am_S, ∀ v, (∀ b, ¬ b = 2158 → s b = st0 b) → (∀ k, k < 16 → s 2158 k = st0 2156 (16 * a + k)) → am_AW c_MO_flowFrom g_MO_flowFrom (fun o' st' => am_ok none o' ∧ am_kv K o' st') 42 [some (.inr (.inl 128)), some (.inl y), some (.inl x), some (.inl b), some (.inl v)] [] s) : ∀ (d j : Nat) (st : am_S), j + d = 16 → (∀ b, ¬ b = 2158 → st b = st0 b) → (∀ k, k < j → st 2158 k = st0 2156 (16 * a + k)) → am_AW c_MO_flowFrom g_MO_flowFrom (fun o' st' => am_ok none o' ∧ am_kv K o' st') 10 [some (.inr (.inl 128)), some (.inl y), some (.inl x), some (.inl b), some (.inl (nI j))] [] st := by
  intro d
  induction d with
  | zero =>
    intro j st k1 k2 k3
    have e : j = 16 := by omega
    subst e
    have kQ := hK st (nI 16) k2 k3
    clear hK k2 k3
    refine r_il4 (q := 12) d_MO_flowFrom_10 rfl ?_
    refine r_bp (v := 16) (q := 14) d_MO_flowFrom_12 rfl rfl ?_
    refine r_cge (tgt := 42) (q := 17) d_MO_flowFrom_14 rfl rfl (fun e14 => ?_) (fun e14 => ?_)
    · skip
      first | exact kQ | exact absurd (by decide) e14
    · skip
      first | exact kQ | exact absurd (by decide) e14
  | succ d ih =>
    intro j st k1 k2 k3
    have hn : (nI j).toInt = j := nI_t (by omega)
    have ei : (16 * x + nI j).toNatClampNeg = 16 * a + j := by
      rw [nn_eq, i32_addw, i32_mulw, hn, hx]
      simp only [Int32.reduceToInt]
      omega
    have vi : vp_in (16 * x + nI j) 3200 := by
      refine vp_of ?_ ?_ <;> (rw [i32_addw, i32_mulw, hn, hx]; simp only [Int32.reduceToInt]; omega)
    have vj : vp_in (nI j) 16 := vp_of (by omega) (by omega)
    have ej : (nI j).toNatClampNeg = j := nI_c (by omega)
    have kA : am_AW c_MO_flowFrom g_MO_flowFrom (fun o' st' => am_ok none o' ∧ am_kv K o' st') 10 [some (.inr (.inl 128)), some (.inl y), some (.inl x), some (.inl b), some (.inl (nI j + 1))] [] (am_up st 2158 (nI j).toNatClampNeg (st 2156 (16 * x + nI j).toNatClampNeg)) := by
      rw [nI_s, ei, ej]
      refine ih (j + 1) _ (by omega) (fun b hb => by rw [am_up_bank hb]; exact k2 b hb) ?_
      intro k hk
      by_cases e : k = j
      · rw [e, am_up_eq, k2 2156 (by decide)]
      · rw [am_up_ne (by omega)]
        exact k3 k (by omega)
    have hlt : ¬ 16 ≤ nI j := by
      rw [i32_le, hn]
      simp only [Int32.reduceToInt]
      omega
    clear ih hK k2 k3
    refine r_il4 (q := 12) d_MO_flowFrom_10 rfl ?_
    refine r_bp (v := 16) (q := 14) d_MO_flowFrom_12 rfl rfl ?_
    refine r_cge (tgt := 42) (q := 17) d_MO_flowFrom_14 rfl rfl (fun e14 => ?_) (fun e14 => ?_)
    · skip
      first | exact kA | exact absurd e14 hlt
    · skip
      refine r_al0 (q := 18) d_MO_flowFrom_17 rfl ?_
      refine gt_MO_now (q := 21) d_MO_flowFrom_18 rfl rfl ?_
      refine r_il4 (q := 23) d_MO_flowFrom_21 rfl ?_
      refine r_al0 (q := 24) d_MO_flowFrom_23 rfl ?_
      refine gt_MO_types (q := 27) d_MO_flowFrom_24 rfl rfl ?_
      refine r_bp (v := 16) (q := 29) d_MO_flowFrom_27 rfl rfl ?_
      refine r_il2 (q := 30) d_MO_flowFrom_29 rfl ?_
      refine r_imul (q := 31) d_MO_flowFrom_30 rfl ?_
      refine r_il4 (q := 33) d_MO_flowFrom_31 rfl ?_
      refine r_iadd (q := 34) d_MO_flowFrom_33 rfl ?_
      refine ld_156 (q := 35) d_MO_flowFrom_34 ?_ rfl ?_
      · first | exact vi | exact vj
      refine sv_158 (q := 36) d_MO_flowFrom_35 ?_ rfl ?_
      · first | exact vi | exact vj
      refine r_in4 (v := 1) (q := 39) d_MO_flowFrom_36 rfl rfl ?_
      refine am_go (tgt := 10) d_MO_flowFrom_39 rfl ?_
      first | exact kA | exact absurd e14 hlt
theorem lw_LZ {P : am_S} {m p : Nat} {L : Int32} (hv : VP P) (hm : m < nM P) (ho : okI P m p) (h : LZ P m L) : LZ P m (lw (pO P (nb P m + p)) (pN P (nb P m + p)) L) := by
  unfold lw
  by_cases e : ty_wr (pO P (nb P m + p)) = 0
  · rw [if_pos e]
    exact h
  · rw [if_neg e]
    obtain ⟨n, n1, n2⟩ := okI_n hv hm ho (wr_loc e)
    have n3 := ho.2.2
    rw [oh_loc (wr_loc e), n2, i32_lt, nI_t (by omega)] at n3
    intro k k1 k2
    rw [n2, at_w12 (wr_c.resolve_left e) (by omega) (by omega), if_neg (by omega)]
    exact h k k1 k2
theorem res_SO {P : am_S} {m p : Nat} {U : am_T} {L R H : Int32} (h : SO P m U p L R H) : ∃ R' H', resA P m (P 5 m) (pO P (nb P m + p)) (pN P (nb P m + p)) L R H = some (lw (pO P (nb P m + p)) (pN P (nb P m + p)) L, R', H') ∧ ss P m (pO P (nb P m + p)) (pN P (nb P m + p)) R H = some (R', H') := by
  obtain ⟨-, a, R', H', b, c, -⟩ := h
  refine ⟨R', H', ?_, b⟩
  unfold resA
  rw [if_pos a, b]
  simp only
  rw [if_pos c]
theorem res_inv {P : am_S} {m : Nat} {hei op n L R H L' R' H' : Int32} (h : resA P m hei op n L R H = some (L', R', H')) : (ty_rl op = 0 ∨ ty_at L n = ty_rl op) ∧ ss P m op n R H = some (R', H') ∧ H'.toInt ≤ hei.toInt ∧ L' = lw op n L := by
  unfold resA at h
  split at h
  · rename_i a
    split at h
    · rename_i q hq
      split at h
      · rename_i b
        rw [Option.some.injEq, Prod.mk.injEq, Prod.mk.injEq] at h
        obtain ⟨h1, h2, h3⟩ := h
        refine ⟨a, ?_, by rw [← h3]; exact b, h1.symm⟩
        rw [hq, ← h2, ← h3]
      · cases h
    · cases h
  · cases h
theorem sp_MO_flowFrom {P : am_S} {x y : Int32} {p : Nat} {T : am_T} {st : am_S} {f : am_S → Prop} (c1 : PM st P) (c2 : VP P) (c3 : 0 ≤ y.toInt ∧ y.toNatClampNeg < nM P) (c4 : SHP P y.toNatClampNeg) (c5 : x.toInt = (nb P y.toNatClampNeg : Int) + p) (c6 : p < nl P y.toNatClampNeg ∧ ¬ T 2 p = -1) (c7 : MI P y.toNatClampNeg st T) (c8 : st 599 0 = 1) (h1 : ∀ q : {q : am_S // ffQ P y.toNatClampNeg T p st q}, f q.1) : wp_MO_flowFrom [.inr (.inl 128), .inl y, .inl x] st (am_kv f) := by
  refine kv_of (g := ffQ P y.toNatClampNeg T p st) mo_MO_flowFrom ?_ h1
  refine ⟨⟨rfl, Nat.le_of_ble_eq_true rfl⟩, ?_⟩
  clear h1
  obtain ⟨v8, ⟨v1, v2, v3, v4, v5⟩, ⟨u1, u2, u3, u4, u5, u6⟩, -⟩ := mf c1 c2 c3.2
  have hy8 : 0 ≤ y.toInt ∧ y.toInt < 8 := ⟨c3.1, by rw [nn_eq] at v8; omega⟩
  have vy9 : vp_in y 9 := vp_of hy8.1 (by omega)
  have hb : (nb P y.toNatClampNeg : Int) = (st 2143 y.toNatClampNeg).toInt := by unfold nb; rw [← c1.1.2.1 _ c3.2]; omega
  have hl : (nl P y.toNatClampNeg : Int) = (st 2144 y.toNatClampNeg).toInt := by unfold nl; rw [← c1.1.2.2.1]; omega
  have h47 : (P 5 y.toNatClampNeg).toInt = (st 2147 y.toNatClampNeg).toInt := by rw [c1.1.2.2.2.2.2.1]
  have hx0 : 0 ≤ x.toInt ∧ x.toInt < 200 := by omega
  have vx : vp_in x 200 := vp_of hx0.1 hx0.2
  have hxn : x.toNatClampNeg = nb P y.toNatClampNeg + p := by rw [nn_eq]; omega
  have hxa : x.toInt = ((nb P y.toNatClampNeg + p : Nat) : Int) := by omega
  obtain ⟨hbg, hWS⟩ := c7.2.1 p c6.1 c6.2
  have ho := c4.1 p c6.1 hbg
  have hb0 := c2.2.1 (nb P y.toNatClampNeg + p)
  have hz0 := pZ_1 c2 ho.1
  have hz1 := ho.2.1
  have hxz : x.toInt + (pZ P x.toNatClampNeg).toInt ≤ 200 := by rw [hxn]; omega
  have hst : st 2142 x.toNatClampNeg = P 0 x.toNatClampNeg := by rw [c1.1.1]
  have hLZ := c7.2.2.2 p c6.1 c6.2
  have hloc : op_loc (pO P x.toNatClampNeg) → ∃ n, n < 8 ∧ pN P x.toNatClampNeg = nI n := by rw [hxn]; exact okI_n c2 c3.2 ho
  have h184 : P 0 x.toNatClampNeg = 184 → 0 ≤ (pN P x.toNatClampNeg).toInt ∧ (pN P x.toNatClampNeg).toNatClampNeg < nM P := by
    intro e
    have o3 := ho.2.2
    rw [← hxn] at o3
    have e2 : pO P x.toNatClampNeg = dO (P 0 x.toNatClampNeg) := rfl
    rw [e2, e] at o3
    have h0 : 0 ≤ (P 12 0).toInt := c2.1.1
    rw [← e, oh_ca h0 e, i32_le, i32_le, i32_subw] at o3
    have := c2.1.2.1
    simp only [Int32.reduceToInt] at o3
    unfold nM
    have e9 := @nn_eq (pN P x.toNatClampNeg)
    omega
  have hW : op_jump (P 0 x.toNatClampNeg) → (0 ≤ (x + 1).toInt ∧ (x + 1).toInt < 199) ∧ wv (P 0 (x + 1).toNatClampNeg) (P 0 (x + 1 + 1).toNatClampNeg) = pN P x.toNatClampNeg ∧ -32768 ≤ (pN P x.toNatClampNeg).toInt ∧ (pN P x.toNatClampNeg).toInt ≤ 32767 := by
    intro e
    rw [hxn] at e
    obtain ⟨d1, d2, -⟩ := @dN_j _ (P 0 (nb P y.toNatClampNeg + p + 1)) (P 0 (nb P y.toNatClampNeg + p + 2)) hb0.1 hb0.2 e
    have d3 : (pZ P (nb P y.toNatClampNeg + p)).toInt = 3 := by unfold pZ; rw [d2]; rfl
    have g1 : (x + 1).toInt = x.toInt + 1 := by
      rw [i32_addw]
      simp only [Int32.reduceToInt]
      omega
    have g2 : (x + 1 + 1).toInt = x.toInt + 2 := by
      rw [i32_addw, g1]
      simp only [Int32.reduceToInt]
      omega
    have w1 : (x + 1).toNatClampNeg = nb P y.toNatClampNeg + p + 1 ∧ (x + 1 + 1).toNatClampNeg = nb P y.toNatClampNeg + p + 2 ∧ 0 ≤ (x + 1).toInt ∧ (x + 1).toInt < 199 := by
      have g3 := @nn_eq (x + 1)
      have g4 := @nn_eq (x + 1 + 1)
      omega
    refine ⟨w1.2.2, ?_, ?_⟩
    · rw [w1.1, w1.2.1, ← d1, hxn]
      rfl
    · rw [hxn]
      exact pN_n c2 ((oj_O hb0.1 hb0.2).mpr e)
  have hjO : op_jump (pO P (nb P y.toNatClampNeg + p)) ↔ op_jump (P 0 x.toNatClampNeg) := by rw [hxn]; exact oj_O hb0.1 hb0.2
  have h3O : ∀ v : Int32, v = 167 ∨ v = 172 ∨ v = 177 → (pO P (nb P y.toNatClampNeg + p) = v ↔ P 0 x.toNatClampNeg = v) := by
    intro v hv
    rw [hxn]
    have key : ∀ b : Fin 256, (dO (nI b.val) = 167 ↔ nI b.val = 167) ∧ (dO (nI b.val) = 172 ↔ nI b.val = 172) ∧ (dO (nI b.val) = 177 ↔ nI b.val = 177) := by
      unfold dO
      decide +kernel
    have := by_dec (Q := fun b => (dO b = 167 ↔ b = 167) ∧ (dO b = 172 ↔ b = 172) ∧ (dO b = 177 ↔ b = 177)) key hb0.1 hb0.2
    rcases hv with e | e | e <;> subst e
    · exact this.1
    · exact this.2.1
    · exact this.2.2
  generalize hL0 : T 0 p = L0 at *
  generalize hR0 : T 1 p = R0 at *
  generalize hH0 : T 2 p = H0 at *
  have hSO : ∀ U, Typ P y.toNatClampNeg U → SO P y.toNatClampNeg U p L0 R0 H0 := by
    intro U hU
    obtain ⟨w1, w2, w3⟩ := c7.2.2.1 U hU p c6.1 (by rw [hH0]; exact c6.2)
    have := hU.2 p c6.1 (by rw [w1, hH0]; exact c6.2)
    rw [w1, w2, hR0, hH0] at this
    rw [hL0] at w3
    exact SO_lel c2 c3.2 ho this w3
  have kBad : ∀ s, am_md mL st s → oM (nb P y.toNatClampNeg) (nl P y.toNatClampNeg) st s → s 599 0 = 0 → (∀ U, ¬ Typ P y.toNatClampNeg U) → ffQ P y.toNatClampNeg T p st s := fun s s1 s2 s3 s4 => ⟨s1, s2, Or.inr ⟨s3, s4⟩⟩
  -- after the instruction
  have k92 : ∀ L' R' H' s w, w.toInt = (p : Int) → (ty_rl (pO P (nb P y.toNatClampNeg + p)) = 0 ∨ ty_at L0 (pN P (nb P y.toNatClampNeg + p)) = ty_rl (pO P (nb P y.toNatClampNeg + p))) → ss P y.toNatClampNeg (pO P (nb P y.toNatClampNeg + p)) (pN P (nb P y.toNatClampNeg + p)) R0 H0 = some (R', H') → H'.toInt ≤ (P 5 y.toNatClampNeg).toInt → L' = lw (pO P (nb P y.toNatClampNeg + p)) (pN P (nb P y.toNatClampNeg + p)) L0 → GS P y.toNatClampNeg (P 5 y.toNatClampNeg) st T L' R' H' (fun T' => hX P y.toNatClampNeg p (P 7 y.toNatClampNeg).toInt.toNat L0 T') s → am_AW c_MO_flowFrom g_MO_flowFrom (fun o' st' => am_ok none o' ∧ am_kv (ffQ P y.toNatClampNeg T p st) o' st') 92 [some (.inr (.inl 128)), some (.inl y), some (.inl x), some (.inl (P 0 x.toNatClampNeg)), some (.inl w)] [] s := by
    intro L' R' H' s w hw q1 q2 q3 q4 hs
    have hLZ' : LZ P y.toNatClampNeg L' := by rw [q4]; exact lw_LZ c2 c3.2 ho hLZ
    have hSU : ∀ U, Typ P y.toNatClampNeg U → hX P y.toNatClampNeg p (P 7 y.toNatClampNeg).toInt.toNat L' U ∧ (op_jump (pO P (nb P y.toNatClampNeg + p)) → Ar (nl P y.toNatClampNeg) U ((p : Int) + (pN P (nb P y.toNatClampNeg + p)).toInt) L' R' H') ∧ (¬ pO P (nb P y.toNatClampNeg + p) = 167 ∧ ¬ pO P (nb P y.toNatClampNeg + p) = 172 ∧ ¬ pO P (nb P y.toNatClampNeg + p) = 177 → Ar (nl P y.toNatClampNeg) U ((p : Int) + (pZ P (nb P y.toNatClampNeg + p)).toInt) L' R' H') := by
      intro U hU
      obtain ⟨z1, -, R2, H2, z2, -, z3, z4, z5⟩ := hSO U hU
      rw [q2, Option.some.injEq, Prod.mk.injEq] at z2
      rw [q4, z2.1, z2.2]
      exact ⟨fun k hk hc => ⟨(z1 k hk hc).1, z3 k hk hc⟩, z4, z5⟩
    have kEnd : ∀ s', GS P y.toNatClampNeg (P 5 y.toNatClampNeg) st T L' R' H' (fun T' => (hX P y.toNatClampNeg p (P 7 y.toNatClampNeg).toInt.toNat L0 T' ∧ hX P y.toNatClampNeg p (P 7 y.toNatClampNeg).toInt.toNat L' T') ∧ (op_jump (P 0 x.toNatClampNeg) → Ar (nl P y.toNatClampNeg) T' ((p : Int) + (pN P x.toNatClampNeg).toInt) L' R' H') ∧ (¬ P 0 x.toNatClampNeg = 167 ∧ ¬ P 0 x.toNatClampNeg = 172 ∧ ¬ P 0 x.toNatClampNeg = 177 → Ar (nl P y.toNatClampNeg) T' ((p : Int) + (pZ P x.toNatClampNeg).toInt) L' R' H')) s' → ffQ P y.toNatClampNeg T p st s' := by
      intro s' g
      obtain ⟨a1, a2, a3⟩ := g
      refine ⟨a1, a2, ?_⟩
      rcases a3 with ⟨b1, T', b2, b3, b4, b5⟩ | ⟨b1, b2⟩
      · refine Or.inl ⟨b1.2.1, T', b2, b3, ?_, b5⟩
        rw [hL0, hR0, hH0]
        refine ⟨b4.1.1, q1, R', H', q2, q3, ?_, ?_, ?_⟩
        · rw [← q4]
          exact fun k hk hc => (b4.1.2 k hk hc).2
        · rw [← q4, hjO]
          have := b4.2.1
          rw [hxn] at this ⊢
          exact this
        · rw [← q4, h3O 167 (by simp), h3O 172 (by simp), h3O 177 (by simp)]
          have := b4.2.2
          rw [hxn] at this ⊢
          exact this
      · exact Or.inr ⟨b1.2, b2⟩
    have k121 : ∀ s', GS P y.toNatClampNeg (P 5 y.toNatClampNeg) st T L' R' H' (fun T' => (hX P y.toNatClampNeg p (P 7 y.toNatClampNeg).toInt.toNat L0 T' ∧ hX P y.toNatClampNeg p (P 7 y.toNatClampNeg).toInt.toNat L' T') ∧ (op_jump (P 0 x.toNatClampNeg) → Ar (nl P y.toNatClampNeg) T' ((p : Int) + (pN P x.toNatClampNeg).toInt) L' R' H')) s' → am_AW c_MO_flowFrom g_MO_flowFrom (fun o' st' => am_ok none o' ∧ am_kv (ffQ P y.toNatClampNeg T p st) o' st') 121 [some (.inr (.inl 128)), some (.inl y), some (.inl x), some (.inl (P 0 x.toNatClampNeg)), some (.inl w)] [] s' := by
      intro s' g
      have bb := c2.2.1 x.toNatClampNeg
      have eZ : dZ (P 0 x.toNatClampNeg) = pZ P x.toNatClampNeg := rfl
      have d4 : (x + dZ (P 0 x.toNatClampNeg)).toInt = (nb P y.toNatClampNeg : Int) + ((p : Int) + (pZ P x.toNatClampNeg).toInt) := by
        rw [eZ, i32_addw, hxn]
        omega
      have d5 : 0 ≤ (p : Int) + (pZ P x.toNatClampNeg).toInt ∧ ((p : Int) + (pZ P x.toNatClampNeg).toInt < (nl P y.toNatClampNeg : Int) → bg P y.toNatClampNeg ((p : Int) + (pZ P x.toNatClampNeg).toInt).toNat) := by
        rw [hxn]
        refine ⟨by omega, fun _ => ?_⟩
        have e : ((p : Int) + (pZ P (nb P y.toNatClampNeg + p)).toInt).toNat = p + (pZ P (nb P y.toNatClampNeg + p)).toInt.toNat := by omega
        rw [e]
        exact tg_n c2 hbg ho
      have d9 : moX (nl P y.toNatClampNeg) (fun T' => (hX P y.toNatClampNeg p (P 7 y.toNatClampNeg).toInt.toNat L0 T' ∧ hX P y.toNatClampNeg p (P 7 y.toNatClampNeg).toInt.toNat L' T') ∧ (op_jump (P 0 x.toNatClampNeg) → Ar (nl P y.toNatClampNeg) T' ((p : Int) + (pN P x.toNatClampNeg).toInt) L' R' H')) := moX_and (moX_and hX_mo hX_mo) (fun _ _ hle q e => Ar_le (q e) hle)
      have d11 : ¬ P 0 x.toNatClampNeg = 167 → ¬ P 0 x.toNatClampNeg = 172 → ¬ P 0 x.toNatClampNeg = 177 → ∀ U, Typ P y.toNatClampNeg U → (¬ (0 : Int32) = 0 → 1 ≤ (P 5 y.toNatClampNeg).toInt) ∧ Ar (nl P y.toNatClampNeg) U ((p : Int) + (pZ P x.toNatClampNeg).toInt) L' (coR 0 R') (coR 0 H') := by
        intro n1 n2 n3 U hU
        refine ⟨fun q => absurd rfl q, ?_⟩
        have := (hSU U hU).2.2
        rw [h3O 167 (by simp), h3O 172 (by simp), h3O 177 (by simp)] at this
        rw [hxn] at n1 n2 n3 this ⊢
        exact this ⟨n1, n2, n3⟩
      have kN : (P 0 x.toNatClampNeg = 167 ∨ P 0 x.toNatClampNeg = 172 ∨ P 0 x.toNatClampNeg = 177) → ffQ P y.toNatClampNeg T p st s' := by
        intro e
        refine kEnd s' (GS_w g (fun T' hT => ⟨hT.1, hT.2, fun q => ?_⟩))
        rcases e with e | e | e
        · exact absurd e q.1
        · exact absurd e q.2.1
        · exact absurd e q.2.2
      have kC : ∀ s2, GS P y.toNatClampNeg (P 5 y.toNatClampNeg) st T L' R' H' (fun T' => ((hX P y.toNatClampNeg p (P 7 y.toNatClampNeg).toInt.toNat L0 T' ∧ hX P y.toNatClampNeg p (P 7 y.toNatClampNeg).toInt.toNat L' T') ∧ (op_jump (P 0 x.toNatClampNeg) → Ar (nl P y.toNatClampNeg) T' ((p : Int) + (pN P x.toNatClampNeg).toInt) L' R' H')) ∧ (¬ (0 : Int32) = 0 → 1 ≤ (P 5 y.toNatClampNeg).toInt) ∧ Ar (nl P y.toNatClampNeg) T' ((p : Int) + (pZ P x.toNatClampNeg).toInt) L' (coR 0 R') (coR 0 H')) s2 → ffQ P y.toNatClampNeg T p st s2 := fun s2 g2 => kEnd s2 (GS_w g2 (fun T' hT => ⟨hT.1.1, hT.1.2, fun _ => hT.2.2⟩))
      refine r_il3 (q := 122) d_MO_flowFrom_121 rfl ?_
      refine r_sp (v := 167) (q := 125) d_MO_flowFrom_122 rfl rfl ?_
      refine r_ceq (tgt := 154) (q := 128) d_MO_flowFrom_125 rfl rfl (fun e125 => ?_) (fun e125 => ?_)
      · skip
        refine r_rv d_MO_flowFrom_154 ?_
        first | exact kN (Or.inl e125) | exact kN (Or.inr (Or.inl e132)) | exact kN (Or.inr (Or.inr e139)) | exact kC _ e151.2
      · skip
        refine r_il3 (q := 129) d_MO_flowFrom_128 rfl ?_
        refine r_sp (v := 172) (q := 132) d_MO_flowFrom_129 rfl rfl ?_
        refine r_ceq (tgt := 154) (q := 135) d_MO_flowFrom_132 rfl rfl (fun e132 => ?_) (fun e132 => ?_)
        · skip
          refine r_rv d_MO_flowFrom_154 ?_
          first | exact kN (Or.inl e125) | exact kN (Or.inr (Or.inl e132)) | exact kN (Or.inr (Or.inr e139)) | exact kC _ e151.2
        · skip
          refine r_il3 (q := 136) d_MO_flowFrom_135 rfl ?_
          refine r_sp (v := 177) (q := 139) d_MO_flowFrom_136 rfl rfl ?_
          refine r_ceq (tgt := 154) (q := 142) d_MO_flowFrom_139 rfl rfl (fun e139 => ?_) (fun e139 => ?_)
          · skip
            refine r_rv d_MO_flowFrom_154 ?_
            first | exact kN (Or.inl e125) | exact kN (Or.inr (Or.inl e132)) | exact kN (Or.inr (Or.inr e139)) | exact kC _ e151.2
          · skip
            refine r_al0 (q := 143) d_MO_flowFrom_142 rfl ?_
            refine r_il1 (q := 144) d_MO_flowFrom_143 rfl ?_
            refine r_il2 (q := 145) d_MO_flowFrom_144 rfl ?_
            refine r_il3 (q := 146) d_MO_flowFrom_145 rfl ?_
            refine r_si1 mo_MO_wide d_MO_flowFrom_146 rfl rfl (q := 149) rfl ?_
            refine sp_MO_wide (by first | exact c1 | exact bb | exact d4 | exact d5 | exact rfl | exact g | exact d9 | exact hLZ' | exact Or.inl rfl | exact d11 e125 e132 e139 | assumption | (refine pc_of hP ?_; (repeat (first | assumption | exact md_refl | refine md_up ?_ rfl | refine md_fill ?_ rfl | (unfold ik; refine md_up ?_ rfl))); done) | (refine pc_oS hP ?_; (repeat (first | assumption | exact md_refl | refine md_up ?_ rfl | refine md_fill ?_ rfl | (unfold ik; refine md_up ?_ rfl))); done) | (refine pm_of hP ?_; (repeat (first | assumption | exact md_refl | refine md_up ?_ rfl | refine md_fill ?_ rfl | (unfold ik; refine md_up ?_ rfl))); done) | omega | decide | ((try simp +decide only [b01, b10, b11, am_up, ik, and_true, and_false, true_and, false_and, if_true, if_false, nn_eq] at *) <;> (try simp only [sw_or, sw_all, or_false, and_true, i32_lt, i32_le, i32_eq, i32_addw, i32_subw, i32_mulw, Int32.reduceToInt] at *) <;> omega) | (apply_assumption; done)) ?_
            refine r_iadd (q := 150) d_MO_flowFrom_149 rfl ?_
            refine r_ic (v := 0) (q := 151) d_MO_flowFrom_150 rfl rfl ?_
            refine r_vv3 mo_MO_come d_MO_flowFrom_151 rfl rfl rfl (q := 154) rfl ?_
            refine sq_MO_come (P := P) (st0 := st) (T0 := T) (X := fun T' => (hX P y.toNatClampNeg p (P 7 y.toNatClampNeg).toInt.toNat L0 T' ∧ hX P y.toNatClampNeg p (P 7 y.toNatClampNeg).toInt.toNat L' T') ∧ (op_jump (P 0 x.toNatClampNeg) → Ar (nl P y.toNatClampNeg) T' ((p : Int) + (pN P x.toNatClampNeg).toInt) L' R' H')) (hei := P 5 y.toNatClampNeg) (L := L') (R := R') (H := H') (z := (p : Int) + (pZ P x.toNatClampNeg).toInt) (by first | exact c1 | exact bb | exact d4 | exact d5 | exact rfl | exact g | exact d9 | exact hLZ' | exact Or.inl rfl | exact d11 e125 e132 e139 | assumption | (refine pc_of hP ?_; (repeat (first | assumption | exact md_refl | refine md_up ?_ rfl | refine md_fill ?_ rfl | (unfold ik; refine md_up ?_ rfl))); done) | (refine pc_oS hP ?_; (repeat (first | assumption | exact md_refl | refine md_up ?_ rfl | refine md_fill ?_ rfl | (unfold ik; refine md_up ?_ rfl))); done) | (refine pm_of hP ?_; (repeat (first | assumption | exact md_refl | refine md_up ?_ rfl | refine md_fill ?_ rfl | (unfold ik; refine md_up ?_ rfl))); done) | omega | decide | ((try simp +decide only [b01, b10, b11, am_up, ik, and_true, and_false, true_and, false_and, if_true, if_false, nn_eq] at *) <;> (try simp only [sw_or, sw_all, or_false, and_true, i32_lt, i32_le, i32_eq, i32_addw, i32_subw, i32_mulw, Int32.reduceToInt] at *) <;> omega) | (apply_assumption; done)) (by first | exact c1 | exact bb | exact d4 | exact d5 | exact rfl | exact g | exact d9 | exact hLZ' | exact Or.inl rfl | exact d11 e125 e132 e139 | assumption | (refine pc_of hP ?_; (repeat (first | assumption | exact md_refl | refine md_up ?_ rfl | refine md_fill ?_ rfl | (unfold ik; refine md_up ?_ rfl))); done) | (refine pc_oS hP ?_; (repeat (first | assumption | exact md_refl | refine md_up ?_ rfl | refine md_fill ?_ rfl | (unfold ik; refine md_up ?_ rfl))); done) | (refine pm_of hP ?_; (repeat (first | assumption | exact md_refl | refine md_up ?_ rfl | refine md_fill ?_ rfl | (unfold ik; refine md_up ?_ rfl))); done) | omega | decide | ((try simp +decide only [b01, b10, b11, am_up, ik, and_true, and_false, true_and, false_and, if_true, if_false, nn_eq] at *) <;> (try simp only [sw_or, sw_all, or_false, and_true, i32_lt, i32_le, i32_eq, i32_addw, i32_subw, i32_mulw, Int32.reduceToInt] at *) <;> omega) | (apply_assumption; done)) (by first | exact c1 | exact bb | exact d4 | exact d5 | exact rfl | exact g | exact d9 | exact hLZ' | exact Or.inl rfl | exact d11 e125 e132 e139 | assumption | (refine pc_of hP ?_; (repeat (first | assumption | exact md_refl | refine md_up ?_ rfl | refine md_fill ?_ rfl | (unfold ik; refine md_up ?_ rfl))); done) | (refine pc_oS hP ?_; (repeat (first | assumption | exact md_refl | refine md_up ?_ rfl | refine md_fill ?_ rfl | (unfold ik; refine md_up ?_ rfl))); done) | (refine pm_of hP ?_; (repeat (first | assumption | exact md_refl | refine md_up ?_ rfl | refine md_fill ?_ rfl | (unfold ik; refine md_up ?_ rfl))); done) | omega | decide | ((try simp +decide only [b01, b10, b11, am_up, ik, and_true, and_false, true_and, false_and, if_true, if_false, nn_eq] at *) <;> (try simp only [sw_or, sw_all, or_false, and_true, i32_lt, i32_le, i32_eq, i32_addw, i32_subw, i32_mulw, Int32.reduceToInt] at *) <;> omega) | (apply_assumption; done)) (by first | exact c1 | exact bb | exact d4 | exact d5 | exact rfl | exact g | exact d9 | exact hLZ' | exact Or.inl rfl | exact d11 e125 e132 e139 | assumption | (refine pc_of hP ?_; (repeat (first | assumption | exact md_refl | refine md_up ?_ rfl | refine md_fill ?_ rfl | (unfold ik; refine md_up ?_ rfl))); done) | (refine pc_oS hP ?_; (repeat (first | assumption | exact md_refl | refine md_up ?_ rfl | refine md_fill ?_ rfl | (unfold ik; refine md_up ?_ rfl))); done) | (refine pm_of hP ?_; (repeat (first | assumption | exact md_refl | refine md_up ?_ rfl | refine md_fill ?_ rfl | (unfold ik; refine md_up ?_ rfl))); done) | omega | decide | ((try simp +decide only [b01, b10, b11, am_up, ik, and_true, and_false, true_and, false_and, if_true, if_false, nn_eq] at *) <;> (try simp only [sw_or, sw_all, or_false, and_true, i32_lt, i32_le, i32_eq, i32_addw, i32_subw, i32_mulw, Int32.reduceToInt] at *) <;> omega) | (apply_assumption; done)) (by first | exact c1 | exact bb | exact d4 | exact d5 | exact rfl | exact g | exact d9 | exact hLZ' | exact Or.inl rfl | exact d11 e125 e132 e139 | assumption | (refine pc_of hP ?_; (repeat (first | assumption | exact md_refl | refine md_up ?_ rfl | refine md_fill ?_ rfl | (unfold ik; refine md_up ?_ rfl))); done) | (refine pc_oS hP ?_; (repeat (first | assumption | exact md_refl | refine md_up ?_ rfl | refine md_fill ?_ rfl | (unfold ik; refine md_up ?_ rfl))); done) | (refine pm_of hP ?_; (repeat (first | assumption | exact md_refl | refine md_up ?_ rfl | refine md_fill ?_ rfl | (unfold ik; refine md_up ?_ rfl))); done) | omega | decide | ((try simp +decide only [b01, b10, b11, am_up, ik, and_true, and_false, true_and, false_and, if_true, if_false, nn_eq] at *) <;> (try simp only [sw_or, sw_all, or_false, and_true, i32_lt, i32_le, i32_eq, i32_addw, i32_subw, i32_mulw, Int32.reduceToInt] at *) <;> omega) | (apply_assumption; done)) (by first | exact c1 | exact bb | exact d4 | exact d5 | exact rfl | exact g | exact d9 | exact hLZ' | exact Or.inl rfl | exact d11 e125 e132 e139 | assumption | (refine pc_of hP ?_; (repeat (first | assumption | exact md_refl | refine md_up ?_ rfl | refine md_fill ?_ rfl | (unfold ik; refine md_up ?_ rfl))); done) | (refine pc_oS hP ?_; (repeat (first | assumption | exact md_refl | refine md_up ?_ rfl | refine md_fill ?_ rfl | (unfold ik; refine md_up ?_ rfl))); done) | (refine pm_of hP ?_; (repeat (first | assumption | exact md_refl | refine md_up ?_ rfl | refine md_fill ?_ rfl | (unfold ik; refine md_up ?_ rfl))); done) | omega | decide | ((try simp +decide only [b01, b10, b11, am_up, ik, and_true, and_false, true_and, false_and, if_true, if_false, nn_eq] at *) <;> (try simp only [sw_or, sw_all, or_false, and_true, i32_lt, i32_le, i32_eq, i32_addw, i32_subw, i32_mulw, Int32.reduceToInt] at *) <;> omega) | (apply_assumption; done)) (by first | exact c1 | exact bb | exact d4 | exact d5 | exact rfl | exact g | exact d9 | exact hLZ' | exact Or.inl rfl | exact d11 e125 e132 e139 | assumption | (refine pc_of hP ?_; (repeat (first | assumption | exact md_refl | refine md_up ?_ rfl | refine md_fill ?_ rfl | (unfold ik; refine md_up ?_ rfl))); done) | (refine pc_oS hP ?_; (repeat (first | assumption | exact md_refl | refine md_up ?_ rfl | refine md_fill ?_ rfl | (unfold ik; refine md_up ?_ rfl))); done) | (refine pm_of hP ?_; (repeat (first | assumption | exact md_refl | refine md_up ?_ rfl | refine md_fill ?_ rfl | (unfold ik; refine md_up ?_ rfl))); done) | omega | decide | ((try simp +decide only [b01, b10, b11, am_up, ik, and_true, and_false, true_and, false_and, if_true, if_false, nn_eq] at *) <;> (try simp only [sw_or, sw_all, or_false, and_true, i32_lt, i32_le, i32_eq, i32_addw, i32_subw, i32_mulw, Int32.reduceToInt] at *) <;> omega) | (apply_assumption; done)) (by first | exact c1 | exact bb | exact d4 | exact d5 | exact rfl | exact g | exact d9 | exact hLZ' | exact Or.inl rfl | exact d11 e125 e132 e139 | assumption | (refine pc_of hP ?_; (repeat (first | assumption | exact md_refl | refine md_up ?_ rfl | refine md_fill ?_ rfl | (unfold ik; refine md_up ?_ rfl))); done) | (refine pc_oS hP ?_; (repeat (first | assumption | exact md_refl | refine md_up ?_ rfl | refine md_fill ?_ rfl | (unfold ik; refine md_up ?_ rfl))); done) | (refine pm_of hP ?_; (repeat (first | assumption | exact md_refl | refine md_up ?_ rfl | refine md_fill ?_ rfl | (unfold ik; refine md_up ?_ rfl))); done) | omega | decide | ((try simp +decide only [b01, b10, b11, am_up, ik, and_true, and_false, true_and, false_and, if_true, if_false, nn_eq] at *) <;> (try simp only [sw_or, sw_all, or_false, and_true, i32_lt, i32_le, i32_eq, i32_addw, i32_subw, i32_mulw, Int32.reduceToInt] at *) <;> omega) | (apply_assumption; done)) (by first | exact c1 | exact bb | exact d4 | exact d5 | exact rfl | exact g | exact d9 | exact hLZ' | exact Or.inl rfl | exact d11 e125 e132 e139 | assumption | (refine pc_of hP ?_; (repeat (first | assumption | exact md_refl | refine md_up ?_ rfl | refine md_fill ?_ rfl | (unfold ik; refine md_up ?_ rfl))); done) | (refine pc_oS hP ?_; (repeat (first | assumption | exact md_refl | refine md_up ?_ rfl | refine md_fill ?_ rfl | (unfold ik; refine md_up ?_ rfl))); done) | (refine pm_of hP ?_; (repeat (first | assumption | exact md_refl | refine md_up ?_ rfl | refine md_fill ?_ rfl | (unfold ik; refine md_up ?_ rfl))); done) | omega | decide | ((try simp +decide only [b01, b10, b11, am_up, ik, and_true, and_false, true_and, false_and, if_true, if_false, nn_eq] at *) <;> (try simp only [sw_or, sw_all, or_false, and_true, i32_lt, i32_le, i32_eq, i32_addw, i32_subw, i32_mulw, Int32.reduceToInt] at *) <;> omega) | (apply_assumption; done)) (by first | exact c1 | exact bb | exact d4 | exact d5 | exact rfl | exact g | exact d9 | exact hLZ' | exact Or.inl rfl | exact d11 e125 e132 e139 | assumption | (refine pc_of hP ?_; (repeat (first | assumption | exact md_refl | refine md_up ?_ rfl | refine md_fill ?_ rfl | (unfold ik; refine md_up ?_ rfl))); done) | (refine pc_oS hP ?_; (repeat (first | assumption | exact md_refl | refine md_up ?_ rfl | refine md_fill ?_ rfl | (unfold ik; refine md_up ?_ rfl))); done) | (refine pm_of hP ?_; (repeat (first | assumption | exact md_refl | refine md_up ?_ rfl | refine md_fill ?_ rfl | (unfold ik; refine md_up ?_ rfl))); done) | omega | decide | ((try simp +decide only [b01, b10, b11, am_up, ik, and_true, and_false, true_and, false_and, if_true, if_false, nn_eq] at *) <;> (try simp only [sw_or, sw_all, or_false, and_true, i32_lt, i32_le, i32_eq, i32_addw, i32_subw, i32_mulw, Int32.reduceToInt] at *) <;> omega) | (apply_assumption; done)) (by first | exact c1 | exact bb | exact d4 | exact d5 | exact rfl | exact g | exact d9 | exact hLZ' | exact Or.inl rfl | exact d11 e125 e132 e139 | assumption | (refine pc_of hP ?_; (repeat (first | assumption | exact md_refl | refine md_up ?_ rfl | refine md_fill ?_ rfl | (unfold ik; refine md_up ?_ rfl))); done) | (refine pc_oS hP ?_; (repeat (first | assumption | exact md_refl | refine md_up ?_ rfl | refine md_fill ?_ rfl | (unfold ik; refine md_up ?_ rfl))); done) | (refine pm_of hP ?_; (repeat (first | assumption | exact md_refl | refine md_up ?_ rfl | refine md_fill ?_ rfl | (unfold ik; refine md_up ?_ rfl))); done) | omega | decide | ((try simp +decide only [b01, b10, b11, am_up, ik, and_true, and_false, true_and, false_and, if_true, if_false, nn_eq] at *) <;> (try simp only [sw_or, sw_all, or_false, and_true, i32_lt, i32_le, i32_eq, i32_addw, i32_subw, i32_mulw, Int32.reduceToInt] at *) <;> omega) | (apply_assumption; done)) (fun e151 => ?_)
            · skip
              refine r_rv d_MO_flowFrom_154 ?_
              first | exact kN (Or.inl e125) | exact kN (Or.inr (Or.inl e132)) | exact kN (Or.inr (Or.inr e139)) | exact kC _ e151.2
    have k99 : ∀ s', GS P y.toNatClampNeg (P 5 y.toNatClampNeg) st T L' R' H' (fun T' => hX P y.toNatClampNeg p (P 7 y.toNatClampNeg).toInt.toNat L0 T' ∧ hX P y.toNatClampNeg p (P 7 y.toNatClampNeg).toInt.toNat L' T') s' → am_AW c_MO_flowFrom g_MO_flowFrom (fun o' st' => am_ok none o' ∧ am_kv (ffQ P y.toNatClampNeg T p st) o' st') 99 [some (.inr (.inl 128)), some (.inl y), some (.inl x), some (.inl (P 0 x.toNatClampNeg)), some (.inl w)] [] s' := by
      intro s' g
      have hPs := pm_oL c1 g.1
      have hw2 : op_jump (P 0 x.toNatClampNeg) → wv (s' 2142 (x + 1).toNatClampNeg) (s' 2142 (x + 1 + 1).toNatClampNeg) = pN P x.toNatClampNeg := by
        intro e
        rw [hPs.1.1]
        exact (hW e).2.1
      have d4 : op_jump (P 0 x.toNatClampNeg) → (x + wv (s' 2142 (x + 1).toNatClampNeg) (s' 2142 (x + 1 + 1).toNatClampNeg)).toInt = (nb P y.toNatClampNeg : Int) + ((p : Int) + (pN P x.toNatClampNeg).toInt) := by
        intro e
        have := (hW e).2.2
        rw [hw2 e, i32_addw]
        omega
      have d5 : op_jump (P 0 x.toNatClampNeg) → 0 ≤ (p : Int) + (pN P x.toNatClampNeg).toInt ∧ ((p : Int) + (pN P x.toNatClampNeg).toInt < (nl P y.toNatClampNeg : Int) → bg P y.toNatClampNeg ((p : Int) + (pN P x.toNatClampNeg).toInt).toNat) := by
        intro e
        have := c4.2.1 p c6.1 hbg (hjO.mpr e)
        rw [← hxn] at this
        exact ⟨this.1, fun _ => this.2.2⟩
      have d9 : moX (nl P y.toNatClampNeg) (fun T' => hX P y.toNatClampNeg p (P 7 y.toNatClampNeg).toInt.toNat L0 T' ∧ hX P y.toNatClampNeg p (P 7 y.toNatClampNeg).toInt.toNat L' T') := moX_and hX_mo hX_mo
      have d11 : op_jump (P 0 x.toNatClampNeg) → ∀ U, Typ P y.toNatClampNeg U → (¬ (0 : Int32) = 0 → 1 ≤ (P 5 y.toNatClampNeg).toInt) ∧ Ar (nl P y.toNatClampNeg) U ((p : Int) + (pN P x.toNatClampNeg).toInt) L' (coR 0 R') (coR 0 H') := by
        intro e U hU
        refine ⟨fun q => absurd rfl q, ?_⟩
        have := (hSU U hU).2.1 (hjO.mpr e)
        rw [← hxn] at this
        exact this
      have kC : op_jump (P 0 x.toNatClampNeg) → ∀ s2, GS P y.toNatClampNeg (P 5 y.toNatClampNeg) st T L' R' H' (fun T' => (hX P y.toNatClampNeg p (P 7 y.toNatClampNeg).toInt.toNat L0 T' ∧ hX P y.toNatClampNeg p (P 7 y.toNatClampNeg).toInt.toNat L' T') ∧ (¬ (0 : Int32) = 0 → 1 ≤ (P 5 y.toNatClampNeg).toInt) ∧ Ar (nl P y.toNatClampNeg) T' ((p : Int) + (pN P x.toNatClampNeg).toInt) L' (coR 0 R') (coR 0 H')) s2 → am_AW c_MO_flowFrom g_MO_flowFrom (fun o' st' => am_ok none o' ∧ am_kv (ffQ P y.toNatClampNeg T p st) o' st') 121 [some (.inr (.inl 128)), some (.inl y), some (.inl x), some (.inl (P 0 x.toNatClampNeg)), some (.inl w)] [] s2 := fun _ s2 g2 => k121 s2 (GS_w g2 (fun T' hT => ⟨hT.1, fun _ => hT.2.2⟩))
      have kN : ¬ op_jump (P 0 x.toNatClampNeg) → am_AW c_MO_flowFrom g_MO_flowFrom (fun o' st' => am_ok none o' ∧ am_kv (ffQ P y.toNatClampNeg T p st) o' st') 121 [some (.inr (.inl 128)), some (.inl y), some (.inl x), some (.inl (P 0 x.toNatClampNeg)), some (.inl w)] [] s' := fun e => k121 s' (GS_w g (fun T' hT => ⟨hT, fun q => absurd q e⟩))
      refine r_il3 (q := 100) d_MO_flowFrom_99 rfl ?_
      refine r_si1 mo_MO_isJump d_MO_flowFrom_100 rfl rfl (q := 103) rfl ?_
      refine sp_MO_isJump (fun e100 => ?_) (fun e100 => ?_)
      · skip
        refine r_zeq (tgt := 121) (q := 106) d_MO_flowFrom_103 rfl rfl (fun e103 => by exfalso; revert e103; decide) (fun e103 => ?_)
        refine r_al0 (q := 107) d_MO_flowFrom_106 rfl ?_
        refine r_il1 (q := 108) d_MO_flowFrom_107 rfl ?_
        refine r_il2 (q := 109) d_MO_flowFrom_108 rfl ?_
        refine r_al0 (q := 110) d_MO_flowFrom_109 rfl ?_
        refine r_il2 (q := 111) d_MO_flowFrom_110 rfl ?_
        refine r_ic (v := 1) (q := 112) d_MO_flowFrom_111 rfl rfl ?_
        refine r_iadd (q := 113) d_MO_flowFrom_112 rfl ?_
        refine r_vi1 mo_MO_word d_MO_flowFrom_113 rfl rfl rfl (q := 116) rfl ?_
        refine sp_MO_word (P := P) (by first | exact hPs | exact c1 | exact (hW e100).1 | exact d4 e100 | exact d5 e100 | exact rfl | exact g | exact d9 | exact hLZ' | exact Or.inl rfl | exact d11 e100 | assumption | (refine pc_of hP ?_; (repeat (first | assumption | exact md_refl | refine md_up ?_ rfl | refine md_fill ?_ rfl | (unfold ik; refine md_up ?_ rfl))); done) | (refine pc_oS hP ?_; (repeat (first | assumption | exact md_refl | refine md_up ?_ rfl | refine md_fill ?_ rfl | (unfold ik; refine md_up ?_ rfl))); done) | (refine pm_of hP ?_; (repeat (first | assumption | exact md_refl | refine md_up ?_ rfl | refine md_fill ?_ rfl | (unfold ik; refine md_up ?_ rfl))); done) | omega | decide | ((try simp +decide only [b01, b10, b11, am_up, ik, and_true, and_false, true_and, false_and, if_true, if_false, nn_eq] at *) <;> (try simp only [sw_or, sw_all, or_false, and_true, i32_lt, i32_le, i32_eq, i32_addw, i32_subw, i32_mulw, Int32.reduceToInt] at *) <;> omega) | (apply_assumption; done)) (by first | exact hPs | exact c1 | exact (hW e100).1 | exact d4 e100 | exact d5 e100 | exact rfl | exact g | exact d9 | exact hLZ' | exact Or.inl rfl | exact d11 e100 | assumption | (refine pc_of hP ?_; (repeat (first | assumption | exact md_refl | refine md_up ?_ rfl | refine md_fill ?_ rfl | (unfold ik; refine md_up ?_ rfl))); done) | (refine pc_oS hP ?_; (repeat (first | assumption | exact md_refl | refine md_up ?_ rfl | refine md_fill ?_ rfl | (unfold ik; refine md_up ?_ rfl))); done) | (refine pm_of hP ?_; (repeat (first | assumption | exact md_refl | refine md_up ?_ rfl | refine md_fill ?_ rfl | (unfold ik; refine md_up ?_ rfl))); done) | omega | decide | ((try simp +decide only [b01, b10, b11, am_up, ik, and_true, and_false, true_and, false_and, if_true, if_false, nn_eq] at *) <;> (try simp only [sw_or, sw_all, or_false, and_true, i32_lt, i32_le, i32_eq, i32_addw, i32_subw, i32_mulw, Int32.reduceToInt] at *) <;> omega) | (apply_assumption; done)) (by first | exact hPs | exact c1 | exact (hW e100).1 | exact d4 e100 | exact d5 e100 | exact rfl | exact g | exact d9 | exact hLZ' | exact Or.inl rfl | exact d11 e100 | assumption | (refine pc_of hP ?_; (repeat (first | assumption | exact md_refl | refine md_up ?_ rfl | refine md_fill ?_ rfl | (unfold ik; refine md_up ?_ rfl))); done) | (refine pc_oS hP ?_; (repeat (first | assumption | exact md_refl | refine md_up ?_ rfl | refine md_fill ?_ rfl | (unfold ik; refine md_up ?_ rfl))); done) | (refine pm_of hP ?_; (repeat (first | assumption | exact md_refl | refine md_up ?_ rfl | refine md_fill ?_ rfl | (unfold ik; refine md_up ?_ rfl))); done) | omega | decide | ((try simp +decide only [b01, b10, b11, am_up, ik, and_true, and_false, true_and, false_and, if_true, if_false, nn_eq] at *) <;> (try simp only [sw_or, sw_all, or_false, and_true, i32_lt, i32_le, i32_eq, i32_addw, i32_subw, i32_mulw, Int32.reduceToInt] at *) <;> omega) | (apply_assumption; done)) ?_
        refine r_iadd (q := 117) d_MO_flowFrom_116 rfl ?_
        refine r_ic (v := 0) (q := 118) d_MO_flowFrom_117 rfl rfl ?_
        refine r_vv3 mo_MO_come d_MO_flowFrom_118 rfl rfl rfl (q := 121) rfl ?_
        refine sq_MO_come (P := P) (st0 := st) (T0 := T) (X := fun T' => hX P y.toNatClampNeg p (P 7 y.toNatClampNeg).toInt.toNat L0 T' ∧ hX P y.toNatClampNeg p (P 7 y.toNatClampNeg).toInt.toNat L' T') (hei := P 5 y.toNatClampNeg) (L := L') (R := R') (H := H') (z := (p : Int) + (pN P x.toNatClampNeg).toInt) (by first | exact hPs | exact c1 | exact (hW e100).1 | exact d4 e100 | exact d5 e100 | exact rfl | exact g | exact d9 | exact hLZ' | exact Or.inl rfl | exact d11 e100 | assumption | (refine pc_of hP ?_; (repeat (first | assumption | exact md_refl | refine md_up ?_ rfl | refine md_fill ?_ rfl | (unfold ik; refine md_up ?_ rfl))); done) | (refine pc_oS hP ?_; (repeat (first | assumption | exact md_refl | refine md_up ?_ rfl | refine md_fill ?_ rfl | (unfold ik; refine md_up ?_ rfl))); done) | (refine pm_of hP ?_; (repeat (first | assumption | exact md_refl | refine md_up ?_ rfl | refine md_fill ?_ rfl | (unfold ik; refine md_up ?_ rfl))); done) | omega | decide | ((try simp +decide only [b01, b10, b11, am_up, ik, and_true, and_false, true_and, false_and, if_true, if_false, nn_eq] at *) <;> (try simp only [sw_or, sw_all, or_false, and_true, i32_lt, i32_le, i32_eq, i32_addw, i32_subw, i32_mulw, Int32.reduceToInt] at *) <;> omega) | (apply_assumption; done)) (by first | exact hPs | exact c1 | exact (hW e100).1 | exact d4 e100 | exact d5 e100 | exact rfl | exact g | exact d9 | exact hLZ' | exact Or.inl rfl | exact d11 e100 | assumption | (refine pc_of hP ?_; (repeat (first | assumption | exact md_refl | refine md_up ?_ rfl | refine md_fill ?_ rfl | (unfold ik; refine md_up ?_ rfl))); done) | (refine pc_oS hP ?_; (repeat (first | assumption | exact md_refl | refine md_up ?_ rfl | refine md_fill ?_ rfl | (unfold ik; refine md_up ?_ rfl))); done) | (refine pm_of hP ?_; (repeat (first | assumption | exact md_refl | refine md_up ?_ rfl | refine md_fill ?_ rfl | (unfold ik; refine md_up ?_ rfl))); done) | omega | decide | ((try simp +decide only [b01, b10, b11, am_up, ik, and_true, and_false, true_and, false_and, if_true, if_false, nn_eq] at *) <;> (try simp only [sw_or, sw_all, or_false, and_true, i32_lt, i32_le, i32_eq, i32_addw, i32_subw, i32_mulw, Int32.reduceToInt] at *) <;> omega) | (apply_assumption; done)) (by first | exact hPs | exact c1 | exact (hW e100).1 | exact d4 e100 | exact d5 e100 | exact rfl | exact g | exact d9 | exact hLZ' | exact Or.inl rfl | exact d11 e100 | assumption | (refine pc_of hP ?_; (repeat (first | assumption | exact md_refl | refine md_up ?_ rfl | refine md_fill ?_ rfl | (unfold ik; refine md_up ?_ rfl))); done) | (refine pc_oS hP ?_; (repeat (first | assumption | exact md_refl | refine md_up ?_ rfl | refine md_fill ?_ rfl | (unfold ik; refine md_up ?_ rfl))); done) | (refine pm_of hP ?_; (repeat (first | assumption | exact md_refl | refine md_up ?_ rfl | refine md_fill ?_ rfl | (unfold ik; refine md_up ?_ rfl))); done) | omega | decide | ((try simp +decide only [b01, b10, b11, am_up, ik, and_true, and_false, true_and, false_and, if_true, if_false, nn_eq] at *) <;> (try simp only [sw_or, sw_all, or_false, and_true, i32_lt, i32_le, i32_eq, i32_addw, i32_subw, i32_mulw, Int32.reduceToInt] at *) <;> omega) | (apply_assumption; done)) (by first | exact hPs | exact c1 | exact (hW e100).1 | exact d4 e100 | exact d5 e100 | exact rfl | exact g | exact d9 | exact hLZ' | exact Or.inl rfl | exact d11 e100 | assumption | (refine pc_of hP ?_; (repeat (first | assumption | exact md_refl | refine md_up ?_ rfl | refine md_fill ?_ rfl | (unfold ik; refine md_up ?_ rfl))); done) | (refine pc_oS hP ?_; (repeat (first | assumption | exact md_refl | refine md_up ?_ rfl | refine md_fill ?_ rfl | (unfold ik; refine md_up ?_ rfl))); done) | (refine pm_of hP ?_; (repeat (first | assumption | exact md_refl | refine md_up ?_ rfl | refine md_fill ?_ rfl | (unfold ik; refine md_up ?_ rfl))); done) | omega | decide | ((try simp +decide only [b01, b10, b11, am_up, ik, and_true, and_false, true_and, false_and, if_true, if_false, nn_eq] at *) <;> (try simp only [sw_or, sw_all, or_false, and_true, i32_lt, i32_le, i32_eq, i32_addw, i32_subw, i32_mulw, Int32.reduceToInt] at *) <;> omega) | (apply_assumption; done)) (by first | exact hPs | exact c1 | exact (hW e100).1 | exact d4 e100 | exact d5 e100 | exact rfl | exact g | exact d9 | exact hLZ' | exact Or.inl rfl | exact d11 e100 | assumption | (refine pc_of hP ?_; (repeat (first | assumption | exact md_refl | refine md_up ?_ rfl | refine md_fill ?_ rfl | (unfold ik; refine md_up ?_ rfl))); done) | (refine pc_oS hP ?_; (repeat (first | assumption | exact md_refl | refine md_up ?_ rfl | refine md_fill ?_ rfl | (unfold ik; refine md_up ?_ rfl))); done) | (refine pm_of hP ?_; (repeat (first | assumption | exact md_refl | refine md_up ?_ rfl | refine md_fill ?_ rfl | (unfold ik; refine md_up ?_ rfl))); done) | omega | decide | ((try simp +decide only [b01, b10, b11, am_up, ik, and_true, and_false, true_and, false_and, if_true, if_false, nn_eq] at *) <;> (try simp only [sw_or, sw_all, or_false, and_true, i32_lt, i32_le, i32_eq, i32_addw, i32_subw, i32_mulw, Int32.reduceToInt] at *) <;> omega) | (apply_assumption; done)) (by first | exact hPs | exact c1 | exact (hW e100).1 | exact d4 e100 | exact d5 e100 | exact rfl | exact g | exact d9 | exact hLZ' | exact Or.inl rfl | exact d11 e100 | assumption | (refine pc_of hP ?_; (repeat (first | assumption | exact md_refl | refine md_up ?_ rfl | refine md_fill ?_ rfl | (unfold ik; refine md_up ?_ rfl))); done) | (refine pc_oS hP ?_; (repeat (first | assumption | exact md_refl | refine md_up ?_ rfl | refine md_fill ?_ rfl | (unfold ik; refine md_up ?_ rfl))); done) | (refine pm_of hP ?_; (repeat (first | assumption | exact md_refl | refine md_up ?_ rfl | refine md_fill ?_ rfl | (unfold ik; refine md_up ?_ rfl))); done) | omega | decide | ((try simp +decide only [b01, b10, b11, am_up, ik, and_true, and_false, true_and, false_and, if_true, if_false, nn_eq] at *) <;> (try simp only [sw_or, sw_all, or_false, and_true, i32_lt, i32_le, i32_eq, i32_addw, i32_subw, i32_mulw, Int32.reduceToInt] at *) <;> omega) | (apply_assumption; done)) (by first | exact hPs | exact c1 | exact (hW e100).1 | exact d4 e100 | exact d5 e100 | exact rfl | exact g | exact d9 | exact hLZ' | exact Or.inl rfl | exact d11 e100 | assumption | (refine pc_of hP ?_; (repeat (first | assumption | exact md_refl | refine md_up ?_ rfl | refine md_fill ?_ rfl | (unfold ik; refine md_up ?_ rfl))); done) | (refine pc_oS hP ?_; (repeat (first | assumption | exact md_refl | refine md_up ?_ rfl | refine md_fill ?_ rfl | (unfold ik; refine md_up ?_ rfl))); done) | (refine pm_of hP ?_; (repeat (first | assumption | exact md_refl | refine md_up ?_ rfl | refine md_fill ?_ rfl | (unfold ik; refine md_up ?_ rfl))); done) | omega | decide | ((try simp +decide only [b01, b10, b11, am_up, ik, and_true, and_false, true_and, false_and, if_true, if_false, nn_eq] at *) <;> (try simp only [sw_or, sw_all, or_false, and_true, i32_lt, i32_le, i32_eq, i32_addw, i32_subw, i32_mulw, Int32.reduceToInt] at *) <;> omega) | (apply_assumption; done)) (by first | exact hPs | exact c1 | exact (hW e100).1 | exact d4 e100 | exact d5 e100 | exact rfl | exact g | exact d9 | exact hLZ' | exact Or.inl rfl | exact d11 e100 | assumption | (refine pc_of hP ?_; (repeat (first | assumption | exact md_refl | refine md_up ?_ rfl | refine md_fill ?_ rfl | (unfold ik; refine md_up ?_ rfl))); done) | (refine pc_oS hP ?_; (repeat (first | assumption | exact md_refl | refine md_up ?_ rfl | refine md_fill ?_ rfl | (unfold ik; refine md_up ?_ rfl))); done) | (refine pm_of hP ?_; (repeat (first | assumption | exact md_refl | refine md_up ?_ rfl | refine md_fill ?_ rfl | (unfold ik; refine md_up ?_ rfl))); done) | omega | decide | ((try simp +decide only [b01, b10, b11, am_up, ik, and_true, and_false, true_and, false_and, if_true, if_false, nn_eq] at *) <;> (try simp only [sw_or, sw_all, or_false, and_true, i32_lt, i32_le, i32_eq, i32_addw, i32_subw, i32_mulw, Int32.reduceToInt] at *) <;> omega) | (apply_assumption; done)) (by first | exact hPs | exact c1 | exact (hW e100).1 | exact d4 e100 | exact d5 e100 | exact rfl | exact g | exact d9 | exact hLZ' | exact Or.inl rfl | exact d11 e100 | assumption | (refine pc_of hP ?_; (repeat (first | assumption | exact md_refl | refine md_up ?_ rfl | refine md_fill ?_ rfl | (unfold ik; refine md_up ?_ rfl))); done) | (refine pc_oS hP ?_; (repeat (first | assumption | exact md_refl | refine md_up ?_ rfl | refine md_fill ?_ rfl | (unfold ik; refine md_up ?_ rfl))); done) | (refine pm_of hP ?_; (repeat (first | assumption | exact md_refl | refine md_up ?_ rfl | refine md_fill ?_ rfl | (unfold ik; refine md_up ?_ rfl))); done) | omega | decide | ((try simp +decide only [b01, b10, b11, am_up, ik, and_true, and_false, true_and, false_and, if_true, if_false, nn_eq] at *) <;> (try simp only [sw_or, sw_all, or_false, and_true, i32_lt, i32_le, i32_eq, i32_addw, i32_subw, i32_mulw, Int32.reduceToInt] at *) <;> omega) | (apply_assumption; done)) (by first | exact hPs | exact c1 | exact (hW e100).1 | exact d4 e100 | exact d5 e100 | exact rfl | exact g | exact d9 | exact hLZ' | exact Or.inl rfl | exact d11 e100 | assumption | (refine pc_of hP ?_; (repeat (first | assumption | exact md_refl | refine md_up ?_ rfl | refine md_fill ?_ rfl | (unfold ik; refine md_up ?_ rfl))); done) | (refine pc_oS hP ?_; (repeat (first | assumption | exact md_refl | refine md_up ?_ rfl | refine md_fill ?_ rfl | (unfold ik; refine md_up ?_ rfl))); done) | (refine pm_of hP ?_; (repeat (first | assumption | exact md_refl | refine md_up ?_ rfl | refine md_fill ?_ rfl | (unfold ik; refine md_up ?_ rfl))); done) | omega | decide | ((try simp +decide only [b01, b10, b11, am_up, ik, and_true, and_false, true_and, false_and, if_true, if_false, nn_eq] at *) <;> (try simp only [sw_or, sw_all, or_false, and_true, i32_lt, i32_le, i32_eq, i32_addw, i32_subw, i32_mulw, Int32.reduceToInt] at *) <;> omega) | (apply_assumption; done)) (by first | exact hPs | exact c1 | exact (hW e100).1 | exact d4 e100 | exact d5 e100 | exact rfl | exact g | exact d9 | exact hLZ' | exact Or.inl rfl | exact d11 e100 | assumption | (refine pc_of hP ?_; (repeat (first | assumption | exact md_refl | refine md_up ?_ rfl | refine md_fill ?_ rfl | (unfold ik; refine md_up ?_ rfl))); done) | (refine pc_oS hP ?_; (repeat (first | assumption | exact md_refl | refine md_up ?_ rfl | refine md_fill ?_ rfl | (unfold ik; refine md_up ?_ rfl))); done) | (refine pm_of hP ?_; (repeat (first | assumption | exact md_refl | refine md_up ?_ rfl | refine md_fill ?_ rfl | (unfold ik; refine md_up ?_ rfl))); done) | omega | decide | ((try simp +decide only [b01, b10, b11, am_up, ik, and_true, and_false, true_and, false_and, if_true, if_false, nn_eq] at *) <;> (try simp only [sw_or, sw_all, or_false, and_true, i32_lt, i32_le, i32_eq, i32_addw, i32_subw, i32_mulw, Int32.reduceToInt] at *) <;> omega) | (apply_assumption; done)) (fun e118 => ?_)
        · skip
          first | exact kN e100 | exact kC e100 _ e118.2
      · skip
        refine r_zeq (tgt := 121) (q := 106) d_MO_flowFrom_103 rfl rfl (fun e103 => ?_) (fun e103 => by exfalso; revert e103; decide)
        first | exact kN e100 | exact kC e100 _ e118.2
    have d8 : moX (nl P y.toNatClampNeg) (fun T' => hX P y.toNatClampNeg p (P 7 y.toNatClampNeg).toInt.toNat L0 T') := hX_mo
    have d10 : ∀ U, Typ P y.toNatClampNeg U → hX P y.toNatClampNeg p (P 7 y.toNatClampNeg).toInt.toNat L' U := fun U hU => (hSU U hU).1
    clear k121 kEnd
    refine r_al0 (q := 93) d_MO_flowFrom_92 rfl ?_
    refine r_il1 (q := 94) d_MO_flowFrom_93 rfl ?_
    refine r_il4 (q := 96) d_MO_flowFrom_94 rfl ?_
    refine r_vv2 mo_MO_toHandlers d_MO_flowFrom_96 rfl rfl rfl (q := 99) rfl ?_
    refine sp_MO_toHandlers (P := P) (st0 := st) (T0 := T) (X := fun T' => hX P y.toNatClampNeg p (P 7 y.toNatClampNeg).toInt.toNat L0 T') (hei := P 5 y.toNatClampNeg) (L := L') (R := R') (H := H') (p := p) (by first | exact c1 | exact hw | exact rfl | exact hs | exact d8 | exact hLZ' | exact d10 | assumption | (refine pc_of hP ?_; (repeat (first | assumption | exact md_refl | refine md_up ?_ rfl | refine md_fill ?_ rfl | (unfold ik; refine md_up ?_ rfl))); done) | (refine pc_oS hP ?_; (repeat (first | assumption | exact md_refl | refine md_up ?_ rfl | refine md_fill ?_ rfl | (unfold ik; refine md_up ?_ rfl))); done) | (refine pm_of hP ?_; (repeat (first | assumption | exact md_refl | refine md_up ?_ rfl | refine md_fill ?_ rfl | (unfold ik; refine md_up ?_ rfl))); done) | omega | decide | ((try simp +decide only [b01, b10, b11, am_up, ik, and_true, and_false, true_and, false_and, if_true, if_false, nn_eq] at *) <;> (try simp only [sw_or, sw_all, or_false, and_true, i32_lt, i32_le, i32_eq, i32_addw, i32_subw, i32_mulw, Int32.reduceToInt] at *) <;> omega) | (apply_assumption; done)) (by first | exact c1 | exact hw | exact rfl | exact hs | exact d8 | exact hLZ' | exact d10 | assumption | (refine pc_of hP ?_; (repeat (first | assumption | exact md_refl | refine md_up ?_ rfl | refine md_fill ?_ rfl | (unfold ik; refine md_up ?_ rfl))); done) | (refine pc_oS hP ?_; (repeat (first | assumption | exact md_refl | refine md_up ?_ rfl | refine md_fill ?_ rfl | (unfold ik; refine md_up ?_ rfl))); done) | (refine pm_of hP ?_; (repeat (first | assumption | exact md_refl | refine md_up ?_ rfl | refine md_fill ?_ rfl | (unfold ik; refine md_up ?_ rfl))); done) | omega | decide | ((try simp +decide only [b01, b10, b11, am_up, ik, and_true, and_false, true_and, false_and, if_true, if_false, nn_eq] at *) <;> (try simp only [sw_or, sw_all, or_false, and_true, i32_lt, i32_le, i32_eq, i32_addw, i32_subw, i32_mulw, Int32.reduceToInt] at *) <;> omega) | (apply_assumption; done)) (by first | exact c1 | exact hw | exact rfl | exact hs | exact d8 | exact hLZ' | exact d10 | assumption | (refine pc_of hP ?_; (repeat (first | assumption | exact md_refl | refine md_up ?_ rfl | refine md_fill ?_ rfl | (unfold ik; refine md_up ?_ rfl))); done) | (refine pc_oS hP ?_; (repeat (first | assumption | exact md_refl | refine md_up ?_ rfl | refine md_fill ?_ rfl | (unfold ik; refine md_up ?_ rfl))); done) | (refine pm_of hP ?_; (repeat (first | assumption | exact md_refl | refine md_up ?_ rfl | refine md_fill ?_ rfl | (unfold ik; refine md_up ?_ rfl))); done) | omega | decide | ((try simp +decide only [b01, b10, b11, am_up, ik, and_true, and_false, true_and, false_and, if_true, if_false, nn_eq] at *) <;> (try simp only [sw_or, sw_all, or_false, and_true, i32_lt, i32_le, i32_eq, i32_addw, i32_subw, i32_mulw, Int32.reduceToInt] at *) <;> omega) | (apply_assumption; done)) (by first | exact c1 | exact hw | exact rfl | exact hs | exact d8 | exact hLZ' | exact d10 | assumption | (refine pc_of hP ?_; (repeat (first | assumption | exact md_refl | refine md_up ?_ rfl | refine md_fill ?_ rfl | (unfold ik; refine md_up ?_ rfl))); done) | (refine pc_oS hP ?_; (repeat (first | assumption | exact md_refl | refine md_up ?_ rfl | refine md_fill ?_ rfl | (unfold ik; refine md_up ?_ rfl))); done) | (refine pm_of hP ?_; (repeat (first | assumption | exact md_refl | refine md_up ?_ rfl | refine md_fill ?_ rfl | (unfold ik; refine md_up ?_ rfl))); done) | omega | decide | ((try simp +decide only [b01, b10, b11, am_up, ik, and_true, and_false, true_and, false_and, if_true, if_false, nn_eq] at *) <;> (try simp only [sw_or, sw_all, or_false, and_true, i32_lt, i32_le, i32_eq, i32_addw, i32_subw, i32_mulw, Int32.reduceToInt] at *) <;> omega) | (apply_assumption; done)) (by first | exact c1 | exact hw | exact rfl | exact hs | exact d8 | exact hLZ' | exact d10 | assumption | (refine pc_of hP ?_; (repeat (first | assumption | exact md_refl | refine md_up ?_ rfl | refine md_fill ?_ rfl | (unfold ik; refine md_up ?_ rfl))); done) | (refine pc_oS hP ?_; (repeat (first | assumption | exact md_refl | refine md_up ?_ rfl | refine md_fill ?_ rfl | (unfold ik; refine md_up ?_ rfl))); done) | (refine pm_of hP ?_; (repeat (first | assumption | exact md_refl | refine md_up ?_ rfl | refine md_fill ?_ rfl | (unfold ik; refine md_up ?_ rfl))); done) | omega | decide | ((try simp +decide only [b01, b10, b11, am_up, ik, and_true, and_false, true_and, false_and, if_true, if_false, nn_eq] at *) <;> (try simp only [sw_or, sw_all, or_false, and_true, i32_lt, i32_le, i32_eq, i32_addw, i32_subw, i32_mulw, Int32.reduceToInt] at *) <;> omega) | (apply_assumption; done)) (by first | exact c1 | exact hw | exact rfl | exact hs | exact d8 | exact hLZ' | exact d10 | assumption | (refine pc_of hP ?_; (repeat (first | assumption | exact md_refl | refine md_up ?_ rfl | refine md_fill ?_ rfl | (unfold ik; refine md_up ?_ rfl))); done) | (refine pc_oS hP ?_; (repeat (first | assumption | exact md_refl | refine md_up ?_ rfl | refine md_fill ?_ rfl | (unfold ik; refine md_up ?_ rfl))); done) | (refine pm_of hP ?_; (repeat (first | assumption | exact md_refl | refine md_up ?_ rfl | refine md_fill ?_ rfl | (unfold ik; refine md_up ?_ rfl))); done) | omega | decide | ((try simp +decide only [b01, b10, b11, am_up, ik, and_true, and_false, true_and, false_and, if_true, if_false, nn_eq] at *) <;> (try simp only [sw_or, sw_all, or_false, and_true, i32_lt, i32_le, i32_eq, i32_addw, i32_subw, i32_mulw, Int32.reduceToInt] at *) <;> omega) | (apply_assumption; done)) (by first | exact c1 | exact hw | exact rfl | exact hs | exact d8 | exact hLZ' | exact d10 | assumption | (refine pc_of hP ?_; (repeat (first | assumption | exact md_refl | refine md_up ?_ rfl | refine md_fill ?_ rfl | (unfold ik; refine md_up ?_ rfl))); done) | (refine pc_oS hP ?_; (repeat (first | assumption | exact md_refl | refine md_up ?_ rfl | refine md_fill ?_ rfl | (unfold ik; refine md_up ?_ rfl))); done) | (refine pm_of hP ?_; (repeat (first | assumption | exact md_refl | refine md_up ?_ rfl | refine md_fill ?_ rfl | (unfold ik; refine md_up ?_ rfl))); done) | omega | decide | ((try simp +decide only [b01, b10, b11, am_up, ik, and_true, and_false, true_and, false_and, if_true, if_false, nn_eq] at *) <;> (try simp only [sw_or, sw_all, or_false, and_true, i32_lt, i32_le, i32_eq, i32_addw, i32_subw, i32_mulw, Int32.reduceToInt] at *) <;> omega) | (apply_assumption; done)) (by first | exact c1 | exact hw | exact rfl | exact hs | exact d8 | exact hLZ' | exact d10 | assumption | (refine pc_of hP ?_; (repeat (first | assumption | exact md_refl | refine md_up ?_ rfl | refine md_fill ?_ rfl | (unfold ik; refine md_up ?_ rfl))); done) | (refine pc_oS hP ?_; (repeat (first | assumption | exact md_refl | refine md_up ?_ rfl | refine md_fill ?_ rfl | (unfold ik; refine md_up ?_ rfl))); done) | (refine pm_of hP ?_; (repeat (first | assumption | exact md_refl | refine md_up ?_ rfl | refine md_fill ?_ rfl | (unfold ik; refine md_up ?_ rfl))); done) | omega | decide | ((try simp +decide only [b01, b10, b11, am_up, ik, and_true, and_false, true_and, false_and, if_true, if_false, nn_eq] at *) <;> (try simp only [sw_or, sw_all, or_false, and_true, i32_lt, i32_le, i32_eq, i32_addw, i32_subw, i32_mulw, Int32.reduceToInt] at *) <;> omega) | (apply_assumption; done)) (by first | exact c1 | exact hw | exact rfl | exact hs | exact d8 | exact hLZ' | exact d10 | assumption | (refine pc_of hP ?_; (repeat (first | assumption | exact md_refl | refine md_up ?_ rfl | refine md_fill ?_ rfl | (unfold ik; refine md_up ?_ rfl))); done) | (refine pc_oS hP ?_; (repeat (first | assumption | exact md_refl | refine md_up ?_ rfl | refine md_fill ?_ rfl | (unfold ik; refine md_up ?_ rfl))); done) | (refine pm_of hP ?_; (repeat (first | assumption | exact md_refl | refine md_up ?_ rfl | refine md_fill ?_ rfl | (unfold ik; refine md_up ?_ rfl))); done) | omega | decide | ((try simp +decide only [b01, b10, b11, am_up, ik, and_true, and_false, true_and, false_and, if_true, if_false, nn_eq] at *) <;> (try simp only [sw_or, sw_all, or_false, and_true, i32_lt, i32_le, i32_eq, i32_addw, i32_subw, i32_mulw, Int32.reduceToInt] at *) <;> omega) | (apply_assumption; done)) (by first | exact c1 | exact hw | exact rfl | exact hs | exact d8 | exact hLZ' | exact d10 | assumption | (refine pc_of hP ?_; (repeat (first | assumption | exact md_refl | refine md_up ?_ rfl | refine md_fill ?_ rfl | (unfold ik; refine md_up ?_ rfl))); done) | (refine pc_oS hP ?_; (repeat (first | assumption | exact md_refl | refine md_up ?_ rfl | refine md_fill ?_ rfl | (unfold ik; refine md_up ?_ rfl))); done) | (refine pm_of hP ?_; (repeat (first | assumption | exact md_refl | refine md_up ?_ rfl | refine md_fill ?_ rfl | (unfold ik; refine md_up ?_ rfl))); done) | omega | decide | ((try simp +decide only [b01, b10, b11, am_up, ik, and_true, and_false, true_and, false_and, if_true, if_false, nn_eq] at *) <;> (try simp only [sw_or, sw_all, or_false, and_true, i32_lt, i32_le, i32_eq, i32_addw, i32_subw, i32_mulw, Int32.reduceToInt] at *) <;> omega) | (apply_assumption; done)) (fun e96 => ?_)
    · skip
      exact k99 _ e96.2
  have hh : ∃ h : Nat, (h : Int) ≤ (P 5 y.toNatClampNeg).toInt ∧ H0 = nI h ∧ wfR R0 h := hWS.2
  have k84 : ∀ s w o, w.toInt = (p : Int) → am_md mL st s → oM (nb P y.toNatClampNeg) (nl P y.toNatClampNeg) st s → NS s (P 5 y.toNatClampNeg) o → ((o = resA P y.toNatClampNeg (P 5 y.toNatClampNeg) (pO P (nb P y.toNatClampNeg + p)) (pN P (nb P y.toNatClampNeg + p)) L0 R0 H0 ∧ ∃ T', MI P y.toNatClampNeg s T' ∧ le (nl P y.toNatClampNeg) T T' ∧ hX P y.toNatClampNeg p (P 7 y.toNatClampNeg).toInt.toNat L0 T' ∧ CH (nl P y.toNatClampNeg) T T' (st 600 0) (s 600 0)) ∨ (o = none ∧ ∀ U, ¬ Typ P y.toNatClampNeg U)) → am_AW c_MO_flowFrom g_MO_flowFrom (fun o' st' => am_ok none o' ∧ am_kv (ffQ P y.toNatClampNeg T p st) o' st') 84 [some (.inr (.inl 128)), some (.inl y), some (.inl x), some (.inl (P 0 x.toNatClampNeg)), some (.inl w)] [] s := by
    intro s w o hw s1 s2 s3 s4
    rcases o with _ | ⟨L', R', H'⟩
    · have hno : ∀ U, ¬ Typ P y.toNatClampNeg U := by
        rcases s4 with ⟨e, -⟩ | ⟨-, e⟩
        · intro U hU
          obtain ⟨R', H', g, -⟩ := res_SO (hSO U hU)
          rw [g] at e
          cases e
        · exact e
      have s5 : s 599 0 = 0 := s3.2
      have kQ := kBad s s1 s2 s5 hno
      clear k92 kBad
      refine r_al0 (q := 85) d_MO_flowFrom_84 rfl ?_
      refine gt_MO_good (q := 88) d_MO_flowFrom_85 rfl rfl ?_
      refine r_zne (tgt := 92) (q := 91) d_MO_flowFrom_88 rfl rfl (fun e88 => ?_) (fun e88 => ?_)
      · skip
        exact absurd s5 e88
      · skip
        refine r_rv d_MO_flowFrom_91 ?_
        exact kQ
    · have s5 : s 599 0 = 1 := s3.2.1
      have kQ : am_AW c_MO_flowFrom g_MO_flowFrom (fun o' st' => am_ok none o' ∧ am_kv (ffQ P y.toNatClampNeg T p st) o' st') 92 [some (.inr (.inl 128)), some (.inl y), some (.inl x), some (.inl (P 0 x.toNatClampNeg)), some (.inl w)] [] s := by
        rcases s4 with ⟨e, e2⟩ | ⟨e, -⟩
        · obtain ⟨r1, r2, r3, r4⟩ := res_inv e.symm
          exact k92 L' R' H' s w hw r1 r2 r3 r4 ⟨s1, s2, Or.inl ⟨s3, e2⟩⟩
        · cases e
      clear k92 kBad
      refine r_al0 (q := 85) d_MO_flowFrom_84 rfl ?_
      refine gt_MO_good (q := 88) d_MO_flowFrom_85 rfl rfl ?_
      refine r_zne (tgt := 92) (q := 91) d_MO_flowFrom_88 rfl rfl (fun e88 => ?_) (fun e88 => ?_)
      · skip
        exact kQ
      · skip
        refine r_rv d_MO_flowFrom_91 ?_
        exact absurd (s5.symm.trans e88) (by decide)
  have k69 : ∀ s w, w.toInt = (p : Int) → GS P y.toNatClampNeg (P 5 y.toNatClampNeg) st T L0 R0 H0 (fun T' => hX P y.toNatClampNeg p (P 7 y.toNatClampNeg).toInt.toNat L0 T') s → am_AW c_MO_flowFrom g_MO_flowFrom (fun o' st' => am_ok none o' ∧ am_kv (ffQ P y.toNatClampNeg T p st) o' st') 69 [some (.inr (.inl 128)), some (.inl y), some (.inl x), some (.inl (P 0 x.toNatClampNeg)), some (.inl w)] [] s := by
    intro s w hw g
    obtain ⟨g1, g2, g3⟩ := g
    have hPs := pm_oL c1 g1
    have hb1 : 0 ≤ (P 0 x.toNatClampNeg).toInt ∧ (P 0 x.toNatClampNeg).toInt ≤ 255 := c2.2.1 _
    have key : ∃ o o' : am_ts, NS s (P 5 y.toNatClampNeg) o ∧ (is_pl (P 0 x.toNatClampNeg) → plA (P 5 y.toNatClampNeg) (P 0 x.toNatClampNeg) (pN P x.toNatClampNeg) o = o') ∧ (¬ is_pl (P 0 x.toNatClampNeg) → otA P y.toNatClampNeg (P 5 y.toNatClampNeg) (P 0 x.toNatClampNeg) (pN P x.toNatClampNeg) o = o') ∧ ∀ s' : am_S, am_md mN s s' → ((o' = resA P y.toNatClampNeg (P 5 y.toNatClampNeg) (pO P (nb P y.toNatClampNeg + p)) (pN P (nb P y.toNatClampNeg + p)) L0 R0 H0 ∧ ∃ T', MI P y.toNatClampNeg s' T' ∧ le (nl P y.toNatClampNeg) T T' ∧ hX P y.toNatClampNeg p (P 7 y.toNatClampNeg).toInt.toNat L0 T' ∧ CH (nl P y.toNatClampNeg) T T' (st 600 0) (s' 600 0)) ∨ (o' = none ∧ ∀ U, ¬ Typ P y.toNatClampNeg U)) := by
      rcases g3 with ⟨n1, T', n2, n3, n4, n5⟩ | ⟨n1, n2⟩
      · obtain ⟨h, h1, h2, h3⟩ := hh
        refine ⟨_, resA P y.toNatClampNeg (P 5 y.toNatClampNeg) (dO (P 0 x.toNatClampNeg)) (pN P x.toNatClampNeg) L0 R0 H0, n1, fun e => ?_, fun e => ?_, fun s' hs' => Or.inl ⟨?_, T', MI_bk n2 (hs' 2155 rfl) (hs' 2156 rfl) (hs' 2157 rfl), n3, n4, by rw [hs' 600 rfl]; exact n5⟩⟩
        · rw [h2]
          exact pl_res hb1.1 hb1.2 (by omega) h1 h3 e
        · rw [h2]
          exact ot_res c2 hb1.1 hb1.2 (by omega) h1 h3 e h184
        · rw [hxn]
          rfl
      · refine ⟨none, none, n1, fun _ => ?_, fun _ => ?_, fun _ _ => Or.inr ⟨rfl, n2⟩⟩
        · unfold plA
          repeat' split
          all_goals rfl
        · unfold otA
          have e1 : ∀ n, itA (offA 1) n none = none := fun n => itA_none
          have e2 : ∀ n, itA (offA 2) n none = none := fun n => itA_none
          have e3 : offA 0 none = none := rfl
          have e4 : ∀ t, onA (P 5 y.toNatClampNeg) t none = none := fun t => rfl
          simp only [e1, e2, e3, e4, put_none, ite_self]
          unfold ifA
          simp only [ite_self]
    obtain ⟨o, o', q1, q2, q3, q4⟩ := key
    have kP : ∀ r s2, plQ (P 0 x.toNatClampNeg) (pN P x.toNatClampNeg) (P 5 y.toNatClampNeg) o s r s2 → ¬ r = 0 → am_AW c_MO_flowFrom g_MO_flowFrom (fun o' st' => am_ok none o' ∧ am_kv (ffQ P y.toNatClampNeg T p st) o' st') 84 [some (.inr (.inl 128)), some (.inl y), some (.inl x), some (.inl (P 0 x.toNatClampNeg)), some (.inl w)] [] s2 := by
      intro r s2 hq hr
      rcases hq with ⟨-, z1, z2, z3⟩ | ⟨z, -⟩
      · rw [q2 z1] at z3
        exact k84 s2 w o' hw (md_trans g1 (md_NL z2)) (oM_bk g2 (z2 2155 rfl) (z2 2156 rfl) (z2 2157 rfl)) z3 (q4 s2 z2)
      · exact absurd z hr
    have kO : ∀ r s2, plQ (P 0 x.toNatClampNeg) (pN P x.toNatClampNeg) (P 5 y.toNatClampNeg) o s r s2 → r = 0 → am_AW c_MO_flowFrom g_MO_flowFrom (fun o' st' => am_ok none o' ∧ am_kv (ffQ P y.toNatClampNeg T p st) o' st') 78 [some (.inr (.inl 128)), some (.inl y), some (.inl x), some (.inl (P 0 x.toNatClampNeg)), some (.inl w)] [] s2 := by
      intro r s2 hq hr
      rcases hq with ⟨z, -⟩ | ⟨-, z1, z2⟩
      · exact absurd (z.symm.trans hr) (by decide)
      · subst z2
        have kE : ∀ s', otQ P y.toNatClampNeg (P 5 y.toNatClampNeg) (P 0 x.toNatClampNeg) (pN P x.toNatClampNeg) o s2 s' → am_AW c_MO_flowFrom g_MO_flowFrom (fun o' st' => am_ok none o' ∧ am_kv (ffQ P y.toNatClampNeg T p st) o' st') 84 [some (.inr (.inl 128)), some (.inl y), some (.inl x), some (.inl (P 0 x.toNatClampNeg)), some (.inl w)] [] s' := by
          intro s' w1
          have w2 := w1.2
          rw [q3 z1] at w2
          exact k84 s' w o' hw (md_trans g1 (md_NL w1.1)) (oM_bk g2 (w1.1 2155 rfl) (w1.1 2156 rfl) (w1.1 2157 rfl)) w2 (q4 s' w1.1)
        clear k84 k92 kP kBad
        refine r_al0 (q := 79) d_MO_flowFrom_78 rfl ?_
        refine r_il1 (q := 80) d_MO_flowFrom_79 rfl ?_
        refine r_il2 (q := 81) d_MO_flowFrom_80 rfl ?_
        refine r_vv2 mo_MO_others d_MO_flowFrom_81 rfl rfl rfl (q := 84) rfl ?_
        refine sp_MO_others (P := P) (hei := P 5 y.toNatClampNeg) (o := o) (by first | exact hPs | exact hx0 | exact hxz | exact h184 | exact rfl | exact q1 | assumption | (refine pc_of hP ?_; (repeat (first | assumption | exact md_refl | refine md_up ?_ rfl | refine md_fill ?_ rfl | (unfold ik; refine md_up ?_ rfl))); done) | (refine pc_oS hP ?_; (repeat (first | assumption | exact md_refl | refine md_up ?_ rfl | refine md_fill ?_ rfl | (unfold ik; refine md_up ?_ rfl))); done) | (refine pm_of hP ?_; (repeat (first | assumption | exact md_refl | refine md_up ?_ rfl | refine md_fill ?_ rfl | (unfold ik; refine md_up ?_ rfl))); done) | omega | decide | ((try simp +decide only [b01, b10, b11, am_up, ik, and_true, and_false, true_and, false_and, if_true, if_false, nn_eq] at *) <;> (try simp only [sw_or, sw_all, or_false, and_true, i32_lt, i32_le, i32_eq, i32_addw, i32_subw, i32_mulw, Int32.reduceToInt] at *) <;> omega) | (apply_assumption; done)) (by first | exact hPs | exact hx0 | exact hxz | exact h184 | exact rfl | exact q1 | assumption | (refine pc_of hP ?_; (repeat (first | assumption | exact md_refl | refine md_up ?_ rfl | refine md_fill ?_ rfl | (unfold ik; refine md_up ?_ rfl))); done) | (refine pc_oS hP ?_; (repeat (first | assumption | exact md_refl | refine md_up ?_ rfl | refine md_fill ?_ rfl | (unfold ik; refine md_up ?_ rfl))); done) | (refine pm_of hP ?_; (repeat (first | assumption | exact md_refl | refine md_up ?_ rfl | refine md_fill ?_ rfl | (unfold ik; refine md_up ?_ rfl))); done) | omega | decide | ((try simp +decide only [b01, b10, b11, am_up, ik, and_true, and_false, true_and, false_and, if_true, if_false, nn_eq] at *) <;> (try simp only [sw_or, sw_all, or_false, and_true, i32_lt, i32_le, i32_eq, i32_addw, i32_subw, i32_mulw, Int32.reduceToInt] at *) <;> omega) | (apply_assumption; done)) (by first | exact hPs | exact hx0 | exact hxz | exact h184 | exact rfl | exact q1 | assumption | (refine pc_of hP ?_; (repeat (first | assumption | exact md_refl | refine md_up ?_ rfl | refine md_fill ?_ rfl | (unfold ik; refine md_up ?_ rfl))); done) | (refine pc_oS hP ?_; (repeat (first | assumption | exact md_refl | refine md_up ?_ rfl | refine md_fill ?_ rfl | (unfold ik; refine md_up ?_ rfl))); done) | (refine pm_of hP ?_; (repeat (first | assumption | exact md_refl | refine md_up ?_ rfl | refine md_fill ?_ rfl | (unfold ik; refine md_up ?_ rfl))); done) | omega | decide | ((try simp +decide only [b01, b10, b11, am_up, ik, and_true, and_false, true_and, false_and, if_true, if_false, nn_eq] at *) <;> (try simp only [sw_or, sw_all, or_false, and_true, i32_lt, i32_le, i32_eq, i32_addw, i32_subw, i32_mulw, Int32.reduceToInt] at *) <;> omega) | (apply_assumption; done)) (by first | exact hPs | exact hx0 | exact hxz | exact h184 | exact rfl | exact q1 | assumption | (refine pc_of hP ?_; (repeat (first | assumption | exact md_refl | refine md_up ?_ rfl | refine md_fill ?_ rfl | (unfold ik; refine md_up ?_ rfl))); done) | (refine pc_oS hP ?_; (repeat (first | assumption | exact md_refl | refine md_up ?_ rfl | refine md_fill ?_ rfl | (unfold ik; refine md_up ?_ rfl))); done) | (refine pm_of hP ?_; (repeat (first | assumption | exact md_refl | refine md_up ?_ rfl | refine md_fill ?_ rfl | (unfold ik; refine md_up ?_ rfl))); done) | omega | decide | ((try simp +decide only [b01, b10, b11, am_up, ik, and_true, and_false, true_and, false_and, if_true, if_false, nn_eq] at *) <;> (try simp only [sw_or, sw_all, or_false, and_true, i32_lt, i32_le, i32_eq, i32_addw, i32_subw, i32_mulw, Int32.reduceToInt] at *) <;> omega) | (apply_assumption; done)) (by first | exact hPs | exact hx0 | exact hxz | exact h184 | exact rfl | exact q1 | assumption | (refine pc_of hP ?_; (repeat (first | assumption | exact md_refl | refine md_up ?_ rfl | refine md_fill ?_ rfl | (unfold ik; refine md_up ?_ rfl))); done) | (refine pc_oS hP ?_; (repeat (first | assumption | exact md_refl | refine md_up ?_ rfl | refine md_fill ?_ rfl | (unfold ik; refine md_up ?_ rfl))); done) | (refine pm_of hP ?_; (repeat (first | assumption | exact md_refl | refine md_up ?_ rfl | refine md_fill ?_ rfl | (unfold ik; refine md_up ?_ rfl))); done) | omega | decide | ((try simp +decide only [b01, b10, b11, am_up, ik, and_true, and_false, true_and, false_and, if_true, if_false, nn_eq] at *) <;> (try simp only [sw_or, sw_all, or_false, and_true, i32_lt, i32_le, i32_eq, i32_addw, i32_subw, i32_mulw, Int32.reduceToInt] at *) <;> omega) | (apply_assumption; done)) (by first | exact hPs | exact hx0 | exact hxz | exact h184 | exact rfl | exact q1 | assumption | (refine pc_of hP ?_; (repeat (first | assumption | exact md_refl | refine md_up ?_ rfl | refine md_fill ?_ rfl | (unfold ik; refine md_up ?_ rfl))); done) | (refine pc_oS hP ?_; (repeat (first | assumption | exact md_refl | refine md_up ?_ rfl | refine md_fill ?_ rfl | (unfold ik; refine md_up ?_ rfl))); done) | (refine pm_of hP ?_; (repeat (first | assumption | exact md_refl | refine md_up ?_ rfl | refine md_fill ?_ rfl | (unfold ik; refine md_up ?_ rfl))); done) | omega | decide | ((try simp +decide only [b01, b10, b11, am_up, ik, and_true, and_false, true_and, false_and, if_true, if_false, nn_eq] at *) <;> (try simp only [sw_or, sw_all, or_false, and_true, i32_lt, i32_le, i32_eq, i32_addw, i32_subw, i32_mulw, Int32.reduceToInt] at *) <;> omega) | (apply_assumption; done)) (by first | exact hPs | exact hx0 | exact hxz | exact h184 | exact rfl | exact q1 | assumption | (refine pc_of hP ?_; (repeat (first | assumption | exact md_refl | refine md_up ?_ rfl | refine md_fill ?_ rfl | (unfold ik; refine md_up ?_ rfl))); done) | (refine pc_oS hP ?_; (repeat (first | assumption | exact md_refl | refine md_up ?_ rfl | refine md_fill ?_ rfl | (unfold ik; refine md_up ?_ rfl))); done) | (refine pm_of hP ?_; (repeat (first | assumption | exact md_refl | refine md_up ?_ rfl | refine md_fill ?_ rfl | (unfold ik; refine md_up ?_ rfl))); done) | omega | decide | ((try simp +decide only [b01, b10, b11, am_up, ik, and_true, and_false, true_and, false_and, if_true, if_false, nn_eq] at *) <;> (try simp only [sw_or, sw_all, or_false, and_true, i32_lt, i32_le, i32_eq, i32_addw, i32_subw, i32_mulw, Int32.reduceToInt] at *) <;> omega) | (apply_assumption; done)) (by first | exact hPs | exact hx0 | exact hxz | exact h184 | exact rfl | exact q1 | assumption | (refine pc_of hP ?_; (repeat (first | assumption | exact md_refl | refine md_up ?_ rfl | refine md_fill ?_ rfl | (unfold ik; refine md_up ?_ rfl))); done) | (refine pc_oS hP ?_; (repeat (first | assumption | exact md_refl | refine md_up ?_ rfl | refine md_fill ?_ rfl | (unfold ik; refine md_up ?_ rfl))); done) | (refine pm_of hP ?_; (repeat (first | assumption | exact md_refl | refine md_up ?_ rfl | refine md_fill ?_ rfl | (unfold ik; refine md_up ?_ rfl))); done) | omega | decide | ((try simp +decide only [b01, b10, b11, am_up, ik, and_true, and_false, true_and, false_and, if_true, if_false, nn_eq] at *) <;> (try simp only [sw_or, sw_all, or_false, and_true, i32_lt, i32_le, i32_eq, i32_addw, i32_subw, i32_mulw, Int32.reduceToInt] at *) <;> omega) | (apply_assumption; done)) (fun e81 => ?_)
        · skip
          exact kE _ e81.2
    clear k84 k92 kBad
    refine r_al0 (q := 70) d_MO_flowFrom_69 rfl ?_
    refine r_il1 (q := 71) d_MO_flowFrom_70 rfl ?_
    refine r_il2 (q := 72) d_MO_flowFrom_71 rfl ?_
    refine r_vi2 mo_MO_plain d_MO_flowFrom_72 rfl rfl rfl (q := 75) rfl ?_
    refine sp_MO_plain (P := P) (hei := P 5 y.toNatClampNeg) (o := o) (by first | exact hPs | exact hx0 | exact hxz | exact hloc | exact rfl | exact q1 | assumption | (refine pc_of hP ?_; (repeat (first | assumption | exact md_refl | refine md_up ?_ rfl | refine md_fill ?_ rfl | (unfold ik; refine md_up ?_ rfl))); done) | (refine pc_oS hP ?_; (repeat (first | assumption | exact md_refl | refine md_up ?_ rfl | refine md_fill ?_ rfl | (unfold ik; refine md_up ?_ rfl))); done) | (refine pm_of hP ?_; (repeat (first | assumption | exact md_refl | refine md_up ?_ rfl | refine md_fill ?_ rfl | (unfold ik; refine md_up ?_ rfl))); done) | omega | decide | ((try simp +decide only [b01, b10, b11, am_up, ik, and_true, and_false, true_and, false_and, if_true, if_false, nn_eq] at *) <;> (try simp only [sw_or, sw_all, or_false, and_true, i32_lt, i32_le, i32_eq, i32_addw, i32_subw, i32_mulw, Int32.reduceToInt] at *) <;> omega) | (apply_assumption; done)) (by first | exact hPs | exact hx0 | exact hxz | exact hloc | exact rfl | exact q1 | assumption | (refine pc_of hP ?_; (repeat (first | assumption | exact md_refl | refine md_up ?_ rfl | refine md_fill ?_ rfl | (unfold ik; refine md_up ?_ rfl))); done) | (refine pc_oS hP ?_; (repeat (first | assumption | exact md_refl | refine md_up ?_ rfl | refine md_fill ?_ rfl | (unfold ik; refine md_up ?_ rfl))); done) | (refine pm_of hP ?_; (repeat (first | assumption | exact md_refl | refine md_up ?_ rfl | refine md_fill ?_ rfl | (unfold ik; refine md_up ?_ rfl))); done) | omega | decide | ((try simp +decide only [b01, b10, b11, am_up, ik, and_true, and_false, true_and, false_and, if_true, if_false, nn_eq] at *) <;> (try simp only [sw_or, sw_all, or_false, and_true, i32_lt, i32_le, i32_eq, i32_addw, i32_subw, i32_mulw, Int32.reduceToInt] at *) <;> omega) | (apply_assumption; done)) (by first | exact hPs | exact hx0 | exact hxz | exact hloc | exact rfl | exact q1 | assumption | (refine pc_of hP ?_; (repeat (first | assumption | exact md_refl | refine md_up ?_ rfl | refine md_fill ?_ rfl | (unfold ik; refine md_up ?_ rfl))); done) | (refine pc_oS hP ?_; (repeat (first | assumption | exact md_refl | refine md_up ?_ rfl | refine md_fill ?_ rfl | (unfold ik; refine md_up ?_ rfl))); done) | (refine pm_of hP ?_; (repeat (first | assumption | exact md_refl | refine md_up ?_ rfl | refine md_fill ?_ rfl | (unfold ik; refine md_up ?_ rfl))); done) | omega | decide | ((try simp +decide only [b01, b10, b11, am_up, ik, and_true, and_false, true_and, false_and, if_true, if_false, nn_eq] at *) <;> (try simp only [sw_or, sw_all, or_false, and_true, i32_lt, i32_le, i32_eq, i32_addw, i32_subw, i32_mulw, Int32.reduceToInt] at *) <;> omega) | (apply_assumption; done)) (by first | exact hPs | exact hx0 | exact hxz | exact hloc | exact rfl | exact q1 | assumption | (refine pc_of hP ?_; (repeat (first | assumption | exact md_refl | refine md_up ?_ rfl | refine md_fill ?_ rfl | (unfold ik; refine md_up ?_ rfl))); done) | (refine pc_oS hP ?_; (repeat (first | assumption | exact md_refl | refine md_up ?_ rfl | refine md_fill ?_ rfl | (unfold ik; refine md_up ?_ rfl))); done) | (refine pm_of hP ?_; (repeat (first | assumption | exact md_refl | refine md_up ?_ rfl | refine md_fill ?_ rfl | (unfold ik; refine md_up ?_ rfl))); done) | omega | decide | ((try simp +decide only [b01, b10, b11, am_up, ik, and_true, and_false, true_and, false_and, if_true, if_false, nn_eq] at *) <;> (try simp only [sw_or, sw_all, or_false, and_true, i32_lt, i32_le, i32_eq, i32_addw, i32_subw, i32_mulw, Int32.reduceToInt] at *) <;> omega) | (apply_assumption; done)) (by first | exact hPs | exact hx0 | exact hxz | exact hloc | exact rfl | exact q1 | assumption | (refine pc_of hP ?_; (repeat (first | assumption | exact md_refl | refine md_up ?_ rfl | refine md_fill ?_ rfl | (unfold ik; refine md_up ?_ rfl))); done) | (refine pc_oS hP ?_; (repeat (first | assumption | exact md_refl | refine md_up ?_ rfl | refine md_fill ?_ rfl | (unfold ik; refine md_up ?_ rfl))); done) | (refine pm_of hP ?_; (repeat (first | assumption | exact md_refl | refine md_up ?_ rfl | refine md_fill ?_ rfl | (unfold ik; refine md_up ?_ rfl))); done) | omega | decide | ((try simp +decide only [b01, b10, b11, am_up, ik, and_true, and_false, true_and, false_and, if_true, if_false, nn_eq] at *) <;> (try simp only [sw_or, sw_all, or_false, and_true, i32_lt, i32_le, i32_eq, i32_addw, i32_subw, i32_mulw, Int32.reduceToInt] at *) <;> omega) | (apply_assumption; done)) (by first | exact hPs | exact hx0 | exact hxz | exact hloc | exact rfl | exact q1 | assumption | (refine pc_of hP ?_; (repeat (first | assumption | exact md_refl | refine md_up ?_ rfl | refine md_fill ?_ rfl | (unfold ik; refine md_up ?_ rfl))); done) | (refine pc_oS hP ?_; (repeat (first | assumption | exact md_refl | refine md_up ?_ rfl | refine md_fill ?_ rfl | (unfold ik; refine md_up ?_ rfl))); done) | (refine pm_of hP ?_; (repeat (first | assumption | exact md_refl | refine md_up ?_ rfl | refine md_fill ?_ rfl | (unfold ik; refine md_up ?_ rfl))); done) | omega | decide | ((try simp +decide only [b01, b10, b11, am_up, ik, and_true, and_false, true_and, false_and, if_true, if_false, nn_eq] at *) <;> (try simp only [sw_or, sw_all, or_false, and_true, i32_lt, i32_le, i32_eq, i32_addw, i32_subw, i32_mulw, Int32.reduceToInt] at *) <;> omega) | (apply_assumption; done)) (by first | exact hPs | exact hx0 | exact hxz | exact hloc | exact rfl | exact q1 | assumption | (refine pc_of hP ?_; (repeat (first | assumption | exact md_refl | refine md_up ?_ rfl | refine md_fill ?_ rfl | (unfold ik; refine md_up ?_ rfl))); done) | (refine pc_oS hP ?_; (repeat (first | assumption | exact md_refl | refine md_up ?_ rfl | refine md_fill ?_ rfl | (unfold ik; refine md_up ?_ rfl))); done) | (refine pm_of hP ?_; (repeat (first | assumption | exact md_refl | refine md_up ?_ rfl | refine md_fill ?_ rfl | (unfold ik; refine md_up ?_ rfl))); done) | omega | decide | ((try simp +decide only [b01, b10, b11, am_up, ik, and_true, and_false, true_and, false_and, if_true, if_false, nn_eq] at *) <;> (try simp only [sw_or, sw_all, or_false, and_true, i32_lt, i32_le, i32_eq, i32_addw, i32_subw, i32_mulw, Int32.reduceToInt] at *) <;> omega) | (apply_assumption; done)) (by first | exact hPs | exact hx0 | exact hxz | exact hloc | exact rfl | exact q1 | assumption | (refine pc_of hP ?_; (repeat (first | assumption | exact md_refl | refine md_up ?_ rfl | refine md_fill ?_ rfl | (unfold ik; refine md_up ?_ rfl))); done) | (refine pc_oS hP ?_; (repeat (first | assumption | exact md_refl | refine md_up ?_ rfl | refine md_fill ?_ rfl | (unfold ik; refine md_up ?_ rfl))); done) | (refine pm_of hP ?_; (repeat (first | assumption | exact md_refl | refine md_up ?_ rfl | refine md_fill ?_ rfl | (unfold ik; refine md_up ?_ rfl))); done) | omega | decide | ((try simp +decide only [b01, b10, b11, am_up, ik, and_true, and_false, true_and, false_and, if_true, if_false, nn_eq] at *) <;> (try simp only [sw_or, sw_all, or_false, and_true, i32_lt, i32_le, i32_eq, i32_addw, i32_subw, i32_mulw, Int32.reduceToInt] at *) <;> omega) | (apply_assumption; done)) (fun e72 => ?_)
    · skip
      refine r_zne (tgt := 84) (q := 78) d_MO_flowFrom_75 rfl rfl (fun e75 => ?_) (fun e75 => ?_)
      · skip
        first | exact kP _ _ e72.2 e75 | exact kO _ _ e72.2 e75
      · skip
        first | exact kP _ _ e72.2 e75 | exact kO _ _ e72.2 e75
  -- the state is copied
  have k62 : ∀ s w, w.toInt = (p : Int) → (∀ b, ¬ b = 2158 → ¬ b = 598 → s b = st b) → (∀ k, k < 16 → s 2158 k = st 2156 (16 * (nb P y.toNatClampNeg + p) + k)) → s 598 0 = st 2157 (nb P y.toNatClampNeg + p) → am_AW c_MO_flowFrom g_MO_flowFrom (fun o' st' => am_ok none o' ∧ am_kv (ffQ P y.toNatClampNeg T p st) o' st') 62 [some (.inr (.inl 128)), some (.inl y), some (.inl x), some (.inl (P 0 x.toNatClampNeg)), some (.inl w)] [] s := by
    intro s w hw s1 s2 s3
    have hMT : st 2157 (nb P y.toNatClampNeg + p) = H0 ∧ (∀ k, k < 8 → st 2156 (16 * (nb P y.toNatClampNeg + p) + k) = ty_at L0 (nI k)) ∧ ∀ k : Nat, (k : Int) < H0.toInt → st 2156 (16 * (nb P y.toNatClampNeg + p) + 8 + k) = ty_at R0 (nI k) := by
      rcases c7.1 p c6.1 with q | q
      · rw [hH0] at q
        exact absurd q.1 c6.2
      · rw [hL0, hR0, hH0] at q
        exact q.2.2
    have g : GS P y.toNatClampNeg (P 5 y.toNatClampNeg) st T L0 R0 H0 (fun _ => True) s := by
      obtain ⟨h, h1, h2, h3⟩ := hh
      have hv3 := c2.2.2 _ c3.2
      unfold VM at hv3
      refine ⟨fun b hb => s1 b (fun q => ?_) (fun q => ?_), fun i _ => ?_, Or.inl ⟨⟨?_, ?_, hWS.1, fun k hk => ?_, h, by omega, h2, ?_, h3, fun k hk => ?_⟩, T, MI_bk c7 (s1 2155 (by decide) (by decide)) (s1 2156 (by decide) (by decide)) (s1 2157 (by decide) (by decide)), le_refl', trivial, ?_⟩⟩
      · subst q
        exact absurd hb (by decide)
      · subst q
        exact absurd hb (by decide)
      · rw [s1 2155 (by decide) (by decide), s1 2156 (by decide) (by decide), s1 2157 (by decide) (by decide)]
        exact ⟨rfl, rfl, fun _ _ => rfl⟩
      · rw [s3, hMT.1, h2, nI_t (by omega)]
        omega
      · rw [s1 599 (by decide) (by decide)]
        exact c8
      · rw [s2 k (by omega)]
        exact hMT.2.1 k hk
      · rw [s3, hMT.1, h2]
      · rw [s2 (8 + k) (by omega), ← Nat.add_assoc]
        exact hMT.2.2 k (by rw [h2, nI_t (by omega)]; omega)
      · rw [s1 600 (by decide) (by decide)]
        exact CH_refl
    have d8 : moX (nl P y.toNatClampNeg) (fun _ => True) := fun _ _ _ _ => trivial
    have d10 : ∀ U, Typ P y.toNatClampNeg U → hX P y.toNatClampNeg p (P 7 y.toNatClampNeg).toInt.toNat L0 U := fun U hU => (hSO U hU).1
    have kE : ∀ s', GS P y.toNatClampNeg (P 5 y.toNatClampNeg) st T L0 R0 H0 (fun T' => True ∧ hX P y.toNatClampNeg p (P 7 y.toNatClampNeg).toInt.toNat L0 T') s' → am_AW c_MO_flowFrom g_MO_flowFrom (fun o' st' => am_ok none o' ∧ am_kv (ffQ P y.toNatClampNeg T p st) o' st') 69 [some (.inr (.inl 128)), some (.inl y), some (.inl x), some (.inl (P 0 x.toNatClampNeg)), some (.inl w)] [] s' := fun s' g' => k69 s' w hw (GS_w g' (fun T' hT => hT.2))
    clear k69 k84 k92 kBad
    refine r_al0 (q := 63) d_MO_flowFrom_62 rfl ?_
    refine r_il1 (q := 64) d_MO_flowFrom_63 rfl ?_
    refine r_il4 (q := 66) d_MO_flowFrom_64 rfl ?_
    refine r_vv2 mo_MO_toHandlers d_MO_flowFrom_66 rfl rfl rfl (q := 69) rfl ?_
    refine sp_MO_toHandlers (P := P) (st0 := st) (T0 := T) (X := fun _ => True) (hei := P 5 y.toNatClampNeg) (L := L0) (R := R0) (H := H0) (p := p) (by first | exact c1 | exact hw | exact rfl | exact g | exact d8 | exact hLZ | exact d10 | assumption | (refine pc_of hP ?_; (repeat (first | assumption | exact md_refl | refine md_up ?_ rfl | refine md_fill ?_ rfl | (unfold ik; refine md_up ?_ rfl))); done) | (refine pc_oS hP ?_; (repeat (first | assumption | exact md_refl | refine md_up ?_ rfl | refine md_fill ?_ rfl | (unfold ik; refine md_up ?_ rfl))); done) | (refine pm_of hP ?_; (repeat (first | assumption | exact md_refl | refine md_up ?_ rfl | refine md_fill ?_ rfl | (unfold ik; refine md_up ?_ rfl))); done) | omega | decide | ((try simp +decide only [b01, b10, b11, am_up, ik, and_true, and_false, true_and, false_and, if_true, if_false, nn_eq] at *) <;> (try simp only [sw_or, sw_all, or_false, and_true, i32_lt, i32_le, i32_eq, i32_addw, i32_subw, i32_mulw, Int32.reduceToInt] at *) <;> omega) | (apply_assumption; done)) (by first | exact c1 | exact hw | exact rfl | exact g | exact d8 | exact hLZ | exact d10 | assumption | (refine pc_of hP ?_; (repeat (first | assumption | exact md_refl | refine md_up ?_ rfl | refine md_fill ?_ rfl | (unfold ik; refine md_up ?_ rfl))); done) | (refine pc_oS hP ?_; (repeat (first | assumption | exact md_refl | refine md_up ?_ rfl | refine md_fill ?_ rfl | (unfold ik; refine md_up ?_ rfl))); done) | (refine pm_of hP ?_; (repeat (first | assumption | exact md_refl | refine md_up ?_ rfl | refine md_fill ?_ rfl | (unfold ik; refine md_up ?_ rfl))); done) | omega | decide | ((try simp +decide only [b01, b10, b11, am_up, ik, and_true, and_false, true_and, false_and, if_true, if_false, nn_eq] at *) <;> (try simp only [sw_or, sw_all, or_false, and_true, i32_lt, i32_le, i32_eq, i32_addw, i32_subw, i32_mulw, Int32.reduceToInt] at *) <;> omega) | (apply_assumption; done)) (by first | exact c1 | exact hw | exact rfl | exact g | exact d8 | exact hLZ | exact d10 | assumption | (refine pc_of hP ?_; (repeat (first | assumption | exact md_refl | refine md_up ?_ rfl | refine md_fill ?_ rfl | (unfold ik; refine md_up ?_ rfl))); done) | (refine pc_oS hP ?_; (repeat (first | assumption | exact md_refl | refine md_up ?_ rfl | refine md_fill ?_ rfl | (unfold ik; refine md_up ?_ rfl))); done) | (refine pm_of hP ?_; (repeat (first | assumption | exact md_refl | refine md_up ?_ rfl | refine md_fill ?_ rfl | (unfold ik; refine md_up ?_ rfl))); done) | omega | decide | ((try simp +decide only [b01, b10, b11, am_up, ik, and_true, and_false, true_and, false_and, if_true, if_false, nn_eq] at *) <;> (try simp only [sw_or, sw_all, or_false, and_true, i32_lt, i32_le, i32_eq, i32_addw, i32_subw, i32_mulw, Int32.reduceToInt] at *) <;> omega) | (apply_assumption; done)) (by first | exact c1 | exact hw | exact rfl | exact g | exact d8 | exact hLZ | exact d10 | assumption | (refine pc_of hP ?_; (repeat (first | assumption | exact md_refl | refine md_up ?_ rfl | refine md_fill ?_ rfl | (unfold ik; refine md_up ?_ rfl))); done) | (refine pc_oS hP ?_; (repeat (first | assumption | exact md_refl | refine md_up ?_ rfl | refine md_fill ?_ rfl | (unfold ik; refine md_up ?_ rfl))); done) | (refine pm_of hP ?_; (repeat (first | assumption | exact md_refl | refine md_up ?_ rfl | refine md_fill ?_ rfl | (unfold ik; refine md_up ?_ rfl))); done) | omega | decide | ((try simp +decide only [b01, b10, b11, am_up, ik, and_true, and_false, true_and, false_and, if_true, if_false, nn_eq] at *) <;> (try simp only [sw_or, sw_all, or_false, and_true, i32_lt, i32_le, i32_eq, i32_addw, i32_subw, i32_mulw, Int32.reduceToInt] at *) <;> omega) | (apply_assumption; done)) (by first | exact c1 | exact hw | exact rfl | exact g | exact d8 | exact hLZ | exact d10 | assumption | (refine pc_of hP ?_; (repeat (first | assumption | exact md_refl | refine md_up ?_ rfl | refine md_fill ?_ rfl | (unfold ik; refine md_up ?_ rfl))); done) | (refine pc_oS hP ?_; (repeat (first | assumption | exact md_refl | refine md_up ?_ rfl | refine md_fill ?_ rfl | (unfold ik; refine md_up ?_ rfl))); done) | (refine pm_of hP ?_; (repeat (first | assumption | exact md_refl | refine md_up ?_ rfl | refine md_fill ?_ rfl | (unfold ik; refine md_up ?_ rfl))); done) | omega | decide | ((try simp +decide only [b01, b10, b11, am_up, ik, and_true, and_false, true_and, false_and, if_true, if_false, nn_eq] at *) <;> (try simp only [sw_or, sw_all, or_false, and_true, i32_lt, i32_le, i32_eq, i32_addw, i32_subw, i32_mulw, Int32.reduceToInt] at *) <;> omega) | (apply_assumption; done)) (by first | exact c1 | exact hw | exact rfl | exact g | exact d8 | exact hLZ | exact d10 | assumption | (refine pc_of hP ?_; (repeat (first | assumption | exact md_refl | refine md_up ?_ rfl | refine md_fill ?_ rfl | (unfold ik; refine md_up ?_ rfl))); done) | (refine pc_oS hP ?_; (repeat (first | assumption | exact md_refl | refine md_up ?_ rfl | refine md_fill ?_ rfl | (unfold ik; refine md_up ?_ rfl))); done) | (refine pm_of hP ?_; (repeat (first | assumption | exact md_refl | refine md_up ?_ rfl | refine md_fill ?_ rfl | (unfold ik; refine md_up ?_ rfl))); done) | omega | decide | ((try simp +decide only [b01, b10, b11, am_up, ik, and_true, and_false, true_and, false_and, if_true, if_false, nn_eq] at *) <;> (try simp only [sw_or, sw_all, or_false, and_true, i32_lt, i32_le, i32_eq, i32_addw, i32_subw, i32_mulw, Int32.reduceToInt] at *) <;> omega) | (apply_assumption; done)) (by first | exact c1 | exact hw | exact rfl | exact g | exact d8 | exact hLZ | exact d10 | assumption | (refine pc_of hP ?_; (repeat (first | assumption | exact md_refl | refine md_up ?_ rfl | refine md_fill ?_ rfl | (unfold ik; refine md_up ?_ rfl))); done) | (refine pc_oS hP ?_; (repeat (first | assumption | exact md_refl | refine md_up ?_ rfl | refine md_fill ?_ rfl | (unfold ik; refine md_up ?_ rfl))); done) | (refine pm_of hP ?_; (repeat (first | assumption | exact md_refl | refine md_up ?_ rfl | refine md_fill ?_ rfl | (unfold ik; refine md_up ?_ rfl))); done) | omega | decide | ((try simp +decide only [b01, b10, b11, am_up, ik, and_true, and_false, true_and, false_and, if_true, if_false, nn_eq] at *) <;> (try simp only [sw_or, sw_all, or_false, and_true, i32_lt, i32_le, i32_eq, i32_addw, i32_subw, i32_mulw, Int32.reduceToInt] at *) <;> omega) | (apply_assumption; done)) (by first | exact c1 | exact hw | exact rfl | exact g | exact d8 | exact hLZ | exact d10 | assumption | (refine pc_of hP ?_; (repeat (first | assumption | exact md_refl | refine md_up ?_ rfl | refine md_fill ?_ rfl | (unfold ik; refine md_up ?_ rfl))); done) | (refine pc_oS hP ?_; (repeat (first | assumption | exact md_refl | refine md_up ?_ rfl | refine md_fill ?_ rfl | (unfold ik; refine md_up ?_ rfl))); done) | (refine pm_of hP ?_; (repeat (first | assumption | exact md_refl | refine md_up ?_ rfl | refine md_fill ?_ rfl | (unfold ik; refine md_up ?_ rfl))); done) | omega | decide | ((try simp +decide only [b01, b10, b11, am_up, ik, and_true, and_false, true_and, false_and, if_true, if_false, nn_eq] at *) <;> (try simp only [sw_or, sw_all, or_false, and_true, i32_lt, i32_le, i32_eq, i32_addw, i32_subw, i32_mulw, Int32.reduceToInt] at *) <;> omega) | (apply_assumption; done)) (by first | exact c1 | exact hw | exact rfl | exact g | exact d8 | exact hLZ | exact d10 | assumption | (refine pc_of hP ?_; (repeat (first | assumption | exact md_refl | refine md_up ?_ rfl | refine md_fill ?_ rfl | (unfold ik; refine md_up ?_ rfl))); done) | (refine pc_oS hP ?_; (repeat (first | assumption | exact md_refl | refine md_up ?_ rfl | refine md_fill ?_ rfl | (unfold ik; refine md_up ?_ rfl))); done) | (refine pm_of hP ?_; (repeat (first | assumption | exact md_refl | refine md_up ?_ rfl | refine md_fill ?_ rfl | (unfold ik; refine md_up ?_ rfl))); done) | omega | decide | ((try simp +decide only [b01, b10, b11, am_up, ik, and_true, and_false, true_and, false_and, if_true, if_false, nn_eq] at *) <;> (try simp only [sw_or, sw_all, or_false, and_true, i32_lt, i32_le, i32_eq, i32_addw, i32_subw, i32_mulw, Int32.reduceToInt] at *) <;> omega) | (apply_assumption; done)) (by first | exact c1 | exact hw | exact rfl | exact g | exact d8 | exact hLZ | exact d10 | assumption | (refine pc_of hP ?_; (repeat (first | assumption | exact md_refl | refine md_up ?_ rfl | refine md_fill ?_ rfl | (unfold ik; refine md_up ?_ rfl))); done) | (refine pc_oS hP ?_; (repeat (first | assumption | exact md_refl | refine md_up ?_ rfl | refine md_fill ?_ rfl | (unfold ik; refine md_up ?_ rfl))); done) | (refine pm_of hP ?_; (repeat (first | assumption | exact md_refl | refine md_up ?_ rfl | refine md_fill ?_ rfl | (unfold ik; refine md_up ?_ rfl))); done) | omega | decide | ((try simp +decide only [b01, b10, b11, am_up, ik, and_true, and_false, true_and, false_and, if_true, if_false, nn_eq] at *) <;> (try simp only [sw_or, sw_all, or_false, and_true, i32_lt, i32_le, i32_eq, i32_addw, i32_subw, i32_mulw, Int32.reduceToInt] at *) <;> omega) | (apply_assumption; done)) (fun e66 => ?_)
    · skip
      exact kE _ e66.2
  have k42 : ∀ s : am_S, ∀ v, (∀ b, ¬ b = 2158 → s b = st b) → (∀ k, k < 16 → s 2158 k = st 2156 (16 * (nb P y.toNatClampNeg + p) + k)) → am_AW c_MO_flowFrom g_MO_flowFrom (fun o' st' => am_ok none o' ∧ am_kv (ffQ P y.toNatClampNeg T p st) o' st') 42 [some (.inr (.inl 128)), some (.inl y), some (.inl x), some (.inl (P 0 x.toNatClampNeg)), some (.inl v)] [] s := by
    intro s v s1 s2
    have e57 : s 2157 x.toNatClampNeg = st 2157 (nb P y.toNatClampNeg + p) := by rw [s1 2157 (by decide), hxn]
    have ew : (x - s 2143 y.toNatClampNeg).toInt = (p : Int) := by
      rw [s1 2143 (by decide), i32_subw]
      omega
    have kE := k62 (am_up s 598 0 (s 2157 x.toNatClampNeg)) (x - s 2143 y.toNatClampNeg) ew (fun b b1 b2 => by rw [am_up_bank b2]; exact s1 b b1) (fun k hk => by rw [am_up_bank (by decide)]; exact s2 k hk) (by rw [am_up_eq]; exact e57)
    clear k62 k69 k84 k92 kBad
    refine r_al0 (q := 43) d_MO_flowFrom_42 rfl ?_
    refine r_al0 (q := 44) d_MO_flowFrom_43 rfl ?_
    refine gt_MO_high (q := 47) d_MO_flowFrom_44 rfl rfl ?_
    refine r_il2 (q := 48) d_MO_flowFrom_47 rfl ?_
    refine ld_157 (q := 49) d_MO_flowFrom_48 ?_ rfl ?_
    · first | exact vx | exact vy9
    refine pt_MO_top (q := 52) d_MO_flowFrom_49 rfl rfl ?_
    refine r_il2 (q := 53) d_MO_flowFrom_52 rfl ?_
    refine r_al0 (q := 54) d_MO_flowFrom_53 rfl ?_
    refine gt_MO_begin (q := 57) d_MO_flowFrom_54 rfl rfl ?_
    refine r_il1 (q := 58) d_MO_flowFrom_57 rfl ?_
    refine ld_143 (q := 59) d_MO_flowFrom_58 ?_ rfl ?_
    · first | exact vx | exact vy9
    refine r_isub (q := 60) d_MO_flowFrom_59 rfl ?_
    refine r_is4 (q := 62) d_MO_flowFrom_60 rfl ?_
    exact kE
  have kL := lp_MO_cp (y := y) (b := P 0 x.toNatClampNeg) (K := ffQ P y.toNatClampNeg T p st) hxa (by omega) k42 16 0 st (by omega) (fun _ _ => rfl) (fun k hk => absurd hk (by omega))
  clear k42 k62 k69 k84 k92 kBad
  refine r_al0 (q := 1) d_MO_flowFrom_0 rfl ?_
  refine gt_MO_code (q := 4) d_MO_flowFrom_1 rfl rfl ?_
  refine r_il2 (q := 5) d_MO_flowFrom_4 rfl ?_
  refine ld_142 (q := 6) d_MO_flowFrom_5 ?_ rfl ?_
  · exact vx
  refine r_is3 (q := 7) d_MO_flowFrom_6 rfl ?_
  refine r_ic (v := 0) (q := 8) d_MO_flowFrom_7 rfl rfl ?_
  refine r_is4 (q := 10) d_MO_flowFrom_8 rfl ?_
  rw [hst]; exact kL

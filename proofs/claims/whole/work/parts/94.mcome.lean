/-! written by wip/whole/gen/walk.py out of 94.mcome.txt -/
def mK (b : Nat) : Bool := (2155 ≤ b && b ≤ 2157) || b == 599 || b == 600
theorem md_K {s t : am_S} (h : am_md mK s t) : am_md mV s t := by
  intro b hb
  refine h b ?_
  unfold mV at hb
  unfold mK
  simp only [Bool.or_eq_false_iff, Bool.and_eq_false_iff, decide_eq_false_iff_not, beq_eq_false_iff_ne] at hb ⊢
  omega
def oM (B N : Nat) (s t : am_S) : Prop := ∀ i, (i < B ∨ B + N ≤ i) → t 2155 i = s 2155 i ∧ t 2157 i = s 2157 i ∧ ∀ k, k < 16 → t 2156 (16 * i + k) = s 2156 (16 * i + k)
theorem oM_refl {B N : Nat} {s : am_S} : oM B N s s := fun _ _ => ⟨rfl, rfl, fun _ _ => rfl⟩
theorem oM_trans {B N : Nat} {s t u : am_S} (h : oM B N s t) (h' : oM B N t u) : oM B N s u := fun i hi => ⟨(h' i hi).1.trans (h i hi).1, (h' i hi).2.1.trans (h i hi).2.1, fun k hk => ((h' i hi).2.2 k hk).trans ((h i hi).2.2 k hk)⟩
/-- what the reference holds of the places of method m is T -/
def MT (P : am_S) (m : Nat) (st : am_S) (T : am_T) : Prop := ∀ p, p < nl P m → (T 2 p = -1 ∧ st 2155 (nb P m + p) = 0) ∨ (¬ T 2 p = -1 ∧ st 2155 (nb P m + p) = 1 ∧ st 2157 (nb P m + p) = T 2 p ∧ (∀ k, k < 8 → st 2156 (16 * (nb P m + p) + k) = ty_at (T 0 p) (nI k)) ∧ ∀ k : Nat, (k : Int) < (T 2 p).toInt → st 2156 (16 * (nb P m + p) + 8 + k) = ty_at (T 1 p) (nI k))
def LZ (P : am_S) (m : Nat) (L : Int32) : Prop := ∀ k : Nat, (P 4 m).toInt ≤ k → k < 8 → ty_at L (nI k) = 0
def MI (P : am_S) (m : Nat) (st : am_S) (T : am_T) : Prop := MT P m st T ∧ WT P m T ∧ (∀ U, Typ P m U → le (nl P m) T U) ∧ ∀ p, p < nl P m → ¬ T 2 p = -1 → LZ P m (T 0 p)
def CH (N : Nat) (T T' : am_T) (a b : Int32) : Prop := (T' = T ∧ b = a) ∨ (mu N T' + 1 ≤ mu N T ∧ b = 1)
theorem CH_refl {N : Nat} {T : am_T} {a : Int32} : CH N T T a a := Or.inl ⟨rfl, rfl⟩
theorem CH_trans {N : Nat} {T U V : am_T} {a b c : Int32} (h : CH N T U a b) (h' : CH N U V b c) : CH N T V a c := by
  rcases h with ⟨e, f⟩ | ⟨e, f⟩
  · subst e
    subst f
    exact h'
  · rcases h' with ⟨e', f'⟩ | ⟨e', f'⟩
    · subst e'
      exact Or.inr ⟨e, f'.trans f⟩
    · exact Or.inr ⟨by omega, f'⟩
theorem LZ_com {P : am_S} {m : Nat} {A B : Int32} (h : LZ P m A) : LZ P m (ty_com A B) := by
  intro k h1 h2
  rw [at_com h2]
  split
  · exact h k h1 h2
  · rfl
theorem row_eq {A B : Int32} {h : Nat} (wa : wfR A h) (wb : wfR B h) (e : ∀ k, k < h → ty_at A (nI k) = ty_at B (nI k)) : A = B := by
  refine at_ext fun k hk => ?_
  by_cases c : k < h
  · exact e k c
  · rw [wa.1 k (by omega) hk, wb.1 k (by omega) hk]
/-- the reference's rows after an arrival at p are those of cm -/
theorem MI_cm {P : am_S} {m p : Nat} {L R H : Int32} {T : am_T} {st s : am_S} (h : MI P m st T) (hp : p < nl P m) (hs : WS P m L R H) (hH : ¬ H = -1) (hz : LZ P m L) (hb : bg P m p) (hA : ∀ U, Typ P m U → Ar (nl P m) U (p : Int) L R H) (hc : T 2 p = -1 ∨ (T 2 p = H ∧ T 1 p = R)) (o1 : ∀ q, q < nl P m → ¬ q = p → s 2155 (nb P m + q) = st 2155 (nb P m + q) ∧ s 2157 (nb P m + q) = st 2157 (nb P m + q) ∧ ∀ k, k < 16 → s 2156 (16 * (nb P m + q) + k) = st 2156 (16 * (nb P m + q) + k)) (o2 : s 2155 (nb P m + p) = 1) (o3 : s 2157 (nb P m + p) = H) (o4 : ∀ k, k < 8 → s 2156 (16 * (nb P m + p) + k) = ty_at (cm T p L R H 0 p) (nI k)) (o5 : ∀ k : Nat, (k : Int) < H.toInt → s 2156 (16 * (nb P m + p) + 8 + k) = ty_at R (nI k)) (h8 : H.toInt ≤ 8) (hT8 : ∀ q, q < nl P m → ¬ T 2 q = -1 → (T 2 q).toInt ≤ 8) : MI P m s (cm T p L R H) := by
  obtain ⟨a1, a2, a3, a4⟩ := h
  have c2 : cm T p L R H 2 p = H := by
    rw [cm_2]
    rcases hc with e | e
    · rw [if_pos e]
    · rw [if_neg (by rw [e.1]; exact hH)]
      exact e.1
  have c1 : cm T p L R H 1 p = R := by
    rw [cm_1]
    rcases hc with e | e
    · rw [if_pos e]
    · rw [if_neg (by rw [e.1]; exact hH)]
      exact e.2
  refine ⟨?_, WT_cm a2 hs hb, fun U hU => cm_lb (a3 U hU) (hA U hU), ?_⟩
  · intro q hq
    by_cases e : q = p
    · subst e
      refine Or.inr ⟨by rw [c2]; exact hH, o2, by rw [c2]; exact o3, o4, ?_⟩
      intro k hk
      rw [c2] at hk
      rw [c1]
      exact o5 k hk
    · obtain ⟨b1, b2, b3⟩ := o1 q hq e
      rw [cm_n e, cm_n e, cm_n e, b1, b2]
      rcases a1 q hq with d | ⟨d1, d2, d3, d4, d5⟩
      · exact Or.inl d
      · refine Or.inr ⟨d1, d2, d3, fun k hk => ?_, fun k hk => ?_⟩
        · rw [b3 k (by omega)]
          exact d4 k hk
        · have := hT8 q hq d1
          have e2 := b3 (8 + k) (by omega)
          rw [← Nat.add_assoc] at e2
          rw [e2]
          exact d5 k hk
  · intro q hq hq2
    by_cases e : q = p
    · subst e
      rw [cm_0]
      split
      · exact hz
      · rename_i hn
        exact LZ_com (a4 q hq hn)
    · rw [cm_n e] at hq2 ⊢
      exact a4 q hq hq2
theorem WT_8 {P : am_S} {m : Nat} {T : am_T} (hv : VP P) (hm : m < nM P) (h : WT P m T) : ∀ q, q < nl P m → ¬ T 2 q = -1 → (T 2 q).toInt ≤ 8 := by
  intro q hq hn
  obtain ⟨-, -, k, a, b, -⟩ := h q hq hn
  have h3 := hv.2.2 m hm
  unfold VM at h3
  rw [b, nI_t (by omega)]
  omega
abbrev am_co (y x c n : Int32) (K : am_S → Prop) (pc : Nat) (a5 : Option am_V) (st : am_S) : Prop := am_AW c_MO_come g_MO_come (fun o' st' => am_ok none o' ∧ am_kv K o' st') pc [some (.inr (.inl 128)), some (.inl y), some (.inl x), some (.inl c), some (.inl n), a5] [] st
theorem lp_co1 {y x c n : Int32} {K : am_S → Prop} {st0 : am_S} {a : Nat} (hx : x.toInt = (a : Int)) (ha : a < 200) (hK : ∀ s : am_S, (∀ b, ¬ b = 2156 → s b = st0 b) → (∀ i, ¬ (16 * a ≤ i ∧ i < 16 * a + 16) → s 2156 i = st0 2156 i) → (∀ k, k < 16 → s 2156 (16 * a + k) = if ¬ c = 0 ∧ k = 8 then 1 else st0 2158 k) → K s) : ∀ (d j : Nat) (st : am_S), j + d = 16 → (∀ b, ¬ b = 2156 → st b = st0 b) → (∀ i, ¬ (16 * a ≤ i ∧ i < 16 * a + 16) → st 2156 i = st0 2156 i) → (∀ k, k < j → st 2156 (16 * a + k) = if ¬ c = 0 ∧ k = 8 then 1 else st0 2158 k) → am_co y x c n K 82 (some (.inl (nI j))) st := by
  intro d
  induction d with
  | zero =>
    intro j st k1 k2 k3 k4
    have e : j = 16 := by omega
    subst e
    have kQ := hK st k2 k3 k4
    clear hK k2 k3 k4
    refine r_il5 (q := 84) d_MO_come_82 rfl ?_
    refine r_bp (v := 16) (q := 86) d_MO_come_84 rfl rfl ?_
    refine r_cge (tgt := 129) (q := 89) d_MO_come_86 rfl rfl (fun e86 => ?_) (fun e86 => ?_)
    · skip
      refine r_rv d_MO_come_129 ?_
      exact kQ
    · skip
      exfalso; exact e86 (by decide)
  | succ d ih =>
    intro j st k1 k2 k3 k4
    have hn : (nI j).toInt = j := nI_t (by omega)
    have ei : (16 * x + nI j).toNatClampNeg = 16 * a + j := by
      rw [nn_eq, i32_addw, i32_mulw, hn, hx]
      simp only [Int32.reduceToInt]
      omega
    have vi : vp_in (16 * x + nI j) 3200 := by
      refine vp_of ?_ ?_ <;> (rw [i32_addw, i32_mulw, hn, hx]; simp only [Int32.reduceToInt]; omega)
    have vj : vp_in (nI j) 16 := vp_of (by omega) (by omega)
    have ej : (nI j).toNatClampNeg = j := nI_c (by omega)
    have kA : ∀ v, v = (if ¬ c = 0 ∧ j = 8 then 1 else st 2158 j) → am_co y x c n K 82 (some (.inl (nI j + 1))) (am_up st 2156 (16 * x + nI j).toNatClampNeg v) := by
      intro v hv
      rw [nI_s, ei]
      refine ih (j + 1) _ (by omega) (fun b hb => by rw [am_up_bank hb]; exact k2 b hb) (fun i hi => by rw [am_up_ne (by omega)]; exact k3 i hi) ?_
      intro k hk
      by_cases e : k = j
      · rw [e, am_up_eq, hv, k2 2158 (by decide)]
      · rw [am_up_ne (by omega)]
        exact k4 k (by omega)
    have m1 : ¬ c = 0 → nI j = 8 → (1 : Int32) = (if ¬ c = 0 ∧ j = 8 then 1 else st 2158 j) := by
      intro h1 h2
      have : j = 8 := by
        have e : (8 : Int32) = nI 8 := rfl
        rw [e, nI_i (by omega) (by omega)] at h2
        exact h2
      rw [if_pos ⟨h1, this⟩]
    have m2 : (c = 0 ∨ ¬ nI j = 8) → st 2158 (nI j).toNatClampNeg = (if ¬ c = 0 ∧ j = 8 then 1 else st 2158 j) := by
      intro h
      rw [if_neg, ej]
      rintro ⟨h1, h2⟩
      rcases h with h | h
      · exact h1 h
      · exact h (by rw [h2]; rfl)
    have hlt : ¬ 16 ≤ nI j := by
      rw [i32_le, hn]
      simp only [Int32.reduceToInt]
      omega
    clear ih hK k2 k3 k4
    refine r_il5 (q := 84) d_MO_come_82 rfl ?_
    refine r_bp (v := 16) (q := 86) d_MO_come_84 rfl rfl ?_
    refine r_cge (tgt := 129) (q := 89) d_MO_come_86 rfl rfl (fun e86 => ?_) (fun e86 => ?_)
    · skip
      first | exact kA _ (m1 e101 e108) | exact kA _ (m2 (Or.inr e108)) | exact kA _ (m2 (Or.inl e101)) | exact absurd e86 hlt
    · skip
      refine r_al0 (q := 90) d_MO_come_89 rfl ?_
      refine gt_MO_types (q := 93) d_MO_come_90 rfl rfl ?_
      refine r_bp (v := 16) (q := 95) d_MO_come_93 rfl rfl ?_
      refine r_il2 (q := 96) d_MO_come_95 rfl ?_
      refine r_imul (q := 97) d_MO_come_96 rfl ?_
      refine r_il5 (q := 99) d_MO_come_97 rfl ?_
      refine r_iadd (q := 100) d_MO_come_99 rfl ?_
      refine r_il3 (q := 101) d_MO_come_100 rfl ?_
      refine r_zeq (tgt := 115) (q := 104) d_MO_come_101 rfl rfl (fun e101 => ?_) (fun e101 => ?_)
      · skip
        refine r_al0 (q := 116) d_MO_come_115 rfl ?_
        refine gt_MO_now (q := 119) d_MO_come_116 rfl rfl ?_
        refine r_il5 (q := 121) d_MO_come_119 rfl ?_
        refine ld_158 (q := 122) d_MO_come_121 ?_ rfl ?_
        · first | exact vi | exact vj
        refine sv_156 (q := 123) d_MO_come_122 ?_ rfl ?_
        · first | exact vi | exact vj
        refine r_in5 (v := 1) (q := 126) d_MO_come_123 rfl rfl ?_
        refine am_go (tgt := 82) d_MO_come_126 rfl ?_
        first | exact kA _ (m1 e101 e108) | exact kA _ (m2 (Or.inr e108)) | exact kA _ (m2 (Or.inl e101)) | exact absurd e86 hlt
      · skip
        refine r_il5 (q := 106) d_MO_come_104 rfl ?_
        refine r_bp (v := 8) (q := 108) d_MO_come_106 rfl rfl ?_
        refine r_cne (tgt := 115) (q := 111) d_MO_come_108 rfl rfl (fun e108 => ?_) (fun e108 => ?_)
        · skip
          refine r_al0 (q := 116) d_MO_come_115 rfl ?_
          refine gt_MO_now (q := 119) d_MO_come_116 rfl rfl ?_
          refine r_il5 (q := 121) d_MO_come_119 rfl ?_
          refine ld_158 (q := 122) d_MO_come_121 ?_ rfl ?_
          · first | exact vi | exact vj
          refine sv_156 (q := 123) d_MO_come_122 ?_ rfl ?_
          · first | exact vi | exact vj
          refine r_in5 (v := 1) (q := 126) d_MO_come_123 rfl rfl ?_
          refine am_go (tgt := 82) d_MO_come_126 rfl ?_
          first | exact kA _ (m1 e101 e108) | exact kA _ (m2 (Or.inr e108)) | exact kA _ (m2 (Or.inl e101)) | exact absurd e86 hlt
        · skip
          refine r_ic (v := 1) (q := 112) d_MO_come_111 rfl rfl ?_
          refine am_go (tgt := 122) d_MO_come_112 rfl ?_
          refine sv_156 (q := 123) d_MO_come_122 ?_ rfl ?_
          · first | exact vi | exact vj
          refine r_in5 (v := 1) (q := 126) d_MO_come_123 rfl rfl ?_
          refine am_go (tgt := 82) d_MO_come_126 rfl ?_
          first | exact kA _ (m1 e101 e108) | exact kA _ (m2 (Or.inr e108)) | exact kA _ (m2 (Or.inl e101)) | exact absurd e86 hlt
def coE (st : am_S) (a : Nat) (c : Int32) (k : Nat) : Prop := st 2156 (16 * a + 8 + k) = if ¬ c = 0 then 1 else st 2158 (8 + k)
theorem lp_co2 {y x c n : Int32} {K : am_S → Prop} {st0 : am_S} {a : Nat} (hx : x.toInt = (a : Int)) (ha : a < 200) (hn : 0 ≤ n.toInt ∧ n.toInt ≤ 8) (hK : ∀ s : am_S, ∀ a5, (∀ b, ¬ b = 599 → s b = st0 b) → ((s 599 0 = 1 ∧ ¬ st0 599 0 = 0 ∧ ∀ k : Nat, (k : Int) < n.toInt → coE st0 a c k) ∨ (s 599 0 = 0 ∧ (st0 599 0 = 0 ∨ ¬ ∀ k : Nat, (k : Int) < n.toInt → coE st0 a c k))) → am_co y x c n K 225 a5 s) : ∀ (d j : Nat) (st : am_S), (j : Int) + d = n.toInt → (∀ b, ¬ b = 599 → st b = st0 b) → ((st 599 0 = 1 ∧ ¬ st0 599 0 = 0 ∧ ∀ k : Nat, k < j → coE st0 a c k) ∨ (st 599 0 = 0 ∧ (st0 599 0 = 0 ∨ ¬ ∀ k : Nat, k < j → coE st0 a c k))) → am_co y x c n K 160 (some (.inl (nI j))) st := by
  intro d
  induction d with
  | zero =>
    intro j st k1 k2 k3
    have e : (j : Int) = n.toInt := by omega
    have hj : (nI j).toInt = j := nI_t (by omega)
    have kQ := hK st (some (.inl (nI j))) k2 (by rw [← e]; simp only [Int.ofNat_lt]; exact k3)
    clear hK k2 k3
    refine r_il5 (q := 162) d_MO_come_160 rfl ?_
    refine r_il4 (q := 164) d_MO_come_162 rfl ?_
    refine r_cge (tgt := 225) (q := 167) d_MO_come_164 rfl rfl (fun e164 => ?_) (fun e164 => ?_)
    · skip
      first | exact kQ | (exfalso; clear kQ; ((try simp +decide only [b01, b10, b11, am_up, ik, and_true, and_false, true_and, false_and, if_true, if_false, nn_eq] at *) <;> (try simp only [sw_or, sw_all, or_false, and_true, i32_lt, i32_le, i32_eq, i32_addw, i32_subw, i32_mulw, Int32.reduceToInt] at *) <;> omega))
    · skip
      first | exact kQ | (exfalso; clear kQ; ((try simp +decide only [b01, b10, b11, am_up, ik, and_true, and_false, true_and, false_and, if_true, if_false, nn_eq] at *) <;> (try simp only [sw_or, sw_all, or_false, and_true, i32_lt, i32_le, i32_eq, i32_addw, i32_subw, i32_mulw, Int32.reduceToInt] at *) <;> omega))
  | succ d ih =>
    intro j st k1 k2 k3
    have hj : (nI j).toInt = j := nI_t (by omega)
    have ei : (16 * x + 8 + nI j).toNatClampNeg = 16 * a + 8 + j := by
      rw [nn_eq, i32_addw, i32_addw, i32_mulw, hj, hx]
      simp only [Int32.reduceToInt]
      omega
    have vi : vp_in (16 * x + 8 + nI j) 3200 := by
      refine vp_of ?_ ?_ <;> (rw [i32_addw, i32_addw, i32_mulw, hj, hx]; simp only [Int32.reduceToInt]; omega)
    have e8 : (8 + nI j).toNatClampNeg = 8 + j := by
      rw [nn_eq, i32_addw, hj]
      simp only [Int32.reduceToInt]
      omega
    have v8 : vp_in (8 + nI j) 16 := by
      refine vp_of ?_ ?_ <;> (rw [i32_addw, hj]; simp only [Int32.reduceToInt]; omega)
    have kA : ∀ g, (g = 1 ∧ ¬ st 599 0 = 0 ∧ coE st0 a c j) ∨ (g = 0 ∧ (st 599 0 = 0 ∨ ¬ coE st0 a c j)) → am_co y x c n K 160 (some (.inl (nI j + 1))) (am_up st 599 0 g) := by
      intro g hg
      rw [nI_s]
      refine ih (j + 1) _ (by omega) (fun b hb => by rw [am_up_bank hb]; exact k2 b hb) ?_
      rw [am_up_eq]
      rcases hg with ⟨g1, g2, g3⟩ | ⟨g1, g2⟩
      · rcases k3 with ⟨q1, q2, q3⟩ | ⟨q1, q2⟩
        · exact Or.inl ⟨g1, q2, fb_k q3 g3⟩
        · exact absurd q1 g2
      · refine Or.inr ⟨g1, ?_⟩
        rcases k3 with ⟨q1, q2, q3⟩ | ⟨q1, q2⟩
        · refine Or.inr (fun w => ?_)
          rcases g2 with g2 | g2
          · rw [q1] at g2
            exact absurd g2 (by decide)
          · exact g2 (w j (by omega))
        · rcases q2 with q2 | q2
          · exact Or.inl q2
          · exact Or.inr (fun w => q2 (fun k hk => w k (by omega)))
    have c1 : ¬ c = 0 → (coE st0 a c j ↔ st 2156 (16 * x + 8 + nI j).toNatClampNeg = 1) := by
      intro h
      unfold coE
      rw [if_pos h, ei, k2 2156 (by decide)]
    have c0 : c = 0 → (coE st0 a c j ↔ st 2156 (16 * x + 8 + nI j).toNatClampNeg = st 2158 (8 + nI j).toNatClampNeg) := by
      intro h
      unfold coE
      rw [if_neg (fun q => q h), ei, e8, k2 2156 (by decide), k2 2158 (by decide)]
    clear ih hK k2 k3
    refine r_il5 (q := 162) d_MO_come_160 rfl ?_
    refine r_il4 (q := 164) d_MO_come_162 rfl ?_
    refine r_cge (tgt := 225) (q := 167) d_MO_come_164 rfl rfl (fun e164 => ?_) (fun e164 => ?_)
    · skip
      first | exact kA 0 (Or.inr ⟨rfl, Or.inl e172⟩) | exact kA 1 (Or.inl ⟨rfl, e172, (c1 e191).mpr e208⟩) | exact kA 0 (Or.inr ⟨rfl, Or.inr (fun q => e208 ((c1 e191).mp q))⟩) | exact kA 1 (Or.inl ⟨rfl, e172, (c0 e191).mpr e208⟩) | exact kA 0 (Or.inr ⟨rfl, Or.inr (fun q => e208 ((c0 e191).mp q))⟩) | (exfalso; clear kA c1 c0; ((try simp +decide only [b01, b10, b11, am_up, ik, and_true, and_false, true_and, false_and, if_true, if_false, nn_eq] at *) <;> (try simp only [sw_or, sw_all, or_false, and_true, i32_lt, i32_le, i32_eq, i32_addw, i32_subw, i32_mulw, Int32.reduceToInt] at *) <;> omega))
    · skip
      refine r_al0 (q := 168) d_MO_come_167 rfl ?_
      refine r_al0 (q := 169) d_MO_come_168 rfl ?_
      refine gt_MO_good (q := 172) d_MO_come_169 rfl rfl ?_
      refine r_zeq (tgt := 215) (q := 175) d_MO_come_172 rfl rfl (fun e172 => ?_) (fun e172 => ?_)
      · skip
        refine r_ic (v := 0) (q := 216) d_MO_come_215 rfl rfl ?_
        refine pt_MO_good (q := 219) d_MO_come_216 rfl (by first | assumption | (refine pc_of hP ?_; (repeat (first | assumption | exact md_refl | refine md_up ?_ rfl | refine md_fill ?_ rfl | (unfold ik; refine md_up ?_ rfl))); done) | (refine pm_of hP ?_; (repeat (first | assumption | exact md_refl | refine md_up ?_ rfl | refine md_fill ?_ rfl | (unfold ik; refine md_up ?_ rfl))); done) | omega | decide | ((try simp +decide only [b01, b10, b11, am_up, ik, and_true, and_false, true_and, false_and, if_true, if_false, nn_eq] at *) <;> (try simp only [sw_or, sw_all, or_false, and_true, i32_lt, i32_le, i32_eq, i32_addw, i32_subw, i32_mulw, Int32.reduceToInt] at *) <;> omega) | (apply_assumption; done)) rfl ?_
        refine r_in5 (v := 1) (q := 222) d_MO_come_219 rfl rfl ?_
        refine am_go (tgt := 160) d_MO_come_222 rfl ?_
        first | exact kA 0 (Or.inr ⟨rfl, Or.inl e172⟩) | exact kA 1 (Or.inl ⟨rfl, e172, (c1 e191).mpr e208⟩) | exact kA 0 (Or.inr ⟨rfl, Or.inr (fun q => e208 ((c1 e191).mp q))⟩) | exact kA 1 (Or.inl ⟨rfl, e172, (c0 e191).mpr e208⟩) | exact kA 0 (Or.inr ⟨rfl, Or.inr (fun q => e208 ((c0 e191).mp q))⟩) | (exfalso; clear kA c1 c0; ((try simp +decide only [b01, b10, b11, am_up, ik, and_true, and_false, true_and, false_and, if_true, if_false, nn_eq] at *) <;> (try simp only [sw_or, sw_all, or_false, and_true, i32_lt, i32_le, i32_eq, i32_addw, i32_subw, i32_mulw, Int32.reduceToInt] at *) <;> omega))
      · skip
        refine r_al0 (q := 176) d_MO_come_175 rfl ?_
        refine gt_MO_types (q := 179) d_MO_come_176 rfl rfl ?_
        refine r_bp (v := 16) (q := 181) d_MO_come_179 rfl rfl ?_
        refine r_il2 (q := 182) d_MO_come_181 rfl ?_
        refine r_imul (q := 183) d_MO_come_182 rfl ?_
        refine r_bp (v := 8) (q := 185) d_MO_come_183 rfl rfl ?_
        refine r_iadd (q := 186) d_MO_come_185 rfl ?_
        refine r_il5 (q := 188) d_MO_come_186 rfl ?_
        refine r_iadd (q := 189) d_MO_come_188 rfl ?_
        refine ld_156 (q := 190) d_MO_come_189 ?_ rfl ?_
        · first | exact vi | exact v8
        refine r_il3 (q := 191) d_MO_come_190 rfl ?_
        refine r_zeq (tgt := 198) (q := 194) d_MO_come_191 rfl rfl (fun e191 => ?_) (fun e191 => ?_)
        · skip
          refine r_al0 (q := 199) d_MO_come_198 rfl ?_
          refine gt_MO_now (q := 202) d_MO_come_199 rfl rfl ?_
          refine r_bp (v := 8) (q := 204) d_MO_come_202 rfl rfl ?_
          refine r_il5 (q := 206) d_MO_come_204 rfl ?_
          refine r_iadd (q := 207) d_MO_come_206 rfl ?_
          refine ld_158 (q := 208) d_MO_come_207 ?_ rfl ?_
          · first | exact vi | exact v8
          refine r_cne (tgt := 215) (q := 211) d_MO_come_208 rfl rfl (fun e208 => ?_) (fun e208 => ?_)
          · skip
            refine r_ic (v := 0) (q := 216) d_MO_come_215 rfl rfl ?_
            refine pt_MO_good (q := 219) d_MO_come_216 rfl (by first | assumption | (refine pc_of hP ?_; (repeat (first | assumption | exact md_refl | refine md_up ?_ rfl | refine md_fill ?_ rfl | (unfold ik; refine md_up ?_ rfl))); done) | (refine pm_of hP ?_; (repeat (first | assumption | exact md_refl | refine md_up ?_ rfl | refine md_fill ?_ rfl | (unfold ik; refine md_up ?_ rfl))); done) | omega | decide | ((try simp +decide only [b01, b10, b11, am_up, ik, and_true, and_false, true_and, false_and, if_true, if_false, nn_eq] at *) <;> (try simp only [sw_or, sw_all, or_false, and_true, i32_lt, i32_le, i32_eq, i32_addw, i32_subw, i32_mulw, Int32.reduceToInt] at *) <;> omega) | (apply_assumption; done)) rfl ?_
            refine r_in5 (v := 1) (q := 222) d_MO_come_219 rfl rfl ?_
            refine am_go (tgt := 160) d_MO_come_222 rfl ?_
            first | exact kA 0 (Or.inr ⟨rfl, Or.inl e172⟩) | exact kA 1 (Or.inl ⟨rfl, e172, (c1 e191).mpr e208⟩) | exact kA 0 (Or.inr ⟨rfl, Or.inr (fun q => e208 ((c1 e191).mp q))⟩) | exact kA 1 (Or.inl ⟨rfl, e172, (c0 e191).mpr e208⟩) | exact kA 0 (Or.inr ⟨rfl, Or.inr (fun q => e208 ((c0 e191).mp q))⟩) | (exfalso; clear kA c1 c0; ((try simp +decide only [b01, b10, b11, am_up, ik, and_true, and_false, true_and, false_and, if_true, if_false, nn_eq] at *) <;> (try simp only [sw_or, sw_all, or_false, and_true, i32_lt, i32_le, i32_eq, i32_addw, i32_subw, i32_mulw, Int32.reduceToInt] at *) <;> omega))
          · skip
            refine r_ic (v := 1) (q := 212) d_MO_come_211 rfl rfl ?_
            refine am_go (tgt := 216) d_MO_come_212 rfl ?_
            refine pt_MO_good (q := 219) d_MO_come_216 rfl (by first | assumption | (refine pc_of hP ?_; (repeat (first | assumption | exact md_refl | refine md_up ?_ rfl | refine md_fill ?_ rfl | (unfold ik; refine md_up ?_ rfl))); done) | (refine pm_of hP ?_; (repeat (first | assumption | exact md_refl | refine md_up ?_ rfl | refine md_fill ?_ rfl | (unfold ik; refine md_up ?_ rfl))); done) | omega | decide | ((try simp +decide only [b01, b10, b11, am_up, ik, and_true, and_false, true_and, false_and, if_true, if_false, nn_eq] at *) <;> (try simp only [sw_or, sw_all, or_false, and_true, i32_lt, i32_le, i32_eq, i32_addw, i32_subw, i32_mulw, Int32.reduceToInt] at *) <;> omega) | (apply_assumption; done)) rfl ?_
            refine r_in5 (v := 1) (q := 222) d_MO_come_219 rfl rfl ?_
            refine am_go (tgt := 160) d_MO_come_222 rfl ?_
            first | exact kA 0 (Or.inr ⟨rfl, Or.inl e172⟩) | exact kA 1 (Or.inl ⟨rfl, e172, (c1 e191).mpr e208⟩) | exact kA 0 (Or.inr ⟨rfl, Or.inr (fun q => e208 ((c1 e191).mp q))⟩) | exact kA 1 (Or.inl ⟨rfl, e172, (c0 e191).mpr e208⟩) | exact kA 0 (Or.inr ⟨rfl, Or.inr (fun q => e208 ((c0 e191).mp q))⟩) | (exfalso; clear kA c1 c0; ((try simp +decide only [b01, b10, b11, am_up, ik, and_true, and_false, true_and, false_and, if_true, if_false, nn_eq] at *) <;> (try simp only [sw_or, sw_all, or_false, and_true, i32_lt, i32_le, i32_eq, i32_addw, i32_subw, i32_mulw, Int32.reduceToInt] at *) <;> omega))
        · skip
          refine r_ic (v := 1) (q := 195) d_MO_come_194 rfl rfl ?_
          refine am_go (tgt := 208) d_MO_come_195 rfl ?_
          refine r_cne (tgt := 215) (q := 211) d_MO_come_208 rfl rfl (fun e208 => ?_) (fun e208 => ?_)
          · skip
            refine r_ic (v := 0) (q := 216) d_MO_come_215 rfl rfl ?_
            refine pt_MO_good (q := 219) d_MO_come_216 rfl (by first | assumption | (refine pc_of hP ?_; (repeat (first | assumption | exact md_refl | refine md_up ?_ rfl | refine md_fill ?_ rfl | (unfold ik; refine md_up ?_ rfl))); done) | (refine pm_of hP ?_; (repeat (first | assumption | exact md_refl | refine md_up ?_ rfl | refine md_fill ?_ rfl | (unfold ik; refine md_up ?_ rfl))); done) | omega | decide | ((try simp +decide only [b01, b10, b11, am_up, ik, and_true, and_false, true_and, false_and, if_true, if_false, nn_eq] at *) <;> (try simp only [sw_or, sw_all, or_false, and_true, i32_lt, i32_le, i32_eq, i32_addw, i32_subw, i32_mulw, Int32.reduceToInt] at *) <;> omega) | (apply_assumption; done)) rfl ?_
            refine r_in5 (v := 1) (q := 222) d_MO_come_219 rfl rfl ?_
            refine am_go (tgt := 160) d_MO_come_222 rfl ?_
            first | exact kA 0 (Or.inr ⟨rfl, Or.inl e172⟩) | exact kA 1 (Or.inl ⟨rfl, e172, (c1 e191).mpr e208⟩) | exact kA 0 (Or.inr ⟨rfl, Or.inr (fun q => e208 ((c1 e191).mp q))⟩) | exact kA 1 (Or.inl ⟨rfl, e172, (c0 e191).mpr e208⟩) | exact kA 0 (Or.inr ⟨rfl, Or.inr (fun q => e208 ((c0 e191).mp q))⟩) | (exfalso; clear kA c1 c0; ((try simp +decide only [b01, b10, b11, am_up, ik, and_true, and_false, true_and, false_and, if_true, if_false, nn_eq] at *) <;> (try simp only [sw_or, sw_all, or_false, and_true, i32_lt, i32_le, i32_eq, i32_addw, i32_subw, i32_mulw, Int32.reduceToInt] at *) <;> omega))
          · skip
            refine r_ic (v := 1) (q := 212) d_MO_come_211 rfl rfl ?_
            refine am_go (tgt := 216) d_MO_come_212 rfl ?_
            refine pt_MO_good (q := 219) d_MO_come_216 rfl (by first | assumption | (refine pc_of hP ?_; (repeat (first | assumption | exact md_refl | refine md_up ?_ rfl | refine md_fill ?_ rfl | (unfold ik; refine md_up ?_ rfl))); done) | (refine pm_of hP ?_; (repeat (first | assumption | exact md_refl | refine md_up ?_ rfl | refine md_fill ?_ rfl | (unfold ik; refine md_up ?_ rfl))); done) | omega | decide | ((try simp +decide only [b01, b10, b11, am_up, ik, and_true, and_false, true_and, false_and, if_true, if_false, nn_eq] at *) <;> (try simp only [sw_or, sw_all, or_false, and_true, i32_lt, i32_le, i32_eq, i32_addw, i32_subw, i32_mulw, Int32.reduceToInt] at *) <;> omega) | (apply_assumption; done)) rfl ?_
            refine r_in5 (v := 1) (q := 222) d_MO_come_219 rfl rfl ?_
            refine am_go (tgt := 160) d_MO_come_222 rfl ?_
            first | exact kA 0 (Or.inr ⟨rfl, Or.inl e172⟩) | exact kA 1 (Or.inl ⟨rfl, e172, (c1 e191).mpr e208⟩) | exact kA 0 (Or.inr ⟨rfl, Or.inr (fun q => e208 ((c1 e191).mp q))⟩) | exact kA 1 (Or.inl ⟨rfl, e172, (c0 e191).mpr e208⟩) | exact kA 0 (Or.inr ⟨rfl, Or.inr (fun q => e208 ((c0 e191).mp q))⟩) | (exfalso; clear kA c1 c0; ((try simp +decide only [b01, b10, b11, am_up, ik, and_true, and_false, true_and, false_and, if_true, if_false, nn_eq] at *) <;> (try simp only [sw_or, sw_all, or_false, and_true, i32_lt, i32_le, i32_eq, i32_addw, i32_subw, i32_mulw, Int32.reduceToInt] at *) <;> omega))
def coL (st : am_S) (a : Nat) (k : Nat) : Prop := ¬ st 2156 (16 * a + k) = st 2158 k ∧ ¬ st 2156 (16 * a + k) = 0
theorem lp_co3 {y x c n : Int32} {K : am_S → Prop} {st0 : am_S} {a : Nat} (hx : x.toInt = (a : Int)) (ha : a < 200) (hy : 0 ≤ y.toInt ∧ y.toInt < 8) (hn : 0 ≤ (st0 2146 y.toNatClampNeg).toInt ∧ (st0 2146 y.toNatClampNeg).toInt ≤ 8) (hK : ∀ s : am_S, (∀ b, ¬ b = 2156 → ¬ b = 600 → s b = st0 b) → (∀ i, ¬ (16 * a ≤ i ∧ i < 16 * a + 8) → s 2156 i = st0 2156 i) → (∀ k, k < 8 → (s 2156 (16 * a + k) = 0 ∧ coL st0 a k ∧ (k : Int) < (st0 2146 y.toNatClampNeg).toInt) ∨ (s 2156 (16 * a + k) = st0 2156 (16 * a + k) ∧ ¬ (coL st0 a k ∧ (k : Int) < (st0 2146 y.toNatClampNeg).toInt))) → ((s 600 0 = st0 600 0 ∧ ∀ k : Nat, (k : Int) < (st0 2146 y.toNatClampNeg).toInt → ¬ coL st0 a k) ∨ (s 600 0 = 1 ∧ ∃ k : Nat, (k : Int) < (st0 2146 y.toNatClampNeg).toInt ∧ coL st0 a k)) → K s) : ∀ (d j : Nat) (st : am_S), (j : Int) + d = (st0 2146 y.toNatClampNeg).toInt → (∀ b, ¬ b = 2156 → ¬ b = 600 → st b = st0 b) → (∀ i, ¬ (16 * a ≤ i ∧ i < 16 * a + j) → st 2156 i = st0 2156 i) → (∀ k, k < j → (st 2156 (16 * a + k) = 0 ∧ coL st0 a k) ∨ (st 2156 (16 * a + k) = st0 2156 (16 * a + k) ∧ ¬ coL st0 a k)) → ((st 600 0 = st0 600 0 ∧ ∀ k : Nat, k < j → ¬ coL st0 a k) ∨ (st 600 0 = 1 ∧ ∃ k : Nat, k < j ∧ coL st0 a k)) → am_co y x c n K 228 (some (.inl (nI j))) st := by
  intro d
  have vy : vp_in y 8 := vp_of hy.1 hy.2
  induction d with
  | zero =>
    intro j st k1 k2 k3 k4 k5
    have e : (j : Int) = (st0 2146 y.toNatClampNeg).toInt := by omega
    have hj : (nI j).toInt = j := nI_t (by omega)
    have e46 : st 2146 y.toNatClampNeg = st0 2146 y.toNatClampNeg := by rw [k2 2146 (by decide) (by decide)]
    have kQ := hK st k2 (fun i hi => k3 i (by omega)) (fun k hk => by
      by_cases q : k < j
      · rcases k4 k q with w | w
        · exact Or.inl ⟨w.1, w.2, by omega⟩
        · exact Or.inr ⟨w.1, fun z => w.2 z.1⟩
      · exact Or.inr ⟨k3 _ (by omega), fun z => by omega⟩) (by rw [← e]; simp only [Int.ofNat_lt]; exact k5)
    clear hK k2 k3 k4 k5
    refine r_il5 (q := 230) d_MO_come_228 rfl ?_
    refine r_al0 (q := 231) d_MO_come_230 rfl ?_
    refine gt_MO_locals (q := 234) d_MO_come_231 rfl rfl ?_
    refine r_il1 (q := 235) d_MO_come_234 rfl ?_
    refine ld_146 (q := 236) d_MO_come_235 ?_ rfl ?_
    · exact vy
    refine r_cge (tgt := 300) (q := 239) d_MO_come_236 rfl rfl (fun e236 => ?_) (fun e236 => ?_)
    · skip
      refine r_rv d_MO_come_300 ?_
      exact kQ
    · skip
      exfalso; rw [e46] at e236; clear kQ; ((try simp +decide only [b01, b10, b11, am_up, ik, and_true, and_false, true_and, false_and, if_true, if_false, nn_eq] at *) <;> (try simp only [sw_or, sw_all, or_false, and_true, i32_lt, i32_le, i32_eq, i32_addw, i32_subw, i32_mulw, Int32.reduceToInt] at *) <;> omega)
  | succ d ih =>
    intro j st k1 k2 k3 k4 k5
    have hj : (nI j).toInt = j := nI_t (by omega)
    have e46 : st 2146 y.toNatClampNeg = st0 2146 y.toNatClampNeg := by rw [k2 2146 (by decide) (by decide)]
    have ei : (16 * x + nI j).toNatClampNeg = 16 * a + j := by
      rw [nn_eq, i32_addw, i32_mulw, hj, hx]
      simp only [Int32.reduceToInt]
      omega
    have vi : vp_in (16 * x + nI j) 3200 := by
      refine vp_of ?_ ?_ <;> (rw [i32_addw, i32_mulw, hj, hx]; simp only [Int32.reduceToInt]; omega)
    have ej : (nI j).toNatClampNeg = j := nI_c (by omega)
    have vj : vp_in (nI j) 16 := vp_of (by omega) (by omega)
    have s1 : st 2156 (16 * x + nI j).toNatClampNeg = st0 2156 (16 * a + j) := by rw [ei]; exact k3 _ (by omega)
    have s2 : st 2158 (nI j).toNatClampNeg = st0 2158 j := by rw [ej, k2 2158 (by decide) (by decide)]
    have kS : ¬ coL st0 a j → am_co y x c n K 228 (some (.inl (nI j + 1))) st := by
      intro h
      rw [nI_s]
      refine ih (j + 1) _ (by omega) k2 (fun i hi => k3 i (by omega)) (fun k hk => ?_) ?_
      · by_cases e : k = j
        · rw [e]
          exact Or.inr ⟨k3 _ (by omega), h⟩
        · exact k4 k (by omega)
      · rcases k5 with ⟨q1, q2⟩ | ⟨q1, k, q2, q3⟩
        · exact Or.inl ⟨q1, fb_k q2 h⟩
        · exact Or.inr ⟨q1, k, by omega, q3⟩
    have kC : coL st0 a j → am_co y x c n K 228 (some (.inl (nI j + 1))) (am_up (am_up st 2156 (16 * x + nI j).toNatClampNeg 0) 600 0 1) := by
      intro h
      rw [nI_s, ei]
      refine ih (j + 1) _ (by omega) (fun b h1 h2 => by rw [am_up_bank h2, am_up_bank h1]; exact k2 b h1 h2) (fun i hi => by rw [am_up_bank (by decide), am_up_ne (by omega)]; exact k3 i (by omega)) (fun k hk => ?_) (Or.inr ⟨am_up_eq, j, by omega, h⟩)
      rw [am_up_bank (by decide)]
      by_cases e : k = j
      · rw [e, am_up_eq]
        exact Or.inl ⟨rfl, h⟩
      · rw [am_up_ne (by omega)]
        exact k4 k (by omega)
    have l1 : coL st0 a j ↔ ¬ st 2156 (16 * x + nI j).toNatClampNeg = st 2158 (nI j).toNatClampNeg ∧ ¬ st 2156 (16 * x + nI j).toNatClampNeg = 0 := by
      rw [s1, s2]
      exact Iff.rfl
    clear ih hK k2 k3 k4 k5 s1 s2
    refine r_il5 (q := 230) d_MO_come_228 rfl ?_
    refine r_al0 (q := 231) d_MO_come_230 rfl ?_
    refine gt_MO_locals (q := 234) d_MO_come_231 rfl rfl ?_
    refine r_il1 (q := 235) d_MO_come_234 rfl ?_
    refine ld_146 (q := 236) d_MO_come_235 ?_ rfl ?_
    · first | exact vi | exact vj | exact vy
    refine r_cge (tgt := 300) (q := 239) d_MO_come_236 rfl rfl (fun e236 => ?_) (fun e236 => ?_)
    · skip
      first | exact kS (fun q => (l1.mp q).1 e258) | exact kS (fun q => (l1.mp q).2 e273) | exact kC (l1.mpr ⟨e258, e273⟩) | (exfalso; rw [e46] at e236; clear kS kC l1; ((try simp +decide only [b01, b10, b11, am_up, ik, and_true, and_false, true_and, false_and, if_true, if_false, nn_eq] at *) <;> (try simp only [sw_or, sw_all, or_false, and_true, i32_lt, i32_le, i32_eq, i32_addw, i32_subw, i32_mulw, Int32.reduceToInt] at *) <;> omega))
    · skip
      refine r_al0 (q := 240) d_MO_come_239 rfl ?_
      refine gt_MO_types (q := 243) d_MO_come_240 rfl rfl ?_
      refine r_bp (v := 16) (q := 245) d_MO_come_243 rfl rfl ?_
      refine r_il2 (q := 246) d_MO_come_245 rfl ?_
      refine r_imul (q := 247) d_MO_come_246 rfl ?_
      refine r_il5 (q := 249) d_MO_come_247 rfl ?_
      refine r_iadd (q := 250) d_MO_come_249 rfl ?_
      refine ld_156 (q := 251) d_MO_come_250 ?_ rfl ?_
      · first | exact vi | exact vj | exact vy
      refine r_al0 (q := 252) d_MO_come_251 rfl ?_
      refine gt_MO_now (q := 255) d_MO_come_252 rfl rfl ?_
      refine r_il5 (q := 257) d_MO_come_255 rfl ?_
      refine ld_158 (q := 258) d_MO_come_257 ?_ rfl ?_
      · first | exact vi | exact vj | exact vy
      refine r_ceq (tgt := 294) (q := 261) d_MO_come_258 rfl rfl (fun e258 => ?_) (fun e258 => ?_)
      · skip
        refine r_in5 (v := 1) (q := 297) d_MO_come_294 rfl rfl ?_
        refine am_go (tgt := 228) d_MO_come_297 rfl ?_
        first | exact kS (fun q => (l1.mp q).1 e258) | exact kS (fun q => (l1.mp q).2 e273) | exact kC (l1.mpr ⟨e258, e273⟩) | (exfalso; rw [e46] at e236; clear kS kC l1; ((try simp +decide only [b01, b10, b11, am_up, ik, and_true, and_false, true_and, false_and, if_true, if_false, nn_eq] at *) <;> (try simp only [sw_or, sw_all, or_false, and_true, i32_lt, i32_le, i32_eq, i32_addw, i32_subw, i32_mulw, Int32.reduceToInt] at *) <;> omega))
      · skip
        refine r_al0 (q := 262) d_MO_come_261 rfl ?_
        refine gt_MO_types (q := 265) d_MO_come_262 rfl rfl ?_
        refine r_bp (v := 16) (q := 267) d_MO_come_265 rfl rfl ?_
        refine r_il2 (q := 268) d_MO_come_267 rfl ?_
        refine r_imul (q := 269) d_MO_come_268 rfl ?_
        refine r_il5 (q := 271) d_MO_come_269 rfl ?_
        refine r_iadd (q := 272) d_MO_come_271 rfl ?_
        refine ld_156 (q := 273) d_MO_come_272 ?_ rfl ?_
        · first | exact vi | exact vj | exact vy
        refine r_zeq (tgt := 294) (q := 276) d_MO_come_273 rfl rfl (fun e273 => ?_) (fun e273 => ?_)
        · skip
          refine r_in5 (v := 1) (q := 297) d_MO_come_294 rfl rfl ?_
          refine am_go (tgt := 228) d_MO_come_297 rfl ?_
          first | exact kS (fun q => (l1.mp q).1 e258) | exact kS (fun q => (l1.mp q).2 e273) | exact kC (l1.mpr ⟨e258, e273⟩) | (exfalso; rw [e46] at e236; clear kS kC l1; ((try simp +decide only [b01, b10, b11, am_up, ik, and_true, and_false, true_and, false_and, if_true, if_false, nn_eq] at *) <;> (try simp only [sw_or, sw_all, or_false, and_true, i32_lt, i32_le, i32_eq, i32_addw, i32_subw, i32_mulw, Int32.reduceToInt] at *) <;> omega))
        · skip
          refine r_al0 (q := 277) d_MO_come_276 rfl ?_
          refine gt_MO_types (q := 280) d_MO_come_277 rfl rfl ?_
          refine r_bp (v := 16) (q := 282) d_MO_come_280 rfl rfl ?_
          refine r_il2 (q := 283) d_MO_come_282 rfl ?_
          refine r_imul (q := 284) d_MO_come_283 rfl ?_
          refine r_il5 (q := 286) d_MO_come_284 rfl ?_
          refine r_iadd (q := 287) d_MO_come_286 rfl ?_
          refine r_ic (v := 0) (q := 288) d_MO_come_287 rfl rfl ?_
          refine sv_156 (q := 289) d_MO_come_288 ?_ rfl ?_
          · first | exact vi | exact vj | exact vy
          refine r_al0 (q := 290) d_MO_come_289 rfl ?_
          refine r_ic (v := 1) (q := 291) d_MO_come_290 rfl rfl ?_
          refine pt_MO_more (q := 294) d_MO_come_291 rfl (by first | assumption | (refine pc_of hP ?_; (repeat (first | assumption | exact md_refl | refine md_up ?_ rfl | refine md_fill ?_ rfl | (unfold ik; refine md_up ?_ rfl))); done) | (refine pm_of hP ?_; (repeat (first | assumption | exact md_refl | refine md_up ?_ rfl | refine md_fill ?_ rfl | (unfold ik; refine md_up ?_ rfl))); done) | omega | decide | ((try simp +decide only [b01, b10, b11, am_up, ik, and_true, and_false, true_and, false_and, if_true, if_false, nn_eq] at *) <;> (try simp only [sw_or, sw_all, or_false, and_true, i32_lt, i32_le, i32_eq, i32_addw, i32_subw, i32_mulw, Int32.reduceToInt] at *) <;> omega) | (apply_assumption; done)) rfl ?_
          refine r_in5 (v := 1) (q := 297) d_MO_come_294 rfl rfl ?_
          refine am_go (tgt := 228) d_MO_come_297 rfl ?_
          first | exact kS (fun q => (l1.mp q).1 e258) | exact kS (fun q => (l1.mp q).2 e273) | exact kC (l1.mpr ⟨e258, e273⟩) | (exfalso; rw [e46] at e236; clear kS kC l1; ((try simp +decide only [b01, b10, b11, am_up, ik, and_true, and_false, true_and, false_and, if_true, if_false, nn_eq] at *) <;> (try simp only [sw_or, sw_all, or_false, and_true, i32_lt, i32_le, i32_eq, i32_addw, i32_subw, i32_mulw, Int32.reduceToInt] at *) <;> omega))

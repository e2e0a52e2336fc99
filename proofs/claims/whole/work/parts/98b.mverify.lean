/-! written by wip/whole/gen/walk.py out of 98b.mverify.txt -/
def mG (b : Nat) : Bool := mV b || b == 576 || b == 591 || b == 592
theorem md_G {s t : am_S} (h : am_md mV s t) : am_md mG s t := by
  intro b hb
  refine h b ?_
  unfold mG at hb
  simp only [Bool.or_eq_false_iff] at hb
  exact hb.1.1.1
theorem pm_oG {s t P : am_S} (h : PM s P) (hm : am_md mG s t) : PM t P := by
  unfold PM at *
  rw [hm 2142 rfl, hm 2143 rfl, hm 2144 rfl, hm 2145 rfl, hm 2146 rfl, hm 2147 rfl, hm 2148 rfl, hm 2149 rfl, hm 2150 rfl, hm 2151 rfl, hm 2152 rfl, hm 2153 rfl, hm 579 rfl, hm 577 rfl]
  exact h
def bx (P : am_S) (m : Nat) : Nat := if m = 0 then 0 else nb P (m - 1) + nl P (m - 1)
theorem bx_nb {P : am_S} (h : VO P) {m : Nat} (hm : m < nM P) : bx P m = nb P m := by
  unfold bx
  rcases m with _ | m
  · rw [if_pos rfl]
    exact (h.2 hm).symm
  · rw [if_neg (by omega)]
    exact (h.1 m hm).symm
theorem bx_s {P : am_S} {m : Nat} : bx P (m + 1) = nb P m + nl P m := by
  unfold bx
  rw [if_neg (by omega)]
  rfl
theorem bx_E {P : am_S} : bx P (nM P) = EN P := rfl
def LM (P : am_S) (m : Nat) (st : am_S) : Prop := (∃ T, MI P m st T ∧ Typ P m T) ∧ ∀ q, q < nl P m → st 2154 (nb P m + q) = if nx P m q = q then 1 else 0
theorem LM_oM {P st st' : am_S} {m m' : Nat} (hv : VP P) (hm : m' < nM P) (h : LM P m' st) (ho : oM (nb P m) (nl P m) st st') (hs : ∀ i, (i < nb P m ∨ nb P m + nl P m ≤ i) → st' 2154 i = st 2154 i) (hd : nb P m' + nl P m' ≤ nb P m) : LM P m' st' := by
  obtain ⟨⟨T, ⟨a1, a2⟩, b⟩, c⟩ := h
  have h8 := WT_8 hv hm a2.1
  refine ⟨⟨T, ⟨fun p hp => ?_, a2⟩, b⟩, fun q hq => ?_⟩
  · obtain ⟨c1, c2, c3⟩ := ho (nb P m' + p) (by omega)
    rw [c1, c2]
    rcases a1 p hp with d | ⟨d1, d2, d3, d4, d5⟩
    · exact Or.inl d
    · refine Or.inr ⟨d1, d2, d3, fun k hk => ?_, fun k hk => ?_⟩
      · rw [c3 k (by omega)]
        exact d4 k hk
      · have e1 := h8 p hp d1
        have e2 := c3 (8 + k) (by omega)
        rw [← Nat.add_assoc] at e2
        rw [e2]
        exact d5 k hk
  · rw [hs _ (by omega)]
    exact c q hq
theorem LM_bk {P st st' : am_S} {m : Nat} (h : LM P m st) (h4 : st' 2154 = st 2154) (h5 : st' 2155 = st 2155) (h6 : st' 2156 = st 2156) (h7 : st' 2157 = st 2157) : LM P m st' := by
  obtain ⟨⟨T, a, b⟩, c⟩ := h
  refine ⟨⟨T, MI_bk a h5 h6 h7, b⟩, ?_⟩
  rw [h4]
  exact c
abbrev am_mv (K : Int32 → am_S → Prop) (pc : Nat) (a1 a2 : Option am_V) (stk : List am_V) (st : am_S) : Prop := am_AW c_MO_verify g_MO_verify (fun o' st' => am_ok (some .int) o' ∧ am_ki K o' st') pc [some (.inr (.inl 128)), a1, a2] stk st
theorem lp_MO_zero {K : Int32 → am_S → Prop} {st0 : am_S} (hK : ∀ s v, (∀ b, ¬ b = 2154 → ¬ b = 2155 → s b = st0 b) → (∀ i, i < 201 → s 2154 i = 0 ∧ s 2155 i = 0) → am_mv K 61 (some (.inl v)) none [] s) : ∀ (d j : Nat) (st : am_S), j + d = 201 → (∀ b, ¬ b = 2154 → ¬ b = 2155 → st b = st0 b) → (∀ i, i < j → st 2154 i = 0 ∧ st 2155 i = 0) → am_mv K 34 (some (.inl (nI j))) none [] st := by
  intro d
  induction d with
  | zero =>
    intro j st k1 k2 k3
    have e : j = 201 := by omega
    subst e
    have kQ := hK st (nI 201) k2 k3
    clear hK k2 k3
    refine r_il1 (q := 35) d_MO_verify_34 rfl ?_
    refine r_sp (v := 200) (q := 38) d_MO_verify_35 rfl rfl ?_
    refine r_cgt (tgt := 61) (q := 41) d_MO_verify_38 rfl rfl (fun e38 => ?_) (fun e38 => ?_)
    · skip
      first | exact kQ | exact absurd (by decide) e38
    · skip
      first | exact kQ | exact absurd (by decide) e38
  | succ d ih =>
    intro j st k1 k2 k3
    have hn : (nI j).toInt = j := nI_t (by omega)
    have vj : vp_in (nI j) 201 := vp_of (by omega) (by omega)
    have ej : (nI j).toNatClampNeg = j := nI_c (by omega)
    have kA : am_mv K 34 (some (.inl (nI j + 1))) none [] (am_up (am_up st 2154 (nI j).toNatClampNeg 0) 2155 (nI j).toNatClampNeg 0) := by
      rw [nI_s, ej]
      refine ih (j + 1) _ (by omega) (fun b h1 h2 => by rw [am_up_bank h2, am_up_bank h1]; exact k2 b h1 h2) ?_
      intro i hi
      by_cases e : i = j
      · rw [e, am_up_bank (by decide), am_up_eq, am_up_eq]
        exact ⟨rfl, rfl⟩
      · rw [am_up_bank (by decide), am_up_ne (by omega), am_up_ne (by omega), am_up_bank (by decide)]
        exact k3 i (by omega)
    have hlt : ¬ 200 < nI j := by
      rw [i32_lt, hn]
      simp only [Int32.reduceToInt]
      omega
    clear ih hK k2 k3
    refine r_il1 (q := 35) d_MO_verify_34 rfl ?_
    refine r_sp (v := 200) (q := 38) d_MO_verify_35 rfl rfl ?_
    refine r_cgt (tgt := 61) (q := 41) d_MO_verify_38 rfl rfl (fun e38 => ?_) (fun e38 => ?_)
    · skip
      first | exact kA | exact absurd e38 hlt
    · skip
      refine r_al0 (q := 42) d_MO_verify_41 rfl ?_
      refine gt_MO_starts (q := 45) d_MO_verify_42 rfl rfl ?_
      refine r_il1 (q := 46) d_MO_verify_45 rfl ?_
      refine r_ic (v := 0) (q := 47) d_MO_verify_46 rfl rfl ?_
      refine sv_154 (q := 48) d_MO_verify_47 (by first | assumption | (refine pc_of hP ?_; (repeat (first | assumption | exact md_refl | refine md_up ?_ rfl | refine md_fill ?_ rfl | (unfold ik; refine md_up ?_ rfl))); done) | (refine pc_oS hP ?_; (repeat (first | assumption | exact md_refl | refine md_up ?_ rfl | refine md_fill ?_ rfl | (unfold ik; refine md_up ?_ rfl))); done) | (refine pm_of hP ?_; (repeat (first | assumption | exact md_refl | refine md_up ?_ rfl | refine md_fill ?_ rfl | (unfold ik; refine md_up ?_ rfl))); done) | omega | decide | ((try simp +decide only [b01, b10, b11, am_up, ik, and_true, and_false, true_and, false_and, if_true, if_false, nn_eq] at *) <;> (try simp only [sw_or, sw_all, or_false, and_true, i32_lt, i32_le, i32_eq, i32_addw, i32_subw, i32_mulw, Int32.reduceToInt] at *) <;> omega) | (apply_assumption; done)) ?_ rfl ?_
      · exact vj
      refine r_al0 (q := 49) d_MO_verify_48 rfl ?_
      refine gt_MO_has (q := 52) d_MO_verify_49 rfl rfl ?_
      refine r_il1 (q := 53) d_MO_verify_52 rfl ?_
      refine r_ic (v := 0) (q := 54) d_MO_verify_53 rfl rfl ?_
      refine sv_155 (q := 55) d_MO_verify_54 (by first | assumption | (refine pc_of hP ?_; (repeat (first | assumption | exact md_refl | refine md_up ?_ rfl | refine md_fill ?_ rfl | (unfold ik; refine md_up ?_ rfl))); done) | (refine pc_oS hP ?_; (repeat (first | assumption | exact md_refl | refine md_up ?_ rfl | refine md_fill ?_ rfl | (unfold ik; refine md_up ?_ rfl))); done) | (refine pm_of hP ?_; (repeat (first | assumption | exact md_refl | refine md_up ?_ rfl | refine md_fill ?_ rfl | (unfold ik; refine md_up ?_ rfl))); done) | omega | decide | ((try simp +decide only [b01, b10, b11, am_up, ik, and_true, and_false, true_and, false_and, if_true, if_false, nn_eq] at *) <;> (try simp only [sw_or, sw_all, or_false, and_true, i32_lt, i32_le, i32_eq, i32_addw, i32_subw, i32_mulw, Int32.reduceToInt] at *) <;> omega) | (apply_assumption; done)) ?_ rfl ?_
      · exact vj
      refine r_in1 (v := 1) (q := 58) d_MO_verify_55 rfl rfl ?_
      refine am_go (tgt := 34) d_MO_verify_58 rfl ?_
      first | exact kA | exact absurd e38 hlt
theorem lp_MO_cnt {K : Int32 → am_S → Prop} {st : am_S} (h : K (nI (sm (fun i => if st 2155 i = 0 then 0 else 1) 200)) st) : ∀ d j : Nat, j + d = 200 → am_mv K 133 (some (.inl (nI (sm (fun i => if st 2155 i = 0 then 0 else 1) j)))) (some (.inl (nI j))) [] st := by
  intro d
  induction d with
  | zero =>
    intro j k1
    have e : j = 200 := by omega
    subst e
    refine r_il2 (q := 134) d_MO_verify_133 rfl ?_
    refine r_sp (v := 200) (q := 137) d_MO_verify_134 rfl rfl ?_
    refine r_cge (tgt := 163) (q := 140) d_MO_verify_137 rfl rfl (fun e137 => ?_) (fun e137 => ?_)
    · skip
      refine r_il1 (q := 164) d_MO_verify_163 rfl ?_
      refine r_ri d_MO_verify_164 ?_
      exact h
    · skip
      exact absurd (by decide) e137
  | succ d ih =>
    intro j k1
    have hn : (nI j).toInt = j := nI_t (by omega)
    have ej : (nI j).toNatClampNeg = j := nI_c (by omega)
    have vj : vp_in (nI j) 201 := vp_of (by omega) (by omega)
    have kA := ih (j + 1) (by omega)
    have k1' : st 2155 (nI j).toNatClampNeg = 0 → am_mv K 133 (some (.inl (nI (sm (fun i => if st 2155 i = 0 then 0 else 1) j)))) (some (.inl (nI j + 1))) [] st := by
      intro e
      rw [ej] at e
      unfold sm at kA
      simp only [if_pos e, Nat.add_zero] at kA
      rw [nI_s]
      exact kA
    have k2' : ¬ st 2155 (nI j).toNatClampNeg = 0 → am_mv K 133 (some (.inl (nI (sm (fun i => if st 2155 i = 0 then 0 else 1) j) + 1))) (some (.inl (nI j + 1))) [] st := by
      intro e
      rw [ej] at e
      unfold sm at kA
      simp only [if_neg e] at kA
      rw [nI_s, nI_s]
      exact kA
    have hlt : ¬ 200 ≤ nI j := by
      rw [i32_le, hn]
      simp only [Int32.reduceToInt]
      omega
    clear ih h kA
    refine r_il2 (q := 134) d_MO_verify_133 rfl ?_
    refine r_sp (v := 200) (q := 137) d_MO_verify_134 rfl rfl ?_
    refine r_cge (tgt := 163) (q := 140) d_MO_verify_137 rfl rfl (fun e137 => ?_) (fun e137 => ?_)
    · skip
      first | exact k1' e146 | exact k2' e146 | exact absurd e137 hlt
    · skip
      refine r_al0 (q := 141) d_MO_verify_140 rfl ?_
      refine gt_MO_has (q := 144) d_MO_verify_141 rfl rfl ?_
      refine r_il2 (q := 145) d_MO_verify_144 rfl ?_
      refine ld_155 (q := 146) d_MO_verify_145 ?_ rfl ?_
      · exact vj
      refine r_zeq (tgt := 155) (q := 149) d_MO_verify_146 rfl rfl (fun e146 => ?_) (fun e146 => ?_)
      · skip
        refine r_il1 (q := 156) d_MO_verify_155 rfl ?_
        refine r_is1 (q := 157) d_MO_verify_156 rfl ?_
        refine r_in2 (v := 1) (q := 160) d_MO_verify_157 rfl rfl ?_
        refine am_go (tgt := 133) d_MO_verify_160 rfl ?_
        first | exact k1' e146 | exact k2' e146 | exact absurd e137 hlt
      · skip
        refine r_il1 (q := 150) d_MO_verify_149 rfl ?_
        refine r_ic (v := 1) (q := 151) d_MO_verify_150 rfl rfl ?_
        refine r_iadd (q := 152) d_MO_verify_151 rfl ?_
        refine am_go (tgt := 156) d_MO_verify_152 rfl ?_
        refine r_is1 (q := 157) d_MO_verify_156 rfl ?_
        refine r_in2 (v := 1) (q := 160) d_MO_verify_157 rfl rfl ?_
        refine am_go (tgt := 133) d_MO_verify_160 rfl ?_
        first | exact k1' e146 | exact k2' e146 | exact absurd e137 hlt
theorem lp_MO_vf {P st0 : am_S} {f : Int32 → am_S → Prop} (hP : PM st0 P) (hV : VP P) (hO : VO P) (hF : ∀ s, am_md mG st0 s → s 576 0 = 0 → s 591 0 = 1 → s 592 0 = -1 → (∀ m, m < nM P → SHP P m ∧ LM P m s) → (∀ i, EN P ≤ i → i < 201 → s 2155 i = 0) → f (nI (sm (fun i => if s 2155 i = 0 then 0 else 1) 200)) s) (hG : ∀ s m, m < nM P → (∀ m', m' < m → SHP P m' ∧ ∃ U, Typ P m' U) → ((¬ SHP P m ∧ s 592 0 = 2 * nI m) ∨ (SHP P m ∧ (∀ U, ¬ Typ P m U) ∧ s 592 0 = 2 * nI m + 1)) → am_md mG st0 s → s 576 0 = 1 → s 591 0 = st0 591 0 → f 0 s) : ∀ (d : Nat) (x : Int32) (a2 : Option am_V) (st : am_S), 0 ≤ x.toInt → x.toInt + d = (P 12 0).toInt → am_md mG st0 st → st 576 0 = 0 → st 592 0 = -1 → st 591 0 = st0 591 0 → (∀ m, m < x.toNatClampNeg → SHP P m ∧ LM P m st) → (∀ i, bx P x.toNatClampNeg ≤ i → i < 201 → st 2154 i = 0 ∧ st 2155 i = 0) → am_mv f 68 (some (.inl x)) a2 [] st := by
  intro d
  have h0 := hV.1
  induction d with
  | zero =>
    intro x a2 st k0 k1 k2 k3 k4 k5 k6 k7
    have q := pm_oG hP k2
    have e579 : (st 579 0).toInt = (P 12 0).toInt := by rw [q.2.2.2.2.2.2.1]
    have hx : x.toNatClampNeg = nM P := by unfold nM; rw [nn_eq]; omega
    rw [hx] at k6 k7
    have kQ := hF (am_up st 591 0 1) (md_up k2 rfl) (by rw [am_up_bank (by decide)]; exact k3) am_up_eq (by rw [am_up_bank (by decide)]; exact k4) (fun m hm => ⟨(k6 m hm).1, LM_bk (k6 m hm).2 (am_up_bank (by decide)) (am_up_bank (by decide)) (am_up_bank (by decide)) (am_up_bank (by decide))⟩) (fun i h1 h2 => by rw [am_up_bank (by decide)]; exact (k7 i h1 h2).2)
    have kL := lp_MO_cnt kQ 200 0 (by omega)
    clear hF hG k2 k6 k7 kQ
    refine r_il1 (q := 69) d_MO_verify_68 rfl ?_
    refine r_al0 (q := 70) d_MO_verify_69 rfl ?_
    refine gt_MO_methods (q := 73) d_MO_verify_70 rfl rfl ?_
    refine r_cge (tgt := 124) (q := 76) d_MO_verify_73 rfl rfl (fun e73 => ?_) (fun e73 => ?_)
    · skip
      refine r_al0 (q := 125) d_MO_verify_124 rfl ?_
      refine r_ic (v := 1) (q := 126) d_MO_verify_125 rfl rfl ?_
      refine pt_MO_verified (q := 129) d_MO_verify_126 rfl (by first | assumption | (refine pc_of hP ?_; (repeat (first | assumption | exact md_refl | refine md_up ?_ rfl | refine md_fill ?_ rfl | (unfold ik; refine md_up ?_ rfl))); done) | (refine pc_oS hP ?_; (repeat (first | assumption | exact md_refl | refine md_up ?_ rfl | refine md_fill ?_ rfl | (unfold ik; refine md_up ?_ rfl))); done) | (refine pm_of hP ?_; (repeat (first | assumption | exact md_refl | refine md_up ?_ rfl | refine md_fill ?_ rfl | (unfold ik; refine md_up ?_ rfl))); done) | omega | decide | ((try simp +decide only [b01, b10, b11, am_up, ik, and_true, and_false, true_and, false_and, if_true, if_false, nn_eq] at *) <;> (try simp only [sw_or, sw_all, or_false, and_true, i32_lt, i32_le, i32_eq, i32_addw, i32_subw, i32_mulw, Int32.reduceToInt] at *) <;> omega) | (apply_assumption; done)) rfl ?_
      refine r_ic (v := 0) (q := 130) d_MO_verify_129 rfl rfl ?_
      refine r_is1 (q := 131) d_MO_verify_130 rfl ?_
      refine r_ic (v := 0) (q := 132) d_MO_verify_131 rfl rfl ?_
      refine r_is2 (q := 133) d_MO_verify_132 rfl ?_
      first | exact kL | (exfalso; clear kL hP hV hO q; ((try simp +decide only [b01, b10, b11, am_up, ik, and_true, and_false, true_and, false_and, if_true, if_false, nn_eq] at *) <;> (try simp only [sw_or, sw_all, or_false, and_true, i32_lt, i32_le, i32_eq, i32_addw, i32_subw, i32_mulw, Int32.reduceToInt] at *) <;> omega))
    · skip
      first | exact kL | (exfalso; clear kL hP hV hO q; ((try simp +decide only [b01, b10, b11, am_up, ik, and_true, and_false, true_and, false_and, if_true, if_false, nn_eq] at *) <;> (try simp only [sw_or, sw_all, or_false, and_true, i32_lt, i32_le, i32_eq, i32_addw, i32_subw, i32_mulw, Int32.reduceToInt] at *) <;> omega))
  | succ d ih =>
    intro x a2 st k0 k1 k2 k3 k4 k5 k6 k7
    have q := pm_oG hP k2
    have e579 : (st 579 0).toInt = (P 12 0).toInt := by rw [q.2.2.2.2.2.2.1]
    have hxm : x.toNatClampNeg < nM P := by unfold nM; rw [nn_eq]; omega
    have hy : 0 ≤ x.toInt ∧ x.toNatClampNeg < nM P := ⟨k0, hxm⟩
    have hxI : x = nI x.toNatClampNeg := (nI_back k0).symm
    rw [bx_nb hO hxm] at k7
    have hend : nb P x.toNatClampNeg + nl P x.toNatClampNeg ≤ 200 := by
      have h3 := hV.2.2 _ hxm
      unfold VM at h3
      unfold nb nl
      omega
    have c4s : ∀ r, r < nl P x.toNatClampNeg → st 2154 (nb P x.toNatClampNeg + r) = 0 := fun r hr => (k7 _ (by omega) (by omega)).1
    have hpre : ∀ m', m' < x.toNatClampNeg → SHP P m' ∧ ∃ U, Typ P m' U := fun m' hm' => ⟨(k6 m' hm').1, by obtain ⟨⟨T, -, t⟩, -⟩ := (k6 m' hm').2; exact ⟨T, t⟩⟩
    have kGood : ∀ s a2', am_md mV st s → oM (nb P x.toNatClampNeg) (nl P x.toNatClampNeg) st s → (∀ i, (i < nb P x.toNatClampNeg ∨ nb P x.toNatClampNeg + nl P x.toNatClampNeg ≤ i) → s 2154 i = st 2154 i) → SHP P x.toNatClampNeg → LM P x.toNatClampNeg s → am_mv f 68 (some (.inl (x + 1))) a2' [] s := by
      intro s a2' s1 s2 s2' s3 s4
      have ex : (x + 1).toInt = x.toInt + 1 := by
        rw [i32_addw]
        simp only [Int32.reduceToInt]
        omega
      have en : (x + 1).toNatClampNeg = x.toNatClampNeg + 1 := by
        rw [nn_eq, nn_eq]
        omega
      refine ih _ a2' s (by omega) (by omega) (md_trans k2 (md_G s1)) (by rw [s1 576 rfl]; exact k3) (by rw [s1 592 rfl]; exact k4) (by rw [s1 591 rfl]; exact k5) ?_ ?_
      · rw [en]
        intro m hm
        by_cases e : m = x.toNatClampNeg
        · rw [e]
          exact ⟨s3, s4⟩
        · exact ⟨(k6 m (by omega)).1, LM_oM hV (by omega) (k6 m (by omega)).2 s2 s2' (VO_lt hO (by omega) hxm)⟩
      · rw [en, bx_s]
        intro i h1 h2
        rw [s2' i (by omega), (s2 i (by omega)).1]
        exact k7 i (by omega) h2
    have kS0 : ∀ s, am_md mV st s → ¬ SHP P x.toNatClampNeg → f 0 (am_up (am_up s 592 0 (2 * x + 0)) 576 0 1) := by
      intro s s1 s2
      refine hG _ x.toNatClampNeg hxm hpre (Or.inl ⟨s2, ?_⟩) (md_up (md_up (md_trans k2 (md_G s1)) rfl) rfl) am_up_eq (by rw [am_up_bank (by decide), am_up_bank (by decide), s1 591 rfl]; exact k5)
      rw [am_up_bank (by decide), am_up_eq, ← hxI, Int32.add_zero]
    have kS1 : ∀ s, am_md mV st s → SHP P x.toNatClampNeg → (∀ U, ¬ Typ P x.toNatClampNeg U) → f 0 (am_up (am_up s 592 0 (2 * x + 1)) 576 0 1) := by
      intro s s1 s2 s3
      refine hG _ x.toNatClampNeg hxm hpre (Or.inr ⟨s2, s3, ?_⟩) (md_up (md_up (md_trans k2 (md_G s1)) rfl) rfl) am_up_eq (by rw [am_up_bank (by decide), am_up_bank (by decide), s1 591 rfl]; exact k5)
      rw [am_up_bank (by decide), am_up_eq, ← hxI]
    have k82 : ∀ r s, msQ P st x.toNatClampNeg r s → am_mv f 82 (some (.inl x)) (some (.inl r)) [] s := by
      intro r s hs
      obtain ⟨s1, s2, s3⟩ := hs
      have s4 := md_S s1
      have qs : PM s P := pm_of q s4
      have so : oM (nb P x.toNatClampNeg) (nl P x.toNatClampNeg) st s := fun i _ => by rw [s1 2155 rfl, s1 2156 rfl, s1 2157 rfl]; exact ⟨rfl, rfl, fun _ _ => rfl⟩
      rcases s3 with ⟨e, s3, s5⟩ | ⟨e, s3⟩
      · subst e
        have c5f : ∀ p, p < nl P x.toNatClampNeg → s 2155 (nb P x.toNatClampNeg + p) = 0 := fun p hp => by rw [s1 2155 rfl]; exact (k7 _ (by omega) (by omega)).2
        have kT : ∀ r2 s2', flQ P x.toNatClampNeg s r2 s2' → ¬ r2 = 0 → am_mv f 68 (some (.inl (x + 1))) (some (.inl 1)) [] s2' := by
          intro r2 s2' h hr
          obtain ⟨z1, z2, z3⟩ := h
          rcases z3 with ⟨-, T, z3, z4⟩ | ⟨z3, -⟩
          · refine kGood s2' _ (md_trans s4 (md_L z1)) (oM_trans so z2) (fun i hi => by rw [z1 2154 rfl]; exact s2 i hi) s3 ⟨⟨T, z3, z4⟩, ?_⟩
            rw [z1 2154 rfl]
            exact s5
          · exact absurd z3 hr
        have kN : ∀ r2 s2', flQ P x.toNatClampNeg s r2 s2' → r2 = 0 → f 0 (am_up (am_up s2' 592 0 (2 * x + 1)) 576 0 1) := by
          intro r2 s2' h hr
          obtain ⟨z1, z2, z3⟩ := h
          rcases z3 with ⟨z3, -⟩ | ⟨-, z3⟩
          · exact absurd (z3.symm.trans hr) (by decide)
          · exact kS1 s2' (md_trans s4 (md_L z1)) s3 z3
        clear ih kS0 kS1 kGood hF hG k6 hpre k7
        refine r_il2 (q := 83) d_MO_verify_82 rfl ?_
        refine r_zeq (tgt := 94) (q := 86) d_MO_verify_83 rfl rfl (fun e83 => by exfalso; revert e83; decide) (fun e83 => ?_)
        refine r_al0 (q := 87) d_MO_verify_86 rfl ?_
        refine r_il1 (q := 88) d_MO_verify_87 rfl ?_
        refine r_vi1 mo_MO_flow d_MO_verify_88 rfl rfl rfl (q := 91) rfl ?_
        refine sp_MO_flow (P := P) (by first | exact qs | exact s3 | exact hy | exact c5f | assumption | (refine pc_of hP ?_; (repeat (first | assumption | exact md_refl | refine md_up ?_ rfl | refine md_fill ?_ rfl | (unfold ik; refine md_up ?_ rfl))); done) | (refine pc_oS hP ?_; (repeat (first | assumption | exact md_refl | refine md_up ?_ rfl | refine md_fill ?_ rfl | (unfold ik; refine md_up ?_ rfl))); done) | (refine pm_of hP ?_; (repeat (first | assumption | exact md_refl | refine md_up ?_ rfl | refine md_fill ?_ rfl | (unfold ik; refine md_up ?_ rfl))); done) | omega | decide | ((try simp +decide only [b01, b10, b11, am_up, ik, and_true, and_false, true_and, false_and, if_true, if_false, nn_eq] at *) <;> (try simp only [sw_or, sw_all, or_false, and_true, i32_lt, i32_le, i32_eq, i32_addw, i32_subw, i32_mulw, Int32.reduceToInt] at *) <;> omega) | (apply_assumption; done)) (by first | exact qs | exact s3 | exact hy | exact c5f | assumption | (refine pc_of hP ?_; (repeat (first | assumption | exact md_refl | refine md_up ?_ rfl | refine md_fill ?_ rfl | (unfold ik; refine md_up ?_ rfl))); done) | (refine pc_oS hP ?_; (repeat (first | assumption | exact md_refl | refine md_up ?_ rfl | refine md_fill ?_ rfl | (unfold ik; refine md_up ?_ rfl))); done) | (refine pm_of hP ?_; (repeat (first | assumption | exact md_refl | refine md_up ?_ rfl | refine md_fill ?_ rfl | (unfold ik; refine md_up ?_ rfl))); done) | omega | decide | ((try simp +decide only [b01, b10, b11, am_up, ik, and_true, and_false, true_and, false_and, if_true, if_false, nn_eq] at *) <;> (try simp only [sw_or, sw_all, or_false, and_true, i32_lt, i32_le, i32_eq, i32_addw, i32_subw, i32_mulw, Int32.reduceToInt] at *) <;> omega) | (apply_assumption; done)) (by first | exact qs | exact s3 | exact hy | exact c5f | assumption | (refine pc_of hP ?_; (repeat (first | assumption | exact md_refl | refine md_up ?_ rfl | refine md_fill ?_ rfl | (unfold ik; refine md_up ?_ rfl))); done) | (refine pc_oS hP ?_; (repeat (first | assumption | exact md_refl | refine md_up ?_ rfl | refine md_fill ?_ rfl | (unfold ik; refine md_up ?_ rfl))); done) | (refine pm_of hP ?_; (repeat (first | assumption | exact md_refl | refine md_up ?_ rfl | refine md_fill ?_ rfl | (unfold ik; refine md_up ?_ rfl))); done) | omega | decide | ((try simp +decide only [b01, b10, b11, am_up, ik, and_true, and_false, true_and, false_and, if_true, if_false, nn_eq] at *) <;> (try simp only [sw_or, sw_all, or_false, and_true, i32_lt, i32_le, i32_eq, i32_addw, i32_subw, i32_mulw, Int32.reduceToInt] at *) <;> omega) | (apply_assumption; done)) (by first | exact qs | exact s3 | exact hy | exact c5f | assumption | (refine pc_of hP ?_; (repeat (first | assumption | exact md_refl | refine md_up ?_ rfl | refine md_fill ?_ rfl | (unfold ik; refine md_up ?_ rfl))); done) | (refine pc_oS hP ?_; (repeat (first | assumption | exact md_refl | refine md_up ?_ rfl | refine md_fill ?_ rfl | (unfold ik; refine md_up ?_ rfl))); done) | (refine pm_of hP ?_; (repeat (first | assumption | exact md_refl | refine md_up ?_ rfl | refine md_fill ?_ rfl | (unfold ik; refine md_up ?_ rfl))); done) | omega | decide | ((try simp +decide only [b01, b10, b11, am_up, ik, and_true, and_false, true_and, false_and, if_true, if_false, nn_eq] at *) <;> (try simp only [sw_or, sw_all, or_false, and_true, i32_lt, i32_le, i32_eq, i32_addw, i32_subw, i32_mulw, Int32.reduceToInt] at *) <;> omega) | (apply_assumption; done)) (by first | exact qs | exact s3 | exact hy | exact c5f | assumption | (refine pc_of hP ?_; (repeat (first | assumption | exact md_refl | refine md_up ?_ rfl | refine md_fill ?_ rfl | (unfold ik; refine md_up ?_ rfl))); done) | (refine pc_oS hP ?_; (repeat (first | assumption | exact md_refl | refine md_up ?_ rfl | refine md_fill ?_ rfl | (unfold ik; refine md_up ?_ rfl))); done) | (refine pm_of hP ?_; (repeat (first | assumption | exact md_refl | refine md_up ?_ rfl | refine md_fill ?_ rfl | (unfold ik; refine md_up ?_ rfl))); done) | omega | decide | ((try simp +decide only [b01, b10, b11, am_up, ik, and_true, and_false, true_and, false_and, if_true, if_false, nn_eq] at *) <;> (try simp only [sw_or, sw_all, or_false, and_true, i32_lt, i32_le, i32_eq, i32_addw, i32_subw, i32_mulw, Int32.reduceToInt] at *) <;> omega) | (apply_assumption; done)) (fun e88 => ?_)
        · skip
          refine r_zne (tgt := 118) (q := 94) d_MO_verify_91 rfl rfl (fun e91 => ?_) (fun e91 => ?_)
          · skip
            refine r_in1 (v := 1) (q := 121) d_MO_verify_118 rfl rfl ?_
            refine am_go (tgt := 68) d_MO_verify_121 rfl ?_
            exact kT _ _ e88.2 e91
          · skip
            refine r_al0 (q := 95) d_MO_verify_94 rfl ?_
            refine r_ic (v := 2) (q := 96) d_MO_verify_95 rfl rfl ?_
            refine r_il1 (q := 97) d_MO_verify_96 rfl ?_
            refine r_imul (q := 98) d_MO_verify_97 rfl ?_
            refine r_il2 (q := 99) d_MO_verify_98 rfl ?_
            refine r_zeq (tgt := 106) (q := 102) d_MO_verify_99 rfl rfl (fun e99 => by exfalso; revert e99; decide) (fun e99 => ?_)
            refine r_ic (v := 1) (q := 103) d_MO_verify_102 rfl rfl ?_
            refine am_go (tgt := 107) d_MO_verify_103 rfl ?_
            refine r_iadd (q := 108) d_MO_verify_107 rfl ?_
            refine pt_MO_fault (q := 111) d_MO_verify_108 rfl rfl ?_
            refine r_al0 (q := 112) d_MO_verify_111 rfl ?_
            refine r_ic (v := 1) (q := 113) d_MO_verify_112 rfl rfl ?_
            refine pt_MO_thrown (q := 116) d_MO_verify_113 rfl rfl ?_
            refine r_ic (v := 0) (q := 117) d_MO_verify_116 rfl rfl ?_
            refine r_ri d_MO_verify_117 ?_
            exact kN _ _ e88.2 e91
      · subst e
        have kN := kS0 s s4 s3
        clear ih kS0 kS1 kGood hF hG k6 hpre k7
        refine r_il2 (q := 83) d_MO_verify_82 rfl ?_
        refine r_zeq (tgt := 94) (q := 86) d_MO_verify_83 rfl rfl (fun e83 => ?_) (fun e83 => by exfalso; revert e83; decide)
        refine r_al0 (q := 95) d_MO_verify_94 rfl ?_
        refine r_ic (v := 2) (q := 96) d_MO_verify_95 rfl rfl ?_
        refine r_il1 (q := 97) d_MO_verify_96 rfl ?_
        refine r_imul (q := 98) d_MO_verify_97 rfl ?_
        refine r_il2 (q := 99) d_MO_verify_98 rfl ?_
        refine r_zeq (tgt := 106) (q := 102) d_MO_verify_99 rfl rfl (fun e99 => ?_) (fun e99 => by exfalso; revert e99; decide)
        refine r_ic (v := 0) (q := 107) d_MO_verify_106 rfl rfl ?_
        refine r_iadd (q := 108) d_MO_verify_107 rfl ?_
        refine pt_MO_fault (q := 111) d_MO_verify_108 rfl rfl ?_
        refine r_al0 (q := 112) d_MO_verify_111 rfl ?_
        refine r_ic (v := 1) (q := 113) d_MO_verify_112 rfl rfl ?_
        refine pt_MO_thrown (q := 116) d_MO_verify_113 rfl rfl ?_
        refine r_ic (v := 0) (q := 117) d_MO_verify_116 rfl rfl ?_
        refine r_ri d_MO_verify_117 ?_
        exact kN
    clear ih kS0 kS1 kGood hF hG k6 hpre
    refine r_il1 (q := 69) d_MO_verify_68 rfl ?_
    refine r_al0 (q := 70) d_MO_verify_69 rfl ?_
    refine gt_MO_methods (q := 73) d_MO_verify_70 rfl rfl ?_
    refine r_cge (tgt := 124) (q := 76) d_MO_verify_73 rfl rfl (fun e73 => ?_) (fun e73 => ?_)
    · skip
      first | exact k82 _ _ e78.2 | (exfalso; clear k82 hP hV hO q k2 k7 c4s; ((try simp +decide only [b01, b10, b11, am_up, ik, and_true, and_false, true_and, false_and, if_true, if_false, nn_eq] at *) <;> (try simp only [sw_or, sw_all, or_false, and_true, i32_lt, i32_le, i32_eq, i32_addw, i32_subw, i32_mulw, Int32.reduceToInt] at *) <;> omega))
    · skip
      refine r_al0 (q := 77) d_MO_verify_76 rfl ?_
      refine r_il1 (q := 78) d_MO_verify_77 rfl ?_
      refine r_vi1 mo_MO_shape d_MO_verify_78 rfl rfl rfl (q := 81) rfl ?_
      refine sp_MO_shape (P := P) (by first | exact q | exact hy | exact c4s | assumption | (refine pc_of hP ?_; (repeat (first | assumption | exact md_refl | refine md_up ?_ rfl | refine md_fill ?_ rfl | (unfold ik; refine md_up ?_ rfl))); done) | (refine pc_oS hP ?_; (repeat (first | assumption | exact md_refl | refine md_up ?_ rfl | refine md_fill ?_ rfl | (unfold ik; refine md_up ?_ rfl))); done) | (refine pm_of hP ?_; (repeat (first | assumption | exact md_refl | refine md_up ?_ rfl | refine md_fill ?_ rfl | (unfold ik; refine md_up ?_ rfl))); done) | omega | decide | ((try simp +decide only [b01, b10, b11, am_up, ik, and_true, and_false, true_and, false_and, if_true, if_false, nn_eq] at *) <;> (try simp only [sw_or, sw_all, or_false, and_true, i32_lt, i32_le, i32_eq, i32_addw, i32_subw, i32_mulw, Int32.reduceToInt] at *) <;> omega) | (apply_assumption; done)) (by first | exact q | exact hy | exact c4s | assumption | (refine pc_of hP ?_; (repeat (first | assumption | exact md_refl | refine md_up ?_ rfl | refine md_fill ?_ rfl | (unfold ik; refine md_up ?_ rfl))); done) | (refine pc_oS hP ?_; (repeat (first | assumption | exact md_refl | refine md_up ?_ rfl | refine md_fill ?_ rfl | (unfold ik; refine md_up ?_ rfl))); done) | (refine pm_of hP ?_; (repeat (first | assumption | exact md_refl | refine md_up ?_ rfl | refine md_fill ?_ rfl | (unfold ik; refine md_up ?_ rfl))); done) | omega | decide | ((try simp +decide only [b01, b10, b11, am_up, ik, and_true, and_false, true_and, false_and, if_true, if_false, nn_eq] at *) <;> (try simp only [sw_or, sw_all, or_false, and_true, i32_lt, i32_le, i32_eq, i32_addw, i32_subw, i32_mulw, Int32.reduceToInt] at *) <;> omega) | (apply_assumption; done)) (by first | exact q | exact hy | exact c4s | assumption | (refine pc_of hP ?_; (repeat (first | assumption | exact md_refl | refine md_up ?_ rfl | refine md_fill ?_ rfl | (unfold ik; refine md_up ?_ rfl))); done) | (refine pc_oS hP ?_; (repeat (first | assumption | exact md_refl | refine md_up ?_ rfl | refine md_fill ?_ rfl | (unfold ik; refine md_up ?_ rfl))); done) | (refine pm_of hP ?_; (repeat (first | assumption | exact md_refl | refine md_up ?_ rfl | refine md_fill ?_ rfl | (unfold ik; refine md_up ?_ rfl))); done) | omega | decide | ((try simp +decide only [b01, b10, b11, am_up, ik, and_true, and_false, true_and, false_and, if_true, if_false, nn_eq] at *) <;> (try simp only [sw_or, sw_all, or_false, and_true, i32_lt, i32_le, i32_eq, i32_addw, i32_subw, i32_mulw, Int32.reduceToInt] at *) <;> omega) | (apply_assumption; done)) (by first | exact q | exact hy | exact c4s | assumption | (refine pc_of hP ?_; (repeat (first | assumption | exact md_refl | refine md_up ?_ rfl | refine md_fill ?_ rfl | (unfold ik; refine md_up ?_ rfl))); done) | (refine pc_oS hP ?_; (repeat (first | assumption | exact md_refl | refine md_up ?_ rfl | refine md_fill ?_ rfl | (unfold ik; refine md_up ?_ rfl))); done) | (refine pm_of hP ?_; (repeat (first | assumption | exact md_refl | refine md_up ?_ rfl | refine md_fill ?_ rfl | (unfold ik; refine md_up ?_ rfl))); done) | omega | decide | ((try simp +decide only [b01, b10, b11, am_up, ik, and_true, and_false, true_and, false_and, if_true, if_false, nn_eq] at *) <;> (try simp only [sw_or, sw_all, or_false, and_true, i32_lt, i32_le, i32_eq, i32_addw, i32_subw, i32_mulw, Int32.reduceToInt] at *) <;> omega) | (apply_assumption; done)) (fun e78 => ?_)
      · skip
        refine r_is2 (q := 82) d_MO_verify_81 rfl ?_
        first | exact k82 _ _ e78.2 | (exfalso; clear k82 hP hV hO q k2 k7 c4s; ((try simp +decide only [b01, b10, b11, am_up, ik, and_true, and_false, true_and, false_and, if_true, if_false, nn_eq] at *) <;> (try simp only [sw_or, sw_all, or_false, and_true, i32_lt, i32_le, i32_eq, i32_addw, i32_subw, i32_mulw, Int32.reduceToInt] at *) <;> omega))
theorem sq_MO_verify {P : am_S} {st : am_S} {f : Int32 → am_S → Prop} (c1 : PM st P) (c2 : VP P) (c3 : VO P) (h1 : ¬ st 591 0 = 0 ∨ st 579 0 = 0 → f 0 (am_up st 576 0 2)) (h2 : st 591 0 = 0 → ¬ st 579 0 = 0 → (∀ s, am_md mG st s → s 576 0 = 0 → s 591 0 = 1 → s 592 0 = -1 → (∀ m, m < nM P → SHP P m ∧ LM P m s) → (∀ i, EN P ≤ i → i < 201 → s 2155 i = 0) → f (nI (sm (fun i => if s 2155 i = 0 then 0 else 1) 200)) s) ∧ (∀ s m, m < nM P → (∀ m', m' < m → SHP P m' ∧ ∃ U, Typ P m' U) → ((¬ SHP P m ∧ s 592 0 = 2 * nI m) ∨ (SHP P m ∧ (∀ U, ¬ Typ P m U) ∧ s 592 0 = 2 * nI m + 1)) → am_md mG st s → s 576 0 = 1 → s 591 0 = st 591 0 → f 0 s)) : wp_MO_verify [.inr (.inl 128)] st (am_ki f) := by
  refine ⟨⟨rfl, Nat.le_of_ble_eq_true rfl⟩, ?_⟩
  have h0 := c2.1
  have k61 : st 591 0 = 0 → ¬ st 579 0 = 0 → ∀ s v, (∀ b, ¬ b = 2154 → ¬ b = 2155 → s b = am_up st 576 0 0 b) → (∀ i, i < 201 → s 2154 i = 0 ∧ s 2155 i = 0) → am_mv f 61 (some (.inl v)) none [] s := by
    intro a1 a2 s v s1 s2
    obtain ⟨b1, b2⟩ := h2 a1 a2
    have smd : am_md mG st s := by
      intro b hb
      rw [s1 b (fun q => by subst q; exact absurd hb (by decide)) (fun q => by subst q; exact absurd hb (by decide)), am_up_bank (fun q => by subst q; exact absurd hb (by decide))]
    have kL := lp_MO_vf c1 c2 c3 b1 b2 (P 12 0).toInt.toNat 0 none (am_up s 592 0 (-1)) (by decide) (by simp only [Int32.reduceToInt]; omega) (md_up smd rfl) (by rw [am_up_bank (by decide), s1 576 (by decide) (by decide), am_up_eq]) am_up_eq (by rw [am_up_bank (by decide), s1 591 (by decide) (by decide), am_up_bank (by decide)]) (fun m hm => absurd hm (by simp [nn_eq])) (fun i _ hi => by rw [am_up_bank (by decide), am_up_bank (by decide)]; exact s2 i hi)
    clear h1 h2 b1 b2
    refine r_al0 (q := 62) d_MO_verify_61 rfl ?_
    refine r_ic (v := -1) (q := 63) d_MO_verify_62 rfl rfl ?_
    refine pt_MO_fault (q := 66) d_MO_verify_63 rfl rfl ?_
    refine r_ic (v := 0) (q := 67) d_MO_verify_66 rfl rfl ?_
    refine r_is1 (q := 68) d_MO_verify_67 rfl ?_
    exact kL
  have kL : st 591 0 = 0 → ¬ st 579 0 = 0 → am_mv f 34 (some (.inl 0)) none [] (am_up st 576 0 0) := fun a1 a2 => lp_MO_zero (k61 a1 a2) 201 0 _ (by omega) (fun _ _ _ => rfl) (fun i hi => absurd hi (by omega))
  clear h2 k61
  refine r_al0 (q := 1) d_MO_verify_0 rfl ?_
  refine r_al0 (q := 2) d_MO_verify_1 rfl ?_
  refine gt_MO_verified (q := 5) d_MO_verify_2 rfl rfl ?_
  refine r_zne (tgt := 15) (q := 8) d_MO_verify_5 rfl rfl (fun e5 => ?_) (fun e5 => ?_)
  · skip
    refine r_ic (v := 2) (q := 16) d_MO_verify_15 rfl rfl ?_
    refine am_go (tgt := 20) d_MO_verify_16 rfl ?_
    refine pt_MO_thrown (q := 23) d_MO_verify_20 rfl rfl ?_
    refine r_al0 (q := 24) d_MO_verify_23 rfl ?_
    refine gt_MO_thrown (q := 27) d_MO_verify_24 rfl rfl ?_
    refine r_zle (tgt := 32) (q := 30) d_MO_verify_27 rfl rfl (fun e27 => ?_) (fun e27 => ?_)
    · skip
      refine r_ic (v := 0) (q := 33) d_MO_verify_32 rfl rfl ?_
      refine r_is1 (q := 34) d_MO_verify_33 rfl ?_
      first | exact kL e5 e12 | (exfalso; revert e27; rw [am_up_eq]; decide)
    · skip
      refine r_ic (v := 0) (q := 31) d_MO_verify_30 rfl rfl ?_
      refine r_ri d_MO_verify_31 ?_
      first | exact h1 (Or.inl e5) | exact h1 (Or.inr e12) | (exfalso; revert e27; rw [am_up_eq]; decide)
  · skip
    refine r_al0 (q := 9) d_MO_verify_8 rfl ?_
    refine gt_MO_methods (q := 12) d_MO_verify_9 rfl rfl ?_
    refine r_zne (tgt := 19) (q := 15) d_MO_verify_12 rfl rfl (fun e12 => ?_) (fun e12 => ?_)
    · skip
      refine r_ic (v := 0) (q := 20) d_MO_verify_19 rfl rfl ?_
      refine pt_MO_thrown (q := 23) d_MO_verify_20 rfl rfl ?_
      refine r_al0 (q := 24) d_MO_verify_23 rfl ?_
      refine gt_MO_thrown (q := 27) d_MO_verify_24 rfl rfl ?_
      refine r_zle (tgt := 32) (q := 30) d_MO_verify_27 rfl rfl (fun e27 => ?_) (fun e27 => ?_)
      · skip
        refine r_ic (v := 0) (q := 33) d_MO_verify_32 rfl rfl ?_
        refine r_is1 (q := 34) d_MO_verify_33 rfl ?_
        first | exact kL e5 e12 | (exfalso; revert e27; rw [am_up_eq]; decide)
      · skip
        refine r_ic (v := 0) (q := 31) d_MO_verify_30 rfl rfl ?_
        refine r_ri d_MO_verify_31 ?_
        first | exact h1 (Or.inl e5) | exact h1 (Or.inr e12) | (exfalso; revert e27; rw [am_up_eq]; decide)
    · skip
      refine r_ic (v := 2) (q := 16) d_MO_verify_15 rfl rfl ?_
      refine am_go (tgt := 20) d_MO_verify_16 rfl ?_
      refine pt_MO_thrown (q := 23) d_MO_verify_20 rfl rfl ?_
      refine r_al0 (q := 24) d_MO_verify_23 rfl ?_
      refine gt_MO_thrown (q := 27) d_MO_verify_24 rfl rfl ?_
      refine r_zle (tgt := 32) (q := 30) d_MO_verify_27 rfl rfl (fun e27 => ?_) (fun e27 => ?_)
      · skip
        refine r_ic (v := 0) (q := 33) d_MO_verify_32 rfl rfl ?_
        refine r_is1 (q := 34) d_MO_verify_33 rfl ?_
        first | exact kL e5 e12 | (exfalso; revert e27; rw [am_up_eq]; decide)
      · skip
        refine r_ic (v := 0) (q := 31) d_MO_verify_30 rfl rfl ?_
        refine r_ri d_MO_verify_31 ?_
        first | exact h1 (Or.inl e5) | exact h1 (Or.inr e12) | (exfalso; revert e27; rw [am_up_eq]; decide)

/-! written by wip/whole/gen/walk.py out of 98a.verify.txt -/
def VO (P : am_S) : Prop := (∀ m, m + 1 < nM P → nb P (m + 1) = nb P m + nl P m) ∧ (0 < nM P → nb P 0 = 0)
theorem VO_lt {P : am_S} (h : VO P) {m' m : Nat} (h1 : m' < m) (h2 : m < nM P) : nb P m' + nl P m' ≤ nb P m := by
  induction m with
  | zero => omega
  | succ m ih =>
    have h3 := h.1 m (by omega)
    by_cases e : m' = m
    · subst e
      omega
    · have := ih (by omega) (by omega)
      omega
/-- where the methods end -/
def EN (P : am_S) : Nat := if nM P = 0 then 0 else nb P (nM P - 1) + nl P (nM P - 1)
theorem EN_in {P : am_S} (h : VO P) {m : Nat} (hm : m < nM P) : nb P m + nl P m ≤ EN P := by
  unfold EN
  rw [if_neg (by omega)]
  by_cases e : m = nM P - 1
  · rw [← e]
    exact Nat.le_refl _
  · have := VO_lt h (show m < nM P - 1 by omega) (by omega)
    omega
theorem EN_at {P : am_S} (h : VO P) {i : Nat} (hi : i < EN P) : ∃ m p, m < nM P ∧ p < nl P m ∧ i = nb P m + p := by
  unfold EN at hi
  by_cases e : nM P = 0
  · rw [if_pos e] at hi
    omega
  · rw [if_neg e] at hi
    have key : ∀ n, n < nM P → i < nb P n + nl P n → ∃ m p, m < nM P ∧ p < nl P m ∧ i = nb P m + p := by
      intro n
      induction n with
      | zero =>
        intro h1 h2
        have h0 := h.2 h1
        exact ⟨0, i, h1, by omega, by omega⟩
      | succ n ih =>
        intro h1 h2
        have h3 := h.1 n h1
        by_cases c : i < nb P (n + 1)
        · exact ih (by omega) (by omega)
        · exact ⟨n + 1, i - nb P (n + 1), h1, by omega, by omega⟩
    exact key (nM P - 1) (by omega) hi
def LC (P : am_S) (m : Nat) (st : am_S) (T : am_T) : Prop := ∀ p, p < nl P m → T 0 p = st 2132 (nb P m + p) ∧ T 1 p = st 2133 (nb P m + p) ∧ T 2 p = st 2134 (nb P m + p)
def LT (P : am_S) (m : Nat) (st : am_S) : Prop := ∃ T, LC P m st T ∧ Typ P m T ∧ (∀ U, Typ P m U → le (nl P m) T U) ∧ WT P m T
theorem LT_oS {P st st' : am_S} {m m' : Nat} (h : LT P m' st) (ho : oS (nb P m) (nl P m) st st') (hd : nb P m' + nl P m' ≤ nb P m) : LT P m' st' := by
  obtain ⟨T, a, b⟩ := h
  refine ⟨T, fun p hp => ?_, b⟩
  obtain ⟨c1, c2, c3⟩ := ho (nb P m' + p) (by omega)
  rw [c1, c2, c3]
  exact a p hp
theorem LT_bk {P st st' : am_S} {m : Nat} (h : LT P m st) (h0 : st' 2132 = st 2132) (h1 : st' 2133 = st 2133) (h2 : st' 2134 = st 2134) : LT P m st' := by
  obtain ⟨T, a, b⟩ := h
  refine ⟨T, fun p hp => ?_, b⟩
  rw [h0, h1, h2]
  exact a p hp
def cF (b : Nat) : Bool := cV b || b == 262 || b == 263
theorem md_F {s t : am_S} (h : am_md cV s t) : am_md cF s t := by
  intro b hb
  refine h b ?_
  unfold cF at hb
  simp only [Bool.or_eq_false_iff] at hb
  exact hb.1.1
theorem pc_oF {s t P : am_S} (h : PC s P) (hm : am_md cF s t) : PC t P := by
  unfold PC at *
  rw [hm 2129 rfl, hm 67 rfl, hm 68 rfl, hm 69 rfl, hm 70 rfl, hm 71 rfl, hm 72 rfl, hm 66 rfl, hm 128 rfl, hm 129 rfl, hm 130 rfl, hm 131 rfl, hm 323 rfl, hm 322 rfl]
  exact h
theorem lp_FL_cs {st : am_S} {f : Int32 → am_S → Prop} {E : Nat} (hE : E ≤ 200) (c1 : 0 ≤ (st 323 0).toInt) (c2 : (st 323 0).toInt ≤ 8) (h2 : (cs_E st).toInt = (E : Int)) (h : f (nI (sm (fun i => if st 2134 i = -1 then 0 else 1) E)) st) : ∀ d j : Nat, j + d = E → am_AW c_FL_countStates g_FL_countStates (fun o st' => am_ok (some .int) o ∧ am_ki f o st') 4 [some (.inr (.inl 126)), some (.inl (nI (sm (fun i => if st 2134 i = -1 then 0 else 1) j))), some (.inl (nI j))] [] st := by
  intro d
  induction d with
  | zero =>
    intro j k1
    have e : j = E := by omega
    have hn : (nI j).toInt = j := nI_t (by omega)
    rw [← e] at h
    refine r_il2 (q := 5) d_FL_countStates_4 rfl ?_
    refine r_al0 (q := 6) d_FL_countStates_5 rfl ?_
    refine gt_FL_code (q := 9) d_FL_countStates_6 rfl rfl ?_
    refine r_vi0 mo_CO_methodsEnd d_FL_countStates_9 rfl rfl rfl (q := 12) rfl ?_
    refine sp_CO_methodsEnd (by first | assumption | (refine pc_of hP ?_; (repeat (first | assumption | exact md_refl | refine md_up ?_ rfl | refine md_fill ?_ rfl | (unfold ik; refine md_up ?_ rfl))); done) | (refine pc_oS hP ?_; (repeat (first | assumption | exact md_refl | refine md_up ?_ rfl | refine md_fill ?_ rfl | (unfold ik; refine md_up ?_ rfl))); done) | (refine pm_of hP ?_; (repeat (first | assumption | exact md_refl | refine md_up ?_ rfl | refine md_fill ?_ rfl | (unfold ik; refine md_up ?_ rfl))); done) | omega | decide | ((try simp +decide only [b01, b10, b11, am_up, ik, and_true, and_false, true_and, false_and, if_true, if_false, nn_eq] at *) <;> (try simp only [sw_or, sw_all, or_false, and_true, i32_lt, i32_le, i32_eq, i32_addw, i32_subw, i32_mulw, Int32.reduceToInt] at *) <;> omega) | (apply_assumption; done)) (by first | assumption | (refine pc_of hP ?_; (repeat (first | assumption | exact md_refl | refine md_up ?_ rfl | refine md_fill ?_ rfl | (unfold ik; refine md_up ?_ rfl))); done) | (refine pc_oS hP ?_; (repeat (first | assumption | exact md_refl | refine md_up ?_ rfl | refine md_fill ?_ rfl | (unfold ik; refine md_up ?_ rfl))); done) | (refine pm_of hP ?_; (repeat (first | assumption | exact md_refl | refine md_up ?_ rfl | refine md_fill ?_ rfl | (unfold ik; refine md_up ?_ rfl))); done) | omega | decide | ((try simp +decide only [b01, b10, b11, am_up, ik, and_true, and_false, true_and, false_and, if_true, if_false, nn_eq] at *) <;> (try simp only [sw_or, sw_all, or_false, and_true, i32_lt, i32_le, i32_eq, i32_addw, i32_subw, i32_mulw, Int32.reduceToInt] at *) <;> omega) | (apply_assumption; done)) ?_
    refine r_cge (tgt := 34) (q := 15) d_FL_countStates_12 rfl rfl (fun e12 => ?_) (fun e12 => ?_)
    · skip
      refine r_il1 (q := 35) d_FL_countStates_34 rfl ?_
      refine r_ri d_FL_countStates_35 ?_
      exact h
    · skip
      exfalso; clear h; ((try simp +decide only [b01, b10, b11, am_up, ik, and_true, and_false, true_and, false_and, if_true, if_false, nn_eq] at *) <;> (try simp only [sw_or, sw_all, or_false, and_true, i32_lt, i32_le, i32_eq, i32_addw, i32_subw, i32_mulw, Int32.reduceToInt] at *) <;> omega)
  | succ d ih =>
    intro j k1
    have hn : (nI j).toInt = j := nI_t (by omega)
    have ej : (nI j).toNatClampNeg = j := nI_c (by omega)
    have vj : vp_in (nI j) 200 := vp_of (by omega) (by omega)
    have kA := ih (j + 1) (by omega)
    have k1' : st 2134 (nI j).toNatClampNeg = -1 → am_AW c_FL_countStates g_FL_countStates (fun o st' => am_ok (some .int) o ∧ am_ki f o st') 4 [some (.inr (.inl 126)), some (.inl (nI (sm (fun i => if st 2134 i = -1 then 0 else 1) j))), some (.inl (nI j + 1))] [] st := by
      intro e
      rw [ej] at e
      unfold sm at kA
      simp only [if_pos e, Nat.add_zero] at kA
      rw [nI_s]
      exact kA
    have k2' : ¬ st 2134 (nI j).toNatClampNeg = -1 → am_AW c_FL_countStates g_FL_countStates (fun o st' => am_ok (some .int) o ∧ am_ki f o st') 4 [some (.inr (.inl 126)), some (.inl (nI (sm (fun i => if st 2134 i = -1 then 0 else 1) j) + 1)), some (.inl (nI j + 1))] [] st := by
      intro e
      rw [ej] at e
      unfold sm at kA
      simp only [if_neg e] at kA
      rw [nI_s, nI_s]
      exact kA
    clear ih h kA
    refine r_il2 (q := 5) d_FL_countStates_4 rfl ?_
    refine r_al0 (q := 6) d_FL_countStates_5 rfl ?_
    refine gt_FL_code (q := 9) d_FL_countStates_6 rfl rfl ?_
    refine r_vi0 mo_CO_methodsEnd d_FL_countStates_9 rfl rfl rfl (q := 12) rfl ?_
    refine sp_CO_methodsEnd (by first | assumption | (refine pc_of hP ?_; (repeat (first | assumption | exact md_refl | refine md_up ?_ rfl | refine md_fill ?_ rfl | (unfold ik; refine md_up ?_ rfl))); done) | (refine pc_oS hP ?_; (repeat (first | assumption | exact md_refl | refine md_up ?_ rfl | refine md_fill ?_ rfl | (unfold ik; refine md_up ?_ rfl))); done) | (refine pm_of hP ?_; (repeat (first | assumption | exact md_refl | refine md_up ?_ rfl | refine md_fill ?_ rfl | (unfold ik; refine md_up ?_ rfl))); done) | omega | decide | ((try simp +decide only [b01, b10, b11, am_up, ik, and_true, and_false, true_and, false_and, if_true, if_false, nn_eq] at *) <;> (try simp only [sw_or, sw_all, or_false, and_true, i32_lt, i32_le, i32_eq, i32_addw, i32_subw, i32_mulw, Int32.reduceToInt] at *) <;> omega) | (apply_assumption; done)) (by first | assumption | (refine pc_of hP ?_; (repeat (first | assumption | exact md_refl | refine md_up ?_ rfl | refine md_fill ?_ rfl | (unfold ik; refine md_up ?_ rfl))); done) | (refine pc_oS hP ?_; (repeat (first | assumption | exact md_refl | refine md_up ?_ rfl | refine md_fill ?_ rfl | (unfold ik; refine md_up ?_ rfl))); done) | (refine pm_of hP ?_; (repeat (first | assumption | exact md_refl | refine md_up ?_ rfl | refine md_fill ?_ rfl | (unfold ik; refine md_up ?_ rfl))); done) | omega | decide | ((try simp +decide only [b01, b10, b11, am_up, ik, and_true, and_false, true_and, false_and, if_true, if_false, nn_eq] at *) <;> (try simp only [sw_or, sw_all, or_false, and_true, i32_lt, i32_le, i32_eq, i32_addw, i32_subw, i32_mulw, Int32.reduceToInt] at *) <;> omega) | (apply_assumption; done)) ?_
    refine r_cge (tgt := 34) (q := 15) d_FL_countStates_12 rfl rfl (fun e12 => ?_) (fun e12 => ?_)
    · skip
      first | exact k1' e22 | exact k2' e22 | (exfalso; clear k1' k2'; ((try simp +decide only [b01, b10, b11, am_up, ik, and_true, and_false, true_and, false_and, if_true, if_false, nn_eq] at *) <;> (try simp only [sw_or, sw_all, or_false, and_true, i32_lt, i32_le, i32_eq, i32_addw, i32_subw, i32_mulw, Int32.reduceToInt] at *) <;> omega))
    · skip
      refine r_al0 (q := 16) d_FL_countStates_15 rfl ?_
      refine gt_FL_foundHeight (q := 19) d_FL_countStates_16 rfl rfl ?_
      refine r_il2 (q := 20) d_FL_countStates_19 rfl ?_
      refine ld_134 (q := 21) d_FL_countStates_20 ?_ rfl ?_
      · exact vj
      refine r_ic (v := -1) (q := 22) d_FL_countStates_21 rfl rfl ?_
      refine r_ceq (tgt := 28) (q := 25) d_FL_countStates_22 rfl rfl (fun e22 => ?_) (fun e22 => ?_)
      · skip
        refine r_in2 (v := 1) (q := 31) d_FL_countStates_28 rfl rfl ?_
        refine am_go (tgt := 4) d_FL_countStates_31 rfl ?_
        first | exact k1' e22 | exact k2' e22 | (exfalso; clear k1' k2'; ((try simp +decide only [b01, b10, b11, am_up, ik, and_true, and_false, true_and, false_and, if_true, if_false, nn_eq] at *) <;> (try simp only [sw_or, sw_all, or_false, and_true, i32_lt, i32_le, i32_eq, i32_addw, i32_subw, i32_mulw, Int32.reduceToInt] at *) <;> omega))
      · skip
        refine r_in1 (v := 1) (q := 28) d_FL_countStates_25 rfl rfl ?_
        refine r_in2 (v := 1) (q := 31) d_FL_countStates_28 rfl rfl ?_
        refine am_go (tgt := 4) d_FL_countStates_31 rfl ?_
        first | exact k1' e22 | exact k2' e22 | (exfalso; clear k1' k2'; ((try simp +decide only [b01, b10, b11, am_up, ik, and_true, and_false, true_and, false_and, if_true, if_false, nn_eq] at *) <;> (try simp only [sw_or, sw_all, or_false, and_true, i32_lt, i32_le, i32_eq, i32_addw, i32_subw, i32_mulw, Int32.reduceToInt] at *) <;> omega))
theorem sp_FL_countStates {P : am_S} {st : am_S} {f : Int32 → am_S → Prop} (c1 : PC st P) (c2 : VP P) (c3 : VO P) (h : f (nI (sm (fun i => if st 2134 i = -1 then 0 else 1) (EN P))) st) : wp_FL_countStates [.inr (.inl 126)] st (am_ki f) := by
  refine ⟨⟨rfl, Nat.le_of_ble_eq_true rfl⟩, ?_⟩
  have q := c1.2.2.2.2.2.2.1
  have h0 := c2.1
  have e323 : (st 323 0).toInt = (P 12 0).toInt := by rw [q]
  have hE : (cs_E st).toInt = (EN P : Int) ∧ EN P ≤ 200 := by
    unfold cs_E EN
    by_cases e : nM P = 0
    · rw [if_pos e, if_pos]
      · exact ⟨rfl, by omega⟩
      · rw [i32_eq, e323]
        unfold nM at e
        simp only [Int32.reduceToInt]
        omega
    · rw [if_neg e, if_neg]
      · have hm : nM P - 1 < nM P := by omega
        have h3 := c2.2.2 _ hm
        unfold VM at h3
        have ei : (st 323 0 - 1).toNatClampNeg = nM P - 1 := by
          rw [nn_eq, i32_subw, e323]
          unfold nM at e ⊢
          simp only [Int32.reduceToInt]
          omega
        rw [ei, i32_addw, c1.1.2.1, c1.1.2.2.1]
        unfold nb nl
        omega
      · rw [i32_eq, e323]
        unfold nM at e
        simp only [Int32.reduceToInt]
        omega
  refine r_ic (v := 0) (q := 1) d_FL_countStates_0 rfl rfl ?_
  refine r_is1 (q := 2) d_FL_countStates_1 rfl ?_
  refine r_ic (v := 0) (q := 3) d_FL_countStates_2 rfl rfl ?_
  refine r_is2 (q := 4) d_FL_countStates_3 rfl ?_
  exact lp_FL_cs hE.2 (by omega) (by omega) hE.1 h _ 0 (Nat.zero_add _)
theorem lp_FW_vf {P st0 : am_S} {f : Int32 → am_S → Prop} {g : Nat → am_S → Prop} (hP : PC st0 P) (hV : VP P) (hO : VO P) (hF : ∀ s, am_md cF st0 s → s 263 0 = -1 → s 262 0 = 1 → (∀ m, m < nM P → SHP P m ∧ LT P m s) → f (nI (sm (fun i => if s 2134 i = -1 then 0 else 1) (EN P))) s) (hG : ∀ s m, m < nM P → (∀ m', m' < m → SHP P m' ∧ ∃ U, Typ P m' U) → ((¬ SHP P m ∧ s 263 0 = 2 * nI m) ∨ (SHP P m ∧ (∀ U, ¬ Typ P m U) ∧ s 263 0 = 2 * nI m + 1)) → am_md cF st0 s → s 262 0 = st0 262 0 → g 1 s) : ∀ (d : Nat) (x : Int32) (a2 : Option am_V) (st : am_S), 0 ≤ x.toInt → x.toInt + d = (P 12 0).toInt → am_md cF st0 st → st 263 0 = -1 → st 262 0 = st0 262 0 → (∀ m, m < x.toNatClampNeg → SHP P m ∧ LT P m st) → am_AW c_FW_verify g_FW_verify (fun o st' => am_ok (some .int) o ∧ am_kt f g o st') 32 [some (.inr (.inl 123)), some (.inl x), a2] [] st := by
  intro d
  have h0 := hV.1
  induction d with
  | zero =>
    intro x a2 st k0 k1 k2 k3 k4 k5
    have q := pc_oF hP k2
    have e323 : (st 323 0).toInt = (P 12 0).toInt := by rw [q.2.2.2.2.2.2.1]
    have hx : x.toNatClampNeg = nM P := by unfold nM; rw [nn_eq]; omega
    have kQ := hF (am_up st 262 0 1) (md_up k2 rfl) (by rw [am_up_bank (by decide)]; exact k3) am_up_eq (by rw [← hx]; exact fun m hm => ⟨(k5 m hm).1, LT_bk (k5 m hm).2 (am_up_bank (by decide)) (am_up_bank (by decide)) (am_up_bank (by decide))⟩)
    have qP : PC (am_up st 262 0 1) P := pc_oF hP (md_up k2 rfl)
    clear hF hG k2 k5
    refine r_il1 (q := 33) d_FW_verify_32 rfl ?_
    refine r_al0 (q := 34) d_FW_verify_33 rfl ?_
    refine gt_FW_code (q := 37) d_FW_verify_34 rfl rfl ?_
    refine gt_CO_methodCount (q := 40) d_FW_verify_37 rfl rfl ?_
    refine r_cge (tgt := 116) (q := 43) d_FW_verify_40 rfl rfl (fun e40 => ?_) (fun e40 => ?_)
    · skip
      refine r_al0 (q := 117) d_FW_verify_116 rfl ?_
      refine gt_FW_latestFault (q := 120) d_FW_verify_117 rfl rfl ?_
      refine r_ic (v := -1) (q := 121) d_FW_verify_120 rfl rfl ?_
      refine r_ceq (tgt := 132) (q := 124) d_FW_verify_121 rfl rfl (fun e121 => ?_) (fun e121 => ?_)
      · skip
        refine r_al0 (q := 133) d_FW_verify_132 rfl ?_
        refine r_ic (v := 1) (q := 134) d_FW_verify_133 rfl rfl ?_
        refine pt_FW_verified (q := 137) d_FW_verify_134 rfl (by first | exact qP | assumption | (refine pc_of hP ?_; (repeat (first | assumption | exact md_refl | refine md_up ?_ rfl | refine md_fill ?_ rfl | (unfold ik; refine md_up ?_ rfl))); done) | (refine pc_oS hP ?_; (repeat (first | assumption | exact md_refl | refine md_up ?_ rfl | refine md_fill ?_ rfl | (unfold ik; refine md_up ?_ rfl))); done) | (refine pm_of hP ?_; (repeat (first | assumption | exact md_refl | refine md_up ?_ rfl | refine md_fill ?_ rfl | (unfold ik; refine md_up ?_ rfl))); done) | omega | decide | ((try simp +decide only [b01, b10, b11, am_up, ik, and_true, and_false, true_and, false_and, if_true, if_false, nn_eq] at *) <;> (try simp only [sw_or, sw_all, or_false, and_true, i32_lt, i32_le, i32_eq, i32_addw, i32_subw, i32_mulw, Int32.reduceToInt] at *) <;> omega) | (apply_assumption; done)) rfl ?_
        refine r_al0 (q := 138) d_FW_verify_137 rfl ?_
        refine gt_FW_flow (q := 141) d_FW_verify_138 rfl rfl ?_
        refine r_vi0 mo_FL_countStates d_FW_verify_141 rfl rfl rfl (q := 144) rfl ?_
        refine sp_FL_countStates (P := P) (by first | exact qP | assumption | (refine pc_of hP ?_; (repeat (first | assumption | exact md_refl | refine md_up ?_ rfl | refine md_fill ?_ rfl | (unfold ik; refine md_up ?_ rfl))); done) | (refine pc_oS hP ?_; (repeat (first | assumption | exact md_refl | refine md_up ?_ rfl | refine md_fill ?_ rfl | (unfold ik; refine md_up ?_ rfl))); done) | (refine pm_of hP ?_; (repeat (first | assumption | exact md_refl | refine md_up ?_ rfl | refine md_fill ?_ rfl | (unfold ik; refine md_up ?_ rfl))); done) | omega | decide | ((try simp +decide only [b01, b10, b11, am_up, ik, and_true, and_false, true_and, false_and, if_true, if_false, nn_eq] at *) <;> (try simp only [sw_or, sw_all, or_false, and_true, i32_lt, i32_le, i32_eq, i32_addw, i32_subw, i32_mulw, Int32.reduceToInt] at *) <;> omega) | (apply_assumption; done)) (by first | exact qP | assumption | (refine pc_of hP ?_; (repeat (first | assumption | exact md_refl | refine md_up ?_ rfl | refine md_fill ?_ rfl | (unfold ik; refine md_up ?_ rfl))); done) | (refine pc_oS hP ?_; (repeat (first | assumption | exact md_refl | refine md_up ?_ rfl | refine md_fill ?_ rfl | (unfold ik; refine md_up ?_ rfl))); done) | (refine pm_of hP ?_; (repeat (first | assumption | exact md_refl | refine md_up ?_ rfl | refine md_fill ?_ rfl | (unfold ik; refine md_up ?_ rfl))); done) | omega | decide | ((try simp +decide only [b01, b10, b11, am_up, ik, and_true, and_false, true_and, false_and, if_true, if_false, nn_eq] at *) <;> (try simp only [sw_or, sw_all, or_false, and_true, i32_lt, i32_le, i32_eq, i32_addw, i32_subw, i32_mulw, Int32.reduceToInt] at *) <;> omega) | (apply_assumption; done)) (by first | exact qP | assumption | (refine pc_of hP ?_; (repeat (first | assumption | exact md_refl | refine md_up ?_ rfl | refine md_fill ?_ rfl | (unfold ik; refine md_up ?_ rfl))); done) | (refine pc_oS hP ?_; (repeat (first | assumption | exact md_refl | refine md_up ?_ rfl | refine md_fill ?_ rfl | (unfold ik; refine md_up ?_ rfl))); done) | (refine pm_of hP ?_; (repeat (first | assumption | exact md_refl | refine md_up ?_ rfl | refine md_fill ?_ rfl | (unfold ik; refine md_up ?_ rfl))); done) | omega | decide | ((try simp +decide only [b01, b10, b11, am_up, ik, and_true, and_false, true_and, false_and, if_true, if_false, nn_eq] at *) <;> (try simp only [sw_or, sw_all, or_false, and_true, i32_lt, i32_le, i32_eq, i32_addw, i32_subw, i32_mulw, Int32.reduceToInt] at *) <;> omega) | (apply_assumption; done)) ?_
        refine r_ti d_FW_verify_144 ?_
        first | exact kQ | exact absurd k3 e121
      · skip
        refine r_tti d_FW_verify_124 d_FW_verify_127 d_FW_verify_128 d_FW_verify_131 rfl ?_
        first | exact kQ | exact absurd k3 e121
    · skip
      exfalso; clear kQ hP hV hO q qP; ((try simp +decide only [b01, b10, b11, am_up, ik, and_true, and_false, true_and, false_and, if_true, if_false, nn_eq] at *) <;> (try simp only [sw_or, sw_all, or_false, and_true, i32_lt, i32_le, i32_eq, i32_addw, i32_subw, i32_mulw, Int32.reduceToInt] at *) <;> omega)
  | succ d ih =>
    intro x a2 st k0 k1 k2 k3 k4 k5
    have q := pc_oF hP k2
    have e323 : (st 323 0).toInt = (P 12 0).toInt := by rw [q.2.2.2.2.2.2.1]
    have hxm : x.toNatClampNeg < nM P := by unfold nM; rw [nn_eq]; omega
    have vx : vp_in x 8 := vp_of k0 (by omega)
    have hxI : x = nI x.toNatClampNeg := (nI_back k0).symm
    -- a fault ends the loop
    have kBad : ∀ s a2' y, ¬ s 263 0 = -1 → g 1 s → am_AW c_FW_verify g_FW_verify (fun o st' => am_ok (some .int) o ∧ am_kt f g o st') 32 [some (.inr (.inl 123)), some (.inl y), a2'] [] s := by
      intro s a2' y h1 h2
      refine r_il1 (q := 33) d_FW_verify_32 rfl ?_
      refine r_al0 (q := 34) d_FW_verify_33 rfl ?_
      refine gt_FW_code (q := 37) d_FW_verify_34 rfl rfl ?_
      refine gt_CO_methodCount (q := 40) d_FW_verify_37 rfl rfl ?_
      refine r_cge (tgt := 116) (q := 43) d_FW_verify_40 rfl rfl (fun e40 => ?_) (fun e40 => ?_)
      · skip
        refine r_al0 (q := 117) d_FW_verify_116 rfl ?_
        refine gt_FW_latestFault (q := 120) d_FW_verify_117 rfl rfl ?_
        refine r_ic (v := -1) (q := 121) d_FW_verify_120 rfl rfl ?_
        refine r_ceq (tgt := 132) (q := 124) d_FW_verify_121 rfl rfl (fun e121 => ?_) (fun e121 => ?_)
        · skip
          refine r_al0 (q := 133) d_FW_verify_132 rfl ?_
          refine r_ic (v := 1) (q := 134) d_FW_verify_133 rfl rfl ?_
          refine pt_FW_verified (q := 137) d_FW_verify_134 rfl (by first | assumption | (refine pc_of hP ?_; (repeat (first | assumption | exact md_refl | refine md_up ?_ rfl | refine md_fill ?_ rfl | (unfold ik; refine md_up ?_ rfl))); done) | (refine pc_oS hP ?_; (repeat (first | assumption | exact md_refl | refine md_up ?_ rfl | refine md_fill ?_ rfl | (unfold ik; refine md_up ?_ rfl))); done) | (refine pm_of hP ?_; (repeat (first | assumption | exact md_refl | refine md_up ?_ rfl | refine md_fill ?_ rfl | (unfold ik; refine md_up ?_ rfl))); done) | omega | decide | ((try simp +decide only [b01, b10, b11, am_up, ik, and_true, and_false, true_and, false_and, if_true, if_false, nn_eq] at *) <;> (try simp only [sw_or, sw_all, or_false, and_true, i32_lt, i32_le, i32_eq, i32_addw, i32_subw, i32_mulw, Int32.reduceToInt] at *) <;> omega) | (apply_assumption; done)) rfl ?_
          refine r_al0 (q := 138) d_FW_verify_137 rfl ?_
          refine gt_FW_flow (q := 141) d_FW_verify_138 rfl rfl ?_
          refine r_vi0 mo_FL_countStates d_FW_verify_141 rfl rfl rfl (q := 144) rfl ?_
          refine sp_FL_countStates (P := P) (by first | assumption | (refine pc_of hP ?_; (repeat (first | assumption | exact md_refl | refine md_up ?_ rfl | refine md_fill ?_ rfl | (unfold ik; refine md_up ?_ rfl))); done) | (refine pc_oS hP ?_; (repeat (first | assumption | exact md_refl | refine md_up ?_ rfl | refine md_fill ?_ rfl | (unfold ik; refine md_up ?_ rfl))); done) | (refine pm_of hP ?_; (repeat (first | assumption | exact md_refl | refine md_up ?_ rfl | refine md_fill ?_ rfl | (unfold ik; refine md_up ?_ rfl))); done) | omega | decide | ((try simp +decide only [b01, b10, b11, am_up, ik, and_true, and_false, true_and, false_and, if_true, if_false, nn_eq] at *) <;> (try simp only [sw_or, sw_all, or_false, and_true, i32_lt, i32_le, i32_eq, i32_addw, i32_subw, i32_mulw, Int32.reduceToInt] at *) <;> omega) | (apply_assumption; done)) (by first | assumption | (refine pc_of hP ?_; (repeat (first | assumption | exact md_refl | refine md_up ?_ rfl | refine md_fill ?_ rfl | (unfold ik; refine md_up ?_ rfl))); done) | (refine pc_oS hP ?_; (repeat (first | assumption | exact md_refl | refine md_up ?_ rfl | refine md_fill ?_ rfl | (unfold ik; refine md_up ?_ rfl))); done) | (refine pm_of hP ?_; (repeat (first | assumption | exact md_refl | refine md_up ?_ rfl | refine md_fill ?_ rfl | (unfold ik; refine md_up ?_ rfl))); done) | omega | decide | ((try simp +decide only [b01, b10, b11, am_up, ik, and_true, and_false, true_and, false_and, if_true, if_false, nn_eq] at *) <;> (try simp only [sw_or, sw_all, or_false, and_true, i32_lt, i32_le, i32_eq, i32_addw, i32_subw, i32_mulw, Int32.reduceToInt] at *) <;> omega) | (apply_assumption; done)) (by first | assumption | (refine pc_of hP ?_; (repeat (first | assumption | exact md_refl | refine md_up ?_ rfl | refine md_fill ?_ rfl | (unfold ik; refine md_up ?_ rfl))); done) | (refine pc_oS hP ?_; (repeat (first | assumption | exact md_refl | refine md_up ?_ rfl | refine md_fill ?_ rfl | (unfold ik; refine md_up ?_ rfl))); done) | (refine pm_of hP ?_; (repeat (first | assumption | exact md_refl | refine md_up ?_ rfl | refine md_fill ?_ rfl | (unfold ik; refine md_up ?_ rfl))); done) | omega | decide | ((try simp +decide only [b01, b10, b11, am_up, ik, and_true, and_false, true_and, false_and, if_true, if_false, nn_eq] at *) <;> (try simp only [sw_or, sw_all, or_false, and_true, i32_lt, i32_le, i32_eq, i32_addw, i32_subw, i32_mulw, Int32.reduceToInt] at *) <;> omega) | (apply_assumption; done)) ?_
          refine r_ti d_FW_verify_144 ?_
          first | exact h2 | exact absurd e121 h1
        · skip
          refine r_tti d_FW_verify_124 d_FW_verify_127 d_FW_verify_128 d_FW_verify_131 rfl ?_
          first | exact h2 | exact absurd e121 h1
      · skip
        refine r_al0 (q := 44) d_FW_verify_43 rfl ?_
        refine gt_FW_latestFault (q := 47) d_FW_verify_44 rfl rfl ?_
        refine r_ic (v := -1) (q := 48) d_FW_verify_47 rfl rfl ?_
        refine r_cne (tgt := 116) (q := 51) d_FW_verify_48 rfl rfl (fun e48 => ?_) (fun e48 => ?_)
        · skip
          refine r_al0 (q := 117) d_FW_verify_116 rfl ?_
          refine gt_FW_latestFault (q := 120) d_FW_verify_117 rfl rfl ?_
          refine r_ic (v := -1) (q := 121) d_FW_verify_120 rfl rfl ?_
          refine r_ceq (tgt := 132) (q := 124) d_FW_verify_121 rfl rfl (fun e121 => ?_) (fun e121 => ?_)
          · skip
            refine r_al0 (q := 133) d_FW_verify_132 rfl ?_
            refine r_ic (v := 1) (q := 134) d_FW_verify_133 rfl rfl ?_
            refine pt_FW_verified (q := 137) d_FW_verify_134 rfl (by first | assumption | (refine pc_of hP ?_; (repeat (first | assumption | exact md_refl | refine md_up ?_ rfl | refine md_fill ?_ rfl | (unfold ik; refine md_up ?_ rfl))); done) | (refine pc_oS hP ?_; (repeat (first | assumption | exact md_refl | refine md_up ?_ rfl | refine md_fill ?_ rfl | (unfold ik; refine md_up ?_ rfl))); done) | (refine pm_of hP ?_; (repeat (first | assumption | exact md_refl | refine md_up ?_ rfl | refine md_fill ?_ rfl | (unfold ik; refine md_up ?_ rfl))); done) | omega | decide | ((try simp +decide only [b01, b10, b11, am_up, ik, and_true, and_false, true_and, false_and, if_true, if_false, nn_eq] at *) <;> (try simp only [sw_or, sw_all, or_false, and_true, i32_lt, i32_le, i32_eq, i32_addw, i32_subw, i32_mulw, Int32.reduceToInt] at *) <;> omega) | (apply_assumption; done)) rfl ?_
            refine r_al0 (q := 138) d_FW_verify_137 rfl ?_
            refine gt_FW_flow (q := 141) d_FW_verify_138 rfl rfl ?_
            refine r_vi0 mo_FL_countStates d_FW_verify_141 rfl rfl rfl (q := 144) rfl ?_
            refine sp_FL_countStates (P := P) (by first | assumption | (refine pc_of hP ?_; (repeat (first | assumption | exact md_refl | refine md_up ?_ rfl | refine md_fill ?_ rfl | (unfold ik; refine md_up ?_ rfl))); done) | (refine pc_oS hP ?_; (repeat (first | assumption | exact md_refl | refine md_up ?_ rfl | refine md_fill ?_ rfl | (unfold ik; refine md_up ?_ rfl))); done) | (refine pm_of hP ?_; (repeat (first | assumption | exact md_refl | refine md_up ?_ rfl | refine md_fill ?_ rfl | (unfold ik; refine md_up ?_ rfl))); done) | omega | decide | ((try simp +decide only [b01, b10, b11, am_up, ik, and_true, and_false, true_and, false_and, if_true, if_false, nn_eq] at *) <;> (try simp only [sw_or, sw_all, or_false, and_true, i32_lt, i32_le, i32_eq, i32_addw, i32_subw, i32_mulw, Int32.reduceToInt] at *) <;> omega) | (apply_assumption; done)) (by first | assumption | (refine pc_of hP ?_; (repeat (first | assumption | exact md_refl | refine md_up ?_ rfl | refine md_fill ?_ rfl | (unfold ik; refine md_up ?_ rfl))); done) | (refine pc_oS hP ?_; (repeat (first | assumption | exact md_refl | refine md_up ?_ rfl | refine md_fill ?_ rfl | (unfold ik; refine md_up ?_ rfl))); done) | (refine pm_of hP ?_; (repeat (first | assumption | exact md_refl | refine md_up ?_ rfl | refine md_fill ?_ rfl | (unfold ik; refine md_up ?_ rfl))); done) | omega | decide | ((try simp +decide only [b01, b10, b11, am_up, ik, and_true, and_false, true_and, false_and, if_true, if_false, nn_eq] at *) <;> (try simp only [sw_or, sw_all, or_false, and_true, i32_lt, i32_le, i32_eq, i32_addw, i32_subw, i32_mulw, Int32.reduceToInt] at *) <;> omega) | (apply_assumption; done)) (by first | assumption | (refine pc_of hP ?_; (repeat (first | assumption | exact md_refl | refine md_up ?_ rfl | refine md_fill ?_ rfl | (unfold ik; refine md_up ?_ rfl))); done) | (refine pc_oS hP ?_; (repeat (first | assumption | exact md_refl | refine md_up ?_ rfl | refine md_fill ?_ rfl | (unfold ik; refine md_up ?_ rfl))); done) | (refine pm_of hP ?_; (repeat (first | assumption | exact md_refl | refine md_up ?_ rfl | refine md_fill ?_ rfl | (unfold ik; refine md_up ?_ rfl))); done) | omega | decide | ((try simp +decide only [b01, b10, b11, am_up, ik, and_true, and_false, true_and, false_and, if_true, if_false, nn_eq] at *) <;> (try simp only [sw_or, sw_all, or_false, and_true, i32_lt, i32_le, i32_eq, i32_addw, i32_subw, i32_mulw, Int32.reduceToInt] at *) <;> omega) | (apply_assumption; done)) ?_
            refine r_ti d_FW_verify_144 ?_
            first | exact h2 | exact absurd e121 h1
          · skip
            refine r_tti d_FW_verify_124 d_FW_verify_127 d_FW_verify_128 d_FW_verify_131 rfl ?_
            first | exact h2 | exact absurd e121 h1
        · skip
          exact absurd e48 h1
    have kGood : ∀ s a2', am_md cV st s → oS (nb P x.toNatClampNeg) (nl P x.toNatClampNeg) st s → SHP P x.toNatClampNeg → LT P x.toNatClampNeg s → am_AW c_FW_verify g_FW_verify (fun o st' => am_ok (some .int) o ∧ am_kt f g o st') 32 [some (.inr (.inl 123)), some (.inl (x + 1)), a2'] [] s := by
      intro s a2' s1 s2 s3 s4
      have ex : (x + 1).toInt = x.toInt + 1 := by
        rw [i32_addw]
        simp only [Int32.reduceToInt]
        omega
      refine ih _ a2' s (by omega) (by omega) (md_trans k2 (md_F s1)) (by rw [s1 263 rfl]; exact k3) (by rw [s1 262 rfl]; exact k4) ?_
      intro m hm
      have : m < x.toNatClampNeg + 1 := by
        rw [nn_eq] at *
        omega
      by_cases e : m = x.toNatClampNeg
      · rw [e]
        exact ⟨s3, s4⟩
      · exact ⟨(k5 m (by omega)).1, LT_oS (k5 m (by omega)).2 s2 (VO_lt hO (by omega) hxm)⟩
    have hpre : ∀ m', m' < x.toNatClampNeg → SHP P m' ∧ ∃ U, Typ P m' U := fun m' hm' => ⟨(k5 m' hm').1, by obtain ⟨T, -, t, -⟩ := (k5 m' hm').2; exact ⟨T, t⟩⟩
    have hx2 : ∀ c : Int32, c = 0 ∨ c = 1 → ¬ 2 * x + c = -1 := by
      intro c hc
      have hc2 : 0 ≤ c.toInt ∧ c.toInt ≤ 1 := by
        rcases hc with h | h <;> rw [h] <;> decide
      rw [i32_eq, i32_addw, i32_mulw]
      simp only [Int32.reduceToInt]
      omega
    have kS0 : ∀ s a2', am_md cV st s → ¬ SHP P x.toNatClampNeg → am_AW c_FW_verify g_FW_verify (fun o st' => am_ok (some .int) o ∧ am_kt f g o st') 32 [some (.inr (.inl 123)), some (.inl (x + 1)), a2'] [] (am_up s 263 0 (2 * x)) := by
      intro s a2' s1 s2
      refine kBad _ a2' _ ?_ (hG _ x.toNatClampNeg hxm hpre (Or.inl ⟨s2, by rw [am_up_eq, ← hxI]⟩) (md_up (md_trans k2 (md_F s1)) rfl) (by rw [am_up_bank (by decide), s1 262 rfl]; exact k4))
      rw [am_up_eq]
      have := hx2 0 (Or.inl rfl)
      rw [Int32.add_zero] at this
      exact this
    have kS1 : ∀ s a2', am_md cV st s → SHP P x.toNatClampNeg → (∀ U, ¬ Typ P x.toNatClampNeg U) → am_AW c_FW_verify g_FW_verify (fun o st' => am_ok (some .int) o ∧ am_kt f g o st') 32 [some (.inr (.inl 123)), some (.inl (x + 1)), a2'] [] (am_up s 263 0 (2 * x + 1)) := by
      intro s a2' s1 s2 s3
      refine kBad _ a2' _ ?_ (hG _ x.toNatClampNeg hxm hpre (Or.inr ⟨s2, s3, by rw [am_up_eq, ← hxI]⟩) (md_up (md_trans k2 (md_F s1)) rfl) (by rw [am_up_bank (by decide), s1 262 rfl]; exact k4))
      rw [am_up_eq]
      exact hx2 1 (Or.inr rfl)
    have k68 : ∀ r s, shQ P st x.toNatClampNeg r s → am_AW c_FW_verify g_FW_verify (fun o st' => am_ok (some .int) o ∧ am_kt f g o st') 68 [some (.inr (.inl 123)), some (.inl x), some (.inl r)] [] s := by
      intro r s hs
      obtain ⟨s1, s2⟩ := hs
      have s3 := md_cS s1
      have qs : PC s P := pc_of q s3
      have so : oS (nb P x.toNatClampNeg) (nl P x.toNatClampNeg) st s := fun i _ => by rw [s1 2132 rfl, s1 2133 rfl, s1 2134 rfl]; exact ⟨rfl, rfl, rfl⟩
      rcases s2 with ⟨e, s2⟩ | ⟨e, s2⟩
      · subst e
        have kT : ∀ r2 s2', hfQ P x.toNatClampNeg s r2 s2' → ¬ r2 = 0 → am_AW c_FW_verify g_FW_verify (fun o st' => am_ok (some .int) o ∧ am_kt f g o st') 32 [some (.inr (.inl 123)), some (.inl (x + 1)), some (.inl 1)] [] s2' := by
          intro r2 s2' h hr
          obtain ⟨z1, z2, z3⟩ := h
          rcases z3 with ⟨-, z3, z4, z5⟩ | ⟨z3, -⟩
          · exact kGood s2' _ (md_trans s3 z1) (oS_trans so z2) s2 ⟨cT s2' (nb P x.toNatClampNeg), fun p hp => ⟨rfl, rfl, rfl⟩, z3, z4, z5⟩
          · exact absurd z3 hr
        have kN : ∀ r2 s2', hfQ P x.toNatClampNeg s r2 s2' → r2 = 0 → am_AW c_FW_verify g_FW_verify (fun o st' => am_ok (some .int) o ∧ am_kt f g o st') 32 [some (.inr (.inl 123)), some (.inl (x + 1)), some (.inl 1)] [] (am_up s2' 263 0 (2 * x + 1)) := by
          intro r2 s2' h hr
          obtain ⟨z1, z2, z3⟩ := h
          rcases z3 with ⟨z3, -⟩ | ⟨-, z3⟩
          · exact absurd (z3.symm.trans hr) (by decide)
          · exact kS1 s2' _ (md_trans s3 z1) s2 z3
        clear ih kS0 kS1 kGood kBad hF hG k5 hpre
        refine r_il2 (q := 69) d_FW_verify_68 rfl ?_
        refine r_zeq (tgt := 91) (q := 72) d_FW_verify_69 rfl rfl (fun e69 => by exfalso; revert e69; decide) (fun e69 => ?_)
        refine r_al0 (q := 73) d_FW_verify_72 rfl ?_
        refine gt_FW_flow (q := 76) d_FW_verify_73 rfl rfl ?_
        refine r_al0 (q := 77) d_FW_verify_76 rfl ?_
        refine gt_FW_code (q := 80) d_FW_verify_77 rfl rfl ?_
        refine gt_CO_methods (q := 83) d_FW_verify_80 rfl rfl ?_
        refine r_il1 (q := 84) d_FW_verify_83 rfl ?_
        refine ld_130 (q := 85) d_FW_verify_84 ?_ rfl ?_
        · exact vx
        refine r_vi1 mo_FL_holdsFor d_FW_verify_85 rfl rfl rfl (q := 88) rfl ?_
        refine sp_FL_holdsFor (P := P) (by first | exact qs | exact s2 | assumption | (refine pc_of hP ?_; (repeat (first | assumption | exact md_refl | refine md_up ?_ rfl | refine md_fill ?_ rfl | (unfold ik; refine md_up ?_ rfl))); done) | (refine pc_oS hP ?_; (repeat (first | assumption | exact md_refl | refine md_up ?_ rfl | refine md_fill ?_ rfl | (unfold ik; refine md_up ?_ rfl))); done) | (refine pm_of hP ?_; (repeat (first | assumption | exact md_refl | refine md_up ?_ rfl | refine md_fill ?_ rfl | (unfold ik; refine md_up ?_ rfl))); done) | omega | decide | ((try simp +decide only [b01, b10, b11, am_up, ik, and_true, and_false, true_and, false_and, if_true, if_false, nn_eq] at *) <;> (try simp only [sw_or, sw_all, or_false, and_true, i32_lt, i32_le, i32_eq, i32_addw, i32_subw, i32_mulw, Int32.reduceToInt] at *) <;> omega) | (apply_assumption; done)) (by first | exact qs | exact s2 | assumption | (refine pc_of hP ?_; (repeat (first | assumption | exact md_refl | refine md_up ?_ rfl | refine md_fill ?_ rfl | (unfold ik; refine md_up ?_ rfl))); done) | (refine pc_oS hP ?_; (repeat (first | assumption | exact md_refl | refine md_up ?_ rfl | refine md_fill ?_ rfl | (unfold ik; refine md_up ?_ rfl))); done) | (refine pm_of hP ?_; (repeat (first | assumption | exact md_refl | refine md_up ?_ rfl | refine md_fill ?_ rfl | (unfold ik; refine md_up ?_ rfl))); done) | omega | decide | ((try simp +decide only [b01, b10, b11, am_up, ik, and_true, and_false, true_and, false_and, if_true, if_false, nn_eq] at *) <;> (try simp only [sw_or, sw_all, or_false, and_true, i32_lt, i32_le, i32_eq, i32_addw, i32_subw, i32_mulw, Int32.reduceToInt] at *) <;> omega) | (apply_assumption; done)) (by first | exact qs | exact s2 | assumption | (refine pc_of hP ?_; (repeat (first | assumption | exact md_refl | refine md_up ?_ rfl | refine md_fill ?_ rfl | (unfold ik; refine md_up ?_ rfl))); done) | (refine pc_oS hP ?_; (repeat (first | assumption | exact md_refl | refine md_up ?_ rfl | refine md_fill ?_ rfl | (unfold ik; refine md_up ?_ rfl))); done) | (refine pm_of hP ?_; (repeat (first | assumption | exact md_refl | refine md_up ?_ rfl | refine md_fill ?_ rfl | (unfold ik; refine md_up ?_ rfl))); done) | omega | decide | ((try simp +decide only [b01, b10, b11, am_up, ik, and_true, and_false, true_and, false_and, if_true, if_false, nn_eq] at *) <;> (try simp only [sw_or, sw_all, or_false, and_true, i32_lt, i32_le, i32_eq, i32_addw, i32_subw, i32_mulw, Int32.reduceToInt] at *) <;> omega) | (apply_assumption; done)) (by first | exact qs | exact s2 | assumption | (refine pc_of hP ?_; (repeat (first | assumption | exact md_refl | refine md_up ?_ rfl | refine md_fill ?_ rfl | (unfold ik; refine md_up ?_ rfl))); done) | (refine pc_oS hP ?_; (repeat (first | assumption | exact md_refl | refine md_up ?_ rfl | refine md_fill ?_ rfl | (unfold ik; refine md_up ?_ rfl))); done) | (refine pm_of hP ?_; (repeat (first | assumption | exact md_refl | refine md_up ?_ rfl | refine md_fill ?_ rfl | (unfold ik; refine md_up ?_ rfl))); done) | omega | decide | ((try simp +decide only [b01, b10, b11, am_up, ik, and_true, and_false, true_and, false_and, if_true, if_false, nn_eq] at *) <;> (try simp only [sw_or, sw_all, or_false, and_true, i32_lt, i32_le, i32_eq, i32_addw, i32_subw, i32_mulw, Int32.reduceToInt] at *) <;> omega) | (apply_assumption; done)) (fun e85 => ?_)
        · skip
          refine r_zne (tgt := 110) (q := 91) d_FW_verify_88 rfl rfl (fun e88 => ?_) (fun e88 => ?_)
          · skip
            refine r_in1 (v := 1) (q := 113) d_FW_verify_110 rfl rfl ?_
            refine am_go (tgt := 32) d_FW_verify_113 rfl ?_
            first | exact kT _ _ e85.2 e88 | exact kN _ _ e85.2 e88
          · skip
            refine r_al0 (q := 92) d_FW_verify_91 rfl ?_
            refine r_il2 (q := 93) d_FW_verify_92 rfl ?_
            refine r_zeq (tgt := 104) (q := 96) d_FW_verify_93 rfl rfl (fun e93 => by exfalso; revert e93; decide) (fun e93 => ?_)
            refine r_ic (v := 2) (q := 97) d_FW_verify_96 rfl rfl ?_
            refine r_il1 (q := 98) d_FW_verify_97 rfl ?_
            refine r_imul (q := 99) d_FW_verify_98 rfl ?_
            refine r_ic (v := 1) (q := 100) d_FW_verify_99 rfl rfl ?_
            refine r_iadd (q := 101) d_FW_verify_100 rfl ?_
            refine am_go (tgt := 107) d_FW_verify_101 rfl ?_
            refine pt_FW_latestFault (q := 110) d_FW_verify_107 rfl rfl ?_
            refine r_in1 (v := 1) (q := 113) d_FW_verify_110 rfl rfl ?_
            refine am_go (tgt := 32) d_FW_verify_113 rfl ?_
            first | exact kT _ _ e85.2 e88 | exact kN _ _ e85.2 e88
      · subst e
        have kN := kS0 s (some (.inl 0)) s3 s2
        clear ih kS0 kS1 kGood kBad hF hG k5 hpre
        refine r_il2 (q := 69) d_FW_verify_68 rfl ?_
        refine r_zeq (tgt := 91) (q := 72) d_FW_verify_69 rfl rfl (fun e69 => ?_) (fun e69 => by exfalso; revert e69; decide)
        refine r_al0 (q := 92) d_FW_verify_91 rfl ?_
        refine r_il2 (q := 93) d_FW_verify_92 rfl ?_
        refine r_zeq (tgt := 104) (q := 96) d_FW_verify_93 rfl rfl (fun e93 => ?_) (fun e93 => by exfalso; revert e93; decide)
        refine r_ic (v := 2) (q := 105) d_FW_verify_104 rfl rfl ?_
        refine r_il1 (q := 106) d_FW_verify_105 rfl ?_
        refine r_imul (q := 107) d_FW_verify_106 rfl ?_
        refine pt_FW_latestFault (q := 110) d_FW_verify_107 rfl rfl ?_
        refine r_in1 (v := 1) (q := 113) d_FW_verify_110 rfl rfl ?_
        refine am_go (tgt := 32) d_FW_verify_113 rfl ?_
        exact kN
    clear ih kS0 kS1 kGood kBad hF hG k5 hpre
    refine r_il1 (q := 33) d_FW_verify_32 rfl ?_
    refine r_al0 (q := 34) d_FW_verify_33 rfl ?_
    refine gt_FW_code (q := 37) d_FW_verify_34 rfl rfl ?_
    refine gt_CO_methodCount (q := 40) d_FW_verify_37 rfl rfl ?_
    refine r_cge (tgt := 116) (q := 43) d_FW_verify_40 rfl rfl (fun e40 => ?_) (fun e40 => ?_)
    · skip
      first | exact k68 _ _ e64.2 | exact absurd k3 e48 | (exfalso; clear k68 hP hV hO q k2; ((try simp +decide only [b01, b10, b11, am_up, ik, and_true, and_false, true_and, false_and, if_true, if_false, nn_eq] at *) <;> (try simp only [sw_or, sw_all, or_false, and_true, i32_lt, i32_le, i32_eq, i32_addw, i32_subw, i32_mulw, Int32.reduceToInt] at *) <;> omega))
    · skip
      refine r_al0 (q := 44) d_FW_verify_43 rfl ?_
      refine gt_FW_latestFault (q := 47) d_FW_verify_44 rfl rfl ?_
      refine r_ic (v := -1) (q := 48) d_FW_verify_47 rfl rfl ?_
      refine r_cne (tgt := 116) (q := 51) d_FW_verify_48 rfl rfl (fun e48 => ?_) (fun e48 => ?_)
      · skip
        first | exact k68 _ _ e64.2 | exact absurd k3 e48 | (exfalso; clear k68 hP hV hO q k2; ((try simp +decide only [b01, b10, b11, am_up, ik, and_true, and_false, true_and, false_and, if_true, if_false, nn_eq] at *) <;> (try simp only [sw_or, sw_all, or_false, and_true, i32_lt, i32_le, i32_eq, i32_addw, i32_subw, i32_mulw, Int32.reduceToInt] at *) <;> omega))
      · skip
        refine r_al0 (q := 52) d_FW_verify_51 rfl ?_
        refine gt_FW_shape (q := 55) d_FW_verify_52 rfl rfl ?_
        refine r_al0 (q := 56) d_FW_verify_55 rfl ?_
        refine gt_FW_code (q := 59) d_FW_verify_56 rfl rfl ?_
        refine gt_CO_methods (q := 62) d_FW_verify_59 rfl rfl ?_
        refine r_il1 (q := 63) d_FW_verify_62 rfl ?_
        refine ld_130 (q := 64) d_FW_verify_63 ?_ rfl ?_
        · exact vx
        refine r_vi1 mo_SH_holdsFor d_FW_verify_64 rfl rfl rfl (q := 67) rfl ?_
        refine sp_SH_holdsFor (P := P) (by first | exact q | assumption | (refine pc_of hP ?_; (repeat (first | assumption | exact md_refl | refine md_up ?_ rfl | refine md_fill ?_ rfl | (unfold ik; refine md_up ?_ rfl))); done) | (refine pc_oS hP ?_; (repeat (first | assumption | exact md_refl | refine md_up ?_ rfl | refine md_fill ?_ rfl | (unfold ik; refine md_up ?_ rfl))); done) | (refine pm_of hP ?_; (repeat (first | assumption | exact md_refl | refine md_up ?_ rfl | refine md_fill ?_ rfl | (unfold ik; refine md_up ?_ rfl))); done) | omega | decide | ((try simp +decide only [b01, b10, b11, am_up, ik, and_true, and_false, true_and, false_and, if_true, if_false, nn_eq] at *) <;> (try simp only [sw_or, sw_all, or_false, and_true, i32_lt, i32_le, i32_eq, i32_addw, i32_subw, i32_mulw, Int32.reduceToInt] at *) <;> omega) | (apply_assumption; done)) (by first | exact q | assumption | (refine pc_of hP ?_; (repeat (first | assumption | exact md_refl | refine md_up ?_ rfl | refine md_fill ?_ rfl | (unfold ik; refine md_up ?_ rfl))); done) | (refine pc_oS hP ?_; (repeat (first | assumption | exact md_refl | refine md_up ?_ rfl | refine md_fill ?_ rfl | (unfold ik; refine md_up ?_ rfl))); done) | (refine pm_of hP ?_; (repeat (first | assumption | exact md_refl | refine md_up ?_ rfl | refine md_fill ?_ rfl | (unfold ik; refine md_up ?_ rfl))); done) | omega | decide | ((try simp +decide only [b01, b10, b11, am_up, ik, and_true, and_false, true_and, false_and, if_true, if_false, nn_eq] at *) <;> (try simp only [sw_or, sw_all, or_false, and_true, i32_lt, i32_le, i32_eq, i32_addw, i32_subw, i32_mulw, Int32.reduceToInt] at *) <;> omega) | (apply_assumption; done)) (by first | exact q | assumption | (refine pc_of hP ?_; (repeat (first | assumption | exact md_refl | refine md_up ?_ rfl | refine md_fill ?_ rfl | (unfold ik; refine md_up ?_ rfl))); done) | (refine pc_oS hP ?_; (repeat (first | assumption | exact md_refl | refine md_up ?_ rfl | refine md_fill ?_ rfl | (unfold ik; refine md_up ?_ rfl))); done) | (refine pm_of hP ?_; (repeat (first | assumption | exact md_refl | refine md_up ?_ rfl | refine md_fill ?_ rfl | (unfold ik; refine md_up ?_ rfl))); done) | omega | decide | ((try simp +decide only [b01, b10, b11, am_up, ik, and_true, and_false, true_and, false_and, if_true, if_false, nn_eq] at *) <;> (try simp only [sw_or, sw_all, or_false, and_true, i32_lt, i32_le, i32_eq, i32_addw, i32_subw, i32_mulw, Int32.reduceToInt] at *) <;> omega) | (apply_assumption; done)) (fun e64 => ?_)
        · skip
          refine r_is2 (q := 68) d_FW_verify_67 rfl ?_
          first | exact k68 _ _ e64.2 | exact absurd k3 e48 | (exfalso; clear k68 hP hV hO q k2; ((try simp +decide only [b01, b10, b11, am_up, ik, and_true, and_false, true_and, false_and, if_true, if_false, nn_eq] at *) <;> (try simp only [sw_or, sw_all, or_false, and_true, i32_lt, i32_le, i32_eq, i32_addw, i32_subw, i32_mulw, Int32.reduceToInt] at *) <;> omega))
theorem sp_FW_verify {P : am_S} {st : am_S} {f : Int32 → am_S → Prop} {g : Nat → am_S → Prop} (c1 : PC st P) (c2 : VP P) (c3 : VO P) (h1 : ¬ st 262 0 = 0 ∨ st 323 0 = 0 → g 2 st) (h2 : st 262 0 = 0 → ¬ st 323 0 = 0 → (∀ s, am_md cF st s → s 263 0 = -1 → s 262 0 = 1 → (∀ m, m < nM P → SHP P m ∧ LT P m s) → f (nI (sm (fun i => if s 2134 i = -1 then 0 else 1) (EN P))) s) ∧ (∀ s m, m < nM P → (∀ m', m' < m → SHP P m' ∧ ∃ U, Typ P m' U) → ((¬ SHP P m ∧ s 263 0 = 2 * nI m) ∨ (SHP P m ∧ (∀ U, ¬ Typ P m U) ∧ s 263 0 = 2 * nI m + 1)) → am_md cF st s → s 262 0 = st 262 0 → g 1 s)) : wp_FW_verify [.inr (.inl 123)] st (am_kt f g) := by
  refine ⟨⟨rfl, Nat.le_of_ble_eq_true rfl⟩, ?_⟩
  have kL : st 262 0 = 0 → ¬ st 323 0 = 0 → am_AW c_FW_verify g_FW_verify (fun o st' => am_ok (some .int) o ∧ am_kt f g o st') 32 [some (.inr (.inl 123)), some (.inl 0), none] [] (am_up st 263 0 (-1)) := by
    intro a1 a2
    obtain ⟨b1, b2⟩ := h2 a1 a2
    have h0 := c2.1
    refine lp_FW_vf c1 c2 c3 b1 b2 (P 12 0).toInt.toNat 0 none _ (by decide) (by simp only [Int32.reduceToInt]; omega) (md_up md_refl rfl) am_up_eq (by rw [am_up_bank (by decide)]) (fun m hm => absurd hm (by simp [nn_eq]))
  refine r_al0 (q := 1) d_FW_verify_0 rfl ?_
  refine gt_FW_verified (q := 4) d_FW_verify_1 rfl rfl ?_
  refine r_zne (tgt := 17) (q := 7) d_FW_verify_4 rfl rfl (fun e4 => ?_) (fun e4 => ?_)
  · skip
    refine r_tti d_FW_verify_17 d_FW_verify_20 d_FW_verify_21 d_FW_verify_24 rfl ?_
    first | exact h1 (Or.inl e4) | exact h1 (Or.inr e14)
  · skip
    refine r_al0 (q := 8) d_FW_verify_7 rfl ?_
    refine gt_FW_code (q := 11) d_FW_verify_8 rfl rfl ?_
    refine gt_CO_methodCount (q := 14) d_FW_verify_11 rfl rfl ?_
    refine r_zne (tgt := 25) (q := 17) d_FW_verify_14 rfl rfl (fun e14 => ?_) (fun e14 => ?_)
    · skip
      refine r_al0 (q := 26) d_FW_verify_25 rfl ?_
      refine r_ic (v := -1) (q := 27) d_FW_verify_26 rfl rfl ?_
      refine pt_FW_latestFault (q := 30) d_FW_verify_27 rfl rfl ?_
      refine r_ic (v := 0) (q := 31) d_FW_verify_30 rfl rfl ?_
      refine r_is1 (q := 32) d_FW_verify_31 rfl ?_
      exact kL e4 e14
    · skip
      refine r_tti d_FW_verify_17 d_FW_verify_20 d_FW_verify_21 d_FW_verify_24 rfl ?_
      first | exact h1 (Or.inl e4) | exact h1 (Or.inr e14)

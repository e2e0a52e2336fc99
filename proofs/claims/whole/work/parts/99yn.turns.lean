/-! Turns of both sides: start, run, type. -/
theorem mR_c {b : Nat} (h : mR b = true) : cRI b = false ∧ ¬ b = 261 ∧ ¬ b = 2167 ∧ ¬ b = 576 ∧ ¬ b = 601 := by
  unfold mR at h
  simp only [Bool.or_eq_true, Bool.and_eq_true, beq_iff_eq, decide_eq_true_eq] at h
  refine ⟨?_, by omega, by omega, by omega, by omega⟩
  cases e : cRI b with
  | false => rfl
  | true =>
    unfold cRI cR at e
    simp only [Bool.or_eq_true, Bool.and_eq_true, beq_iff_eq, decide_eq_true_eq] at e
    omega
theorem cRI_c {b : Nat} (h : cRI b = false) : cR b = false := by
  unfold cRI at h
  exact (Bool.or_eq_false_iff.mp h).1
theorem PM_md {P s t : am_S} (h : ∀ b ∈ iaL, t b = s b) (w : PM s P) : PM t P := by
  unfold PM at *
  rw [h 2142 (by decide), h 2143 (by decide), h 2144 (by decide), h 2145 (by decide), h 2146 (by decide), h 2147 (by decide), h 2148 (by decide), h 2149 (by decide), h 2150 (by decide), h 2151 (by decide), h 2152 (by decide), h 2153 (by decide), h 579 (by decide), h 577 (by decide)]
  exact w
theorem beg_603 {P A : am_S} {m : Nat} {G : Nat → Int32} : o_beg P A m G 603 0 = 1 := by
  unfold o_beg
  rw [giv_o (by decide), open_o (by decide)]
  rfl
theorem d_ia : ∀ b ∈ iaL, cRI b = false ∧ mR b = false ∧ ¬ b = 261 ∧ ¬ b = 2167 ∧ ¬ b = 576 ∧ ¬ b = 601 := by decide
theorem d_it : ∀ b ∈ itL, cRI b = false ∧ mR b = false ∧ ¬ b = 261 ∧ ¬ b = 2167 ∧ ¬ b = 576 ∧ ¬ b = 601 := by decide
theorem d_rc : ∀ b ∈ rcL, mR b = false ∧ ¬ b = 261 ∧ ¬ b = 2167 ∧ ¬ b = 576 ∧ ¬ b = 601 := by decide
theorem tn_7 {j j' : Nat} {x : Int32} {st : am_S} {Q : am_S → Prop} (w : pu_INV j st) (hQ : ∀ s, pu_INV j' s → Q s) : wp_FW_start [.inr (.inl 123), .inl x] st (am_kt (fun v st1 => (v = 0 ∨ v = 1) ∧ wp_MO_start [.inr (.inl 128), .inl x] (am_up st1 2167 0 v) (am_ki (fun b9 st2 => st2 576 0 = 0 ∧ ((b9 = 0 ∨ b9 = 1) ∧ st2 2167 0 = b9) ∧ Q st2))) (fun n st1 => (n = 1 ∨ n = 2) ∧ wp_MO_start [.inr (.inl 128), .inl x] st1 (am_ki (fun _ st2 => st2 576 0 = (if n = 1 then 1 else 2) ∧ Q st2)))) := by
  have w0 := w
  obtain ⟨⟨wA, wG⟩, T, wT, A, D, ⟨wC, wM⟩, wX⟩ := w
  have hPM := wA.1.1
  have hVP := wA.1.2.1
  have g1 : st 601 0 = st 261 0 := wG.2.2.1
  have g2 : st 591 0 = st 262 0 := wG.1.1
  have g3 : st 2159 = st 2141 := wG.2.2.2
  refine sp_FW_start A iP_pc hVP (fun w1 w2 q => ⟨Or.inr rfl, ?_⟩) (fun w1 => ⟨Or.inl rfl, ?_⟩) (fun w1 w2 => ⟨Or.inr rfl, ?_⟩)
  · obtain ⟨q, hq1, hq2⟩ := q
    have eS : ∀ b, cRI b = false → ¬ b = 261 → ¬ b = 2167 → am_up (am_up q 261 0 0) 2167 0 1 b = st b := fun b h1 h2 h3 => (am_up_bank h3).trans ((am_up_bank h2).trans (hq1 b (cRI_c h1)))
    have eQ : ∀ b, ¬ b = 261 → ¬ b = 2167 → am_up (am_up q 261 0 0) 2167 0 1 b = q b := fun b h2 h3 => (am_up_bank h3).trans (am_up_bank h2)
    have z261 : am_up (am_up q 261 0 0) 2167 0 1 261 0 = 0 := by rw [am_up_bank (by decide), am_up_eq]
    have z2167 : am_up (am_up q 261 0 0) 2167 0 1 2167 0 = 1 := am_up_eq
    show wp_MO_start [.inr (.inl 128), .inl x] (am_up (am_up q 261 0 0) 2167 0 1) _
    generalize am_up (am_up q 261 0 0) 2167 0 1 = S at *
    have e601 : S 601 0 = st 261 0 := by rw [eS 601 (by decide) (by decide) (by decide), g1]
    have e591 : S 591 0 = st 262 0 := by rw [eS 591 (by decide) (by decide) (by decide), g2]
    refine sq_MO_start (P := iP st) (A := A) (PM_md (fun b hb => eS b (d_ia b hb).1 (d_ia b hb).2.2.1 (d_ia b hb).2.2.2.1) hPM) hVP (fun b hb => (eS b (mR_c hb).1 (mR_c hb).2.1 (mR_c hb).2.2.1).trans (wM b hb)) (fun u1 u2 r => ?_) (fun u1 => absurd ⟨w1.1, w1.2.trans e601.symm⟩ u1) (fun u1 u2 => absurd (e591.symm.trans u2) w2)
    obtain ⟨r, hr1, hr2⟩ := r
    have eR : ∀ b, mR b = false → ¬ b = 576 → ¬ b = 601 → am_up r 601 0 0 b = S b := fun b h1 h2 h3 => (am_up_bank h3).trans ((hr1 b h1).trans (am_up_bank h2))
    have z576 : am_up r 601 0 0 576 0 = 0 := by rw [am_up_bank (by decide), hr1 576 rfl, am_up_eq]
    have z601 : am_up r 601 0 0 601 0 = 0 := am_up_eq
    have hr3 : RM (am_up r 601 0 0) (o_beg (iP st) A x.toNatClampNeg (st 2141)) := by
      have e : S 2159 = st 2141 := by rw [eS 2159 (by decide) (by decide) (by decide), g3]
      rw [← e]
      exact RM_o rfl hr2
    show am_up r 601 0 0 576 0 = 0 ∧ (((1 : Int32) = 0 ∨ (1 : Int32) = 1) ∧ am_up r 601 0 0 2167 0 = 1) ∧ Q (am_up r 601 0 0)
    generalize am_up r 601 0 0 = R at *
    have eA : ∀ b ∈ iaL, R b = st b := fun b hb => (eR b (d_ia b hb).2.1 (d_ia b hb).2.2.2.2.1 (d_ia b hb).2.2.2.2.2).trans (eS b (d_ia b hb).1 (d_ia b hb).2.2.1 (d_ia b hb).2.2.2.1)
    have eT : ∀ b ∈ itL, R b = st b := fun b hb => (eR b (d_it b hb).2.1 (d_it b hb).2.2.2.2.1 (d_it b hb).2.2.2.2.2).trans (eS b (d_it b hb).1 (d_it b hb).2.2.1 (d_it b hb).2.2.2.1)
    have eC : ∀ b ∈ rcL, R b = q b := fun b hb => (eR b (d_rc b hb).1 (d_rc b hb).2.2.2.1 (d_rc b hb).2.2.2.2).trans (eQ b (d_rc b hb).2.1 (d_rc b hb).2.2.1)
    have eG : ∀ b ∈ [591, 262, 263, 592, 2159, 2141], R b = st b := by
      have dg : ∀ b ∈ [591, 262, 263, 592, 2159, 2141], cRI b = false ∧ mR b = false ∧ ¬ b = 261 ∧ ¬ b = 2167 ∧ ¬ b = 576 ∧ ¬ b = 601 := by decide
      exact fun b hb => (eR b (dg b hb).2.1 (dg b hb).2.2.2.2.1 (dg b hb).2.2.2.2.2).trans (eS b (dg b hb).1 (dg b hb).2.2.1 (dg b hb).2.2.2.1)
    refine ⟨z576, ⟨Or.inr rfl, ?_⟩, hQ _ ⟨⟨IA_md eA wA, ⟨?_, ?_⟩, ?_, ?_, ?_⟩, T, IT_md eA eT wT, o_beg (iP st) A x.toNatClampNeg (st 2141), fun _ => False, ⟨?_, hr3⟩, Or.inr ⟨?_, beg_603, ?_⟩⟩⟩
    · rw [eR 2167 (by decide) (by decide) (by decide), z2167]
    · rw [eG 591 (by decide), eG 262 (by decide)]
      exact wG.1.1
    · rw [eG 263 (by decide), eG 592 (by decide)]
      exact wG.1.2
    · rw [eR 261 (by decide) (by decide) (by decide), z261]
      decide
    · rw [eR 261 (by decide) (by decide) (by decide), z261, z601]
    · rw [eG 2159 (by decide), eG 2141 (by decide)]
      exact g3
    · rw [iP_md eA]
      exact RC_md eC hq2
    · rw [eG 262 (by decide)]
      exact w2
    · rw [iP_md eA]
      exact TY_beg (wT w2).1 w1.1.2
  · refine sq_MO_start (P := iP st) (A := A) hPM hVP wM (fun u1 _ _ => absurd ⟨u1.1, u1.2.trans g1⟩ w1) (fun _ => ?_) (fun u1 _ => absurd ⟨u1.1, u1.2.trans g1⟩ w1)
    show am_up st 576 0 1 576 0 = (if (1 : Nat) = 1 then 1 else 2) ∧ Q (am_up st 576 0 1)
    exact ⟨by rw [am_up_eq, if_pos rfl], hQ _ (INV_576 w0)⟩
  · refine sq_MO_start (P := iP st) (A := A) hPM hVP wM (fun _ u2 _ => absurd (g2.trans w2) u2) (fun u1 => absurd ⟨w1.1, w1.2.trans g1.symm⟩ u1) (fun _ _ => ?_)
    show am_up st 576 0 2 576 0 = (if (2 : Nat) = 1 then 1 else 2) ∧ Q (am_up st 576 0 2)
    exact ⟨by rw [am_up_eq, if_neg (by decide)], hQ _ (INV_576 w0)⟩
theorem Rn_no {P A : am_S} (h : ¬ A 603 0 = 1) (n : Nat) : Rn P n A 0 A := by
  cases n with
  | zero => exact ⟨rfl, rfl⟩
  | succ n => exact Or.inl ⟨h, rfl, rfl⟩
theorem tn_8 {j j' : Nat} {x : Int32} {st : am_S} {Q : am_S → Prop} (w : pu_INV j st) (hQ : ∀ s, pu_INV j' s → Q s) : wp_FW_run [.inr (.inl 123), .inl x] st (am_kt (fun v st1 => wp_MO_run [.inr (.inl 128), .inl x] (am_up st1 2167 0 v) (am_ki (fun b9 st2 => st2 576 0 = 0 ∧ (st2 2167 0 = b9) ∧ Q st2))) (fun n st1 => n = 1 ∧ wp_MO_run [.inr (.inl 128), .inl x] st1 (am_ki (fun _ st2 => st2 576 0 = 1 ∧ Q st2)))) := by
  have w0 := w
  obtain ⟨⟨wA, wG⟩, T, wT, A, D, ⟨wC, wM⟩, wX⟩ := w
  have hPM := wA.1.1
  have hVP := wA.1.2.1
  obtain ⟨k, A', D', ⟨k1, k2⟩, wY⟩ : ∃ (k : Nat) (A' : am_S) (D' : Nat → Prop), (k ≤ x.toInt.toNat ∧ Rn (iP st) x.toInt.toNat A k A') ∧ ((A' 610 0 = 0 ∧ ¬ A' 603 0 = 1 ∧ hb A') ∨ (¬ st 262 0 = 0 ∧ A' 603 0 = 1 ∧ TY (iP st) T D' A')) := by
    rcases wX with c | ⟨c1, c2, c3⟩
    · exact ⟨0, A, D, ⟨Nat.zero_le _, Rn_no c.2.1 _⟩, Or.inl c⟩
    · obtain ⟨k, A', D', ⟨k1, k2⟩, k3⟩ := Rn_ex (wT c1).1 x.toInt.toNat A D c3
      refine ⟨k, A', D', ⟨k1, k2⟩, ?_⟩
      by_cases e : A' 603 0 = 1
      · exact Or.inr ⟨c1, e, k3⟩
      · have e0 : ¬ 0 < fn A' := fun h => e (Rn_603 _ A A' k (fun _ => c2) k2 h)
        refine Or.inl ⟨?_, e, k3.2.1.1⟩
        have b0 := k3.1.1
        unfold fn at e0
        rw [i32_eq]
        simp only [Int32.reduceToInt]
        omega
  refine sp_FW_run (A := A) (A' := A') (k := k) iP_pc hVP wC (fun _ => ⟨k1, k2⟩) (fun c q => ?_) (fun c => ⟨rfl, ?_⟩)
  · obtain ⟨q, hq1, hq2⟩ := q
    have eS : ∀ b, cRI b = false → ¬ b = 2167 → am_up q 2167 0 (nI k) b = st b := fun b h1 h3 => (am_up_bank h3).trans (hq1 b h1)
    have eQ : ∀ b, ¬ b = 2167 → am_up q 2167 0 (nI k) b = q b := fun b h3 => am_up_bank h3
    have z2167 : am_up q 2167 0 (nI k) 2167 0 = nI k := am_up_eq
    show wp_MO_run [.inr (.inl 128), .inl x] (am_up q 2167 0 (nI k)) _
    generalize am_up q 2167 0 (nI k) = S at *
    refine sq_MO_run (P := iP st) (A := A) (A' := A') (k := k) (PM_md (fun b hb => eS b (d_ia b hb).1 (d_ia b hb).2.2.2.1) hPM) hVP (fun b hb => (eS b (mR_c hb).1 (mR_c hb).2.2.1).trans (wM b hb)) (fun _ => ⟨k1, k2⟩) (fun _ r => ?_) (fun u => absurd c u)
    obtain ⟨R, hr1, hr2⟩ := r
    have eR : ∀ b, mR b = false → ¬ b = 576 → R b = S b := fun b h1 h2 => (hr1 b h1).trans (am_up_bank h2)
    have z576 : R 576 0 = 0 := by rw [hr1 576 rfl, am_up_eq]
    show R 576 0 = 0 ∧ R 2167 0 = nI k ∧ Q R
    have eA : ∀ b ∈ iaL, R b = st b := fun b hb => (eR b (d_ia b hb).2.1 (d_ia b hb).2.2.2.2.1).trans (eS b (d_ia b hb).1 (d_ia b hb).2.2.2.1)
    have eT : ∀ b ∈ itL, R b = st b := fun b hb => (eR b (d_it b hb).2.1 (d_it b hb).2.2.2.2.1).trans (eS b (d_it b hb).1 (d_it b hb).2.2.2.1)
    have eC : ∀ b ∈ rcL, R b = q b := fun b hb => (eR b (d_rc b hb).1 (d_rc b hb).2.2.2.1).trans (eQ b (d_rc b hb).2.2.1)
    have eG : ∀ b ∈ igL, R b = st b := by
      have dg : ∀ b ∈ igL, cRI b = false ∧ mR b = false ∧ ¬ b = 2167 ∧ ¬ b = 576 := by decide
      exact fun b hb => (eR b (dg b hb).2.1 (dg b hb).2.2.2).trans (eS b (dg b hb).1 (dg b hb).2.2.1)
    refine ⟨z576, ?_, hQ _ ⟨⟨IA_md eA wA, IG_md eG wG⟩, T, IT_md eA eT wT, A', D', ⟨?_, hr2⟩, ?_⟩⟩
    · rw [eR 2167 (by decide) (by decide), z2167]
    · rw [iP_md eA]
      exact RC_md eC hq2
    · rw [iP_md eA, eT 262 (by decide)]
      exact wY
  · refine sq_MO_run (P := iP st) (A := A) (A' := A') (k := k) hPM hVP wM (fun _ => ⟨k1, k2⟩) (fun u _ => absurd u c) (fun _ => ?_)
    show am_up st 576 0 1 576 0 = 1 ∧ Q (am_up st 576 0 1)
    exact ⟨am_up_eq, hQ _ (INV_576 w0)⟩
theorem tn_17 {j j' : Nat} {x y z : Int32} {st : am_S} {Q : am_S → Prop} (w : pu_INV j st) (hQ : ∀ s, pu_INV j' s → Q s) : wp_FW_type [.inr (.inl 123), .inl x, .inl y, .inl z] st (am_ki (fun v st1 => wp_MO_type [.inr (.inl 128), .inl x, .inl y, .inl z] st1 (am_ki (fun w st2 => v = w ∧ Q st2)))) := by
  have w0 := w
  obtain ⟨⟨wA, wG⟩, T, wT, -⟩ := w
  have hPM := wA.1.1
  have hVP := wA.1.2.1
  have g2 : st 591 0 = st 262 0 := wG.1.1
  have c3 : ¬ st 591 0 = 0 → ∀ m, m < nM (iP st) → (MT (iP st) m st (T m) ∧ WT (iP st) m (T m)) ∧ ∀ q, q < nl (iP st) m → st 2154 (nb (iP st) m + q) = if nx (iP st) m q = q then 1 else 0 := by
    intro h m hm
    rw [g2] at h
    exact ⟨⟨((wT h).2 m hm).1.2, ((wT h).1.2 m hm).2.2⟩, ((wT h).2 m hm).2⟩
  refine sq_FW_type (P := iP st) (T := T) iP_pc hVP (fun h m hm => ⟨((wT h).2 m hm).1.1, ((wT h).1.2 m hm).2.2⟩) (fun k => ?_) (fun k => ?_)
  · refine sq_MO_type (P := iP st) (T := T) hPM hVP c3 (fun _ => ⟨rfl, hQ _ (INV_576 w0)⟩) (fun u => absurd ?_ u)
    rw [g2]
    exact k
  · refine sq_MO_type (P := iP st) (T := T) hPM hVP c3 (fun u => absurd ?_ k) (fun _ => ⟨rfl, hQ _ (INV_576 w0)⟩)
    rw [← g2]
    exact u

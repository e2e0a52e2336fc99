/-! Turns of both sides: verify. -/
theorem sm_z {f : Nat → Nat} {n : Nat} : ∀ d, (∀ i, n ≤ i → i < n + d → f i = 0) → sm f (n + d) = sm f n := by
  intro d
  induction d with
  | zero => exact fun _ => rfl
  | succ d ih =>
    intro h
    show sm f (n + d) + f (n + d) = sm f n
    rw [h (n + d) (by omega) (by omega), ih (fun i h1 h2 => h i h1 (by omega))]
    rfl
theorem MT_eq {P s : am_S} {m : Nat} {T U : am_T} (h : ∀ p, p < nl P m → T 2 p = U 2 p ∧ (¬ T 2 p = -1 → T 1 p = U 1 p ∧ T 0 p = U 0 p)) (w : MT P m s U) : MT P m s T := by
  intro p hp
  obtain ⟨h1, h2⟩ := h p hp
  rcases w p hp with k | k
  · exact Or.inl ⟨h1.trans k.1, k.2⟩
  · have e : ¬ T 2 p = -1 := by rw [h1]; exact k.1
    obtain ⟨h3, h4⟩ := h2 e
    rw [h1, h3, h4]
    exact Or.inr k
theorem d_cF : ∀ b ∈ iaL, cF b = false ∧ mG b = false ∧ ¬ b = 2167 := by decide
theorem d_rF : ∀ b ∈ rcL, cF b = false ∧ mG b = false ∧ ¬ b = 2167 := by decide
theorem mR_G {b : Nat} (h : mR b = true) : cF b = false ∧ mG b = false ∧ ¬ b = 2167 := by
  unfold mR at h
  simp only [Bool.or_eq_true, Bool.and_eq_true, beq_iff_eq, decide_eq_true_eq] at h
  refine ⟨?_, ?_, by omega⟩
  · cases e : cF b with
    | false => rfl
    | true =>
      unfold cF cV at e
      simp only [Bool.or_eq_true, Bool.and_eq_true, beq_iff_eq, decide_eq_true_eq] at e
      omega
  · cases e : mG b with
    | false => rfl
    | true =>
      unfold mG mV at e
      simp only [Bool.or_eq_true, Bool.and_eq_true, beq_iff_eq, decide_eq_true_eq] at e
      omega
theorem EN_200 {P : am_S} (hV : VP P) : EN P ≤ 200 := by
  unfold EN
  split
  · omega
  · rename_i e
    have h := (hV.2.2 (nM P - 1) (by omega)).1
    have := hV.1
    unfold nb nl
    omega
theorem tn_3 {j j' : Nat} {st : am_S} {Q : am_S → Prop} (w : pu_INV j st) (hQ : ∀ s, pu_INV j' s → Q s) : wp_FW_verify [.inr (.inl 123)] st (am_kt (fun v st1 => wp_MO_verify [.inr (.inl 128)] (am_up st1 2167 0 v) (am_ki (fun b9 st2 => st2 576 0 = 0 ∧ (st2 2167 0 = b9) ∧ Q st2))) (fun n st1 => (n = 1 ∨ n = 2) ∧ wp_MO_verify [.inr (.inl 128)] st1 (am_ki (fun _ st2 => st2 576 0 = (if n = 1 then 1 else 2) ∧ Q st2)))) := by
  have w0 := w
  obtain ⟨⟨wA, wG⟩, T0, wT, A, D, ⟨wC, wM⟩, wX⟩ := w
  have hPM := wA.1.1
  have hVP := wA.1.2.1
  have hVO := wA.1.2.2
  have g2 : st 591 0 = st 262 0 := wG.1.1
  have g4 : st 579 0 = st 323 0 := by rw [(IA_ge wA).1.2.2.2.2.1]
  refine sp_FW_verify (P := iP st) iP_pc hVP hVO (fun u => ⟨Or.inr rfl, ?_⟩) (fun u1 u2 => ⟨fun s hs s1 s2 s3 => ?_, fun s m hm h1 h2 hs s1 => ⟨Or.inl rfl, ?_⟩⟩)
  · refine sq_MO_verify (P := iP st) hPM hVP hVO (fun _ => ?_) (fun v1 v2 => ?_)
    · show am_up st 576 0 2 576 0 = (if (2 : Nat) = 1 then 1 else 2) ∧ Q (am_up st 576 0 2)
      exact ⟨by rw [am_up_eq, if_neg (by decide)], hQ _ (INV_576 w0)⟩
    · rw [g2] at v1
      rw [g4] at v2
      rcases u with u | u
      · exact absurd v1 u
      · exact absurd u v2
  · -- both accept
    have eS : ∀ v b, cF b = false → ¬ b = 2167 → am_up s 2167 0 v b = st b := fun v b h1 h3 => (am_up_bank h3).trans (hs b h1)
    have eQ : ∀ v b, ¬ b = 2167 → am_up s 2167 0 v b = s b := fun v b h3 => am_up_bank h3
    generalize hv : nI (sm (fun i => if s 2134 i = -1 then 0 else 1) (EN (iP st))) = v
    have eS := eS v
    have eQ := eQ v
    have z2167 : am_up s 2167 0 v 2167 0 = v := am_up_eq
    show wp_MO_verify [.inr (.inl 128)] (am_up s 2167 0 v) _
    generalize am_up s 2167 0 v = S at *
    have e591 : S 591 0 = 0 := by rw [eS 591 (by decide) (by decide), g2, u1]
    have e579 : ¬ S 579 0 = 0 := by rw [eS 579 (by decide) (by decide), g4]; exact u2
    refine sq_MO_verify (P := iP st) (PM_md (fun b hb => eS b (d_cF b hb).1 (d_cF b hb).2.2) hPM) hVP hVO (fun k => ?_) (fun _ _ => ⟨fun R hR r1 r2 r3 r4 r5 => ?_, fun R m hm h1 h2 _ _ _ => ?_⟩)
    · rcases k with k | k
      · exact absurd e591 k
      · exact absurd k e579
    · have eA : ∀ b ∈ iaL, R b = st b := fun b hb => (hR b (d_cF b hb).2.1).trans (eS b (d_cF b hb).1 (d_cF b hb).2.2)
      have eC : ∀ b ∈ rcL, R b = st b := fun b hb => (hR b (d_rF b hb).2.1).trans (eS b (d_rF b hb).1 (d_rF b hb).2.2)
      have eM : ∀ b, mR b = true → R b = st b := fun b hb => (hR b (mR_G hb).2.1).trans (eS b (mR_G hb).1 (mR_G hb).2.2)
      have eL : ∀ b ∈ [262, 263, 2132, 2133, 2134], R b = s b := by
        have dl : ∀ b ∈ [262, 263, 2132, 2133, 2134], mG b = false ∧ ¬ b = 2167 := by decide
        exact fun b hb => (hR b (dl b hb).1).trans (eQ b (dl b hb).2)
      have eG : ∀ b ∈ [261, 601, 2159, 2141], R b = st b := by
        have dl : ∀ b ∈ [261, 601, 2159, 2141], cF b = false ∧ mG b = false ∧ ¬ b = 2167 := by decide
        exact fun b hb => (hR b (dl b hb).2.1).trans (eS b (dl b hb).1 (dl b hb).2.2)
      -- the two typings are one
      have key : ∀ m, m < nM (iP st) → ∃ T, LC (iP st) m s T ∧ Typ (iP st) m T ∧ WT (iP st) m T ∧ MT (iP st) m R T := by
        intro m hm
        obtain ⟨-, T, t1, t2, t3, t4⟩ := s3 m hm
        obtain ⟨-, ⟨U, ⟨p1, p2, p3, -⟩, p5⟩, -⟩ := r4 m hm
        exact ⟨T, t1, t2, t4, MT_eq (least_eq t4 p2 (t3 U p5) (p3 T t2)) p1⟩
      have key2 : ∃ T : Nat → am_T, ∀ m, m < nM (iP st) → LC (iP st) m s (T m) ∧ Typ (iP st) m (T m) ∧ WT (iP st) m (T m) ∧ MT (iP st) m R (T m) := by
        refine ⟨fun m => if h : m < nM (iP st) then (key m h).choose else fun _ _ => 0, fun m hm => ?_⟩
        simp only [dif_pos hm]
        exact (key m hm).choose_spec
      obtain ⟨T, hT⟩ := key2
      have hcnt : v = nI (sm (fun i => if R 2155 i = 0 then 0 else 1) 200) := by
        have e2 := EN_200 hVP
        rw [← hv]
        congr 1
        have e3 : 200 = EN (iP st) + (200 - EN (iP st)) := by omega
        rw [e3, sm_z (200 - EN (iP st)) (fun i h1 h2 => by rw [if_pos (r5 i h1 (by omega))])]
        refine sm_eq (fun i hi => ?_)
        obtain ⟨m, p, hm, hp, rfl⟩ := EN_at hVO hi
        obtain ⟨t1, -, -, t4⟩ := hT m hm
        rw [← (t1 p hp).2.2]
        rcases t4 p hp with k | k
        · rw [if_pos k.1, if_pos k.2]
        · rw [if_neg k.1, if_neg (by rw [k.2.1]; decide)]
      show R 576 0 = 0 ∧ R 2167 0 = nI (sm (fun i => if R 2155 i = 0 then 0 else 1) 200) ∧ Q R
      have e262 : R 262 0 = 1 := by rw [eL 262 (by decide), s2]
      refine ⟨r1, ?_, hQ _ ⟨⟨IA_md eA wA, ⟨?_, ?_⟩, ?_, ?_, ?_⟩, T, fun _ => ?_, A, D, ⟨?_, fun b hb => (eM b hb).trans (wM b hb)⟩, Or.inl ?_⟩⟩
      · rw [hR 2167 (by decide), z2167, hcnt]
      · rw [r2, e262]
      · rw [r3, eL 263 (by decide), s1]
      · rw [eG 261 (by decide)]
        exact wG.2.1
      · rw [eG 261 (by decide), eG 601 (by decide)]
        exact wG.2.2.1
      · rw [eG 2159 (by decide), eG 2141 (by decide)]
        exact wG.2.2.2
      · rw [iP_md eA]
        refine ⟨⟨hVP, fun m hm => ⟨(s3 m hm).1, (hT m hm).2.1, (hT m hm).2.2.1⟩⟩, fun m hm => ⟨⟨?_, (hT m hm).2.2.2⟩, (r4 m hm).2.2⟩⟩
        have := (hT m hm).1
        unfold LC at *
        rw [eL 2132 (by decide), eL 2133 (by decide), eL 2134 (by decide)]
        exact this
      · rw [iP_md eA]
        exact RC_md eC wC
      · rcases wX with c | c
        · exact c
        · exact absurd u1 c.1
    · rcases h2 with k | k
      · exact absurd (s3 m hm).1 k.1
      · obtain ⟨-, U, -, t2, -⟩ := s3 m hm
        exact absurd t2 (k.2.1 U)
  · -- both refuse
    have e591 : s 591 0 = 0 := by rw [hs 591 (by decide), g2, u1]
    have e579 : ¬ s 579 0 = 0 := by rw [hs 579 (by decide), g4]; exact u2
    refine sq_MO_verify (P := iP st) (PM_md (fun b hb => hs b (d_cF b hb).1) hPM) hVP hVO (fun k => ?_) (fun _ _ => ⟨fun R hR r1 r2 r3 r4 r5 => ?_, fun R m' hm' h1' h2' hR r1 r2 => ?_⟩)
    · rcases k with k | k
      · exact absurd e591 k
      · exact absurd k e579
    · rcases h2 with k | k
      · exact absurd (r4 m hm).1 k.1
      · obtain ⟨-, ⟨U, -, p5⟩, -⟩ := r4 m hm
        exact absurd p5 (k.2.1 U)
    · have em : m' = m := by
        rcases Nat.lt_trichotomy m' m with q | q | q
        · obtain ⟨q1, U, q2⟩ := h1 m' q
          rcases h2' with k | k
          · exact absurd q1 k.1
          · exact absurd q2 (k.2.1 U)
        · exact q
        · obtain ⟨q1, U, q2⟩ := h1' m q
          rcases h2 with k | k
          · exact absurd q1 k.1
          · exact absurd q2 (k.2.1 U)
      rw [em] at h2'
      have ef : s 263 0 = R 592 0 := by
        rcases h2 with k | k
        · rcases h2' with k' | k'
          · rw [k.2, k'.2]
          · exact absurd k'.1 k.1
        · rcases h2' with k' | k'
          · exact absurd k.1 k'.1
          · rw [k.2.2, k'.2.2]
      have eA : ∀ b ∈ iaL, R b = st b := fun b hb => (hR b (d_cF b hb).2.1).trans (hs b (d_cF b hb).1)
      have eC : ∀ b ∈ rcL, R b = st b := fun b hb => (hR b (d_rF b hb).2.1).trans (hs b (d_rF b hb).1)
      have eM : ∀ b, mR b = true → R b = st b := fun b hb => (hR b (mR_G hb).2.1).trans (hs b (mR_G hb).1)
      have eG : ∀ b ∈ [261, 601, 2159, 2141], R b = st b := by
        have dl : ∀ b ∈ [261, 601, 2159, 2141], cF b = false ∧ mG b = false := by decide
        exact fun b hb => (hR b (dl b hb).2).trans (hs b (dl b hb).1)
      have e262 : R 262 0 = 0 := by rw [hR 262 (by decide), s1, u1]
      show R 576 0 = (if (1 : Nat) = 1 then 1 else 2) ∧ Q R
      refine ⟨by rw [r1, if_pos rfl], hQ _ ⟨⟨IA_md eA wA, ⟨?_, ?_⟩, ?_, ?_, ?_⟩, T0, fun k => absurd e262 k, A, D, ⟨?_, fun b hb => (eM b hb).trans (wM b hb)⟩, Or.inl ?_⟩⟩
      · rw [r2, e591, e262]
      · rw [hR 263 (by decide), ef]
      · rw [eG 261 (by decide)]
        exact wG.2.1
      · rw [eG 261 (by decide), eG 601 (by decide)]
        exact wG.2.2.1
      · rw [eG 2159 (by decide), eG 2141 (by decide)]
        exact wG.2.2.2
      · rw [iP_md eA]
        exact RC_md eC wC
      · rcases wX with c | c
        · exact c
        · exact absurd u1 c.1

/-! What a step takes from and puts on a typed stack. -/
theorem TX_due {P A : am_S} {T : Nat → am_T} {D : Nat → Prop} {q h : Nat} {L R t : Int32} {l : List Int32} {X : Int32 × Int32} (ht : t = 1 ∨ t = 2) (hh : h ≤ 9) (w : wfR R h) (hx : TX P T D A q L R (nI h)) (e : pops (t :: l) R (nI h) = some X) : ∃ R1 h1, h = h1 + 1 ∧ sD A = h1 + 1 ∧ rv D t (o_val P A) ∧ TX P T D (o_pop A) q L R1 (nI h1) ∧ wfR R1 h1 ∧ pops l R1 (nI h1) = some X := by
  unfold pops at e
  by_cases g : tkT R (nI h) = t
  · rw [if_pos g] at e
    have tn : ¬ tkT R (nI h) = 0 := by
      rw [g]
      rcases ht with w | w <;> (rw [w]; decide)
    obtain ⟨h1, a1, a2, a3, a4, a5⟩ := tkT_c (by omega) w tn
    subst a1
    rw [a4, a5] at e
    obtain ⟨b1, b2, b3⟩ := TX_pop (by omega) w hx
    refine ⟨_, h1, rfl, b1, ?_, b3, wf_pop (by omega) w, e⟩
    rw [← g, a2]
    exact b2
  · rw [if_neg g] at e
    exact absurd e (by simp)
theorem ss_map {P : am_S} {m : Nat} {op n R H R' H' : Int32} (h1 : ¬ op = 87 ∧ ¬ op = 89 ∧ ¬ op = 95) (e : ss P m op n R H = some (R', H')) : ¬ ((op = 172 ∧ P 6 m = 0) ∨ (op = 177 ∧ ¬ P 6 m = 0)) ∧ ∃ R2 H2, pops (dues P op n) R H = some (R2, H2) ∧ R' = puR R2 H2 (puts P op n) ∧ H' = puH H2 (puts P op n) := by
  unfold ss at e
  rw [if_neg h1.1, if_neg h1.2.1, if_neg h1.2.2] at e
  by_cases g : (op = 172 ∧ P 6 m = 0) ∨ (op = 177 ∧ ¬ P 6 m = 0)
  · rw [if_pos g] at e
    exact absurd e (by simp)
  · rw [if_neg g] at e
    refine ⟨g, ?_⟩
    cases hp : pops (dues P op n) R H with
    | none =>
      rw [hp] at e
      exact absurd e (by simp)
    | some y =>
      rw [hp] at e
      obtain ⟨y1, y2⟩ := y
      simp only [Option.map_some, Option.some.injEq, Prod.mk.injEq] at e
      exact ⟨y1, y2, rfl, e.1.symm, e.2.symm⟩
/-- what is known at the top frame of a typed machine -/
theorem TY_top {P A : am_S} {T : Nat → am_T} {D : Nat → Prop} (hT : PT P T) (h : TY P T D A) (hn : 0 < fn A) : ∃ q h, TX P T D A q (T (fm A (lf A)) 0 q) (T (fm A (lf A)) 1 q) (nI h) ∧ (T (fm A (lf A)) 2 q = nI h ∧ wfR (T (fm A (lf A)) 1 q) h ∧ wfL (T (fm A (lf A)) 0 q) ∧ h ≤ fhe P A (lf A) ∧ fhe P A (lf A) ≤ 8 ∧ flo P A (lf A) ≤ 8) ∧ (fm A (lf A) < nM P ∧ bg P (fm A (lf A)) q ∧ okI P (fm A (lf A)) q ∧ q < nl P (fm A (lf A))) ∧ SO P (fm A (lf A)) (T (fm A (lf A))) q (T (fm A (lf A)) 0 q) (T (fm A (lf A)) 1 q) (nI h) := by
  obtain ⟨q, hx⟩ := h.2.2.1 hn
  have hm := AT_m h.1 (show lf A < fn A by unfold lf; omega)
  obtain ⟨a1, a2, a3⟩ := hx.2.2.1
  obtain ⟨s1, s2, s3⟩ := hT.2 _ hm
  obtain ⟨w1, w2, hh, w3, w4, w5⟩ := s3 q a2 a3
  have so := s2.2 q a2 a3
  rw [w4] at hx so
  have vm := (hT.1.2.2 _ hm).2.1
  refine ⟨q, hh, hx, ⟨w4, w5, w2, ?_, ?_, ?_⟩, ⟨hm, w1, s1.1 q a2 w1, a2⟩, so⟩
  · unfold fhe
    omega
  · unfold fhe
    omega
  · unfold flo
    omega
theorem du_calc {P : am_S} {op n : Int32} (h : op_calc op) : (¬ op = 87 ∧ ¬ op = 89 ∧ ¬ op = 95) ∧ dues P op n = [1, 1] ∧ puts P op n = 1 ∧ ty_wr op = 0 ∧ ¬ op = 167 ∧ ¬ op = 172 ∧ ¬ op = 177 := by
  have h' := calc_m.mp h
  have key : ¬ op = 184 ∧ (¬ op = 87 ∧ ¬ op = 89 ∧ ¬ op = 95) ∧ ty_wr op = 0 ∧ ¬ op = 167 ∧ ¬ op = 172 ∧ ¬ op = 177 := by
    clear h
    unfold ty_wr
    simp only [List.mem_cons, List.not_mem_nil, or_false] at h'
    have g : ¬ op = 54 ∧ ¬ op = 58 := by
      simp only [i32_eq, Int32.reduceToInt]
      omega
    rw [if_neg g.1, if_neg g.2]
    refine ⟨?_, ⟨?_, ?_, ?_⟩, rfl, ?_, ?_, ?_⟩ <;> (simp only [i32_eq, Int32.reduceToInt]; omega)
  refine ⟨key.2.1, ?_, ?_, key.2.2⟩
  · unfold dues ty_du
    rw [if_neg key.1, if_pos]
    simp only [List.mem_cons, List.not_mem_nil, or_false] at h' ⊢
    omega
  · unfold puts ty_pt
    rw [if_neg key.1, if_pos]
    simp only [List.mem_cons, List.not_mem_nil, or_false] at h' ⊢
    omega
theorem ty_calc {P A : am_S} {T : Nat → am_T} {D : Nat → Prop} {q h : Nat} {op n g z : Int32} (hT : PT P T) (hx : TX P T D A q (T (fm A (lf A)) 0 q) (T (fm A (lf A)) 1 q) (nI h)) (hw : wfR (T (fm A (lf A)) 1 q) h) (h5 : h ≤ fhe P A (lf A) ∧ fhe P A (lf A) ≤ 8) (hc : op_calc op) {R' H' : Int32} (e : ss P (fm A (lf A)) op n (T (fm A (lf A)) 1 q) (nI h) = some (R', H')) (ha : ¬ op = 167 ∧ ¬ op = 172 ∧ ¬ op = 177 → Ar (nl P (fm A (lf A))) (T (fm A (lf A))) ((q : Int) + z.toInt) (lw op n (T (fm A (lf A)) 0 q)) R' H') : ∃ A', stC P A op n g z A' ∧ TY P T D A' := by
  obtain ⟨d0, d1, d2, d3, d4⟩ := @du_calc P op n hc
  obtain ⟨-, R2, H2, e1, e2, e3⟩ := ss_map d0 e
  rw [d1] at e1
  rw [d2] at e2 e3
  have ha' := ha d4
  have el : lw op n (T (fm A (lf A)) 0 q) = T (fm A (lf A)) 0 q := by unfold lw; rw [if_pos d3]
  rw [el] at ha'
  obtain ⟨R1, h1, a1, a2, a3, a4, a5, a6⟩ := TX_due (Or.inl rfl) (by omega) hw hx e1
  obtain ⟨R3, h3, b1, b2, b3, b4, b5, b6⟩ := TX_due (Or.inl rfl) (by omega) a5 a4 a6
  simp only [pops, Option.some.injEq, Prod.mk.injEq] at b6
  obtain ⟨f1, f2⟩ := b6
  subst f1
  subst f2
  have hfe : fhe P (o_pop (o_pop A)) (lf (o_pop (o_pop A))) = fhe P A (lf A) := rfl
  obtain ⟨t1, t2⟩ := TX_trap (k := 1) hT (by decide) b4
  have i2 : 2 ≤ sD A := by omega
  by_cases c : o_val P A = 0 ∧ (op = 108 ∨ op = 112)
  · exact ⟨_, Or.inl ⟨hc, ⟨i2, t1⟩, Or.inl ⟨c, rfl⟩⟩, t2⟩
  · refine ⟨_, Or.inl ⟨hc, ⟨i2, t1⟩, Or.inr ⟨c, rfl⟩⟩, ?_⟩
    have tp := TX_push (t := 1) (v := o_cal op (o_val P (o_pop A)) (o_val P A)) (Or.inl rfl) (by omega) (by rw [hfe]; omega) (fun z => absurd z (by decide)) b4
    rw [(pu_12 (Or.inl rfl)).1] at e2
    rw [(pv_12 (Or.inl rfl))] at e3
    rw [← e2, ← e3] at tp
    exact TX_go hT.1 tp ha'
theorem du_jump {P : am_S} {op n : Int32} (h : op_jump op) : (¬ op = 87 ∧ ¬ op = 89 ∧ ¬ op = 95) ∧ puts P op n = 0 ∧ ty_wr op = 0 ∧ (¬ op = 172 ∧ ¬ op = 177) ∧ ((op = 167 ∧ dues P op n = []) ∨ ((¬ op = 167 ∧ 159 ≤ op ∧ op ≤ 166) ∧ ∃ t, (t = 1 ∨ t = 2) ∧ ¬ (op = 198 ∨ op = 199) ∧ dues P op n = [t, t]) ∨ ((¬ op = 167 ∧ ¬ (159 ≤ op ∧ op ≤ 166)) ∧ ∃ t, (t = 1 ∨ t = 2) ∧ (op = 198 ∨ op = 199 → t = 2) ∧ dues P op n = [t])) := by
  have k0 : ¬ op = 184 := by
    unfold op_jump at h
    simp only [i32_le, i32_eq, Int32.reduceToInt] at *
    omega
  have hb : 0 ≤ op.toInt ∧ op.toInt ≤ 255 := by
    unfold op_jump at h
    simp only [i32_le, i32_eq, Int32.reduceToInt] at *
    omega
  unfold dues puts
  rw [if_neg k0, if_neg k0]
  clear k0
  have ga := by_dec (Q := fun b => op_jump b → (¬ b = 87 ∧ ¬ b = 89 ∧ ¬ b = 95) ∧ ty_pt b = 0 ∧ ty_wr b = 0 ∧ (¬ b = 172 ∧ ¬ b = 177)) (by unfold op_jump; decide +kernel) hb.1 hb.2 h
  have gb := by_dec (Q := fun b => op_jump b → ((b = 167 ∧ ty_du b = []) ∨ ((¬ b = 167 ∧ 159 ≤ b ∧ b ≤ 166) ∧ ¬ (b = 198 ∨ b = 199) ∧ (ty_du b = [1, 1] ∨ ty_du b = [2, 2])) ∨ ((¬ b = 167 ∧ ¬ (159 ≤ b ∧ b ≤ 166)) ∧ (ty_du b = [2] ∨ ty_du b = [1] ∧ ¬ (b = 198 ∨ b = 199))))) (by unfold op_jump; decide +kernel) hb.1 hb.2 h
  have g := And.intro ga gb
  obtain ⟨⟨g1, g2, g3, g4⟩, g5⟩ := g
  refine ⟨g1, g2, g3, g4, ?_⟩
  rcases g5 with w | ⟨w1, w2, w3 | w3⟩ | ⟨w1, w3 | ⟨w3, w4⟩⟩
  · exact Or.inl w
  · exact Or.inr (Or.inl ⟨w1, 1, Or.inl rfl, w2, w3⟩)
  · exact Or.inr (Or.inl ⟨w1, 2, Or.inr rfl, w2, w3⟩)
  · exact Or.inr (Or.inr ⟨w1, 2, Or.inr rfl, fun _ => rfl, w3⟩)
  · exact Or.inr (Or.inr ⟨w1, 1, Or.inl rfl, fun z => absurd z w4, w3⟩)
theorem ty_jump {P A : am_S} {T : Nat → am_T} {D : Nat → Prop} {q h : Nat} {op n g z : Int32} (hT : PT P T) (hx : TX P T D A q (T (fm A (lf A)) 0 q) (T (fm A (lf A)) 1 q) (nI h)) (hw : wfR (T (fm A (lf A)) 1 q) h) (h5 : h ≤ fhe P A (lf A) ∧ fhe P A (lf A) ≤ 8) (hc : op_jump op) {R' H' : Int32} (e : ss P (fm A (lf A)) op n (T (fm A (lf A)) 1 q) (nI h) = some (R', H')) (hj : Ar (nl P (fm A (lf A))) (T (fm A (lf A))) ((q : Int) + n.toInt) (lw op n (T (fm A (lf A)) 0 q)) R' H') (ha : ¬ op = 167 ∧ ¬ op = 172 ∧ ¬ op = 177 → Ar (nl P (fm A (lf A))) (T (fm A (lf A))) ((q : Int) + z.toInt) (lw op n (T (fm A (lf A)) 0 q)) R' H') : ∃ A', stC P A op n g z A' ∧ TY P T D A' := by
  obtain ⟨d0, d2, d3, d4, d5⟩ := @du_jump P op n hc
  obtain ⟨-, R2, H2, e1, e2, e3⟩ := ss_map d0 e
  rw [d2] at e2 e3
  rw [pu_0.1] at e2
  rw [(@pu_0 0 H2).2] at e3
  have el : lw op n (T (fm A (lf A)) 0 q) = T (fm A (lf A)) 0 q := by unfold lw; rw [if_pos d3]
  rw [el] at ha hj
  subst e2
  subst e3
  have key : (o_jn op ≤ sD A ∧ (op = 198 ∨ op = 199 → o_val P A = -1 ∨ 0 ≤ (o_val P A).toInt)) ∧ TX P T D (o_jA A op) q (T (fm A (lf A)) 0 q) R' H' := by
    rcases d5 with ⟨w1, w2⟩ | ⟨⟨w1, w2⟩, t, w3, w4, w5⟩ | ⟨⟨w1, w2⟩, t, w3, w4, w5⟩
    · rw [w2] at e1
      simp only [pops, Option.some.injEq, Prod.mk.injEq] at e1
      rw [(jA_0 w1).1, (jA_0 (A := A) w1).2, ← e1.1, ← e1.2]
      refine ⟨⟨Nat.zero_le _, fun z => ?_⟩, hx⟩
      rw [w1] at z
      exact absurd z (by decide)
    · rw [w5] at e1
      obtain ⟨R1, h1, a1, a2, a3, a4, a5, a6⟩ := TX_due w3 (by omega) hw hx e1
      obtain ⟨R3, h3, b1, b2, b3, b4, b5, b6⟩ := TX_due w3 (by omega) a5 a4 a6
      simp only [pops, Option.some.injEq, Prod.mk.injEq] at b6
      rw [(jA_2 w1 w2).1, (jA_2 (A := A) w1 w2).2, ← b6.1, ← b6.2]
      exact ⟨⟨by omega, fun z => absurd z w4⟩, b4⟩
    · rw [w5] at e1
      obtain ⟨R1, h1, a1, a2, a3, a4, a5, a6⟩ := TX_due w3 (by omega) hw hx e1
      simp only [pops, Option.some.injEq, Prod.mk.injEq] at a6
      rw [(jA_1 w1 w2).1, (jA_1 (A := A) w1 w2).2, ← a6.1, ← a6.2]
      refine ⟨⟨by omega, fun z => ?_⟩, a4⟩
      rcases a3 (w4 z) with u | u
      · exact Or.inl u
      · exact Or.inr u.1
  have ef : fm (o_jA A op) (lf (o_jA A op)) = fm A (lf A) := by
    unfold o_jA
    split
    · rfl
    · split <;> rfl
  by_cases c : o_tk P A op
  · refine ⟨_, Or.inr (Or.inl ⟨hc, key.1, Or.inl ⟨c, rfl⟩⟩), TX_go hT.1 key.2 ?_⟩
    rw [ef]
    exact hj
  · refine ⟨_, Or.inr (Or.inl ⟨hc, key.1, Or.inr ⟨c, rfl⟩⟩), TX_go hT.1 key.2 ?_⟩
    rw [ef]
    exact ha ⟨fun w => c (Or.inl w), d4⟩

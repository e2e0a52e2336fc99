/-! Returns keep types. -/
theorem dO_184 {b : Int32} (h0 : 0 ≤ b.toInt) (h1 : b.toInt ≤ 255) : dO b = 184 → dZ b = 3 ∧ b = 184 := by
  refine by_dec (Q := fun b => dO b = 184 → dZ b = 3 ∧ b = 184) ?_ h0 h1
  unfold dZ op_z
  decide +kernel
theorem pZ_184 {P : am_S} {a : Nat} (hV : VP P) (h : pO P a = 184) : pZ P a = 3 := (dO_184 (hV.2.1 a).1 (hV.2.1 a).2 h).1
theorem TX_close {P A : am_S} {T : Nat → am_T} {D : Nat → Prop} {q : Nat} {L R H : Int32} (hx : TX P T D A q L R H) (h1 : 1 < fn A) : ∃ q' R2 H2, TX P T D (o_close A) q' (T (fm (o_close A) (lf (o_close A))) 0 q') R2 H2 ∧ pO P (nb P (fm (o_close A) (lf (o_close A))) + q') = 184 ∧ (pN P (nb P (fm (o_close A) (lf (o_close A))) + q')).toNatClampNeg = fm A (lf A) ∧ pops (dues P 184 (pN P (nb P (fm (o_close A) (lf (o_close A))) + q'))) (T (fm (o_close A) (lf (o_close A))) 1 q') (T (fm (o_close A) (lf (o_close A))) 2 q') = some (R2, H2) := by
  obtain ⟨⟨b1, b2, b3⟩, lo, -, -⟩ := hx
  have en := (close_n b1 b2).1
  have el : lf (o_close A) = fn A - 2 := by unfold lf; rw [en]; omega
  have e3 : o_close A 2163 = A 2163 := close_o (by decide)
  have e4 : o_close A 2164 = A 2164 := close_o (by decide)
  have e5 : o_close A 2165 = A 2165 := close_o (by decide)
  have e6 : o_close A 2166 = A 2166 := close_o (by decide)
  have e2 : o_close A 2162 = A 2162 := close_o (by decide)
  obtain ⟨q', R2, H2, a1, a2, a3, a4, a5⟩ := lo (fn A - 2) (by omega)
  have ef : fm (o_close A) (lf (o_close A)) = fm A (fn A - 2) := by unfold fm; rw [e3, el]
  have e1 : fn A - 2 + 1 = lf A := by unfold lf; omega
  refine ⟨q', R2, H2, ⟨⟨BV_close b1 b2, by rw [en]; omega, HP_eq (close_o (by decide)) (close_o (by decide)) b3⟩, low_close b1 b2 lo, ?_, ?_⟩, ?_, ?_, ?_⟩
  · unfold AT at *
    rw [ef, e4, el]
    exact a1
  · rw [ef, el]
    exact FT_cells (b1.2.1 (fn A - 2) (by omega)).2.2.2.1 (by rw [e3]) (by rw [e5]) (by rw [e6]) (fun _ _ => by rw [e2]) a5
  · rw [ef]
    exact a2
  · rw [ef, ← e1]
    exact a3
  · rw [ef]
    exact a4
theorem TY_lv {P A : am_S} {T : Nat → am_T} {D : Nat → Prop} {q : Nat} {L R H v : Int32} (hT : PT P T) (hx : TX P T D A q L R H) : lvC P A ∧ TY P T D (o_lv P A v) := by
  by_cases h1 : fn A = 1
  · refine ⟨fun w => absurd w (by omega), ?_⟩
    unfold o_lv
    rw [if_pos h1]
    exact TY_stop (by decide) (HP_eq (A := A) rfl rfl hx.1.2.2)
  · have h1' : 1 < fn A := by
      have := hx.1.2.1
      omega
    obtain ⟨q', R2, H2, tx, o1, o2, o3⟩ := TX_close hx h1'
    unfold lvC o_lv
    rw [if_neg h1]
    generalize hB : o_close A = B at *
    have hm := AT_m tx.1.1 (show lf B < fn B by have := tx.1.2.1; unfold lf; omega)
    obtain ⟨t1, t2, t3⟩ := tx.2.2.1
    obtain ⟨-, -, R', H', s1, s2, -, -, s3⟩ := (hT.2 _ hm).2.1.2 q' t2 t3
    rw [o1] at s1 s3
    obtain ⟨-, R3, H3, g1, g2, g3⟩ := ss_map (by decide) s1
    rw [o3] at g1
    simp only [Option.some.injEq, Prod.mk.injEq] at g1
    rw [← g1.1, ← g1.2] at g2
    rw [← g1.2] at g3
    have ha := s3 (by decide)
    rw [pZ_184 hT.1 o1] at ha
    have el : lw 184 (pN P (nb P (fm B (lf B)) + q')) (T (fm B (lf B)) 0 q') = T (fm B (lf B)) 0 q' := rfl
    rw [el] at ha
    have hH2 : H2 = nI (sD B) := tx.2.2.2.1
    obtain ⟨k1, k2, k3⟩ := top_i tx.1.1 tx.1.2.1
    have pe : puts P 184 (pN P (nb P (fm B (lf B)) + q')) = if P 6 (fm A (lf A)) = 0 then 0 else 1 := by
      unfold puts
      rw [if_pos rfl, o2]
    rw [pe] at g2 g3
    by_cases c : P 6 (fm A (lf A)) = 0
    · rw [if_pos c, pu_0.1] at g2
      rw [if_pos c, (@pu_0 0 H2).2] at g3
      refine ⟨fun _ w => absurd c w, ?_⟩
      rw [if_pos c]
      rw [g2, g3] at ha
      exact TX_go hT.1 tx ha
    · rw [if_neg c, hH2, (pu_12 (Or.inl rfl)).1] at g2
      rw [if_neg c, hH2, pv_12 (Or.inl rfl)] at g3
      have room : sD B < fhe P B (lf B) := by
        have w := s2
        rw [g3, nI_t (by omega)] at w
        unfold fhe
        omega
      refine ⟨fun _ _ => room, ?_⟩
      rw [if_neg c]
      have h15 : fhe P B (lf B) ≤ 8 := by
        have := (hT.1.2.2 _ hm).2.1
        unfold fhe
        omega
      rw [hH2] at tx
      have tp := TX_push (t := 1) (v := v) (Or.inl rfl) (by omega) room rv_1 tx
      rw [← g2, ← g3] at tp
      exact TX_go hT.1 tp ha
theorem ty_172 {P A : am_S} {T : Nat → am_T} {D : Nat → Prop} {q h : Nat} {n g z : Int32} (hT : PT P T) (hx : TX P T D A q (T (fm A (lf A)) 0 q) (T (fm A (lf A)) 1 q) (nI h)) (hw : wfR (T (fm A (lf A)) 1 q) h) (h5 : h ≤ fhe P A (lf A) ∧ fhe P A (lf A) ≤ 8 ∧ flo P A (lf A) ≤ 8) {R' H' : Int32} (e : ss P (fm A (lf A)) 172 n (T (fm A (lf A)) 1 q) (nI h) = some (R', H')) : ¬ P 6 (fm A (lf A)) = 0 ∧ ∃ A', stC P A 172 n g z A' ∧ TY P T D A' := by
  obtain ⟨n1, n2, n3⟩ := op_no (op := 172) (by decide)
  obtain ⟨e0, R2, H2, e1, e2, e3⟩ := ss_map n3 e
  have d1 : dues P 172 n = [1] := by unfold dues; rw [if_neg (by decide)]; rfl
  rw [d1] at e1
  obtain ⟨R1, h1, a1, a2, a3, a4, a5, a6⟩ := TX_due (Or.inl rfl) (by omega) hw hx e1
  have tl := TY_lv (v := o_val P A) hT a4
  exact ⟨fun w => e0 (Or.inl ⟨rfl, w⟩), _, Or.inr (Or.inr (Or.inr ⟨n1, ⟨fun w => absurd w (by decide), fun w => absurd w (by decide), fun w => absurd w (by decide), fun w => absurd w (by decide), fun w => absurd w (by decide), fun _ => ⟨by omega, tl.1⟩, fun w => absurd w (by decide), mvC_no (by decide), hx.1.2.2.1⟩, rfl⟩)), tl.2⟩
theorem ty_177 {P A : am_S} {T : Nat → am_T} {D : Nat → Prop} {q h : Nat} {n g z : Int32} (hT : PT P T) (hx : TX P T D A q (T (fm A (lf A)) 0 q) (T (fm A (lf A)) 1 q) (nI h)) {R' H' : Int32} (e : ss P (fm A (lf A)) 177 n (T (fm A (lf A)) 1 q) (nI h) = some (R', H')) : P 6 (fm A (lf A)) = 0 ∧ ∃ A', stC P A 177 n g z A' ∧ TY P T D A' := by
  obtain ⟨n1, n2, n3⟩ := op_no (op := 177) (by decide)
  obtain ⟨e0, -⟩ := ss_map n3 e
  have tl := TY_lv (v := 0) hT hx
  exact ⟨Classical.byContradiction fun w => e0 (Or.inr ⟨rfl, w⟩), _, Or.inr (Or.inr (Or.inr ⟨n1, ⟨fun w => absurd w (by decide), fun w => absurd w (by decide), fun w => absurd w (by decide), fun w => absurd w (by decide), fun w => absurd w (by decide), fun w => absurd w (by decide), fun _ => tl.1, mvC_no (by decide), hx.1.2.2.1⟩, rfl⟩)), tl.2⟩

/-! Locals and moves keep types. -/
theorem TX_cell {P A : am_S} {T : Nat → am_T} {D : Nat → Prop} {q k : Nat} {L L' R H v : Int32} (hk : k < flo P A (lf A)) (hL : rv D (ty_at L' (nI k)) v) (ho : ∀ j, j < flo P A (lf A) → ¬ j = k → ty_at L' (nI j) = ty_at L (nI j)) (hx : TX P T D A q L R H) : TX P T D (o_cell A (fb A (lf A) + k) v) q L' R H := by
  obtain ⟨⟨b1, b2, b3⟩, lo, at', f1, f2, f3⟩ := hx
  have ob : ∀ b, ¬ b = 2162 → o_cell A (fb A (lf A) + k) v b = A b := fun b hb => am_up_bank hb
  have oc : ∀ i, o_cell A (fb A (lf A) + k) v 2162 i = if i = fb A (lf A) + k then v else A 2162 i := by
    intro i
    unfold o_cell
    by_cases e : i = fb A (lf A) + k
    · rw [if_pos e, e, am_up_eq]
    · rw [if_neg e, am_up_ne (fun w => e w.2)]
  have bB : BV P (o_cell A (fb A (lf A) + k) v) := by
    refine BV_tops b1 (fun b h1 _ _ => ob b h1) (fun f hf => ?_)
    have := b1.2.1 f hf
    exact ⟨this.2.2.1, this.2.2.2.1⟩
  refine ⟨⟨bB, b2, HP_eq (ob 606 (by decide)) (ob 2161 (by decide)) b3⟩, ?_, at', f1, ?_, ?_⟩
  · refine low_top b1 rfl (fun _ x => x) (ob 2163 (by decide)) (ob 2166 (by decide)) (fun _ _ => by rw [ob 2164 (by decide)]) (fun f hf => by rw [ob 2165 (by decide)]) (fun i hi => ?_) lo
    rw [oc, if_neg (by omega)]
  · intro j hj
    have hj' : j < flo P A (lf A) := hj
    have e : fb (o_cell A (fb A (lf A) + k) v) (lf (o_cell A (fb A (lf A) + k) v)) = fb A (lf A) := rfl
    rw [e, oc]
    by_cases ej : j = k
    · rw [ej, if_pos rfl]
      exact hL
    · rw [if_neg (by omega), ho j hj' ej]
      exact f2 j hj'
  · intro j hj
    have hj' : j < ft A (lf A) := hj
    have e : fb (o_cell A (fb A (lf A) + k) v) (lf (o_cell A (fb A (lf A) + k) v)) = fb A (lf A) := rfl
    have e' : flo P (o_cell A (fb A (lf A) + k) v) (lf (o_cell A (fb A (lf A) + k) v)) = flo P A (lf A) := rfl
    rw [e, e', oc, if_neg (by omega)]
    exact f3 j hj'
theorem rv_1 {D : Nat → Prop} {v : Int32} : rv D 1 v := fun z => absurd z (by decide)
theorem TX_cell12 {P A : am_S} {T : Nat → am_T} {D : Nat → Prop} {q k : Nat} {L R H v t : Int32} (ht : t = 1 ∨ t = 2) (h8 : flo P A (lf A) ≤ 8) (hk : k < flo P A (lf A)) (hv : rv D t v) (hx : TX P T D A q L R H) : TX P T D (o_cell A (fb A (lf A) + k) v) q (ty_with L (nI k) t) R H := by
  refine TX_cell hk ?_ (fun j hj hjk => ?_) hx
  · rw [at_w12 ht (by omega) (by omega), if_pos rfl]
    exact hv
  · rw [at_w12 ht (by omega) (by omega), if_neg hjk]
theorem ty_loc {P A : am_S} {T : Nat → am_T} {D : Nat → Prop} {q h k : Nat} {op g z : Int32} (hT : PT P T) (hx : TX P T D A q (T (fm A (lf A)) 0 q) (T (fm A (lf A)) 1 q) (nI h)) (hw : wfR (T (fm A (lf A)) 1 q) h) (h5 : h ≤ fhe P A (lf A) ∧ fhe P A (lf A) ≤ 8 ∧ flo P A (lf A) ≤ 8) (hc : op_loc op) (hk : k < flo P A (lf A)) (hr : ty_rl op = 0 ∨ ty_at (T (fm A (lf A)) 0 q) (nI k) = ty_rl op) {R' H' : Int32} (e : ss P (fm A (lf A)) op (nI k) (T (fm A (lf A)) 1 q) (nI h) = some (R', H')) (hH : H'.toInt ≤ (fhe P A (lf A) : Int)) (ha : ¬ op = 167 ∧ ¬ op = 172 ∧ ¬ op = 177 → Ar (nl P (fm A (lf A))) (T (fm A (lf A))) ((q : Int) + z.toInt) (lw op (nI k) (T (fm A (lf A)) 0 q)) R' H') : ∃ A', stC P A op (nI k) g z A' ∧ TY P T D A' := by
  have es : sD A = h := by
    have b := top_i hx.1.1 hx.1.2.1
    exact ((nI_i (by omega) (by have e : ft A (lf A) = sD A := rfl; omega)).mp hx.2.2.2.1).symm
  have kI : (nI k).toInt = (k : Int) := nI_t (by omega)
  have kN : (nI k).toInt.toNat = k := by rw [kI]; omega
  have hcl := hc
  unfold op_loc at hc
  rcases hc with w | w | w | w | w <;> subst w
  · obtain ⟨-, R2, H2, e1, e2, e3⟩ := ss_map (by decide) e
    have d1 : dues P 21 (nI k) = [] := by unfold dues; rw [if_neg (by decide)]; rfl
    have d2 : puts P 21 (nI k) = 1 := by unfold puts; rw [if_neg (by decide)]; rfl
    rw [d1] at e1
    rw [d2] at e2 e3
    simp only [pops, Option.some.injEq, Prod.mk.injEq] at e1
    rw [← e1.1, ← e1.2, (pu_12 (Or.inl rfl)).1] at e2
    rw [← e1.2, pv_12 (Or.inl rfl)] at e3
    rw [e3, nI_t (by omega)] at hH
    have tp := TX_push (t := 1) (v := A 2162 (fb A (lf A) + k)) (Or.inl rfl) (by omega) (by omega) rv_1 hx
    rw [← e2, ← e3] at tp
    refine ⟨_, Or.inr (Or.inr (Or.inl ⟨hcl, ⟨fun _ => by omega, fun w => absurd (Or.inl rfl) w, by omega, by omega⟩, rfl⟩)), ?_⟩
    rw [kN]
    exact TX_go hT.1 tp (ha (by decide))
  · obtain ⟨-, R2, H2, e1, e2, e3⟩ := ss_map (by decide) e
    have d1 : dues P 25 (nI k) = [] := by unfold dues; rw [if_neg (by decide)]; rfl
    have d2 : puts P 25 (nI k) = 2 := by unfold puts; rw [if_neg (by decide)]; rfl
    rw [d1] at e1
    rw [d2] at e2 e3
    simp only [pops, Option.some.injEq, Prod.mk.injEq] at e1
    rw [← e1.1, ← e1.2, (pu_12 (Or.inr rfl)).1] at e2
    rw [← e1.2, pv_12 (Or.inr rfl)] at e3
    rw [e3, nI_t (by omega)] at hH
    have r2 : ty_at (T (fm A (lf A)) 0 q) (nI k) = 2 := by
      rcases hr with w | w
      · exact absurd w (by decide)
      · exact w
    have hv2 : rv D 2 (A 2162 (fb A (lf A) + k)) := by
      have := hx.2.2.2.2.1 k hk
      rw [r2] at this
      exact this
    have tp := TX_push (t := 2) (v := A 2162 (fb A (lf A) + k)) (Or.inr rfl) (by omega) (by omega) hv2 hx
    rw [← e2, ← e3] at tp
    refine ⟨_, Or.inr (Or.inr (Or.inl ⟨hcl, ⟨fun _ => by omega, fun w => absurd (Or.inr rfl) w, by omega, by omega⟩, rfl⟩)), ?_⟩
    rw [kN]
    exact TX_go hT.1 tp (ha (by decide))
  · obtain ⟨-, R2, H2, e1, e2, e3⟩ := ss_map (by decide) e
    have d1 : dues P 54 (nI k) = [1] := by unfold dues; rw [if_neg (by decide)]; rfl
    have d2 : puts P 54 (nI k) = 0 := by unfold puts; rw [if_neg (by decide)]; rfl
    rw [d1] at e1
    rw [d2, pu_0.1] at e2
    rw [d2, (@pu_0 0 H2).2] at e3
    obtain ⟨R1, h1, a1, a2, a3, a4, a5, a6⟩ := TX_due (Or.inl rfl) (by omega) hw hx e1
    simp only [pops, Option.some.injEq, Prod.mk.injEq] at a6
    rw [a6.1, a6.2, ← e2, ← e3] at a4
    have tc := TX_cell12 (A := o_pop A) (t := 1) (v := o_val P A) (k := k) (Or.inl rfl) h5.2.2 hk rv_1 a4
    refine ⟨_, Or.inr (Or.inr (Or.inl ⟨hcl, ⟨fun w => absurd w (by decide), fun _ _ => by omega, by omega, by omega⟩, rfl⟩)), ?_⟩
    rw [kN]
    exact TX_go hT.1 tc (ha (by decide))
  · obtain ⟨-, R2, H2, e1, e2, e3⟩ := ss_map (by decide) e
    have d1 : dues P 58 (nI k) = [2] := by unfold dues; rw [if_neg (by decide)]; rfl
    have d2 : puts P 58 (nI k) = 0 := by unfold puts; rw [if_neg (by decide)]; rfl
    rw [d1] at e1
    rw [d2, pu_0.1] at e2
    rw [d2, (@pu_0 0 H2).2] at e3
    obtain ⟨R1, h1, a1, a2, a3, a4, a5, a6⟩ := TX_due (Or.inr rfl) (by omega) hw hx e1
    simp only [pops, Option.some.injEq, Prod.mk.injEq] at a6
    rw [a6.1, a6.2, ← e2, ← e3] at a4
    have tc := TX_cell12 (A := o_pop A) (t := 2) (v := o_val P A) (k := k) (Or.inr rfl) h5.2.2 hk a3 a4
    refine ⟨_, Or.inr (Or.inr (Or.inl ⟨hcl, ⟨fun w => absurd w (by decide), fun _ _ => by omega, by omega, by omega⟩, rfl⟩)), ?_⟩
    rw [kN]
    exact TX_go hT.1 tc (ha (by decide))
  · obtain ⟨-, R2, H2, e1, e2, e3⟩ := ss_map (by decide) e
    have d1 : dues P 132 (nI k) = [] := by unfold dues; rw [if_neg (by decide)]; rfl
    have d2 : puts P 132 (nI k) = 0 := by unfold puts; rw [if_neg (by decide)]; rfl
    rw [d1] at e1
    rw [d2, pu_0.1] at e2
    rw [d2, (@pu_0 0 H2).2] at e3
    simp only [pops, Option.some.injEq, Prod.mk.injEq] at e1
    rw [e1.1, e1.2, ← e2, ← e3] at hx
    have r1 : ty_at (T (fm A (lf A)) 0 q) (nI k) = 1 := by
      rcases hr with w | w
      · exact absurd w (by decide)
      · exact w
    have tc := TX_cell (L' := T (fm A (lf A)) 0 q) (v := A 2162 (fb A (lf A) + k) + g) (k := k) hk (by rw [r1]; exact rv_1) (fun j hj hjk => rfl) hx
    refine ⟨_, Or.inr (Or.inr (Or.inl ⟨hcl, ⟨fun w => absurd w (by decide), fun _ w => absurd rfl w, by omega, by omega⟩, rfl⟩)), ?_⟩
    rw [kN]
    exact TX_go hT.1 tc (ha (by decide))

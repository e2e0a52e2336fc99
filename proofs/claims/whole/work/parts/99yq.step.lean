/-! Every turn keeps the invariant. -/
theorem pu_step {L : Nat} {xs : Nat → Int32} (hL : L ≤ 3072) : ∀ j a b st, 6 * j + 6 ≤ L → pu_INV j st → lw_it L xs (fun i st' => i = nI (6 * j) ∧ pu_INV (j + 1) st') (nI (6 * j)) a b st := by
  intro j a b st hj w
  have it : (nI (6 * j)).toInt = ((6 * j : Nat) : Int) := nI_t (by omega)
  have i0 : 0 ≤ (nI (6 * j)).toInt := by omega
  have i6 : (nI (6 * j)).toInt + 6 ≤ (L : Int) := by omega
  have h576 : ∀ v, nI (6 * j) = nI (6 * j) ∧ pu_INV (j + 1) (am_up st 576 0 v) := fun v => ⟨rfl, INV_576 w⟩
  obtain ⟨⟨e0, e1, ⟨f1, f2, f3, f4, f5⟩, ⟨f6, f7, f8, f9, f10⟩, f11, f12⟩, b1, b2, b3, b4, b5, a2, a3, a4⟩ := IA_ge w.1.1
  obtain ⟨⟨g1, g2⟩, g3, g4, g5⟩ := w.1.2
  obtain ⟨k1, k2, k3, k4, k5, k6⟩ := LKm w
  have e579 : st 579 0 = st 323 0 := by rw [f11]
  have e577 : st 577 0 = st 322 0 := by rw [f12]
  refine la_head i0 i6 hL (fun _ => ?_) (fun _ => ?_) (fun _ => ?_) (fun _ => ?_) (fun _ => ?_) (fun _ => ?_) (fun _ => ?_) (fun _ => ?_) (fun _ => ?_) (fun _ => ?_) (fun _ => ?_) (fun _ => ?_) (fun _ => ?_) (fun _ => ?_) (fun _ => ?_) (fun _ => ?_) (fun _ => ?_) (fun _ => ?_) (fun _ => ?_)
  · exact la_0 i0 i6 hL b1.2.2.1 b1.2.2.2 e577 g1 (fun _ => h576 1) (fun k => ⟨rfl, tn_0 w k⟩)
  · by_cases e : xs (nI (6 * j) + 5).toNatClampNeg = 0
    · exact la_1 i0 i6 hL (g := 0) (Or.inl ⟨e, rfl⟩) b1.1 b1.2.1 e579 g1 e577 a3 (fun _ => h576 1) (fun _ => h576 2) (fun k => ⟨rfl, tn_1 w (Or.inl rfl) k⟩)
    · exact la_1 i0 i6 hL (g := 1) (Or.inr ⟨e, rfl⟩) b1.1 b1.2.1 e579 g1 e577 a3 (fun _ => h576 1) (fun _ => h576 2) (fun k => ⟨rfl, tn_1 w (Or.inr rfl) k⟩)
  · exact la_2 i0 i6 hL b1.1 b1.2.1 (a2 _).1 (a2 _).2 e579 g1 (by rw [e579, f6]) (fun _ => h576 0) (fun k => ⟨rfl, tn_2 w k⟩)
  · exact la_3 i0 i6 hL (tn_3 (j' := j + 1) w (fun s hs => ⟨rfl, hs⟩))
  · exact la_4 g2 (h576 0)
  · exact la_5 ⟨rfl, tn_5 w⟩
  · exact la_6 i0 i6 hL g3.1 g3.2 g4 (fun _ => h576 0) (fun k => ⟨rfl, tn_6 w k⟩)
  · exact la_7 i0 i6 hL (tn_7 (j' := j + 1) w (fun s hs => ⟨rfl, hs⟩))
  · exact la_8 i0 i6 hL (tn_8 (j' := j + 1) w (fun s hs => ⟨rfl, hs⟩))
  · exact la_9 k1 (h576 0)
  · exact la_10 k2 (h576 0)
  · exact la_11 (tn_11 w) (h576 0)
  · exact tn_12 w i0 i6 hL (h576 0)
  · exact tn_13 w i0 i6 hL (h576 0)
  · exact tn_14 w i0 i6 hL (h576 0)
  · exact la_15 i0 i6 hL k3 (h576 0)
  · exact la_16 i0 i6 hL k4.1 k4.2 k5 k6 (h576 0)
  · exact la_17 i0 i6 hL (tn_17 (j' := j + 1) w (fun s hs => ⟨rfl, hs⟩))
  · exact ⟨rfl, INV_md (fun _ _ _ => rfl) w⟩

/-! the world at the law's loop; written by wip/whole/gen/world0.py -/
def ck_ord (o : Nat) : Nat := if o < 80 then 66 + o else if o < 88 then 4 + 6 * (o - 80) else if o < 120 then 6 + 6 * ((o - 88) / 4) + (o - 88) % 4 else if 168 ≤ o then 5 + 6 * (o - 168) else if 142 ≤ o ∧ o < 167 then o + 8 else match o with
  | 120 => 53
  | 121 => 56
  | 122 => 63
  | 123 => 0
  | 124 => 1
  | 125 => 52
  | 126 => 55
  | 127 => 62
  | 128 => 149
  | 129 => 2
  | 130 => 3
  | 131 => 54
  | 132 => 57
  | 133 => 58
  | 134 => 59
  | 135 => 60
  | 136 => 61
  | 137 => 64
  | 138 => 65
  | 139 => 146
  | 140 => 147
  | 141 => 148
  | 167 => 175
  | _ => 0
/-- the store when the loop begins -/
def st0 : am_S := fun b _ => if b = 263 ∨ b = 592 then -1 else 0
def ck_cv (v : am_V) : ck_V := match v with
  | .inl x => .inl x
  | .inr (.inl o) => .inr (some (ck_ord o))
  | .inr (.inr _) => .inr none
def ck_abs (o : Nat) : ck_C := match fw_ki o with
  | some (ci, i) => .inl (ci, (fw_fs st0 ci i).map ck_cv)
  | none => (match fw_ar o with
    | some (t, n) => .inr (t, n, if t = 0 ∨ t = 1 ∨ t = 5 then [] else (List.range n).map (fun i => some (ck_ord (fw_rf o i))))
    | none => .inr (0, 0, []))
abbrev ck_l3 : List ck_C := kl_38
def ck_b1 (x : Option ck_C) (y : ck_C) : Bool := match x with
  | some c => ck_bc c y
  | none => false
set_option maxRecDepth 1000000 in
theorem ck_l3_ok : (List.range 176).all (fun o => ck_b1 (ck_l3[ck_ord o]?) (ck_abs o)) = true := by decide +kernel
theorem ck_l3_at {o : Nat} (h : o < 176) : ck_l3[ck_ord o]? = some (ck_abs o) := by
  have h1 := List.all_eq_true.mp ck_l3_ok o (List.mem_range.mpr h)
  cases hx : ck_l3[ck_ord o]? with
  | none => rw [hx] at h1; cases h1
  | some c =>
    rw [hx] at h1
    rw [ck_bc_eq _ _ h1]
theorem ck_len : kl_0.length = 1 ∧ kl_34.length = 149 ∧ kl_35.length = 150 ∧ kl_37.length = 175 ∧ ck_l3.length = 176 := by decide +kernel
set_option maxRecDepth 1000000 in
theorem ck_ord_inj : ∀ i, i < 176 → ∀ j, j < 176 → ck_ord i = ck_ord j → i = j := by decide +kernel
def lw_lay (bs b : Nat) : Nat → Nat := fun o => if o = 176 then bs else b + ck_ord o
theorem lw_lay_lt {bs b o : Nat} (h : o < 176) : lw_lay bs b o = b + ck_ord o := by
  unfold lw_lay
  rw [if_neg (by omega)]
theorem ck_val {bs b ci i j : Nat} (hr : ∀ o, fw_val st0 ci i j = .inr (.inl o) → o < 176) : ck_g b (ck_cv (fw_val st0 ci i j)) = am_g (lw_lay bs b) (fw_val st0 ci i j) := by
  cases h : fw_val st0 ci i j with
  | inl x => rfl
  | inr q =>
    cases q with
    | inl o =>
      show Value.ref (b + ck_ord o) = Value.ref (lw_lay bs b o)
      rw [lw_lay_lt (hr o h)]
    | inr z =>
      exfalso
      unfold fw_val at h
      split at h <;> cases h
theorem ck_refs : ∀ ci, ci < 10 → ∀ i, i < 80 → ∀ j, j < fw_n ci → ∀ o, fw_val st0 ci i j = .inr (.inl o) → i < (if ci = 0 then 80 else if ci = 1 then 8 else if ci = 2 then 32 else if ci = 3 then 3 else 1) → o < 176 := by
  intro ci hci i hi j hj o h hlt
  unfold fw_val at h
  split at h
  · cases h
  · cases h
  · cases h
    have : (st0 (64 * ci + j) i).toNatClampNeg = 0 := by
      unfold st0
      split <;> rfl
    omega
  · cases h
    have : (st0 (64 * ci + j) i).toNatClampNeg = 0 := by
      unfold st0
      split <;> rfl
    omega
  · cases h
    have key : ∀ ci, ci < 10 → ∀ j, j < fw_n ci → (ci ≠ 1 → fw_fx ci 0 j < 176) := by decide +kernel
    by_cases h1 : ci = 1
    · subst h1
      have : fw_fx 1 i j ≤ i + 168 := by
        have k9 : ∀ j, j < 9 → j ≠ 1 → fw_fx 1 i j = 0 := by
          intro j hj h1
          have h10 : j = 0 ∨ j = 2 ∨ j = 3 ∨ j = 4 ∨ j = 5 ∨ j = 6 ∨ j = 7 ∨ j = 8 := by omega
          rcases h10 with rfl | rfl | rfl | rfl | rfl | rfl | rfl | rfl <;> rfl
        by_cases hj1 : j = 1
        · subst hj1
          exact Nat.le_refl _
        · rw [k9 j hj hj1]
          omega
      rw [if_neg (by decide), if_pos rfl] at hlt
      omega
    · have e1 : fw_fx ci i j = fw_fx ci 0 j := by
        unfold fw_fx
        split <;> first | rfl | exact absurd rfl h1
      rw [e1]
      exact key ci hci j hj h1
  · cases h
theorem ck_arrV {cA : ClassId} {n : Nat} {f g : Nat → Value} (h : ∀ i, i < n → f i = g i) : arrV cA n f = arrV cA n g := by
  unfold arrV
  congr 1
  apply Array.ext
  · simp
  · intro i h1 h2
    simp at h1
    simp [h i h1]
theorem ck_fin {D : va_G} {dA : Nat → ClassId} {H : Heap} {bs b : Nat} (hP : va_P D fw_cl (ck_W b dA ck_l3) H) : va_P D fw_cl (fw_W (lw_lay bs b) dA st0) H := by
  intro k q hq
  obtain ⟨hk, rfl⟩ := fw_W_lt hq
  have h := hP (ck_ord k) _ (ck_W_at (ck_l3_at hk))
  rw [lw_lay_lt hk]
  unfold fw_cell
  unfold ck_abs ck_e at h
  cases hki : fw_ki k with
  | some ci =>
    obtain ⟨ci, i⟩ := ci
    rw [hki] at h
    dsimp only at h ⊢
    have hinv := fw_ki_inv hki
    have e1 : ((fw_fs st0 ci i).map ck_cv).map (ck_g b) = (fw_fs st0 ci i).map (am_g (lw_lay bs b)) := by
      rw [List.map_map]
      apply List.map_congr_left
      intro v hv
      unfold fw_fs at hv
      obtain ⟨j, hj, rfl⟩ := List.mem_map.mp hv
      have hj := List.mem_range.mp hj
      refine ck_val (fun o ho => ck_refs ci (fw_ki_ci hki) i (by omega) j hj o ho ?_)
      rcases hinv with h | h | h | h | h
      · rw [if_pos h.2.1]; omega
      · rw [if_neg (by omega), if_pos h.2.2.1]; omega
      · rw [if_neg (by omega), if_neg (by omega), if_pos h.2.2.1]; omega
      · rw [if_neg (by omega), if_neg (by omega), if_neg (by omega), if_pos h.2.2.1]; omega
      · rw [if_neg (by omega), if_neg (by omega), if_neg (by omega), if_neg (by omega)]; omega
    rw [e1] at h
    exact h
  | none =>
    rw [hki] at h
    dsimp only at h ⊢
    cases har : fw_ar k with
    | none => 
      exfalso
      have h1 := fw_ki_no hki
      have key : ∀ k, k < 176 → 129 ≤ k → fw_ar k ≠ none := by decide +kernel
      exact key k hk h1 har
    | some tn =>
      obtain ⟨t, n⟩ := tn
      rw [har] at h
      dsimp only at h ⊢
      have hz : ∀ i, st0 (2000 + k) i = 0 := by
        intro i
        unfold st0
        rw [if_neg (by omega)]
      have h' : H[b + ck_ord k]? = some (vp_cell (dA t) (n, ck_ar b t (if t = 0 ∨ t = 1 ∨ t = 5 then [] else (List.range n).map (fun i => some (ck_ord (fw_rf k i)))))) := h
      show H[b + ck_ord k]? = some (vp_cell (dA t) (n, _))
      rw [h']
      congr 1
      by_cases h01 : t = 0 ∨ t = 1
      · unfold ck_ar
        rw [if_pos h01, if_pos h01]
        congr 3
        funext i
        exact (hz i).symm
      · by_cases h5 : t = 5
        · subst h5
          unfold ck_ar
          rw [if_neg h01, if_pos rfl, if_neg h01, if_pos rfl]
          congr 4
          funext i
          rw [hz i]
          rfl
        · have hno : ¬ (t = 0 ∨ t = 1 ∨ t = 5) := by omega
          rw [if_neg hno]
          unfold ck_ar
          rw [if_neg h01, if_neg h5, if_neg h01, if_neg h5]
          rw [vp_cell_q, vp_cell_q]
          apply ck_arrV
          intro i hi
          have hr : fw_rf k i < 176 := by
            have key : ∀ k, k < 176 → ∀ t n, fw_ar k = some (t, n) → ¬ (t = 0 ∨ t = 1 ∨ t = 5) → ∀ i, i < n → fw_rf k i < 176 := by
              have k2 : ∀ k, k < 176 → (match fw_ar k with | some (t, n) => if t = 0 ∨ t = 1 ∨ t = 5 then true else (List.range n).all (fun i => decide (fw_rf k i < 176)) | none => true) = true := by decide +kernel
              intro k hk t n h hno i hi
              have h9 := k2 k hk
              rw [h] at h9
              dsimp only at h9
              rw [if_neg hno] at h9
              exact of_decide_eq_true (List.all_eq_true.mp h9 i (List.mem_range.mpr hi))
            exact key k hk t n har hno i hi
          have e1 : ((List.range n).map (fun i => some (ck_ord (fw_rf k i)))).getD i none = some (ck_ord (fw_rf k i)) := by
            rw [List.getD_eq_getElem?_getD, List.getElem?_map, List.getElem?_range hi]
            rfl
          rw [e1, lw_lay_lt hr]
          rfl

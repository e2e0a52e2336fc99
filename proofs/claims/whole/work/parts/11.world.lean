/-! The cells of the class's object, of the reference's object and of the law's row 'out', by numbers: Frame 0..79, Method 80..87, Handler 88..119, Instruction 120..122, FrameWalk 123, Code 124, Shape 125, Flow 126, Machine 127, FrameWalkModel 128, arrays from 129 on. The number of a class: Frame 0, Method 1, Handler 2, Instruction 3, FrameWalk 4, Code 5, Shape 6, Flow 7, Machine 8, FrameWalkModel 9. Field j of class c of the object with index i lies in the store at (64 * c + j, i), element i of array o at (2000 + o, i). -/
def fw_ki (o : Nat) : Option (Nat × Nat) := if o < 80 then some (0, o) else if o < 88 then some (1, o - 80) else if o < 120 then some (2, o - 88) else if o < 123 then some (3, o - 120) else if o < 129 then some (o - 119, 0) else none
def fw_val (st : am_S) (ci i j : Nat) : am_V := match fw_kd ci j with
  | 0 => .inl (st (64 * ci + j) i)
  | 1 => .inl (st (64 * ci + j) i)
  | 2 => .inr (.inl ((st (64 * ci + j) i).toNatClampNeg + 80))
  | 3 => .inr (.inl (st (64 * ci + j) i).toNatClampNeg)
  | 4 => .inr (.inl (fw_fx ci i j))
  | _ => .inl (nI i)
def fw_fs (st : am_S) (ci i : Nat) : List am_V := (List.range (fw_n ci)).map (fw_val st ci i)
def fw_ob (st : am_S) (o : Nat) : Option (Nat × List am_V) := match fw_ki o with
  | some (ci, i) => some (ci, fw_fs st ci i)
  | none => none
def fw_rf (o i : Nat) : Nat := if o = 130 then i + 80 else if o = 138 then i else 4 * (o - 168) + i + 88
def fw_wv (st : am_S) (ci i j : Nat) (v : am_V) : Option am_S := match fw_kd ci j, v with
  | 0, .inl x => some (am_up st (64 * ci + j) i x)
  | 1, .inl x => if x = 0 ∨ x = 1 then some (am_up st (64 * ci + j) i x) else none
  | 2, .inr (.inl o) => if 80 ≤ o ∧ o < 88 then some (am_up st (64 * ci + j) i (nI (o - 80))) else none
  | 3, .inr (.inl o) => if o < 80 then some (am_up st (64 * ci + j) i (nI o)) else none
  | _, _ => none
def fw_wr (st : am_S) (o ci j : Nat) (v : am_V) : Option am_S := match fw_ki o with
  | some (c, i) => if c = ci ∧ j < fw_n ci then fw_wv st ci i j v else none
  | none => none
def fw_al (ins : Instr) (st : am_S) (o : Nat) (i : Int32) : Option (Nat × am_V) := match fw_ar o with
  | some (t, n) => (match ins with
    | .iaload => if t = 0 then some (n, .inl (st (2000 + o) i.toNatClampNeg)) else none
    | .baload => if t = 1 then some (n, .inl (st (2000 + o) i.toNatClampNeg)) else none
    | .laload => if t = 5 then some (n, .inr (.inr (st (2000 + o) i.toNatClampNeg).toInt64)) else none
    | .aaload => if 2 ≤ t ∧ t ≤ 4 then some (n, .inr (.inl (fw_rf o i.toNatClampNeg))) else none
    | _ => none)
  | none => none
def fw_as (ins : Instr) (st : am_S) (o : Nat) (i : Int32) (v : am_V) : Option (Nat × am_S) := match fw_ar o, v with
  | some (t, n), .inl x => (match ins with
    | .iastore => if t = 0 then some (n, am_up st (2000 + o) i.toNatClampNeg x) else none
    | .bastore => if t = 1 ∧ (x = 0 ∨ x = 1) then some (n, am_up st (2000 + o) i.toNatClampNeg x) else none
    | _ => none)
  | some (t, n), .inr (.inr z) => (match ins with
    | .lastore => if t = 5 ∧ z.toInt32.toInt64 = z then some (n, am_up st (2000 + o) i.toNatClampNeg z.toInt32) else none
    | _ => none)
  | _, _ => none
def fw_cell (lay : Nat → Nat) (dA : Nat → ClassId) (st : am_S) (o : Nat) : va_E := match fw_ki o with
  | some (ci, i) => .inr (ci, (fw_fs st ci i).map (am_g lay))
  | none => (match fw_ar o with
    | some (t, n) => .inl (dA t, n, if t = 0 ∨ t = 1 then .inl (st (2000 + o)) else if t = 5 then .inr (.inl (fun i => (st (2000 + o) i).toInt64)) else .inr (.inr (.inr (.inr (fun i => some (lay (fw_rf o i)))))))
    | none => .inl (dA 0, 0, .inl (fun _ => 0)))
def fw_W (lay : Nat → Nat) (dA : Nat → ClassId) (st : am_S) : va_W := (List.range 176).map (fun o => (lay o, fw_cell lay dA st o))
theorem fw_W_at {lay : Nat → Nat} {dA : Nat → ClassId} {st : am_S} {o : Nat} (h : o < 176) : (fw_W lay dA st)[o]? = some (lay o, fw_cell lay dA st o) := by
  simp [fw_W, h]
theorem fw_W_len {lay : Nat → Nat} {dA : Nat → ClassId} {st : am_S} : (fw_W lay dA st).length = 176 := by simp [fw_W]
theorem fw_W_set {lay : Nat → Nat} {dA : Nat → ClassId} {st st' : am_S} {o : Nat} {e : va_E} (ho : o < 176) (h1 : fw_cell lay dA st' o = e) (h2 : ∀ o', o' < 176 → ¬ o' = o → fw_cell lay dA st' o' = fw_cell lay dA st o') : (fw_W lay dA st).set o (lay o, e) = fw_W lay dA st' := by
  apply List.ext_getElem?
  intro i
  by_cases hi : i < 176
  · rw [fw_W_at hi, List.getElem?_set]
    by_cases h : o = i
    · subst h
      rw [if_pos rfl, if_pos (by rw [fw_W_len]; exact ho), h1]
    · rw [if_neg h, fw_W_at hi, h2 i hi (fun q => h q.symm)]
  · rw [List.getElem?_eq_none (by rw [List.length_set, fw_W_len]; omega), List.getElem?_eq_none (by rw [fw_W_len]; omega)]
def fw_lay (A : Nat → Prop) (lay : Nat → Nat) : Prop := (∀ i j, i < 176 → j < 176 → lay i = lay j → i = j) ∧ ∀ o, o < 176 → A (lay o)
theorem fw_W_lt {lay : Nat → Nat} {dA : Nat → ClassId} {st : am_S} {k : Nat} {q : Nat × va_E} (h : (fw_W lay dA st)[k]? = some q) : k < 176 ∧ q = (lay k, fw_cell lay dA st k) := by
  have hk : k < 176 := by
    have h1 := (List.getElem?_eq_some_iff.mp h).1
    rw [fw_W_len] at h1
    exact h1
  rw [fw_W_at hk] at h
  exact ⟨hk, (Option.some.inj h).symm⟩
theorem fw_W_D {A : Nat → Prop} {lay : Nat → Nat} {dA : Nat → ClassId} {st : am_S} (h : fw_lay A lay) : va_D A (fw_W lay dA st) := by
  refine ⟨fun i j x y hx hy hxy => ?_, fun k q hq => ?_⟩
  · obtain ⟨hi, rfl⟩ := fw_W_lt hx
    obtain ⟨hj, rfl⟩ := fw_W_lt hy
    exact h.1 i j hi hj hxy
  · obtain ⟨hk, rfl⟩ := fw_W_lt hq
    exact h.2 k hk
-- what a number of a cell says
theorem fw_ki_lt {o ci i : Nat} (h : fw_ki o = some (ci, i)) : o < 129 := by
  unfold fw_ki at h
  split at h
  · omega
  · split at h
    · omega
    · split at h
      · omega
      · split at h
        · omega
        · split at h
          · omega
          · cases h
theorem fw_ki_ge {o : Nat} (h : ¬ o < 129) : fw_ki o = none := by
  unfold fw_ki
  rw [if_neg (by omega), if_neg (by omega), if_neg (by omega), if_neg (by omega), if_neg h]
theorem fw_ki_inv {o ci i : Nat} (h : fw_ki o = some (ci, i)) : (o < 80 ∧ ci = 0 ∧ i = o) ∨ (80 ≤ o ∧ o < 88 ∧ ci = 1 ∧ i = o - 80) ∨ (88 ≤ o ∧ o < 120 ∧ ci = 2 ∧ i = o - 88) ∨ (120 ≤ o ∧ o < 123 ∧ ci = 3 ∧ i = o - 120) ∨ (123 ≤ o ∧ o < 129 ∧ ci = o - 119 ∧ i = 0) := by
  unfold fw_ki at h
  by_cases h1 : o < 80
  · rw [if_pos h1] at h
    cases h
    omega
  · rw [if_neg h1] at h
    by_cases h2 : o < 88
    · rw [if_pos h2] at h
      cases h
      omega
    · rw [if_neg h2] at h
      by_cases h3 : o < 120
      · rw [if_pos h3] at h
        cases h
        omega
      · rw [if_neg h3] at h
        by_cases h4 : o < 123
        · rw [if_pos h4] at h
          cases h
          omega
        · rw [if_neg h4] at h
          by_cases h5 : o < 129
          · rw [if_pos h5] at h
            cases h
            omega
          · rw [if_neg h5] at h
            cases h
theorem fw_ki_inj {o o' ci i : Nat} (h : fw_ki o = some (ci, i)) (h' : fw_ki o' = some (ci, i)) : o' = o := by
  have a := fw_ki_inv h
  have b := fw_ki_inv h'
  omega
theorem fw_ki_ci {o ci i : Nat} (h : fw_ki o = some (ci, i)) : ci < 10 := by
  have a := fw_ki_inv h
  omega
theorem fw_ki_no {o : Nat} (h : fw_ki o = none) : 129 ≤ o := by
  refine Nat.not_lt.mp (fun h5 => ?_)
  unfold fw_ki at h
  rw [if_pos h5] at h
  split at h
  · cases h
  · split at h
    · cases h
    · split at h
      · cases h
      · split at h
        · cases h
        · cases h
theorem fw_n_lt (ci : Nat) : fw_n ci ≤ 64 := by
  unfold fw_n
  split <;> omega
-- a write
theorem fw_val_other {st : am_S} {ci i j ci' i' j' : Nat} {x : Int32} (hj : j < 64) (hj' : j' < 64) (h : ¬ (ci' = ci ∧ i' = i ∧ j' = j)) : fw_val (am_up st (64 * ci + j) i x) ci' i' j' = fw_val st ci' i' j' := by
  have h1 : am_up st (64 * ci + j) i x (64 * ci' + j') i' = st (64 * ci' + j') i' := am_up_ne (fun q => h (by omega))
  unfold fw_val
  split <;> (try rw [h1]) <;> rfl
theorem fw_val_arr {st : am_S} {o e ci i j : Nat} {x : Int32} (hj : j < 64) (hc : ci < 10) : fw_val (am_up st (2000 + o) e x) ci i j = fw_val st ci i j := by
  have h1 : am_up st (2000 + o) e x (64 * ci + j) i = st (64 * ci + j) i := am_up_ne (fun q => by omega)
  unfold fw_val
  split <;> (try rw [h1]) <;> rfl
theorem fw_wv_ok {st st' : am_S} {ci i j : Nat} {v : am_V} (h : fw_wv st ci i j v = some st') : (∃ x, st' = am_up st (64 * ci + j) i x) ∧ fw_val st' ci i j = v := by
  unfold fw_wv at h
  split at h
  · rename_i hk
    cases h
    refine ⟨⟨_, rfl⟩, ?_⟩
    simp [fw_val, hk, am_up_eq]
  · rename_i hk
    split at h
    · cases h
      refine ⟨⟨_, rfl⟩, ?_⟩
      simp [fw_val, hk, am_up_eq]
    · cases h
  · rename_i hk
    split at h
    · rename_i ho
      cases h
      refine ⟨⟨_, rfl⟩, ?_⟩
      simp only [fw_val, hk, am_up_eq]
      rw [nI_clamp (by omega)]
      congr 2
      omega
    · cases h
  · rename_i hk
    split at h
    · rename_i ho
      cases h
      refine ⟨⟨_, rfl⟩, ?_⟩
      simp only [fw_val, hk, am_up_eq]
      rw [nI_clamp (by omega)]
    · cases h
  · cases h
theorem fw_cell_put {lay : Nat → Nat} {dA : Nat → ClassId} {st st' : am_S} {o ci i j : Nat} {v : am_V} (hk : fw_ki o = some (ci, i)) (hj : j < fw_n ci) (h : fw_wv st ci i j v = some st') :
    (fw_W lay dA st).set o (lay o, .inr (ci, ((fw_fs st ci i).map (am_g lay)).set j (am_g lay v))) = fw_W lay dA st' := by
  obtain ⟨⟨x, rfl⟩, hv⟩ := fw_wv_ok h
  have hn := fw_n_lt ci
  have ho := fw_ki_lt hk
  refine fw_W_set (by omega) ?_ ?_
  · unfold fw_cell
    rw [hk]
    show Sum.inr _ = Sum.inr _
    congr 2
    apply List.ext_getElem?
    intro a
    rw [List.getElem?_set]
    by_cases ha : a < fw_n ci
    · by_cases hja : j = a
      · subst hja
        rw [if_pos rfl, if_pos (by simp [fw_fs, ha])]
        simp [fw_fs, ha, hv]
      · rw [if_neg hja]
        simp only [fw_fs, List.map_map, List.getElem?_map, List.getElem?_range ha, Option.map_some, Function.comp]
        rw [fw_val_other (by omega) (by omega) (by omega)]
    · rw [List.getElem?_eq_none (by simp [fw_fs]; omega), if_neg (by omega), List.getElem?_eq_none (by simp [fw_fs]; omega)]
  · intro o' ho' hne
    unfold fw_cell
    cases hk' : fw_ki o' with
    | some q =>
      obtain ⟨ci', i'⟩ := q
      show Sum.inr _ = Sum.inr _
      congr 3
      unfold fw_fs
      apply List.map_congr_left
      intro a ha
      have ha := List.mem_range.mp ha
      have hn' := fw_n_lt ci'
      refine fw_val_other (by omega) (by omega) (fun z => ?_)
      obtain ⟨rfl, rfl, -⟩ := z
      exact hne (fw_ki_inj hk hk')
    | none =>
      have hge := fw_ki_no hk'
      have hci := fw_ki_ci hk
      dsimp only
      cases fw_ar o' with
      | none => rfl
      | some q =>
        obtain ⟨t, n⟩ := q
        dsimp only
        rw [am_up_bank (by omega)]
theorem fw_cell_arr {lay : Nat → Nat} {dA : Nat → ClassId} {st : am_S} {o t n e : Nat} {x : Int32} (h176 : o < 176) (hk : fw_ki o = none) (ha : fw_ar o = some (t, n)) (ht : t = 0 ∨ t = 1) :
    (fw_W lay dA st).set o (lay o, .inl (dA t, n, .inl (upd (st (2000 + o)) e x))) = fw_W lay dA (am_up st (2000 + o) e x) := by
  refine fw_W_set h176 ?_ ?_
  · unfold fw_cell
    rw [hk]
    dsimp only
    rw [ha]
    dsimp only
    rw [if_pos ht, am_up_upd]
  · intro o' ho' hne
    unfold fw_cell
    cases hk' : fw_ki o' with
    | some q =>
      obtain ⟨ci', i'⟩ := q
      show Sum.inr _ = Sum.inr _
      congr 3
      unfold fw_fs
      apply List.map_congr_left
      intro a ha
      have ha := List.mem_range.mp ha
      have hn' := fw_n_lt ci'
      exact fw_val_arr (by omega) (fw_ki_ci hk')
    | none =>
      dsimp only
      cases fw_ar o' with
      | none => rfl
      | some q =>
        obtain ⟨t, n⟩ := q
        dsimp only
        rw [am_up_bank (by omega)]
theorem fw_ar_lt {o t n : Nat} (h : fw_ar o = some (t, n)) : 129 ≤ o ∧ o < 176 := by
  unfold fw_ar at h
  split at h
  · omega
  · split at h <;> first | omega | cases h
theorem fw_ar_t {o t n : Nat} (h : fw_ar o = some (t, n)) : t ≤ 5 := by
  unfold fw_ar at h
  split at h
  · simp only [Option.some.injEq, Prod.mk.injEq] at h
    omega
  · split at h <;> first | (cases h; done) | (simp only [Option.some.injEq, Prod.mk.injEq] at h; omega)
theorem fw_cell_lar {lay : Nat → Nat} {dA : Nat → ClassId} {st : am_S} {o n e : Nat} {x : Int32} (h176 : o < 176) (hk : fw_ki o = none) (ha : fw_ar o = some (5, n)) :
    (fw_W lay dA st).set o (lay o, .inl (dA 5, n, .inr (.inl (vp_updL (fun i => (st (2000 + o) i).toInt64) e x.toInt64)))) = fw_W lay dA (am_up st (2000 + o) e x) := by
  refine fw_W_set h176 ?_ ?_
  · unfold fw_cell
    rw [hk]
    dsimp only
    rw [ha]
    dsimp only
    rw [if_neg (by decide), if_pos rfl]
    congr 5
    funext j
    unfold vp_updL
    by_cases hj : j = e
    · subst hj
      rw [if_pos rfl, am_up_eq]
    · rw [if_neg hj, am_up_ne (fun q => hj q.2)]
  · intro o' ho' hne
    unfold fw_cell
    cases hk' : fw_ki o' with
    | some q =>
      obtain ⟨ci', i'⟩ := q
      show Sum.inr _ = Sum.inr _
      congr 3
      unfold fw_fs
      apply List.map_congr_left
      intro a ha
      have ha := List.mem_range.mp ha
      have hn' := fw_n_lt ci'
      exact fw_val_arr (by omega) (fw_ki_ci hk')
    | none =>
      dsimp only
      cases fw_ar o' with
      | none => rfl
      | some q =>
        obtain ⟨t, n⟩ := q
        dsimp only
        rw [am_up_bank (by omega)]

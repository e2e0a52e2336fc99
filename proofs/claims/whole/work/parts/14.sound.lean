/-! The walk is sound: from a walk of the small machine, a walk of the machine. -/
def am_lr (lay : Nat → Nat) (ls : Array Slot) (nL : Nat) (lv : am_L) : Prop := ls.size = nL ∧ lv_wf ls ∧ lv.length = nL ∧ ∀ (i : Nat) (v : am_V), lv[i]? = some (some v) → am_one v = true ∧ ls[i]? = some (.val (am_g lay v))
def am_prs (lay : Nat → Nat) (lv : am_L) : List (Nat × Value) := (List.range lv.length).filterMap (fun i => match lv[i]? with
  | some (some v) => some (i, am_g lay v)
  | _ => none)
theorem am_prs_mem {lay : Nat → Nat} {lv : am_L} {q : Nat × Value} : q ∈ am_prs lay lv ↔ ∃ (i : Nat) (v : am_V), lv[i]? = some (some v) ∧ q = (i, am_g lay v) := by
  unfold am_prs
  rw [List.mem_filterMap]
  constructor
  · rintro ⟨i, hi, h⟩
    split at h
    · rename_i v hv
      exact ⟨i, v, hv, (Option.some.inj h).symm⟩
    · cases h
  · rintro ⟨i, v, hv, rfl⟩
    refine ⟨i, List.mem_range.mpr (List.getElem?_eq_some_iff.mp hv).1, ?_⟩
    rw [hv]
theorem am_lr.has {lay : Nat → Nat} {ls : Array Slot} {nL : Nat} {lv : am_L} (h : am_lr lay ls nL lv) : lv_has ls nL (am_prs lay lv) := by
  refine ⟨h.1, h.2.1, fun q hq => ?_⟩
  obtain ⟨i, v, hv, rfl⟩ := am_prs_mem.mp hq
  exact (h.2.2.2 i v hv).2
theorem am_cat {lay : Nat → Nat} {v : am_V} (h : am_one v = true) : (am_g lay v).category = 1 := by
  rcases v with x | o | z
  · rfl
  · rfl
  · cases h
theorem am_lr.set {lay : Nat → Nat} {ls ls' : Array Slot} {nL i : Nat} {lv : am_L} {v : am_V} (h : am_lr lay ls nL lv) (ho : am_one v = true) (hi : i < nL) (h' : lv_has ls' nL ((i, am_g lay v) :: (am_prs lay lv).filter (fun q => !(q.1 == i) && !(q.1 + 1 == i && q.2.category == 2)))) : am_lr lay ls' nL (lv.set i (some v)) := by
  refine ⟨h'.1, h'.2.1, by rw [List.length_set]; exact h.2.2.1, fun j w hj => ?_⟩
  rw [List.getElem?_set] at hj
  by_cases hij : i = j
  · subst hij
    rw [if_pos rfl] at hj
    split at hj
    · cases hj
      exact ⟨ho, h'.2.2 (i, am_g lay v) List.mem_cons_self⟩
    · cases hj
  · rw [if_neg hij] at hj
    have hw := (h.2.2.2 j w hj).1
    refine ⟨hw, h'.2.2 (j, am_g lay w) (List.mem_cons_of_mem _ (List.mem_filter.mpr ⟨am_prs_mem.mpr ⟨j, w, hj, rfl⟩, ?_⟩))⟩
    have hc := am_cat (lay := lay) hw
    simp [hc, Ne.symm hij]
theorem am_no {α : Type} {x : α} {P : Prop} (h : (none : Option α) = some x) : P := by cases h
theorem am_b2_inv {f : Int32 → Int32 → Int32} {lv lv' : am_L} {stk stk' : List am_V} (h : am_b2 f lv stk = some (lv', stk')) : ∃ x y r, stk = .inl y :: .inl x :: r ∧ lv' = lv ∧ stk' = .inl (f x y) :: r := by
  unfold am_b2 at h
  split at h
  · rename_i y x r
    cases h
    exact ⟨x, y, r, rfl, rfl, rfl⟩
  · cases h
theorem am_u1_inv {f : Int32 → Int32} {lv lv' : am_L} {stk stk' : List am_V} (h : am_u1 f lv stk = some (lv', stk')) : ∃ x r, stk = .inl x :: r ∧ lv' = lv ∧ stk' = .inl (f x) :: r := by
  unfold am_u1 at h
  split at h
  · rename_i x r
    cases h
    exact ⟨x, r, rfl, rfl, rfl⟩
  · cases h
theorem am_ldi_inv {i : Nat} {lv lv' : am_L} {stk stk' : List am_V} (h : am_ldi i lv stk = some (lv', stk')) : ∃ x, lv[i]? = some (some (.inl x)) ∧ lv' = lv ∧ stk' = .inl x :: stk := by
  unfold am_ldi at h
  split at h
  · rename_i x hx
    cases h
    exact ⟨x, hx, rfl, rfl⟩
  · cases h
theorem am_lda_inv {i : Nat} {lv lv' : am_L} {stk stk' : List am_V} (h : am_lda i lv stk = some (lv', stk')) : ∃ o, lv[i]? = some (some (.inr (.inl o))) ∧ lv' = lv ∧ stk' = .inr (.inl o) :: stk := by
  unfold am_lda at h
  split at h
  · rename_i x hx
    cases h
    exact ⟨x, hx, rfl, rfl⟩
  · cases h
theorem am_sti_inv {i : Nat} {lv lv' : am_L} {stk stk' : List am_V} (h : am_sti i lv stk = some (lv', stk')) : ∃ x r, stk = .inl x :: r ∧ i < lv.length ∧ lv' = lv.set i (some (.inl x)) ∧ stk' = r := by
  unfold am_sti at h
  split at h
  · rename_i x r
    split at h
    · rename_i hi
      cases h
      exact ⟨x, _, rfl, hi, rfl, rfl⟩
    · cases h
  · cases h
theorem am_sta_inv {i : Nat} {lv lv' : am_L} {stk stk' : List am_V} (h : am_sta i lv stk = some (lv', stk')) : ∃ o r, stk = .inr (.inl o) :: r ∧ i < lv.length ∧ lv' = lv.set i (some (.inr (.inl o))) ∧ stk' = r := by
  unfold am_sta at h
  split at h
  · rename_i x r
    split at h
    · rename_i hi
      cases h
      exact ⟨x, _, rfl, hi, rfl, rfl⟩
    · cases h
  · cases h
theorem am_inc_inv {i : Nat} {n : Int} {lv lv' : am_L} {stk stk' : List am_V} (h : am_inc i n lv stk = some (lv', stk')) : ∃ x, lv[i]? = some (some (.inl x)) ∧ lv' = lv.set i (some (.inl (x + Int32.ofInt n))) ∧ stk' = stk := by
  unfold am_inc at h
  split at h
  · rename_i x hx
    cases h
    exact ⟨x, hx, rfl, rfl⟩
  · cases h
theorem am_dup_inv {lv lv' : am_L} {stk stk' : List am_V} (h : am_dup lv stk = some (lv', stk')) : ∃ v r, stk = v :: r ∧ am_one v = true ∧ lv' = lv ∧ stk' = v :: v :: r := by
  unfold am_dup at h
  split at h
  · rename_i v r
    split at h
    · rename_i hv
      cases h
      exact ⟨v, r, rfl, hv, rfl, rfl⟩
    · cases h
  · cases h
theorem am_pop_inv {lv lv' : am_L} {stk stk' : List am_V} (h : am_pop lv stk = some (lv', stk')) : ∃ v, stk = v :: stk' ∧ am_one v = true ∧ lv' = lv := by
  unfold am_pop at h
  split at h
  · rename_i v r
    split at h
    · rename_i hv
      cases h
      exact ⟨v, rfl, hv, rfl⟩
    · cases h
  · cases h
theorem am_dx1_inv {lv lv' : am_L} {stk stk' : List am_V} (h : am_dx1 lv stk = some (lv', stk')) : ∃ v w r, stk = v :: w :: r ∧ am_one v = true ∧ am_one w = true ∧ lv' = lv ∧ stk' = v :: w :: v :: r := by
  unfold am_dx1 at h
  split at h
  · rename_i v w r
    split at h
    · rename_i hv
      cases h
      simp only [Bool.and_eq_true] at hv
      exact ⟨v, w, r, rfl, hv.1, hv.2, rfl, rfl⟩
    · cases h
  · cases h
theorem am_dx2_inv {lv lv' : am_L} {stk stk' : List am_V} (h : am_dx2 lv stk = some (lv', stk')) : ∃ v w u r, stk = v :: w :: u :: r ∧ am_one v = true ∧ am_one w = true ∧ am_one u = true ∧ lv' = lv ∧ stk' = v :: w :: u :: v :: r := by
  unfold am_dx2 at h
  split at h
  · rename_i v w u r
    split at h
    · rename_i hv
      cases h
      simp only [Bool.and_eq_true] at hv
      exact ⟨v, w, u, r, rfl, hv.1.1, hv.1.2, hv.2, rfl, rfl⟩
    · cases h
  · cases h
theorem am_du2_inv {lv lv' : am_L} {stk stk' : List am_V} (h : am_du2 lv stk = some (lv', stk')) : ∃ v w r, stk = v :: w :: r ∧ am_one v = true ∧ am_one w = true ∧ lv' = lv ∧ stk' = v :: w :: v :: w :: r := by
  unfold am_du2 at h
  split at h
  · rename_i v w r
    split at h
    · rename_i hv
      cases h
      simp only [Bool.and_eq_true] at hv
      exact ⟨v, w, r, rfl, hv.1, hv.2, rfl, rfl⟩
    · cases h
  · cases h
section SO
variable {p : Program} {l : Launch} {e : Env} {R : Room} {s : State} {m : MethodId} {args : Array Value} {below : List Frame} {meth : Method} {c : Code} {Q : State → Prop} {cc : ByteArray} {nL : Nat} {D : va_G} {dA : Nat → ClassId} {lay : Nat → Nat} {A : Nat → Prop} {H0 : Heap} {C S : Nat}
def am_X (p : Program) (l : Launch) (e : Env) (R : Room) (s : State) (m : MethodId) (args : Array Value) (below : List Frame) (meth : Method) (c : Code) (Q : State → Prop) (D : va_G) (dA : Nat → ClassId) (lay : Nat → Nat) (A : Nat → Prop) (H0 : Heap) (nL C S : Nat) : am_K := fun pc lv stk st =>
  ∀ (ls : Array Slot) (H : Heap) (locs : List Loc), am_lr lay ls nL lv → va_P D fw_cl (fw_W lay dA st) H → va_S A H0 H locs → W p l e R s m args below meth c H locs C S Q (F0 m pc ls (stk.map (am_g lay)))
theorem so_ex (hx : p.tables.exec = Jvm.exec) (hb : c.code = cc) {pc : Nat} {ins : Instr} {lv lv' : am_L} {stk stk' : List am_V} {st : am_S} {q : Nat} (hd : decode cc pc = .ok (ins, am_ln ins)) (h : am_ex ins lv stk = some (lv', stk')) (hq : pc + am_ln ins = q)
    (hk : am_X p l e R s m args below meth c Q D dA lay A H0 nL C S q lv' stk' st) : am_X p l e R s m args below meth c Q D dA lay A H0 nL C S pc lv stk st := by
  intro ls H locs hl hP hS
  subst hq
  cases ins <;> try (exact am_no h)
  case iconst n =>
    simp only [am_ex, Option.some.injEq, Prod.mk.injEq] at h
    obtain ⟨rfl, rfl⟩ := h
    exact lv_iconst hx hb hd rfl (hk ls H locs hl hP hS)
  case bipush n =>
    simp only [am_ex, Option.some.injEq, Prod.mk.injEq] at h
    obtain ⟨rfl, rfl⟩ := h
    exact lv_bipush hx hb hd rfl (hk ls H locs hl hP hS)
  case sipush n =>
    simp only [am_ex, Option.some.injEq, Prod.mk.injEq] at h
    obtain ⟨rfl, rfl⟩ := h
    exact lv_sipush hx hb hd rfl (hk ls H locs hl hP hS)
  case iload_n i =>
    obtain ⟨x, h1, rfl, rfl⟩ := am_ldi_inv h
    exact lv_iload_n hx hb hd rfl (hl.2.2.2 _ _ h1).2 (hk ls H locs hl hP hS)
  case iload i =>
    obtain ⟨x, h1, rfl, rfl⟩ := am_ldi_inv h
    exact lv_iload hx hb hd (hl.2.2.2 _ _ h1).2 (hk ls H locs hl hP hS)
  case aload_n i =>
    obtain ⟨x, h1, rfl, rfl⟩ := am_lda_inv h
    exact lv_aload_n hx hb hd rfl (hl.2.2.2 _ _ h1).2 (hk ls H locs hl hP hS)
  case aload i =>
    obtain ⟨x, h1, rfl, rfl⟩ := am_lda_inv h
    exact lv_aload hx hb hd (hl.2.2.2 _ _ h1).2 (hk ls H locs hl hP hS)
  case istore_n i =>
    obtain ⟨x, r, rfl, h1, rfl, rfl⟩ := am_sti_inv h
    have hi : i.val < nL := by rw [← hl.2.2.1]; exact h1
    exact lv_istore_n hx hb hd rfl hl.has hi rfl (fun ls' h' => hk ls' H locs (hl.set (v := .inl x) rfl hi h') hP hS)
  case istore i =>
    obtain ⟨x, r, rfl, h1, rfl, rfl⟩ := am_sti_inv h
    have hi : i < nL := by rw [← hl.2.2.1]; exact h1
    exact lv_istore hx hb hd hl.has hi rfl (fun ls' h' => hk ls' H locs (hl.set (v := .inl x) rfl hi h') hP hS)
  case astore_n i =>
    obtain ⟨x, r, rfl, h1, rfl, rfl⟩ := am_sta_inv h
    have hi : i.val < nL := by rw [← hl.2.2.1]; exact h1
    exact lv_astore_n hx hb hd rfl hl.has hi rfl (fun ls' h' => hk ls' H locs (hl.set (v := .inr (.inl x)) rfl hi h') hP hS)
  case astore i =>
    obtain ⟨x, r, rfl, h1, rfl, rfl⟩ := am_sta_inv h
    have hi : i < nL := by rw [← hl.2.2.1]; exact h1
    exact lv_astore hx hb hd hl.has hi rfl (fun ls' h' => hk ls' H locs (hl.set (v := .inr (.inl x)) rfl hi h') hP hS)
  case iinc i n =>
    obtain ⟨x, h1, rfl, rfl⟩ := am_inc_inv h
    have hi : i < nL := by rw [← hl.2.2.1]; exact (List.getElem?_eq_some_iff.mp h1).1
    obtain ⟨kk, hkk⟩ := List.getElem?_of_mem (am_prs_mem (lay := lay).mpr ⟨i, .inl x, h1, rfl⟩)
    exact lv_iinc hx hb hd hl.has hkk rfl hi rfl (fun ls' h' => hk ls' H locs (hl.set (v := .inl (x + Int32.ofInt n)) rfl hi h') hP hS)
  case iadd =>
    obtain ⟨x, y, r, rfl, rfl, rfl⟩ := am_b2_inv h
    exact lv_iadd hx hb hd (hk ls H locs hl hP hS)
  case isub =>
    obtain ⟨x, y, r, rfl, rfl, rfl⟩ := am_b2_inv h
    exact lv_isub hx hb hd (hk ls H locs hl hP hS)
  case imul =>
    obtain ⟨x, y, r, rfl, rfl, rfl⟩ := am_b2_inv h
    exact lv_imul hx hb hd (hk ls H locs hl hP hS)
  case iand =>
    obtain ⟨x, y, r, rfl, rfl, rfl⟩ := am_b2_inv h
    exact lv_iand hx hb hd (hk ls H locs hl hP hS)
  case ior =>
    obtain ⟨x, y, r, rfl, rfl, rfl⟩ := am_b2_inv h
    exact lv_ior hx hb hd (hk ls H locs hl hP hS)
  case ixor =>
    obtain ⟨x, y, r, rfl, rfl, rfl⟩ := am_b2_inv h
    exact lv_ixor hx hb hd (hk ls H locs hl hP hS)
  case ishl =>
    obtain ⟨x, y, r, rfl, rfl, rfl⟩ := am_b2_inv h
    exact lv_ishl hx hb hd (hk ls H locs hl hP hS)
  case ishr =>
    obtain ⟨x, y, r, rfl, rfl, rfl⟩ := am_b2_inv h
    exact lv_ishr hx hb hd (hk ls H locs hl hP hS)
  case iushr =>
    obtain ⟨x, y, r, rfl, rfl, rfl⟩ := am_b2_inv h
    exact lv_iushr hx hb hd rfl (hk ls H locs hl hP hS)
  case ineg =>
    obtain ⟨x, r, rfl, rfl, rfl⟩ := am_u1_inv h
    exact lv_ineg hx hb hd (hk ls H locs hl hP hS)
  case i2b =>
    obtain ⟨x, r, rfl, rfl, rfl⟩ := am_u1_inv h
    exact lv_i2b hx hb hd rfl (hk ls H locs hl hP hS)
  case i2s =>
    obtain ⟨x, r, rfl, rfl, rfl⟩ := am_u1_inv h
    exact lv_i2s hx hb hd rfl (hk ls H locs hl hP hS)
  case i2l =>
    unfold am_ex am_i2l at h
    dsimp only at h
    split at h
    · cases h
      exact lv_i2l hx hb hd rfl (hk ls H locs hl hP hS)
    · cases h
  case lconst n =>
    simp only [am_ex, Option.some.injEq, Prod.mk.injEq] at h
    obtain ⟨rfl, rfl⟩ := h
    exact lv_lconst hx hb hd rfl (hk ls H locs hl hP hS)
  case lcmp =>
    unfold am_ex am_lcm at h
    dsimp only at h
    split at h
    · cases h
      exact W.lcmp hx hb hd (hk ls H locs hl hP hS)
    · cases h
  case dup =>
    obtain ⟨v, r, rfl, h1, rfl, rfl⟩ := am_dup_inv h
    exact lv_dup hx hb hd (am_cat h1) (hk ls H locs hl hP hS)
  case pop =>
    obtain ⟨v, rfl, h1, rfl⟩ := am_pop_inv h
    exact lv_pop hx hb hd (am_cat h1) (hk ls H locs hl hP hS)
  case dup_x1 =>
    obtain ⟨v, w, r, rfl, h1, h2, rfl, rfl⟩ := am_dx1_inv h
    exact lv_dup_x1 hx hb hd (am_cat h1) (am_cat h2) (hk ls H locs hl hP hS)
  case dup_x2 =>
    obtain ⟨v, w, u, r, rfl, h1, h2, h3, rfl, rfl⟩ := am_dx2_inv h
    exact lv_dup_x2 hx hb hd (am_cat h1) (am_cat h2) (am_cat h3) (hk ls H locs hl hP hS)
  case dup2 =>
    obtain ⟨v, w, r, rfl, h1, h2, rfl, rfl⟩ := am_du2_inv h
    exact lv_dup2_11 hx hb hd (am_cat h1) (am_cat h2) (hk ls H locs hl hP hS)
theorem so_br (hx : p.tables.exec = Jvm.exec) (hb : c.code = cc) {pc : Nat} {ins : Instr} {lv : am_L} {stk stk' : List am_V} {cs : Prop × Prop} {off : Int} {tgt q : Nat} {st : am_S} (hd : decode cc pc = .ok (ins, 3)) (h : am_br ins stk = some (cs, stk', off)) (ht : (pc : Int) + off = (tgt : Int)) (hq : pc + 3 = q)
    (h1 : cs.1 → am_X p l e R s m args below meth c Q D dA lay A H0 nL C S tgt lv stk' st) (h2 : cs.2 → am_X p l e R s m args below meth c Q D dA lay A H0 nL C S q lv stk' st) : am_X p l e R s m args below meth c Q D dA lay A H0 nL C S pc lv stk st := by
  intro ls H locs hl hP hS
  subst hq
  unfold am_br at h
  split at h
  · rename_i cd off'
    split at h
    · rename_i x r
      cases h
      cases cd
      · exact lv_if_eq hx hb hd ht (fun z => h1 z ls H locs hl hP hS) (fun z => h2 z ls H locs hl hP hS)
      · exact lv_if_ne hx hb hd ht (fun z => h1 z ls H locs hl hP hS) (fun z => h2 z ls H locs hl hP hS)
      · exact lv_if_lt hx hb hd ht (fun z => h1 z ls H locs hl hP hS) (fun z => h2 z ls H locs hl hP hS)
      · exact lv_if_ge hx hb hd ht (fun z => h1 z ls H locs hl hP hS) (fun z => h2 z ls H locs hl hP hS)
      · exact lv_if_gt hx hb hd ht (fun z => h1 z ls H locs hl hP hS) (fun z => h2 z ls H locs hl hP hS)
      · exact lv_if_le hx hb hd ht (fun z => h1 z ls H locs hl hP hS) (fun z => h2 z ls H locs hl hP hS)
    · cases h
  · rename_i cd off'
    split at h
    · rename_i y x r
      cases h
      cases cd
      · exact lv_icmp_eq hx hb hd ht (fun z => h1 z ls H locs hl hP hS) (fun z => h2 z ls H locs hl hP hS)
      · exact lv_icmp_ne hx hb hd ht (fun z => h1 z ls H locs hl hP hS) (fun z => h2 z ls H locs hl hP hS)
      · exact lv_icmp_lt hx hb hd ht (fun z => h1 z ls H locs hl hP hS) (fun z => h2 z ls H locs hl hP hS)
      · exact lv_icmp_ge hx hb hd ht (fun z => h1 z ls H locs hl hP hS) (fun z => h2 z ls H locs hl hP hS)
      · exact lv_icmp_gt hx hb hd ht (fun z => h1 z ls H locs hl hP hS) (fun z => h2 z ls H locs hl hP hS)
      · exact lv_icmp_le hx hb hd ht (fun z => h1 z ls H locs hl hP hS) (fun z => h2 z ls H locs hl hP hS)
    · cases h
  · cases h
theorem so_dv (hx : p.tables.exec = Jvm.exec) (hb : c.code = cc) {pc : Nat} {ins : Instr} {lv : am_L} {x y z : Int32} {r : List am_V} {st : am_S} {q : Nat} (hd : decode cc pc = .ok (ins, 1)) (h : am_dv ins x y = some z) (hy : ¬ y = 0) (hq : pc + 1 = q)
    (hk : am_X p l e R s m args below meth c Q D dA lay A H0 nL C S q lv (.inl z :: r) st) : am_X p l e R s m args below meth c Q D dA lay A H0 nL C S pc lv (.inl y :: .inl x :: r) st := by
  intro ls H locs hl hP hS
  subst hq
  unfold am_dv at h
  split at h
  · cases h
    exact lv_idiv hx hb hd hy (hk ls H locs hl hP hS)
  · cases h
    exact lv_irem hx hb hd hy (hk ls H locs hl hP hS)
  · cases h
end SO

/-! The making machine is sound: straight instructions. -/
def gl_lr (ls : Array Slot) (nL : Nat) (lv : List (Option Value)) : Prop := ls.size = nL ∧ lv_wf ls ∧ lv.length = nL ∧ ∀ (i : Nat) (v : Value), lv[i]? = some (some v) → v.category = 1 ∧ ls[i]? = some (.val v)
def gl_prs (lv : List (Option Value)) : List (Nat × Value) := (List.range lv.length).filterMap (fun i => match lv[i]? with
  | some (some v) => some (i, v)
  | _ => none)
theorem gl_prs_mem {lv : List (Option Value)} {q : Nat × Value} : q ∈ gl_prs lv ↔ ∃ (i : Nat) (v : Value), lv[i]? = some (some v) ∧ q = (i, v) := by
  unfold gl_prs
  rw [List.mem_filterMap]
  constructor
  · rintro ⟨i, hi, h⟩
    split at h
    · rename_i v hv
      exact ⟨i, v, hv, (Option.some.inj h).symm⟩
    · cases h
  · rintro ⟨i, v, hv, rfl⟩
    refine ⟨i, List.mem_range.mpr (List.getElem?_eq_some_iff.mp hv).1, ?_⟩
    rw [hv]
theorem gl_lr.has {ls : Array Slot} {nL : Nat} {lv : List (Option Value)} (h : gl_lr ls nL lv) : lv_has ls nL (gl_prs lv) := by
  refine ⟨h.1, h.2.1, fun q hq => ?_⟩
  obtain ⟨i, v, hv, rfl⟩ := gl_prs_mem.mp hq
  exact (h.2.2.2 i v hv).2
theorem gl_lr.set {ls ls' : Array Slot} {nL i : Nat} {lv : List (Option Value)} {v : Value} (h : gl_lr ls nL lv) (ho : v.category = 1) (hi : i < nL) (h' : lv_has ls' nL ((i, v) :: (gl_prs lv).filter (fun q => !(q.1 == i) && !(q.1 + 1 == i && q.2.category == 2)))) : gl_lr ls' nL (lv.set i (some v)) := by
  refine ⟨h'.1, h'.2.1, by rw [List.length_set]; exact h.2.2.1, fun j w hj => ?_⟩
  rw [List.getElem?_set] at hj
  by_cases hij : i = j
  · subst hij
    rw [if_pos rfl] at hj
    split at hj
    · cases hj
      exact ⟨ho, h'.2.2 (i, v) List.mem_cons_self⟩
    · cases hj
  · rw [if_neg hij] at hj
    have hw := (h.2.2.2 j w hj).1
    refine ⟨hw, h'.2.2 (j, w) (List.mem_cons_of_mem _ (List.mem_filter.mpr ⟨gl_prs_mem.mpr ⟨j, w, hj, rfl⟩, ?_⟩))⟩
    simp [hw, Ne.symm hij]
abbrev ck_lv' (b : Nat) (lv : ck_L) : List (Option Value) := lv.map (Option.map (ck_g b))
theorem ck_lv_at {b : Nat} {lv : ck_L} {i : Nat} {v : ck_V} (h : lv[i]? = some (some v)) : (ck_lv' b lv)[i]? = some (some (ck_g b v)) := by
  rw [List.getElem?_map, h]
  rfl
theorem ck_lv_set {b : Nat} {lv : ck_L} {i : Nat} {v : ck_V} : ck_lv' b (lv.set i (some v)) = (ck_lv' b lv).set i (some (ck_g b v)) := by
  simp [ck_lv', List.map_set]
theorem ck_cat {b : Nat} {v : ck_V} : (ck_g b v).category = 1 := by
  rcases v with x | _ | a <;> rfl
def ck_O (U : State) : Prop := (va_AO "FrameWalk$Method" U ∧ va_AO "FrameWalk$Handler" U ∧ va_AO "FrameWalk$Frame" U) ∧ ∀ w ∈ ck_nw, va_Nw w U
theorem ck_O.moved {s U : State} (hW : s.WarmedH U.vm) (h : ck_O s) : ck_O U := by
  refine ⟨⟨h.1.1.moved hW.alike, h.1.2.1.moved hW.alike, h.1.2.2.moved hW.alike⟩, fun w hw => ?_⟩
  have h1 := h.2 w hw
  simp only [ck_nw, List.mem_cons, List.not_mem_nil, or_false] at hw
  rcases hw with rfl | rfl | rfl | rfl | rfl <;> exact va_Nw.warmM hW h1
theorem ck_nlt {n : Int32} (h : 0 ≤ n) : ¬ n < 0 := by
  rw [Int32.le_iff_toInt_le] at h
  rw [Int32.lt_iff_toInt_lt]
  omega
theorem ck_in {i : Int32} {n : Nat} (h : 0 ≤ i) (h2 : i.toNatClampNeg < n) : vp_in i n := fun z => by
  rcases z with z | z
  · exact ck_nlt h z
  · omega
section MA
variable {p : Program} {l : Launch} {e : Env} {R : Room} {s : State} {m : MethodId} {args : Array Value} {below : List Frame} {meth : Method} {c : Code} {Q : State → Prop} {D : va_G} {dA : Nat → ClassId} {b mc ms k : Nat} {Ts : List Cond} {w0 : Cond}
def ck_X (p : Program) (l : Launch) (e : Env) (R : Room) (s : State) (m : MethodId) (args : Array Value) (below : List Frame) (meth : Method) (c : Code) (Q : State → Prop) (D : va_G) (dA : Nat → ClassId) (b mc ms nL : Nat) (pc : Nat) (lv : ck_L) (stk : List ck_V) (cs : List ck_C) (rc rs : Nat) : Prop :=
  ∀ (ls : Array Slot) (H : Heap) (locs : List Loc), gl_lr ls nL (ck_lv' b lv) → H.size = b + cs.length → s.heap.size + (mc - rc) = b + cs.length → va_P D fw_cl (ck_W b dA cs) H → va_S (fun q => b ≤ q) s.heap H locs → rc ≤ mc → rs ≤ ms → W p l e R s m args below meth c H locs (mc - rc) (ms - rs) Q (F0 m pc ls (stk.map (ck_g b)))
/-- what a constructor's walk stands on -/
def ck_H (p : Program) (R : Room) (s : State) (m : MethodId) (args : Array Value) (c : Code) (meth : Method) (D : va_G) (dA : Nat → ClassId) (b mc ms k : Nat) (w0 : Cond) : Prop :=
  p.tables.exec = Jvm.exec ∧ c.code = ck_code k ∧ c.maxLocals = ck_mL k ∧ (∀ w ∈ w0 :: fw_T, w.before args s = true) ∧ s.vm.findClass (ck_own k) = some m.cls ∧ va_K D fw_cl (fw_tys dA) s ∧ ck_O s ∧ b ≤ s.heap.size ∧ mc ≤ R.cells ∧ ms ≤ R.slots ∧ ck_lv k ≤ R.frames ∧ 27 * ck_lv k ≤ R.locals ∧ (k < 10 → meth.name = "<init>")
theorem ck_keep {H H1 : Heap} {cs : List ck_C} (hP : va_P D fw_cl (ck_W b dA cs) H) (o1 : ∀ q, q < H.size → H1[q]? = H[q]?) : va_P D fw_cl (ck_W b dA cs) H1 := hP.kept (fun k x hx => o1 x.1 (hP k x hx).lt)
theorem ck_Snew {H H1 : Heap} {locs : List Loc} (hS : va_S (fun q => b ≤ q) s.heap H locs) (z1 : H1.size = H.size + 1) (o1 : ∀ q, q < H.size → H1[q]? = H[q]?) : va_S (fun q => b ≤ q) s.heap H1 locs := ⟨by have := hS.1; omega, fun x h1 h2 => (o1 x (Nat.lt_of_lt_of_le h1 hS.1)).trans (hS.2.1 x h1 h2), hS.2.2⟩
theorem ck_push {H1 : Heap} {cs : List ck_C} {x : ck_C} (hP : va_P D fw_cl (ck_W b dA cs) H1) (h : va_at D fw_cl (b + cs.length, ck_e b dA x) H1) : va_P D fw_cl (ck_W b dA (cs ++ [x])) H1 := by
  rw [ck_W_app]
  refine hP.app (fun k q hq => ?_)
  have hz : k < 1 := (List.getElem?_eq_some_iff.mp hq).1
  rw [show k = 0 by omega] at hq
  cases hq
  exact h
theorem ck_dA {t : Nat} {ty : FieldType} (hK : va_K D fw_cl (fw_tys dA) s) (ht : (fw_tys dA)[t]? = some (dA t, ty)) {cA : ClassId} (h : s.vm.findClass ("[" ++ ty.toString) = some cA) : cA = dA t := by
  have h1 := (hK.2 t _ ht).2
  cases ty with
  | object C =>
    obtain ⟨kA, comp, -, -, -, h4⟩ := h1
    exact Option.some.inj (h.symm.trans h4)
  | _ => exact Option.some.inj (h.symm.trans h1)
/-- the heap is no larger than what was made -/
theorem ck_fix {H : Heap} {locs : List Loc} {cs : List ck_C} {cells slots : Nat} {g : JFrame} (hex : s.heap.size + cells = b + cs.length) (hne : cs ≠ []) (hP : va_P D fw_cl (ck_W b dA cs) H) (h : H.size = b + cs.length → W p l e R s m args below meth c H locs cells slots Q g) : W p l e R s m args below meth c H locs cells slots Q g := by
  intro T hT X
  have h1 := X.heapSize
  rw [hT] at h1
  have hpos : 0 < cs.length := List.length_pos_iff.mpr hne
  have h2 := (hP (cs.length - 1) _ (ck_W_at (List.getElem?_eq_getElem (show cs.length - 1 < cs.length by omega)))).lt
  have h3 : b + (cs.length - 1) < H.size := h2
  exact h (by omega) T hT X
set_option maxHeartbeats 1000000 in
theorem ck_sex (E : ck_H p R s m args c meth D dA b mc ms k w0) {pc : Nat} {ins : Instr} {lv lv' : ck_L} {stk stk' : List ck_V} {cs cs' : List ck_C} {rc rs rc' rs' : Nat} (hd : decode (ck_code k) pc = .ok (ins, ck_ln ins)) (h : ck_ex k ins lv stk cs rc rs = some (lv', stk', cs', rc', rs')) (hk10 : k < 10 ∨ ∀ idx, ins ≠ .putfield idx)
    (hk : ck_X p l e R s m args below meth c Q D dA b mc ms (ck_mL k) (pc + ck_ln ins) lv' stk' cs' rc' rs') : ck_X p l e R s m args below meth c Q D dA b mc ms (ck_mL k) pc lv stk cs rc rs := by
  obtain ⟨hx, hb, hml, hts, hown, hK, hO, hbs, hRc, hRs, hRf, hRl, hnm⟩ := E
  intro ls H locs hl hsz hex hP hS hrc hrs
  cases ins <;> try (exact am_no h)
  case iconst n =>
    cases h
    exact lv_iconst hx hb hd rfl (hk ls H locs hl hsz hex hP hS hrc hrs)
  case bipush n =>
    cases h
    exact lv_bipush hx hb hd rfl (hk ls H locs hl hsz hex hP hS hrc hrs)
  case sipush n =>
    cases h
    exact lv_sipush hx hb hd rfl (hk ls H locs hl hsz hex hP hS hrc hrs)
  case iload_n i =>
    unfold ck_ex ck_ld at h
    dsimp only at h
    split at h
    · rename_i x h1
      cases h
      exact lv_iload_n hx hb hd rfl (hl.2.2.2 _ _ (ck_lv_at h1)).2 (hk ls H locs hl hsz hex hP hS hrc hrs)
    · cases h
    · cases h
  case aload_n i =>
    unfold ck_ex ck_ld at h
    dsimp only at h
    split at h
    · cases h
    · rename_i x h1
      cases h
      exact lv_aload_n hx hb hd rfl (hl.2.2.2 _ _ (ck_lv_at h1)).2 (hk ls H locs hl hsz hex hP hS hrc hrs)
    · cases h
  case istore_n i =>
    unfold ck_ex at h
    dsimp only at h
    split at h
    · rename_i x r
      split at h
      · rename_i hi
        cases h
        have hi : i.val < ck_mL k := by rw [← hl.2.2.1]; simpa using hi
        exact lv_istore_n hx hb hd rfl hl.has hi rfl (fun ls' h' => hk ls' H locs (by rw [ck_lv_set]; exact hl.set rfl hi h') hsz hex hP hS hrc hrs)
      · cases h
    · cases h
  case istore i =>
    unfold ck_ex at h
    dsimp only at h
    split at h
    · rename_i x r
      split at h
      · rename_i hi
        cases h
        have hi : i < ck_mL k := by rw [← hl.2.2.1]; simpa using hi
        exact lv_istore hx hb hd hl.has hi rfl (fun ls' h' => hk ls' H locs (by rw [ck_lv_set]; exact hl.set rfl hi h') hsz hex hP hS hrc hrs)
      · cases h
    · cases h
  case astore_n i =>
    unfold ck_ex at h
    dsimp only at h
    split at h
    · rename_i x r
      split at h
      · rename_i hi
        cases h
        have hi : i.val < ck_mL k := by rw [← hl.2.2.1]; simpa using hi
        exact lv_astore_n hx hb hd rfl hl.has hi rfl (fun ls' h' => hk ls' H locs (by rw [ck_lv_set]; exact hl.set rfl hi h') hsz hex hP hS hrc hrs)
      · cases h
    · cases h
  case iinc i n =>
    unfold ck_ex at h
    dsimp only at h
    split at h
    · rename_i x h1
      cases h
      have h2 := ck_lv_at (b := b) h1
      have hi : i < ck_mL k := by rw [← hl.2.2.1]; exact (List.getElem?_eq_some_iff.mp h2).1
      obtain ⟨kk, hkk⟩ := List.getElem?_of_mem (gl_prs_mem.mpr ⟨i, _, h2, rfl⟩)
      exact lv_iinc hx hb hd hl.has hkk rfl hi rfl (fun ls' h' => hk ls' H locs (by rw [ck_lv_set]; exact hl.set rfl hi h') hsz hex hP hS hrc hrs)
    · cases h
  case dup =>
    unfold ck_ex at h
    dsimp only at h
    split at h
    · cases h
      exact lv_dup hx hb hd rfl (hk ls H locs hl hsz hex hP hS hrc hrs)
    · cases h
  case new idx =>
    unfold ck_ex at h
    dsimp only at h
    split at h
    · rename_i ci hci
      split at h
      · rename_i hr
        cases h
        obtain ⟨C, T, hc, hin, hty, hlk, hins, hini, hdef, hlen⟩ := ck_nf (w0 := w0) k idx ci hci
        have hok : ∀ w ∈ fw_T, w.before args s = true := fun w hw => hts w (List.mem_cons_of_mem _ hw)
        have hKn := hK.1 ci _ hc
        refine W.newcK hx hb hown (hok _ hlk) (hok _ hins) (hok _ hini) rfl hd (by omega) (by omega) hKn.2.1 hsz fun H1 kC hkC e1 z1 o1 => ?_
        rw [← hsz] at o1 z1
        have h9 := hk ls H1 locs hl (by rw [z1, hsz, List.length_append]; rfl) (by rw [List.length_append]; simp only [List.length_cons, List.length_nil]; omega) (ck_push (ck_keep hP o1) ⟨_, hc, (u_born (ck_ty ci) hts hin hKn hkC e1 hty).to (fun j hj => ?_)⟩) (ck_Snew hS z1 o1) (by omega) (by omega)
        · have a1 : mc - rc + 1 = mc - (rc - 1) := by omega
          have a2 : ms - rs + fw_n ci = ms - (rs - fw_n ci) := by omega
          rw [a1, a2]
          exact h9
        · rw [hdef j hj]
          have hj' : j < (ck_def ci).length := by rw [hlen]; exact hj
          simp only [vp_V, List.getD_eq_getElem?_getD, List.getElem?_map, List.getElem?_eq_getElem hj', Option.map_some, Option.getD_some]
          have key : ∀ x ∈ ck_def ci, (match x with | .inl x => Value.int x | .inr _ => Value.null) = ck_g b x := by
            intro x hx
            have : ∀ ci, ∀ x ∈ ck_def ci, x = .inl 0 ∨ x = .inr none := by
              intro ci
              unfold ck_def
              split <;> decide
            rcases this ci x hx with rfl | rfl <;> rfl
          exact key _ (List.getElem_mem hj')
      · cases h
    · cases h
  case newarray a =>
    unfold ck_ex at h
    dsimp only at h
    split at h
    · rename_i t ht
      unfold ck_na at h
      split at h
      · rename_i n r
        split at h
        · rename_i hr
          cases h
          have hty : (fw_tys dA)[t]? = some (dA t, newarray.typeOf a) := by
            cases a <;> cases ht <;> rfl
          have hA9 : Cond.arrayClass (newarray.typeOf a) ∈ fw_T := by
            cases a <;> cases ht
            · exact fw_T_in (i := 188) (by decide +kernel) rfl
            · exact fw_T_in (i := 68) (by decide +kernel) rfl
            · exact fw_T_in (i := 1185) (by decide +kernel) rfl
          refine va_newaK hx hb (hts _ (List.mem_cons_of_mem _ hA9)) rfl hd rfl (ck_nlt hr.1) rfl ?_ (by omega) (by omega) hsz fun H1 cA e1 z1 o1 hAr hNm => ?_
          · have : componentBytes (newarray.typeOf a) ≤ 8 := by cases a <;> decide
            have h2 := Nat.mul_le_mul hr.2.1 this
            omega
          · have hcA := ck_dA hK hty hNm
            subst hcA
            rw [← hsz] at o1 z1
            have h9 := hk ls H1 locs hl (by rw [z1, hsz, List.length_append]; rfl) (by rw [List.length_append]; simp only [List.length_cons, List.length_nil]; omega) (ck_push (ck_keep hP o1) (by
              show H1[b + cs.length]? = some (vp_cell (dA t) (n.toNatClampNeg, ck_ar b t []))
              rw [e1]
              cases a <;> cases ht <;> rfl)) (ck_Snew hS z1 o1) (by omega) (by omega)
            have a1 : mc - rc + 1 = mc - (rc - 1) := by omega
            have a2 : ms - rs + n.toNatClampNeg = ms - (rs - n.toNatClampNeg) := by omega
            rw [a1, a2]
            exact h9
        · cases h
      · cases h
    · cases h
  case anewarray idx =>
    unfold ck_ex at h
    dsimp only at h
    split at h
    · rename_i t ht
      unfold ck_na at h
      split at h
      · rename_i n r
        split at h
        · rename_i hr
          cases h
          have go : ∀ C, (fw_tys dA)[t]? = some (dA t, .object C) → ¬ (t = 0 ∨ t = 1) → ¬ t = 5 → Cond.classLink (ck_own k) idx C ∈ fw_T → va_AO C s → W p l e R s m args below meth c H locs (mc - rc) (ms - rs) Q (F0 m pc ls ((.inl n :: r : List ck_V).map (ck_g b))) := by
            intro C hty ht1 ht5 hlk hao
            refine W.anew hx hb hown (hts _ (List.mem_cons_of_mem _ hlk)) (va_AO.use hao) rfl hd rfl (ck_nlt hr.1) (by omega) (by omega) (by omega) fun cA kA comp f1 f2 f3 f4 => ?_
            have hcA := ck_dA hK hty f1
            subst hcA
            generalize hH1 : H.push ({ cls := dA t, slots := Array.replicate n.toNatClampNeg .null, vm := .none } : Cell) = H1
            have z1 : H1.size = H.size + 1 := by rw [← hH1, Array.size_push]
            have e1 : H1[H.size]? = some (arrV (dA t) n.toNatClampNeg (fun _ => .null)) := by rw [← hH1, Array.getElem?_push_size, ← arrV_new]
            have o1 : ∀ q : Nat, q < H.size → H1[q]? = H[q]? := fun q hq => by rw [← hH1, Array.getElem?_push, if_neg (Nat.ne_of_lt hq)]
            have h9 := hk ls H1 locs hl (by rw [z1, hsz, List.length_append]; rfl) (by rw [List.length_append]; simp only [List.length_cons, List.length_nil]; omega) (ck_push (ck_keep hP o1) (by
              show H1[b + cs.length]? = some (vp_cell (dA t) (n.toNatClampNeg, ck_ar b t (List.replicate n.toNatClampNeg none)))
              rw [← hsz, e1]
              unfold ck_ar
              rw [if_neg ht1, if_neg ht5, vp_cell_q]
              congr 2
              funext i
              have : ((List.replicate n.toNatClampNeg none : List (Option Nat)).getD i none) = none := by
                rw [List.getD_eq_getElem?_getD, List.getElem?_replicate]
                split <;> rfl
              rw [this]
              rfl)) (ck_Snew hS z1 o1) (by omega) (by omega)
            have a1 : mc - rc + 1 = mc - (rc - 1) := by omega
            have a2 : ms - rs + n.toNatClampNeg = ms - (rs - n.toNatClampNeg) := by omega
            rw [a1, a2, hsz]
            exact h9
          rcases ck_af k idx t ht with ⟨rfl, hlk⟩ | ⟨rfl, hlk⟩ | ⟨rfl, hlk⟩
          · exact go _ rfl (by decide) (by decide) hlk hO.1.1
          · exact go _ rfl (by decide) (by decide) hlk hO.1.2.1
          · exact go _ rfl (by decide) (by decide) hlk hO.1.2.2
        · cases h
      · cases h
    · cases h
  case getfield idx =>
    unfold ck_ex ck_gf at h
    dsimp only at h
    split at h
    · rename_i a r
      split at h
      · rename_i ci fs ci' j hcs hf
        split at h
        · rename_i hci
          subst hci
          split at h
          · rename_i v hv
            cases h
            obtain ⟨C, T, hc, hj, hin, hty, hnm2, hlk⟩ := ck_fo (w0 := w0) k idx ci j hf
            exact va_get hx hb hts hin hown hK hP a (ck_W_at hcs) hc j hj (hts _ (List.mem_cons_of_mem _ hlk)) (fun x h => h) (v := ck_g b v) (by rw [List.getElem?_map, hv]; rfl) hd (hk ls H locs hl hsz hex hP hS hrc hrs)
          · cases h
        · cases h
      · cases h
    · cases h
  case putfield idx =>
    have hk10 : k < 10 := hk10.elim id (fun h => absurd rfl (h idx))
    unfold ck_ex ck_pf at h
    dsimp only at h
    split at h
    · rename_i v a r
      split at h
      · rename_i ci fs ci' j hcs hf
        split at h
        · rename_i hci
          obtain ⟨rfl, hjl, hfit⟩ := hci
          cases h
          obtain ⟨C, T, hc, hj, hin, hty, hnm2, hlk, hfin⟩ := ck_po (w0 := w0) k idx ci j hf
          have hn : narrow (ck_ty ci j) (ck_g b v) = ck_g b v ∧ fits (ck_ty ci j) (ck_g b v) = true := by
            generalize ck_ty ci j = ty at hfit
            unfold ck_fit at hfit
            split at hfit
            · exact ⟨rfl, rfl⟩
            · simp only [Bool.or_eq_true, beq_iff_eq] at hfit
              rcases hfit with rfl | rfl <;> exact ⟨rfl, rfl⟩
            · exact ⟨rfl, rfl⟩
            · exact ⟨rfl, rfl⟩
            · cases hfit
          have hset : (ck_W b dA cs).set a (b + a, .inr (ci, (fs.map (ck_g b)).set j (ck_g b v))) = ck_W b dA (cs.set a (.inl (ci, fs.set j v))) := by
            rw [← ck_W_set]
            simp [ck_e, List.map_set]
          have fin : ∀ (H1 : Heap) (locs1 : List Loc), va_P D fw_cl ((ck_W b dA cs).set a (b + a, .inr (ci, (fs.map (ck_g b)).set j (ck_g b v)))) H1 → va_S (fun q => b ≤ q) s.heap H1 locs1 → W p l e R s m args below meth c H1 locs1 (mc - rc) (ms - rs) Q (F0 m (pc + 3) ls (stk'.map (ck_g b))) := by
            intro H1 locs1 hP1 hS1
            rw [hset] at hP1
            refine ck_fix (by rw [List.length_set]; exact hex) ?_ hP1 (fun z1 => hk ls H1 locs1 hl z1 (by rw [List.length_set]; exact hex) hP1 hS1 hrc hrs)
            intro h0
            have h1 : (cs.set a (.inl (ci, fs.set j v))).length = 0 := by rw [h0]; rfl
            rw [List.length_set] at h1
            have h2 := (List.getElem?_eq_some_iff.mp hcs).1
            omega
          have hjl' : j < (fs.map (ck_g b)).length := by rw [List.length_map]; exact hjl
          cases hF : (T j).2.2.2 with
          | false => exact va_put hx hb hts hin (ck_ty ci) hty hnm2 hown hK hP ck_W_D hS a (ck_W_at hcs) hc j hj (hts _ (List.mem_cons_of_mem _ hlk)) (fun x h => h) hF (ty := ck_ty ci j) (v := ck_g b v) (hty j hj) hn.1 hn.2 hjl' hd (fun H1 locs1 hP1 _ hS1 => fin H1 locs1 hP1 hS1)
          | true => exact va_putF hx hb hts hin (ck_ty ci) hty hnm2 hown hK hP ck_W_D hS a (ck_W_at hcs) hc j hj (hts _ (List.mem_cons_of_mem _ hlk)) (fun x h => h) hF (hnm hk10) (hfin hF) (ty := ck_ty ci j) (v := ck_g b v) (hty j hj) hn.1 hn.2 hjl' hd (fun H1 locs1 hP1 _ hS1 => fin H1 locs1 hP1 hS1)
        · cases h
      · cases h
    · cases h
  case aastore =>
    unfold ck_ex ck_as at h
    dsimp only at h
    split at h
    · rename_i v i a r
      split at h
      · rename_i t n qs ci fs hcs hcv
        split at h
        · rename_i ht
          cases h
          have hW := ck_W_at (b := b) (dA := dA) hcs
          have hV := ck_W_at (b := b) (dA := dA) hcv
          have go : ∀ (row : vw_C), (fw_tys dA)[t]? = some (dA t, .object row.1) → fw_cl[ci]? = some row → ¬ (t = 0 ∨ t = 1) → ¬ t = 5 → W p l e R s m args below meth c H locs (mc - rc) (ms - rs) Q (F0 m pc ls ((.inr (some v) :: .inl i :: .inr (some a) :: stk' : List ck_V).map (ck_g b))) := by
            intro row hty hcl ht1 ht5
            have har : ∀ qs, ck_ar b t qs = .inr (.inr (.inr (.inr (fun i => (qs.getD i none).map (fun j => b + j))))) := by
              intro qs
              unfold ck_ar
              rw [if_neg ht1, if_neg ht5]
            have hW2 : (ck_W b dA cs)[a]? = some (b + a, .inl (dA t, n, .inr (.inr (.inr (.inr (fun i => (qs.getD i none).map (fun j => b + j))))))) := by
              rw [hW]
              unfold ck_e
              dsimp only
              rw [har]
            have hset : (ck_W b dA cs).set a (b + a, .inl (dA t, n, .inr (.inr (.inr (.inr (va_up (fun i => (qs.getD i none).map (fun j => b + j)) i.toNatClampNeg (some (b + v)))))))) = ck_W b dA (cs.set a (.inr (t, n, qs.set i.toNatClampNeg (some v)))) := by
              rw [← ck_W_set]
              congr 1
              unfold ck_e
              dsimp only
              rw [har]
              congr 8
              funext x
              unfold va_up
              by_cases hxx : x = i.toNatClampNeg
              · subst hxx
                rw [if_pos rfl, List.getD_eq_getElem?_getD, List.getElem?_set, if_pos rfl, if_pos ht.2.2.2.2.2]
                rfl
              · rw [if_neg hxx]
                dsimp only
                rw [List.getD_eq_getElem?_getD, List.getD_eq_getElem?_getD, List.getElem?_set, if_neg (Ne.symm hxx)]
            refine va_astq hx hb hK hP ck_W_D hS a t v ci hW2 hty hV hcl (ck_in ht.2.2.2.1 ht.2.2.2.2.1) hd (fun H1 locs1 hP1 _ hS1 => ?_)
            rw [hset] at hP1
            refine ck_fix (by rw [List.length_set]; exact hex) ?_ hP1 (fun z1 => hk ls H1 locs1 hl z1 (by rw [List.length_set]; exact hex) hP1 hS1 hrc hrs)
            intro h0
            have h1 : (cs.set a (.inr (t, n, qs.set i.toNatClampNeg (some v)))).length = 0 := by rw [h0]; rfl
            rw [List.length_set] at h1
            have h2 := (List.getElem?_eq_some_iff.mp hcs).1
            omega
          have h3 : t = 2 ∨ t = 3 ∨ t = 4 := by omega
          obtain ⟨-, -, hel, -⟩ := ht
          rcases h3 with rfl | rfl | rfl
          · exact go (R_ME, T_ME, 9) rfl (by rw [← hel]; rfl) (by decide) (by decide)
          · exact go (R_HA, T_HA, 4) rfl (by rw [← hel]; rfl) (by decide) (by decide)
          · exact go (R_FR, T_FR, 4) rfl (by rw [← hel]; rfl) (by decide) (by decide)
        · cases h
      · cases h
    · cases h
  case aaload =>
    unfold ck_ex ck_al at h
    dsimp only at h
    split at h
    · rename_i i a r
      split at h
      · rename_i t n qs hcs
        split at h
        · rename_i ht
          split at h
          · rename_i v hv
            cases h
            have hW := ck_W_at (b := b) (dA := dA) hcs
            have go : ∀ C, (fw_tys dA)[t]? = some (dA t, .object C) → ck_ar b t qs = .inr (.inr (.inr (.inr (fun i => (qs.getD i none).map (fun j => b + j))))) → W p l e R s m args below meth c H locs (mc - rc) (ms - rs) Q (F0 m pc ls ((.inl i :: .inr (some a) :: r : List ck_V).map (ck_g b))) := by
              intro C hty har
              unfold ck_e at hW
              dsimp only at hW
              rw [har] at hW
              refine va_aldq hx hb hK hP a t hW hty (ck_in ht.2.2.1 ht.2.2.2) hd ?_
              have e9 : (qs.getD i.toNatClampNeg none).map (fun j => b + j) = some (b + v) := by
                rw [List.getD_eq_getElem?_getD, hv]
                rfl
              rw [e9]
              exact hk ls H locs hl hsz hex hP hS hrc hrs
            have h3 : t = 2 ∨ t = 3 ∨ t = 4 := by omega
            rcases h3 with rfl | rfl | rfl
            · exact go _ rfl rfl
            · exact go _ rfl rfl
            · exact go _ rfl rfl
          · cases h
        · cases h
      · cases h
    · cases h
end MA

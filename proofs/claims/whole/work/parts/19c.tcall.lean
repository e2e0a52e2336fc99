/-! A call of a method that may throw, inside a method whose own table catches it. -/
def fx_Cal (l : Launch) (D : va_G) (dA : Nat → ClassId) (lay : Nat → Nat) (R : Room) (own : String) (idx n ci : Nat) (w : am_Wp) : Prop :=
  ∃ (y : MethodName) (bytes : ByteArray) (maxL : Nat) (ret : Option FieldType) (rm : Room) (np : Nat), fx_Met l D dA lay y (Cond.code y bytes maxL ret :: fw_T) rm w ∧ rm.cells = 1 ∧ rm.slots = 6 ∧ rm.frames + 1 ≤ R.frames ∧ 8 + (maxL + 11) + rm.locals ≤ R.locals ∧ Cond.code y bytes maxL ret ∈ fw_T ∧ Cond.methodLink own idx y ∈ fw_T ∧ Cond.initialized y.cls ∈ fw_T ∧
    (y.cls ≠ "java/lang/invoke/MethodHandle" ∧ y.cls ≠ "java/lang/invoke/VarHandle" ∧ (parseMethodDescriptor y.desc).map (fun d => d.parameters.length) = some np) ∧ Cond.instanceMethod y ∈ fw_T ∧ Cond.selects y.cls y y ∈ fw_T ∧ n = np + 1 ∧ ∃ (T : u_T) (N : Nat), fw_cl[ci]? = some (y.cls, T, N)
theorem am_lr.drop {lay : Nat → Nat} {ls ls' : Array Slot} {nL i : Nat} {lv : am_L} {v : Value} (h : am_lr lay ls nL lv) (h' : lv_has ls' nL ((i, v) :: (am_prs lay lv).filter (fun q => !(q.1 == i) && !(q.1 + 1 == i && q.2.category == 2)))) : am_lr lay ls' nL (lv.set i none) := by
  refine ⟨h'.1, h'.2.1, by rw [List.length_set]; exact h.2.2.1, fun j w hj => ?_⟩
  rw [List.getElem?_set] at hj
  by_cases hij : i = j
  · subst hij
    rw [if_pos rfl] at hj
    split at hj <;> cases hj
  · rw [if_neg hij] at hj
    have hw := (h.2.2.2 j w hj).1
    refine ⟨hw, h'.2.2 (j, am_g lay w) (List.mem_cons_of_mem _ (List.mem_filter.mpr ⟨am_prs_mem.mpr ⟨j, w, hj, rfl⟩, ?_⟩))⟩
    have hc := am_cat (lay := lay) hw
    simp [hc, Ne.symm hij]
theorem fx_nc {a b : String} {s : State} (h : (Cond.not (.castable a b)).before #[] s = true) : va_Nc a b s := by
  simp only [Cond.before, Cond.holds, Cond.value] at h
  cases ha : s.vm.findClass a with
  | none => simp [ha] at h
  | some c =>
    cases hb : s.vm.findClass b with
    | none => simp [ha, hb] at h
    | some t =>
      simp [ha, hb] at h
      exact ⟨c, t, ha, hb, by simpa using h⟩
section TC
variable {p : Program} {l : Launch} {e : Env} {R : Room} {s : State} {m : MethodId} {args : Array Value} {below : List Frame} {meth : Method} {c : Code} {Q : State → Prop} {cc : ByteArray} {nL : Nat} {D : va_G} {dA : Nat → ClassId} {lay : Nat → Nat} {A : Nat → Prop} {own : String} {Ts : List Cond} {C S : Nat}
/-- how the table of a method takes the exceptions at pc: where it goes on, which local takes the reference -/
def fx_Tab (cc : ByteArray) (own : String) (c : Code) (pc n hp : Nat) (j : Nat) (len : Nat) : Prop :=
  (decode cc hp = .ok (.astore_n ⟨j % 4, Nat.mod_lt _ (by decide)⟩, 1) ∧ len = 1 ∧ j < 4 ∨ decode cc hp = .ok (.astore j, 2) ∧ len = 2) ∧
  ∃ (pre rest : List ExceptionTableEntry) (x : ExceptionTableEntry), c.exceptionTable.toList = pre ++ x :: rest ∧ covers x pc = true ∧ x.catchType ≠ 0 ∧ x.handlerPc = hp ∧ Cond.classLink own x.catchType (fx_cls n) ∈ fw_T ∧ (n = 1 ∨ n = 2) ∧
    (pre = [] ∨ ∃ y : ExceptionTableEntry, pre = [y] ∧ covers y pc = true ∧ y.catchType ≠ 0 ∧ n = 2 ∧ Cond.classLink own y.catchType (fx_cls 1) ∈ fw_T)
set_option maxHeartbeats 1000000 in
theorem so_tcall (hx : p.tables.exec = Jvm.exec) (hb : c.code = cc) (hml : c.maxLocals = nL) (hts : ∀ w ∈ Ts, w.before args s = true) (hsub : ∀ w ∈ fw_T, w ∈ Ts) (hown : s.vm.findClass own = some m.cls) (hK : va_K D fw_cl (fw_tys dA) s) (hL : fw_lay A lay) (hA : ∀ q, s.heap.size ≤ q → A q) (hz : fz A s s.heap) (hf9 : C + 1 ≤ R.cells ∧ S + 6 ≤ R.slots) {pc idx n ci o i : Nat} {w : am_Wp} {lv : am_L} {as r : List am_V} {st : am_S}
    (hC : fx_Cal l D dA lay R own idx n ci w) (hd : decode cc pc = .ok (.invokevirtual idx, 3)) (hn : as.length + 1 = n) (hki : fw_ki o = some (ci, i)) (hr : am_rm r = true)
    (h : w (.inr (.inl o) :: as) st (fun oc st' => match oc with
      | .inl ro => am_X p l e R s m args below meth c Q D dA lay A s.heap nL (C + 1) (S + 6) (pc + 3) lv (ro.toList ++ r) st'
      | .inr nn => ∃ hp j len, fx_Tab cc own c pc nn hp j len ∧ j < nL ∧ am_X p l e R s m args below meth c Q D dA lay A s.heap nL (C + 1) (S + 6) (hp + len) (lv.set j none) [] st')) :
    am_X p l e R s m args below meth c Q D dA lay A s.heap nL C S pc lv (as.reverse ++ .inr (.inl o) :: r) st := by
  intro ls H locs hl hP hS T hT X
  subst hb
  obtain ⟨y, bytes, maxL, ret, rm, np, hM, hrc0, hrs0, hfr, hlo, hcode, hlk, hini, hdd, hin, hsel, rfl, Tt, N, hcl⟩ := hC
  have hok : ∀ w ∈ fw_T, w.before args s = true := fun w hw => hts w (hsub w hw)
  have hpl : e.platform.magicAccessors = ({} : Platform).magicAccessors := by rw [X.admits.platform]
  have hfA : ∀ q, fw_A lay H.size q → A q := fun q hq => by
    rcases hq with ⟨o, ho, rfl⟩ | hq
    · exact hL.2 o ho
    · exact hA q (Nat.le_trans hS.1 hq)
  have hlay : fw_lay (fun _ => True) lay := ⟨hL.1, fun _ _ => trivial⟩
  have hM' := hM H.size (.inr (.inl o) :: as) st _ h
  obtain ⟨cellB, hcB, hoB, hclB⟩ := va_recv hK hP hcl (fw_W_ob hki)
  obtain ⟨mk, methM, hnamed, hmethM, hstM, habM⟩ := Cond.instanceMethod_spec (hok _ hin)
  obtain ⟨methM', cM, hmethM', hcM, -, hlM, -, -, -, hsigM⟩ := Cond.code_spec hnamed (hok _ hcode)
  cases hmethM.symm.trans hmethM'
  obtain ⟨c2, r2, m2, q1, q2, q3, q4, kP, hkP, hkPi⟩ := Cond.selects_spec (hok _ hsel)
  have hyd : y.cls ≠ "java/lang/invoke/MethodHandle" ∧ y.cls ≠ "java/lang/invoke/VarHandle" := ⟨hdd.1, hdd.2.1⟩
  cases hclB.symm.trans q1
  cases (State.methodFound?_of_named hnamed hyd).symm.trans q2
  cases hnamed.symm.trans q3
  have hselP : selectMethod e.platform s.vm cellB.cls mk = .method mk := by rw [Launch.admits_selectMethod X.admits]; exact q4
  have hinit : kP.init = .initialized := Cond.initialized_spec (findClass_of_methodNamed hnamed) hkP (hok _ hini)
  have hnp : np = methM.sig.parameters.length := by
    have h2 := hdd.2.2
    rw [hsigM] at h2
    exact (Option.some.inj h2).symm
  have hlen : (as.map (am_g lay)).length = methM.sig.parameters.length := by rw [List.length_map, ← hnp]; omega
  have hstk : (F0 m pc ls ((as.reverse ++ .inr (.inl o) :: r).map (am_g lay))).stack = (as.map (am_g lay)).reverse ++ .ref (lay o) :: r.map (am_g lay) := by simp [am_g]
  obtain ⟨vm₁, X₁, hstep₁⟩ := X.invokevirtual hx hown (hok _ hlk) hnamed hmethM hstM hkP hkPi hyd (a := lay o) (cell := cellB) (by rw [hT]; exact hcB)
    (fun z h => by rw [h] at hoB; cases hoB) hselP hmethM habM hkP hkPi (g := F0 m pc ls ((as.reverse ++ .inr (.inl o) :: r).map (am_g lay))) rfl (argsL := as.map (am_g lay)) (rest := r.map (am_g lay)) hlen hstk hd
  generalize hav : ((.ref (lay o) :: as.map (am_g lay) : List Value)).toArray = av at hstep₁
  have hroom : 2 * (F0 m pc ls (r.map (am_g lay))).monitorRoom + ((F0 m pc ls (r.map (am_g lay))).stack.map fun v => v.category).sum ≤ 8 := lv_room (am_rm_cat hr)
  have hnamed' := X₁.named hnamed
  have hAt : At (T.setVm vm₁) m c below := X₁.here
  obtain ⟨kY, hkY, -⟩ := className_of_methodNamed hnamed'
  have hinitY : kY.init = .initialized := Cond.initialized_spec (findClass_of_methodNamed hnamed') hkY (word_at (a' := av) X₁.warmed (good_of_word (List.mem_filter.mp hini).2) (hok _ hini))
  obtain ⟨methY, cY, hmY, hcY, -, hlY, -, -, -, -⟩ := Cond.code_spec hnamed' (word_at (a' := av) X₁.warmed (good_of_word (List.mem_filter.mp hcode).2) (hok _ hcode))
  have hpreW : (headSpec (Cond.code y bytes maxL ret :: fw_T) rm).pre.before av (T.setVm vm₁) = true := atoms_intro fun w hw => by
    have hw : w ∈ fw_T := by
      rcases List.mem_cons.mp hw with rfl | hw
      · exact hcode
      · exact hw
    exact word_at X₁.warmed (good_of_word (List.mem_filter.mp hw).2) (hok _ hw)
  have happ : (headSpec (Cond.code y bytes maxL ret :: fw_T) rm).appliesLoose y e.platform ((T.setVm vm₁).calling (F0 m pc ls (r.map (am_g lay))) mk av) = true :=
    Spec.appliesLoose_calling (g := F0 m pc ls (r.map (am_g lay))) hAt hd hnamed' hkY hinitY
      (X₁.room_calling (g := F0 m pc ls (r.map (am_g lay))) (R' := rm) (hl.1.trans hml.symm) hmY hcY hfr (by rw [hlY]; omega) (by rw [hrc0]; exact hf9.1) (by rw [hrs0]; exact hf9.2)) hpreW
  obtain ⟨mid, hmid⟩ := hAt.above
  have hfrm : ((T.setVm vm₁).setTop (F0 m pc ls (r.map (am_g lay)))).frames = (.java (F0 m pc ls (r.map (am_g lay))) :: mid) ++ below := by rw [State.frames_setTop' _ hAt.top, hmid]; rfl
  have hPc : fx_Pre D dA lay H.size (.inr (.inl o) :: as) st av ((T.setVm vm₁).calling (F0 m pc ls (r.map (am_g lay))) mk av) := by
    refine fx_Pre_blind av (T.setVm vm₁) _ mk ⟨⟨hav.symm, ?_, ?_, ?_, hlay⟩, ?_⟩
    · show T.heap.size = H.size
      rw [hT]
    · show va_P D fw_cl (fw_W lay dA st) T.heap
      rw [hT]
      exact hP
    · exact va_K.moved X₁.warmed.alike hK
    · show fz (fw_A lay H.size) (T.setVm vm₁) T.heap
      rw [hT]
      exact ((hz.kept hS.2.1).moved X₁.warmed.alike).narrow hfA
  obtain ⟨oc, s₂, hsteps, hrun, hend, hq⟩ := Steps.callFree hM' p X₁.admits X₁.cas X₁.clock (acts := []) hfrm happ hPc trivial
  have htail : (T.setVm vm₁).frames.tail = below := X₁.tail
  rw [State.frames_setTop' _ hAt.top, htail] at hend
  obtain ⟨hcase, hF, L, hW2, hsame, hLA⟩ := hq
  have hF' : H.size ≤ s₂.heap.size ∧ ∀ q : Nat, q < H.size → ¬ fw_A lay H.size q → s₂.heap[q]? = H[q]? := by
    obtain ⟨f1, f2⟩ := hF
    have e9 : (((T.setVm vm₁).setTop (F0 m pc ls (r.map (am_g lay)))).pushFrame (.invoking mk av)).heap = H := hT
    rw [e9] at f1 f2
    exact ⟨f1, f2⟩
  have hS' : va_S A s.heap s₂.heap (locs ++ L) := ⟨Nat.le_trans hS.1 hF'.1, fun q h1 h2 => by rw [hF'.2 q (Nat.lt_of_lt_of_le h1 hS.1) (fun z => h2 (hfA q z))]; exact hS.2.1 q h1 h2, fun q hq => by
    rcases List.mem_append.mp hq with h | h
    · exact hS.2.2 q h
    · exact hfA _ (hLA q h)⟩
  rcases hcase with ⟨ro, st', rfl, hk, hP'⟩ | ⟨q, nn, st', ce, rfl, hk, hP', hce, hcv, hcc⟩
  · obtain ⟨T', X', -, -, ht⟩ := X₁.outOf (g := F0 m pc ls (r.map (am_g lay))) rfl hd hend hW2 hsame
    have hTh : T'.heap = s₂.heap := by rw [ht]; rfl
    have h2 := hk ls T'.heap (locs ++ L) hl (by rw [hTh]; exact hP') (by rw [hTh]; exact hS')
    rw [List.map_append] at h2
    have h3 : W p l e R s m args below meth c T'.heap (locs ++ L) (C + 1) (S + 6) Q (F0 m (pc + 3) ls ((ro.map (am_g lay)).toList ++ r.map (am_g lay))) := by
      cases ro with
      | none => exact h2
      | some v => exact h2
    obtain ⟨t2, a1, b1⟩ := h3 T' rfl X'
    refine ⟨t2, hstep₁ _ fun acts => ?_, b1⟩
    rw [doInvoke_state]
    exact hsteps.trans (by rw [ht]; exact a1)
  · obtain ⟨hp, j, len, ⟨hst, pre, rest, x, hsplit, hxc, hx0, hxp, hxl, hn12, hpre⟩, hj, hk⟩ := hk
    obtain ⟨T', X', hW3, -, ht⟩ := X₁.outOfThrown (g := F0 m pc ls (r.map (am_g lay))) rfl hend hW2 hsame
    have hTh : T'.heap = s₂.heap := by rw [ht]; rfl
    have hcls : s.vm.findClass (fx_cls nn) = some ce.cls := by
      have h9 : (T.setVm vm₁).vm.findClass (fx_cls nn) = some ce.cls := hcc
      rw [X₁.warmed.alike.findClass] at h9
      exact h9
    have hcast : (Cond.castable (fx_cls nn) (fx_cls nn)).before #[] s = true := by
      rcases hn12 with rfl | rfl
      · exact hz.1 _ (by decide)
      · exact hz.1 _ (by decide)
    obtain ⟨c3, c4, hc3, hc4, hasg⟩ := Cond.castable_spec hcast
    cases Option.some.inj (hc3.symm.trans hcls)
    obtain ⟨c5, hc5, hcl5⟩ := Cond.classLink_spec hown (hok _ hxl) e.platform hpl
    cases Option.some.inj (hc4.symm.trans hc5)
    have hkx : ∃ k, s.vm.classes[ce.cls]? = some k := by
      obtain ⟨k9, h9, -⟩ := Vm.findClass_spec hcls
      exact ⟨k9, h9⟩
    have hcell9 : ((T'.setTop (F0 m pc ls (r.map (am_g lay)))).pushFrame (.throwing q)).heap[q]? = some ce := by rw [← ht]; exact hce
    obtain ⟨vm', hW', hff⟩ := fx_find (e := e) (f := F0 m pc ls (r.map (am_g lay))) (a := q) (s₀ := s) (S := (T'.setTop (F0 m pc ls (r.map (am_g lay)))).pushFrame (.throwing q)) (meth := meth) (code := c) (cell := ce) X'.method' X'.code X'.warmed hcell9 (fun k z => by rw [hcv] at z; cases z) hkx hsplit hxc hx0 hcl5 hasg (by
      rcases hpre with h | ⟨y9, hy1, hy2, hy3, hy4, hy5⟩
      · exact Or.inl h
      · subst hy4
        obtain ⟨c6, hc6, hcl6⟩ := Cond.classLink_spec hown (hok _ hy5) e.platform hpl
        obtain ⟨a8, b8, g1, g2, g3⟩ := fx_nc (hz.1 (.not (.castable "java/lang/IllegalStateException" "java/lang/IllegalArgumentException")) (by decide))
        have g1' : s.vm.findClass (fx_cls 2) = some a8 := g1
        have g2' : s.vm.findClass (fx_cls 1) = some b8 := g2
        cases Option.some.inj (g1'.symm.trans hcls)
        cases Option.some.inj (g2'.symm.trans hc6)
        exact Or.inr ⟨y9, _, hy1, hy2, hy3, hcl6, g3⟩)
    have X'' := X'.noted hW'
    have Wh : W p l e R s m args below meth c T'.heap (locs ++ L) (C + 1) (S + 6) Q (F0 m hp ls [.ref q]) := by
      rcases hst with ⟨h1, rfl, h3⟩ | ⟨h1, rfl⟩
      · exact lv_astore_n (i := j) hx rfl h1 (Nat.mod_eq_of_lt h3) hl.has hj rfl (fun ls' h' => hk ls' T'.heap (locs ++ L) (hl.drop h') (by rw [hTh]; exact hP') (by rw [hTh]; exact hS'))
      · exact lv_astore (i := j) hx rfl h1 hl.has hj rfl (fun ls' h' => hk ls' T'.heap (locs ++ L) (hl.drop h') (by rw [hTh]; exact hP') (by rw [hTh]; exact hS'))
    obtain ⟨t2, a1, b1⟩ := Wh (T'.setVm vm') rfl X''
    refine ⟨t2, hstep₁ _ fun acts => ?_, b1⟩
    rw [doInvoke_state]
    refine hsteps.trans ?_
    rw [ht]
    refine fx_caught (c := c) (g := F0 m pc ls (r.map (am_g lay))) X'.here hff ?_
    rw [hxp]
    exact a1
end TC

/-! the law's five helpers: each calls one method of the class, keeps its answer in out[0], and catches what it throws; written by wip/whole/gen/helpers.py -/
def fl_Met (l : Launch) (D : va_G) (dA : Nat → ClassId) (lay : Nat → Nat) (y : MethodName) (ws : List Cond) (rm : Room) (w : am_Wp) : Prop := ∀ (sz : Nat) (as : List am_V) (st : am_S) (k : am_P), w as st k → Met l y ws rm (fx_Pre D dA lay sz as st) (fw_Post D dA lay k (fw_A lay sz)) 1 6 (fw_A lay sz)
def fl_post (tab : Nat → Option Int32) (k : am_P) : am_P := fun oc st => match oc with
  | .inl (some (.inl v)) => (v = 0 ∨ v = 1 ∨ tab 0 = none) ∧ k (.inl (some (.inl 0))) (am_up st 2167 0 v)
  | .inr n => (n = 1 ∨ n = 2) ∧ ∃ a, tab n = some a ∧ k (.inl (some (.inl a))) st
  | _ => False
theorem fl_tab1 {T : Array ExceptionTableEntry} {a b h t : Nat} (he : T.toList.map (fun h => (h.startPc, h.endPc, h.handlerPc, h.catchType)) = [(a, b, h, t)]) : ∃ x, T.toList = [x] ∧ x.startPc = a ∧ x.endPc = b ∧ x.handlerPc = h ∧ x.catchType = t := by
  cases hT : T.toList with
  | nil => rw [hT] at he; cases he
  | cons x r =>
    rw [hT] at he
    cases r with
    | nil =>
      simp only [List.map_cons, List.map_nil, List.cons.injEq, Prod.mk.injEq, and_true] at he
      exact ⟨x, rfl, he.1, he.2.1, he.2.2.1, he.2.2.2⟩
    | cons y r => cases he
theorem fl_tab2 {T : Array ExceptionTableEntry} {a b h t a' b' h' t' : Nat} (he : T.toList.map (fun h => (h.startPc, h.endPc, h.handlerPc, h.catchType)) = [(a, b, h, t), (a', b', h', t')]) : ∃ x y, T.toList = [x, y] ∧ (x.startPc = a ∧ x.endPc = b ∧ x.handlerPc = h ∧ x.catchType = t) ∧ y.startPc = a' ∧ y.endPc = b' ∧ y.handlerPc = h' ∧ y.catchType = t' := by
  cases hT : T.toList with
  | nil => rw [hT] at he; cases he
  | cons x r =>
    rw [hT] at he
    cases r with
    | nil => cases he
    | cons y r =>
      cases r with
      | nil =>
        simp only [List.map_cons, List.map_nil, List.cons.injEq, Prod.mk.injEq, and_true] at he
        exact ⟨x, y, rfl, ⟨he.1.1, he.1.2.1, he.1.2.2.1, he.1.2.2.2⟩, he.2.1, he.2.2.1, he.2.2.2.1, he.2.2.2.2⟩
      | cons z r => cases he
section FG
variable {p : Program} {l : Launch} {e : Env} {R : Room} {s : State} {m : MethodId} {args : Array Value} {below : List Frame} {meth : Method} {c : Code} {Q : State → Prop} {cc : ByteArray} {nL : Nat} {D : va_G} {dA : Nat → ClassId} {lay : Nat → Nat} {A : Nat → Prop} {H0 : Heap} {C S : Nat}
theorem so_go (hx : p.tables.exec = Jvm.exec) (hb : c.code = cc) {pc tgt : Nat} {off : Int} {lv : am_L} {stk : List am_V} {st : am_S} (hd : decode cc pc = .ok (.goto off, 3)) (ht : (pc : Int) + off = (tgt : Int)) (h : am_X p l e R s m args below meth c Q D dA lay A H0 nL C S tgt lv stk st) : am_X p l e R s m args below meth c Q D dA lay A H0 nL C S pc lv stk st := by
  intro ls H locs hl hP hS
  exact lv_goto hx hb hd ht (h ls H locs hl hP hS)
end FG
section FL
variable {l : Launch} {D : va_G} {dA : Nat → ClassId} {lay : Nat → Nat}
/-- the head of a helper -/
theorem fl_of {y : MethodName} {cc : ByteArray} {maxL : Nat} {hh : List (Nat × Nat × Nat × Nat)} {rm : Room} {w : am_Wp} (hy : plainName y.cls = true) (hyc : y.cls = R_LA) (hone : ∀ as st k, w as st k → as.all am_one = true ∧ as.length ≤ maxL)
    (body : ∀ (p : Program) (e : Env) (s : State) (m : MethodId) (below : List Frame) (meth : Method) (c : Code) (as : List am_V) (st : am_S) (k : am_P), w as st k → p.tables.exec = Jvm.exec → c.code = cc → c.maxLocals = maxL → (∀ w ∈ Cond.codeWith y cc maxL (some .int) hh :: fw_T, w.before (as.map (am_g lay)).toArray s = true) → s.vm.findClass R_LA = some m.cls → va_K D fw_cl (fw_tys dA) s → fw_lay (fw_A lay s.heap.size) lay → (∀ q, s.heap.size ≤ q → fw_A lay s.heap.size q) → fz (fw_A lay s.heap.size) s s.heap → meth.sig.returnType = some .int → meth.locks = false →
      c.exceptionTable.toList.map (fun h => (h.startPc, h.endPc, h.handlerPc, h.catchType)) = hh → am_X p l e rm s m (as.map (am_g lay)).toArray below meth c (MQ below (fw_Post D dA lay k (fw_A lay s.heap.size)) (as.map (am_g lay)).toArray s 1 6 (fw_A lay s.heap.size)) D dA lay (fw_A lay s.heap.size) s.heap maxL 0 0 0 (as.map some ++ List.replicate (maxL - as.length) none) [] st) :
    fl_Met l D dA lay y (Cond.codeWith y cc maxL (some .int) hh :: fw_T) rm w := by
  intro sz as st k h
  obtain ⟨ho, hlen⟩ := hone as st k h
  refine va_MetW (cc := cc) (maxL := maxL) (ret := some .int) (hh := hh) hy rfl ?_
  intro p e s m args below meth c s₁ B hml hv
  obtain ⟨⟨rfl, hsz, hP, hK, hL⟩, hz⟩ := hv
  have hts := atoms_spec (ws := Cond.codeWith y cc maxL (some .int) hh :: fw_T) B.pre
  have hown : s.vm.findClass R_LA = some m.cls := hyc ▸ findClass_of_methodNamed B.named
  subst hsz
  have X0 : Stand p l e (headSpec (Cond.codeWith y cc maxL (some .int) hh :: fw_T) rm).room s m (as.map (am_g lay)).toArray below meth c s₁ [] 0 0 := Stand.of_body B
  obtain ⟨m9, meth9, c9, hn9, h1, h2, -, -, h5, -⟩ := Cond.codeWith_spec (hts _ List.mem_cons_self)
  cases hn9.symm.trans B.named
  cases h1.symm.trans B.method
  cases h2.symm.trans X0.code
  rw [lg_entry_eq]
  exact body p e s m below meth _ as st k h B.exec B.bytes hml hts hown hK ⟨hL.1, fun o ho => Or.inl ⟨o, ho, rfl⟩⟩ (fun q hq => Or.inr hq) hz B.returns B.notSynchronized h5 _ s.heap [] (am_lr_entry ho hlen) hP va_S.rf
/-- a helper's return -/
theorem fl_ret {p : Program} {e : Env} {R : Room} {s : State} {m : MethodId} {args : Array Value} {below : List Frame} {meth : Method} {c : Code} {cc : ByteArray} {k : am_P} {nL pc : Nat} {lv : am_L} {st : am_S} {v : Int32} (hx : p.tables.exec = Jvm.exec) (hb : c.code = cc) (hr : meth.sig.returnType = some .int) (hlocks : meth.locks = false) (hd : decode cc pc = .ok (.ireturn, 1)) (hk : k (.inl (some (.inl v))) st) :
    am_X p l e R s m args below meth c (MQ below (fw_Post D dA lay k (fw_A lay s.heap.size)) args s 1 6 (fw_A lay s.heap.size)) D dA lay (fw_A lay s.heap.size) s.heap nL 1 6 pc lv [.inl v] st := by
  intro ls H locs hl hP hS
  exact W.iret hx hb hr (fun t ht hW => ⟨⟨some (.inl v), st, rfl, hk, by rw [ht]; exact hP⟩, hS.F ht⟩) hS.2.2 hd
end FL
theorem fl_las {st : am_S} {z : Int64} (h : z.toInt32.toInt64 = z) : fw_as .lastore st 167 0 (.inr (.inr z)) = some (1, am_up st 2167 0 z.toInt32) := if_pos ⟨rfl, h⟩
theorem fl_i64 (x : Int32) : x.toInt64.toInt32 = x := by simp
abbrev fl_rm : Room := { frames := 7, cells := 1, slots := 6, locals := 189 }
def tb_feed : Nat → Option Int32 := (fun n => if n = 2 then some 1 else none)
def wl_feed : am_Wp := fun as st k => ∃ p0 : Int32, as = [.inr (.inl 123), .inl p0, .inr (.inl 167)] ∧ wp_FW_feed [.inr (.inl 123), .inl p0] st (fl_post tb_feed k)
theorem wm_feed : am_Mo wl_feed := by
  intro as st k k' hk h
  obtain ⟨p0, rfl, h⟩ := h
  refine ⟨p0, rfl, mo_FW_feed _ _ _ _ ?_ h⟩
  intro o st' ho
  rcases o with (_ | x | y) | n
  · exact ho
  · exact ⟨ho.1, hk _ _ ho.2⟩
  · exact ho
  · obtain ⟨h1, a, h2, h3⟩ := ho
    exact ⟨h1, a, h2, hk _ _ h3⟩
set_option maxRecDepth 100000 in
theorem wd_feed : Cond.codeWith y_LA_feed c_LA_feed 4 (some .int) [(0, 9, 12, 13)] ∈ fw_T := fw_T_in (i := 436) rfl rfl
set_option maxHeartbeats 1000000 in
theorem tl_feed (l : Launch) (htr : l.stackTraces = false) (D : va_G) (dA : Nat → ClassId) (lay : Nat → Nat) : fl_Met l D dA lay y_LA_feed (Cond.codeWith y_LA_feed c_LA_feed 4 (some .int) [(0, 9, 12, 13)] :: fw_T) fl_rm wl_feed := by
  refine fl_of (by decide) rfl (fun as st k h => by obtain ⟨p0, rfl, -⟩ := h; exact ⟨rfl, Nat.le_of_ble_eq_true rfl⟩) ?_
  intro p e s m below meth c as st k hw hx hb hml hts hown hK hL hA hz hr hlocks htab
  obtain ⟨p0, rfl, hw⟩ := hw
  refine so_ex (q := 1) hx hb d_LA_feed_0 rfl rfl ?_
  refine so_ex (q := 2) hx hb d_LA_feed_1 rfl rfl ?_
  refine so_ex (q := 3) hx hb d_LA_feed_2 rfl rfl ?_
  refine so_ex (q := 4) hx hb d_LA_feed_3 rfl rfl ?_
  refine so_tcall (idx := 7) (n := 2) (ci := 4) (o := 123) (i := 0) (as := [.inl p0]) (r := [.inl 0, .inr (.inl 167)]) (w := wp_FW_feed) hx hb hml hts (fun w h => List.mem_cons_of_mem _ h) hown hK hL hA hz ⟨by decide, by decide⟩ ⟨y_FW_feed, c_FW_feed, 2, (some .int), fx_rm, 1, tx_FW_feed l htr D dA lay, rfl, rfl, by decide, by decide, wc_FW_feed, fw_T_in (i := 438) (by decide +kernel) rfl, wi_FW, ⟨by decide, by decide, by decide⟩, wk_FW_feed, wl_FW_feed, rfl, _, _, rfl⟩ d_LA_feed_4 rfl rfl rfl (mo_FW_feed _ _ _ _ ?_ hw)
  intro oc st' ho
  rcases oc with (_ | v | y) | nn
  · exact False.elim ho
  · obtain ⟨hv, ho⟩ := ho
    refine so_ex (q := 8) hx hb d_LA_feed_7 rfl rfl ?_
    refine so_as (q := 9) hx hb hK hL d_LA_feed_8 (ha := if_pos ⟨rfl, by rw [fl_i64]⟩) (vp_in_nI (n := 0) (by decide) (by decide)) rfl ?_
    refine so_go (tgt := 15) hx hb d_LA_feed_9 rfl ?_
    refine so_ex (q := 16) hx hb d_LA_feed_15 rfl rfl ?_
    exact fl_ret hx hb hr hlocks d_LA_feed_16 (by simpa [fl_i64] using ho)
  · exact False.elim ho
  · obtain ⟨h12, a, ha, ho⟩ := ho
    obtain ⟨x, hx1, hx2, hx3, hx4, hx5⟩ := fl_tab1 htab
    have hn : nn = 2 := by
      rcases h12 with rfl | rfl
      · cases ha
      · exact rfl
    subst hn
    cases ha
    refine ⟨12, 3, 1, ⟨Or.inl ⟨d_LA_feed_12, rfl, by decide⟩, [], [], x, hx1, by simp [covers, hx2, hx3], by rw [hx5]; decide, hx4, by rw [hx5]; exact fw_T_in (i := 437) (by decide +kernel) rfl, by decide, Or.inl rfl⟩, by decide, ?_⟩
    refine so_ex (q := 14) hx hb d_LA_feed_13 rfl rfl ?_
    exact fl_ret hx hb hr hlocks d_LA_feed_14 ho
def tb_method : Nat → Option Int32 := (fun n => if n = 1 then some 1 else if n = 2 then some 2 else none)
def wl_method : am_Wp := fun as st k => ∃ p0 p1 p2 p3 p4 : Int32, as = [.inr (.inl 123), .inl p0, .inl p1, .inl p2, .inl p3, .inl p4, .inr (.inl 167)] ∧ wp_FW_method [.inr (.inl 123), .inl p0, .inl p1, .inl p2, .inl p3, .inl p4] st (fl_post tb_method k)
theorem wm_method : am_Mo wl_method := by
  intro as st k k' hk h
  obtain ⟨p0, p1, p2, p3, p4, rfl, h⟩ := h
  refine ⟨p0, p1, p2, p3, p4, rfl, mo_FW_method _ _ _ _ ?_ h⟩
  intro o st' ho
  rcases o with (_ | x | y) | n
  · exact ho
  · exact ⟨ho.1, hk _ _ ho.2⟩
  · exact ho
  · obtain ⟨h1, a, h2, h3⟩ := ho
    exact ⟨h1, a, h2, hk _ _ h3⟩
set_option maxRecDepth 100000 in
theorem wd_method : Cond.codeWith y_LA_method c_LA_method 8 (some .int) [(0, 16, 19, 19), (0, 16, 23, 13)] ∈ fw_T := fw_T_in (i := 510) rfl rfl
set_option maxHeartbeats 1000000 in
theorem tl_method (l : Launch) (htr : l.stackTraces = false) (D : va_G) (dA : Nat → ClassId) (lay : Nat → Nat) : fl_Met l D dA lay y_LA_method (Cond.codeWith y_LA_method c_LA_method 8 (some .int) [(0, 16, 19, 19), (0, 16, 23, 13)] :: fw_T) fl_rm wl_method := by
  refine fl_of (by decide) rfl (fun as st k h => by obtain ⟨p0, p1, p2, p3, p4, rfl, -⟩ := h; exact ⟨rfl, Nat.le_of_ble_eq_true rfl⟩) ?_
  intro p e s m below meth c as st k hw hx hb hml hts hown hK hL hA hz hr hlocks htab
  obtain ⟨p0, p1, p2, p3, p4, rfl, hw⟩ := hw
  refine so_ex (q := 2) hx hb d_LA_method_0 rfl rfl ?_
  refine so_ex (q := 3) hx hb d_LA_method_2 rfl rfl ?_
  refine so_ex (q := 4) hx hb d_LA_method_3 rfl rfl ?_
  refine so_ex (q := 5) hx hb d_LA_method_4 rfl rfl ?_
  refine so_ex (q := 6) hx hb d_LA_method_5 rfl rfl ?_
  refine so_ex (q := 7) hx hb d_LA_method_6 rfl rfl ?_
  refine so_ex (q := 9) hx hb d_LA_method_7 rfl rfl ?_
  refine so_ex (q := 11) hx hb d_LA_method_9 rfl rfl ?_
  refine so_tcall (idx := 15) (n := 6) (ci := 4) (o := 123) (i := 0) (as := [.inl p0, .inl p1, .inl p2, .inl p3, .inl p4]) (r := [.inl 0, .inr (.inl 167)]) (w := wp_FW_method) hx hb hml hts (fun w h => List.mem_cons_of_mem _ h) hown hK hL hA hz ⟨by decide, by decide⟩ ⟨y_FW_method, c_FW_method, 6, (some .int), fx_rm, 5, tx_FW_method l htr D dA lay, rfl, rfl, by decide, by decide, wc_FW_method, fw_T_in (i := 512) (by decide +kernel) rfl, wi_FW, ⟨by decide, by decide, by decide⟩, wk_FW_method, wl_FW_method, rfl, _, _, rfl⟩ d_LA_method_11 rfl rfl rfl (mo_FW_method _ _ _ _ ?_ hw)
  intro oc st' ho
  rcases oc with (_ | v | y) | nn
  · exact False.elim ho
  · obtain ⟨hv, ho⟩ := ho
    refine so_ex (q := 15) hx hb d_LA_method_14 rfl rfl ?_
    refine so_as (q := 16) hx hb hK hL d_LA_method_15 (ha := if_pos ⟨rfl, by rw [fl_i64]⟩) (vp_in_nI (n := 0) (by decide) (by decide)) rfl ?_
    refine so_go (tgt := 27) hx hb d_LA_method_16 rfl ?_
    refine so_ex (q := 28) hx hb d_LA_method_27 rfl rfl ?_
    exact fl_ret hx hb hr hlocks d_LA_method_28 (by simpa [fl_i64] using ho)
  · exact False.elim ho
  · obtain ⟨h12, a, ha, ho⟩ := ho
    obtain ⟨x, y, hx1, ⟨hx2, hx3, hx4, hx5⟩, hy2, hy3, hy4, hy5⟩ := fl_tab2 htab
    rcases h12 with rfl | rfl
    · cases ha
      refine ⟨19, 7, 2, ⟨Or.inr ⟨d_LA_method_19, rfl⟩, [], [y], x, hx1, by simp [covers, hx2, hx3], by rw [hx5]; decide, hx4, by rw [hx5]; exact fw_T_in (i := 511) (by decide +kernel) rfl, by decide, Or.inl rfl⟩, by decide, ?_⟩
      refine so_ex (q := 22) hx hb d_LA_method_21 rfl rfl ?_
      exact fl_ret hx hb hr hlocks d_LA_method_22 ho
    · cases ha
      refine ⟨23, 7, 2, ⟨Or.inr ⟨d_LA_method_23, rfl⟩, [x], [], y, hx1, by simp [covers, hy2, hy3], by rw [hy5]; decide, hy4, by rw [hy5]; exact fw_T_in (i := 437) (by decide +kernel) rfl, by decide, Or.inr ⟨x, rfl, by simp [covers, hx2, hx3], by rw [hx5]; decide, rfl, by rw [hx5]; exact fw_T_in (i := 511) (by decide +kernel) rfl⟩⟩, by decide, ?_⟩
      refine so_ex (q := 26) hx hb d_LA_method_25 rfl rfl ?_
      exact fl_ret hx hb hr hlocks d_LA_method_26 ho
def tb_verify : Nat → Option Int32 := (fun n => if n = 1 then some 1 else if n = 2 then some 2 else none)
def wl_verify : am_Wp := fun as st k => as = [.inr (.inl 123), .inr (.inl 167)] ∧ wp_FW_verify [.inr (.inl 123)] st (fl_post tb_verify k)
theorem wm_verify : am_Mo wl_verify := by
  intro as st k k' hk h
  obtain ⟨rfl, h⟩ := h
  refine ⟨rfl, mo_FW_verify _ _ _ _ ?_ h⟩
  intro o st' ho
  rcases o with (_ | x | y) | n
  · exact ho
  · exact ⟨ho.1, hk _ _ ho.2⟩
  · exact ho
  · obtain ⟨h1, a, h2, h3⟩ := ho
    exact ⟨h1, a, h2, hk _ _ h3⟩
set_option maxRecDepth 100000 in
theorem wd_verify : Cond.codeWith y_LA_verify c_LA_verify 3 (some .int) [(0, 8, 11, 19), (0, 8, 14, 13)] ∈ fw_T := fw_T_in (i := 552) rfl rfl
set_option maxHeartbeats 1000000 in
theorem tl_verify (l : Launch) (htr : l.stackTraces = false) (D : va_G) (dA : Nat → ClassId) (lay : Nat → Nat) : fl_Met l D dA lay y_LA_verify (Cond.codeWith y_LA_verify c_LA_verify 3 (some .int) [(0, 8, 11, 19), (0, 8, 14, 13)] :: fw_T) fl_rm wl_verify := by
  refine fl_of (by decide) rfl (fun as st k h => by obtain ⟨rfl, -⟩ := h; exact ⟨rfl, Nat.le_of_ble_eq_true rfl⟩) ?_
  intro p e s m below meth c as st k hw hx hb hml hts hown hK hL hA hz hr hlocks htab
  obtain ⟨rfl, hw⟩ := hw
  refine so_ex (q := 1) hx hb d_LA_verify_0 rfl rfl ?_
  refine so_ex (q := 2) hx hb d_LA_verify_1 rfl rfl ?_
  refine so_ex (q := 3) hx hb d_LA_verify_2 rfl rfl ?_
  refine so_tcall (idx := 21) (n := 1) (ci := 4) (o := 123) (i := 0) (as := []) (r := [.inl 0, .inr (.inl 167)]) (w := wp_FW_verify) hx hb hml hts (fun w h => List.mem_cons_of_mem _ h) hown hK hL hA hz ⟨by decide, by decide⟩ ⟨y_FW_verify, c_FW_verify, 3, (some .int), fx_rm, 0, tx_FW_verify l htr D dA lay, rfl, rfl, by decide, by decide, wc_FW_verify, fw_T_in (i := 553) (by decide +kernel) rfl, wi_FW, ⟨by decide, by decide, by decide⟩, wk_FW_verify, wl_FW_verify, rfl, _, _, rfl⟩ d_LA_verify_3 rfl rfl rfl (mo_FW_verify _ _ _ _ ?_ hw)
  intro oc st' ho
  rcases oc with (_ | v | y) | nn
  · exact False.elim ho
  · obtain ⟨hv, ho⟩ := ho
    refine so_ex (q := 7) hx hb d_LA_verify_6 rfl rfl ?_
    refine so_as (q := 8) hx hb hK hL d_LA_verify_7 (ha := if_pos ⟨rfl, by rw [fl_i64]⟩) (vp_in_nI (n := 0) (by decide) (by decide)) rfl ?_
    refine so_go (tgt := 17) hx hb d_LA_verify_8 rfl ?_
    refine so_ex (q := 18) hx hb d_LA_verify_17 rfl rfl ?_
    exact fl_ret hx hb hr hlocks d_LA_verify_18 (by simpa [fl_i64] using ho)
  · exact False.elim ho
  · obtain ⟨h12, a, ha, ho⟩ := ho
    obtain ⟨x, y, hx1, ⟨hx2, hx3, hx4, hx5⟩, hy2, hy3, hy4, hy5⟩ := fl_tab2 htab
    rcases h12 with rfl | rfl
    · cases ha
      refine ⟨11, 2, 1, ⟨Or.inl ⟨d_LA_verify_11, rfl, by decide⟩, [], [y], x, hx1, by simp [covers, hx2, hx3], by rw [hx5]; decide, hx4, by rw [hx5]; exact fw_T_in (i := 511) (by decide +kernel) rfl, by decide, Or.inl rfl⟩, by decide, ?_⟩
      refine so_ex (q := 13) hx hb d_LA_verify_12 rfl rfl ?_
      exact fl_ret hx hb hr hlocks d_LA_verify_13 ho
    · cases ha
      refine ⟨14, 2, 1, ⟨Or.inl ⟨d_LA_verify_14, rfl, by decide⟩, [x], [], y, hx1, by simp [covers, hy2, hy3], by rw [hy5]; decide, hy4, by rw [hy5]; exact fw_T_in (i := 437) (by decide +kernel) rfl, by decide, Or.inr ⟨x, rfl, by simp [covers, hx2, hx3], by rw [hx5]; decide, rfl, by rw [hx5]; exact fw_T_in (i := 511) (by decide +kernel) rfl⟩⟩, by decide, ?_⟩
      refine so_ex (q := 16) hx hb d_LA_verify_15 rfl rfl ?_
      exact fl_ret hx hb hr hlocks d_LA_verify_16 ho
def tb_start : Nat → Option Int32 := (fun n => if n = 0 then some 0 else if n = 1 then some 1 else if n = 2 then some 2 else none)
def wl_start : am_Wp := fun as st k => ∃ p0 : Int32, as = [.inr (.inl 123), .inl p0, .inr (.inl 167)] ∧ wp_FW_start [.inr (.inl 123), .inl p0] st (fl_post tb_start k)
theorem wm_start : am_Mo wl_start := by
  intro as st k k' hk h
  obtain ⟨p0, rfl, h⟩ := h
  refine ⟨p0, rfl, mo_FW_start _ _ _ _ ?_ h⟩
  intro o st' ho
  rcases o with (_ | x | y) | n
  · exact ho
  · exact ⟨ho.1, hk _ _ ho.2⟩
  · exact ho
  · obtain ⟨h1, a, h2, h3⟩ := ho
    exact ⟨h1, a, h2, hk _ _ h3⟩
set_option maxRecDepth 100000 in
theorem wd_start : Cond.codeWith y_LA_start c_LA_start 4 (some .int) [(0, 16, 19, 19), (0, 16, 22, 13)] ∈ fw_T := fw_T_in (i := 723) rfl rfl
set_option maxHeartbeats 1000000 in
theorem tl_start (l : Launch) (htr : l.stackTraces = false) (D : va_G) (dA : Nat → ClassId) (lay : Nat → Nat) : fl_Met l D dA lay y_LA_start (Cond.codeWith y_LA_start c_LA_start 4 (some .int) [(0, 16, 19, 19), (0, 16, 22, 13)] :: fw_T) fl_rm wl_start := by
  refine fl_of (by decide) rfl (fun as st k h => by obtain ⟨p0, rfl, -⟩ := h; exact ⟨rfl, Nat.le_of_ble_eq_true rfl⟩) ?_
  intro p e s m below meth c as st k hw hx hb hml hts hown hK hL hA hz hr hlocks htab
  obtain ⟨p0, rfl, hw⟩ := hw
  refine so_ex (q := 1) hx hb d_LA_start_0 rfl rfl ?_
  refine so_ex (q := 2) hx hb d_LA_start_1 rfl rfl ?_
  refine so_ex (q := 3) hx hb d_LA_start_2 rfl rfl ?_
  refine so_ex (q := 4) hx hb d_LA_start_3 rfl rfl ?_
  refine so_tcall (idx := 25) (n := 2) (ci := 4) (o := 123) (i := 0) (as := [.inl p0]) (r := [.inl 0, .inr (.inl 167)]) (w := wp_FW_start) hx hb hml hts (fun w h => List.mem_cons_of_mem _ h) hown hK hL hA hz ⟨by decide, by decide⟩ ⟨y_FW_start, c_FW_start, 2, (some .boolean), fx_rm, 1, tx_FW_start l htr D dA lay, rfl, rfl, by decide, by decide, wc_FW_start, fw_T_in (i := 724) (by decide +kernel) rfl, wi_FW, ⟨by decide, by decide, by decide⟩, wk_FW_start, wl_FW_start, rfl, _, _, rfl⟩ d_LA_start_4 rfl rfl rfl (mo_FW_start _ _ _ _ ?_ hw)
  intro oc st' ho
  rcases oc with (_ | v | y) | nn
  · exact False.elim ho
  · obtain ⟨hv, ho⟩ := ho
    refine so_br (tgt := 14) (q := 10) hx hb d_LA_start_7 rfl rfl rfl (fun hv9 => ?_) (fun hv9 => ?_)
    · replace hv9 : v = 0 := hv9
      subst hv9
      refine so_ex (q := 15) hx hb d_LA_start_14 rfl rfl ?_
      refine so_as (n := 1) (q := 16) (st' := am_up st' 2167 0 0) hx hb hK hL d_LA_start_15 (ha := fl_las (z := 0) (by decide)) (vp_in_nI (n := 0) (by decide) (by decide)) rfl ?_
      refine so_go (tgt := 25) hx hb d_LA_start_16 rfl ?_
      refine so_ex (q := 26) hx hb d_LA_start_25 rfl rfl ?_
      exact fl_ret hx hb hr hlocks d_LA_start_26 (by simpa [fl_i64] using ho)
    · replace hv9 : ¬ v = 0 := hv9
      have hv8 : v = 1 := by
        rcases hv with h | h | h
        · exact absurd h hv9
        · exact h
        · cases h
      subst hv8
      refine so_ex (q := 11) hx hb d_LA_start_10 rfl rfl ?_
      refine so_go (tgt := 15) hx hb d_LA_start_11 rfl ?_
      refine so_as (n := 1) (q := 16) (st' := am_up st' 2167 0 1) hx hb hK hL d_LA_start_15 (ha := fl_las (z := 1) (by decide)) (vp_in_nI (n := 0) (by decide) (by decide)) rfl ?_
      refine so_go (tgt := 25) hx hb d_LA_start_16 rfl ?_
      refine so_ex (q := 26) hx hb d_LA_start_25 rfl rfl ?_
      exact fl_ret hx hb hr hlocks d_LA_start_26 (by simpa [fl_i64] using ho)
  · exact False.elim ho
  · obtain ⟨h12, a, ha, ho⟩ := ho
    obtain ⟨x, y, hx1, ⟨hx2, hx3, hx4, hx5⟩, hy2, hy3, hy4, hy5⟩ := fl_tab2 htab
    rcases h12 with rfl | rfl
    · cases ha
      refine ⟨19, 3, 1, ⟨Or.inl ⟨d_LA_start_19, rfl, by decide⟩, [], [y], x, hx1, by simp [covers, hx2, hx3], by rw [hx5]; decide, hx4, by rw [hx5]; exact fw_T_in (i := 511) (by decide +kernel) rfl, by decide, Or.inl rfl⟩, by decide, ?_⟩
      refine so_ex (q := 21) hx hb d_LA_start_20 rfl rfl ?_
      exact fl_ret hx hb hr hlocks d_LA_start_21 ho
    · cases ha
      refine ⟨22, 3, 1, ⟨Or.inl ⟨d_LA_start_22, rfl, by decide⟩, [x], [], y, hx1, by simp [covers, hy2, hy3], by rw [hy5]; decide, hy4, by rw [hy5]; exact fw_T_in (i := 437) (by decide +kernel) rfl, by decide, Or.inr ⟨x, rfl, by simp [covers, hx2, hx3], by rw [hx5]; decide, rfl, by rw [hx5]; exact fw_T_in (i := 511) (by decide +kernel) rfl⟩⟩, by decide, ?_⟩
      refine so_ex (q := 24) hx hb d_LA_start_23 rfl rfl ?_
      exact fl_ret hx hb hr hlocks d_LA_start_24 ho
def tb_run : Nat → Option Int32 := (fun n => if n = 1 then some 1 else none)
def wl_run : am_Wp := fun as st k => ∃ p0 : Int32, as = [.inr (.inl 123), .inl p0, .inr (.inl 167)] ∧ wp_FW_run [.inr (.inl 123), .inl p0] st (fl_post tb_run k)
theorem wm_run : am_Mo wl_run := by
  intro as st k k' hk h
  obtain ⟨p0, rfl, h⟩ := h
  refine ⟨p0, rfl, mo_FW_run _ _ _ _ ?_ h⟩
  intro o st' ho
  rcases o with (_ | x | y) | n
  · exact ho
  · exact ⟨ho.1, hk _ _ ho.2⟩
  · exact ho
  · obtain ⟨h1, a, h2, h3⟩ := ho
    exact ⟨h1, a, h2, hk _ _ h3⟩
set_option maxRecDepth 100000 in
theorem wd_run : Cond.codeWith y_LA_run c_LA_run 4 (some .int) [(0, 9, 12, 19)] ∈ fw_T := fw_T_in (i := 746) rfl rfl
set_option maxHeartbeats 1000000 in
theorem tl_run (l : Launch) (htr : l.stackTraces = false) (D : va_G) (dA : Nat → ClassId) (lay : Nat → Nat) : fl_Met l D dA lay y_LA_run (Cond.codeWith y_LA_run c_LA_run 4 (some .int) [(0, 9, 12, 19)] :: fw_T) fl_rm wl_run := by
  refine fl_of (by decide) rfl (fun as st k h => by obtain ⟨p0, rfl, -⟩ := h; exact ⟨rfl, Nat.le_of_ble_eq_true rfl⟩) ?_
  intro p e s m below meth c as st k hw hx hb hml hts hown hK hL hA hz hr hlocks htab
  obtain ⟨p0, rfl, hw⟩ := hw
  refine so_ex (q := 1) hx hb d_LA_run_0 rfl rfl ?_
  refine so_ex (q := 2) hx hb d_LA_run_1 rfl rfl ?_
  refine so_ex (q := 3) hx hb d_LA_run_2 rfl rfl ?_
  refine so_ex (q := 4) hx hb d_LA_run_3 rfl rfl ?_
  refine so_tcall (idx := 29) (n := 2) (ci := 4) (o := 123) (i := 0) (as := [.inl p0]) (r := [.inl 0, .inr (.inl 167)]) (w := wp_FW_run) hx hb hml hts (fun w h => List.mem_cons_of_mem _ h) hown hK hL hA hz ⟨by decide, by decide⟩ ⟨y_FW_run, c_FW_run, 3, (some .int), fx_rm, 1, tx_FW_run l htr D dA lay, rfl, rfl, by decide, by decide, wc_FW_run, fw_T_in (i := 747) (by decide +kernel) rfl, wi_FW, ⟨by decide, by decide, by decide⟩, wk_FW_run, wl_FW_run, rfl, _, _, rfl⟩ d_LA_run_4 rfl rfl rfl (mo_FW_run _ _ _ _ ?_ hw)
  intro oc st' ho
  rcases oc with (_ | v | y) | nn
  · exact False.elim ho
  · obtain ⟨hv, ho⟩ := ho
    refine so_ex (q := 8) hx hb d_LA_run_7 rfl rfl ?_
    refine so_as (q := 9) hx hb hK hL d_LA_run_8 (ha := if_pos ⟨rfl, by rw [fl_i64]⟩) (vp_in_nI (n := 0) (by decide) (by decide)) rfl ?_
    refine so_go (tgt := 15) hx hb d_LA_run_9 rfl ?_
    refine so_ex (q := 16) hx hb d_LA_run_15 rfl rfl ?_
    exact fl_ret hx hb hr hlocks d_LA_run_16 (by simpa [fl_i64] using ho)
  · exact False.elim ho
  · obtain ⟨h12, a, ha, ho⟩ := ho
    obtain ⟨x, hx1, hx2, hx3, hx4, hx5⟩ := fl_tab1 htab
    have hn : nn = 1 := by
      rcases h12 with rfl | rfl
      · exact rfl
      · cases ha
    subst hn
    cases ha
    refine ⟨12, 3, 1, ⟨Or.inl ⟨d_LA_run_12, rfl, by decide⟩, [], [], x, hx1, by simp [covers, hx2, hx3], by rw [hx5]; decide, hx4, by rw [hx5]; exact fw_T_in (i := 511) (by decide +kernel) rfl, by decide, Or.inl rfl⟩, by decide, ?_⟩
    refine so_ex (q := 14) hx hb d_LA_run_13 rfl rfl ?_
    exact fl_ret hx hb hr hlocks d_LA_run_14 ho

/-! A method's contract out of its walk. -/
/-- the words that every contract asks for -/
def fw_T : List Cond := lw_tbl.filter goodWord
theorem fw_T_in {i : Nat} {w : Cond} (h : tables_1[i]? = some w) (hg : goodWord w = true) : w ∈ fw_T := List.mem_filter.mpr ⟨List.mem_append_right _ (List.mem_of_getElem? h), hg⟩
theorem fw_T_sel {q : MethodName × Nat} (h : q ∈ lw_privs) : Cond.selects q.1.cls q.1 q.1 ∈ fw_T := List.mem_filter.mpr ⟨List.mem_append_left _ (List.mem_map.mpr ⟨q, h, rfl⟩), rfl⟩
theorem fw_T_good {y : MethodName} {b : ByteArray} {n : Nat} {r : Option FieldType} {big : List Cond} (h : ∀ w ∈ fw_T, w ∈ big) (hy : Cond.code y b n r ∈ fw_T) : GoodIn big (Cond.code y b n r :: fw_T) := by
  intro w hw
  have hw : w ∈ fw_T := by
    rcases List.mem_cons.mp hw with rfl | hw
    · exact hy
    · exact hw
  exact ⟨h w hw, good_of_word (List.mem_filter.mp hw).2⟩
/-- a callee as a class sees it -/
def fw_Cal (l : Launch) (D : va_G) (dA : Nat → ClassId) (lay : Nat → Nat) (R : Room) (own : String) (idx n : Nat) (rc : Option Nat) (w : am_Wp) : Prop :=
  ∃ (y : MethodName) (bytes : ByteArray) (maxL : Nat) (ret : Option FieldType) (rm : Room) (np : Nat), fw_Met l D dA lay y (Cond.code y bytes maxL ret :: fw_T) rm w ∧ rm.cells = 0 ∧ rm.slots = 0 ∧ rm.frames + 1 ≤ R.frames ∧ 8 + (maxL + 11) + rm.locals ≤ R.locals ∧ Cond.code y bytes maxL ret ∈ fw_T ∧ Cond.methodLink own idx y ∈ fw_T ∧ Cond.initialized y.cls ∈ fw_T ∧
    (y.cls ≠ "java/lang/invoke/MethodHandle" ∧ y.cls ≠ "java/lang/invoke/VarHandle" ∧ (parseMethodDescriptor y.desc).map (fun d => d.parameters.length) = some np) ∧
    match rc with
    | none => Cond.static y ∈ fw_T ∧ n = np
    | some ci => Cond.instanceMethod y ∈ fw_T ∧ Cond.selects y.cls y y ∈ fw_T ∧ n = np + 1 ∧ ∃ (T : u_T) (N : Nat), fw_cl[ci]? = some (y.cls, T, N)
section MT
variable {p : Program} {l : Launch} {e : Env} {R : Room} {s : State} {m : MethodId} {args : Array Value} {below : List Frame} {meth : Method} {c : Code} {Q : State → Prop} {cc : ByteArray} {nL : Nat} {D : va_G} {dA : Nat → ClassId} {lay : Nat → Nat} {A : Nat → Prop} {H0 : Heap} {own : String} {Ts : List Cond} {C S : Nat}
theorem so_call (hx : p.tables.exec = Jvm.exec) (hb : c.code = cc) (hml : c.maxLocals = nL) (hts : ∀ w ∈ Ts, w.before args s = true) (hsub : ∀ w ∈ fw_T, w ∈ Ts) (hown : s.vm.findClass own = some m.cls) (hK : va_K D fw_cl (fw_tys dA) s) (hL : fw_lay A lay) (hA : ∀ q, H0.size ≤ q → A q) (hf9 : C + 0 ≤ R.cells ∧ S + 0 ≤ R.slots) {pc : Nat} {ins : Instr} {idx n : Nat} {rc : Option Nat} {w : am_Wp} {lv : am_L} {as r : List am_V} {st : am_S} {q : Nat}
    (hC : fw_Cal l D dA lay R own idx n rc w) (hd : decode cc pc = .ok (ins, 3)) (hi : am_iv ins rc = some idx) (hn : as.length = n) (hrc : am_rc rc as) (hr : am_rm r = true) (hq : pc + 3 = q)
    (h : w as st (fun o st' => match o with | .inl ro => am_X p l e R s m args below meth c Q D dA lay A H0 nL C S q lv (ro.toList ++ r) st' | .inr _ => False)) : am_X p l e R s m args below meth c Q D dA lay A H0 nL C S pc lv (as.reverse ++ r) st := by
  intro ls H locs hl hP hS
  subst hq
  obtain ⟨y, bytes, maxL, ret, rm, np, hM, hrc0, hrs0, hfr, hlo, hcode, hlk, hini, hdd, hk⟩ := hC
  have hok : ∀ w ∈ fw_T, w.before args s = true := fun w hw => hts w (hsub w hw)
  have hB : CallB R s args own idx y bytes maxL ret (Cond.code y bytes maxL ret :: fw_T) rm 0 0 np := callB_of np hts (fw_T_good hsub hcode) rfl hrc0 hrs0 (hok _ hini) (hok _ hlk) hdd ⟨hfr, hlo⟩
  have hfA : ∀ q, fw_A lay H.size q → A q := fun q hq => by
    rcases hq with ⟨o, ho, rfl⟩ | hq
    · exact hL.2 o ho
    · exact hA q (Nat.le_trans hS.1 hq)
  have hlay : fw_lay (fun _ => True) lay := ⟨hL.1, fun _ _ => trivial⟩
  have hpre : ∀ U : State, U.heap = H → s.WarmedH U.vm → fw_Pre D dA lay H.size as st ((as.map (am_g lay)).toArray) U := fun U hU hW => ⟨rfl, by rw [hU], by rw [hU]; exact hP, va_K.moved hW.alike hK, hlay⟩
  have hfin : ∀ (ro : Option am_V) (st' : am_S) (H1 : Heap) (locs1 : List Loc), (match (Sum.inl ro : (Option am_V) ⊕ Nat) with | .inl ro => am_X p l e R s m args below meth c Q D dA lay A H0 nL C S (pc + 3) lv (ro.toList ++ r) st' | .inr _ => False) → va_P D fw_cl (fw_W lay dA st') H1 → va_S A H0 H1 locs1 → W p l e R s m args below meth c H1 locs1 C S Q (F0 m (pc + 3) ls ((ro.map (am_g lay)).toList ++ r.map (am_g lay))) := by
    intro ro st' H1 locs1 h1 hP1 hS1
    have h2 := h1 ls H1 locs1 hl hP1 hS1
    rw [List.map_append] at h2
    cases ro with
    | none => exact h2
    | some v => exact h2
  have hroom : 2 * (F0 m pc ls ((as.reverse ++ r).map (am_g lay))).monitorRoom + ((r.map (am_g lay)).map fun v => v.category).sum ≤ 8 := lv_room (am_rm_cat hr)
  have hM' := hM H.size as st _ h
  cases rc with
  | none =>
    obtain ⟨hstt, rfl⟩ := hk
    have hins : ins = .invokestatic idx := by
      unfold am_iv at hi
      split at hi
      · rename_i h9
        cases h9
      · cases hi
        rfl
      · cases hi
    subst hins
    refine fw_run (va_runS (rest := r.map (am_g lay)) (As := as.map (am_g lay)) ⟨hx, hb, hml, hown, hts⟩ hM' ⟨hB, hok _ hstt⟩ ⟨fw_Pre_blind, hpre⟩ rfl (by rw [List.length_map]; exact hn) hl.1 (by rw [← List.map_reverse, ← List.map_append]) hroom hd hf9) hS hfA hfin
  | some ci =>
    obtain ⟨hin, hsel, rfl, T, N, hcl⟩ := hk
    obtain ⟨o, as', i, rfl, hki⟩ := hrc
    have hins : ins = .invokevirtual idx := by
      unfold am_iv at hi
      split at hi
      · cases hi
        rfl
      · rename_i h9
        cases h9
      · cases hi
    subst hins
    have hrecv := va_recv hK hP hcl (fw_W_ob hki)
    refine fw_run (va_runV (rest := r.map (am_g lay)) (As := as'.map (am_g lay)) (b := lay o) ⟨hx, hb, hml, hown, hts⟩ hM' ⟨hB, hok _ hin, hok _ hsel⟩ ⟨fw_Pre_blind, hrecv, hpre⟩ rfl (by rw [List.length_map]; simpa using hn) hl.1 (by simp [am_g]) hroom hd hf9) hS hfA hfin
/-- the whole walk: all rules at once -/
theorem so_all (hx : p.tables.exec = Jvm.exec) (hb : c.code = cc) (hml : c.maxLocals = nL) (hts : ∀ w ∈ Ts, w.before args s = true) (hsub : ∀ w ∈ fw_T, w ∈ Ts) (hown : s.vm.findClass own = some m.cls) (hK : va_K D fw_cl (fw_tys dA) s) (hL : fw_lay A lay) (hA : ∀ q, H0.size ≤ q → A q) (hf9 : C + 0 ≤ R.cells ∧ S + 0 ≤ R.slots) {G : am_G} {k : am_P}
    (hF : ∀ idx ci j, G.1 idx = some (ci, j) → am_Fo own Ts idx ci j) (hC : ∀ idx n rc w, G.2.1 idx = some (n, rc, w) → fw_Cal l D dA lay R own idx n rc w) (hN : ∀ idx v, G.2.2.2.1 idx = some v → Cond.constant own idx v ∈ Ts)
    (hP9 : ∀ (pc : Nat) (lv : am_L) (stk : List am_V) (st : am_S), G.2.2.2.2.2 pc lv stk st → am_X p l e R s m args below meth c Q D dA lay A H0 nL C S pc lv stk st)
    (hX9 : ∀ L xs, G.2.2.2.2.1 = some (L, xs) → va_X (lay 176) L xs s H0 ∧ lay 176 < H0.size ∧ ¬ A (lay 176))
    (hR : ∀ (pc : Nat) (ins : Instr) (lv : am_L) (stk : List am_V) (ro : Option am_V) (st : am_S), decode cc pc = .ok (ins, 1) → am_rt ins stk = some ro → k (.inl ro) st → am_X p l e R s m args below meth c Q D dA lay A H0 nL C S pc lv stk st)
    (hE : ∀ (pc ik ic n : Nat) (lv : am_L) (st : am_S), decode cc pc = .ok (.new ik, 3) → decode cc (pc + 3) = .ok (.dup, 1) → decode cc (pc + 4) = .ok (.invokespecial ic, 3) → decode cc (pc + 7) = .ok (.athrow, 1) → G.2.2.1 ik ic = some n → k (.inr n) st → am_X p l e R s m args below meth c Q D dA lay A H0 nL C S pc lv [] st) :
    am_Cl cc G k (am_X p l e R s m args below meth c Q D dA lay A H0 nL C S) := by
  refine ⟨?_, ?_, ?_, ?_, ?_, ?_, ?_, ?_, ?_, ?_, ?_, ?_, ?_, ?_, ?_, ?_, ?_, ?_, ?_⟩
  · intro pc ins lv stk lv' stk' st q hd h hq hk
    exact so_ex hx hb hd h hq hk
  · intro pc ins lv stk cs stk' off tgt q st hd h ht hq h1 h2
    exact so_br hx hb hd h ht hq h1 h2
  · intro pc off lv stk tgt st hd ht h ls H locs hl hP hS
    exact lv_goto hx hb hd ht (h ls H locs hl hP hS)
  · intro pc len dflt lo hi offs lv x r tgt st hd h9 ht h ls H locs hl hP hS
    exact lv_tableOut hx hb hd h9 ht (h ls H locs hl hP hS)
  · intro pc len dflt lo hi offs lv x r off tgt st hd h1 h2 ho ht h ls H locs hl hP hS
    exact lv_tableIn hx hb hd h1 h2 ho ht (h ls H locs hl hP hS)
  · intro pc len dflt ps lv x r off tgt st hd hp ho ht h ls H locs hl hP hS
    exact lv_lookup hx hb hd hp ho ht (h ls H locs hl hP hS)
  · intro pc ins lv x y z r st q hd h hy hq hk
    exact so_dv hx hb hd h hy hq hk
  · intro pc idx ci j lv o r fs v st q hd hG ho hv hq hk
    exact so_gt hx hb hts hown hK (hF idx ci j hG) hd ho hv hq hk
  · intro pc idx ci j lv o r v st st' q hd hG hw hq hk
    exact so_pt hx hb hts hown hK hL (hF idx ci j hG) hd hw hq hk
  · intro pc ins lv o n i r v st q hd ha hi hq hk
    exact so_al hx hb hK hd ha hi hq hk
  · intro pc ins lv o n i r v st st' q hd ha hi hq hk
    exact so_as hx hb hK hL hd ha hi hq hk
  · intro pc lv o t n r st q hd ha hq hk
    exact so_len hx hb hK hd ha hq hk
  · intro pc ins idx n rc w lv stk as r st q hd hi hg hs hn hc hr hq h
    subst hs
    exact so_call hx hb hml hts hsub hown hK hL hA hf9 (hC idx n rc w hg) hd hi hn hc hr hq h
  · exact hR
  · exact hE
  · intro pc idx lv r v st q hd hg hq h ls H locs hl hP hS
    subst hq
    exact lv_ldc hx hb hown (hts _ (hN idx v hg)) hd (h ls H locs hl hP hS)
  · intro pc L xs lv i r st q hd hg hi hq h ls H locs hl hP hS
    subst hq
    obtain ⟨h1, h2, h3⟩ := hX9 L xs hg
    exact va_sld hx hb h1 h2 h3 hS hi hd (h ls H locs hl hP hS)
  · intro pc L xs lv r st q hd hg hq h ls H locs hl hP hS
    subst hq
    obtain ⟨h1, h2, h3⟩ := hX9 L xs hg
    exact va_slen hx hb h1 h2 h3 hS hd (h ls H locs hl hP hS)
  · exact hP9
end MT
theorem lg_sl_one : ∀ (vs : List Value), (∀ v ∈ vs, v.category = 1) → lg_sl vs = vs.map Slot.val
  | [], _ => rfl
  | v :: vs, h => by
    have h1 := h v List.mem_cons_self
    have ih := lg_sl_one vs (fun w hw => h w (List.mem_cons_of_mem _ hw))
    unfold lg_sl at ih ⊢
    rw [List.flatMap_cons, ih, if_neg (by omega)]
    rfl
theorem lv_args_one : ∀ (vs : List Value) (a : Nat), (∀ v ∈ vs, v.category = 1) → ∀ (i : Nat) (v : Value), vs[i]? = some v → (a + i, v) ∈ lv_args a vs
  | [], _, _, _, _, h => by cases h
  | w :: vs, a, hc, i, v, h => by
    have h1 := hc w List.mem_cons_self
    unfold lv_args
    cases i with
    | zero =>
      cases h
      exact List.mem_cons_self
    | succ i =>
      refine List.mem_cons_of_mem _ ?_
      rw [if_neg (by omega)]
      have := lv_args_one vs (a + 1) (fun w hw => hc w (List.mem_cons_of_mem _ hw)) i v h
      rw [show a + (i + 1) = a + 1 + i by omega]
      exact this
theorem am_lr_entry {lay : Nat → Nat} {as : List am_V} {n : Nat} (ho : as.all am_one = true) (hn : as.length ≤ n) : am_lr lay ((lg_sl (as.map (am_g lay)) ++ List.replicate (n - (lg_sl (as.map (am_g lay))).length) Slot.unset).toArray) n (as.map some ++ List.replicate (n - as.length) none) := by
  have hc : ∀ v ∈ as.map (am_g lay), v.category = 1 := by
    intro v hv
    obtain ⟨a, ha, rfl⟩ := List.mem_map.mp hv
    exact am_cat (List.all_eq_true.mp ho a ha)
  have hlen : (lg_sl (as.map (am_g lay))).length = as.length := by rw [lg_sl_one _ hc]; simp
  have h := lv_entry (as.map (am_g lay)) (n := n) (by rw [hlen]; exact hn)
  refine ⟨h.1, h.2.1, by simp; omega, fun i v hi => ?_⟩
  have hia : as[i]? = some v := by
    rw [List.getElem?_append] at hi
    split at hi
    · rw [List.getElem?_map] at hi
      cases h9 : as[i]? with
      | none => rw [h9] at hi; cases hi
      | some w => rw [h9] at hi; cases hi; rfl
    · have := List.mem_of_getElem? hi
      rw [List.mem_replicate] at this
      cases this.2
  refine ⟨List.all_eq_true.mp ho v (List.mem_of_getElem? hia), ?_⟩
  have hm := lv_args_one (as.map (am_g lay)) 0 hc i (am_g lay v) (by rw [List.getElem?_map, hia]; rfl)
  rw [Nat.zero_add] at hm
  exact h.2.2 _ hm
def am_wp (cc : ByteArray) (G : am_G) (maxL : Nat) (ret : Option FieldType) : am_Wp := fun as st k => (as.all am_one = true ∧ as.length ≤ maxL) ∧ am_AW cc G (fun o st' => am_ok ret o ∧ k o st') 0 (as.map some ++ List.replicate (maxL - as.length) none) [] st
theorem am_wp_mono {cc : ByteArray} {G : am_G} {maxL : Nat} {ret : Option FieldType} (hG : ∀ idx n rc w, G.2.1 idx = some (n, rc, w) → am_Mo w) : am_Mo (am_wp cc G maxL ret) := by
  intro as st k k' hk h
  exact ⟨h.1, am_AW.mono hG (fun o st' q => ⟨q.1, hk o st' q.2⟩) h.2⟩
theorem fw_met_of {l : Launch} {D : va_G} {dA : Nat → ClassId} {lay : Nat → Nat} {y : MethodName} {own : String} {cc : ByteArray} {maxL : Nat} {ret : Option FieldType} {rm : Room} {G : am_G} (hy : plainName y.cls = true) (hyc : y.cls = own)
    (hF : ∀ idx ci j, G.1 idx = some (ci, j) → am_Fo own (Cond.code y cc maxL ret :: fw_T) idx ci j) (hC : ∀ idx n rc w, G.2.1 idx = some (n, rc, w) → fw_Cal l D dA lay rm own idx n rc w) (hN : ∀ idx v, G.2.2.2.1 idx = some v → Cond.constant own idx v ∈ fw_T) (hE : ∀ ik ic, G.2.2.1 ik ic = none) (hX9 : G.2.2.2.2.1 = none) (hP9 : ∀ pc lv stk st, ¬ G.2.2.2.2.2 pc lv stk st) :
    fw_Met l D dA lay y (Cond.code y cc maxL ret :: fw_T) rm (am_wp cc G maxL ret) := by
  intro sz as st k h
  obtain ⟨⟨hone, hlen⟩, h⟩ := h
  refine Met.ofW (cc := cc) (maxL := maxL) (ret := ret) hy rfl ?_
  intro p e s m args below meth c s₁ B hml hv
  obtain ⟨rfl, hsz, hP, hK, hL⟩ := hv
  have hx := B.exec
  have hb := B.bytes
  have hr := B.returns
  have hts := atoms_spec (ws := Cond.code y cc maxL ret :: fw_T) B.pre
  have hown : s.vm.findClass own = some m.cls := hyc ▸ findClass_of_methodNamed B.named
  have hlocks := B.notSynchronized
  subst hsz
  have hL' : fw_lay (fw_A lay s.heap.size) lay := ⟨hL.1, fun o ho => Or.inl ⟨o, ho, rfl⟩⟩
  have hA : ∀ q, s.heap.size ≤ q → fw_A lay s.heap.size q := fun q hq => Or.inr hq
  rw [lg_entry_eq]
  have hret : ∀ (pc : Nat) (ins : Instr) (lv : am_L) (stk : List am_V) (ro : Option am_V) (st : am_S), decode cc pc = .ok (ins, 1) → am_rt ins stk = some ro → (am_ok ret (.inl ro) ∧ k (.inl ro) st) → am_X p l e (headSpec (Cond.code y cc maxL ret :: fw_T) rm).room s m (as.map (am_g lay)).toArray below meth c (MQ below (fw_Post D dA lay k (fw_A lay s.heap.size)) (as.map (am_g lay)).toArray s 0 0 (fw_A lay s.heap.size)) D dA lay (fw_A lay s.heap.size) s.heap maxL 0 0 pc lv stk st := by
    intro pc ins lv stk ro st hd hrt hk ls H locs hl hP hS
    have hq : ∀ t : State, t.heap = H → s.WarmedH t.vm → fw_Post D dA lay k (fw_A lay s.heap.size) (as.map (am_g lay)).toArray s (.returned (ro.map (am_g lay))) t := fun t ht hW => ⟨⟨ro, st, rfl, hk.2, by rw [ht]; exact hP⟩, hS.F ht⟩
    unfold am_rt at hrt
    split at hrt
    · split at hrt
      · rename_i x
        cases hrt
        cases hret : ret with
        | none => rw [hret] at hk; exact False.elim hk.1
        | some ty =>
          rw [hret] at hk hr
          cases ty with
          | int => exact W.iret hx hb hr hq hS.2.2 hd
          | boolean =>
            refine W.zret hx hb hr ?_ hq hS.2.2 hd
            rcases hk.1 with rfl | rfl <;> rfl
          | _ => exact False.elim hk.1
      · cases hrt
    · split at hrt
      · rename_i o
        cases hrt
        cases hret : ret with
        | none => rw [hret] at hk; exact False.elim hk.1
        | some ty =>
          rw [hret] at hk hr
          cases ty with
          | object C => exact W.aret hx hb hr (Or.inl ⟨C, rfl⟩) (Or.inr ⟨_, rfl⟩) hq hS.2.2 hd
          | _ => exact False.elim hk.1
      · cases hrt
    · split at hrt
      · cases hrt
        cases hret : ret with
        | none =>
          rw [hret] at hr
          exact W.vret hx hb hr hq hS.2.2 hd
        | some ty =>
          rw [hret] at hk
          cases ty <;> exact False.elim hk.1
      · cases hrt
    · cases hrt
  exact h _ (so_all (own := own) (Ts := Cond.code y cc maxL ret :: fw_T) hx hb hml hts (fun w hw => List.mem_cons_of_mem _ hw) hown hK hL' hA ⟨Nat.zero_le _, Nat.zero_le _⟩ hF hC (fun idx v hv => List.mem_cons_of_mem _ (hN idx v hv)) (fun pc lv stk st h => absurd h (hP9 pc lv stk st)) (fun L xs h => by rw [hX9] at h; cases h) hret (fun pc ik ic n lv st _ _ _ _ hg _ => by rw [hE] at hg; cases hg)) _ s.heap [] (am_lr_entry hone hlen) hP va_S.rf

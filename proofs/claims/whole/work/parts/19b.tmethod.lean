/-! Contracts of the methods that may throw, and their call inside a method that catches. -/
def fx_Pre (D : va_G) (dA : Nat → ClassId) (lay : Nat → Nat) (sz : Nat) (as : List am_V) (st : am_S) : Array Value → State → Prop := fun v U => fw_Pre D dA lay sz as st v U ∧ fz (fw_A lay sz) U U.heap
def fx_Q (D : va_G) (dA : Nat → ClassId) (lay : Nat → Nat) (k : am_P) (A : Nat → Prop) : Array Value → State → Outcome → State → Prop := fun _ s0 oc t =>
  ((∃ (ro : Option am_V) (st' : am_S), oc = .returned (ro.map (am_g lay)) ∧ k (.inl ro) st' ∧ va_P D fw_cl (fw_W lay dA st') t.heap) ∨
    (∃ (q : Addr) (n : Nat) (st' : am_S) (ce : Cell), oc = .threw q ∧ k (.inr n) st' ∧ va_P D fw_cl (fw_W lay dA st') t.heap ∧ t.heap[q]? = some ce ∧ ce.vm = .none ∧ s0.vm.findClass (fx_cls n) = some ce.cls)) ∧
  va_F A s0 t ∧ ∃ L, s0.WarmedH t.vm ∧ s0.sameButNew ({ t with vm := s0.vm } : State) L 1 6 ∧ ∀ q ∈ L, A q.base
def fx_Met (l : Launch) (D : va_G) (dA : Nat → ClassId) (lay : Nat → Nat) (y : MethodName) (ws : List Cond) (rm : Room) (w : am_Wp) : Prop := ∀ (sz : Nat) (as : List am_V) (st : am_S) (k : am_P), w as st k → MetFree l y (headSpec ws rm) (fx_Pre D dA lay sz as st) (fun _ _ _ _ _ => True) (fx_Q D dA lay k (fw_A lay sz))
theorem fx_Pre_blind {D : va_G} {dA : Nat → ClassId} {lay : Nat → Nat} {sz : Nat} {as : List am_V} {st : am_S} : FrameBlind (fx_Pre D dA lay sz as st) := by
  intro a U g mk q
  exact ⟨fw_Pre_blind a U g mk q.1, fz.moved (u := U) (U := U.calling g mk a) (Vm.Alike.refl U.vm) q.2⟩
theorem fx_met_of {l : Launch} {D : va_G} {dA : Nat → ClassId} {lay : Nat → Nat} {y : MethodName} {cc : ByteArray} {maxL : Nat} {ret : Option FieldType} {rm : Room} {G : am_G} (htr : l.stackTraces = false) (hy : plainName y.cls = true) (hyc : y.cls = "FrameWalk") (hcd : Cond.code y cc maxL ret ∈ fw_T)
    (hF : ∀ idx ci j, G.1 idx = some (ci, j) → am_Fo "FrameWalk" (Cond.code y cc maxL ret :: fw_T) idx ci j) (hC : ∀ idx n rc w, G.2.1 idx = some (n, rc, w) → fw_Cal l D dA lay rm "FrameWalk" idx n rc w) (hN : ∀ idx v, G.2.2.2.1 idx = some v → Cond.constant "FrameWalk" idx v ∈ fw_T) (hE : ∀ ik ic n, G.2.2.1 ik ic = some n → (n = 1 ∧ ik = 72 ∧ ic = 74) ∨ (n = 2 ∧ ik = 58 ∧ ic = 60)) (hX9 : G.2.2.2.2.1 = none) (hP9 : ∀ pc lv stk st, ¬ G.2.2.2.2.2 pc lv stk st) (hr1 : 5 < rm.frames) (hr2 : 82 ≤ rm.locals) (hr3 : 1 ≤ rm.cells) (hr4 : 6 ≤ rm.slots) :
    fx_Met l D dA lay y (Cond.code y cc maxL ret :: fw_T) rm (am_wp cc G maxL ret) := by
  intro sz as st k h
  obtain ⟨⟨hone, hlen⟩, h⟩ := h
  refine MetFree.of_bodyS (code := cc) (maxLocals := maxL) (ret := ret) hy ?_ ?_
  · intro args s m h hn
    obtain ⟨meth, c, h1, h2, h3, h4, h5, h6, -, -⟩ := Cond.code_spec hn (atoms_spec (ws := Cond.code y cc maxL ret :: fw_T) h _ List.mem_cons_self)
    exact ⟨meth, c, h1, h2, h3, h4, h5, h6⟩
  · intro p e s m args below meth c s₁ B hml hv _
    obtain ⟨⟨rfl, hsz, hP, hK, hL⟩, hz⟩ := hv
    have hx := B.exec
    have hb := B.bytes
    have hr := B.returns
    have hts := atoms_spec (ws := Cond.code y cc maxL ret :: fw_T) B.pre
    have hown : s.vm.findClass "FrameWalk" = some m.cls := hyc ▸ findClass_of_methodNamed B.named
    have hlocks := B.notSynchronized
    subst hsz
    have X0 : Stand p l e (headSpec (Cond.code y cc maxL ret :: fw_T) rm).room s m (as.map (am_g lay)).toArray below meth c s₁ [] 0 0 := Stand.of_body B
    have hh0 : s₁.heap = s.heap := by rw [B.state]; rfl
    have hL' : fw_lay (fw_A lay s.heap.size) lay := ⟨hL.1, fun o ho => Or.inl ⟨o, ho, rfl⟩⟩
    have hA : ∀ q, s.heap.size ≤ q → fw_A lay s.heap.size q := fun q hq => Or.inr hq
    have hout : ∀ x ∈ c.exceptionTable.toList, ∀ pc, covers x pc = false := by
      obtain ⟨meth', c', h1, h2, h3, h4, h5, h6, h7, -⟩ := Cond.code_spec B.named (hts _ List.mem_cons_self)
      cases h1.symm.trans B.method
      cases h2.symm.trans X0.code
      intro x hx
      rw [Array.isEmpty_iff] at h7
      rw [h7] at hx
      cases hx
    have hret : ∀ (pc : Nat) (ins : Instr) (lv : am_L) (stk : List am_V) (ro : Option am_V) (st : am_S), decode cc pc = .ok (ins, 1) → am_rt ins stk = some ro → (am_ok ret (.inl ro) ∧ k (.inl ro) st) → am_X p l e (headSpec (Cond.code y cc maxL ret :: fw_T) rm).room s m (as.map (am_g lay)).toArray below meth c (fun t => ∃ o, t.status = .running ∧ Ended t below o ∧ fx_Q D dA lay k (fw_A lay s.heap.size) (as.map (am_g lay)).toArray s o t) D dA lay (fw_A lay s.heap.size) s.heap maxL 0 0 pc lv stk st := by
      intro pc ins lv stk ro st hd hrt hk ls H locs hl hP hS
      have hq : ∀ t : State, t.heap = H → s.WarmedH t.vm → fw_Post D dA lay k (fw_A lay s.heap.size) (as.map (am_g lay)).toArray s (.returned (ro.map (am_g lay))) t := fun t ht hW => ⟨⟨ro, st, rfl, hk.2, by rw [ht]; exact hP⟩, hS.F ht⟩
      have fin : W p l e (headSpec (Cond.code y cc maxL ret :: fw_T) rm).room s m (as.map (am_g lay)).toArray below meth c H locs 1 6 (MQ below (fw_Post D dA lay k (fw_A lay s.heap.size)) (as.map (am_g lay)).toArray s 1 6 (fw_A lay s.heap.size)) (F0 m pc ls (stk.map (am_g lay))) := by
        unfold am_rt at hrt
        split at hrt
        · split at hrt
          · rename_i x
            cases hrt
            cases hret : ret with
            | none => rw [hret] at hk; exact False.elim hk.1
            | some ty =>
              rw [hret] at hk hr
              cases ty with
              | int => exact W.iret hx hb hr hq hS.2.2 hd
              | boolean =>
                refine W.zret hx hb hr ?_ hq hS.2.2 hd
                rcases hk.1 with rfl | rfl <;> rfl
              | _ => exact False.elim hk.1
          · cases hrt
        · split at hrt
          · rename_i o
            cases hrt
            cases hret : ret with
            | none => rw [hret] at hk; exact False.elim hk.1
            | some ty =>
              rw [hret] at hk hr
              cases ty with
              | object C => exact W.aret hx hb hr (Or.inl ⟨C, rfl⟩) (Or.inr ⟨_, rfl⟩) hq hS.2.2 hd
              | _ => exact False.elim hk.1
          · cases hrt
        · split at hrt
          · cases hrt
            cases hret : ret with
            | none =>
              rw [hret] at hr
              exact W.vret hx hb hr hq hS.2.2 hd
            | some ty =>
              rw [hret] at hk
              cases ty <;> exact False.elim hk.1
          · cases hrt
        · cases hrt
      refine W.widen (k := 1) (n := 6) (by omega) (by omega) ?_
      intro T hT X
      obtain ⟨t, a1, o, b1, b2, ⟨⟨ro', st', b3, b4, b5⟩, b6⟩, L, ⟨-, b7, b8⟩, b9⟩ := fin T hT X
      exact ⟨t, a1, o, b1, b2, Or.inl ⟨ro', st', b3, b4, b5⟩, b6, L, b7, b8, b9⟩
    have hthr : ∀ (pc ik ic n : Nat) (lv : am_L) (st : am_S), decode cc pc = .ok (.new ik, 3) → decode cc (pc + 3) = .ok (.dup, 1) → decode cc (pc + 4) = .ok (.invokespecial ic, 3) → decode cc (pc + 7) = .ok (.athrow, 1) → G.2.2.1 ik ic = some n → (am_ok ret (.inr n) ∧ k (.inr n) st) → am_X p l e (headSpec (Cond.code y cc maxL ret :: fw_T) rm).room s m (as.map (am_g lay)).toArray below meth c (fun t => ∃ o, t.status = .running ∧ Ended t below o ∧ fx_Q D dA lay k (fw_A lay s.heap.size) (as.map (am_g lay)).toArray s o t) D dA lay (fw_A lay s.heap.size) s.heap maxL 0 0 pc lv [] st := by
      intro pc ik ic n lv st d0 d3 d4 d7 hg hk ls H locs hl hP hS
      refine fx_throw hx hb htr hown (fun w hw => hts w (List.mem_cons_of_mem _ hw)) hz hS (hE ik ic n hg) (hl.1.trans hml.symm) d0 d3 d4 d7 (fun x hx => hout x hx _) hr1 hr2 (show 0 + 1 ≤ rm.cells by omega) (show 0 + 6 ≤ rm.slots by omega) hlocks ?_
      intro U a ce hrun hend hW hsz hkeep hsame hce hcv hcl
      refine ⟨.threw a, hrun, hend, Or.inr ⟨a, n, st, ce, rfl, hk.2, ?_, hce, hcv, hcl⟩, ?_, locs, hW, hsame, hS.2.2⟩
      · exact hP.kept (fun k q hq => hkeep q.1 (hP k q hq).lt)
      · exact ⟨Nat.le_trans hS.1 hsz, fun q h1 h2 => by rw [hkeep q (Nat.lt_of_lt_of_le h1 hS.1)]; exact hS.2.1 q h1 h2⟩
    have K := h _ (so_all (own := "FrameWalk") (Ts := Cond.code y cc maxL ret :: fw_T) hx hb hml hts (fun w hw => List.mem_cons_of_mem _ hw) hown hK hL' hA ⟨Nat.zero_le _, Nat.zero_le _⟩ hF hC (fun idx v hv => List.mem_cons_of_mem _ (hN idx v hv)) (fun pc lv stk st h => absurd h (hP9 pc lv stk st)) (fun L xs h => by rw [hX9] at h; cases h) hret hthr) _ s.heap [] (am_lr_entry hone hlen) hP va_S.rf
    rw [lg_entry_eq]
    obtain ⟨t, a1, o, b1, b2, b3⟩ := K s₁ hh0 X0
    exact ⟨t, o, a1, b1, b2, b3⟩

/-! The throw itself, and the contracts of methods that may throw. -/
section RA
variable {p : Program} {l : Launch} {e : Env} {R : Room} {s : State} {m : MethodId} {args : Array Value} {below : List Frame} {meth : Method} {c : Code} {T : State} {locs : List Loc} {cells slots : Nat}
/-- the same frame, looked at as if the method began in the state that stands now -/
theorem fx_root (X : Stand p l e R s m args below meth c T locs cells slots) {R' : Room} (hf : R'.frames ≤ R.frames) (hl : R'.locals ≤ R.locals) (hc : cells + R'.cells ≤ R.cells) (hs : slots + R'.slots ≤ R.slots) :
    Stand p l e R' ((T.setVm s.vm).setFrames (.invoking m args :: below)) m args below meth c T [] 0 0 := by
  obtain ⟨g₀, hg₀⟩ := X.frames_eq
  obtain ⟨th, hth, -⟩ := State.frames_cons hg₀
  have hcur : (T.setVm s.vm).cur < (T.setVm s.vm).threads.size := (Array.getElem?_eq_some_iff.mp hth).1
  have hF : ((T.setVm s.vm).setFrames (.invoking m args :: below)).frames = .invoking m args :: below := State.frames_setFrames _ hcur
  obtain ⟨th', hth', -⟩ := State.frames_cons hF
  have hcur' : ((T.setVm s.vm).setFrames (.invoking m args :: below)).cur < ((T.setVm s.vm).setFrames (.invoking m args :: below)).threads.size := (Array.getElem?_eq_some_iff.mp hth').1
  refine ⟨X.admits, X.cas, X.clock, hF, ?_, X.hears, X.method, X.code, X.here, X.tail, X.warmed, by rw [State.stackLimits_setFrames]; rfl, by rw [State.stackBytes_setFrames]; rfl, ?_⟩
  · have h := X.room
    have hU : ((T.setVm s.vm).setFrames (.invoking m args :: below)).localsInUse = s.localsInUse := by
      rw [State.localsInUse_invoking hF (meth := meth) (c := c) X.method X.code, State.localsInUse_invoking X.frames X.method X.code]
    have q1 := X.heapSize
    have q2 := X.used
    have l1 : e.platform.stackLimits (T.setVm s.vm).me = e.platform.stackLimits s.me := X.limits
    have l2 : (T.setVm s.vm).me.stackBytes = s.me.stackBytes := X.bytes
    have hb := X.book
    unfold State.hasRoom at h ⊢
    rw [hU, hF, State.stackLimits_setFrames, State.stackBytes_setFrames, l1, l2]
    rw [X.frames] at h
    simp only [Bool.and_eq_true, decide_eq_true_eq, List.length_cons] at h ⊢
    obtain ⟨⟨⟨⟨h1, h2, h3, h4, h5, h6⟩, h7⟩, h8⟩, -⟩ := h
    refine ⟨⟨⟨⟨by omega, by omega, by omega, by omega, by omega, h6⟩, ?_⟩, ?_⟩, hb⟩
    · show T.heap.size + R'.cells ≤ e.platform.maxCells
      omega
    · show T.slotsUsed + R'.slots ≤ e.platform.maxSlots
      omega
  · have h := (State.sameButNew.refl ((T.setVm s.vm).setFrames (.invoking m args :: below)) hth').setFrames T.frames hcur'
    rw [State.setFrames_setFrames] at h
    have e1 : (T.setVm s.vm).setFrames T.frames = T.setVm s.vm := State.setFrames_self hth
    rw [e1] at h
    exact h
theorem fx_kept {s U : State} {k n : Nat} (h : s.sameButNew ({ U with vm := s.vm } : State) [] k n) : s.heap.size ≤ U.heap.size ∧ ∀ q : Nat, q < s.heap.size → U.heap[q]? = s.heap[q]? := by
  obtain ⟨-, h2, -, -, -, h6⟩ := h
  refine ⟨h2, fun q hq => ?_⟩
  obtain ⟨c', e1, e2, -, e4⟩ := h6 q _ (Array.getElem?_eq_getElem hq)
  have e5 : U.heap[q]? = some c' := e1
  have e6 : c'.slots = (s.heap[q]).slots := Array.ext_getElem? fun i => e4 i (by simp)
  rw [e6] at e2
  rw [e5, e2, Array.getElem?_eq_getElem hq]
variable {H : Heap} {Q : State → Prop} {cc : ByteArray} {pc : Nat} {ls : Array Slot} {A : Nat → Prop}
set_option maxHeartbeats 1000000 in
theorem fx_throw (hx : p.tables.exec = Jvm.exec) (hb : c.code = cc) (htr : l.stackTraces = false) (hown : s.vm.findClass "FrameWalk" = some m.cls) (hts : ∀ w ∈ fw_T, w.before args s = true) (hz : fz A s s.heap) (hS : va_S A s.heap H locs) {n ik ic : Nat} (hn : (n = 1 ∧ ik = 72 ∧ ic = 74) ∨ (n = 2 ∧ ik = 58 ∧ ic = 60)) (hsize : ls.size = c.maxLocals)
    (d0 : decode cc pc = .ok (.new ik, 3)) (d3 : decode cc (pc + 3) = .ok (.dup, 1)) (d4 : decode cc (pc + 4) = .ok (.invokespecial ic, 3)) (d7 : decode cc (pc + 7) = .ok (.athrow, 1)) (hout : ∀ x ∈ c.exceptionTable.toList, covers x (pc + 7) = false)
    (hRf : 5 < R.frames) (hRl : 82 ≤ R.locals) (hRc : cells + 1 ≤ R.cells) (hRs : slots + 6 ≤ R.slots) (hlocks : meth.locks = false)
    (kk : ∀ (U : State) (a : Addr) (ce : Cell), U.status = .running → Ended U below (.threw a) → s.WarmedH U.vm → H.size ≤ U.heap.size → (∀ q : Nat, q < H.size → U.heap[q]? = H[q]?) → s.sameButNew ({ U with vm := s.vm } : State) locs (cells + 1) (slots + 6) → U.heap[a]? = some ce → ce.vm = .none → s.vm.findClass (fx_cls n) = some ce.cls → Q U) :
    W p l e R s m args below meth c H locs cells slots Q (F0 m pc ls []) := by
  intro T hT X
  subst hb
  have htr' : e.platform.stackTraces = false := (show e.platform.stackTraces = l.stackTraces by rw [X.admits.platform]).trans htr
  have Y := fx_root X (R' := { frames := R.frames, locals := R.locals, cells := 1, slots := 6 }) (Nat.le_refl _) (Nat.le_refl _) hRc hRs
  generalize hs' : (T.setVm s.vm).setFrames (.invoking m args :: below) = s' at Y
  have hvm : s'.vm = s.vm := by rw [← hs']; rfl
  have hhp : s'.heap = H := by rw [← hs']; exact hT
  have hW0 : s.WarmedH s'.vm := by rw [hvm]; exact State.WarmedH.refl s
  have hts' : ∀ w ∈ fw_T, w.before args s' = true := fun w hw => word_at hW0 (good_of_word (List.mem_filter.mp hw).2) (hts w hw)
  have hz' : fz A s' s'.heap := by rw [hhp]; exact (hz.kept hS.2.1).moved hW0.alike
  have hown' : s'.vm.findClass "FrameWalk" = some m.cls := by rw [hvm]; exact hown
  have key : ∀ (cls : String), cls = fx_cls n → Bundle.fit cls = true → (∀ w ∈ Bundle.ownAtoms0 "FrameWalk" ic cls fx_nm, w ∈ fx_hw ∨ w ∈ fx_tw ∨ w ∈ fw_T) → Cond.classLink "FrameWalk" ik cls ∈ fw_T → Cond.initialized cls ∈ fw_T → ∃ t, Steps p.tables e below (T.setTop (F0 m pc ls [])) t ∧ Q t := by
    intro cls hcn hfit hin hlk hini
    have hat := fx_words hin hts' hz'
    have hins : (Cond.instantiable cls 6).before args s' = true := hat _ (by simp [Bundle.ownAtoms0])
    obtain ⟨vm₁, cX, kX, hfX, hkX, -, -, X₁, st1⟩ := Y.newCold hx (own := "FrameWalk") (C := cls) (index := ik) (n := 6) hown' (hts' _ hlk) hins (hts' _ hini) (g := F0 m pc ls []) rfl d0 (Nat.le_refl _) (Nat.le_refl _)
    generalize hT1 : (T.setVm vm₁).pushCell { cls := cX, slots := kX.instanceTypes.map defaultValue, vm := .none } = T1 at X₁ st1
    have hcell : T1.heap[T.heap.size]? = some (freshCell cX kX) := by rw [← hT1]; exact State.heap_pushCell_size _ _
    obtain ⟨U, hsteps, hrun, hend, hW, hsame, ce, hce, hO⟩ := X₁.ctorThrow0 hx htr' (own := "FrameWalk") (cls := cls) (names := fx_nm) (ic := ic) hown' hfit (by decide) hat (fun x hx => by cases hx) hfX hkX hcell (by rw [hhp, hT]; exact Nat.le_refl _)
      (g := { method := m, pc := pc + 4, locals := ls, stack := [.ref T.heap.size, .ref T.heap.size], locked := none }) rfl hsize rfl rfl (rest := []) rfl d4 d7 hout hRf (by simp [fx_nm, Value.category, JFrame.monitorRoom]; omega) hlocks
    obtain ⟨f1, f2⟩ := fx_kept hsame
    rw [hhp] at f1 f2
    have hWs : s.WarmedH U.vm := State.WarmedH.trans hW0 hW
    have hcl : s.vm.findClass (fx_cls n) = some ce.cls := by
      have h9 := hO.cls
      rw [hvm, hcn] at h9
      exact h9
    have hall : s.sameButNew ({ U with vm := s.vm } : State) locs (cells + 1) (slots + 6) := by
      subst hs'
      obtain ⟨e1, e2⟩ := hsame
      rw [State.setFrames_setFrames] at e1
      have h2 : (T.setVm s.vm).sameButNew ({ U with vm := s.vm } : State) [] (0 + 1) (0 + 6) := ⟨e1, e2⟩
      have h3 := X.same.trans h2
      rw [List.append_nil] at h3
      exact h3.mono (by omega) (by omega)
    refine ⟨U, st1 _ ?_, kk U _ ce hrun hend hWs f1 f2 hall hce hO.vm hcl⟩
    have hcat : (Value.ref T.heap.size).category = 1 := rfl
    show Steps p.tables e below (T1.setTop { method := m, pc := pc + 3, locals := ls, stack := [.ref T.heap.size], locked := none }) U
    jvm_step X₁.here [X₁.here.top, hx, d3, Value.category]
    exact hsteps
  rcases hn with ⟨rfl, rfl, rfl⟩ | ⟨rfl, rfl, rfl⟩
  · exact key "java/lang/IllegalArgumentException" rfl (by decide) fx_at1_in (fw_T_in (i := 531) (by decide +kernel) rfl) (fw_T_in (i := 15) (by decide +kernel) rfl)
  · exact key "java/lang/IllegalStateException" rfl (by decide) fx_at2_in (fw_T_in (i := 446) (by decide +kernel) rfl) (fw_T_in (i := 14) (by decide +kernel) rfl)
end RA

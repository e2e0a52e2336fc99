/-! The entry of the law (the skeleton's own rows), and its walk out of an invariant. -/
def R_law : String := "FrameWalkLaw"
def lw_P (b : Addr) (xs : List Int32) (args : Array Value) (s : State) : Prop := args = #[.ref b] ∧ s.IntsAt b xs ∧ xs.length ≤ 3072 ∧ (Jvm.Cond.and given_1 narrow_1).before args s = true
def lw_Q (_ : Array Value) (s : State) (o : Outcome) (t : State) : Prop := o = .returned (some (.int 1)) ∧ Framed s o t [] 601024 7293034
def lw_Z (below : List Frame) (a : Array Value) (s : State) : State → Prop := fun t => ∃ o, t.status = .running ∧ Ended t below o ∧ lw_Q a s o t
/-- the law's own end, with 1 on the stack, nothing written that was there before, its room as the claim has it -/
theorem lw_ret {p : Program} {l : Launch} {e : Env} {s : State} {m : MethodId} {below : List Frame} {meth : Method} {c : Code} {b : Nat} (hx : p.tables.exec = Jvm.exec) (hb : c.code = code) (hr : meth.sig.returnType = ret) (hlocks : meth.locks = false) {pc : Nat} {H : Heap} {ls : Array Slot} (hdg : decode code pc = .ok (.ireturn, 1)) : W p l e room_1 s m #[Value.ref b] below meth c H [] 601024 7293034 (lw_Z below #[Value.ref b] s) (F0 m pc ls [.int 1]) := by
  intro T hT X
  obtain ⟨fs, hret, hrun, hended, hW, hframe⟩ := X.leave (v := some (.int 1)) (hlocks := hlocks) (fun h => by rw [hr] at h; cases h)
  have hmeth' : T.vm.method? m = some meth := X.method'
  refine ⟨T.setFrames fs, ?_, .returned (some (.int 1)), hrun, hended, rfl, ⟨_, rfl⟩, hW, hframe⟩
  jvm_step X.here [X.here.top, hx, hb, hdg, hmeth', hr, ret, narrow_b1]
  (try refine ⟨rfl, ?_⟩); (try refine ⟨rfl, ?_⟩)
  first | (intro acts; rw [hret _ acts rfl rfl rfl]) | rw [hret _ _ rfl rfl rfl]
  exact Steps.refl _
/-- what holds at the law's entry: the machine, the code, the tables' words (any of lw_tbl by 'hts w (by decide +kernel)'), the script of L ints xs at the cell b, what the Statement gives of the start (any of its parts by flat_of_before) -/
def lw_At (p : Program) (s : State) (m : MethodId) (meth : Method) (c : Code) (b L : Nat) (xs : Nat → Int32) : Prop :=
  p.tables.exec = Jvm.exec ∧ c.code = code ∧ meth.sig.returnType = ret ∧ c.maxLocals = 7 ∧ s.vm.findClass R_law = some m.cls ∧ (∀ w ∈ lw_tbl, w.before #[Value.ref b] s = true) ∧ va_X b L xs s s.heap ∧ b < s.heap.size ∧ meth.locks = false ∧ (Jvm.Cond.and given_1 narrow_1).before #[Value.ref b] s = true

/-- the law's walk, out of an invariant of its turns -/
theorem lw_main {p : Program} {e : Env} {s : State} {m : MethodId} {below : List Frame} {meth : Method} {c : Code} (l : Launch) (htr : l.stackTraces = false) {b L : Nat} {xs : Nat → Int32} (hL : L ≤ 3072) (C0 : lw_At p s m meth c b L xs) {INV : Nat → am_S → Prop} (h0 : INV 0 st0) (hstep : ∀ j a b st, 6 * j + 6 ≤ L → INV j st → lw_it L xs (fun i st' => i = nI (6 * j) ∧ INV (j + 1) st') (nI (6 * j)) a b st) : W p l e room_1 s m #[Value.ref b] below meth c s.heap [] 0 0 (lw_Z below #[Value.ref b] s) (entryFrame m ([Value.ref b] : List Value).toArray 7) := by
  obtain ⟨hx, hb, hr, hml, hown, hts, hX, hbl, hlocks, hg⟩ := C0
  have hT : ∀ w ∈ fw_T, w.before #[Value.ref b] s = true := fun w hw => hts w (List.mem_filter.mp hw).1
  have hO := lw_O hts
  obtain ⟨D, dA, hK⟩ := lw_K hT hO
  have hlay : fw_lay (fun q => s.heap.size ≤ q) (lw_lay b s.heap.size) := by
    refine ⟨fun i j hi hj h => ?_, fun o ho => ?_⟩
    · rw [lw_lay_lt hi, lw_lay_lt hj] at h
      exact ck_ord_inj i hi j hj (by omega)
    · show s.heap.size ≤ lw_lay b s.heap.size o
      rw [lw_lay_lt ho]
      omega
  have e176 : lw_lay b s.heap.size 176 = b := rfl
  refine lw_begin (bs := b) (D := D) (dA := dA) hx hb hml hT hown hK hO ?_
  have h1 := lw_loop (below := below) (e := e) (Q := lw_Z below #[Value.ref b] s) (meth := meth) (lay := lw_lay b s.heap.size) htr hx hb hml hT hown hK hlay (fun q h => h) (lw_fz hts hg) ⟨by rw [e176]; exact hX, by rw [e176]; exact hbl, by rw [e176]; omega⟩ ?_ hL hstep (L / 6) 0 none none st0 (by omega) h0
  · exact h1
  · intro C S hC hS pc lv st hd ls H locs hl hP hSS
    exact va_forget (fun q hq => hSS.2.2 q hq) (W.widen hC hS (lw_ret hx hb hr hlocks hd))

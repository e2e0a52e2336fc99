/-! the law's loop: soundness of its walk; written by wip/whole/gen/lawpart.py -/
section LC
variable {p : Program} {l : Launch} {e : Env} {R : Room} {s : State} {m : MethodId} {args : Array Value} {below : List Frame} {meth : Method} {c : Code} {Q : State → Prop} {cc : ByteArray} {nL : Nat} {D : va_G} {dA : Nat → ClassId} {lay : Nat → Nat} {A : Nat → Prop} {own : String} {Ts : List Cond} {C S : Nat}
set_option maxHeartbeats 1000000 in
theorem so_lcall (hx : p.tables.exec = Jvm.exec) (hb : c.code = cc) (hml : c.maxLocals = nL) (hts : ∀ w ∈ Ts, w.before args s = true) (hsub : ∀ w ∈ fw_T, w ∈ Ts) (hown : s.vm.findClass own = some m.cls) (hK : va_K D fw_cl (fw_tys dA) s) (hL : fw_lay A lay) (hA : ∀ q, s.heap.size ≤ q → A q) (hz : fz A s s.heap) (hf9 : C + 1 ≤ R.cells ∧ S + 6 ≤ R.slots) {pc idx np : Nat} {w : am_Wp} {lv : am_L} {as r : List am_V} {st : am_S} {y : MethodName} {bytes : ByteArray} {maxL : Nat} {hh : List (Nat × Nat × Nat × Nat)} {rm : Room}
    (hM : fl_Met l D dA lay y (Cond.codeWith y bytes maxL (some .int) hh :: fw_T) rm w) (hrc : rm.cells = 1) (hrs : rm.slots = 6) (hfr : rm.frames + 1 ≤ R.frames) (hlo : 8 + (maxL + 11) + rm.locals ≤ R.locals) (hcode : Cond.codeWith y bytes maxL (some .int) hh ∈ fw_T) (hlk : Cond.methodLink own idx y ∈ fw_T) (hini : Cond.initialized y.cls ∈ fw_T) (hstt : Cond.static y ∈ fw_T)
    (hdd : y.cls ≠ "java/lang/invoke/MethodHandle" ∧ y.cls ≠ "java/lang/invoke/VarHandle" ∧ (parseMethodDescriptor y.desc).map (fun d => d.parameters.length) = some np) (hd : decode cc pc = .ok (.invokestatic idx, 3)) (hn : as.length = np) (hr : am_rm r = true)
    (h : w as st (am_ki (fun v st' => am_X p l e R s m args below meth c Q D dA lay A s.heap nL (C + 1) (S + 6) (pc + 3) lv (.inl v :: r) st'))) : am_X p l e R s m args below meth c Q D dA lay A s.heap nL C S pc lv (as.reverse ++ r) st := by
  intro ls H locs hl hP hS T hT X
  subst hb
  have hok : ∀ w ∈ fw_T, w.before args s = true := fun w hw => hts w (hsub w hw)
  have hfA : ∀ q, fw_A lay H.size q → A q := fun q hq => by
    rcases hq with ⟨o, ho, rfl⟩ | hq
    · exact hL.2 o ho
    · exact hA q (Nat.le_trans hS.1 hq)
  have hlay : fw_lay (fun _ => True) lay := ⟨hL.1, fun _ _ => trivial⟩
  have hM' := hM H.size as st _ h
  have hws : ∀ w ∈ Cond.codeWith y bytes maxL (some .int) hh :: fw_T, ∀ (a' : Array Value) (U : State), s.WarmedH U.vm → w.before a' U = true := by
    intro w hw a' U hW
    have hw : w ∈ fw_T := by
      rcases List.mem_cons.mp hw with rfl | hw
      · exact hcode
      · exact hw
    exact word_at hW (good_of_word (List.mem_filter.mp hw).2) (hok _ hw)
  have hBk : Back l R p e below s args y 3 8 (PreOf R 1 6 (fx_Pre D dA lay H.size as st)) (PostOf (fw_Post D dA lay _ (fw_A lay H.size)) 1 6 (fw_A lay H.size)) := va_backW (hh := hh) (bytes := bytes) (maxL := maxL) (ret := some .int) hM' fx_Pre_blind hrc hrs hfr hlo hws List.mem_cons_self (fun a' U hW => word_at hW (good_of_word (List.mem_filter.mp hini).2) (hok _ hini))
  obtain ⟨mk, methM, cM, hnamed, hmethM, hcM, -, hlM, -, -, -, hsigM⟩ := Cond.codeWith_spec (hok _ hcode)
  have hstatic : methM.isStatic = true := Cond.static_spec hnamed hmethM (hok _ hstt)
  obtain ⟨kP, hkP, -⟩ := className_of_methodNamed hnamed
  have hinitP : kP.init = .initialized := Cond.initialized_spec (findClass_of_methodNamed hnamed) hkP (hok _ hini)
  have hnp : np = methM.sig.parameters.length := by
    have h2 := hdd.2.2
    rw [hsigM] at h2
    exact (Option.some.inj h2).symm
  have hstk : (F0 m pc ls ((as.reverse ++ r).map (am_g lay))).stack = (as.map (am_g lay)).reverse ++ r.map (am_g lay) := by simp
  obtain ⟨vm₁, X₁, hstep₁⟩ := X.invokestatic hx hown (hok _ hlk) hnamed hmethM hstatic hkP hinitP ⟨hdd.1, hdd.2.1⟩ (g := F0 m pc ls ((as.reverse ++ r).map (am_g lay))) rfl (argsL := as.map (am_g lay)) (rest := r.map (am_g lay)) (by rw [List.length_map, ← hnp]; exact hn) hstk hd
  have hroom : 2 * (F0 m pc ls (r.map (am_g lay))).monitorRoom + ((F0 m pc ls (r.map (am_g lay))).stack.map fun v => v.category).sum ≤ 8 := lv_room (am_rm_cat hr)
  have hPc : fx_Pre D dA lay H.size as st (as.map (am_g lay)).toArray (T.setVm vm₁) := by
    refine ⟨⟨rfl, ?_, ?_, ?_, hlay⟩, ?_⟩
    · show T.heap.size = H.size
      rw [hT]
    · show va_P D fw_cl (fw_W lay dA st) T.heap
      rw [hT]
      exact hP
    · exact va_K.moved X₁.warmed.alike hK
    · show fz (fw_A lay H.size) (T.setVm vm₁) T.heap
      rw [hT]
      exact ((hz.kept hS.2.1).moved X₁.warmed.alike).narrow hfA
  obtain ⟨v, ⟨U', l2, c2, s2⟩, X', ⟨g', mk', t, L, e1, e2, hq, e3, hLf, e4, e5⟩, hsteps⟩ := hBk m meth c ⟨T.setVm vm₁, locs, C, S⟩ (F0 m pc ls (r.map (am_g lay))) (.invokestatic idx) mk (as.map (am_g lay)).toArray X₁ rfl (hl.1.trans hml.symm) hd hroom (X₁.named hnamed) ⟨hf9.1, hf9.2, hPc⟩
  dsimp only [Pt.U, Pt.locs, Pt.cells, Pt.slots] at X' e1 e2 e3 e4 e5 hsteps
  subst e3; subst e4; subst e5
  obtain ⟨⟨ro, st', hv, hk, hP'⟩, hz1, hz2⟩ := hq
  have e9 : ((T.setVm vm₁).calling g' mk' (as.map (am_g lay)).toArray).heap = H := hT
  change ((T.setVm vm₁).calling g' mk' (as.map (am_g lay)).toArray).heap.size ≤ t.heap.size at hz1
  rw [e9] at hz1
  have hz2' : ∀ q : Nat, q < H.size → ¬ fw_A lay H.size q → t.heap[q]? = H[q]? := fun q h1 h2 => by
    have h3 := hz2 q (by rw [show (Pt.U (T.setVm vm₁, locs, C, S)).calling g' mk' (as.map (am_g lay)).toArray = (T.setVm vm₁).calling g' mk' (as.map (am_g lay)).toArray from rfl, e9]; exact h1) h2
    rw [show (Pt.U (T.setVm vm₁, locs, C, S)).calling g' mk' (as.map (am_g lay)).toArray = (T.setVm vm₁).calling g' mk' (as.map (am_g lay)).toArray from rfl, e9] at h3
    exact h3
  cases hv
  have hS' : va_S A s.heap U'.heap (locs ++ L) := ⟨Nat.le_trans hS.1 (by rw [e1]; exact hz1), fun q h1 h2 => by rw [e1, hz2' q (Nat.lt_of_lt_of_le h1 hS.1) (fun z => h2 (hfA q z))]; exact hS.2.1 q h1 h2, fun q hq => by
    rcases List.mem_append.mp hq with h | h
    · exact hS.2.2 q h
    · exact hfA _ (hLf q h)⟩
  rcases ro with _ | x | y9
  · exact False.elim hk
  · obtain ⟨t2, a1, b1⟩ := hk ls U'.heap (locs ++ L) hl (by rw [e1]; exact hP') hS' U' rfl X'
    refine ⟨t2, hstep₁ _ fun acts => ?_, b1⟩
    rw [doInvoke_state]
    exact hsteps.trans a1
  · exact False.elim hk
end LC
def gc_law (idx : Nat) : Option (Nat × Option Nat × am_Wp) := match idx with
  | 41 => some (2, some 9, wp_MO_feed)
  | 42 => some (1, some 9, wp_MO_thrown)
  | 48 => some (6, some 9, wp_MO_method)
  | 49 => some (5, some 4, wp_FW_handler)
  | 53 => some (5, some 9, wp_MO_handler)
  | 57 => some (1, some 9, wp_MO_verify)
  | 58 => some (1, some 4, wp_FW_fault)
  | 61 => some (1, some 9, wp_MO_fault)
  | 62 => some (1, some 4, wp_FW_clear)
  | 65 => some (1, some 9, wp_MO_clear)
  | 66 => some (2, some 4, wp_FW_argument)
  | 69 => some (2, some 9, wp_MO_argument)
  | 72 => some (2, some 9, wp_MO_start)
  | 75 => some (2, some 9, wp_MO_run)
  | 76 => some (1, some 4, wp_FW_state)
  | 79 => some (1, some 9, wp_MO_state)
  | 80 => some (1, some 4, wp_FW_result)
  | 83 => some (1, some 9, wp_MO_result)
  | 84 => some (1, some 4, wp_FW_depth)
  | 87 => some (1, some 9, wp_MO_depth)
  | 88 => some (3, some 4, wp_FW_frame)
  | 92 => some (3, some 9, wp_MO_frame)
  | 93 => some (2, some 4, wp_FW_local)
  | 96 => some (2, some 9, wp_MO_local)
  | 97 => some (2, some 4, wp_FW_stack)
  | 100 => some (2, some 9, wp_MO_stack)
  | 101 => some (2, some 4, wp_FW_getStatic)
  | 104 => some (2, some 9, wp_MO_getStatic)
  | 105 => some (2, some 4, wp_FW_heap)
  | 108 => some (2, some 9, wp_MO_heap)
  | 109 => some (4, some 4, wp_FW_type)
  | 113 => some (4, some 9, wp_MO_type)
  | _ => none
def g_law (L : Nat) (xs : Nat → Int32) (P : am_K) : am_G := (fun _ => none, gc_law, fun _ _ => none, fun _ => none, some (L, xs), P)
theorem mo_law : ∀ idx n rc w, gc_law idx = some (n, rc, w) → am_Mo w := by
  intro idx n rc w h
  unfold gc_law at h
  split at h
  · cases h
    exact mo_MO_feed
  · cases h
    exact mo_MO_thrown
  · cases h
    exact mo_MO_method
  · cases h
    exact mo_FW_handler
  · cases h
    exact mo_MO_handler
  · cases h
    exact mo_MO_verify
  · cases h
    exact mo_FW_fault
  · cases h
    exact mo_MO_fault
  · cases h
    exact mo_FW_clear
  · cases h
    exact mo_MO_clear
  · cases h
    exact mo_FW_argument
  · cases h
    exact mo_MO_argument
  · cases h
    exact mo_MO_start
  · cases h
    exact mo_MO_run
  · cases h
    exact mo_FW_state
  · cases h
    exact mo_MO_state
  · cases h
    exact mo_FW_result
  · cases h
    exact mo_MO_result
  · cases h
    exact mo_FW_depth
  · cases h
    exact mo_MO_depth
  · cases h
    exact mo_FW_frame
  · cases h
    exact mo_MO_frame
  · cases h
    exact mo_FW_local
  · cases h
    exact mo_MO_local
  · cases h
    exact mo_FW_stack
  · cases h
    exact mo_MO_stack
  · cases h
    exact mo_FW_getStatic
  · cases h
    exact mo_MO_getStatic
  · cases h
    exact mo_FW_heap
  · cases h
    exact mo_MO_heap
  · cases h
    exact mo_FW_type
  · cases h
    exact mo_MO_type
  · cases h
theorem ca_law (l : Launch) (D : va_G) (dA : Nat → ClassId) (lay : Nat → Nat) : ∀ idx n rc w, gc_law idx = some (n, rc, w) → fw_Cal l D dA lay room_1 R_LA idx n rc w := by
  intro idx n rc w h
  unfold gc_law at h
  split at h
  · cases h
    exact ⟨y_MO_feed, c_MO_feed, 2, (some .int), _, 1, ct_MO_feed l D dA lay, rfl, rfl, by decide, by decide, wc_MO_feed, fw_T_in (i := 979) (by decide +kernel) rfl, wi_MO, ⟨by decide, by decide, by decide⟩, ⟨wk_MO_feed, wl_MO_feed, rfl, _, _, rfl⟩⟩
  · cases h
    exact ⟨y_MO_thrown, c_MO_thrown, 1, (some .int), _, 0, ct_MO_thrown l D dA lay, rfl, rfl, by decide, by decide, wc_MO_thrown, fw_T_in (i := 975) (by decide +kernel) rfl, wi_MO, ⟨by decide, by decide, by decide⟩, ⟨wk_MO_thrown, wl_MO_thrown, rfl, _, _, rfl⟩⟩
  · cases h
    exact ⟨y_MO_method, c_MO_method, 8, (some .int), _, 5, ct_MO_method l D dA lay, rfl, rfl, by decide, by decide, wc_MO_method, fw_T_in (i := 983) (by decide +kernel) rfl, wi_MO, ⟨by decide, by decide, by decide⟩, ⟨wk_MO_method, wl_MO_method, rfl, _, _, rfl⟩⟩
  · cases h
    exact ⟨y_FW_handler, c_FW_handler, 5, (some .boolean), _, 4, ct_FW_handler l D dA lay, rfl, rfl, by decide, by decide, wc_FW_handler, fw_T_in (i := 327) (by decide +kernel) rfl, wi_FW, ⟨by decide, by decide, by decide⟩, ⟨wk_FW_handler, wl_FW_handler, rfl, _, _, rfl⟩⟩
  · cases h
    exact ⟨y_MO_handler, c_MO_handler, 6, (some .boolean), _, 4, ct_MO_handler l D dA lay, rfl, rfl, by decide, by decide, wc_MO_handler, fw_T_in (i := 990) (by decide +kernel) rfl, wi_MO, ⟨by decide, by decide, by decide⟩, ⟨wk_MO_handler, wl_MO_handler, rfl, _, _, rfl⟩⟩
  · cases h
    exact ⟨y_MO_verify, c_MO_verify, 3, (some .int), _, 0, ct_MO_verify l D dA lay, rfl, rfl, by decide, by decide, wc_MO_verify, fw_T_in (i := 994) (by decide +kernel) rfl, wi_MO, ⟨by decide, by decide, by decide⟩, ⟨wk_MO_verify, wl_MO_verify, rfl, _, _, rfl⟩⟩
  · cases h
    exact ⟨y_FW_fault, c_FW_fault, 1, (some .int), _, 0, ct_FW_fault l D dA lay, rfl, rfl, by decide, by decide, wc_FW_fault, fw_T_in (i := 335) (by decide +kernel) rfl, wi_FW, ⟨by decide, by decide, by decide⟩, ⟨wk_FW_fault, wl_FW_fault, rfl, _, _, rfl⟩⟩
  · cases h
    exact ⟨y_MO_fault, c_MO_fault, 1, (some .int), _, 0, ct_MO_fault l D dA lay, rfl, rfl, by decide, by decide, wc_MO_fault, fw_T_in (i := 1063) (by decide +kernel) rfl, wi_MO, ⟨by decide, by decide, by decide⟩, ⟨wk_MO_fault, wl_MO_fault, rfl, _, _, rfl⟩⟩
  · cases h
    exact ⟨y_FW_clear, c_FW_clear, 1, none, _, 0, ct_FW_clear l D dA lay, rfl, rfl, by decide, by decide, wc_FW_clear, fw_T_in (i := 339) (by decide +kernel) rfl, wi_FW, ⟨by decide, by decide, by decide⟩, ⟨wk_FW_clear, wl_FW_clear, rfl, _, _, rfl⟩⟩
  · cases h
    exact ⟨y_MO_clear, c_MO_clear, 2, none, _, 0, ct_MO_clear l D dA lay, rfl, rfl, by decide, by decide, wc_MO_clear, fw_T_in (i := 1067) (by decide +kernel) rfl, wi_MO, ⟨by decide, by decide, by decide⟩, ⟨wk_MO_clear, wl_MO_clear, rfl, _, _, rfl⟩⟩
  · cases h
    exact ⟨y_FW_argument, c_FW_argument, 2, (some .boolean), _, 1, ct_FW_argument l D dA lay, rfl, rfl, by decide, by decide, wc_FW_argument, fw_T_in (i := 359) (by decide +kernel) rfl, wi_FW, ⟨by decide, by decide, by decide⟩, ⟨wk_FW_argument, wl_FW_argument, rfl, _, _, rfl⟩⟩
  · cases h
    exact ⟨y_MO_argument, c_MO_argument, 2, (some .boolean), _, 1, ct_MO_argument l D dA lay, rfl, rfl, by decide, by decide, wc_MO_argument, fw_T_in (i := 1071) (by decide +kernel) rfl, wi_MO, ⟨by decide, by decide, by decide⟩, ⟨wk_MO_argument, wl_MO_argument, rfl, _, _, rfl⟩⟩
  · cases h
    exact ⟨y_MO_start, c_MO_start, 4, (some .boolean), _, 1, ct_MO_start l D dA lay, rfl, rfl, by decide, by decide, wc_MO_start, fw_T_in (i := 1075) (by decide +kernel) rfl, wi_MO, ⟨by decide, by decide, by decide⟩, ⟨wk_MO_start, wl_MO_start, rfl, _, _, rfl⟩⟩
  · cases h
    exact ⟨y_MO_run, c_MO_run, 3, (some .int), _, 1, ct_MO_run l D dA lay, rfl, rfl, by decide, by decide, wc_MO_run, fw_T_in (i := 1083) (by decide +kernel) rfl, wi_MO, ⟨by decide, by decide, by decide⟩, ⟨wk_MO_run, wl_MO_run, rfl, _, _, rfl⟩⟩
  · cases h
    exact ⟨y_FW_state, c_FW_state, 1, (some .int), _, 0, ct_FW_state l D dA lay, rfl, rfl, by decide, by decide, wc_FW_state, fw_T_in (i := 363) (by decide +kernel) rfl, wi_FW, ⟨by decide, by decide, by decide⟩, ⟨wk_FW_state, wl_FW_state, rfl, _, _, rfl⟩⟩
  · cases h
    exact ⟨y_MO_state, c_MO_state, 1, (some .int), _, 0, ct_MO_state l D dA lay, rfl, rfl, by decide, by decide, wc_MO_state, fw_T_in (i := 1149) (by decide +kernel) rfl, wi_MO, ⟨by decide, by decide, by decide⟩, ⟨wk_MO_state, wl_MO_state, rfl, _, _, rfl⟩⟩
  · cases h
    exact ⟨y_FW_result, c_FW_result, 1, (some .int), _, 0, ct_FW_result l D dA lay, rfl, rfl, by decide, by decide, wc_FW_result, fw_T_in (i := 367) (by decide +kernel) rfl, wi_FW, ⟨by decide, by decide, by decide⟩, ⟨wk_FW_result, wl_FW_result, rfl, _, _, rfl⟩⟩
  · cases h
    exact ⟨y_MO_result, c_MO_result, 1, (some .int), _, 0, ct_MO_result l D dA lay, rfl, rfl, by decide, by decide, wc_MO_result, fw_T_in (i := 1153) (by decide +kernel) rfl, wi_MO, ⟨by decide, by decide, by decide⟩, ⟨wk_MO_result, wl_MO_result, rfl, _, _, rfl⟩⟩
  · cases h
    exact ⟨y_FW_depth, c_FW_depth, 1, (some .int), _, 0, ct_FW_depth l D dA lay, rfl, rfl, by decide, by decide, wc_FW_depth, fw_T_in (i := 371) (by decide +kernel) rfl, wi_FW, ⟨by decide, by decide, by decide⟩, ⟨wk_FW_depth, wl_FW_depth, rfl, _, _, rfl⟩⟩
  · cases h
    exact ⟨y_MO_depth, c_MO_depth, 1, (some .int), _, 0, ct_MO_depth l D dA lay, rfl, rfl, by decide, by decide, wc_MO_depth, fw_T_in (i := 1157) (by decide +kernel) rfl, wi_MO, ⟨by decide, by decide, by decide⟩, ⟨wk_MO_depth, wl_MO_depth, rfl, _, _, rfl⟩⟩
  · cases h
    exact ⟨y_FW_frame, c_FW_frame, 4, (some .int), _, 2, ct_FW_frame l D dA lay, rfl, rfl, by decide, by decide, wc_FW_frame, fw_T_in (i := 375) (by decide +kernel) rfl, wi_FW, ⟨by decide, by decide, by decide⟩, ⟨wk_FW_frame, wl_FW_frame, rfl, _, _, rfl⟩⟩
  · cases h
    exact ⟨y_MO_frame, c_MO_frame, 4, (some .int), _, 2, ct_MO_frame l D dA lay, rfl, rfl, by decide, by decide, wc_MO_frame, fw_T_in (i := 1161) (by decide +kernel) rfl, wi_MO, ⟨by decide, by decide, by decide⟩, ⟨wk_MO_frame, wl_MO_frame, rfl, _, _, rfl⟩⟩
  · cases h
    exact ⟨y_FW_local, c_FW_local, 2, (some .int), _, 1, ct_FW_local l D dA lay, rfl, rfl, by decide, by decide, wc_FW_local, fw_T_in (i := 383) (by decide +kernel) rfl, wi_FW, ⟨by decide, by decide, by decide⟩, ⟨wk_FW_local, wl_FW_local, rfl, _, _, rfl⟩⟩
  · cases h
    exact ⟨y_MO_local, c_MO_local, 2, (some .int), _, 1, ct_MO_local l D dA lay, rfl, rfl, by decide, by decide, wc_MO_local, fw_T_in (i := 1165) (by decide +kernel) rfl, wi_MO, ⟨by decide, by decide, by decide⟩, ⟨wk_MO_local, wl_MO_local, rfl, _, _, rfl⟩⟩
  · cases h
    exact ⟨y_FW_stack, c_FW_stack, 2, (some .int), _, 1, ct_FW_stack l D dA lay, rfl, rfl, by decide, by decide, wc_FW_stack, fw_T_in (i := 391) (by decide +kernel) rfl, wi_FW, ⟨by decide, by decide, by decide⟩, ⟨wk_FW_stack, wl_FW_stack, rfl, _, _, rfl⟩⟩
  · cases h
    exact ⟨y_MO_stack, c_MO_stack, 2, (some .int), _, 1, ct_MO_stack l D dA lay, rfl, rfl, by decide, by decide, wc_MO_stack, fw_T_in (i := 1169) (by decide +kernel) rfl, wi_MO, ⟨by decide, by decide, by decide⟩, ⟨wk_MO_stack, wl_MO_stack, rfl, _, _, rfl⟩⟩
  · cases h
    exact ⟨y_FW_getStatic, c_FW_getStatic, 2, (some .int), _, 1, ct_FW_getStatic l D dA lay, rfl, rfl, by decide, by decide, wc_FW_getStatic, fw_T_in (i := 403) (by decide +kernel) rfl, wi_FW, ⟨by decide, by decide, by decide⟩, ⟨wk_FW_getStatic, wl_FW_getStatic, rfl, _, _, rfl⟩⟩
  · cases h
    exact ⟨y_MO_getStatic, c_MO_getStatic, 2, (some .int), _, 1, ct_MO_getStatic l D dA lay, rfl, rfl, by decide, by decide, wc_MO_getStatic, fw_T_in (i := 1173) (by decide +kernel) rfl, wi_MO, ⟨by decide, by decide, by decide⟩, ⟨wk_MO_getStatic, wl_MO_getStatic, rfl, _, _, rfl⟩⟩
  · cases h
    exact ⟨y_FW_heap, c_FW_heap, 2, (some .int), _, 1, ct_FW_heap l D dA lay, rfl, rfl, by decide, by decide, wc_FW_heap, fw_T_in (i := 411) (by decide +kernel) rfl, wi_FW, ⟨by decide, by decide, by decide⟩, ⟨wk_FW_heap, wl_FW_heap, rfl, _, _, rfl⟩⟩
  · cases h
    exact ⟨y_MO_heap, c_MO_heap, 2, (some .int), _, 1, ct_MO_heap l D dA lay, rfl, rfl, by decide, by decide, wc_MO_heap, fw_T_in (i := 1177) (by decide +kernel) rfl, wi_MO, ⟨by decide, by decide, by decide⟩, ⟨wk_MO_heap, wl_MO_heap, rfl, _, _, rfl⟩⟩
  · cases h
    exact ⟨y_FW_type, c_FW_type, 4, (some .int), _, 3, ct_FW_type l D dA lay, rfl, rfl, by decide, by decide, wc_FW_type, fw_T_in (i := 419) (by decide +kernel) rfl, wi_FW, ⟨by decide, by decide, by decide⟩, ⟨wk_FW_type, wl_FW_type, rfl, _, _, rfl⟩⟩
  · cases h
    exact ⟨y_MO_type, c_MO_type, 5, (some .int), _, 3, ct_MO_type l D dA lay, rfl, rfl, by decide, by decide, wc_MO_type, fw_T_in (i := 1181) (by decide +kernel) rfl, wi_MO, ⟨by decide, by decide, by decide⟩, ⟨wk_MO_type, wl_MO_type, rfl, _, _, rfl⟩⟩
  · cases h
abbrev lw_lv (i : Int32) (a b : Option am_V) : am_L := [some (.inr (.inl 176)), some (.inr (.inl 123)), some (.inr (.inl 128)), some (.inr (.inl 167)), some (.inl i), a, b]
def lw_k : am_P := fun o _ => o = .inl (some (.inl 1))
/-- the end of a turn of the loop -/
def lw_P2 (K : Int32 → am_S → Prop) : am_K := fun pc lv stk st => pc = 802 ∧ stk = [] ∧ ∃ i a b, lv = lw_lv i a b ∧ K i st
def lw_W2 (L : Nat) (xs : Nat → Int32) (K : Int32 → am_S → Prop) : am_K := am_AW code (g_law L xs (lw_P2 K)) lw_k
def lw_site (pc : Nat) : Option am_Wp := if pc = 136 then some wl_feed else if pc = 224 then some wl_method else if pc = 367 then some wl_verify else if pc = 466 then some wl_start else if pc = 529 then some wl_run else none
/-- the end of a turn, or a helper's call and the rest of the turn behind it -/
def lw_P1 (L : Nat) (xs : Nat → Int32) (K : Int32 → am_S → Prop) : am_K := fun pc lv stk st => lw_P2 K pc lv stk st ∨ ∃ w as, lw_site pc = some w ∧ stk = as.reverse ∧ w as st (am_ki (fun v st' => lw_W2 L xs K (pc + 3) lv [.inl v] st'))
def lw_it (L : Nat) (xs : Nat → Int32) (K : Int32 → am_S → Prop) (i : Int32) (a b : Option am_V) (st : am_S) : Prop := am_AW code (g_law L xs (lw_P1 L xs K)) lw_k 23 (lw_lv i a b) [] st
section LS
variable {p : Program} {l : Launch} {e : Env} {s : State} {m : MethodId} {args : Array Value} {below : List Frame} {meth : Method} {c : Code} {Q : State → Prop} {D : va_G} {dA : Nat → ClassId} {lay : Nat → Nat} {A : Nat → Prop} {L : Nat} {xs : Nat → Int32} {K : Int32 → am_S → Prop} {C S : Nat}
set_option maxHeartbeats 1000000 in
theorem lw_sound (htr : l.stackTraces = false) (hx : p.tables.exec = Jvm.exec) (hb : c.code = code) (hml : c.maxLocals = 7) (hts : ∀ w ∈ fw_T, w.before args s = true) (hown : s.vm.findClass R_LA = some m.cls) (hK : va_K D fw_cl (fw_tys dA) s) (hL : fw_lay A lay) (hA : ∀ q, s.heap.size ≤ q → A q) (hz : fz A s s.heap) (hX : va_X (lay 176) L xs s s.heap ∧ lay 176 < s.heap.size ∧ ¬ A (lay 176)) (hf9 : C + 1 ≤ room_1.cells ∧ S + 6 ≤ room_1.slots)
    (hret : ∀ C S, C ≤ room_1.cells → S ≤ room_1.slots → ∀ (pc : Nat) (lv : am_L) (st : am_S), decode code pc = .ok (.ireturn, 1) → am_X p l e room_1 s m args below meth c Q D dA lay A s.heap 7 C S pc lv [.inl 1] st)
    (hnext : ∀ i a b st, K i st → am_X p l e room_1 s m args below meth c Q D dA lay A s.heap 7 (C + 1) (S + 6) 802 (lw_lv i a b) [] st) {i : Int32} {a b : Option am_V} {st : am_S} (h : lw_it L xs K i a b st) :
    am_X p l e room_1 s m args below meth c Q D dA lay A s.heap 7 C S 23 (lw_lv i a b) [] st := by
  have hR : ∀ (C S : Nat), C ≤ room_1.cells → S ≤ room_1.slots → ∀ (pc : Nat) (ins : Instr) (lv : am_L) (stk : List am_V) (ro : Option am_V) (st : am_S), decode code pc = .ok (ins, 1) → am_rt ins stk = some ro → lw_k (.inl ro) st → am_X p l e room_1 s m args below meth c Q D dA lay A s.heap 7 C S pc lv stk st := by
    intro C S hC hS pc ins lv stk ro st hd hrt hk
    have hro : ro = some (.inl 1) := by
      have h9 : (Sum.inl ro : Option am_V ⊕ Nat) = .inl (some (.inl 1)) := hk
      exact Sum.inl.inj h9
    subst hro
    unfold am_rt at hrt
    split at hrt
    · split at hrt
      · cases hrt
        exact hret C S hC hS pc lv st hd
      · cases hrt
    · split at hrt <;> cases hrt
    · split at hrt <;> cases hrt
    · cases hrt
  have hlk : ∀ w ∈ fw_T, w ∈ fw_T := fun w h => h
  have h2 : ∀ pc lv stk st, lw_W2 L xs K pc lv stk st → am_X p l e room_1 s m args below meth c Q D dA lay A s.heap 7 (C + 1) (S + 6) pc lv stk st := by
    intro pc lv stk st h
    refine h _ (so_all (own := R_LA) (Ts := fw_T) hx hb hml hts hlk hown hK hL hA ⟨hf9.1, hf9.2⟩ (fun idx ci j h => by cases h) (ca_law l D dA lay) (fun idx v h => by cases h) ?_ (fun L' xs' h => by cases h; exact hX) (hR _ _ hf9.1 hf9.2) (fun pc ik ic n lv st _ _ _ _ h _ => by cases h))
    rintro pc lv stk st ⟨rfl, rfl, i, a, b, rfl, hk⟩
    exact hnext i a b st hk
  refine h _ (so_all (own := R_LA) (Ts := fw_T) hx hb hml hts hlk hown hK hL hA ⟨by omega, by omega⟩ (fun idx ci j h => by cases h) (ca_law l D dA lay) (fun idx v h => by cases h) ?_ (fun L' xs' h => by cases h; exact hX) (hR _ _ (by omega) (by omega)) (fun pc ik ic n lv st _ _ _ _ h _ => by cases h))
  rintro pc lv stk st (⟨rfl, rfl, i, a, b, rfl, hk⟩ | ⟨w, as, hs, rfl, hw⟩)
  · intro ls H locs hl hP hS
    exact W.widen (by omega) (by omega) (hnext i a b st hk ls H locs hl hP hS)
  · have hw' : w as st (am_ki (fun v st' => am_X p l e room_1 s m args below meth c Q D dA lay A s.heap 7 (C + 1) (S + 6) (pc + 3) lv [.inl v] st')) ∧ am_Mo w := by
      have hmo : am_Mo w := by
        unfold lw_site at hs
        repeat (split at hs; · cases hs; first | exact wm_feed | exact wm_method | exact wm_verify | exact wm_start | exact wm_run)
        cases hs
      refine ⟨hmo as st _ _ ?_ hw, hmo⟩
      intro o st' ho
      rcases o with (_ | x | y) | n
      · exact ho
      · exact h2 _ _ _ _ ho
      · exact ho
      · exact ho
    have hw := hw'.1
    have e0 : as.reverse = as.reverse ++ [] := (List.append_nil _).symm
    rw [e0]
    unfold lw_site at hs
    split at hs
    · rename_i h9
      subst h9
      cases hs
      refine so_lcall (np := 3) (idx := 36) hx hb hml hts hlk hown hK hL hA hz hf9 (tl_feed l htr D dA lay) rfl rfl (by decide) (by decide) wd_feed (fw_T_in (i := 434) (by decide +kernel) rfl) wi_LA (fw_T_in (i := 435) (by decide +kernel) rfl) ⟨by decide, by decide, by decide⟩ d_law_136 ?_ rfl hw
      obtain ⟨_, rfl, -⟩ := hw
      rfl
    split at hs
    · rename_i h9
      subst h9
      cases hs
      refine so_lcall (np := 7) (idx := 45) hx hb hml hts hlk hown hK hL hA hz hf9 (tl_method l htr D dA lay) rfl rfl (by decide) (by decide) wd_method (fw_T_in (i := 508) (by decide +kernel) rfl) wi_LA (fw_T_in (i := 509) (by decide +kernel) rfl) ⟨by decide, by decide, by decide⟩ d_law_224 ?_ rfl hw
      obtain ⟨_, _, _, _, _, rfl, -⟩ := hw
      rfl
    split at hs
    · rename_i h9
      subst h9
      cases hs
      refine so_lcall (np := 2) (idx := 54) hx hb hml hts hlk hown hK hL hA hz hf9 (tl_verify l htr D dA lay) rfl rfl (by decide) (by decide) wd_verify (fw_T_in (i := 550) (by decide +kernel) rfl) wi_LA (fw_T_in (i := 551) (by decide +kernel) rfl) ⟨by decide, by decide, by decide⟩ d_law_367 ?_ rfl hw
      obtain ⟨rfl, -⟩ := hw
      rfl
    split at hs
    · rename_i h9
      subst h9
      cases hs
      refine so_lcall (np := 3) (idx := 70) hx hb hml hts hlk hown hK hL hA hz hf9 (tl_start l htr D dA lay) rfl rfl (by decide) (by decide) wd_start (fw_T_in (i := 721) (by decide +kernel) rfl) wi_LA (fw_T_in (i := 722) (by decide +kernel) rfl) ⟨by decide, by decide, by decide⟩ d_law_466 ?_ rfl hw
      obtain ⟨_, rfl, -⟩ := hw
      rfl
    split at hs
    · rename_i h9
      subst h9
      cases hs
      refine so_lcall (np := 3) (idx := 73) hx hb hml hts hlk hown hK hL hA hz hf9 (tl_run l htr D dA lay) rfl rfl (by decide) (by decide) wd_run (fw_T_in (i := 744) (by decide +kernel) rfl) wi_LA (fw_T_in (i := 745) (by decide +kernel) rfl) ⟨by decide, by decide, by decide⟩ d_law_529 ?_ rfl hw
      obtain ⟨_, rfl, -⟩ := hw
      rfl
    cases hs
end LS

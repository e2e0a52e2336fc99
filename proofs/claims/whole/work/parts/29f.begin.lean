/-! The law's beginning: the two objects and the row are made; and its loop, out of a step that keeps an invariant. -/
theorem lw_K1 {s : State} {args : Array Value} (hts : ∀ w ∈ fw_T, w.before args s = true) : ∀ ci : Nat, ∃ (cC : ClassId) (iS : Nat → Nat), ∀ q, fw_cl[ci]? = some q → u_Kn s q.1 q.2.1 q.2.2 cC iS := by
  have hw : ∀ w ∈ (Cond.tt :: fw_T), w = .tt ∨ w.before args s = true := fun w h => by
    rcases List.mem_cons.mp h with h | h
    · exact Or.inl h
    · exact Or.inr (hts w h)
  intro ci
  have go : ∀ (C : String) (T : u_T) (N : Nat), (∀ w ∈ u_ws C T N, w ∈ fw_T) → Cond.instantiable C N ∈ fw_T → fw_cl[ci]? = some (C, T, N) → ∃ (cC : ClassId) (iS : Nat → Nat), ∀ q, fw_cl[ci]? = some q → u_Kn s q.1 q.2.1 q.2.2 cC iS := by
    intro C T N h1 h2 h3
    obtain ⟨cC, iS, h⟩ := u_known hts h1 (hts _ h2)
    refine ⟨cC, iS, fun q hq => ?_⟩
    cases h3.symm.trans hq
    exact h
  by_cases h : ci < 10
  · have h10 : ci = 0 ∨ ci = 1 ∨ ci = 2 ∨ ci = 3 ∨ ci = 4 ∨ ci = 5 ∨ ci = 6 ∨ ci = 7 ∨ ci = 8 ∨ ci = 9 := by omega
    rcases h10 with rfl | rfl | rfl | rfl | rfl | rfl | rfl | rfl | rfl | rfl
    · exact go R_FR T_FR 4 fl_FR (fw_T_in (i := 241) (by decide +kernel) rfl) rfl
    · exact go R_ME T_ME 9 fl_ME (fw_T_in (i := 34) (by decide +kernel) rfl) rfl
    · exact go R_HA T_HA 4 fl_HA (fw_T_in (i := 41) (by decide +kernel) rfl) rfl
    · exact go R_IN T_IN 4 fl_IN (fw_T_in (i := 150) (by decide +kernel) rfl) rfl
    · exact go R_FW T_FW 8 fl_FW (fw_T_in (i := 19) (by decide +kernel) rfl) rfl
    · exact go R_CO T_CO 4 fl_CO (fw_T_in (i := 27) (by decide +kernel) rfl) rfl
    · exact go R_SH T_SH 3 fl_SH (fw_T_in (i := 144) (by decide +kernel) rfl) rfl
    · exact go R_FL T_FL 11 fl_FL (fw_T_in (i := 190) (by decide +kernel) rfl) rfl
    · exact go R_MA T_MA 11 fl_MA (fw_T_in (i := 232) (by decide +kernel) rfl) rfl
    · exact go R_MO T_MO 39 fl_MO (fw_T_in (i := 852) (by decide +kernel) rfl) rfl
  · exact ⟨0, fun _ => 0, fun q hq => by
      have h1 := (List.getElem?_eq_some_iff.mp hq).1
      exact absurd h1 (by simpa using h)⟩
theorem lw_K2 {s : State} {args : Array Value} (hts : ∀ w ∈ fw_T, w.before args s = true) (hO : ck_O s) : ∀ t : Nat, ∃ cA : ClassId, ∀ ty, (t = 0 ∧ ty = .int) ∨ (t = 1 ∧ ty = .boolean) ∨ (t = 2 ∧ ty = .object "FrameWalk$Method") ∨ (t = 3 ∧ ty = .object "FrameWalk$Handler") ∨ (t = 4 ∧ ty = .object "FrameWalk$Frame") ∨ (t = 5 ∧ ty = .long) → ArrOfT s cA ty ∧ va_RA s cA ty := by
  have prim : ∀ ty : FieldType, Cond.arrayClass ty ∈ fw_T → (∀ C, ty ≠ .object C) → ∃ cA, ArrOfT s cA ty ∧ va_RA s cA ty := by
    intro ty h hno
    obtain ⟨c, k, comp, h1, h2, h3⟩ := Cond.arrayClass_spec (hts _ h)
    refine ⟨c, fun n z => ⟨fun k h => (by cases h), k, h2, comp, h3⟩, ?_⟩
    cases ty with
    | object C => exact absurd rfl (hno C)
    | _ => exact h1
  have objs : ∀ C : String, va_AO C s → ∃ cA, ArrOfT s cA (.object C) ∧ va_RA s cA (.object C) := by
    intro C h
    obtain ⟨comp, c, k, h1, -, h3, h4, h5⟩ := Cond.arrayOver_spec h
    exact ⟨c, fun n z => ⟨fun k h => (by cases h), k, h3, comp, h4⟩, k, comp, h3, h4, h1, h5⟩
  intro t
  by_cases h0 : t < 6
  · have h6 : t = 0 ∨ t = 1 ∨ t = 2 ∨ t = 3 ∨ t = 4 ∨ t = 5 := by omega
    rcases h6 with rfl | rfl | rfl | rfl | rfl | rfl
    · obtain ⟨c, h⟩ := prim .int (fw_T_in (i := 68) (by decide +kernel) rfl) (fun C h => by cases h)
      exact ⟨c, fun ty hty => by rcases hty with ⟨-, rfl⟩ | ⟨h9, -⟩ | ⟨h9, -⟩ | ⟨h9, -⟩ | ⟨h9, -⟩ | ⟨h9, -⟩ <;> first | exact h | omega⟩
    · obtain ⟨c, h⟩ := prim .boolean (fw_T_in (i := 188) (by decide +kernel) rfl) (fun C h => by cases h)
      exact ⟨c, fun ty hty => by rcases hty with ⟨h9, -⟩ | ⟨-, rfl⟩ | ⟨h9, -⟩ | ⟨h9, -⟩ | ⟨h9, -⟩ | ⟨h9, -⟩ <;> first | exact h | omega⟩
    · obtain ⟨c, h⟩ := objs _ hO.1.1
      exact ⟨c, fun ty hty => by rcases hty with ⟨h9, -⟩ | ⟨h9, -⟩ | ⟨-, rfl⟩ | ⟨h9, -⟩ | ⟨h9, -⟩ | ⟨h9, -⟩ <;> first | exact h | omega⟩
    · obtain ⟨c, h⟩ := objs _ hO.1.2.1
      exact ⟨c, fun ty hty => by rcases hty with ⟨h9, -⟩ | ⟨h9, -⟩ | ⟨h9, -⟩ | ⟨-, rfl⟩ | ⟨h9, -⟩ | ⟨h9, -⟩ <;> first | exact h | omega⟩
    · obtain ⟨c, h⟩ := objs _ hO.1.2.2
      exact ⟨c, fun ty hty => by rcases hty with ⟨h9, -⟩ | ⟨h9, -⟩ | ⟨h9, -⟩ | ⟨h9, -⟩ | ⟨-, rfl⟩ | ⟨h9, -⟩ <;> first | exact h | omega⟩
    · obtain ⟨c, h⟩ := prim .long (fw_T_in (i := 1185) (by decide +kernel) rfl) (fun C h => by cases h)
      exact ⟨c, fun ty hty => by rcases hty with ⟨h9, -⟩ | ⟨h9, -⟩ | ⟨h9, -⟩ | ⟨h9, -⟩ | ⟨h9, -⟩ | ⟨-, rfl⟩ <;> first | exact h | omega⟩
  · exact ⟨0, fun ty hty => by omega⟩
theorem lw_K {s : State} {args : Array Value} (hts : ∀ w ∈ fw_T, w.before args s = true) (hO : ck_O s) : ∃ (D : va_G) (dA : Nat → ClassId), va_K D fw_cl (fw_tys dA) s := by
  have h1 := lw_K1 hts
  have h2 := lw_K2 hts hO
  refine ⟨(fun ci => Classical.choose (h1 ci), fun ci => Classical.choose (Classical.choose_spec (h1 ci))), fun t => Classical.choose (h2 t), fun ci q hq => Classical.choose_spec (Classical.choose_spec (h1 ci)) q hq, fun k q hq => ?_⟩
  have hk : k < 6 := (List.getElem?_eq_some_iff.mp hq).1
  have h6 : k = 0 ∨ k = 1 ∨ k = 2 ∨ k = 3 ∨ k = 4 ∨ k = 5 := by omega
  rcases h6 with rfl | rfl | rfl | rfl | rfl | rfl <;> cases hq
  · exact Classical.choose_spec (h2 0) _ (by simp)
  · exact Classical.choose_spec (h2 1) _ (by simp)
  · exact Classical.choose_spec (h2 2) _ (by simp)
  · exact Classical.choose_spec (h2 3) _ (by simp)
  · exact Classical.choose_spec (h2 4) _ (by simp)
  · exact Classical.choose_spec (h2 5) _ (by simp)
section BG
variable {p : Program} {l : Launch} {e : Env} {s : State} {m : MethodId} {args : Array Value} {below : List Frame} {meth : Method} {c : Code} {Q : State → Prop} {D : va_G} {dA : Nat → ClassId}
theorem bg_new (hx : p.tables.exec = Jvm.exec) (hb : c.code = code) (hts : ∀ w ∈ fw_T, w.before args s = true) (hown : s.vm.findClass R_LA = some m.cls) (hK : va_K D fw_cl (fw_tys dA) s) {pc idx ci cells slots : Nat} {cs : List ck_C} {ls : Array Slot} {H : Heap} {locs : List Loc} {rest : List Value} (hci : ck_new 10 idx = some ci) (hd : decode code pc = .ok (.new idx, 3)) (hsz : H.size = s.heap.size + cs.length) (hP : va_P D fw_cl (ck_W s.heap.size dA cs) H) (hS : va_S (fun q => s.heap.size ≤ q) s.heap H locs) (hc : cells + 1 ≤ room_1.cells) (hs : slots + fw_n ci ≤ room_1.slots)
    (kk : ∀ H1, H1.size = s.heap.size + (cs ++ [(.inl (ci, ck_def ci) : ck_C)]).length → va_P D fw_cl (ck_W s.heap.size dA (cs ++ [(.inl (ci, ck_def ci) : ck_C)])) H1 → va_S (fun q => s.heap.size ≤ q) s.heap H1 locs → W p l e room_1 s m args below meth c H1 locs (cells + 1) (slots + fw_n ci) Q (F0 m (pc + 3) ls (.ref (s.heap.size + cs.length) :: rest))) : W p l e room_1 s m args below meth c H locs cells slots Q (F0 m pc ls rest) := by
  obtain ⟨C, T, hcl, hin, hty, hlk, hins, hini, hdef, hlen⟩ := ck_nf (w0 := .tt) 10 idx ci hci
  have hin' : ∀ w ∈ u_ws C T (fw_n ci), w ∈ fw_T := by
    intro w hw
    rcases List.mem_cons.mp (hin w hw) with h | h
    · exfalso
      subst h
      unfold u_ws at hw
      obtain ⟨k, -, hk⟩ := List.mem_map.mp hw
      unfold u_lay at hk
      split at hk <;> cases hk
    · exact h
  have hKn := hK.1 ci _ hcl
  refine W.newcK hx hb hown (hts _ hlk) (hts _ hins) (hts _ hini) rfl hd hc hs hKn.2.1 hsz fun H1 kC hkC e1 z1 o1 => ?_
  rw [← hsz] at o1 z1
  refine kk H1 (by rw [z1, hsz, List.length_append]; rfl) (ck_push (ck_keep hP o1) ⟨_, hcl, (u_born (ck_ty ci) hts hin' hKn hkC e1 hty).to (fun j hj => ?_)⟩) (ck_Snew hS z1 o1)
  rw [hdef j hj]
  have hj' : j < (ck_def ci).length := by rw [hlen]; exact hj
  simp only [vp_V, List.getD_eq_getElem?_getD, List.getElem?_map, List.getElem?_eq_getElem hj', Option.map_some, Option.getD_some]
  have key : ∀ x ∈ ck_def ci, (match x with | .inl x => Value.int x | .inr _ => Value.null) = ck_g s.heap.size x := by
    intro x hx
    have : ∀ ci, ∀ x ∈ ck_def ci, x = .inl 0 ∨ x = .inr none := by
      intro ci
      unfold ck_def
      split <;> decide
    rcases this ci x hx with rfl | rfl <;> rfl
  exact key _ (List.getElem_mem hj')
/-- a constructor's call from the law -/
theorem bg_call (hx : p.tables.exec = Jvm.exec) (hb : c.code = code) (hml : c.maxLocals = 7) (hts : ∀ w ∈ fw_T, w.before args s = true) (hown : s.vm.findClass R_LA = some m.cls) (hK : va_K D fw_cl (fw_tys dA) s) (hO : ck_O s) {pc idx k2 a cells slots : Nat} {cs cs2 : List ck_C} {ls : Array Slot} {H : Heap} {locs : List Loc} {rest : List Value} (hls : ls.size = 7) (hi : ck_inv 10 idx = some (some (k2, 0))) (hd : decode code pc = .ok (.invokespecial idx, 3)) (hsz : H.size = s.heap.size + cs.length) (hP : va_P D fw_cl (ck_W s.heap.size dA cs) H) (hS : va_S (fun q => s.heap.size ≤ q) s.heap H locs) (hc : cells + ck_mc k2 ≤ room_1.cells) (hs : slots + ck_ms k2 ≤ room_1.slots) (hr : (rest.map fun v => v.category).sum ≤ 8) (hM : ck_Met l D dA s.heap.size k2 [.inr (some a)] cs cs2)
    (kk : ∀ H1 locs1, H1.size = s.heap.size + cs2.length → va_P D fw_cl (ck_W s.heap.size dA cs2) H1 → va_S (fun q => s.heap.size ≤ q) s.heap H1 locs1 → W p l e room_1 s m args below meth c H1 locs1 (cells + ck_mc k2) (slots + ck_ms k2) Q (F0 m (pc + 3) ls rest)) : W p l e room_1 s m args below meth c H locs cells slots Q (F0 m pc ls (.ref (s.heap.size + a) :: rest)) := by
  obtain ⟨hk2, hlev, hnp, hlink⟩ := ck_ci 10 idx k2 0 hi
  obtain ⟨h1, h2, h3, h4, h5, h6, h7, h8⟩ := ck_kf k2 hk2
  have hlev : ck_lv k2 < 5 := hlev
  have hpre : PreS s H (ck_Pc D dA s.heap.size [.inr (some a)] cs) [.ref (s.heap.size + a)] := ⟨ck_Pc_blind, fun U hU hW => ⟨rfl, by rw [hU]; exact hsz, by rw [hU]; exact hP, va_K.moved hW.alike hK, ck_O.moved hW hO⟩⟩
  have hfr : (ck_rm k2).frames + 1 ≤ room_1.frames ∧ 8 + (ck_mL k2 + 11) + (ck_rm k2).locals ≤ room_1.locals := ⟨by show ck_lv k2 + 1 ≤ 10; omega, by show 8 + (ck_mL k2 + 11) + 27 * ck_lv k2 ≤ 358; omega⟩
  rcases hlink with hlk | hlk
  · exact ck_run (va_runI (rest := rest) (As := []) (b := s.heap.size + a) ⟨hx, hb, hml, hown, hts⟩ hM ⟨callB_of 0 hts (fw_T_good (fun w hw => hw) h4) rfl rfl rfl (hts _ h6) (hts _ hlk) ⟨h7.1, h7.2, hnp⟩ hfr, h3, hts _ h5⟩ hpre rfl rfl hls rfl (lv_room hr) hd ⟨hc, hs⟩) hS kk
  · exact ck_run (va_runIN (rest := rest) (As := []) (b := s.heap.size + a) ⟨hx, hb, hml, hown, hts⟩ hM ⟨va_cnB 0 hts (fw_T_good (fun w hw => hw) h4) rfl rfl rfl (hO.2 _ hlk) (hts _ h6) ⟨h7.1, h7.2, hnp⟩ hfr, h3, hts _ h5⟩ hpre rfl rfl hls rfl (lv_room hr) hd ⟨hc, hs⟩) hS kk
set_option maxHeartbeats 1000000 in
theorem lw_begin {bs : Nat} (hx : p.tables.exec = Jvm.exec) (hb : c.code = code) (hml : c.maxLocals = 7) (hts : ∀ w ∈ fw_T, w.before args s = true) (hown : s.vm.findClass R_LA = some m.cls) (hK : va_K D fw_cl (fw_tys dA) s) (hO : ck_O s)
    (kk : am_X p l e room_1 s m args below meth c Q D dA (lw_lay bs s.heap.size) (fun q => s.heap.size ≤ q) s.heap 7 176 7076 23 (lw_lv 0 none none) [] st0) : W p l e room_1 s m args below meth c s.heap [] 0 0 Q (entryFrame m ([Value.ref bs] : List Value).toArray 7) := by
  rw [lg_entry_eq]
  have hl := lv_entry ([.ref bs]) (n := 7) (Nat.le_of_ble_eq_true rfl)
  generalize (lg_sl ([.ref bs]) ++ List.replicate (7 - (lg_sl ([.ref bs])).length) Slot.unset).toArray = ls at hl ⊢
  have hl : lv_has ls 7 [(0, .ref bs)] := hl
  have hP0 : va_P D fw_cl (ck_W s.heap.size dA []) s.heap := fun k q h => by cases h
  refine bg_new (cs := []) hx hb hts hown hK (ci := 4) rfl d_law_0 rfl hP0 va_S.rf (by decide) (by decide) (fun H1 z1 hP1 hS1 => ?_)
  rw [show ([] ++ [.inl (4, ck_def 4)] : List ck_C) = kl_0 from kl_a0] at z1 hP1
  refine lv_dup hx hb d_law_3 rfl ?_
  refine bg_call (k2 := 8) (a := 0) hx hb hml hts hown hK hO hl.1 rfl d_law_4 z1 hP1 hS1 (by decide) (by decide) (Nat.le_of_ble_eq_true rfl) kt_FW (fun H1 locs1 z1 hP1 hS1 => ?_)
  refine lv_astore_n (x := s.heap.size + 0) hx hb d_law_7 rfl hl (by decide) rfl (fun ls hl => ?_)
  refine bg_new hx hb hts hown hK (ci := 9) rfl d_law_8 z1 hP1 hS1 (by decide) (by decide) (fun H1 z1 hP1 hS1 => ?_)
  rw [show kl_34 ++ [.inl (9, ck_def 9)] = kl_35 from kl_a1] at z1 hP1
  rw [show kl_34.length = 149 from ck_len.2.1]
  refine lv_dup hx hb d_law_11 rfl ?_
  refine bg_call (k2 := 9) (a := 149) hx hb hml hts hown hK hO hl.1 rfl d_law_12 z1 hP1 hS1 (by decide) (by decide) (Nat.le_of_ble_eq_true rfl) kt_MO (fun H1 locs1 z1 hP1 hS1 => ?_)
  refine lv_astore_n (x := s.heap.size + 149) hx hb d_law_15 rfl hl (by decide) rfl (fun ls hl => ?_)
  refine lv_iconst (v := 1) hx hb d_law_16 (by decide) ?_
  refine va_newaK hx hb (hts _ (fw_T_in (i := 1185) (by decide +kernel) rfl)) rfl d_law_17 rfl (by decide) (N := 1) (by decide) (by decide) (by decide) (by decide) z1 fun H1 cA e1 z2 o1 hAr hNm => ?_
  have hcA := ck_dA (t := 5) hK rfl hNm
  subst hcA
  rw [← z1] at o1 z2
  have hP2 : va_P D fw_cl (ck_W s.heap.size dA (kl_37 ++ [.inr (5, 1, [])])) H1 := ck_push (ck_keep hP1 o1) (by
    show H1[s.heap.size + kl_37.length]? = some (vp_cell (dA 5) (1, ck_ar s.heap.size 5 []))
    rw [e1]
    rfl)
  have hS2 := ck_Snew hS1 z2 o1
  rw [kl_a2] at hP2
  rw [show kl_37.length = 175 from ck_len.2.2.2.1]
  refine lv_astore_n (x := s.heap.size + 175) hx hb d_law_19 rfl hl (by decide) rfl (fun ls hl => ?_)
  refine lv_iconst (v := 0) hx hb d_law_20 (by decide) ?_
  refine lv_istore hx hb d_law_21 hl (by decide) rfl (fun ls hl => ?_)
  have hl : lv_has ls 7 [(4, .int 0), (3, .ref (s.heap.size + 175)), (2, .ref (s.heap.size + 149)), (1, .ref (s.heap.size + 0)), (0, .ref bs)] := hl
  refine kk ls H1 locs1 ⟨hl.1, hl.2.1, rfl, fun i v hi => ?_⟩ (ck_fin hP2) hS2
  have h5 : i = 0 ∨ i = 1 ∨ i = 2 ∨ i = 3 ∨ i = 4 ∨ i = 5 ∨ i = 6 ∨ 7 ≤ i := by omega
  rcases h5 with rfl | rfl | rfl | rfl | rfl | rfl | rfl | h7
  · cases hi; exact ⟨rfl, hl.2.2 (0, .ref bs) (by simp)⟩
  · cases hi; exact ⟨rfl, hl.2.2 (1, .ref (s.heap.size + 0)) (by simp)⟩
  · cases hi; exact ⟨rfl, hl.2.2 (2, .ref (s.heap.size + 149)) (by simp)⟩
  · cases hi; exact ⟨rfl, hl.2.2 (3, .ref (s.heap.size + 175)) (by simp)⟩
  · cases hi; exact ⟨rfl, hl.2.2 (4, .int 0) (by simp)⟩
  · cases hi
  · cases hi
  · rw [List.getElem?_eq_none (by simpa using h7)] at hi
    cases hi
end BG

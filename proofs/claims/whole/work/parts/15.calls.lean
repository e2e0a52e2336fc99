/-! Fields, arrays and calls of the small machine are sound. -/
def am_Fo (own : String) (Ts : List Cond) (idx ci j : Nat) : Prop := ∃ (C : String) (T : u_T) (tf : Nat → FieldType), fw_cl[ci]? = some (C, T, fw_n ci) ∧ j < fw_n ci ∧ (∀ w ∈ u_ws C T (fw_n ci), w ∈ Ts) ∧ (∀ k, k < fw_n ci → parseFieldDescriptor (T k).2.2.1 = some (tf k)) ∧ (∀ a, a < fw_n ci → ∀ b, b < fw_n ci → a ≠ b → (T a).2.1 ≠ (T b).2.1) ∧
  Cond.fieldLink own idx (T j).1 (T j).2.1 (T j).2.2.1 ∈ Ts ∧ (fw_kd ci j < 4 → (T j).2.2.2 = false) ∧ (fw_kd ci j = 0 → tf j = .int) ∧ (fw_kd ci j = 1 → tf j = .boolean) ∧ (fw_kd ci j = 2 → ∃ C', tf j = .object C') ∧ (fw_kd ci j = 3 → ∃ C', tf j = .object C')
theorem fw_ob_inv {st : am_S} {o ci : Nat} {fs : List am_V} (h : fw_ob st o = some (ci, fs)) : ∃ i, fw_ki o = some (ci, i) ∧ fs = fw_fs st ci i := by
  unfold fw_ob at h
  split at h
  · rename_i ci' i hk
    cases h
    exact ⟨i, hk, rfl⟩
  · cases h
theorem fw_W_ob {lay : Nat → Nat} {dA : Nat → ClassId} {st : am_S} {o ci i : Nat} (h : fw_ki o = some (ci, i)) : (fw_W lay dA st)[o]? = some (lay o, .inr (ci, (fw_fs st ci i).map (am_g lay))) := by
  have ho := fw_ki_lt h
  rw [fw_W_at (by omega)]
  unfold fw_cell
  rw [h]
theorem fw_W_ar {lay : Nat → Nat} {dA : Nat → ClassId} {st : am_S} {o t n : Nat} (h : fw_ar o = some (t, n)) : (fw_W lay dA st)[o]? = some (lay o, .inl (dA t, n, if t = 0 ∨ t = 1 then .inl (st (2000 + o)) else if t = 5 then .inr (.inl (fun i => (st (2000 + o) i).toInt64)) else .inr (.inr (.inr (.inr (fun i => some (lay (fw_rf o i))))))))  := by
  have ho := fw_ar_lt h
  rw [fw_W_at ho.2]
  unfold fw_cell
  rw [fw_ki_ge (by omega), h]
section SF
variable {p : Program} {l : Launch} {e : Env} {R : Room} {s : State} {m : MethodId} {args : Array Value} {below : List Frame} {meth : Method} {c : Code} {Q : State → Prop} {cc : ByteArray} {nL : Nat} {D : va_G} {dA : Nat → ClassId} {lay : Nat → Nat} {A : Nat → Prop} {H0 : Heap} {own : String} {Ts : List Cond} {C S : Nat}
theorem so_gt (hx : p.tables.exec = Jvm.exec) (hb : c.code = cc) (hts : ∀ w ∈ Ts, w.before args s = true) (hown : s.vm.findClass own = some m.cls) (hK : va_K D fw_cl (fw_tys dA) s) {pc idx ci j o : Nat} {lv : am_L} {r fs : List am_V} {v : am_V} {st : am_S} {q : Nat} (hF : am_Fo own Ts idx ci j)
    (hd : decode cc pc = .ok (.getfield idx, 3)) (ho : fw_ob st o = some (ci, fs)) (hv : fs[j]? = some v) (hq : pc + 3 = q) (hk : am_X p l e R s m args below meth c Q D dA lay A H0 nL C S q lv (v :: r) st) : am_X p l e R s m args below meth c Q D dA lay A H0 nL C S pc lv (.inr (.inl o) :: r) st := by
  intro ls H locs hl hP hS
  subst hq
  obtain ⟨Cn, T, tf, hc, hj, hin, -, -, hlk, -⟩ := hF
  obtain ⟨i, hki, rfl⟩ := fw_ob_inv ho
  exact va_get hx hb hts hin hown hK hP o (fw_W_ob hki) hc j hj (hts _ hlk) (fun x h => h) (v := am_g lay v) (by rw [List.getElem?_map, hv]; rfl) hd (hk ls H locs hl hP hS)
theorem so_pt (hx : p.tables.exec = Jvm.exec) (hb : c.code = cc) (hts : ∀ w ∈ Ts, w.before args s = true) (hown : s.vm.findClass own = some m.cls) (hK : va_K D fw_cl (fw_tys dA) s) (hL : fw_lay A lay) {pc idx ci j o : Nat} {lv : am_L} {r : List am_V} {v : am_V} {st st' : am_S} {q : Nat} (hF : am_Fo own Ts idx ci j)
    (hd : decode cc pc = .ok (.putfield idx, 3)) (hw : fw_wr st o ci j v = some st') (hq : pc + 3 = q) (hk : am_X p l e R s m args below meth c Q D dA lay A H0 nL C S q lv r st') : am_X p l e R s m args below meth c Q D dA lay A H0 nL C S pc lv (v :: .inr (.inl o) :: r) st := by
  intro ls H locs hl hP hS
  subst hq
  obtain ⟨Cn, T, tf, hc, hj, hin, hty, hnm, hlk, hfin, k0, k1, k2, k3⟩ := hF
  unfold fw_wr at hw
  split at hw
  · rename_i ci' i hki
    split at hw
    · rename_i hci
      obtain ⟨rfl, -⟩ := hci
      have hset := fw_cell_put (lay := lay) (dA := dA) hki hj hw
      have hlen : j < ((fw_fs st ci' i).map (am_g lay)).length := by simp [fw_fs, hj]
      have key : ∀ ty, tf j = ty → narrow ty (am_g lay v) = am_g lay v → fits ty (am_g lay v) = true → (T j).2.2.2 = false → W p l e R s m args below meth c H locs C S Q (F0 m pc ls ((v :: .inr (.inl o) :: r : List am_V).map (am_g lay))) := by
        intro ty ht hn hf hfi
        refine va_put hx hb hts hin tf hty hnm hown hK hP (fw_W_D hL) hS o (fw_W_ob hki) hc j hj (hts _ hlk) (fun x h => h) hfi (ty := ty) (v := am_g lay v) (by rw [hty j hj, ht]) hn hf hlen hd (fun H1 locs1 hP1 hD1 hS1 => ?_)
        rw [hset] at hP1
        exact hk ls H1 locs1 hl hP1 hS1
      unfold fw_wv at hw
      split at hw
      · rename_i x hkd
        exact key .int (k0 hkd) rfl rfl (hfin (by omega))
      · rename_i x hkd
        split at hw
        · rename_i hx01
          refine key .boolean (k1 hkd) ?_ ?_ (hfin (by omega))
          · rcases hx01 with rfl | rfl <;> rfl
          · rcases hx01 with rfl | rfl <;> rfl
        · cases hw
      · rename_i x hkd
        obtain ⟨C', hC'⟩ := k2 hkd
        exact key _ hC' rfl rfl (hfin (by omega))
      · rename_i x hkd
        obtain ⟨C', hC'⟩ := k3 hkd
        exact key _ hC' rfl rfl (hfin (by omega))
      · cases hw
    · cases hw
  · cases hw
theorem so_al (hx : p.tables.exec = Jvm.exec) (hb : c.code = cc) (hK : va_K D fw_cl (fw_tys dA) s) {pc o n : Nat} {ins : Instr} {lv : am_L} {i : Int32} {r : List am_V} {v : am_V} {st : am_S} {q : Nat}
    (hd : decode cc pc = .ok (ins, 1)) (ha : fw_al ins st o i = some (n, v)) (hi : vp_in i n) (hq : pc + 1 = q) (hk : am_X p l e R s m args below meth c Q D dA lay A H0 nL C S q lv (v :: r) st) : am_X p l e R s m args below meth c Q D dA lay A H0 nL C S pc lv (.inl i :: .inr (.inl o) :: r) st := by
  intro ls H locs hl hP hS
  subst hq
  unfold fw_al at ha
  split at ha
  · rename_i t n' har
    have hW := fw_W_ar (lay := lay) (dA := dA) (st := st) har
    split at ha
    · split at ha
      · rename_i ht
        subst ht
        cases ha
        exact va_iald hx hb hK hP o 0 hW rfl hi hd (hk ls H locs hl hP hS)
      · cases ha
    · split at ha
      · rename_i ht
        subst ht
        cases ha
        exact va_zald hx hb hK hP o 1 hW rfl hi hd (hk ls H locs hl hP hS)
      · cases ha
    · split at ha
      · rename_i ht
        subst ht
        cases ha
        exact va_lald hx hb hK hP o 5 hW rfl hi hd (hk ls H locs hl hP hS)
      · cases ha
    · split at ha
      · rename_i ht
        cases ha
        have h3 : t = 2 ∨ t = 3 ∨ t = 4 := by omega
        rcases h3 with rfl | rfl | rfl
        · exact va_aldq hx hb hK hP o 2 hW rfl hi hd (hk ls H locs hl hP hS)
        · exact va_aldq hx hb hK hP o 3 hW rfl hi hd (hk ls H locs hl hP hS)
        · exact va_aldq hx hb hK hP o 4 hW rfl hi hd (hk ls H locs hl hP hS)
      · cases ha
    · cases ha
  · cases ha
theorem so_as (hx : p.tables.exec = Jvm.exec) (hb : c.code = cc) (hK : va_K D fw_cl (fw_tys dA) s) (hL : fw_lay A lay) {pc o n : Nat} {ins : Instr} {lv : am_L} {i : Int32} {r : List am_V} {v : am_V} {st st' : am_S} {q : Nat}
    (hd : decode cc pc = .ok (ins, 1)) (ha : fw_as ins st o i v = some (n, st')) (hi : vp_in i n) (hq : pc + 1 = q) (hk : am_X p l e R s m args below meth c Q D dA lay A H0 nL C S q lv r st') : am_X p l e R s m args below meth c Q D dA lay A H0 nL C S pc lv (v :: .inl i :: .inr (.inl o) :: r) st := by
  intro ls H locs hl hP hS
  subst hq
  unfold fw_as at ha
  split at ha
  · rename_i t n' x har
    have hW := fw_W_ar (lay := lay) (dA := dA) (st := st) har
    have hlt := fw_ar_lt har
    split at ha
    · split at ha
      · rename_i ht
        subst ht
        cases ha
        have hset := fw_cell_arr (lay := lay) (dA := dA) (st := st) (e := i.toNatClampNeg) (x := x) hlt.2 (fw_ki_ge (by omega)) har (Or.inl rfl)
        refine va_iast hx hb hK hP (fw_W_D hL) hS o 0 hW rfl hi hd (fun H1 locs1 hP1 hD1 hS1 => ?_)
        rw [hset] at hP1
        exact hk ls H1 locs1 hl hP1 hS1
      · cases ha
    · split at ha
      · rename_i ht
        obtain ⟨rfl, hx01⟩ := ht
        cases ha
        have hset := fw_cell_arr (lay := lay) (dA := dA) (st := st) (e := i.toNatClampNeg) (x := x) hlt.2 (fw_ki_ge (by omega)) har (Or.inr rfl)
        have hnar : vp_nar .boolean x = x := by rcases hx01 with rfl | rfl <;> rfl
        refine va_zast hx hb hK hP (fw_W_D hL) hS o 1 hW rfl hi hd (fun H1 locs1 hP1 hD1 hS1 => ?_)
        rw [hnar, hset] at hP1
        exact hk ls H1 locs1 hl hP1 hS1
      · cases ha
    · cases ha
  · rename_i t n' z har
    have hW := fw_W_ar (lay := lay) (dA := dA) (st := st) har
    have hlt := fw_ar_lt har
    split at ha
    · split at ha
      · rename_i ht
        obtain ⟨rfl, hz⟩ := ht
        cases ha
        have hset := fw_cell_lar (lay := lay) (dA := dA) (st := st) (e := i.toNatClampNeg) (x := z.toInt32) hlt.2 (fw_ki_ge (by omega)) har
        rw [hz] at hset
        refine va_last hx hb hK hP (fw_W_D hL) hS o 5 hW rfl hi hd (fun H1 locs1 hP1 hD1 hS1 => ?_)
        rw [hset] at hP1
        exact hk ls H1 locs1 hl hP1 hS1
      · cases ha
    · cases ha
  · cases ha
theorem so_len (hx : p.tables.exec = Jvm.exec) (hb : c.code = cc) (hK : va_K D fw_cl (fw_tys dA) s) {pc o t n : Nat} {lv : am_L} {r : List am_V} {st : am_S} {q : Nat}
    (hd : decode cc pc = .ok (.arraylength, 1)) (ha : fw_ar o = some (t, n)) (hq : pc + 1 = q) (hk : am_X p l e R s m args below meth c Q D dA lay A H0 nL C S q lv (.inl (nI n) :: r) st) : am_X p l e R s m args below meth c Q D dA lay A H0 nL C S pc lv (.inr (.inl o) :: r) st := by
  intro ls H locs hl hP hS
  subst hq
  have hW := fw_W_ar (lay := lay) (dA := dA) (st := st) ha
  have ht := fw_ar_t ha
  obtain ⟨ty, hty⟩ : ∃ ty, (fw_tys dA)[t]? = some (dA t, ty) := by
    have h6 : t = 0 ∨ t = 1 ∨ t = 2 ∨ t = 3 ∨ t = 4 ∨ t = 5 := by omega
    rcases h6 with rfl | rfl | rfl | rfl | rfl | rfl <;> exact ⟨_, rfl⟩
  exact va_alen hx hb hK hP o t hW hty rfl hd (hk ls H locs hl hP hS)
-- calls
def fw_A (lay : Nat → Nat) (sz : Nat) : Nat → Prop := fun q => (∃ o, o < 176 ∧ q = lay o) ∨ sz ≤ q
def fw_Pre (D : va_G) (dA : Nat → ClassId) (lay : Nat → Nat) (sz : Nat) (as : List am_V) (st : am_S) : Array Value → State → Prop := va_Pc (as.map (am_g lay)) (fun U => U.heap.size = sz ∧ va_P D fw_cl (fw_W lay dA st) U.heap ∧ va_K D fw_cl (fw_tys dA) U ∧ fw_lay (fun _ => True) lay)
def fw_Post (D : va_G) (dA : Nat → ClassId) (lay : Nat → Nat) (k : am_P) (A : Nat → Prop) : Array Value → State → Outcome → State → Prop := fun _ s0 oc t => (∃ (ro : Option am_V) (st' : am_S), oc = .returned (ro.map (am_g lay)) ∧ k (.inl ro) st' ∧ va_P D fw_cl (fw_W lay dA st') t.heap) ∧ va_F A s0 t
def fw_Met (l : Launch) (D : va_G) (dA : Nat → ClassId) (lay : Nat → Nat) (y : MethodName) (ws : List Cond) (rm : Room) (w : am_Wp) : Prop := ∀ (sz : Nat) (as : List am_V) (st : am_S) (k : am_P), w as st k → Met l y ws rm (fw_Pre D dA lay sz as st) (fw_Post D dA lay k (fw_A lay sz)) 0 0 (fw_A lay sz)
theorem fw_Pre_blind {D : va_G} {dA : Nat → ClassId} {lay : Nat → Nat} {sz : Nat} {as : List am_V} {st : am_S} : FrameBlind (fw_Pre D dA lay sz as st) := by
  intro a U g mk q
  obtain ⟨q0, q1, qP, qK, qL⟩ := q
  exact ⟨q0, q1, qP, va_K.moved (u := U) (U := U.calling g mk a) (Vm.Alike.refl U.vm) qK, qL⟩
theorem fw_run {pc : Nat} {ls : Array Slot} {H : Heap} {locs : List Loc} {st0 rest : List Value} {k : am_P} {a : Array Value} (hr : va_Run p l e R s m args below meth c H locs C S 0 0 (F0 m pc ls st0) rest (fw_Post D dA lay k (fw_A lay H.size) a) (fw_A lay H.size)) (hS : va_S A H0 H locs) (hA : ∀ q, fw_A lay H.size q → A q)
    (kk : ∀ (ro : Option am_V) (st' : am_S) (H1 : Heap) (locs1 : List Loc), k (.inl ro) st' → va_P D fw_cl (fw_W lay dA st') H1 → va_S A H0 H1 locs1 → W p l e R s m args below meth c H1 locs1 C S Q (F0 m (pc + 3) ls ((ro.map (am_g lay)).toList ++ rest))) : W p l e R s m args below meth c H locs C S Q (F0 m pc ls st0) := by
  intro T hT X
  obtain ⟨v, st₀, t, T', L, h0, X', hL, e1, e2, ⟨⟨ro, st', hv, hk, hB⟩, hz, hkeep⟩, hst⟩ := hr T hT X
  cases hv
  rw [h0] at hz hkeep
  obtain ⟨t2, a1, b1⟩ := kk ro st' T'.heap (locs ++ L) hk (by rw [e1]; exact hB)
    ⟨Nat.le_trans hS.1 (by rw [e1]; exact hz), fun q h1 h2 => by rw [e1, hkeep q (Nat.lt_of_lt_of_le h1 hS.1) (fun z => h2 (hA q z))]; exact hS.2.1 q h1 h2, fun q hq => by
      rcases List.mem_append.mp hq with h | h
      · exact hS.2.2 q h
      · exact hA _ (hL q h)⟩ T' rfl X'
  exact ⟨t2, hst t2 a1, b1⟩
theorem am_rm_cat {r : List am_V} (h : am_rm r = true) : ((r.map (am_g lay)).map fun v => v.category).sum ≤ 8 := by
  unfold am_rm at h
  simp only [Bool.and_eq_true, decide_eq_true_eq] at h
  obtain ⟨h1, h2⟩ := h
  have : ∀ (r : List am_V), r.all am_one = true → ((r.map (am_g lay)).map fun v => v.category).sum = r.length := by
    intro r
    induction r with
    | nil => intro _; rfl
    | cons v r ih =>
      intro h
      rw [List.all_cons, Bool.and_eq_true] at h
      simp only [List.map_cons, List.sum_cons, List.length_cons]
      rw [am_cat h.1, ih h.2]
      omega
  rw [this r h1]
  exact h2
end SF

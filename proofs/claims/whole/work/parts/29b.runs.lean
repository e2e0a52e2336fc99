/-! The making machine is sound: a whole run. -/
theorem ck_w1 : Cond.instanceMethod Lib.objectInit ∈ fw_T := fw_T_in (i := 24) (by decide +kernel) rfl
theorem ck_w2 : Cond.code Lib.objectInit ⟨#[0xb1]⟩ 1 none ∈ fw_T := fw_T_in (i := 25) rfl rfl
section RU
variable {l : Launch} {D : va_G} {dA : Nat → ClassId} {b : Nat}
abbrev ck_rm (k : Nat) : Room := { frames := ck_lv k, cells := ck_mc k, slots := ck_ms k, locals := 27 * ck_lv k }
abbrev ck_ws (k : Nat) : List Cond := Cond.code (ck_y k) (ck_code k) (ck_mL k) none :: fw_T
def ck_Pc (D : va_G) (dA : Nat → ClassId) (b : Nat) (as : List ck_V) (cs : List ck_C) : Array Value → State → Prop := va_Pc (as.map (ck_g b)) (fun U => U.heap.size = b + cs.length ∧ va_P D fw_cl (ck_W b dA cs) U.heap ∧ va_K D fw_cl (fw_tys dA) U ∧ ck_O U)
def ck_Qc (D : va_G) (dA : Nat → ClassId) (b : Nat) (cs : List ck_C) : Array Value → State → Outcome → State → Prop := fun _ s0 oc t => (oc = .returned none ∧ t.heap.size = b + cs.length ∧ va_P D fw_cl (ck_W b dA cs) t.heap) ∧ va_F (fun q => b ≤ q) s0 t
def ck_Met (l : Launch) (D : va_G) (dA : Nat → ClassId) (b k : Nat) (as : List ck_V) (cs cs' : List ck_C) : Prop := Met l (ck_y k) (ck_ws k) (ck_rm k) (ck_Pc D dA b as cs) (ck_Qc D dA b cs') (ck_mc k) (ck_ms k) (fun q => b ≤ q)
theorem ck_Pc_blind {as : List ck_V} {cs : List ck_C} : FrameBlind (ck_Pc D dA b as cs) := by
  intro a U g mk q
  obtain ⟨q0, q1, qP, qK, qO⟩ := q
  exact ⟨q0, q1, qP, va_K.moved (u := U) (U := U.calling g mk a) (Vm.Alike.refl U.vm) qK, ck_O.moved (s := U) (U := U.calling g mk a) (State.WarmedH.refl U) qO⟩
theorem gl_entry {vs : List Value} {n : Nat} (hc : ∀ v ∈ vs, v.category = 1) (hn : vs.length ≤ n) : gl_lr ((lg_sl vs ++ List.replicate (n - (lg_sl vs).length) Slot.unset).toArray) n (vs.map some ++ List.replicate (n - vs.length) none) := by
  have hlen : (lg_sl vs).length = vs.length := by rw [lg_sl_one _ hc]; simp
  have h := lv_entry vs (n := n) (by rw [hlen]; exact hn)
  refine ⟨h.1, h.2.1, by simp; omega, fun i v hi => ?_⟩
  have hia : vs[i]? = some v := by
    rw [List.getElem?_append] at hi
    split at hi
    · rw [List.getElem?_map] at hi
      cases h9 : vs[i]? with
      | none => rw [h9] at hi; cases hi
      | some w => rw [h9] at hi; cases hi; rfl
    · have := List.mem_of_getElem? hi
      rw [List.mem_replicate] at this
      cases this.2
  refine ⟨hc v (List.mem_of_getElem? hia), ?_⟩
  have hm := lv_args_one vs 0 hc i v hia
  rw [Nat.zero_add] at hm
  exact h.2.2 _ hm
/-- behind a call -/
theorem ck_run {p : Program} {e : Env} {R : Room} {s : State} {m : MethodId} {args : Array Value} {below : List Frame} {meth : Method} {c : Code} {Q : State → Prop} {pc : Nat} {ls : Array Slot} {H : Heap} {locs : List Loc} {st0 rest : List Value} {a : Array Value} {cells slots mc ms : Nat} {cs : List ck_C} (hr : va_Run p l e R s m args below meth c H locs cells slots mc ms (F0 m pc ls st0) rest (ck_Qc D dA b cs a) (fun q => b ≤ q)) (hS : va_S (fun q => b ≤ q) s.heap H locs)
    (kk : ∀ (H1 : Heap) (locs1 : List Loc), H1.size = b + cs.length → va_P D fw_cl (ck_W b dA cs) H1 → va_S (fun q => b ≤ q) s.heap H1 locs1 → W p l e R s m args below meth c H1 locs1 (cells + mc) (slots + ms) Q (F0 m (pc + 3) ls rest)) : W p l e R s m args below meth c H locs cells slots Q (F0 m pc ls st0) := by
  intro T hT X
  obtain ⟨v, st₀, t, T', L, h0, X', hL, e1, e2, ⟨⟨hv, hsz, hB⟩, hz, hkeep⟩, hst⟩ := hr T hT X
  cases hv
  rw [h0] at hz hkeep
  obtain ⟨t2, a1, b1⟩ := kk T'.heap (locs ++ L) (by rw [e1]; exact hsz) (by rw [e1]; exact hB)
    ⟨Nat.le_trans hS.1 (by rw [e1]; exact hz), fun q h1 h2 => by rw [e1, hkeep q (Nat.lt_of_lt_of_le h1 hS.1) h2]; exact hS.2.1 q h1 h2, fun q hq => by
      rcases List.mem_append.mp hq with h | h
      · exact hS.2.2 q h
      · exact hL q h⟩ T' rfl X'
  exact ⟨t2, hst t2 a1, b1⟩
def ck_Ok (l : Launch) (D : va_G) (dA : Nat → ClassId) (b : Nat) (f : Nat) : Prop := ∀ (k pc : Nat) (lv : ck_L) (stk : List ck_V) (cs : List ck_C) (rc rs : Nat) (cs' : List ck_C), k < 10 → ck_exec f k pc lv stk cs rc rs = some cs' →
  ∀ (p : Program) (e : Env) (R : Room) (s : State) (m : MethodId) (args : Array Value) (below : List Frame) (meth : Method) (c : Code) (Q : State → Prop) (mc ms : Nat) (w0 : Cond), ck_H p R s m args c meth D dA b mc ms k w0 →
    (∀ (pc : Nat) (ls : Array Slot) (H : Heap) (locs : List Loc) (cells slots : Nat), decode (ck_code k) pc = .ok (.return_, 1) → H.size = b + cs'.length → va_P D fw_cl (ck_W b dA cs') H → va_S (fun q => b ≤ q) s.heap H locs → cells ≤ mc → slots ≤ ms → W p l e R s m args below meth c H locs cells slots Q (F0 m pc ls [])) →
    ck_X p l e R s m args below meth c Q D dA b mc ms (ck_mL k) pc lv stk cs rc rs
theorem ck_met_of {f : Nat} (hf : ck_Ok l D dA b f) {k : Nat} (hk : k < 10) {as : List ck_V} {cs cs' : List ck_C} (hlen : as.length ≤ ck_mL k) (h : ck_exec f k 0 (as.map some ++ List.replicate (ck_mL k - as.length) none) [] cs (ck_mc k) (ck_ms k) = some cs') : ck_Met l D dA b k as cs cs' := by
  obtain ⟨h1, h2, h3, h4, h5, h6, h7, h8⟩ := ck_kf k hk
  refine Met.ofW (cc := ck_code k) (maxL := ck_mL k) (ret := none) h1 rfl ?_
  intro p e s m args below meth c s₁ B hml hv
  obtain ⟨rfl, hsz, hP, hK, hO⟩ := hv
  have hts := atoms_spec (ws := ck_ws k) B.pre
  have hown : s.vm.findClass (ck_own k) = some m.cls := h2 ▸ findClass_of_methodNamed B.named
  have hr := B.returns
  have hlocks := B.notSynchronized
  have hcat : ∀ v ∈ as.map (ck_g b), v.category = 1 := by
    intro v hv
    obtain ⟨a, -, rfl⟩ := List.mem_map.mp hv
    exact ck_cat
  have hentry := gl_entry (n := ck_mL k) hcat (by rw [List.length_map]; exact hlen)
  have hlv : (as.map (ck_g b)).map some ++ List.replicate (ck_mL k - (as.map (ck_g b)).length) none = ck_lv' b (as.map some ++ List.replicate (ck_mL k - as.length) none) := by
    simp [ck_lv']
  rw [hlv] at hentry
  rw [lg_entry_eq]
  have hX := hf k 0 _ _ cs (ck_mc k) (ck_ms k) cs' hk h p e (ck_rm k) s m (as.map (ck_g b)).toArray below meth c (MQ below (ck_Qc D dA b cs') (as.map (ck_g b)).toArray s (ck_mc k) (ck_ms k) (fun q => b ≤ q)) (ck_mc k) (ck_ms k) (Cond.code (ck_y k) (ck_code k) (ck_mL k) none)
    ⟨B.exec, B.bytes, hml, hts, hown, hK, hO, by omega, Nat.le_refl _, Nat.le_refl _, Nat.le_refl _, Nat.le_refl _, fun _ => (name_of_methodNamed B.named B.method).1.trans h3⟩ (by
      intro pc ls H locs cells slots hd hsz' hP' hS hc hs
      refine W.widen hc hs ?_
      exact W.vret B.exec B.bytes hr (fun t ht hW => ⟨⟨rfl, by rw [ht]; exact hsz', by rw [ht]; exact hP'⟩, hS.F ht⟩) hS.2.2 hd)
  have h9 := hX _ s.heap [] hentry hsz (by omega) hP va_S.rf (Nat.le_refl _) (Nat.le_refl _)
  rw [Nat.sub_self, Nat.sub_self] at h9
  exact h9
theorem ck_head {as : List ck_V} (h : ck_isr as.head? = true) : ∃ a as', as = .inr (some a) :: as' := by
  cases as with
  | nil => cases h
  | cons v r =>
    rcases v with x | _ | a
    · cases h
    · cases h
    · exact ⟨a, r, rfl⟩
theorem ck_sum {r : List ck_V} : ((r.map (ck_g b)).map fun v => v.category).sum = r.length := by
  induction r with
  | nil => rfl
  | cons v r ih =>
    simp only [List.map_cons, List.sum_cons, List.length_cons]
    rw [ck_cat, ih]
    omega
set_option maxHeartbeats 2000000 in
/-- a call of a constructor -/
theorem ck_call {p : Program} {e : Env} {R : Room} {s : State} {m : MethodId} {args : Array Value} {below : List Frame} {meth : Method} {c : Code} {Q : State → Prop} {mc ms k : Nat} {w0 : Cond} (E : ck_H p R s m args c meth D dA b mc ms k w0) {pc idx k2 n : Nat} {lv : ck_L} {stk : List ck_V} {cs cs2 : List ck_C} {rc rs : Nat} (hd : decode (ck_code k) pc = .ok (.invokespecial idx, 3)) (hi : ck_inv k idx = some (some (k2, n))) (hn : n + 1 ≤ stk.length) (hr8 : (stk.drop (n + 1)).length ≤ 8) (hmc : ck_mc k2 ≤ rc) (hms : ck_ms k2 ≤ rs) (hhd : ck_isr (stk.take (n + 1)).reverse.head? = true) (hlen2 : cs2.length = cs.length + ck_mc k2)
    (hM : ck_Met l D dA b k2 (stk.take (n + 1)).reverse cs cs2) (hk : ck_X p l e R s m args below meth c Q D dA b mc ms (ck_mL k) (pc + 3) lv (stk.drop (n + 1)) cs2 (rc - ck_mc k2) (rs - ck_ms k2)) : ck_X p l e R s m args below meth c Q D dA b mc ms (ck_mL k) pc lv stk cs rc rs := by
  obtain ⟨hx, hb, hml, hts, hown, hK, hO, hbs, hRc, hRs, hRf, hRl, hnm⟩ := E
  intro ls H locs hl hsz hex hP hS hrc hrs
  obtain ⟨hk2, hlev, hnp, hlink⟩ := ck_ci k idx k2 n hi
  obtain ⟨h1, h2, h3, h4, h5, h6, h7, h8⟩ := ck_kf k2 hk2
  obtain ⟨a, as', has⟩ := ck_head hhd
  have hok : ∀ w ∈ fw_T, w.before args s = true := fun w hw => hts w (List.mem_cons_of_mem _ hw)
  have hlen : ((stk.take (n + 1)).reverse).length = n + 1 := by rw [List.length_reverse, List.length_take]; omega
  rw [has] at hM hlen
  have hstk : stk = as'.reverse ++ .inr (some a) :: stk.drop (n + 1) := by
    have h9 : stk.take (n + 1) = (.inr (some a) :: as').reverse := by rw [← has, List.reverse_reverse]
    have h10 := (List.take_append_drop (n + 1) stk).symm
    rw [h9] at h10
    rw [List.reverse_cons, List.append_assoc] at h10
    exact h10
  have hpre : PreS s H (ck_Pc D dA b (.inr (some a) :: as') cs) (.ref (b + a) :: as'.map (ck_g b)) := ⟨ck_Pc_blind, fun U hU hW => ⟨rfl, by rw [hU]; exact hsz, by rw [hU]; exact hP, va_K.moved hW.alike hK, ck_O.moved hW hO⟩⟩
  have hroom : 2 * (F0 m pc ls (stk.map (ck_g b))).monitorRoom + (((stk.drop (n + 1)).map (ck_g b)).map fun v => v.category).sum ≤ 8 := lv_room (by rw [ck_sum]; exact hr8)
  have hst : (F0 m pc ls (stk.map (ck_g b))).stack = (as'.map (ck_g b)).reverse ++ .ref (b + a) :: (stk.drop (n + 1)).map (ck_g b) := by
    show stk.map (ck_g b) = _
    conv => lhs; rw [hstk]
    simp [ck_g]
  have hfr : (ck_rm k2).frames + 1 ≤ R.frames ∧ 8 + (ck_mL k2 + 11) + (ck_rm k2).locals ≤ R.locals := ⟨by show ck_lv k2 + 1 ≤ R.frames; omega, by show 8 + (ck_mL k2 + 11) + 27 * ck_lv k2 ≤ R.locals; omega⟩
  have hfin : ∀ (H1 : Heap) (locs1 : List Loc), H1.size = b + cs2.length → va_P D fw_cl (ck_W b dA cs2) H1 → va_S (fun q => b ≤ q) s.heap H1 locs1 → W p l e R s m args below meth c H1 locs1 (mc - rc + ck_mc k2) (ms - rs + ck_ms k2) Q (F0 m (pc + 3) ls ((stk.drop (n + 1)).map (ck_g b))) := by
    intro H1 locs1 z1 hP1 hS1
    have h9 := hk ls H1 locs1 hl z1 (by omega) hP1 hS1 (by omega) (by omega)
    have a1 : mc - rc + ck_mc k2 = mc - (rc - ck_mc k2) := by omega
    have a2 : ms - rs + ck_ms k2 = ms - (rs - ck_ms k2) := by omega
    rw [a1, a2]
    exact h9
  have hcells : mc - rc + ck_mc k2 ≤ R.cells ∧ ms - rs + ck_ms k2 ≤ R.slots := ⟨by omega, by omega⟩
  have hAs : (as'.map (ck_g b)).length = n := by
    rw [List.length_map]
    simpa using hlen
  rcases hlink with hlk | hlk
  · exact ck_run (va_runI (rest := (stk.drop (n + 1)).map (ck_g b)) (As := as'.map (ck_g b)) (b := b + a) ⟨hx, hb, hml, hown, hts⟩ hM ⟨callB_of n hts (fw_T_good (fun w hw => List.mem_cons_of_mem _ hw) h4) rfl rfl rfl (hok _ h6) (hok _ hlk) ⟨h7.1, h7.2, hnp⟩ hfr, h3, hok _ h5⟩ hpre rfl hAs hl.1 hst hroom hd hcells) hS hfin
  · exact ck_run (va_runIN (rest := (stk.drop (n + 1)).map (ck_g b)) (As := as'.map (ck_g b)) (b := b + a) ⟨hx, hb, hml, hown, hts⟩ hM ⟨va_cnB n hts (fw_T_good (fun w hw => List.mem_cons_of_mem _ hw) h4) rfl rfl rfl (hO.2 _ hlk) (hok _ h6) ⟨h7.1, h7.2, hnp⟩ hfr, h3, hok _ h5⟩ hpre rfl hAs hl.1 hst hroom hd hcells) hS hfin
set_option maxHeartbeats 2000000 in
theorem ck_ok (f : Nat) : ck_Ok l D dA b f := by
  induction f with
  | zero =>
    intro k pc lv stk cs rc rs cs' hk h
    cases h
  | succ f ih =>
    intro k pc lv stk cs rc rs cs' hk h p e R s m args below meth c Q mc ms w0 E hret
    unfold ck_exec at h
    cases hd : decode (ck_code k) pc with
    | error z => rw [hd] at h; cases h
    | ok q =>
      obtain ⟨ins, len⟩ := q
      rw [hd] at h
      dsimp only at h
      have hE := E
      obtain ⟨hx, hb, hml, hts, hown, hK, hO, hbs, hRc, hRs, hRf, hRl, hnm⟩ := E
      split at h
      · split at h
        · rename_i h1
          obtain ⟨rfl, rfl⟩ := h1
          cases h
          intro ls H locs hl hsz hex hP hS hrc hrs
          exact hret pc ls H locs _ _ hd hsz hP hS (Nat.sub_le _ _) (Nat.sub_le _ _)
        · cases h
      · split at h
        · rename_i off h1
          obtain ⟨rfl, h2⟩ := h1
          have h9 := ih k _ lv stk cs rc rs cs' hk h p e R s m args below meth c Q mc ms w0 hE hret
          intro ls H locs hl hsz hex hP hS hrc hrs
          exact lv_goto hx hb hd (by omega) (h9 ls H locs hl hsz hex hP hS hrc hrs)
        · cases h
      · rename_i cd off
        split at h
        · rename_i y x r
          split at h
          · rename_i h1
            obtain ⟨rfl, h2⟩ := h1
            intro ls H locs hl hsz hex hP hS hrc hrs
            refine lv_icmp_ge hx hb hd (tgt := ((pc : Int) + off).toNat) (by omega) (fun z => ?_) (fun z => ?_)
            · rw [if_pos z] at h
              exact ih k _ lv r cs rc rs cs' hk h p e R s m args below meth c Q mc ms w0 hE hret ls H locs hl hsz hex hP hS hrc hrs
            · rw [if_neg z] at h
              exact ih k _ lv r cs rc rs cs' hk h p e R s m args below meth c Q mc ms w0 hE hret ls H locs hl hsz hex hP hS hrc hrs
          · cases h
        · cases h
      · rename_i idx
        split at h
        · rename_i hi
          split at h
          · rename_i a r
            split at h
            · rename_i h1
              obtain ⟨rfl, h8⟩ := h1
              have h9 := ih k _ lv r cs rc rs cs' hk h p e R s m args below meth c Q mc ms w0 hE hret
              intro ls H locs hl hsz hex hP hS hrc hrs
              have hok : ∀ w ∈ fw_T, w.before args s = true := fun w hw => hts w (List.mem_cons_of_mem _ hw)
              have hlv : 1 ≤ ck_lv k := by
                have : ∀ k, k < 10 → 1 ≤ ck_lv k := by decide
                exact this k hk
              exact W.objInit hx hb hown (hok _ (ck_oi k idx hi)) (hok _ ck_w1) (hok _ ck_w2) rfl (hl.1.trans hml.symm) rfl hd (by omega) (by
                have h10 : 2 * (F0 m pc ls (((.inr (some a) :: r : List ck_V)).map (ck_g b))).monitorRoom + ((r.map (ck_g b)).map fun v => v.category).sum ≤ 8 := lv_room (by rw [ck_sum]; exact h8)
                omega) (h9 ls H locs hl hsz hex hP hS hrc hrs)
            · cases h
          · cases h
        · rename_i k2 n hi
          split at h
          · rename_i h1
            obtain ⟨rfl, g1, g2, g3, g4, g5, g6⟩ := h1
            split at h
            · rename_i cs2 hcs2
              split at h
              · rename_i hl2
                have hlen : ((stk.take (n + 1)).reverse).length = n + 1 := by rw [List.length_reverse, List.length_take]; omega
                have hM : ck_Met l D dA b k2 (stk.take (n + 1)).reverse cs cs2 := ck_met_of ih (ck_ci k idx k2 n hi).1 (by rw [hlen]; exact g5) (by rw [hlen]; exact hcs2)
                exact ck_call hE hd hi g1 g2 g3 g4 g6 hl2 hM (ih k _ lv _ cs2 _ _ cs' hk h p e R s m args below meth c Q mc ms w0 hE hret)
              · cases h
            · cases h
          · cases h
        · cases h
      · split at h
        · rename_i hlen
          subst hlen
          split at h
          · rename_i lv' stk' cs1 rc' rs' hex1
            exact ck_sex hE hd hex1 (Or.inl hk) (ih k _ lv' stk' cs1 rc' rs' cs' hk h p e R s m args below meth c Q mc ms w0 hE hret)
          · cases h
        · cases h
end RU

/-! The law's loop out of a step that keeps an invariant; what holds at the law's entry. -/
theorem lw_nI_le {a : Nat} {b : Int} (ha : a ≤ 3072) (hb : -8 ≤ b ∧ b ≤ 3072) {y : Int32} (hy : y.toInt = b) : (y < nI a ↔ b < (a : Int)) := by
  have h1 : (nI a).toInt = (a : Int) := by
    unfold nI
    exact Int32.toInt_ofNat_of_lt (by omega)
  rw [Int32.lt_iff_toInt_lt, hy, h1]
theorem lw_nI_sub {a : Nat} (ha : a ≤ 3072) : (nI a - 6).toInt = (a : Int) - 6 := by
  have h1 : (nI a).toInt = (a : Int) := by
    unfold nI
    exact Int32.toInt_ofNat_of_lt (by omega)
  rw [Int32.toInt_sub, h1, show (6 : Int32).toInt = 6 from rfl]
  exact Int.bmod_eq_of_le (by omega) (by omega)
section LP
variable {p : Program} {l : Launch} {e : Env} {s : State} {m : MethodId} {args : Array Value} {below : List Frame} {meth : Method} {c : Code} {Q : State → Prop} {D : va_G} {dA : Nat → ClassId} {lay : Nat → Nat} {A : Nat → Prop} {L : Nat} {xs : Nat → Int32}
theorem lw_any (hx : p.tables.exec = Jvm.exec) (hb : c.code = code) (hml : c.maxLocals = 7) (hts : ∀ w ∈ fw_T, w.before args s = true) (hown : s.vm.findClass R_LA = some m.cls) (hK : va_K D fw_cl (fw_tys dA) s) (hL : fw_lay A lay) (hA : ∀ q, s.heap.size ≤ q → A q) (hX : va_X (lay 176) L xs s s.heap ∧ lay 176 < s.heap.size ∧ ¬ A (lay 176)) {C S : Nat} (hf9 : C ≤ room_1.cells ∧ S ≤ room_1.slots)
    (hret : ∀ C S, C ≤ room_1.cells → S ≤ room_1.slots → ∀ (pc : Nat) (lv : am_L) (st : am_S), decode code pc = .ok (.ireturn, 1) → am_X p l e room_1 s m args below meth c Q D dA lay A s.heap 7 C S pc lv [.inl 1] st)
    {pc : Nat} {lv : am_L} {stk : List am_V} {st : am_S} (h : am_AW code (g_law L xs (am_X p l e room_1 s m args below meth c Q D dA lay A s.heap 7 C S)) lw_k pc lv stk st) :
    am_X p l e room_1 s m args below meth c Q D dA lay A s.heap 7 C S pc lv stk st := by
  refine h _ (so_all (own := R_LA) (Ts := fw_T) hx hb hml hts (fun w h => h) hown hK hL hA hf9 (fun idx ci j h => by cases h) (ca_law l D dA lay) (fun idx v h => by cases h) (fun pc lv stk st h => h) (fun L' xs' h => by cases h; exact hX) ?_ (fun pc ik ic n lv st _ _ _ _ h _ => by cases h))
  intro pc ins lv stk ro st hd hrt hk
  have hro : ro = some (.inl 1) := by
    have h9 : (Sum.inl ro : Option am_V ⊕ Nat) = .inl (some (.inl 1)) := hk
    exact Sum.inl.inj h9
  subst hro
  unfold am_rt at hrt
  split at hrt
  · split at hrt
    · cases hrt
      exact hret C S hf9.1 hf9.2 pc lv st hd
    · cases hrt
  · split at hrt <;> cases hrt
  · split at hrt <;> cases hrt
  · cases hrt
theorem lw_loop (htr : l.stackTraces = false) (hx : p.tables.exec = Jvm.exec) (hb : c.code = code) (hml : c.maxLocals = 7) (hts : ∀ w ∈ fw_T, w.before args s = true) (hown : s.vm.findClass R_LA = some m.cls) (hK : va_K D fw_cl (fw_tys dA) s) (hL : fw_lay A lay) (hA : ∀ q, s.heap.size ≤ q → A q) (hz : fz A s s.heap) (hX : va_X (lay 176) L xs s s.heap ∧ lay 176 < s.heap.size ∧ ¬ A (lay 176))
    (hret : ∀ C S, C ≤ room_1.cells → S ≤ room_1.slots → ∀ (pc : Nat) (lv : am_L) (st : am_S), decode code pc = .ok (.ireturn, 1) → am_X p l e room_1 s m args below meth c Q D dA lay A s.heap 7 C S pc lv [.inl 1] st)
    (hLn : L ≤ 3072) {INV : Nat → am_S → Prop} (hstep : ∀ j a b st, 6 * j + 6 ≤ L → INV j st → lw_it L xs (fun i st' => i = nI (6 * j) ∧ INV (j + 1) st') (nI (6 * j)) a b st) :
    ∀ r j a b st, j + r = L / 6 → INV j st → am_X p l e room_1 s m args below meth c Q D dA lay A s.heap 7 (176 + j) (7076 + 6 * j) 23 (lw_lv (nI (6 * j)) a b) [] st := by
  intro r
  induction r with
  | zero =>
    intro j a b st hj hi
    refine lw_any hx hb hml hts hown hK hL hA hX ⟨by show _ ≤ 601024; omega, by show _ ≤ 7293034; omega⟩ hret ?_
    refine am_s d_law_23 rfl rfl ?_
    refine am_s d_law_25 rfl rfl ?_
    refine am_sn d_law_26 rfl rfl ?_
    refine am_s d_law_27 rfl rfl ?_
    refine am_s d_law_29 rfl rfl ?_
    refine am_b d_law_30 rfl rfl rfl (fun _ => ?_) (fun h => absurd ?_ h)
    · refine am_s d_law_808 rfl rfl ?_
      exact am_r d_law_809 rfl rfl
    · exact (lw_nI_le (by omega) (b := (L : Int) - 6) (by omega) (lw_nI_sub hLn)).mpr (by omega)
  | succ r ih =>
    intro j a b st hj hi
    refine lw_sound htr hx hb hml hts hown hK hL hA hz hX ⟨by show _ ≤ 601024; omega, by show _ ≤ 7293034; omega⟩ hret ?_ (hstep j a b st (by omega) hi)
    rintro i a b st ⟨rfl, hi⟩
    refine lw_any hx hb hml hts hown hK hL hA hX ⟨by show _ ≤ 601024; omega, by show _ ≤ 7293034; omega⟩ hret ?_
    refine am_s d_law_802 rfl rfl ?_
    refine am_go d_law_805 (tgt := 23) rfl ?_
    refine am_cut ?_
    have h1 := ih (j + 1) a b st (by omega) hi
    have e1 : nI (6 * (j + 1)) = nI (6 * j) + 6 := by
      unfold nI
      rw [show 6 * (j + 1) = 6 * j + 6 from rfl, Int32.ofNat_add]
      rfl
    rw [e1] at h1
    exact h1
end LP
theorem lw_fzL {args : Array Value} {s : State} {n d : String} {A : Nat → Prop} (hl : (Cond.laysStatic Bundle.tN n d).before args s = true) (hA : ∀ a : Nat, a < s.heap.size → ¬ A a) : fz_L n d A s s.heap := by
  obtain ⟨c, k, i, f, a, cell, hc, hi, hst, ha, hcell, hs, hcls, hlt, hty⟩ := Cond.laysStatic_spec hl
  exact ⟨c, k, i, f, a, cell, hc, hi, hst, ha, hcell, hs, hcls, hlt, hty, hA a (Array.getElem?_eq_some_iff.mp hcell).1⟩
theorem lw_fz {args : Array Value} {s : State} (hts : ∀ w ∈ lw_tbl, w.before args s = true) (hg : (Jvm.Cond.and given_1 narrow_1).before args s = true) : fz (fun q => s.heap.size ≤ q) s s.heap := by
  have hs := flat_of_before _ hg
  have hT : ∀ w ∈ tables_1, w.before args s = true := fun w h => hts w (List.mem_append_right _ h)
  have hA : ∀ a : Nat, a < s.heap.size → ¬ s.heap.size ≤ a := fun a h => by omega
  have l1 : (Cond.laysStatic Bundle.tN "UNASSIGNED_STACK" Bundle.steD).before args s = true := hT _ (by decide +kernel)
  have l2 : (Cond.laysStatic Bundle.tN "SUPPRESSED_SENTINEL" Bundle.listD).before args s = true := hT _ (by decide +kernel)
  have hi : (Cond.initialized Bundle.tN).before args s = true := hT _ (by decide +kernel)
  refine ⟨fun w hw => ?_, ⟨va_Zqof l1 hi (hs _ (by decide +kernel)) hA, lw_fzL l1 hA⟩, va_Zqof l2 hi (hs _ (by decide +kernel)) hA, lw_fzL l2 hA⟩
  simp only [fx_tw, List.mem_cons, List.not_mem_nil, or_false] at hw
  rcases hw with rfl | rfl | rfl | rfl | rfl | rfl | rfl
  · exact va_any rfl (hT _ (by decide +kernel))
  · exact va_any rfl (hT _ (by decide +kernel))
  · exact va_any rfl (hT _ (by decide +kernel))
  · exact va_any rfl (hT _ (by decide +kernel))
  · exact va_any rfl (hT _ (by decide +kernel))
  · exact hs (Cond.not (.castable "java/lang/IllegalStateException" "java/lang/IllegalArgumentException")) (by decide +kernel)
  · exact hs (Cond.not (.castable "java/lang/IllegalArgumentException" "java/lang/IllegalStateException")) (by decide +kernel)
theorem lw_O {args : Array Value} {s : State} (hts : ∀ w ∈ lw_tbl, w.before args s = true) : ck_O s := by
  have hT : ∀ w ∈ tables_1, w.before args s = true := fun w h => hts w (List.mem_append_right _ h)
  refine ⟨⟨hT (.arrayOver (.object "FrameWalk$Method")) (by decide +kernel), hT (.arrayOver (.object "FrameWalk$Handler")) (by decide +kernel), hT (.arrayOver (.object "FrameWalk$Frame")) (by decide +kernel)⟩, fun w hw => ?_⟩
  have h1 : ∀ w ∈ ck_nw, w ∈ tables_1 := by decide +kernel
  have h2 : ∀ w ∈ ck_nw, w.onTables = true := by decide +kernel
  exact va_Nw.of (h2 w hw) (hT w (h1 w hw))

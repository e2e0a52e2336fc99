/-! The making machine step by step: long runs in pieces. -/
abbrev ck_Z : Type := Nat × ck_L × List ck_V × List ck_C × Nat × Nat
def ck_stp (k : Nat) (z : ck_Z) : Option ck_Z := match z with
  | (pc, lv, stk, cs, rc, rs) => match decode (ck_code k) pc with
    | .error _ => none
    | .ok (ins, len) => match ins with
      | .return_ => none
      | .goto off => if len = 3 ∧ 0 ≤ (pc : Int) + off then some (((pc : Int) + off).toNat, lv, stk, cs, rc, rs) else none
      | .if_icmp cd off => (match cd, stk with
        | .ge, .inl y :: .inl x :: r => if len = 3 ∧ 0 ≤ (pc : Int) + off then (if y ≤ x then some (((pc : Int) + off).toNat, lv, r, cs, rc, rs) else some (pc + 3, lv, r, cs, rc, rs)) else none
        | _, _ => none)
      | .invokespecial idx => (match ck_inv k idx with
        | some none => (match stk with
          | .inr (some a) :: r => if len = 3 ∧ r.length ≤ 8 then some (pc + 3, lv, r, cs, rc, rs) else none
          | _ => none)
        | some (some (k2, n)) => if len = 3 ∧ n + 1 ≤ stk.length ∧ (stk.drop (n + 1)).length ≤ 8 ∧ ck_mc k2 ≤ rc ∧ ck_ms k2 ≤ rs ∧ n + 1 ≤ ck_mL k2 ∧ ck_isr (stk.take (n + 1)).reverse.head? = true then
            (match ck_exec 100 k2 0 ((stk.take (n + 1)).reverse.map some ++ List.replicate (ck_mL k2 - (n + 1)) none) [] cs (ck_mc k2) (ck_ms k2) with
            | some cs2 => if cs2.length = cs.length + ck_mc k2 then some (pc + 3, lv, stk.drop (n + 1), cs2, rc - ck_mc k2, rs - ck_ms k2) else none
            | none => none) else none
        | none => none)
      | ins => if len = ck_ln ins then (match ck_ex k ins lv stk cs rc rs with
        | some (lv', stk', cs', rc', rs') => some (pc + len, lv', stk', cs', rc', rs')
        | none => none) else none
def ck_it : Nat → Nat → ck_Z → Option ck_Z
  | 0, _, z => some z
  | n + 1, k, z => match ck_stp k z with
    | some z' => ck_it n k z'
    | none => none
section SP
variable {p : Program} {l : Launch} {e : Env} {R : Room} {s : State} {m : MethodId} {args : Array Value} {below : List Frame} {meth : Method} {c : Code} {Q : State → Prop} {D : va_G} {dA : Nat → ClassId} {b mc ms k : Nat} {w0 : Cond}
def ck_XZ (p : Program) (l : Launch) (e : Env) (R : Room) (s : State) (m : MethodId) (args : Array Value) (below : List Frame) (meth : Method) (c : Code) (Q : State → Prop) (D : va_G) (dA : Nat → ClassId) (b mc ms nL : Nat) (z : ck_Z) : Prop := ck_X p l e R s m args below meth c Q D dA b mc ms nL z.1 z.2.1 z.2.2.1 z.2.2.2.1 z.2.2.2.2.1 z.2.2.2.2.2
set_option maxHeartbeats 2000000 in
theorem ck_stp_ok (E : ck_H p R s m args c meth D dA b mc ms k w0) (hk : k < 10) {z z' : ck_Z} (h : ck_stp k z = some z') (hz : ck_XZ p l e R s m args below meth c Q D dA b mc ms (ck_mL k) z') : ck_XZ p l e R s m args below meth c Q D dA b mc ms (ck_mL k) z := by
  obtain ⟨pc, lv, stk, cs, rc, rs⟩ := z
  unfold ck_stp at h
  dsimp only at h
  cases hd : decode (ck_code k) pc with
  | error q => rw [hd] at h; cases h
  | ok q =>
    obtain ⟨ins, len⟩ := q
    rw [hd] at h
    dsimp only at h
    have hE := E
    obtain ⟨hx, hb, hml, hts, hown, hK, hO, hbs, hRc, hRs, hRf, hRl, hnm⟩ := E
    split at h
    · cases h
    · split at h
      · rename_i off h1
        obtain ⟨rfl, h2⟩ := h1
        cases h
        intro ls H locs hl hsz hex hP hS hrc hrs
        exact lv_goto hx hb hd (by dsimp only; omega) (hz ls H locs hl hsz hex hP hS hrc hrs)
      · cases h
    · rename_i cd off
      split at h
      · rename_i y x r
        split at h
        · rename_i h1
          obtain ⟨rfl, h2⟩ := h1
          intro ls H locs hl hsz hex hP hS hrc hrs
          refine lv_icmp_ge hx hb hd (tgt := ((pc : Int) + off).toNat) (by dsimp only; omega) (fun q => ?_) (fun q => ?_)
          · rw [if_pos q] at h
            cases h
            exact hz ls H locs hl hsz hex hP hS hrc hrs
          · rw [if_neg q] at h
            cases h
            exact hz ls H locs hl hsz hex hP hS hrc hrs
        · cases h
      · cases h
    · rename_i idx
      split at h
      · rename_i hi
        split at h
        · rename_i a r
          split at h
          · rename_i h1
            obtain ⟨rfl, h8⟩ := h1
            cases h
            intro ls H locs hl hsz hex hP hS hrc hrs
            have hok : ∀ w ∈ fw_T, w.before args s = true := fun w hw => hts w (List.mem_cons_of_mem _ hw)
            have hlv : 1 ≤ ck_lv k := by
              have : ∀ k, k < 10 → 1 ≤ ck_lv k := by decide
              exact this k hk
            exact W.objInit hx hb hown (hok _ (ck_oi k idx hi)) (hok _ ck_w1) (hok _ ck_w2) rfl (hl.1.trans hml.symm) rfl hd (by omega) (by
              have h10 : 2 * (F0 m pc ls (((.inr (some a) :: r : List ck_V)).map (ck_g b))).monitorRoom + ((r.map (ck_g b)).map fun v => v.category).sum ≤ 8 := lv_room (by rw [ck_sum]; exact h8)
              have h11 : 2 * (F0 m pc ls (((.inr (some a) :: r : List ck_V)).map (ck_g b))).monitorRoom + ((r.map (ck_g b)).map fun v => v.category).sum + 12 ≤ R.locals := by omega
              exact h11) (hz ls H locs hl hsz hex hP hS hrc hrs)
          · cases h
        · cases h
      · rename_i k2 n hi
        split at h
        · rename_i h1
          obtain ⟨rfl, g1, g2, g3, g4, g5, g6⟩ := h1
          split at h
          · rename_i cs2 hcs2
            split at h
            · rename_i hl2
              cases h
              have hlen : ((stk.take (n + 1)).reverse).length = n + 1 := by rw [List.length_reverse, List.length_take]; omega
              have hM : ck_Met l D dA b k2 (stk.take (n + 1)).reverse cs cs2 := ck_met_of (ck_ok 100) (ck_ci k idx k2 n hi).1 (by rw [hlen]; exact g5) (by rw [hlen]; exact hcs2)
              exact ck_call hE hd hi g1 g2 g3 g4 g6 hl2 hM hz
            · cases h
          · cases h
        · cases h
      · cases h
    · split at h
      · rename_i hlen
        subst hlen
        split at h
        · rename_i lv' stk' cs1 rc' rs' hex1
          cases h
          exact ck_sex hE hd hex1 (Or.inl hk) hz
        · cases h
      · cases h
theorem ck_it_ok (E : ck_H p R s m args c meth D dA b mc ms k w0) (hk : k < 10) : ∀ (n : Nat) {z z' : ck_Z}, ck_it n k z = some z' → ck_XZ p l e R s m args below meth c Q D dA b mc ms (ck_mL k) z' → ck_XZ p l e R s m args below meth c Q D dA b mc ms (ck_mL k) z
  | 0, z, z', h, hz => by cases h; exact hz
  | n + 1, z, z', h, hz => by
    unfold ck_it at h
    split at h
    · rename_i z1 h1
      exact ck_stp_ok E hk h1 (ck_it_ok E hk n h hz)
    · cases h
end SP
/-- a constructor's contract out of its run in pieces: the last piece stands at its return -/
theorem ck_met_z {l : Launch} {D : va_G} {dA : Nat → ClassId} {b k : Nat} (hk : k < 10) {as : List ck_V} {cs cs' : List ck_C} (hlen : as.length ≤ ck_mL k)
    (body : ∀ (p : Program) (e : Env) (s : State) (m : MethodId) (args : Array Value) (below : List Frame) (meth : Method) (c : Code) (Q : State → Prop) (w0 : Cond), ck_H p (ck_rm k) s m args c meth D dA b (ck_mc k) (ck_ms k) k w0 → (∀ (pc : Nat) (lv : ck_L) (rc rs : Nat), decode (ck_code k) pc = .ok (.return_, 1) → ck_XZ p l e (ck_rm k) s m args below meth c Q D dA b (ck_mc k) (ck_ms k) (ck_mL k) (pc, lv, [], cs', rc, rs)) → ck_XZ p l e (ck_rm k) s m args below meth c Q D dA b (ck_mc k) (ck_ms k) (ck_mL k) (0, as.map some ++ List.replicate (ck_mL k - as.length) none, [], cs, ck_mc k, ck_ms k)) : ck_Met l D dA b k as cs cs' := by
  obtain ⟨h1, h2, h3, h4, h5, h6, h7, h8⟩ := ck_kf k hk
  refine Met.ofW (cc := ck_code k) (maxL := ck_mL k) (ret := none) h1 rfl ?_
  intro p e s m args below meth c s₁ B hml hv
  obtain ⟨rfl, hsz, hP, hK, hO⟩ := hv
  have hts := atoms_spec (ws := ck_ws k) B.pre
  have hown : s.vm.findClass (ck_own k) = some m.cls := h2 ▸ findClass_of_methodNamed B.named
  have hr := B.returns
  have hlocks := B.notSynchronized
  have hcat : ∀ v ∈ as.map (ck_g b), v.category = 1 := by
    intro v hv
    obtain ⟨a, -, rfl⟩ := List.mem_map.mp hv
    exact ck_cat
  have hentry := gl_entry (n := ck_mL k) hcat (by rw [List.length_map]; exact hlen)
  have hlv : (as.map (ck_g b)).map some ++ List.replicate (ck_mL k - (as.map (ck_g b)).length) none = ck_lv' b (as.map some ++ List.replicate (ck_mL k - as.length) none) := by
    simp [ck_lv']
  rw [hlv] at hentry
  rw [lg_entry_eq]
  have hX := body p e s m (as.map (ck_g b)).toArray below meth c (MQ below (ck_Qc D dA b cs') (as.map (ck_g b)).toArray s (ck_mc k) (ck_ms k) (fun q => b ≤ q)) (Cond.code (ck_y k) (ck_code k) (ck_mL k) none)
    ⟨B.exec, B.bytes, hml, hts, hown, hK, hO, by omega, Nat.le_refl _, Nat.le_refl _, Nat.le_refl _, Nat.le_refl _, fun _ => (name_of_methodNamed B.named B.method).1.trans h3⟩ (by
      intro pc lv rc rs hd ls H locs hl hsz' hex hP' hS hrc hrs
      refine W.widen (Nat.sub_le _ _) (Nat.sub_le _ _) ?_
      exact W.vret B.exec B.bytes hr (fun t ht hW => ⟨⟨rfl, by rw [ht]; exact hsz', by rw [ht]; exact hP'⟩, hS.F ht⟩) hS.2.2 hd)
  have h9 := hX _ s.heap [] hentry hsz (by dsimp only; omega) hP va_S.rf (Nat.le_refl _) (Nat.le_refl _)
  dsimp only at h9
  rw [Nat.sub_self, Nat.sub_self] at h9
  exact h9

/-! Methods that throw: IllegalArgumentException (1) and IllegalStateException (2), made and thrown by the class FrameWalk. -/
def fx_cls (n : Nat) : String := if n = 1 then "java/lang/IllegalArgumentException" else "java/lang/IllegalStateException"
def fx_nm : List String := ["java/lang/RuntimeException", "java/lang/Exception"]
def fx_hw : List Cond := [.isRef (.static Bundle.tN "UNASSIGNED_STACK" Bundle.steD), .isRef (.static Bundle.tN "SUPPRESSED_SENTINEL" Bundle.listD), .laysStatic Bundle.tN "UNASSIGNED_STACK" Bundle.steD, .laysStatic Bundle.tN "SUPPRESSED_SENTINEL" Bundle.listD]
def fx_at1 : List Cond := Bundle.ownAtoms0 "FrameWalk" 74 "java/lang/IllegalArgumentException" fx_nm
def fx_at2 : List Cond := Bundle.ownAtoms0 "FrameWalk" 60 "java/lang/IllegalStateException" fx_nm
/-- words of the tables that no call carries by itself -/
def fx_tw : List Cond := [.declares (Bundle.init0 "java/lang/RuntimeException"), .declares (Bundle.init0 "java/lang/Exception"), .declares (Bundle.init0 Bundle.tN), .castable "java/lang/IllegalArgumentException" "java/lang/IllegalArgumentException", .castable "java/lang/IllegalStateException" "java/lang/IllegalStateException", .not (.castable "java/lang/IllegalStateException" "java/lang/IllegalArgumentException"), .not (.castable "java/lang/IllegalArgumentException" "java/lang/IllegalStateException")]
theorem fx_at_in {ws : List Cond} (h : ws.all (fun w => decide (w ∈ fx_hw) || decide (w ∈ fx_tw) || (decide (w ∈ tables_1) && goodWord w)) = true) : ∀ w ∈ ws, w ∈ fx_hw ∨ w ∈ fx_tw ∨ w ∈ fw_T := by
  intro w hw
  have h1 := List.all_eq_true.mp h w hw
  simp only [Bool.or_eq_true, Bool.and_eq_true, decide_eq_true_eq] at h1
  rcases h1 with (h1 | h1) | ⟨h1, h2⟩
  · exact Or.inl h1
  · exact Or.inr (Or.inl h1)
  · exact Or.inr (Or.inr (List.mem_filter.mpr ⟨List.mem_append_right _ h1, h2⟩))
theorem fx_at1_in : ∀ w ∈ fx_at1, w ∈ fx_hw ∨ w ∈ fx_tw ∨ w ∈ fw_T := fx_at_in (by decide +kernel)
theorem fx_at2_in : ∀ w ∈ fx_at2, w ∈ fx_hw ∨ w ∈ fx_tw ∨ w ∈ fw_T := fx_at_in (by decide +kernel)
/-- the statics' cell of a class: where a static field of it lies, apart from A -/
def fz_L (n d : String) (A : Nat → Prop) (U : State) (H : Heap) : Prop := ∃ (c : ClassId) (k : Class) (i : Nat) (f : Field) (a : Nat) (cell : Cell), U.vm.findClass Bundle.tN = some c ∧ U.fieldFound? Bundle.tN n d = some (c, k, i, f) ∧ f.isStatic = true ∧ k.statics = some a ∧ H[a]? = some cell ∧ cell.vm.isStatics = true ∧ cell.cls = c ∧ f.slot < cell.slots.size ∧ k.staticTypes[f.slot]? = some f.type ∧ ¬ A a
def fz (A : Nat → Prop) (U : State) (H : Heap) : Prop := (∀ w ∈ fx_tw, w.before #[] U = true) ∧ (va_Zq Bundle.tN "UNASSIGNED_STACK" Bundle.steD A U H ∧ fz_L "UNASSIGNED_STACK" Bundle.steD A U H) ∧ va_Zq Bundle.tN "SUPPRESSED_SENTINEL" Bundle.listD A U H ∧ fz_L "SUPPRESSED_SENTINEL" Bundle.listD A U H
theorem fz_L.moved {n d : String} {A : Nat → Prop} {u U : State} {H : Heap} (hvm : u.vm.Alike U.vm) (h : fz_L n d A u H) : fz_L n d A U H := by
  obtain ⟨c, k, i, f, a, cell, h1, h2, h3, h4, h5, h6, h7, h8, h9, h10⟩ := h
  obtain ⟨k', hi', hek⟩ := State.fieldFound?_setVm hvm h2
  exact ⟨c, k', i, f, a, cell, by rw [hvm.findClass]; exact h1, hi', h3, by rw [hek]; exact h4, h5, h6, h7, h8, by rw [hek]; exact h9, h10⟩
theorem fz_L.kept {n d : String} {A : Nat → Prop} {U : State} {H H1 : Heap} (h : fz_L n d A U H) (hq : ∀ a : Nat, a < H.size → ¬ A a → H1[a]? = H[a]?) : fz_L n d A U H1 := by
  obtain ⟨c, k, i, f, a, cell, h1, h2, h3, h4, h5, h6, h7, h8, h9, h10⟩ := h
  exact ⟨c, k, i, f, a, cell, h1, h2, h3, h4, by rw [hq a (Array.getElem?_eq_some_iff.mp h5).1 h10]; exact h5, h6, h7, h8, h9, h10⟩
theorem fz_L.narrow {n d : String} {A B : Nat → Prop} {U : State} {H : Heap} (h : fz_L n d A U H) (hAB : ∀ q, B q → A q) : fz_L n d B U H := by
  obtain ⟨c, k, i, f, a, cell, h1, h2, h3, h4, h5, h6, h7, h8, h9, h10⟩ := h
  exact ⟨c, k, i, f, a, cell, h1, h2, h3, h4, h5, h6, h7, h8, h9, fun z => h10 (hAB _ z)⟩
theorem fx_not_moved {u : State} {vm' : Vm} (hvm : u.vm.Alike vm') {a b : String} (h : (Cond.not (.castable a b)).before #[] u = true) : (Cond.not (.castable a b)).before #[] (u.setVm vm') = true := by
  have e : (Cond.castable a b).value #[] (u.setVm vm') none (u.setVm vm') [] = (Cond.castable a b).value #[] u none u [] := by
    simp only [Cond.value, State.vm_setVm, hvm.findClass, hvm.assignable]
  simp only [Cond.before, Cond.holds, Cond.value] at h ⊢
  simp only [Cond.value] at e
  rw [e]
  exact h
theorem fx_tw_moved {u U : State} (hvm : u.vm.Alike U.vm) (h : ∀ w ∈ fx_tw, w.before #[] u = true) : ∀ w ∈ fx_tw, w.before #[] U = true := by
  have tr : ∀ {w : Cond}, w.before #[] (u.setVm U.vm) = true → (w.onTables = true ∨ ∃ a b, w = .not (.castable a b)) → w.before #[] U = true := by
    intro w h hw
    rcases hw with hc | ⟨a, b, rfl⟩
    · have e := Cond.onTables_vm (A := #[]) (A' := #[]) (U := u) (U' := U) U.vm w hc
      rw [show U.setVm U.vm = U from rfl] at e
      rw [← e]
      exact h
    · exact h
  intro w hw
  have h0 := h w hw
  simp only [fx_tw, List.mem_cons, List.not_mem_nil, or_false] at hw
  rcases hw with rfl | rfl | rfl | rfl | rfl | rfl | rfl
  · exact tr (by rw [Cond.declares_setVm hvm]; exact h0) (Or.inl rfl)
  · exact tr (by rw [Cond.declares_setVm hvm]; exact h0) (Or.inl rfl)
  · exact tr (by rw [Cond.declares_setVm hvm]; exact h0) (Or.inl rfl)
  · exact tr (by rw [Cond.castable_setVm hvm]; exact h0) (Or.inl rfl)
  · exact tr (by rw [Cond.castable_setVm hvm]; exact h0) (Or.inl rfl)
  · exact tr (fx_not_moved hvm h0) (Or.inr ⟨_, _, rfl⟩)
  · exact tr (fx_not_moved hvm h0) (Or.inr ⟨_, _, rfl⟩)
theorem fz.moved {A : Nat → Prop} {u U : State} {H : Heap} (hvm : u.vm.Alike U.vm) (h : fz A u H) : fz A U H := ⟨fx_tw_moved hvm h.1, ⟨h.2.1.1.moved hvm, h.2.1.2.moved hvm⟩, h.2.2.1.moved hvm, h.2.2.2.moved hvm⟩
theorem fz.kept {A : Nat → Prop} {U : State} {H H1 : Heap} (h : fz A U H) (hq : ∀ a : Nat, a < H.size → ¬ A a → H1[a]? = H[a]?) : fz A U H1 := ⟨h.1, ⟨h.2.1.1.kept hq, h.2.1.2.kept hq⟩, h.2.2.1.kept hq, h.2.2.2.kept hq⟩
theorem fz.narrow {A B : Nat → Prop} {U : State} {H : Heap} (h : fz A U H) (hAB : ∀ q, B q → A q) : fz B U H := ⟨h.1, ⟨h.2.1.1.narrow hAB, h.2.1.2.narrow hAB⟩, h.2.2.1.narrow hAB, h.2.2.2.narrow hAB⟩
theorem fz_isRef {n d : String} {A : Nat → Prop} {s : State} {args : Array Value} (h : va_Zq Bundle.tN n d A s s.heap) : (Cond.isRef (.static Bundle.tN n d)).before args s = true := by
  have key : ∀ v : Value, v.isRef = true → va_Z Bundle.tN n d v A s s.heap → (Cond.isRef (.static Bundle.tN n d)).before args s = true := by
    intro v hv h
    obtain ⟨cf, kf, fi, f, a, cell, h1, h2, h3, h4, h5, h6, h7, -⟩ := h
    have he : (Term.static Bundle.tN n d).eval args s none [] s = some v := by
      simp [Term.eval, State.fieldNamed?, h1, h2, h4, h5, h6, h7]
    simp only [Cond.before, Cond.holds, Cond.value, he]
    cases v <;> simp_all [Value.isRef]
  rcases h with h | ⟨t, h⟩
  · exact key _ rfl h
  · exact key _ rfl h
theorem fz_lays {n d : String} {A : Nat → Prop} {s : State} {args : Array Value} (h : fz_L n d A s s.heap) : (Cond.laysStatic Bundle.tN n d).before args s = true := by
  obtain ⟨c, k, i, f, a, cell, h1, h2, h3, h4, h5, h6, h7, h8, h9, -⟩ := h
  exact Cond.laysStatic_of h1 h2 h3 h4 h5 h6 h7 h8 h9
/-- all words of a throw, where the tables' words and fz hold -/
theorem fx_words {ws : List Cond} (hin : ∀ w ∈ ws, w ∈ fx_hw ∨ w ∈ fx_tw ∨ w ∈ fw_T) {A : Nat → Prop} {s : State} {args : Array Value} (hts : ∀ w ∈ fw_T, w.before args s = true) (hz : fz A s s.heap) : ∀ w ∈ ws, w.before args s = true := by
  intro w hw
  rcases hin w hw with h | h | h
  · simp only [fx_hw, List.mem_cons, List.not_mem_nil, or_false] at h
    rcases h with rfl | rfl | rfl | rfl
    · exact fz_isRef hz.2.1.1
    · exact fz_isRef hz.2.2.1
    · exact fz_lays hz.2.1.2
    · exact fz_lays hz.2.2.2
  · have h1 := hz.1 w h
    simp only [fx_tw, List.mem_cons, List.not_mem_nil, or_false] at h
    rcases h with rfl | rfl | rfl | rfl | rfl | rfl | rfl <;> first | exact va_any rfl h1 | exact h1
  · exact hts w h

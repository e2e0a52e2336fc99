/-! The making of the objects: a machine that runs the constructors on a list of cells in the order of their making (cell i lies at b + i); it is a program, and one run of it is closed by the kernel. -/
abbrev ck_V : Type := Int32 ⊕ Option Nat
abbrev ck_C : Type := (Nat × List ck_V) ⊕ (Nat × Nat × List (Option Nat))
abbrev ck_L : Type := List (Option ck_V)
abbrev ck_S : Type := ck_L × List ck_V × List ck_C × Nat × Nat
def ck_g (b : Nat) (v : ck_V) : Value := match v with
  | .inl x => .int x
  | .inr none => .null
  | .inr (some i) => .ref (b + i)
def ck_ar (b t : Nat) (rs : List (Option Nat)) : (Nat → Int32) ⊕ (Nat → Int64) ⊕ (Nat → UInt32) ⊕ (Nat → UInt64) ⊕ (Nat → Option Nat) := if t = 0 ∨ t = 1 then .inl (fun _ => 0) else if t = 5 then .inr (.inl (fun _ => 0)) else .inr (.inr (.inr (.inr (fun i => (rs.getD i none).map (fun j => b + j)))))
def ck_e (b : Nat) (dA : Nat → ClassId) (c : ck_C) : va_E := match c with
  | .inl (ci, fs) => .inr (ci, fs.map (ck_g b))
  | .inr (t, n, rs) => .inl (dA t, n, ck_ar b t rs)
def ck_W (b : Nat) (dA : Nat → ClassId) (cs : List ck_C) : va_W := cs.mapIdx (fun i c => (b + i, ck_e b dA c))
theorem ck_W_at {b : Nat} {dA : Nat → ClassId} {cs : List ck_C} {i : Nat} {c : ck_C} (h : cs[i]? = some c) : (ck_W b dA cs)[i]? = some (b + i, ck_e b dA c) := by
  unfold ck_W
  rw [List.getElem?_mapIdx, h]
  rfl
theorem ck_W_inv {b : Nat} {dA : Nat → ClassId} {cs : List ck_C} {i : Nat} {q : Nat × va_E} (h : (ck_W b dA cs)[i]? = some q) : ∃ c, cs[i]? = some c ∧ q = (b + i, ck_e b dA c) := by
  unfold ck_W at h
  rw [List.getElem?_mapIdx] at h
  cases hc : cs[i]? with
  | none => rw [hc] at h; cases h
  | some c =>
    rw [hc] at h
    exact ⟨c, rfl, (Option.some.inj h).symm⟩
theorem ck_W_app {b : Nat} {dA : Nat → ClassId} {cs : List ck_C} {c : ck_C} : ck_W b dA (cs ++ [c]) = ck_W b dA cs ++ [(b + cs.length, ck_e b dA c)] := by
  simp [ck_W, List.mapIdx_append]
theorem ck_W_set {b : Nat} {dA : Nat → ClassId} {cs : List ck_C} {i : Nat} {c : ck_C} : (ck_W b dA cs).set i (b + i, ck_e b dA c) = ck_W b dA (cs.set i c) := by
  apply List.ext_getElem?
  intro j
  unfold ck_W
  rw [List.getElem?_set, List.getElem?_mapIdx, List.getElem?_mapIdx, List.getElem?_set]
  by_cases h : i = j
  · subst h
    rw [if_pos rfl, if_pos rfl]
    by_cases hl : i < cs.length
    · rw [if_pos (by simpa using hl), if_pos hl]
      rfl
    · rw [if_neg (by simpa using hl), if_neg hl]
      rfl
  · rw [if_neg h, if_neg h]
theorem ck_W_D {b : Nat} {dA : Nat → ClassId} {cs : List ck_C} : va_D (fun q => b ≤ q) (ck_W b dA cs) := by
  refine ⟨fun i j x y hx hy hxy => ?_, fun k q hq => ?_⟩
  · obtain ⟨c, -, rfl⟩ := ck_W_inv hx
    obtain ⟨c', -, rfl⟩ := ck_W_inv hy
    have : b + i = b + j := hxy
    omega
  · obtain ⟨c, -, rfl⟩ := ck_W_inv hq
    exact Nat.le_add_right _ _
-- the machine
def ck_fit (ty : FieldType) (v : ck_V) : Bool := match ty, v with
  | .int, .inl _ => true
  | .boolean, .inl x => x == 0 || x == 1
  | .object _, .inr (some _) => true
  | .array _, .inr (some _) => true
  | _, _ => false
def ck_ld (i : Nat) (lv : ck_L) (stk : List ck_V) (cs : List ck_C) (rc rs : Nat) (int : Bool) : Option ck_S := match lv[i]? with
  | some (some (.inl x)) => if int then some (lv, .inl x :: stk, cs, rc, rs) else none
  | some (some (.inr (some a))) => if int then none else some (lv, .inr (some a) :: stk, cs, rc, rs)
  | _ => none
def ck_gf (k idx : Nat) (lv : ck_L) (stk : List ck_V) (cs : List ck_C) (rc rs : Nat) : Option ck_S := match stk with
  | .inr (some a) :: r => (match cs[a]?, ck_fld k idx with
    | some (.inl (ci, fs)), some (ci', j) => if ci = ci' then (match fs[j]? with
      | some v => some (lv, v :: r, cs, rc, rs)
      | none => none) else none
    | _, _ => none)
  | _ => none
def ck_pf (k idx : Nat) (lv : ck_L) (stk : List ck_V) (cs : List ck_C) (rc rs : Nat) : Option ck_S := match stk with
  | v :: .inr (some a) :: r => (match cs[a]?, ck_ptf k idx with
    | some (.inl (ci, fs)), some (ci', j) => if ci = ci' ∧ j < fs.length ∧ ck_fit (ck_ty ci j) v = true then some (lv, r, cs.set a (.inl (ci, fs.set j v)), rc, rs) else none
    | _, _ => none)
  | _ => none
def ck_as (lv : ck_L) (stk : List ck_V) (cs : List ck_C) (rc rs : Nat) : Option ck_S := match stk with
  | .inr (some v) :: .inl i :: .inr (some a) :: r => (match cs[a]?, cs[v]? with
    | some (.inr (t, n, qs)), some (.inl (ci, _)) => if 2 ≤ t ∧ t ≤ 4 ∧ ck_el t = ci ∧ 0 ≤ i ∧ i.toNatClampNeg < n ∧ i.toNatClampNeg < qs.length then some (lv, r, cs.set a (.inr (t, n, qs.set i.toNatClampNeg (some v))), rc, rs) else none
    | _, _ => none)
  | _ => none
def ck_al (lv : ck_L) (stk : List ck_V) (cs : List ck_C) (rc rs : Nat) : Option ck_S := match stk with
  | .inl i :: .inr (some a) :: r => (match cs[a]? with
    | some (.inr (t, n, qs)) => if 2 ≤ t ∧ t ≤ 4 ∧ 0 ≤ i ∧ i.toNatClampNeg < n then (match qs[i.toNatClampNeg]? with
      | some (some v) => some (lv, .inr (some v) :: r, cs, rc, rs)
      | _ => none) else none
    | _ => none)
  | _ => none
def ck_at (a : ArrayType) : Option Nat := match a with
  | .int => some 0
  | .boolean => some 1
  | .long => some 5
  | _ => none
def ck_na (t : Nat) (refs : Bool) (lv : ck_L) (stk : List ck_V) (cs : List ck_C) (rc rs : Nat) : Option ck_S := match stk with
  | .inl n :: r => if 0 ≤ n ∧ n.toNatClampNeg ≤ 100000 ∧ 1 ≤ rc ∧ n.toNatClampNeg ≤ rs then some (lv, .inr (some cs.length) :: r, cs ++ [.inr (t, n.toNatClampNeg, if refs then List.replicate n.toNatClampNeg none else [])], rc - 1, rs - n.toNatClampNeg) else none
  | _ => none
def ck_ex (k : Nat) (ins : Instr) (lv : ck_L) (stk : List ck_V) (cs : List ck_C) (rc rs : Nat) : Option ck_S := match ins with
  | .iconst n => some (lv, .inl (Int32.ofInt n) :: stk, cs, rc, rs)
  | .bipush n => some (lv, .inl (Int8.ofInt n).toInt32 :: stk, cs, rc, rs)
  | .sipush n => some (lv, .inl (Int16.ofInt n).toInt32 :: stk, cs, rc, rs)
  | .iload_n i => ck_ld i.val lv stk cs rc rs true
  | .aload_n i => ck_ld i.val lv stk cs rc rs false
  | .istore_n i => (match stk with
    | .inl x :: r => if i.val < lv.length then some (lv.set i.val (some (.inl x)), r, cs, rc, rs) else none
    | _ => none)
  | .istore i => (match stk with
    | .inl x :: r => if i < lv.length then some (lv.set i (some (.inl x)), r, cs, rc, rs) else none
    | _ => none)
  | .astore_n i => (match stk with
    | .inr (some a) :: r => if i.val < lv.length then some (lv.set i.val (some (.inr (some a))), r, cs, rc, rs) else none
    | _ => none)
  | .iinc i n => (match lv[i]? with
    | some (some (.inl x)) => some (lv.set i (some (.inl (x + Int32.ofInt n))), stk, cs, rc, rs)
    | _ => none)
  | .dup => (match stk with
    | .inr (some a) :: r => some (lv, .inr (some a) :: .inr (some a) :: r, cs, rc, rs)
    | _ => none)
  | .new idx => (match ck_new k idx with
    | some ci => if 1 ≤ rc ∧ fw_n ci ≤ rs then some (lv, .inr (some cs.length) :: stk, cs ++ [.inl (ci, ck_def ci)], rc - 1, rs - fw_n ci) else none
    | none => none)
  | .newarray a => (match ck_at a with
    | some t => ck_na t false lv stk cs rc rs
    | none => none)
  | .anewarray idx => (match ck_anw k idx with
    | some t => ck_na t true lv stk cs rc rs
    | none => none)
  | .getfield idx => ck_gf k idx lv stk cs rc rs
  | .putfield idx => ck_pf k idx lv stk cs rc rs
  | .aastore => ck_as lv stk cs rc rs
  | .aaload => ck_al lv stk cs rc rs
  | _ => none
def ck_ln (ins : Instr) : Nat := match ins with
  | .bipush _ | .newarray _ | .istore _ => 2
  | .sipush _ | .iinc _ _ | .new _ | .anewarray _ | .getfield _ | .putfield _ => 3
  | _ => 1
def ck_isr (o : Option ck_V) : Bool := match o with
  | some (.inr (some _)) => true
  | _ => false
def ck_exec : Nat → Nat → Nat → ck_L → List ck_V → List ck_C → Nat → Nat → Option (List ck_C)
  | 0, _, _, _, _, _, _, _ => none
  | f + 1, k, pc, lv, stk, cs, rc, rs => match decode (ck_code k) pc with
    | .error _ => none
    | .ok (ins, len) => match ins with
      | .return_ => if len = 1 ∧ stk = [] then some cs else none
      | .goto off => if len = 3 ∧ 0 ≤ (pc : Int) + off then ck_exec f k ((pc : Int) + off).toNat lv stk cs rc rs else none
      | .if_icmp cd off => (match cd, stk with
        | .ge, .inl y :: .inl x :: r => if len = 3 ∧ 0 ≤ (pc : Int) + off then (if y ≤ x then ck_exec f k ((pc : Int) + off).toNat lv r cs rc rs else ck_exec f k (pc + 3) lv r cs rc rs) else none
        | _, _ => none)
      | .invokespecial idx => (match ck_inv k idx with
        | some none => (match stk with
          | .inr (some a) :: r => if len = 3 ∧ r.length ≤ 8 then ck_exec f k (pc + 3) lv r cs rc rs else none
          | _ => none)
        | some (some (k2, n)) => if len = 3 ∧ n + 1 ≤ stk.length ∧ (stk.drop (n + 1)).length ≤ 8 ∧ ck_mc k2 ≤ rc ∧ ck_ms k2 ≤ rs ∧ n + 1 ≤ ck_mL k2 ∧ ck_isr (stk.take (n + 1)).reverse.head? = true then
            (match ck_exec f k2 0 ((stk.take (n + 1)).reverse.map some ++ List.replicate (ck_mL k2 - (n + 1)) none) [] cs (ck_mc k2) (ck_ms k2) with
            | some cs2 => if cs2.length = cs.length + ck_mc k2 then ck_exec f k (pc + 3) lv (stk.drop (n + 1)) cs2 (rc - ck_mc k2) (rs - ck_ms k2) else none
            | none => none) else none
        | none => none)
      | ins => if len = ck_ln ins then (match ck_ex k ins lv stk cs rc rs with
        | some (lv', stk', cs', rc', rs') => ck_exec f k (pc + len) lv' stk' cs' rc' rs'
        | none => none) else none

/-! A small machine over a store of numbers: what a method's bytecode does to the class's and the reference's cells, as a predicate transformer. -/
abbrev am_V : Type := Int32 ⊕ Nat ⊕ Int64
abbrev am_S : Type := Nat → Nat → Int32
abbrev am_L : Type := List (Option am_V)
abbrev am_K : Type := Nat → am_L → List am_V → am_S → Prop
abbrev am_P : Type := (Option am_V) ⊕ Nat → am_S → Prop
abbrev am_Wp : Type := List am_V → am_S → am_P → Prop
/-- what the pool of a class says: fields (class, place), callees (number of values taken, the receiver's class, what it does), exceptions, constants, the law's script, places where a walk may be left -/
abbrev am_G : Type := (Nat → Option (Nat × Nat)) × (Nat → Option (Nat × Option Nat × am_Wp)) × (Nat → Nat → Option Nat) × (Nat → Option Int32) × Option (Nat × (Nat → Int32)) × am_K
def am_g (lay : Nat → Nat) (v : am_V) : Value := match v with
  | .inl x => .int x
  | .inr (.inl o) => .ref (lay o)
  | .inr (.inr z) => .long z
def am_one (v : am_V) : Bool := match v with
  | .inr (.inr _) => false
  | _ => true
def am_rm (r : List am_V) : Bool := r.all am_one && r.length ≤ 8
def am_up (st : am_S) (b i : Nat) (v : Int32) : am_S := fun b' i' => if b' = b ∧ i' = i then v else st b' i'
theorem am_up_eq {st : am_S} {b i : Nat} {v : Int32} : am_up st b i v b i = v := by simp [am_up]
theorem am_up_ne {st : am_S} {b i b' i' : Nat} {v : Int32} (h : ¬ (b' = b ∧ i' = i)) : am_up st b i v b' i' = st b' i' := by simp [am_up, h]
theorem am_up_bank {st : am_S} {b i b' : Nat} {v : Int32} (h : ¬ b' = b) : am_up st b i v b' = st b' := by
  funext i'
  exact am_up_ne (fun q => h q.1)
theorem am_up_upd {st : am_S} {b i : Nat} {v : Int32} : am_up st b i v b = upd (st b) i v := by
  funext j
  by_cases h : j = i
  · subst h
    simp [am_up, upd]
  · simp [am_up, upd, h]
-- straight instructions: what becomes of locals and operands
def am_b2 (f : Int32 → Int32 → Int32) (lv : am_L) (stk : List am_V) : Option (am_L × List am_V) := match stk with
  | .inl y :: .inl x :: r => some (lv, .inl (f x y) :: r)
  | _ => none
def am_u1 (f : Int32 → Int32) (lv : am_L) (stk : List am_V) : Option (am_L × List am_V) := match stk with
  | .inl x :: r => some (lv, .inl (f x) :: r)
  | _ => none
def am_ldi (i : Nat) (lv : am_L) (stk : List am_V) : Option (am_L × List am_V) := match lv[i]? with
  | some (some (.inl x)) => some (lv, .inl x :: stk)
  | _ => none
def am_lda (i : Nat) (lv : am_L) (stk : List am_V) : Option (am_L × List am_V) := match lv[i]? with
  | some (some (.inr (.inl o))) => some (lv, .inr (.inl o) :: stk)
  | _ => none
def am_sti (i : Nat) (lv : am_L) (stk : List am_V) : Option (am_L × List am_V) := match stk with
  | .inl x :: r => if i < lv.length then some (lv.set i (some (.inl x)), r) else none
  | _ => none
def am_sta (i : Nat) (lv : am_L) (stk : List am_V) : Option (am_L × List am_V) := match stk with
  | .inr (.inl o) :: r => if i < lv.length then some (lv.set i (some (.inr (.inl o))), r) else none
  | _ => none
def am_inc (i : Nat) (n : Int) (lv : am_L) (stk : List am_V) : Option (am_L × List am_V) := match lv[i]? with
  | some (some (.inl x)) => some (lv.set i (some (.inl (x + Int32.ofInt n))), stk)
  | _ => none
def am_dup (lv : am_L) (stk : List am_V) : Option (am_L × List am_V) := match stk with
  | v :: r => if am_one v then some (lv, v :: v :: r) else none
  | _ => none
def am_pop (lv : am_L) (stk : List am_V) : Option (am_L × List am_V) := match stk with
  | v :: r => if am_one v then some (lv, r) else none
  | _ => none
def am_dx1 (lv : am_L) (stk : List am_V) : Option (am_L × List am_V) := match stk with
  | v :: w :: r => if am_one v && am_one w then some (lv, v :: w :: v :: r) else none
  | _ => none
def am_dx2 (lv : am_L) (stk : List am_V) : Option (am_L × List am_V) := match stk with
  | v :: w :: u :: r => if am_one v && am_one w && am_one u then some (lv, v :: w :: u :: v :: r) else none
  | _ => none
def am_du2 (lv : am_L) (stk : List am_V) : Option (am_L × List am_V) := match stk with
  | v :: w :: r => if am_one v && am_one w then some (lv, v :: w :: v :: w :: r) else none
  | _ => none
def am_i2l (lv : am_L) (stk : List am_V) : Option (am_L × List am_V) := match stk with
  | .inl x :: r => some (lv, .inr (.inr x.toInt64) :: r)
  | _ => none
def am_lcm (lv : am_L) (stk : List am_V) : Option (am_L × List am_V) := match stk with
  | .inr (.inr y) :: .inr (.inr x) :: r => some (lv, .inl (lg_cmp x y) :: r)
  | _ => none
def am_ex (ins : Instr) (lv : am_L) (stk : List am_V) : Option (am_L × List am_V) := match ins with
  | .iconst n => some (lv, .inl (Int32.ofInt n) :: stk)
  | .bipush n => some (lv, .inl (Int8.ofInt n).toInt32 :: stk)
  | .sipush n => some (lv, .inl (Int16.ofInt n).toInt32 :: stk)
  | .iload_n i => am_ldi i.val lv stk
  | .iload i => am_ldi i lv stk
  | .aload_n i => am_lda i.val lv stk
  | .aload i => am_lda i lv stk
  | .istore_n i => am_sti i.val lv stk
  | .istore i => am_sti i lv stk
  | .astore_n i => am_sta i.val lv stk
  | .astore i => am_sta i lv stk
  | .iinc i n => am_inc i n lv stk
  | .iadd => am_b2 (fun x y => x + y) lv stk
  | .isub => am_b2 (fun x y => x - y) lv stk
  | .imul => am_b2 (fun x y => x * y) lv stk
  | .iand => am_b2 (fun x y => x &&& y) lv stk
  | .ior => am_b2 (fun x y => x ||| y) lv stk
  | .ixor => am_b2 (fun x y => x ^^^ y) lv stk
  | .ishl => am_b2 (fun x y => x <<< (y &&& 31)) lv stk
  | .ishr => am_b2 (fun x y => x >>> (y &&& 31)) lv stk
  | .iushr => am_b2 (fun x y => (x.toUInt32 >>> (y.toUInt32 &&& Int32.toUInt32 31)).toInt32) lv stk
  | .ineg => am_u1 (fun x => -x) lv stk
  | .i2b => am_u1 (fun x => x.toInt8.toInt32) lv stk
  | .i2s => am_u1 (fun x => x.toInt16.toInt32) lv stk
  | .i2l => am_i2l lv stk
  | .lconst n => some (lv, .inr (.inr (Int64.ofNat n.val)) :: stk)
  | .lcmp => am_lcm lv stk
  | .dup => am_dup lv stk
  | .pop => am_pop lv stk
  | .dup_x1 => am_dx1 lv stk
  | .dup_x2 => am_dx2 lv stk
  | .dup2 => am_du2 lv stk
  | _ => none
/-- how long a straight instruction is -/
def am_ln (ins : Instr) : Nat := match ins with
  | .bipush _ | .iload _ | .aload _ | .istore _ | .astore _ => 2
  | .sipush _ | .iinc _ _ => 3
  | _ => 1
def am_c1 (cd : Jvm.ClassFile.Cond) (x : Int32) : Prop × Prop := match cd with
  | .eq => (x = 0, ¬ x = 0)
  | .ne => (¬ x = 0, x = 0)
  | .lt => (x < 0, ¬ x < 0)
  | .ge => (0 ≤ x, ¬ 0 ≤ x)
  | .gt => (0 < x, ¬ 0 < x)
  | .le => (x ≤ 0, ¬ x ≤ 0)
def am_c2 (cd : Jvm.ClassFile.Cond) (x y : Int32) : Prop × Prop := match cd with
  | .eq => (x = y, ¬ x = y)
  | .ne => (¬ x = y, x = y)
  | .lt => (x < y, ¬ x < y)
  | .ge => (y ≤ x, ¬ y ≤ x)
  | .gt => (y < x, ¬ y < x)
  | .le => (x ≤ y, ¬ x ≤ y)
def am_br (ins : Instr) (stk : List am_V) : Option ((Prop × Prop) × List am_V × Int) := match ins with
  | .ifCond cd off => (match stk with
    | .inl x :: r => some (am_c1 cd x, r, off)
    | _ => none)
  | .if_icmp cd off => (match stk with
    | .inl y :: .inl x :: r => some (am_c2 cd x y, r, off)
    | _ => none)
  | _ => none
def am_dv (ins : Instr) (x y : Int32) : Option Int32 := match ins with
  | .idiv => some (x / y)
  | .irem => some (x - x / y * y)
  | _ => none
def am_iv (ins : Instr) (rc : Option Nat) : Option Nat := match ins, rc with
  | .invokevirtual i, some _ => some i
  | .invokestatic i, none => some i
  | _, _ => none
def am_rt (ins : Instr) (stk : List am_V) : Option (Option am_V) := match ins with
  | .ireturn => (match stk with
    | [.inl x] => some (some (.inl x))
    | _ => none)
  | .areturn => (match stk with
    | [.inr (.inl o)] => some (some (.inr (.inl o)))
    | _ => none)
  | .return_ => (match stk with
    | [] => some none
    | _ => none)
  | _ => none
def am_ok (ret : Option FieldType) (o : (Option am_V) ⊕ Nat) : Prop := match ret, o with
  | some .boolean, .inl (some (.inl x)) => x = 0 ∨ x = 1
  | some .int, .inl (some (.inl _)) => True
  | some (.object _), .inl (some (.inr (.inl _))) => True
  | none, .inl none => True
  | _, .inr _ => True
  | _, _ => False

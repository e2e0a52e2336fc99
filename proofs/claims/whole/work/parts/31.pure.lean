/-! Int32 and the store: small lemmas of the pure part. -/
theorem vp_of {i : Int32} {n : Nat} (h1 : 0 ≤ i.toInt) (h2 : i.toInt < (n : Int)) : vp_in i n := by
  rintro (h | h)
  · rw [Int32.lt_iff_toInt_lt] at h
    have : (0 : Int32).toInt = 0 := rfl
    omega
  · have e : i.toNatClampNeg = i.toInt.toNat := rfl
    omega
theorem nn_eq {i : Int32} : i.toNatClampNeg = i.toInt.toNat := rfl
theorem zI_toInt {z : Int} (h1 : -2147483648 ≤ z) (h2 : z < 2147483648) : (Int32.ofInt z).toInt = z := Int32.toInt_ofInt_of_le (by simpa using h1) (by simpa using h2)
theorem zI_of (x : Int32) : Int32.ofInt x.toInt = x := Int32.ofInt_toInt x
theorem zI_add {a b : Int} : Int32.ofInt a + Int32.ofInt b = Int32.ofInt (a + b) := (Int32.ofInt_add a b).symm
theorem zI_sub {a b : Int} : Int32.ofInt a - Int32.ofInt b = Int32.ofInt (a - b) := (Int32.ofInt_sub a b).symm
theorem zI_mul {a b : Int} : Int32.ofInt a * Int32.ofInt b = Int32.ofInt (a * b) := (Int32.ofInt_mul a b).symm
theorem i32_add {x y : Int32} (h1 : -2147483648 ≤ x.toInt + y.toInt) (h2 : x.toInt + y.toInt < 2147483648) : (x + y).toInt = x.toInt + y.toInt := by
  rw [Int32.toInt_add]
  exact Int.bmod_eq_of_le (by omega) (by omega)
theorem i32_sub {x y : Int32} (h1 : -2147483648 ≤ x.toInt - y.toInt) (h2 : x.toInt - y.toInt < 2147483648) : (x - y).toInt = x.toInt - y.toInt := by
  rw [Int32.toInt_sub]
  exact Int.bmod_eq_of_le (by omega) (by omega)
theorem i32_mul {x y : Int32} (h1 : -2147483648 ≤ x.toInt * y.toInt) (h2 : x.toInt * y.toInt < 2147483648) : (x * y).toInt = x.toInt * y.toInt := by
  rw [Int32.toInt_mul]
  exact Int.bmod_eq_of_le (by omega) (by omega)
theorem i32_lt {x y : Int32} : x < y ↔ x.toInt < y.toInt := Int32.lt_iff_toInt_lt
theorem i32_le {x y : Int32} : x ≤ y ↔ x.toInt ≤ y.toInt := Int32.le_iff_toInt_le
theorem i32_eq {x y : Int32} : x = y ↔ x.toInt = y.toInt := Int32.toInt_inj.symm
theorem i32_rg (x : Int32) : -2147483648 ≤ x.toInt ∧ x.toInt < 2147483648 := ⟨Int32.le_toInt x, Int32.toInt_lt x⟩
theorem b01 {P : Prop} [Decidable P] : ((if P then (1 : Int32) else 0) = 0) ↔ ¬ P := by
  by_cases h : P <;> simp [h]
theorem b10 {P : Prop} [Decidable P] : ((if P then (0 : Int32) else 1) = 0) ↔ P := by
  by_cases h : P <;> simp [h]
theorem b11 {P : Prop} [Decidable P] : ((if P then (1 : Int32) else 0) = 1) ↔ P := by
  by_cases h : P <;> simp [h]
/-- an end with an int, or with a throw of the kind n -/
def am_kt (f : Int32 → am_S → Prop) (g : Nat → am_S → Prop) : am_P := fun o st => match o with
  | .inl (some (.inl x)) => f x st
  | .inr n => g n st
  | _ => False
section KT
variable {cc : ByteArray} {G : am_G} {pc : Nat} {lv : am_L} {st : am_S} {f : Int32 → am_S → Prop} {g : Nat → am_S → Prop} {x : Int32} {ik ic n : Nat}
theorem r_ti (hd : decode cc pc = .ok (.ireturn, 1)) (h : f x st) : am_AW cc G (fun o st' => am_ok (some .int) o ∧ am_kt f g o st') pc lv [.inl x] st := am_r hd rfl ⟨trivial, h⟩
theorem r_tz (hd : decode cc pc = .ok (.ireturn, 1)) (hx : x = 0 ∨ x = 1) (h : f x st) : am_AW cc G (fun o st' => am_ok (some .boolean) o ∧ am_kt f g o st') pc lv [.inl x] st := am_r hd rfl ⟨hx, h⟩
theorem r_tti (d0 : decode cc pc = .ok (.new ik, 3)) (d3 : decode cc (pc + 3) = .ok (.dup, 1)) (d4 : decode cc (pc + 4) = .ok (.invokespecial ic, 3)) (d7 : decode cc (pc + 7) = .ok (.athrow, 1)) (hG : G.2.2.1 ik ic = some n) (h : g n st) : am_AW cc G (fun o st' => am_ok (some .int) o ∧ am_kt f g o st') pc lv [] st := am_th d0 d3 d4 d7 hG ⟨trivial, h⟩
theorem r_ttz (d0 : decode cc pc = .ok (.new ik, 3)) (d3 : decode cc (pc + 3) = .ok (.dup, 1)) (d4 : decode cc (pc + 4) = .ok (.invokespecial ic, 3)) (d7 : decode cc (pc + 7) = .ok (.athrow, 1)) (hG : G.2.2.1 ik ic = some n) (h : g n st) : am_AW cc G (fun o st' => am_ok (some .boolean) o ∧ am_kt f g o st') pc lv [] st := am_th d0 d3 d4 d7 hG ⟨trivial, h⟩
end KT
theorem i32_bm (x : Int) : Int.bmod x (2 ^ 32) = (x + 2147483648) % 4294967296 - 2147483648 := by
  rw [Int.bmod_def]
  split <;> omega
theorem i32_addw {x y : Int32} : (x + y).toInt = (x.toInt + y.toInt + 2147483648) % 4294967296 - 2147483648 := by rw [Int32.toInt_add]; exact i32_bm _
theorem i32_subw {x y : Int32} : (x - y).toInt = (x.toInt - y.toInt + 2147483648) % 4294967296 - 2147483648 := by rw [Int32.toInt_sub]; exact i32_bm _
theorem i32_mulw {x y : Int32} : (x * y).toInt = (x.toInt * y.toInt + 2147483648) % 4294967296 - 2147483648 := by rw [Int32.toInt_mul]; exact i32_bm _
/-- n cells of a bank from lo on, all set to v -/
def am_fill (st : am_S) (b lo n : Nat) (v : Int32) : am_S := fun b' i' => if b' = b ∧ lo ≤ i' ∧ i' < lo + n then v else st b' i'
theorem am_fill_zero {st : am_S} {b lo : Nat} {v : Int32} : am_fill st b lo 0 v = st := by
  funext b' i'
  unfold am_fill
  rw [if_neg (by omega)]
theorem am_fill_step {st : am_S} {b i j d : Nat} {v : Int32} (hj : j = i + 1) : am_fill (am_up st b i v) b j d v = am_fill st b i (d + 1) v := by
  subst hj
  funext b' i'
  unfold am_fill am_up
  by_cases h1 : b' = b ∧ i + 1 ≤ i' ∧ i' < i + 1 + d
  · rw [if_pos h1, if_pos (by omega)]
  · rw [if_neg h1]
    by_cases h2 : b' = b ∧ i' = i
    · rw [if_pos h2, if_pos (by omega)]
    · rw [if_neg h2, if_neg (by omega)]
theorem am_fill_bank {st : am_S} {b b' lo n : Nat} {v : Int32} (h : ¬ b' = b) : am_fill st b lo n v b' = st b' := by
  funext i
  unfold am_fill
  rw [if_neg (fun q => h q.1)]

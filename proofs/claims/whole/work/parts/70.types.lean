/-! Rows of types, two bits each: what the class's three operations on them do, type by type. -/
def ty_at (r k : Int32) : Int32 := r >>> ((2 * k) &&& 31) &&& 3
def ty_with (r k v : Int32) : Int32 := r &&& (3 <<< ((2 * k) &&& 31) ^^^ -1) ||| v <<< ((2 * k) &&& 31)
def ty_com (r o : Int32) : Int32 := r &&& ((((r ^^^ o) ||| (r ^^^ o) >>> ((1 : Int32) &&& 31)) &&& 21845 ||| (((r ^^^ o) ||| (r ^^^ o) >>> ((1 : Int32) &&& 31)) &&& 21845) <<< ((1 : Int32) &&& 31)) ^^^ -1)
def bt (x : Int32) (i : Nat) : Bool := x.toBitVec.getLsbD i
def dg (r : Int32) (k : Nat) : Bool × Bool := (bt r (2 * k), bt r (2 * k + 1))
def dv (p : Bool × Bool) : Int32 := match p with
  | (false, false) => 0
  | (true, false) => 1
  | (false, true) => 2
  | (true, true) => 3
theorem dv_inj {p q : Bool × Bool} (h : dv p = dv q) : p = q := by
  revert h
  rcases p with ⟨_ | _, _ | _⟩ <;> rcases q with ⟨_ | _, _ | _⟩ <;> decide
theorem bt_ext {x y : Int32} (h : ∀ i, i < 32 → bt x i = bt y i) : x = y := by
  have : x.toBitVec = y.toBitVec := BitVec.eq_of_getLsbD_eq h
  exact Int32.toBitVec_inj.mp this
theorem bt_and {x y : Int32} {i : Nat} : bt (x &&& y) i = (bt x i && bt y i) := by simp [bt]
theorem bt_or {x y : Int32} {i : Nat} : bt (x ||| y) i = (bt x i || bt y i) := by simp [bt]
theorem bt_xor {x y : Int32} {i : Nat} : bt (x ^^^ y) i = (bt x i ^^ bt y i) := by simp [bt]
theorem bt_mask : ∀ k : Fin 16, ∀ i : Fin 32, bt (3 <<< ((2 * nI k.val) &&& 31) ^^^ -1) i.val = !(decide (2 * k.val ≤ i.val) && decide (i.val < 2 * k.val + 2)) := by decide +kernel
theorem bt_val : ∀ k : Fin 16, ∀ v : Fin 4, ∀ i : Fin 32, bt (nI v.val <<< ((2 * nI k.val) &&& 31)) i.val = (decide (2 * k.val ≤ i.val) && bt (nI v.val) (i.val - 2 * k.val)) := by decide +kernel
theorem bt_v2 : ∀ v : Fin 4, ∀ i : Fin 32, 2 ≤ i.val → bt (nI v.val) i.val = false := by decide +kernel
theorem bt_3 : ∀ i : Fin 32, bt 3 i.val = decide (i.val < 2) := by decide +kernel
theorem bt_m1 : ∀ i : Fin 32, bt (-1) i.val = true := by decide +kernel
theorem bt_5 : ∀ i : Fin 32, bt 21845 i.val = (decide (i.val < 16) && decide (i.val % 2 = 0)) := by decide +kernel
theorem sh_k : ∀ k : Fin 16, ((2 * nI k.val) &&& 31).toBitVec.smod 32 = BitVec.ofNat 32 (2 * k.val) := by decide +kernel
theorem bt_shr {x : Int32} {k i : Nat} (hk : k < 16) (hi : 2 * k + i < 32) : bt (x >>> ((2 * nI k) &&& 31)) i = bt x (2 * k + i) := by
  have e := sh_k ⟨k, hk⟩
  unfold bt
  rw [Int32.toBitVec_shiftRight]
  simp only at e
  rw [e]
  simp [BitVec.sshiftRight', BitVec.getLsbD_sshiftRight]
  have e2 : 2 * k % 4294967296 = 2 * k := by omega
  rw [e2]
  simp [hi]
  omega
theorem bt_sh1 {x : Int32} {i : Nat} (hi : 1 + i < 32) : bt (x >>> ((1 : Int32) &&& 31)) i = bt x (1 + i) := by
  have e : ((1 : Int32) &&& 31).toBitVec.smod 32 = BitVec.ofNat 32 1 := by decide
  unfold bt
  rw [Int32.toBitVec_shiftRight, e]
  simp [BitVec.sshiftRight', BitVec.getLsbD_sshiftRight, hi]
  omega
theorem bt_sl1 {x : Int32} {i : Nat} (hi : i < 32) : bt (x <<< ((1 : Int32) &&& 31)) i = (decide (1 ≤ i) && bt x (i - 1)) := by
  have e : ((1 : Int32) &&& 31).toBitVec.smod 32 = BitVec.ofNat 32 1 := by decide
  unfold bt
  rw [Int32.toBitVec_shiftLeft, e]
  simp [BitVec.shiftLeft_eq', BitVec.getLsbD_shiftLeft, hi]
  rcases i with _ | i
  · simp
  · simp [BitVec.getLsbD_eq_getElem (show i < 32 by omega)]
theorem at_dv {r : Int32} {k : Nat} (hk : k < 16) : ty_at r (nI k) = dv (dg r k) := by
  have h0 := @bt_shr r k 0 hk (by omega)
  have h1 := @bt_shr r k 1 hk (by omega)
  have hb : ∀ a b : Bool, ∀ i : Fin 32, bt (dv (a, b)) i.val = if i.val = 0 then a else if i.val = 1 then b else false := by decide +kernel
  refine bt_ext fun i hi => ?_
  unfold dg
  rw [hb _ _ ⟨i, hi⟩]
  unfold ty_at
  rw [bt_and, bt_3 ⟨i, hi⟩]
  rcases i with _ | _ | i
  · simp [h0]
  · simp [h1]
  · simp
theorem dg_with {r : Int32} {k j v : Nat} (hk : k < 16) (hj : j < 16) (hv : v < 4) : dg (ty_with r (nI k) (nI v)) j = if j = k then (bt (nI v) 0, bt (nI v) 1) else dg r j := by
  have key : ∀ i, i < 32 → bt (ty_with r (nI k) (nI v)) i = if 2 * k ≤ i ∧ i < 2 * k + 2 then bt (nI v) (i - 2 * k) else bt r i := by
    intro i hi
    unfold ty_with
    rw [bt_or, bt_and, bt_mask ⟨k, hk⟩ ⟨i, hi⟩, bt_val ⟨k, hk⟩ ⟨v, hv⟩ ⟨i, hi⟩]
    by_cases h1 : 2 * k ≤ i
    · by_cases h2 : i < 2 * k + 2
      · simp [h1, h2]
      · have := bt_v2 ⟨v, hv⟩ ⟨i - 2 * k, by omega⟩ (by simp only; omega)
        simp only at this
        simp [h1, h2, this]
    · simp [h1]
  unfold dg
  rw [key _ (by omega), key _ (by omega)]
  by_cases h : j = k
  · subst h
    simp
  · rw [if_neg h, if_neg (by omega), if_neg (by omega)]
theorem dg_com {r o : Int32} {j : Nat} (hj : j < 8) : dg (ty_com r o) j = if dg r j = dg o j then dg r j else (false, false) := by
  have e0 : bt (ty_com r o) (2 * j) = (bt r (2 * j) && !((bt r (2 * j) ^^ bt o (2 * j)) || (bt r (2 * j + 1) ^^ bt o (2 * j + 1)))) := by
    unfold ty_com
    rw [bt_and, bt_xor, bt_or, bt_and, bt_or, bt_xor, bt_sl1 (by omega), bt_sh1 (by omega), bt_xor, bt_m1 ⟨2 * j, by omega⟩, bt_5 ⟨2 * j, by omega⟩, bt_and]
    have e1 : 1 + 2 * j = 2 * j + 1 := by omega
    rw [e1]
    by_cases hz : j = 0
    · subst hz
      simp
    · rw [bt_5 ⟨2 * j - 1, by omega⟩]
      have : ¬ (2 * j - 1) % 2 = 0 := by omega
      have h16 : 2 * j < 16 := by omega
      simp [this, h16]
  have e1 : bt (ty_com r o) (2 * j + 1) = (bt r (2 * j + 1) && !((bt r (2 * j) ^^ bt o (2 * j)) || (bt r (2 * j + 1) ^^ bt o (2 * j + 1)))) := by
    unfold ty_com
    rw [bt_and, bt_xor, bt_or, bt_and, bt_sl1 (by omega), bt_and, bt_m1 ⟨2 * j + 1, by omega⟩, bt_5 ⟨2 * j + 1, by omega⟩]
    have e1 : 2 * j + 1 - 1 = 2 * j := by omega
    have e3 : bt (r ^^^ o ||| (r ^^^ o) >>> ((1 : Int32) &&& 31)) (2 * j) = ((bt r (2 * j) ^^ bt o (2 * j)) || (bt r (2 * j + 1) ^^ bt o (2 * j + 1))) := by
      have e2 : 1 + 2 * j = 2 * j + 1 := by omega
      rw [bt_or, bt_xor, bt_sh1 (by omega), bt_xor, e2]
    rw [e1, bt_5 ⟨2 * j, by omega⟩, e3]
    have : ¬ (2 * j + 1) % 2 = 0 := by omega
    have h16 : 2 * j < 16 := by omega
    simp [this, h16]
  unfold dg
  rw [e0, e1]
  cases bt r (2 * j) <;> cases bt r (2 * j + 1) <;> cases bt o (2 * j) <;> cases bt o (2 * j + 1) <;> rfl
theorem dg_ext {r o : Int32} (h : ∀ j, j < 16 → dg r j = dg o j) : r = o := by
  refine bt_ext fun i hi => ?_
  have := h (i / 2) (by omega)
  unfold dg at this
  rw [Prod.mk.injEq] at this
  rcases Nat.mod_two_eq_zero_or_one i with e | e
  · have e2 : 2 * (i / 2) = i := by omega
    rw [← e2]
    exact this.1
  · have e2 : 2 * (i / 2) + 1 = i := by omega
    rw [← e2]
    exact this.2
theorem at_eq {r o : Int32} {j : Nat} (hj : j < 16) : ty_at r (nI j) = ty_at o (nI j) ↔ dg r j = dg o j := by
  rw [at_dv hj, at_dv hj]
  exact ⟨dv_inj, fun h => by rw [h]⟩
theorem at_ext {r o : Int32} (h : ∀ j, j < 16 → ty_at r (nI j) = ty_at o (nI j)) : r = o := dg_ext fun j hj => (at_eq hj).mp (h j hj)
theorem at_with_eq {r : Int32} {k v : Nat} (hk : k < 16) (hv : v < 4) : ty_at (ty_with r (nI k) (nI v)) (nI k) = nI v := by
  rw [at_dv hk, dg_with hk hk hv, if_pos rfl]
  have : ∀ v : Fin 4, dv (bt (nI v.val) 0, bt (nI v.val) 1) = nI v.val := by decide +kernel
  exact this ⟨v, hv⟩
theorem at_with_ne {r : Int32} {k j v : Nat} (hk : k < 16) (hj : j < 16) (hv : v < 4) (h : ¬ j = k) : ty_at (ty_with r (nI k) (nI v)) (nI j) = ty_at r (nI j) := by
  rw [at_dv hj, dg_with hk hj hv, if_neg h, at_dv hj]
theorem at_com {r o : Int32} {j : Nat} (hj : j < 8) : ty_at (ty_com r o) (nI j) = if ty_at r (nI j) = ty_at o (nI j) then ty_at r (nI j) else 0 := by
  rw [at_dv (by omega : j < 16), dg_com hj]
  by_cases h : dg r j = dg o j
  · rw [if_pos h, if_pos ((at_eq (by omega)).mpr h), at_dv (by omega)]
  · rw [if_neg h, if_neg (fun q => h ((at_eq (by omega)).mp q))]
    rfl
theorem at_com_hi {r o : Int32} {j : Nat} (hj : j < 16) (h8 : 8 ≤ j) : ty_at (ty_com r o) (nI j) = ty_at r (nI j) := by
  have hb : ∀ i, i < 32 → 16 ≤ i → bt (ty_com r o) i = bt r i := by
    intro i hi h16
    unfold ty_com
    rw [bt_and, bt_xor, bt_or, bt_and, bt_sl1 hi, bt_and, bt_m1 ⟨i, hi⟩, bt_5 ⟨i, hi⟩, bt_5 ⟨i - 1, by omega⟩]
    have e1 : ¬ i < 16 := by omega
    by_cases e2 : i - 1 < 16
    · have e3 : ¬ (i - 1) % 2 = 0 := by omega
      simp [e1, e2, e3]
    · simp [e1, e2]
  rw [at_eq hj]
  unfold dg
  rw [hb _ (by omega) (by omega), hb _ (by omega) (by omega)]
theorem at_lt {r : Int32} {j : Nat} (hj : j < 16) : ty_at r (nI j) = 0 ∨ ty_at r (nI j) = 1 ∨ ty_at r (nI j) = 2 ∨ ty_at r (nI j) = 3 := by
  rw [at_dv hj]
  rcases dg r j with ⟨_ | _, _ | _⟩ <;> simp [dv]
theorem at_zero {j : Nat} (hj : j < 16) : ty_at 0 (nI j) = 0 := by
  have : ∀ j : Fin 16, ty_at 0 (nI j.val) = 0 := by decide +kernel
  exact this ⟨j, hj⟩

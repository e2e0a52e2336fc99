/-! The program as both sides hold it: P 0 bytes, 1 begin, 2 length, 3 arguments, 4 locals, 5 height, 6 gives, 7 handlers, 8 from, 9 to, 10 target, 11 kind (8 to 11 at 4 m + k), P 12 0 methods, P 13 0 bytes fed. -/
def am_md (S : Nat → Bool) (s t : am_S) : Prop := ∀ b, S b = false → t b = s b
theorem md_refl {S : Nat → Bool} {s : am_S} : am_md S s s := fun _ _ => rfl
theorem md_up {S : Nat → Bool} {s t : am_S} {b i : Nat} {v : Int32} (h : am_md S s t) (hb : S b = true) : am_md S s (am_up t b i v) := by
  intro b' h'
  rw [am_up_bank, h b' h']
  intro q
  rw [q, hb] at h'
  cases h'
theorem md_fill {S : Nat → Bool} {s t : am_S} {b i n : Nat} {v : Int32} (h : am_md S s t) (hb : S b = true) : am_md S s (am_fill t b i n v) := by
  intro b' h'
  rw [am_fill_bank, h b' h']
  intro q
  rw [q, hb] at h'
  cases h'
theorem md_trans {S : Nat → Bool} {s t u : am_S} (h : am_md S s t) (h' : am_md S t u) : am_md S s u := fun b hb => (h' b hb).trans (h b hb)
/-- banks that the class's verify may write -/
def cV (b : Nat) : Bool := (2131 ≤ b && b ≤ 2136) || (192 ≤ b && b ≤ 195) || (455 ≤ b && b ≤ 458)
/-- banks that the reference's verify may write -/
def mV (b : Nat) : Bool := (2154 ≤ b && b ≤ 2158) || (598 ≤ b && b ≤ 600)
def PC (st P : am_S) : Prop := (st 2129 = P 0 ∧ st 67 = P 1 ∧ st 68 = P 2 ∧ st 69 = P 3 ∧ st 70 = P 4 ∧ st 71 = P 5 ∧ st 72 = P 6) ∧ (st 66 = P 7 ∧ st 128 = P 8 ∧ st 129 = P 9 ∧ st 130 = P 10 ∧ st 131 = P 11 ∧ st 323 = P 12 ∧ st 322 = P 13)
def nM (P : am_S) : Nat := (P 12 0).toInt.toNat
def PM (st P : am_S) : Prop := (st 2142 = P 0 ∧ (∀ m, m < nM P → st 2143 m = P 1 m) ∧ st 2144 = P 2 ∧ st 2145 = P 3 ∧ st 2146 = P 4 ∧ st 2147 = P 5 ∧ st 2148 = P 6) ∧ (st 2149 = P 7 ∧ st 2150 = P 8 ∧ st 2151 = P 9 ∧ st 2152 = P 10 ∧ st 2153 = P 11 ∧ st 579 = P 12 ∧ st 577 = P 13)
theorem pc_of {s t P : am_S} (h : PC s P) (hm : am_md cV s t) : PC t P := by
  unfold PC at *
  rw [hm 2129 rfl, hm 67 rfl, hm 68 rfl, hm 69 rfl, hm 70 rfl, hm 71 rfl, hm 72 rfl, hm 66 rfl, hm 128 rfl, hm 129 rfl, hm 130 rfl, hm 131 rfl, hm 323 rfl, hm 322 rfl]
  exact h
theorem pm_of {s t P : am_S} (h : PM s P) (hm : am_md mV s t) : PM t P := by
  unfold PM at *
  rw [hm 2142 rfl, hm 2143 rfl, hm 2144 rfl, hm 2145 rfl, hm 2146 rfl, hm 2147 rfl, hm 2148 rfl, hm 2149 rfl, hm 2150 rfl, hm 2151 rfl, hm 2152 rfl, hm 2153 rfl, hm 579 rfl, hm 577 rfl]
  exact h
def VM (P : am_S) (m : Nat) : Prop := (0 ≤ (P 1 m).toInt ∧ 1 ≤ (P 2 m).toInt ∧ (P 1 m).toInt + (P 2 m).toInt ≤ (P 13 0).toInt) ∧ (0 ≤ (P 3 m).toInt ∧ (P 3 m).toInt ≤ 4 ∧ (P 3 m).toInt ≤ (P 4 m).toInt ∧ (P 4 m).toInt ≤ 8 ∧ 0 ≤ (P 5 m).toInt ∧ (P 5 m).toInt ≤ 8) ∧ ((P 6 m = 0 ∨ P 6 m = 1) ∧ 0 ≤ (P 7 m).toInt ∧ (P 7 m).toInt ≤ 4)
def VP (P : am_S) : Prop := (0 ≤ (P 12 0).toInt ∧ (P 12 0).toInt ≤ 8 ∧ 0 ≤ (P 13 0).toInt ∧ (P 13 0).toInt ≤ 200) ∧ (∀ i, 0 ≤ (P 0 i).toInt ∧ (P 0 i).toInt ≤ 255) ∧ ∀ m, m < nM P → VM P m
/-- what a walk of the class about method m wants to know -/
theorem cf {st P : am_S} {m : Nat} (h : PC st P) (hv : VP P) (hm : m < nM P) : m < 8 ∧ (0 ≤ (st 67 m).toInt ∧ 1 ≤ (st 68 m).toInt ∧ (st 67 m).toInt + (st 68 m).toInt ≤ (st 322 0).toInt ∧ 0 ≤ (st 322 0).toInt ∧ (st 322 0).toInt ≤ 200) ∧ (0 ≤ (st 69 m).toInt ∧ (st 69 m).toInt ≤ 4 ∧ (st 69 m).toInt ≤ (st 70 m).toInt ∧ (st 70 m).toInt ≤ 8 ∧ 0 ≤ (st 71 m).toInt ∧ (st 71 m).toInt ≤ 8) ∧ ((st 72 m = 0 ∨ st 72 m = 1) ∧ 0 ≤ (st 66 m).toInt ∧ (st 66 m).toInt ≤ 4) ∧ 0 ≤ (st 323 0).toInt ∧ (st 323 0).toInt ≤ 8 := by
  have h1 := hv.2.2 m hm
  have h0 := hv.1
  obtain ⟨⟨-, q1, q2, q3, q4, q5, q6⟩, q7, -, -, -, -, q12, q13⟩ := h
  unfold VM at h1
  unfold nM at hm
  rw [q1, q2, q3, q4, q5, q6, q7, q12, q13]
  refine ⟨by omega, ⟨h1.1.1, h1.1.2.1, h1.1.2.2, h0.2.2⟩, h1.2.1, h1.2.2, h0.1, h0.2.1⟩
theorem mf {st P : am_S} {m : Nat} (h : PM st P) (hv : VP P) (hm : m < nM P) : m < 8 ∧ (0 ≤ (st 2143 m).toInt ∧ 1 ≤ (st 2144 m).toInt ∧ (st 2143 m).toInt + (st 2144 m).toInt ≤ (st 577 0).toInt ∧ 0 ≤ (st 577 0).toInt ∧ (st 577 0).toInt ≤ 200) ∧ (0 ≤ (st 2145 m).toInt ∧ (st 2145 m).toInt ≤ 4 ∧ (st 2145 m).toInt ≤ (st 2146 m).toInt ∧ (st 2146 m).toInt ≤ 8 ∧ 0 ≤ (st 2147 m).toInt ∧ (st 2147 m).toInt ≤ 8) ∧ ((st 2148 m = 0 ∨ st 2148 m = 1) ∧ 0 ≤ (st 2149 m).toInt ∧ (st 2149 m).toInt ≤ 4) ∧ 0 ≤ (st 579 0).toInt ∧ (st 579 0).toInt ≤ 8 := by
  have h1 := hv.2.2 m hm
  have h0 := hv.1
  obtain ⟨⟨-, q1, q2, q3, q4, q5, q6⟩, q7, -, -, -, -, q12, q13⟩ := h
  have q1 := q1 m hm
  unfold VM at h1
  unfold nM at hm
  rw [q1, q2, q3, q4, q5, q6, q7, q12, q13]
  refine ⟨by omega, ⟨h1.1.1, h1.1.2.1, h1.1.2.2, h0.2.2⟩, h1.2.1, h1.2.2, h0.1, h0.2.1⟩
def nb (P : am_S) (m : Nat) : Nat := (P 1 m).toInt.toNat
def nl (P : am_S) (m : Nat) : Nat := (P 2 m).toInt.toNat
-- one instruction in its long form
def is_p (b : Int32) : Prop := 2 ≤ b ∧ b ≤ 8
def is_s (b y : Int32) : Prop := y ≤ b ∧ b < y + 4
def dO (b : Int32) : Int32 := if 2 ≤ b ∧ b ≤ 8 then 17 else if b = 16 then 17 else if 26 ≤ b ∧ b < 30 then 21 else if 42 ≤ b ∧ b < 46 then 25 else if 59 ≤ b ∧ b < 63 then 54 else if 75 ≤ b ∧ b < 79 then 58 else b
def dZ (b : Int32) : Int32 := if 2 ≤ b ∧ b ≤ 8 then 1 else if b = 16 then 2 else if 26 ≤ b ∧ b < 30 then 1 else if 42 ≤ b ∧ b < 46 then 1 else if 59 ≤ b ∧ b < 63 then 1 else if 75 ≤ b ∧ b < 79 then 1 else op_z b
def dN3 (b c d : Int32) : Int32 := if 2 ≤ b ∧ b ≤ 8 then b - 2 - 1 else if b = 16 then c.toInt8.toInt32 else if 26 ≤ b ∧ b < 30 then b - 26 else if 42 ≤ b ∧ b < 46 then b - 42 else if 59 ≤ b ∧ b < 63 then b - 59 else if 75 ≤ b ∧ b < 79 then b - 75 else if op_z b = 3 ∧ ¬ b = 132 then (c <<< 8 ||| d).toInt16.toInt32 else c
def pO (P : am_S) (a : Nat) : Int32 := dO (P 0 a)
def pZ (P : am_S) (a : Nat) : Int32 := dZ (P 0 a)
def pN (P : am_S) (a : Nat) : Int32 := dN3 (P 0 a) (P 0 (a + 1)) (P 0 (a + 2))
def pG (P : am_S) (a : Nat) : Int32 := (P 0 (a + 2)).toInt8.toInt32
/-- the instruction has a number -/
def uN (b : Int32) : Prop := 2 ≤ (dZ b).toInt ∨ ¬ dO b = b
theorem by_dec {Q : Int32 → Prop} (h : ∀ b : Fin 256, Q (nI b.val)) {x : Int32} (h0 : 0 ≤ x.toInt) (h1 : x.toInt ≤ 255) : Q x := by
  have e := nI_back h0
  have hl : x.toNatClampNeg < 256 := by rw [nn_eq]; omega
  have := h ⟨x.toNatClampNeg, hl⟩
  simp only at this
  rw [e] at this
  exact this
theorem dZ_le {b : Int32} (h0 : 0 ≤ b.toInt) (h1 : b.toInt ≤ 255) : dZ b = 0 ∨ dZ b = 1 ∨ dZ b = 2 ∨ dZ b = 3 := by
  refine by_dec (Q := fun b => dZ b = 0 ∨ dZ b = 1 ∨ dZ b = 2 ∨ dZ b = 3) ?_ h0 h1
  unfold dZ op_z
  decide +kernel
-- the beginnings of method m's instructions, counted from its first byte
def nx (P : am_S) (m : Nat) : Nat → Nat
  | 0 => 0
  | p + 1 => if nx P m p = p then p + (pZ P (nb P m + p)).toInt.toNat else nx P m p
def bg (P : am_S) (m p : Nat) : Prop := nx P m p = p
/-- operands as they must be -/
def oH (op n lo mc : Int32) : Prop := (op_loc op ∧ n < lo) ∨ (¬ op_loc op ∧ (((op = 178 ∨ op = 179) ∧ 0 ≤ n ∧ n < 8) ∨ (op = 184 ∧ 0 ≤ n ∧ n < mc) ∨ (op = 188 ∧ n = 10) ∨ (¬ op = 178 ∧ ¬ op = 179 ∧ ¬ op = 184 ∧ ¬ op = 188)))
def okI (P : am_S) (m p : Nat) : Prop := ¬ pZ P (nb P m + p) = 0 ∧ p + (pZ P (nb P m + p)).toInt.toNat ≤ nl P m ∧ oH (pO P (nb P m + p)) (pN P (nb P m + p)) (P 4 m) (P 12 0)
def isB (P : am_S) (m : Nat) (z : Int) : Prop := 0 ≤ z ∧ z < (nl P m : Int) ∧ bg P m z.toNat
def hO (P : am_S) (m h : Nat) : Prop := P 8 h < P 9 h ∧ isB P m (P 8 h).toInt ∧ (P 9 h = P 2 m ∨ isB P m (P 9 h).toInt) ∧ isB P m (P 10 h).toInt ∧ 0 ≤ P 11 h ∧ P 11 h ≤ 4
def SH1 (P : am_S) (m : Nat) : Prop := ∀ p, p < nl P m → bg P m p → okI P m p
def SH2 (P : am_S) (m : Nat) : Prop := ∀ p, p < nl P m → bg P m p → op_jump (pO P (nb P m + p)) → isB P m ((p : Int) + (pN P (nb P m + p)).toInt)
def SH3 (P : am_S) (m : Nat) : Prop := ∀ k, k < (P 7 m).toInt.toNat → hO P m (4 * m + k)
def SHP (P : am_S) (m : Nat) : Prop := SH1 P m ∧ SH2 P m ∧ SH3 P m
theorem pZ_c {P : am_S} {a : Nat} (hv : VP P) : pZ P a = 0 ∨ pZ P a = 1 ∨ pZ P a = 2 ∨ pZ P a = 3 := dZ_le (hv.2.1 a).1 (hv.2.1 a).2
theorem pZ_n {P : am_S} {a : Nat} (hv : VP P) : 0 ≤ (pZ P a).toInt ∧ (pZ P a).toInt ≤ 3 := by
  rcases @pZ_c P a hv with h | h | h | h <;> rw [h] <;> decide
theorem pZ_1 {P : am_S} {a : Nat} (hv : VP P) (h : ¬ pZ P a = 0) : 1 ≤ (pZ P a).toInt ∧ (pZ P a).toInt ≤ 3 := by
  rcases @pZ_c P a hv with h | h | h | h
  · contradiction
  all_goals rw [h]; decide
theorem nx_ge {P : am_S} {m p : Nat} (hv : VP P) (h : ∀ q, q < p → bg P m q → okI P m q) : p ≤ nx P m p := by
  induction p with
  | zero => exact Nat.zero_le _
  | succ p ih =>
    have h1 := ih (fun q hq => h q (by omega))
    unfold nx
    by_cases e : nx P m p = p
    · rw [if_pos e]
      have := pZ_1 hv (h p (by omega) e).1
      omega
    · rw [if_neg e]
      omega
theorem nx_in {P : am_S} {m p : Nat} (e : bg P m p) (d : Nat) (h1 : 1 ≤ d) (h2 : d ≤ (pZ P (nb P m + p)).toInt.toNat) : nx P m (p + d) = p + (pZ P (nb P m + p)).toInt.toNat := by
  induction d with
  | zero => omega
  | succ d ih =>
    have e2 : p + (d + 1) = (p + d) + 1 := by omega
    rw [e2]
    unfold nx
    rcases d with _ | d
    · simp only [Nat.add_zero]
      rw [if_pos (show nx P m p = p from e)]
    · rw [if_neg, ih (by omega) (by omega)]
      rw [ih (by omega) (by omega)]
      omega
theorem nx_le {P : am_S} {m p : Nat} (hp : p ≤ nl P m) (h : ∀ q, q < p → bg P m q → okI P m q) : nx P m p ≤ nl P m := by
  induction p with
  | zero => exact Nat.zero_le _
  | succ p ih =>
    have h1 := ih (by omega) (fun q hq => h q (by omega))
    unfold nx
    by_cases e : nx P m p = p
    · rw [if_pos e]
      exact (h p (by omega) e).2.1
    · rw [if_neg e]
      exact h1
theorem am_up_self {st : am_S} {b i : Nat} {v : Int32} (h : v = st b i) : am_up st b i v = st := by
  subst h
  funext b' i'
  unfold am_up
  by_cases q : b' = b ∧ i' = i
  · rw [if_pos q, q.1, q.2]
  · rw [if_neg q]
theorem cb_in {st : am_S} {x : Int32} (h0 : 0 ≤ x.toInt) (h1 : x.toInt < (st 322 0).toInt) : cb st x = st 2129 x.toNatClampNeg := by
  unfold cb
  rw [if_pos ⟨by rw [i32_le]; exact h0, by rw [i32_lt]; exact h1⟩]
/-- reading an instruction at x: the operation and the size always, the number and the growth where the operands lie in the code -/
theorem rd_of {P st : am_S} {o : Nat} {x : Int32} {f : am_S → Prop} (hP : PC st P) (hV : VP P) (h0 : 0 ≤ x.toInt) (h1 : x.toInt < (P 13 0).toInt) (h : ∀ p : {p : Int32 × Int32 // x.toInt + (pZ P x.toNatClampNeg).toInt ≤ (P 13 0).toInt → (uN (P 0 x.toNatClampNeg) → p.1 = pN P x.toNatClampNeg) ∧ (P 0 x.toNatClampNeg = 132 → p.2 = pG P x.toNatClampNeg)}, f (am_up (ik st o (pO P x.toNatClampNeg) p.1.1 (pZ P x.toNatClampNeg)) 194 o p.1.2)) : rd st o x f := by
  obtain ⟨⟨q0, -⟩, -, -, -, -, -, -, q13⟩ := hP
  have hx := i32_rg x
  have hl := hV.1.2.2.2
  have e0 : cb st x = P 0 x.toNatClampNeg := by rw [cb_in h0 (by rw [q13]; exact h1), q0]
  have e1 : x.toInt + 2 ≤ (P 13 0).toInt → cb st (x + 1) = P 0 (x.toNatClampNeg + 1) := by
    intro hh
    have : (x + 1).toInt = x.toInt + 1 := by rw [i32_addw]; simp only [Int32.reduceToInt]; omega
    rw [cb_in (by omega) (by rw [q13]; omega), q0, nn_eq, nn_eq, this]
    congr 1
    omega
  have e2 : x.toInt + 3 ≤ (P 13 0).toInt → cb st (x + 2) = P 0 (x.toNatClampNeg + 2) := by
    intro hh
    have : (x + 2).toInt = x.toInt + 2 := by rw [i32_addw]; simp only [Int32.reduceToInt]; omega
    rw [cb_in (by omega) (by rw [q13]; omega), q0, nn_eq, nn_eq, this]
    congr 1
    omega
  have hb := hV.2.1 x.toNatClampNeg
  have self : ∀ a n z, am_up (ik st o a n z) 194 o (st 194 o) = ik st o a n z := fun a n z => am_up_self (by unfold ik; rw [am_up_bank (by decide), am_up_bank (by decide), am_up_bank (by decide)])
  unfold rd
  rw [e0]
  generalize hB : P 0 x.toNatClampNeg = b at *
  have hO : pO P x.toNatClampNeg = dO b := by unfold pO; rw [hB]
  have hZ : pZ P x.toNatClampNeg = dZ b := by unfold pZ; rw [hB]
  have hN : pN P x.toNatClampNeg = dN3 b (P 0 (x.toNatClampNeg + 1)) (P 0 (x.toNatClampNeg + 2)) := by unfold pN; rw [hB]
  rw [hO, hZ] at h
  have key : ∀ a n z, dO b = a → dZ b = z → (x.toInt + z.toInt ≤ (P 13 0).toInt → n = dN3 b (P 0 (x.toNatClampNeg + 1)) (P 0 (x.toNatClampNeg + 2))) → ¬ b = 132 → f (ik st o a n z) := by
    intro a n z ha hz hn h132
    have := h ⟨(n, st 194 o), fun q => ⟨fun _ => by rw [hN]; exact hn (by rw [← hz]; exact q), fun e => absurd e h132⟩⟩
    simp only at this
    rw [self, ha, hz] at this
    exact this
  refine ⟨fun c => ?_, fun c => ?_, fun c => ?_, fun c => ?_, fun c => ?_, fun c => ?_, fun c => ?_⟩
  · have n9 : ¬ b = 132 := by
      clear h e1 e2 self hO hZ hN key
      simp only [i32_le, i32_lt, i32_eq, Int32.reduceToInt] at *
      omega
    exact key _ _ _ (by unfold dO; rw [if_pos c]) (by unfold dZ; rw [if_pos c]) (fun _ => by unfold dN3; rw [if_pos c]) n9
  · have n0 : ¬ (2 ≤ b ∧ b ≤ 8) := by
      clear h e1 e2 self hO hZ hN key
      simp only [i32_le, i32_lt, i32_eq, Int32.reduceToInt] at *
      omega
    have n9 : ¬ b = 132 := by
      clear h e1 e2 self hO hZ hN key
      simp only [i32_le, i32_lt, i32_eq, Int32.reduceToInt] at *
      omega
    refine key _ _ _ (by unfold dO; rw [if_neg n0, if_pos c]) (by unfold dZ; rw [if_neg n0, if_pos c]) (fun q => ?_) n9
    unfold dN3
    rw [if_neg n0, if_pos c, e1]
    simp only [Int32.reduceToInt] at q
    omega
  · have n0 : ¬ (2 ≤ b ∧ b ≤ 8) := by
      clear h e1 e2 self hO hZ hN key
      simp only [i32_le, i32_lt, i32_eq, Int32.reduceToInt] at *
      omega
    have n1 : ¬ (b = 16) := by
      clear h e1 e2 self hO hZ hN key
      simp only [i32_le, i32_lt, i32_eq, Int32.reduceToInt] at *
      omega
    have n9 : ¬ b = 132 := by
      clear h e1 e2 self hO hZ hN key
      simp only [i32_le, i32_lt, i32_eq, Int32.reduceToInt] at *
      omega
    exact key _ _ _ (by unfold dO; rw [if_neg n0, if_neg n1, if_pos c]) (by unfold dZ; rw [if_neg n0, if_neg n1, if_pos c]) (fun _ => by unfold dN3; rw [if_neg n0, if_neg n1, if_pos c]) n9
  · have n0 : ¬ (2 ≤ b ∧ b ≤ 8) := by
      clear h e1 e2 self hO hZ hN key
      simp only [i32_le, i32_lt, i32_eq, Int32.reduceToInt] at *
      omega
    have n1 : ¬ (b = 16) := by
      clear h e1 e2 self hO hZ hN key
      simp only [i32_le, i32_lt, i32_eq, Int32.reduceToInt] at *
      omega
    have n2 : ¬ (26 ≤ b ∧ b < 30) := by
      clear h e1 e2 self hO hZ hN key
      simp only [i32_le, i32_lt, i32_eq, Int32.reduceToInt] at *
      omega
    have n9 : ¬ b = 132 := by
      clear h e1 e2 self hO hZ hN key
      simp only [i32_le, i32_lt, i32_eq, Int32.reduceToInt] at *
      omega
    exact key _ _ _ (by unfold dO; rw [if_neg n0, if_neg n1, if_neg n2, if_pos c]) (by unfold dZ; rw [if_neg n0, if_neg n1, if_neg n2, if_pos c]) (fun _ => by unfold dN3; rw [if_neg n0, if_neg n1, if_neg n2, if_pos c]) n9
  · have n0 : ¬ (2 ≤ b ∧ b ≤ 8) := by
      clear h e1 e2 self hO hZ hN key
      simp only [i32_le, i32_lt, i32_eq, Int32.reduceToInt] at *
      omega
    have n1 : ¬ (b = 16) := by
      clear h e1 e2 self hO hZ hN key
      simp only [i32_le, i32_lt, i32_eq, Int32.reduceToInt] at *
      omega
    have n2 : ¬ (26 ≤ b ∧ b < 30) := by
      clear h e1 e2 self hO hZ hN key
      simp only [i32_le, i32_lt, i32_eq, Int32.reduceToInt] at *
      omega
    have n3 : ¬ (42 ≤ b ∧ b < 46) := by
      clear h e1 e2 self hO hZ hN key
      simp only [i32_le, i32_lt, i32_eq, Int32.reduceToInt] at *
      omega
    have n9 : ¬ b = 132 := by
      clear h e1 e2 self hO hZ hN key
      simp only [i32_le, i32_lt, i32_eq, Int32.reduceToInt] at *
      omega
    exact key _ _ _ (by unfold dO; rw [if_neg n0, if_neg n1, if_neg n2, if_neg n3, if_pos c]) (by unfold dZ; rw [if_neg n0, if_neg n1, if_neg n2, if_neg n3, if_pos c]) (fun _ => by unfold dN3; rw [if_neg n0, if_neg n1, if_neg n2, if_neg n3, if_pos c]) n9
  · have n0 : ¬ (2 ≤ b ∧ b ≤ 8) := by
      clear h e1 e2 self hO hZ hN key
      simp only [i32_le, i32_lt, i32_eq, Int32.reduceToInt] at *
      omega
    have n1 : ¬ (b = 16) := by
      clear h e1 e2 self hO hZ hN key
      simp only [i32_le, i32_lt, i32_eq, Int32.reduceToInt] at *
      omega
    have n2 : ¬ (26 ≤ b ∧ b < 30) := by
      clear h e1 e2 self hO hZ hN key
      simp only [i32_le, i32_lt, i32_eq, Int32.reduceToInt] at *
      omega
    have n3 : ¬ (42 ≤ b ∧ b < 46) := by
      clear h e1 e2 self hO hZ hN key
      simp only [i32_le, i32_lt, i32_eq, Int32.reduceToInt] at *
      omega
    have n4 : ¬ (59 ≤ b ∧ b < 63) := by
      clear h e1 e2 self hO hZ hN key
      simp only [i32_le, i32_lt, i32_eq, Int32.reduceToInt] at *
      omega
    have n9 : ¬ b = 132 := by
      clear h e1 e2 self hO hZ hN key
      simp only [i32_le, i32_lt, i32_eq, Int32.reduceToInt] at *
      omega
    exact key _ _ _ (by unfold dO; rw [if_neg n0, if_neg n1, if_neg n2, if_neg n3, if_neg n4, if_pos c]) (by unfold dZ; rw [if_neg n0, if_neg n1, if_neg n2, if_neg n3, if_neg n4, if_pos c]) (fun _ => by unfold dN3; rw [if_neg n0, if_neg n1, if_neg n2, if_neg n3, if_neg n4, if_pos c]) n9
  · have n0 : ¬ (2 ≤ b ∧ b ≤ 8) := fun q => c (Or.inl q)
    have n1 : ¬ b = 16 := fun q => c (Or.inr (Or.inl q))
    have n2 : ¬ (26 ≤ b ∧ b < 30) := fun q => c (Or.inr (Or.inr (Or.inl q)))
    have n3 : ¬ (42 ≤ b ∧ b < 46) := fun q => c (Or.inr (Or.inr (Or.inr (Or.inl q))))
    have n4 : ¬ (59 ≤ b ∧ b < 63) := fun q => c (Or.inr (Or.inr (Or.inr (Or.inr (Or.inl q)))))
    have n5 : ¬ (75 ≤ b ∧ b < 79) := fun q => c (Or.inr (Or.inr (Or.inr (Or.inr (Or.inr q)))))
    have ho : dO b = b := by unfold dO; rw [if_neg n0, if_neg n1, if_neg n2, if_neg n3, if_neg n4, if_neg n5]
    have hz : dZ b = op_z b := by unfold dZ; rw [if_neg n0, if_neg n1, if_neg n2, if_neg n3, if_neg n4, if_neg n5]
    have z4 := dZ_le hb.1 hb.2
    rw [hz] at z4
    have z132 : op_z 132 = 3 := by decide
    refine ⟨fun c2 => ?_, fun c2 => ?_⟩
    · have := h ⟨((cb st (x + 1) <<< 8 ||| cb st (x + 2)).toInt16.toInt32, (cb st (x + 2)).toInt8.toInt32), fun q => ?_⟩
      · simp only at this
        rw [ho, hz] at this
        exact this
      · rw [hz, c2.1] at q
        simp only [Int32.reduceToInt] at q
        refine ⟨fun _ => ?_, fun e => absurd e c2.2⟩
        rw [hN]
        unfold dN3
        rw [if_neg n0, if_neg n1, if_neg n2, if_neg n3, if_neg n4, if_neg n5, if_pos c2]
        simp only
        rw [e1 (by omega), e2 (by omega)]
    · have := h ⟨(cb st (x + 1), (cb st (x + 2)).toInt8.toInt32), fun q => ?_⟩
      · simp only at this
        rw [ho, hz] at this
        exact this
      · rw [hz] at q
        refine ⟨fun hu => ?_, fun e => ?_⟩
        · rw [hN]
          unfold dN3
          rw [if_neg n0, if_neg n1, if_neg n2, if_neg n3, if_neg n4, if_neg n5, if_neg c2]
          simp only
          rcases hu with hu | hu
          · rw [hz] at hu
            rw [e1 (by omega)]
          · exact absurd ho hu
        · subst e
          rw [z132] at q
          simp only [Int32.reduceToInt] at q
          unfold pG
          simp only
          rw [e2 (by omega)]
theorem nx_s {P : am_S} {m p : Nat} (h : bg P m p) : nx P m (p + 1) = p + (pZ P (nb P m + p)).toInt.toNat := by
  unfold nx
  rw [if_pos (show nx P m p = p from h)]
theorem nx_n {P : am_S} {m p : Nat} (h : ¬ bg P m p) : nx P m (p + 1) = nx P m p := by
  conv => lhs; unfold nx
  rw [if_neg (show ¬ nx P m p = p from h)]
theorem fb_b {P st st' : am_S} {m p B b : Nat} (h : ∀ q, q < p → st b (B + q) = if nx P m q = q then 1 else 0) (h' : ∀ i, ¬ i = B + p → st' b i = st b i) (hp : st' b (B + p) = if nx P m p = p then 1 else 0) : ∀ q, q < p + 1 → st' b (B + q) = if nx P m q = q then 1 else 0 := by
  intro q hq
  by_cases e : q = p
  · subst e
    exact hp
  · rw [h' _ (by omega)]
    exact h q (by omega)
theorem fb_k {Q : Nat → Prop} {p : Nat} (h : ∀ q, q < p → Q q) (hp : Q p) : ∀ q, q < p + 1 → Q q := by
  intro q hq
  by_cases e : q = p
  · subst e
    exact hp
  · exact h q (by omega)
theorem oH_irr {b n lo mc : Int32} (h0 : 0 ≤ b.toInt) (h1 : b.toInt ≤ 255) (h : ¬ uN b) : oH (dO b) n lo mc := by
  unfold oH
  refine Or.inr ?_
  have key : ∀ b : Fin 256, ¬ uN (nI b.val) → ¬ op_loc (dO (nI b.val)) ∧ ¬ dO (nI b.val) = 178 ∧ ¬ dO (nI b.val) = 179 ∧ ¬ dO (nI b.val) = 184 ∧ ¬ dO (nI b.val) = 188 := by
    unfold uN op_loc dO dZ op_z
    decide +kernel
  have := by_dec (Q := fun b => ¬ uN b → ¬ op_loc (dO b) ∧ ¬ dO b = 178 ∧ ¬ dO b = 179 ∧ ¬ dO b = 184 ∧ ¬ dO b = 188) key h0 h1 h
  exact ⟨this.1, Or.inr (Or.inr (Or.inr this.2))⟩
/-- operands as read are right just if those of the program are -/
theorem oH_rd {P : am_S} {a : Nat} {n lo mc : Int32} (hv : VP P) (h : uN (P 0 a) → n = pN P a) : oH (pO P a) n lo mc ↔ oH (pO P a) (pN P a) lo mc := by
  by_cases hu : uN (P 0 a)
  · rw [h hu]
  · have hb := hv.2.1 a
    exact ⟨fun _ => oH_irr hb.1 hb.2 hu, fun _ => oH_irr hb.1 hb.2 hu⟩
/-- banks that the class's look at the shape may write -/
def cS (b : Nat) : Bool := b == 2131 || (192 ≤ b && b ≤ 195)
theorem md_cS {s t : am_S} (h : am_md cS s t) : am_md cV s t := by
  intro b hb
  refine h b ?_
  unfold cV at hb
  unfold cS
  simp only [Bool.or_eq_false_iff, Bool.and_eq_false_iff, decide_eq_false_iff_not, beq_eq_false_iff_ne] at hb ⊢
  omega
theorem pc_oS {s t P : am_S} (h : PC s P) (hm : am_md cS s t) : PC t P := pc_of h (md_cS hm)

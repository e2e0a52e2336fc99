/-! written by wip/whole/gen/walk.py out of 99a.machine.txt -/
/-! The machine of both sides as one store A with the reference's numbers: 603 state, 604 result, 606 taken, 608 used, 610 frames, 2160 statics, 2161 heap, 2162 cells, 2163 method, 2164 place, 2165 top, 2166 base. -/
def fn (A : am_S) : Nat := (A 610 0).toInt.toNat
def lf (A : am_S) : Nat := fn A - 1
def fm (A : am_S) (f : Nat) : Nat := (A 2163 f).toNatClampNeg
def fb (A : am_S) (f : Nat) : Nat := (A 2166 f).toInt.toNat
def ft (A : am_S) (f : Nat) : Nat := (A 2165 f).toInt.toNat
def flo (P A : am_S) (f : Nat) : Nat := (P 4 (fm A f)).toInt.toNat
def fhe (P A : am_S) (f : Nat) : Nat := (P 5 (fm A f)).toInt.toNat
def en (P A : am_S) (f : Nat) : Nat := fb A f + flo P A f + fhe P A f + 1
def sx (P A : am_S) : Nat := fb A (lf A) + flo P A (lf A) + ft A (lf A)
def FV (P A : am_S) (f : Nat) : Prop := (0 ≤ (A 2163 f).toInt ∧ fm A f < nM P) ∧ 0 ≤ (A 2166 f).toInt ∧ 0 ≤ (A 2165 f).toInt ∧ ft A f ≤ fhe P A f ∧ (f + 1 < fn A → fb A (f + 1) = en P A f)
def BV (P A : am_S) : Prop := 0 ≤ (A 610 0).toInt ∧ (∀ f, f < fn A → FV P A f) ∧ ((A 608 0).toInt = (if fn A = 0 then 0 else (en P A (lf A) : Int)) ∧ (A 608 0).toInt ≤ 80) ∧ (0 < fn A → fb A 0 = 0)
theorem BV_en {P A : am_S} (h : BV P A) {f g : Nat} (h1 : f < g) (h2 : g < fn A) : en P A f ≤ fb A g := by
  induction g with
  | zero => omega
  | succ g ih =>
    have h3 := (h.2.1 g (by omega)).2.2.2.2 h2
    by_cases e : f = g
    · subst e
      omega
    · have := ih (by omega) (by omega)
      have : fb A g ≤ en P A g := by unfold en; omega
      omega
theorem BV_80 {P A : am_S} (h : BV P A) {f : Nat} (h1 : f < fn A) : en P A f ≤ 80 := by
  have h2 := h.2.2.1
  rw [if_neg (by omega)] at h2
  by_cases e : f = lf A
  · rw [e]
    omega
  · have := BV_en h (show f < lf A by unfold lf at *; omega) (by unfold lf; omega)
    have : fb A (lf A) ≤ en P A (lf A) := by unfold en; omega
    omega
theorem BV_ge {P A : am_S} (h : BV P A) {f : Nat} (h1 : f < fn A) : f ≤ fb A f := by
  induction f with
  | zero => omega
  | succ f ih =>
    have h3 := (h.2.1 f (by omega)).2.2.2.2 h1
    have := ih (by omega)
    have : fb A f < en P A f := by unfold en; omega
    omega
theorem BV_fn {P A : am_S} (h : BV P A) : fn A ≤ 80 := by
  by_cases e : fn A = 0
  · omega
  · have h1 := BV_ge h (show fn A - 1 < fn A by omega)
    have h2 := BV_80 h (show fn A - 1 < fn A by omega)
    unfold en at h2
    omega
theorem fn_I {A : am_S} (h : 0 ≤ (A 610 0).toInt) : (A 610 0).toInt = (fn A : Int) := by
  unfold fn
  omega
/-- the class's store holds A -/
def RC (P st A : am_S) : Prop := (st 519 0 = A 610 0 ∧ (0 < fn A → st 518 0 = A 610 0 - 1)) ∧ (∀ f, f < fn A → st 0 f = A 2163 f ∧ st 1 f = A 2164 f ∧ st 2 f = A 2166 f ∧ st 3 f = A 2165 f) ∧ (∀ f, f < fn A → ∀ k, k < flo P A f + ft A f → st 2137 (fb A f + k) = A 2162 (fb A f + k)) ∧ (∀ i, i < 8 → st 2139 i = A 2160 i) ∧ (st 520 0 = A 606 0 ∧ ∀ i, i < (A 606 0).toInt.toNat → st 2140 i = A 2161 i) ∧ (st 521 0 = A 603 0 ∧ st 522 0 = if A 603 0 = 2 then A 604 0 else 0)
/-- banks that a run of the class may write -/
def cR (b : Nat) : Bool := b ≤ 3 || (518 ≤ b && b ≤ 522) || b == 2137 || b == 2139 || b == 2140
/-- banks that a run of the reference may write -/
def mR (b : Nat) : Bool := b == 603 || b == 604 || b == 606 || b == 608 || b == 610 || (2160 ≤ b && b ≤ 2166)
theorem pc_oR {s t P : am_S} (h : PC s P) (hm : am_md cR s t) : PC t P := by
  unfold PC at *
  rw [hm 2129 rfl, hm 67 rfl, hm 68 rfl, hm 69 rfl, hm 70 rfl, hm 71 rfl, hm 72 rfl, hm 66 rfl, hm 128 rfl, hm 129 rfl, hm 130 rfl, hm 131 rfl, hm 323 rfl, hm 322 rfl]
  exact h
theorem pm_oR {s t P : am_S} (h : PM s P) (hm : am_md mR s t) : PM t P := by
  unfold PM at *
  rw [hm 2142 rfl, hm 2143 rfl, hm 2144 rfl, hm 2145 rfl, hm 2146 rfl, hm 2147 rfl, hm 2148 rfl, hm 2149 rfl, hm 2150 rfl, hm 2151 rfl, hm 2152 rfl, hm 2153 rfl, hm 579 rfl, hm 577 rfl]
  exact h
def RM (st A : am_S) : Prop := ∀ b, mR b = true → st b = A b
def QC (P st0 A st : am_S) : Prop := am_md cR st0 st ∧ RC P st A
def QM (st0 A st : am_S) : Prop := am_md mR st0 st ∧ RM st A
-- what may be done to A
def o_push (P A : am_S) (v : Int32) : am_S := am_up (am_up A 2162 (sx P A) v) 2165 (lf A) (A 2165 (lf A) + 1)
def o_pop (A : am_S) : am_S := am_up A 2165 (lf A) (A 2165 (lf A) - 1)
def o_val (P A : am_S) : Int32 := A 2162 (sx P A - 1)
def sD (A : am_S) : Nat := ft A (lf A)
section OPS
variable {P A : am_S} {v : Int32}
theorem fn_push : fn (o_push P A v) = fn A := rfl
theorem fn_pop : fn (o_pop A) = fn A := rfl
theorem push_o {b : Nat} (h : ¬ b = 2162 ∧ ¬ b = 2165) : o_push P A v b = A b := by
  unfold o_push
  rw [am_up_bank h.2, am_up_bank h.1]
theorem pop_o {b : Nat} (h : ¬ b = 2165) : o_pop A b = A b := am_up_bank h
theorem push_t {f : Nat} : o_push P A v 2165 f = if f = lf A then A 2165 (lf A) + 1 else A 2165 f := by
  unfold o_push
  by_cases e : f = lf A
  · rw [if_pos e, e, am_up_eq]
  · rw [if_neg e, am_up_ne (fun q => e q.2), am_up_bank (by decide)]
theorem pop_t {f : Nat} : o_pop A 2165 f = if f = lf A then A 2165 (lf A) - 1 else A 2165 f := by
  unfold o_pop
  by_cases e : f = lf A
  · rw [if_pos e, e, am_up_eq]
  · rw [if_neg e, am_up_ne (fun q => e q.2)]
theorem push_c {i : Nat} : o_push P A v 2162 i = if i = sx P A then v else A 2162 i := by
  unfold o_push
  rw [am_up_bank (by decide)]
  by_cases e : i = sx P A
  · rw [if_pos e, e, am_up_eq]
  · rw [if_neg e, am_up_ne (fun q => e q.2)]
theorem top_r (h : BV P A) (h1 : 0 < fn A) : FV P A (lf A) ∧ lf A < fn A ∧ (A 2165 (lf A)).toInt = (sD A : Int) ∧ sD A ≤ fhe P A (lf A) ∧ fhe P A (lf A) ≤ 80 := by
  have h2 := h.2.1 (lf A) (by unfold lf; omega)
  have h3 := BV_80 h (show lf A < fn A by unfold lf; omega)
  unfold en at h3
  unfold FV at h2
  unfold sD ft
  refine ⟨h2, by unfold lf; omega, by omega, ?_, by omega⟩
  have := h2.2.2.2.1
  unfold ft at this
  exact this
theorem sD_push (h : BV P A) (h1 : 0 < fn A) : sD (o_push P A v) = sD A + 1 := by
  obtain ⟨-, -, h2, h3, h4⟩ := top_r h h1
  have e : lf (o_push P A v) = lf A := rfl
  unfold sD ft at *
  rw [e, push_t, if_pos rfl, i32_addw]
  simp only [Int32.reduceToInt]
  omega
theorem sD_pop (h : BV P A) (h1 : 0 < fn A) : sD (o_pop A) = sD A - 1 := by
  obtain ⟨-, -, h2, h3, h4⟩ := top_r h h1
  have e : lf (o_pop A) = lf A := rfl
  unfold sD ft at *
  rw [e, pop_t, if_pos rfl, i32_subw]
  simp only [Int32.reduceToInt]
  omega
theorem BV_tops {A' : am_S} (h : BV P A) (e : ∀ b, ¬ b = 2162 → ¬ b = 2165 → ¬ b = 2164 → A' b = A b) (ht : ∀ f, f < fn A → 0 ≤ (A' 2165 f).toInt ∧ ft A' f ≤ fhe P A f) : BV P A' := by
  obtain ⟨a1, a2, a3, a4⟩ := h
  have e1 : fn A' = fn A := by unfold fn; rw [e 610 (by decide) (by decide) (by decide)]
  have e2 : ∀ f, fm A' f = fm A f := fun f => by unfold fm; rw [e 2163 (by decide) (by decide) (by decide)]
  have e3 : ∀ f, fb A' f = fb A f := fun f => by unfold fb; rw [e 2166 (by decide) (by decide) (by decide)]
  have e4 : ∀ f, en P A' f = en P A f := fun f => by unfold en flo fhe; rw [e2, e3]
  have e5 : ∀ f, fhe P A' f = fhe P A f := fun f => by unfold fhe; rw [e2]
  refine ⟨by rw [e 610 (by decide) (by decide) (by decide)]; exact a1, fun f hf => ?_, ?_, ?_⟩
  · rw [e1] at hf
    obtain ⟨b1, b2, b3, b4, b5⟩ := a2 f hf
    unfold FV
    rw [e2, e3, e4, e5, e1, e 2163 (by decide) (by decide) (by decide), e 2166 (by decide) (by decide) (by decide)]
    exact ⟨b1, b2, (ht f hf).1, (ht f hf).2, b5⟩
  · have e6 : lf A' = lf A := by unfold lf; rw [e1]
    rw [e 608 (by decide) (by decide) (by decide), e1, e6, e4]
    exact a3
  · rw [e1, e3]
    exact a4
theorem BV_push (h : BV P A) (h1 : 0 < fn A) (h2 : sD A < fhe P A (lf A)) : BV P (o_push P A v) := by
  refine BV_tops h (fun b b1 b2 _ => push_o ⟨b1, b2⟩) (fun f hf => ?_)
  obtain ⟨-, -, h3, h4, h5⟩ := top_r h h1
  obtain ⟨-, -, g3, g4, -⟩ := h.2.1 f hf
  unfold ft at *
  rw [push_t]
  by_cases e : f = lf A
  · rw [if_pos e, i32_addw, e]
    unfold sD ft at *
    simp only [Int32.reduceToInt]
    omega
  · rw [if_neg e]
    exact ⟨g3, g4⟩
theorem BV_pop (h : BV P A) (h1 : 0 < fn A) (h2 : 0 < sD A) : BV P (o_pop A) := by
  refine BV_tops h (fun b _ b2 _ => pop_o b2) (fun f hf => ?_)
  obtain ⟨-, -, h3, h4, h5⟩ := top_r h h1
  obtain ⟨-, -, g3, g4, -⟩ := h.2.1 f hf
  unfold ft at *
  rw [pop_t]
  by_cases e : f = lf A
  · rw [if_pos e, i32_subw, e]
    unfold sD ft at *
    simp only [Int32.reduceToInt]
    omega
  · rw [if_neg e]
    exact ⟨g3, g4⟩
end OPS
/-- what a walk of the class wants to know of the frame on top -/
theorem RC_top {P st A : am_S} (hP : PC st P) (hV : VP P) (hB : BV P A) (h : RC P st A) (h1 : 0 < fn A) : (st 518 0).toNatClampNeg = lf A ∧ lf A < 80 ∧ (st 0 (lf A)).toNatClampNeg = fm A (lf A) ∧ fm A (lf A) < 8 ∧ (st 2 (lf A)).toInt = (fb A (lf A) : Int) ∧ (st 3 (lf A)).toInt = (sD A : Int) ∧ (st 70 (fm A (lf A))).toInt = (flo P A (lf A) : Int) ∧ (st 71 (fm A (lf A))).toInt = (fhe P A (lf A) : Int) ∧ fb A (lf A) + flo P A (lf A) + fhe P A (lf A) + 1 ≤ 80 ∧ sD A ≤ fhe P A (lf A) ∧ fm A (lf A) < nM P := by
  obtain ⟨a1, a2, a3, a4, a5⟩ := top_r hB h1
  obtain ⟨⟨b1, b2⟩, b3, -, -, -⟩ := a1
  have hfn := BV_fn hB
  obtain ⟨r1, r2, r3, r4⟩ := h.2.1 (lf A) a2
  have r5 := h.1.2 h1
  have c := cf hP hV b2
  have g80 := BV_80 hB a2
  unfold en at g80
  have e610 := fn_I hB.1
  refine ⟨?_, by omega, ?_, c.1, ?_, ?_, ?_, ?_, g80, a4, b2⟩
  · rw [r5, nn_eq, i32_subw]
    simp only [Int32.reduceToInt]
    unfold lf
    omega
  · rw [r1]
    rfl
  · rw [r3]
    unfold fb
    omega
  · rw [r4]
    exact a3
  · rw [hP.1.2.2.2.2.1]
    unfold flo
    have := c.2.2.1.2.2.1
    have := c.2.2.1.1
    have := c.2.2.1.2.1
    rw [hP.1.2.2.2.2.1, hP.1.2.2.2.1] at *
    omega
  · rw [hP.1.2.2.2.2.2.1]
    unfold fhe
    have := c.2.2.1.2.2.2.2.1
    rw [hP.1.2.2.2.2.2.1] at this
    omega

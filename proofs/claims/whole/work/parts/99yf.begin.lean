/-! The machine at a start, and its types. -/
def o_clr (A : am_S) : am_S := am_up (am_up (am_up (am_up (am_up (am_fill A 2160 0 8 0) 603 0 1) 604 0 0) 606 0 0) 608 0 0) 610 0 0
def o_giv (E : am_S) (G : Nat → Int32) (n : Nat) : am_S := fun b i => if b = 2162 ∧ i < n then G i else E b i
def o_beg (P A : am_S) (m : Nat) (G : Nat → Int32) : am_S := o_giv (o_open P (o_clr A) (nI m)) G (P 3 m).toInt.toNat
theorem giv_o {E : am_S} {G : Nat → Int32} {n b : Nat} (h : ¬ b = 2162) : o_giv E G n b = E b := by
  funext i
  unfold o_giv
  rw [if_neg (fun w => h w.1)]
theorem clr_n {A : am_S} : fn (o_clr A) = 0 := rfl
theorem clr_u {A : am_S} : o_clr A 608 0 = 0 := rfl
theorem BV_clr {P A : am_S} : BV P (o_clr A) := by
  have e : o_clr A 610 0 = 0 := rfl
  refine ⟨by rw [e]; decide, fun f hf => absurd hf (by rw [clr_n]; omega), ⟨?_, by rw [clr_u]; decide⟩, fun hf => absurd hf (by rw [clr_n]; omega)⟩
  rw [clr_n, if_pos rfl, clr_u]
  rfl
theorem beg_fit {P A : am_S} {m : Nat} (hV : VP P) (hm : m < nM P) : (o_clr A 608 0).toInt + (ned P m).toInt ≤ 80 := by
  have := ned_t hV hm
  rw [clr_u]
  simp only [Int32.reduceToInt]
  omega
theorem TY_beg {P A : am_S} {T : Nat → am_T} {m : Nat} {G : Nat → Int32} (hT : PT P T) (hm : m < nM P) : TY P T (fun _ => False) (o_beg P A m G) := by
  have vm := hT.1.2.2 m hm
  have m8 : m < 8 := by
    have := hT.1.1
    unfold nM at hm
    omega
  have nc : (nI m).toNatClampNeg = m := nI_c (by omega)
  have hy : 0 ≤ (nI m).toInt ∧ (nI m).toNatClampNeg < nM P := ⟨by rw [nI_t (by omega)]; omega, by rw [nc]; exact hm⟩
  have bo := BV_open (A := o_clr A) hT.1 BV_clr hy (by rw [nc]; exact beg_fit hT.1 hm)
  have on := (open_n (P := P) (A := o_clr A) (y := nI m) BV_clr (by rw [clr_u]; decide)).1
  rw [clr_n] at on
  have of := @open_f P (o_clr A) (nI m) 0
  rw [clr_n] at of
  have e606 : o_open P (o_clr A) (nI m) 606 0 = 0 := by
    rw [open_o (by decide)]
    rfl
  unfold o_beg
  generalize hC : o_open P (o_clr A) (nI m) = C at *
  have cb : ∀ b, ¬ b = 2162 → o_giv C G (P 3 m).toInt.toNat b = C b := fun b hb => giv_o hb
  generalize hE : o_giv C G (P 3 m).toInt.toNat = E at *
  have nE : fn E = 1 := by
    unfold fn at *
    rw [cb 610 (by decide)]
    exact on
  have lE : lf E = 0 := by unfold lf; omega
  have bE : BV P E := by
    refine BV_tops bo (fun b h1 _ _ => cb b h1) (fun f hf => ?_)
    have w := bo.2.1 f hf
    have e : ft E f = ft C f := by unfold ft; rw [cb 2165 (by decide)]
    rw [cb 2165 (by decide), e]
    exact ⟨w.2.2.1, w.2.2.2.1⟩
  have hpE : HP (fun _ => False) E := by
    refine ⟨?_, fun _ w => w.elim, fun _ _ w => w.elim⟩
    unfold hb
    rw [cb 606 (by decide), e606]
    decide
  have mE : fm E (lf E) = m := by
    unfold fm
    rw [lE, cb 2163 (by decide), of.1, if_pos rfl, nc]
  have tE : ft E (lf E) = 0 := by
    unfold ft
    rw [lE, cb 2165 (by decide), of.2.2.1, if_pos rfl]
    rfl
  obtain ⟨-, ty, wt⟩ := hT.2 m hm
  obtain ⟨i1, i2, i3, i4, i5, i6⟩ := ty.1
  refine ⟨bE, hpE, fun _ => ⟨0, ⟨bE, by omega, hpE⟩, fun f hf => absurd hf (by omega), ⟨?_, ?_, ?_⟩, ?_, ?_, ?_⟩, fun _ => by omega⟩
  · rw [lE, cb 2164 (by decide), of.2.1, if_pos rfl]
    rfl
  · rw [mE]
    omega
  · rw [mE]
    exact i3
  · rw [tE, mE]
    exact i4
  · intro k hk
    have hk' : k < 8 := by
      unfold flo at hk
      rw [mE] at hk
      have := vm.2.1
      omega
    rw [mE]
    exact ini_rv (n := (P 3 m).toInt.toNat) (by have := vm.2.1; omega) hk' i6
  · intro k hk
    rw [tE] at hk
    omega

/-! A machine with a frame is running. -/
theorem trap_603 {P : am_S} {k : Int32} : ∀ (n : Nat) (A : am_S), fn (o_trap P n k A) = 0 ∨ o_trap P n k A 603 0 = A 603 0 := by
  intro n
  induction n with
  | zero => exact fun A => Or.inl rfl
  | succ n ih =>
    intro A
    unfold o_trap
    split
    · exact ih (o_close A)
    · exact Or.inr rfl
theorem ot_603 {P A : am_S} {op n z : Int32} : fn (o_ot P A op n z) = 0 ∨ o_ot P A op n z 603 0 = A 603 0 := by
  unfold o_ot
  split
  · unfold o_al
    split
    · exact Or.inr rfl
    · exact trap_603 _ (o_pop (o_pop A))
  split
  · unfold o_as
    split
    · exact Or.inr rfl
    · exact trap_603 _ (o_pop (o_pop (o_pop A)))
  split
  · unfold o_lv
    split
    · exact Or.inl rfl
    split
    · exact Or.inr rfl
    · exact Or.inr rfl
  split
  · unfold o_lv
    split
    · exact Or.inl rfl
    split
    · exact Or.inr rfl
    · exact Or.inr rfl
  split
  · unfold o_call
    split
    · exact Or.inr rfl
    · exact Or.inl rfl
  split
  · unfold o_na
    split
    · exact trap_603 _ (o_pop A)
    split
    · exact Or.inl rfl
    · exact Or.inr rfl
  split
  · unfold o_len
    split
    · exact trap_603 _ (o_pop A)
    · exact Or.inr rfl
  · right
    unfold o_mv
    repeat' split
    all_goals rfl
theorem st_603 {P A A' : am_S} {op n g z : Int32} (h : stC P A op n g z A') : fn A' = 0 ∨ A' 603 0 = A 603 0 := by
  unfold stC at h
  rcases h with ⟨-, -, ⟨-, h⟩ | ⟨-, h⟩⟩ | ⟨-, -, ⟨-, h⟩ | ⟨-, h⟩⟩ | ⟨-, -, h⟩ | ⟨-, -, h⟩
  · rw [h]
    exact trap_603 _ (o_pop (o_pop A))
  · rw [h]
    exact Or.inr rfl
  · rw [h]
    right
    show o_jA A op 603 0 = A 603 0
    unfold o_jA
    repeat' split
    all_goals rfl
  · rw [h]
    right
    show o_jA A op 603 0 = A 603 0
    unfold o_jA
    repeat' split
    all_goals rfl
  · rw [h]
    right
    show o_lo P A op (fb A (lf A) + n.toInt.toNat) g 603 0 = A 603 0
    unfold o_lo
    repeat' split
    all_goals rfl
  · rw [h]
    exact ot_603
theorem Rn_603 {P : am_S} : ∀ (n : Nat) (A A' : am_S) (k : Nat), (0 < fn A → A 603 0 = 1) → Rn P n A k A' → 0 < fn A' → A' 603 0 = 1 := by
  intro n
  induction n with
  | zero =>
    intro A A' k h hr
    obtain ⟨-, e⟩ := hr
    rw [e]
    exact h
  | succ n ih =>
    intro A A' k h hr
    rcases hr with ⟨-, -, e⟩ | ⟨e, B, k', s, r, -⟩
    · rw [e]
      exact h
    · refine ih B A' k' (fun w => ?_) r
      obtain ⟨-, p, -, s, -⟩ := s
      rcases st_603 s with q | q
      · omega
      · rw [q]
        exact e
theorem and_255 (x : Int32) : 0 ≤ (x &&& 255).toInt ∧ (x &&& 255).toInt ≤ 255 := by
  have h : (x &&& 255).toBitVec.toNat ≤ 255 := by
    rw [Int32.toBitVec_and, BitVec.toNat_and]
    exact Nat.and_le_right
  have e : (x &&& 255).toInt = ((x &&& 255).toBitVec.toNat : Int) := by
    show (x &&& 255).toBitVec.toInt = _
    rw [BitVec.toInt_eq_toNat_of_lt (by omega)]
  rw [e]
  omega
/-! The invariant of the law's loop. -/
def iP (st : am_S) : am_S := fun b => match b with
  | 0 => st 2129
  | 1 => st 67
  | 2 => st 68
  | 3 => st 69
  | 4 => st 70
  | 5 => st 71
  | 6 => st 72
  | 7 => st 66
  | 8 => st 128
  | 9 => st 129
  | 10 => st 130
  | 11 => st 131
  | 12 => st 323
  | 13 => st 322
  | _ => fun _ => 0
theorem iP_pc {st : am_S} : PC st (iP st) := ⟨⟨rfl, rfl, rfl, rfl, rfl, rfl, rfl⟩, rfl, rfl, rfl, rfl, rfl, rfl, rfl⟩
def IA (st : am_S) : Prop := (PM st (iP st) ∧ VP (iP st) ∧ VO (iP st)) ∧ (∀ m, 0 ≤ (st 66 m).toInt ∧ (st 66 m).toInt ≤ 4) ∧ st 2143 (st 579 0).toNatClampNeg = cs_E st ∧ st 2143 0 = 0
def IG (st : am_S) : Prop := (st 591 0 = st 262 0 ∧ st 263 0 = st 592 0) ∧ (0 ≤ (st 261 0).toInt ∧ (st 261 0).toInt ≤ 4) ∧ st 601 0 = st 261 0 ∧ st 2159 = st 2141
def IT (st : am_S) (T : Nat → am_T) : Prop := ¬ st 262 0 = 0 → PT (iP st) T ∧ ∀ m, m < nM (iP st) → (LC (iP st) m st (T m) ∧ MT (iP st) m st (T m)) ∧ ∀ q, q < nl (iP st) m → st 2154 (nb (iP st) m + q) = if nx (iP st) m q = q then 1 else 0
def IM (st : am_S) (T : Nat → am_T) : Prop := ∃ A D, (RC (iP st) st A ∧ RM st A) ∧ ((A 610 0 = 0 ∧ ¬ A 603 0 = 1 ∧ hb A) ∨ (¬ st 262 0 = 0 ∧ A 603 0 = 1 ∧ TY (iP st) T D A))
def pu_INV (_ : Nat) (st : am_S) : Prop := (IA st ∧ IG st) ∧ ∃ T, IT st T ∧ IM st T
def iaL : List Nat := [2129, 66, 67, 68, 69, 70, 71, 72, 128, 129, 130, 131, 323, 322, 2142, 2143, 2144, 2145, 2146, 2147, 2148, 2149, 2150, 2151, 2152, 2153, 579, 577]
def igL : List Nat := [591, 262, 263, 592, 261, 601, 2159, 2141]
def itL : List Nat := [262, 2132, 2133, 2134, 2154, 2155, 2156, 2157]
def rcL : List Nat := [519, 518, 0, 1, 2, 3, 2137, 2139, 2140, 520, 521, 522]
theorem iP_md {s t : am_S} (h : ∀ b ∈ iaL, t b = s b) : iP t = iP s := by
  unfold iP
  rw [h 2129 (by decide), h 67 (by decide), h 68 (by decide), h 69 (by decide), h 70 (by decide), h 71 (by decide), h 72 (by decide), h 66 (by decide), h 128 (by decide), h 129 (by decide), h 130 (by decide), h 131 (by decide), h 323 (by decide), h 322 (by decide)]
theorem IA_md {s t : am_S} (h : ∀ b ∈ iaL, t b = s b) (w : IA s) : IA t := by
  unfold IA cs_E PM at *
  rw [iP_md h, h 2142 (by decide), h 2143 (by decide), h 2144 (by decide), h 2145 (by decide), h 2146 (by decide), h 2147 (by decide), h 2148 (by decide), h 2149 (by decide), h 2150 (by decide), h 2151 (by decide), h 2152 (by decide), h 2153 (by decide), h 579 (by decide), h 577 (by decide), h 66 (by decide), h 323 (by decide), h 67 (by decide), h 68 (by decide)]
  exact w
theorem IG_md {s t : am_S} (h : ∀ b ∈ igL, t b = s b) (w : IG s) : IG t := by
  unfold IG at *
  rw [h 591 (by decide), h 262 (by decide), h 263 (by decide), h 592 (by decide), h 261 (by decide), h 601 (by decide), h 2159 (by decide), h 2141 (by decide)]
  exact w
theorem IT_md {s t : am_S} {T : Nat → am_T} (h : ∀ b ∈ iaL, t b = s b) (h2 : ∀ b ∈ itL, t b = s b) (w : IT s T) : IT t T := by
  unfold IT LC MT at *
  rw [iP_md h, h2 262 (by decide), h2 2132 (by decide), h2 2133 (by decide), h2 2134 (by decide), h2 2154 (by decide), h2 2155 (by decide), h2 2156 (by decide), h2 2157 (by decide)]
  exact w
theorem RC_md {P s t A : am_S} (h : ∀ b ∈ rcL, t b = s b) (w : RC P s A) : RC P t A := by
  unfold RC at *
  rw [h 519 (by decide), h 518 (by decide), h 0 (by decide), h 1 (by decide), h 2 (by decide), h 3 (by decide), h 2137 (by decide), h 2139 (by decide), h 2140 (by decide), h 520 (by decide), h 521 (by decide), h 522 (by decide)]
  exact w
theorem RM_o {st A : am_S} {b i : Nat} {v : Int32} (hb : mR b = false) (h : RM st A) : RM (am_up st b i v) A := by
  intro b' hb'
  rw [am_up_bank (fun w => by rw [w, hb] at hb'; cases hb')]
  exact h b' hb'
theorem RM_md {S : Nat → Bool} {s t A : am_S} (hS : ∀ b, mR b = true → S b = false) (h : am_md S s t) (w : RM s A) : RM t A := fun b hb => (h b (hS b hb)).trans (w b hb)
theorem INV_md {j j' : Nat} {s t : am_S} (h : ∀ b, ¬ b = 576 → ¬ b = 2167 → t b = s b) (w : pu_INV j s) : pu_INV j' t := by
  obtain ⟨⟨w1, w2⟩, T, w3, A, D, ⟨w4, w5⟩, w6⟩ := w
  have d1 : ∀ b ∈ iaL, ¬ b = 576 ∧ ¬ b = 2167 := by decide
  have d2 : ∀ b ∈ igL, ¬ b = 576 ∧ ¬ b = 2167 := by decide
  have d3 : ∀ b ∈ itL, ¬ b = 576 ∧ ¬ b = 2167 := by decide
  have d4 : ∀ b ∈ rcL, ¬ b = 576 ∧ ¬ b = 2167 := by decide
  have h1 : ∀ b ∈ iaL, t b = s b := fun b hb => h b (d1 b hb).1 (d1 b hb).2
  have h2 : ∀ b ∈ igL, t b = s b := fun b hb => h b (d2 b hb).1 (d2 b hb).2
  have h3 : ∀ b ∈ itL, t b = s b := fun b hb => h b (d3 b hb).1 (d3 b hb).2
  have h4 : ∀ b ∈ rcL, t b = s b := fun b hb => h b (d4 b hb).1 (d4 b hb).2
  refine ⟨⟨IA_md h1 w1, IG_md h2 w2⟩, T, IT_md h1 h3 w3, A, D, ⟨?_, ?_⟩, ?_⟩
  · rw [iP_md h1]
    exact RC_md h4 w4
  · intro b hb
    rw [h b (fun e => by rw [e] at hb; cases hb) (fun e => by rw [e] at hb; cases hb)]
    exact w5 b hb
  · rw [iP_md h1, h 262 (by decide) (by decide)]
    exact w6
theorem INV_576 {j j' : Nat} {st : am_S} {v : Int32} (w : pu_INV j st) : pu_INV j' (am_up st 576 0 v) := INV_md (fun _ h _ => am_up_bank h) w
/-! Turns that change the program. -/
def up1 (r : Nat → Int32) (n : Nat) (v : Int32) : Nat → Int32 := fun i => if i = n then v else r i
theorem up_sf {st : am_S} {b n : Nat} {v : Int32} : am_up st b n v b = up1 (st b) n v := by
  funext i
  unfold am_up up1
  simp only [true_and]
theorem md_Ls {L M : List Nat} {s t : am_S} (k : am_md (fun b => L.contains b) s t) (d : ∀ b ∈ M, L.contains b = false) : ∀ b ∈ M, t b = s b := fun b hb => k b (d b hb)
theorem md_Rs {L : List Nat} {s t : am_S} (k : am_md (fun b => L.contains b) s t) (d : ∀ b ∈ L, mR b = false) : ∀ b, mR b = true → t b = s b := by
  intro b hb
  refine k b ?_
  cases e : L.contains b with
  | false => exact e
  | true =>
    have := d b (List.contains_iff_mem.mp e)
    rw [this] at hb
    cases hb
theorem RC_P {P P' st A : am_S} (e : A 610 0 = 0) (h : RC P st A) : RC P' st A := by
  have e0 : fn A = 0 := by unfold fn; rw [e]; rfl
  obtain ⟨a1, a2, a3, a4⟩ := h
  exact ⟨a1, a2, fun f hf => absurd hf (by omega), a4⟩
theorem INV_pr {j j' : Nat} {s t : am_S} (w : pu_INV j s) (e : s 262 0 = 0) (hA : IA t) (hg : ∀ b ∈ igL, t b = s b) (hr : ∀ b ∈ rcL, t b = s b) (hm : ∀ b, mR b = true → t b = s b) : pu_INV j' t := by
  obtain ⟨⟨w1, w2⟩, T, w3, A, D, ⟨w4, w5⟩, w6⟩ := w
  have e1 : t 262 0 = 0 := by rw [hg 262 (by decide)]; exact e
  rcases w6 with w6 | w6
  · exact ⟨⟨hA, IG_md hg w2⟩, T, fun k => absurd e1 k, A, D, ⟨RC_P w6.1 (RC_md hr w4), fun b hb => (hm b hb).trans (w5 b hb)⟩, Or.inl w6⟩
  · exact absurd e w6.1
theorem VM_i {st : am_S} {m : Nat} : VM (iP st) m = ((0 ≤ (st 67 m).toInt ∧ 1 ≤ (st 68 m).toInt ∧ (st 67 m).toInt + (st 68 m).toInt ≤ (st 322 0).toInt) ∧ (0 ≤ (st 69 m).toInt ∧ (st 69 m).toInt ≤ 4 ∧ (st 69 m).toInt ≤ (st 70 m).toInt ∧ (st 70 m).toInt ≤ 8 ∧ 0 ≤ (st 71 m).toInt ∧ (st 71 m).toInt ≤ 8) ∧ ((st 72 m = 0 ∨ st 72 m = 1) ∧ 0 ≤ (st 66 m).toInt ∧ (st 66 m).toInt ≤ 4)) := rfl
theorem tn_0 {j j' : Nat} {st : am_S} {x : Int32} (w : pu_INV j st) (h : st 262 0 = 0 ∧ st 322 0 < 200) : pu_INV j' (am_up (am_up (am_up (am_up (am_up (am_up st 2129 (st 322 0).toNatClampNeg (x &&& 255)) 322 0 (st 322 0 + 1)) 2167 0 (st 322 0 + 1)) 576 0 0) 2142 (st 577 0).toNatClampNeg (x &&& 255)) 577 0 (st 577 0 + 1)) := by
  have k : am_md (fun b => [2129, 322, 2167, 576, 2142, 577].contains b) st (am_up (am_up (am_up (am_up (am_up (am_up st 2129 (st 322 0).toNatClampNeg (x &&& 255)) 322 0 (st 322 0 + 1)) 2167 0 (st 322 0 + 1)) 576 0 0) 2142 (st 577 0).toNatClampNeg (x &&& 255)) 577 0 (st 577 0 + 1)) := md_up (md_up (md_up (md_up (md_up (md_up md_refl rfl) rfl) rfl) rfl) rfl) rfl
  have s0 : (am_up (am_up (am_up (am_up (am_up (am_up st 2129 (st 322 0).toNatClampNeg (x &&& 255)) 322 0 (st 322 0 + 1)) 2167 0 (st 322 0 + 1)) 576 0 0) 2142 (st 577 0).toNatClampNeg (x &&& 255)) 577 0 (st 577 0 + 1)) 2129 = up1 (st 2129) (st 322 0).toNatClampNeg (x &&& 255) := by
    simp (disch := decide) only [am_up_bank, up_sf]
  have s1 : (am_up (am_up (am_up (am_up (am_up (am_up st 2129 (st 322 0).toNatClampNeg (x &&& 255)) 322 0 (st 322 0 + 1)) 2167 0 (st 322 0 + 1)) 576 0 0) 2142 (st 577 0).toNatClampNeg (x &&& 255)) 577 0 (st 577 0 + 1)) 322 = up1 (st 322) 0 (st 322 0 + 1) := by
    simp (disch := decide) only [am_up_bank, up_sf]
  have s2 : (am_up (am_up (am_up (am_up (am_up (am_up st 2129 (st 322 0).toNatClampNeg (x &&& 255)) 322 0 (st 322 0 + 1)) 2167 0 (st 322 0 + 1)) 576 0 0) 2142 (st 577 0).toNatClampNeg (x &&& 255)) 577 0 (st 577 0 + 1)) 2142 = up1 (st 2142) (st 577 0).toNatClampNeg (x &&& 255) := by
    simp (disch := decide) only [am_up_bank, up_sf]
  have s3 : (am_up (am_up (am_up (am_up (am_up (am_up st 2129 (st 322 0).toNatClampNeg (x &&& 255)) 322 0 (st 322 0 + 1)) 2167 0 (st 322 0 + 1)) 576 0 0) 2142 (st 577 0).toNatClampNeg (x &&& 255)) 577 0 (st 577 0 + 1)) 577 = up1 (st 577) 0 (st 577 0 + 1) := by
    simp (disch := decide) only [am_up_bank, up_sf]
  generalize (am_up (am_up (am_up (am_up (am_up (am_up st 2129 (st 322 0).toNatClampNeg (x &&& 255)) 322 0 (st 322 0 + 1)) 2167 0 (st 322 0 + 1)) 576 0 0) 2142 (st 577 0).toNatClampNeg (x &&& 255)) 577 0 (st 577 0 + 1)) = S at *
  refine INV_pr w h.1 ?_ (md_Ls k (by decide)) (md_Ls k (by decide)) (md_Rs k (by decide))
  obtain ⟨⟨⟨⟨⟨p1, p2, p3, p4, p5, p6, p7⟩, p8, p9, p10, p11, p12, p13, p14⟩, ⟨v1, v2, v3⟩, vo⟩, a2, a3, a4⟩, -⟩ := w.1
  have lt := h.2
  rw [i32_lt] at lt
  simp only [Int32.reduceToInt] at lt
  have b0 : 0 ≤ (st 322 0).toInt ∧ (st 322 0).toInt ≤ 200 := v1.2.2
  have ea : (st 322 0 + 1).toInt = (st 322 0).toInt + 1 := by
    rw [i32_addw]
    simp only [Int32.reduceToInt]
    omega
  have e13 : (S 322 0).toInt = (st 322 0).toInt + 1 := by
    rw [s1]
    unfold up1
    rw [if_pos rfl]
    exact ea
  have kb : ∀ b ∈ [66, 67, 68, 69, 70, 71, 72, 128, 129, 130, 131, 323, 2143, 2144, 2145, 2146, 2147, 2148, 2149, 2150, 2151, 2152, 2153, 579], S b = st b := md_Ls k (by decide)
  have eM : nM (iP S) = nM (iP st) := by
    show (S 323 0).toInt.toNat = (st 323 0).toInt.toNat
    rw [kb 323 (by decide)]
  have enb : ∀ m, nb (iP S) m = nb (iP st) m ∧ nl (iP S) m = nl (iP st) m := by
    intro m
    refine ⟨?_, ?_⟩
    · show (S 67 m).toInt.toNat = (st 67 m).toInt.toNat
      rw [kb 67 (by decide)]
    · show (S 68 m).toInt.toNat = (st 68 m).toInt.toNat
      rw [kb 68 (by decide)]
  refine ⟨⟨⟨⟨?_, ?_, ?_, ?_, ?_, ?_, ?_⟩, ?_, ?_, ?_, ?_, ?_, ?_, ?_⟩, ⟨⟨?_, ?_, ?_, ?_⟩, ?_, ?_⟩, ?_, ?_⟩, ?_, ?_, ?_⟩
  · show S 2142 = S 2129
    have e1 : st 2142 = st 2129 := p1
    have e2 : st 577 = st 322 := p14
    rw [s0, s2, e1, e2]
  · intro m hm
    rw [eM] at hm
    show S 2143 m = S 67 m
    rw [kb 2143 (by decide), kb 67 (by decide)]
    exact p2 m hm
  · show S 2144 = S 68
    rw [kb 2144 (by decide), kb 68 (by decide)]
    exact p3
  · show S 2145 = S 69
    rw [kb 2145 (by decide), kb 69 (by decide)]
    exact p4
  · show S 2146 = S 70
    rw [kb 2146 (by decide), kb 70 (by decide)]
    exact p5
  · show S 2147 = S 71
    rw [kb 2147 (by decide), kb 71 (by decide)]
    exact p6
  · show S 2148 = S 72
    rw [kb 2148 (by decide), kb 72 (by decide)]
    exact p7
  · show S 2149 = S 66
    rw [kb 2149 (by decide), kb 66 (by decide)]
    exact p8
  · show S 2150 = S 128
    rw [kb 2150 (by decide), kb 128 (by decide)]
    exact p9
  · show S 2151 = S 129
    rw [kb 2151 (by decide), kb 129 (by decide)]
    exact p10
  · show S 2152 = S 130
    rw [kb 2152 (by decide), kb 130 (by decide)]
    exact p11
  · show S 2153 = S 131
    rw [kb 2153 (by decide), kb 131 (by decide)]
    exact p12
  · show S 579 = S 323
    rw [kb 579 (by decide), kb 323 (by decide)]
    exact p13
  · show S 577 = S 322
    have e2 : st 577 = st 322 := p14
    rw [s1, s3, e2]
  · show 0 ≤ (S 323 0).toInt
    rw [kb 323 (by decide)]
    exact v1.1
  · show (S 323 0).toInt ≤ 8
    rw [kb 323 (by decide)]
    exact v1.2.1
  · show 0 ≤ (S 322 0).toInt
    omega
  · show (S 322 0).toInt ≤ 200
    omega
  · intro i
    show 0 ≤ (S 2129 i).toInt ∧ (S 2129 i).toInt ≤ 255
    rw [s0]
    unfold up1
    split
    · exact and_255 x
    · exact v2 i
  · intro m hm
    rw [eM] at hm
    have q := v3 m hm
    rw [VM_i] at q ⊢
    rw [kb 67 (by decide), kb 68 (by decide), kb 69 (by decide), kb 70 (by decide), kb 71 (by decide), kb 72 (by decide), kb 66 (by decide), e13]
    exact ⟨⟨q.1.1, q.1.2.1, by have := q.1.2.2; omega⟩, q.2⟩
  · intro m hm
    rw [eM] at hm
    rw [(enb _).1, (enb _).1, (enb _).2]
    exact vo.1 m hm
  · intro hm
    rw [eM] at hm
    rw [(enb _).1]
    exact vo.2 hm
  · intro m
    rw [kb 66 (by decide)]
    exact a2 m
  · unfold cs_E
    rw [kb 2143 (by decide), kb 579 (by decide), kb 323 (by decide), kb 67 (by decide), kb 68 (by decide)]
    exact a3
  · rw [kb 2143 (by decide)]
    exact a4
theorem IA_mk {S : am_S} (e0 : S 2142 = S 2129) (e1 : ∀ m, m < (S 323 0).toInt.toNat → S 2143 m = S 67 m) (e2 : S 2144 = S 68 ∧ S 2145 = S 69 ∧ S 2146 = S 70 ∧ S 2147 = S 71 ∧ S 2148 = S 72) (e3 : S 2149 = S 66 ∧ S 2150 = S 128 ∧ S 2151 = S 129 ∧ S 2152 = S 130 ∧ S 2153 = S 131) (e4 : S 579 = S 323 ∧ S 577 = S 322) (v1 : 0 ≤ (S 323 0).toInt ∧ (S 323 0).toInt ≤ 8 ∧ 0 ≤ (S 322 0).toInt ∧ (S 322 0).toInt ≤ 200) (v2 : ∀ i, 0 ≤ (S 2129 i).toInt ∧ (S 2129 i).toInt ≤ 255) (v3 : ∀ m, m < (S 323 0).toInt.toNat → (0 ≤ (S 67 m).toInt ∧ 1 ≤ (S 68 m).toInt ∧ (S 67 m).toInt + (S 68 m).toInt ≤ (S 322 0).toInt) ∧ (0 ≤ (S 69 m).toInt ∧ (S 69 m).toInt ≤ 4 ∧ (S 69 m).toInt ≤ (S 70 m).toInt ∧ (S 70 m).toInt ≤ 8 ∧ 0 ≤ (S 71 m).toInt ∧ (S 71 m).toInt ≤ 8) ∧ ((S 72 m = 0 ∨ S 72 m = 1) ∧ 0 ≤ (S 66 m).toInt ∧ (S 66 m).toInt ≤ 4)) (v4 : ∀ m, m + 1 < (S 323 0).toInt.toNat → (S 67 (m + 1)).toInt.toNat = (S 67 m).toInt.toNat + (S 68 m).toInt.toNat) (v5 : 0 < (S 323 0).toInt.toNat → (S 67 0).toInt.toNat = 0) (a2 : ∀ m, 0 ≤ (S 66 m).toInt ∧ (S 66 m).toInt ≤ 4) (a3 : S 2143 (S 579 0).toNatClampNeg = cs_E S) (a4 : S 2143 0 = 0) : IA S := by
  refine ⟨⟨⟨⟨e0, e1, e2.1, e2.2.1, e2.2.2.1, e2.2.2.2.1, e2.2.2.2.2⟩, e3.1, e3.2.1, e3.2.2.1, e3.2.2.2.1, e3.2.2.2.2, e4.1, e4.2⟩, ⟨v1, v2, fun m hm => ?_⟩, v4, v5⟩, a2, a3, a4⟩
  rw [VM_i]
  exact v3 m hm
theorem IA_ge {S : am_S} (h : IA S) : (S 2142 = S 2129 ∧ (∀ m, m < (S 323 0).toInt.toNat → S 2143 m = S 67 m) ∧ (S 2144 = S 68 ∧ S 2145 = S 69 ∧ S 2146 = S 70 ∧ S 2147 = S 71 ∧ S 2148 = S 72) ∧ (S 2149 = S 66 ∧ S 2150 = S 128 ∧ S 2151 = S 129 ∧ S 2152 = S 130 ∧ S 2153 = S 131) ∧ (S 579 = S 323 ∧ S 577 = S 322)) ∧ (0 ≤ (S 323 0).toInt ∧ (S 323 0).toInt ≤ 8 ∧ 0 ≤ (S 322 0).toInt ∧ (S 322 0).toInt ≤ 200) ∧ (∀ i, 0 ≤ (S 2129 i).toInt ∧ (S 2129 i).toInt ≤ 255) ∧ (∀ m, m < (S 323 0).toInt.toNat → (0 ≤ (S 67 m).toInt ∧ 1 ≤ (S 68 m).toInt ∧ (S 67 m).toInt + (S 68 m).toInt ≤ (S 322 0).toInt) ∧ (0 ≤ (S 69 m).toInt ∧ (S 69 m).toInt ≤ 4 ∧ (S 69 m).toInt ≤ (S 70 m).toInt ∧ (S 70 m).toInt ≤ 8 ∧ 0 ≤ (S 71 m).toInt ∧ (S 71 m).toInt ≤ 8) ∧ ((S 72 m = 0 ∨ S 72 m = 1) ∧ 0 ≤ (S 66 m).toInt ∧ (S 66 m).toInt ≤ 4)) ∧ (∀ m, m + 1 < (S 323 0).toInt.toNat → (S 67 (m + 1)).toInt.toNat = (S 67 m).toInt.toNat + (S 68 m).toInt.toNat) ∧ (0 < (S 323 0).toInt.toNat → (S 67 0).toInt.toNat = 0) ∧ (∀ m, 0 ≤ (S 66 m).toInt ∧ (S 66 m).toInt ≤ 4) ∧ S 2143 (S 579 0).toNatClampNeg = cs_E S ∧ S 2143 0 = 0 := by
  obtain ⟨⟨⟨⟨p1, p2, p3, p4, p5, p6, p7⟩, p8, p9, p10, p11, p12, p13, p14⟩, ⟨v1, v2, v3⟩, vo⟩, a2, a3, a4⟩ := h
  refine ⟨⟨p1, p2, ⟨p3, p4, p5, p6, p7⟩, ⟨p8, p9, p10, p11, p12⟩, p13, p14⟩, v1, v2, fun m hm => ?_, vo.1, vo.2, a2, a3, a4⟩
  rw [← VM_i]
  exact v3 m hm
theorem up1_s {r : Nat → Int32} {n : Nat} {v : Int32} : up1 r n v n = v := by
  unfold up1
  rw [if_pos rfl]
theorem up1_o {r : Nat → Int32} {n i : Nat} {v : Int32} (h : ¬ i = n) : up1 r n v i = r i := by
  unfold up1
  rw [if_neg h]
/-- where the methods end, as the class says it -/
theorem cs_E_t {S : am_S} (h : IA S) : 0 ≤ (cs_E S).toInt ∧ (cs_E S).toInt ≤ (S 322 0).toInt ∧ ((S 323 0).toInt.toNat = 0 → cs_E S = 0) ∧ ∀ m, (S 323 0).toInt.toNat = m + 1 → cs_E S = S 67 m + S 68 m ∧ (cs_E S).toInt = (S 67 m).toInt + (S 68 m).toInt := by
  obtain ⟨-, v1, -, v3, -⟩ := IA_ge h
  unfold cs_E
  by_cases e : S 323 0 = 0
  · rw [if_pos e, e]
    refine ⟨by decide, v1.2.2.1, fun _ => rfl, fun m hm => ?_⟩
    simp only [Int32.reduceToInt] at hm
    omega
  · rw [if_neg e]
    have e' : ¬ (S 323 0).toInt = 0 := fun w => e (by rw [i32_eq, w]; rfl)
    have en : (S 323 0 - 1).toNatClampNeg = (S 323 0).toInt.toNat - 1 := by
      rw [nn_eq, i32_subw]
      simp only [Int32.reduceToInt]
      omega
    have q := v3 ((S 323 0).toInt.toNat - 1) (by omega)
    rw [en]
    have es : (S 67 ((S 323 0).toInt.toNat - 1) + S 68 ((S 323 0).toInt.toNat - 1)).toInt = (S 67 ((S 323 0).toInt.toNat - 1)).toInt + (S 68 ((S 323 0).toInt.toNat - 1)).toInt := by
      rw [i32_addw]
      omega
    refine ⟨by omega, by omega, fun w => by omega, fun m hm => ?_⟩
    have em : (S 323 0).toInt.toNat - 1 = m := by omega
    rw [em] at es ⊢
    exact ⟨rfl, es⟩
theorem tn_1 {j j' : Nat} {st : am_S} {x1 x2 x3 x4 g : Int32} (w : pu_INV j st) (hg : g = 0 ∨ g = 1) (h : (cs_nm x2 x3 x4 ∧ 1 ≤ x1 ∧ x1 ≤ st 322 0 - cs_E st) ∧ st 262 0 = 0 ∧ st 323 0 < 8) : pu_INV j' (am_up (am_up (am_up (am_up (am_up (am_up (am_up (am_up (am_up (am_up (am_up (cs_ad st (st 323 0).toNatClampNeg (cs_E st) x1 x2 x3 x4 g) 323 0 (st 323 0 + 1)) 2167 0 (nI (st 323 0).toNatClampNeg)) 576 0 0) 2144 (st 579 0).toNatClampNeg x1) 2145 (st 579 0).toNatClampNeg x2) 2146 (st 579 0).toNatClampNeg x3) 2147 (st 579 0).toNatClampNeg x4) 2148 (st 579 0).toNatClampNeg g) 2149 (st 579 0).toNatClampNeg 0) 2143 (st 579 0 + 1).toNatClampNeg (st 2143 (st 579 0).toNatClampNeg + x1)) 579 0 (st 579 0 + 1)) := by
  have k : am_md (fun b => [67, 68, 69, 70, 71, 72, 66, 323, 2167, 576, 2144, 2145, 2146, 2147, 2148, 2149, 2143, 579].contains b) st (am_up (am_up (am_up (am_up (am_up (am_up (am_up (am_up (am_up (am_up (am_up (cs_ad st (st 323 0).toNatClampNeg (cs_E st) x1 x2 x3 x4 g) 323 0 (st 323 0 + 1)) 2167 0 (nI (st 323 0).toNatClampNeg)) 576 0 0) 2144 (st 579 0).toNatClampNeg x1) 2145 (st 579 0).toNatClampNeg x2) 2146 (st 579 0).toNatClampNeg x3) 2147 (st 579 0).toNatClampNeg x4) 2148 (st 579 0).toNatClampNeg g) 2149 (st 579 0).toNatClampNeg 0) 2143 (st 579 0 + 1).toNatClampNeg (st 2143 (st 579 0).toNatClampNeg + x1)) 579 0 (st 579 0 + 1)) := by
    unfold cs_ad
    exact md_up (md_up (md_up (md_up (md_up (md_up (md_up (md_up (md_up (md_up (md_up (md_up (md_up (md_up (md_up (md_up (md_up (md_up md_refl rfl) rfl) rfl) rfl) rfl) rfl) rfl) rfl) rfl) rfl) rfl) rfl) rfl) rfl) rfl) rfl) rfl) rfl
  have s67 : (am_up (am_up (am_up (am_up (am_up (am_up (am_up (am_up (am_up (am_up (am_up (cs_ad st (st 323 0).toNatClampNeg (cs_E st) x1 x2 x3 x4 g) 323 0 (st 323 0 + 1)) 2167 0 (nI (st 323 0).toNatClampNeg)) 576 0 0) 2144 (st 579 0).toNatClampNeg x1) 2145 (st 579 0).toNatClampNeg x2) 2146 (st 579 0).toNatClampNeg x3) 2147 (st 579 0).toNatClampNeg x4) 2148 (st 579 0).toNatClampNeg g) 2149 (st 579 0).toNatClampNeg 0) 2143 (st 579 0 + 1).toNatClampNeg (st 2143 (st 579 0).toNatClampNeg + x1)) 579 0 (st 579 0 + 1)) 67 = up1 (st 67) (st 323 0).toNatClampNeg (cs_E st) := by
    unfold cs_ad
    simp (disch := decide) only [am_up_bank, up_sf]
  have s68 : (am_up (am_up (am_up (am_up (am_up (am_up (am_up (am_up (am_up (am_up (am_up (cs_ad st (st 323 0).toNatClampNeg (cs_E st) x1 x2 x3 x4 g) 323 0 (st 323 0 + 1)) 2167 0 (nI (st 323 0).toNatClampNeg)) 576 0 0) 2144 (st 579 0).toNatClampNeg x1) 2145 (st 579 0).toNatClampNeg x2) 2146 (st 579 0).toNatClampNeg x3) 2147 (st 579 0).toNatClampNeg x4) 2148 (st 579 0).toNatClampNeg g) 2149 (st 579 0).toNatClampNeg 0) 2143 (st 579 0 + 1).toNatClampNeg (st 2143 (st 579 0).toNatClampNeg + x1)) 579 0 (st 579 0 + 1)) 68 = up1 (st 68) (st 323 0).toNatClampNeg x1 := by
    unfold cs_ad
    simp (disch := decide) only [am_up_bank, up_sf]
  have s69 : (am_up (am_up (am_up (am_up (am_up (am_up (am_up (am_up (am_up (am_up (am_up (cs_ad st (st 323 0).toNatClampNeg (cs_E st) x1 x2 x3 x4 g) 323 0 (st 323 0 + 1)) 2167 0 (nI (st 323 0).toNatClampNeg)) 576 0 0) 2144 (st 579 0).toNatClampNeg x1) 2145 (st 579 0).toNatClampNeg x2) 2146 (st 579 0).toNatClampNeg x3) 2147 (st 579 0).toNatClampNeg x4) 2148 (st 579 0).toNatClampNeg g) 2149 (st 579 0).toNatClampNeg 0) 2143 (st 579 0 + 1).toNatClampNeg (st 2143 (st 579 0).toNatClampNeg + x1)) 579 0 (st 579 0 + 1)) 69 = up1 (st 69) (st 323 0).toNatClampNeg x2 := by
    unfold cs_ad
    simp (disch := decide) only [am_up_bank, up_sf]
  have s70 : (am_up (am_up (am_up (am_up (am_up (am_up (am_up (am_up (am_up (am_up (am_up (cs_ad st (st 323 0).toNatClampNeg (cs_E st) x1 x2 x3 x4 g) 323 0 (st 323 0 + 1)) 2167 0 (nI (st 323 0).toNatClampNeg)) 576 0 0) 2144 (st 579 0).toNatClampNeg x1) 2145 (st 579 0).toNatClampNeg x2) 2146 (st 579 0).toNatClampNeg x3) 2147 (st 579 0).toNatClampNeg x4) 2148 (st 579 0).toNatClampNeg g) 2149 (st 579 0).toNatClampNeg 0) 2143 (st 579 0 + 1).toNatClampNeg (st 2143 (st 579 0).toNatClampNeg + x1)) 579 0 (st 579 0 + 1)) 70 = up1 (st 70) (st 323 0).toNatClampNeg x3 := by
    unfold cs_ad
    simp (disch := decide) only [am_up_bank, up_sf]
  have s71 : (am_up (am_up (am_up (am_up (am_up (am_up (am_up (am_up (am_up (am_up (am_up (cs_ad st (st 323 0).toNatClampNeg (cs_E st) x1 x2 x3 x4 g) 323 0 (st 323 0 + 1)) 2167 0 (nI (st 323 0).toNatClampNeg)) 576 0 0) 2144 (st 579 0).toNatClampNeg x1) 2145 (st 579 0).toNatClampNeg x2) 2146 (st 579 0).toNatClampNeg x3) 2147 (st 579 0).toNatClampNeg x4) 2148 (st 579 0).toNatClampNeg g) 2149 (st 579 0).toNatClampNeg 0) 2143 (st 579 0 + 1).toNatClampNeg (st 2143 (st 579 0).toNatClampNeg + x1)) 579 0 (st 579 0 + 1)) 71 = up1 (st 71) (st 323 0).toNatClampNeg x4 := by
    unfold cs_ad
    simp (disch := decide) only [am_up_bank, up_sf]
  have s72 : (am_up (am_up (am_up (am_up (am_up (am_up (am_up (am_up (am_up (am_up (am_up (cs_ad st (st 323 0).toNatClampNeg (cs_E st) x1 x2 x3 x4 g) 323 0 (st 323 0 + 1)) 2167 0 (nI (st 323 0).toNatClampNeg)) 576 0 0) 2144 (st 579 0).toNatClampNeg x1) 2145 (st 579 0).toNatClampNeg x2) 2146 (st 579 0).toNatClampNeg x3) 2147 (st 579 0).toNatClampNeg x4) 2148 (st 579 0).toNatClampNeg g) 2149 (st 579 0).toNatClampNeg 0) 2143 (st 579 0 + 1).toNatClampNeg (st 2143 (st 579 0).toNatClampNeg + x1)) 579 0 (st 579 0 + 1)) 72 = up1 (st 72) (st 323 0).toNatClampNeg g := by
    unfold cs_ad
    simp (disch := decide) only [am_up_bank, up_sf]
  have s66 : (am_up (am_up (am_up (am_up (am_up (am_up (am_up (am_up (am_up (am_up (am_up (cs_ad st (st 323 0).toNatClampNeg (cs_E st) x1 x2 x3 x4 g) 323 0 (st 323 0 + 1)) 2167 0 (nI (st 323 0).toNatClampNeg)) 576 0 0) 2144 (st 579 0).toNatClampNeg x1) 2145 (st 579 0).toNatClampNeg x2) 2146 (st 579 0).toNatClampNeg x3) 2147 (st 579 0).toNatClampNeg x4) 2148 (st 579 0).toNatClampNeg g) 2149 (st 579 0).toNatClampNeg 0) 2143 (st 579 0 + 1).toNatClampNeg (st 2143 (st 579 0).toNatClampNeg + x1)) 579 0 (st 579 0 + 1)) 66 = up1 (st 66) (st 323 0).toNatClampNeg 0 := by
    unfold cs_ad
    simp (disch := decide) only [am_up_bank, up_sf]
  have s323 : (am_up (am_up (am_up (am_up (am_up (am_up (am_up (am_up (am_up (am_up (am_up (cs_ad st (st 323 0).toNatClampNeg (cs_E st) x1 x2 x3 x4 g) 323 0 (st 323 0 + 1)) 2167 0 (nI (st 323 0).toNatClampNeg)) 576 0 0) 2144 (st 579 0).toNatClampNeg x1) 2145 (st 579 0).toNatClampNeg x2) 2146 (st 579 0).toNatClampNeg x3) 2147 (st 579 0).toNatClampNeg x4) 2148 (st 579 0).toNatClampNeg g) 2149 (st 579 0).toNatClampNeg 0) 2143 (st 579 0 + 1).toNatClampNeg (st 2143 (st 579 0).toNatClampNeg + x1)) 579 0 (st 579 0 + 1)) 323 = up1 (st 323) 0 (st 323 0 + 1) := by
    unfold cs_ad
    simp (disch := decide) only [am_up_bank, up_sf]
  have s2144 : (am_up (am_up (am_up (am_up (am_up (am_up (am_up (am_up (am_up (am_up (am_up (cs_ad st (st 323 0).toNatClampNeg (cs_E st) x1 x2 x3 x4 g) 323 0 (st 323 0 + 1)) 2167 0 (nI (st 323 0).toNatClampNeg)) 576 0 0) 2144 (st 579 0).toNatClampNeg x1) 2145 (st 579 0).toNatClampNeg x2) 2146 (st 579 0).toNatClampNeg x3) 2147 (st 579 0).toNatClampNeg x4) 2148 (st 579 0).toNatClampNeg g) 2149 (st 579 0).toNatClampNeg 0) 2143 (st 579 0 + 1).toNatClampNeg (st 2143 (st 579 0).toNatClampNeg + x1)) 579 0 (st 579 0 + 1)) 2144 = up1 (st 2144) (st 579 0).toNatClampNeg x1 := by
    unfold cs_ad
    simp (disch := decide) only [am_up_bank, up_sf]
  have s2145 : (am_up (am_up (am_up (am_up (am_up (am_up (am_up (am_up (am_up (am_up (am_up (cs_ad st (st 323 0).toNatClampNeg (cs_E st) x1 x2 x3 x4 g) 323 0 (st 323 0 + 1)) 2167 0 (nI (st 323 0).toNatClampNeg)) 576 0 0) 2144 (st 579 0).toNatClampNeg x1) 2145 (st 579 0).toNatClampNeg x2) 2146 (st 579 0).toNatClampNeg x3) 2147 (st 579 0).toNatClampNeg x4) 2148 (st 579 0).toNatClampNeg g) 2149 (st 579 0).toNatClampNeg 0) 2143 (st 579 0 + 1).toNatClampNeg (st 2143 (st 579 0).toNatClampNeg + x1)) 579 0 (st 579 0 + 1)) 2145 = up1 (st 2145) (st 579 0).toNatClampNeg x2 := by
    unfold cs_ad
    simp (disch := decide) only [am_up_bank, up_sf]
  have s2146 : (am_up (am_up (am_up (am_up (am_up (am_up (am_up (am_up (am_up (am_up (am_up (cs_ad st (st 323 0).toNatClampNeg (cs_E st) x1 x2 x3 x4 g) 323 0 (st 323 0 + 1)) 2167 0 (nI (st 323 0).toNatClampNeg)) 576 0 0) 2144 (st 579 0).toNatClampNeg x1) 2145 (st 579 0).toNatClampNeg x2) 2146 (st 579 0).toNatClampNeg x3) 2147 (st 579 0).toNatClampNeg x4) 2148 (st 579 0).toNatClampNeg g) 2149 (st 579 0).toNatClampNeg 0) 2143 (st 579 0 + 1).toNatClampNeg (st 2143 (st 579 0).toNatClampNeg + x1)) 579 0 (st 579 0 + 1)) 2146 = up1 (st 2146) (st 579 0).toNatClampNeg x3 := by
    unfold cs_ad
    simp (disch := decide) only [am_up_bank, up_sf]
  have s2147 : (am_up (am_up (am_up (am_up (am_up (am_up (am_up (am_up (am_up (am_up (am_up (cs_ad st (st 323 0).toNatClampNeg (cs_E st) x1 x2 x3 x4 g) 323 0 (st 323 0 + 1)) 2167 0 (nI (st 323 0).toNatClampNeg)) 576 0 0) 2144 (st 579 0).toNatClampNeg x1) 2145 (st 579 0).toNatClampNeg x2) 2146 (st 579 0).toNatClampNeg x3) 2147 (st 579 0).toNatClampNeg x4) 2148 (st 579 0).toNatClampNeg g) 2149 (st 579 0).toNatClampNeg 0) 2143 (st 579 0 + 1).toNatClampNeg (st 2143 (st 579 0).toNatClampNeg + x1)) 579 0 (st 579 0 + 1)) 2147 = up1 (st 2147) (st 579 0).toNatClampNeg x4 := by
    unfold cs_ad
    simp (disch := decide) only [am_up_bank, up_sf]
  have s2148 : (am_up (am_up (am_up (am_up (am_up (am_up (am_up (am_up (am_up (am_up (am_up (cs_ad st (st 323 0).toNatClampNeg (cs_E st) x1 x2 x3 x4 g) 323 0 (st 323 0 + 1)) 2167 0 (nI (st 323 0).toNatClampNeg)) 576 0 0) 2144 (st 579 0).toNatClampNeg x1) 2145 (st 579 0).toNatClampNeg x2) 2146 (st 579 0).toNatClampNeg x3) 2147 (st 579 0).toNatClampNeg x4) 2148 (st 579 0).toNatClampNeg g) 2149 (st 579 0).toNatClampNeg 0) 2143 (st 579 0 + 1).toNatClampNeg (st 2143 (st 579 0).toNatClampNeg + x1)) 579 0 (st 579 0 + 1)) 2148 = up1 (st 2148) (st 579 0).toNatClampNeg g := by
    unfold cs_ad
    simp (disch := decide) only [am_up_bank, up_sf]
  have s2149 : (am_up (am_up (am_up (am_up (am_up (am_up (am_up (am_up (am_up (am_up (am_up (cs_ad st (st 323 0).toNatClampNeg (cs_E st) x1 x2 x3 x4 g) 323 0 (st 323 0 + 1)) 2167 0 (nI (st 323 0).toNatClampNeg)) 576 0 0) 2144 (st 579 0).toNatClampNeg x1) 2145 (st 579 0).toNatClampNeg x2) 2146 (st 579 0).toNatClampNeg x3) 2147 (st 579 0).toNatClampNeg x4) 2148 (st 579 0).toNatClampNeg g) 2149 (st 579 0).toNatClampNeg 0) 2143 (st 579 0 + 1).toNatClampNeg (st 2143 (st 579 0).toNatClampNeg + x1)) 579 0 (st 579 0 + 1)) 2149 = up1 (st 2149) (st 579 0).toNatClampNeg 0 := by
    unfold cs_ad
    simp (disch := decide) only [am_up_bank, up_sf]
  have s2143 : (am_up (am_up (am_up (am_up (am_up (am_up (am_up (am_up (am_up (am_up (am_up (cs_ad st (st 323 0).toNatClampNeg (cs_E st) x1 x2 x3 x4 g) 323 0 (st 323 0 + 1)) 2167 0 (nI (st 323 0).toNatClampNeg)) 576 0 0) 2144 (st 579 0).toNatClampNeg x1) 2145 (st 579 0).toNatClampNeg x2) 2146 (st 579 0).toNatClampNeg x3) 2147 (st 579 0).toNatClampNeg x4) 2148 (st 579 0).toNatClampNeg g) 2149 (st 579 0).toNatClampNeg 0) 2143 (st 579 0 + 1).toNatClampNeg (st 2143 (st 579 0).toNatClampNeg + x1)) 579 0 (st 579 0 + 1)) 2143 = up1 (st 2143) (st 579 0 + 1).toNatClampNeg (st 2143 (st 579 0).toNatClampNeg + x1) := by
    unfold cs_ad
    simp (disch := decide) only [am_up_bank, up_sf]
  have s579 : (am_up (am_up (am_up (am_up (am_up (am_up (am_up (am_up (am_up (am_up (am_up (cs_ad st (st 323 0).toNatClampNeg (cs_E st) x1 x2 x3 x4 g) 323 0 (st 323 0 + 1)) 2167 0 (nI (st 323 0).toNatClampNeg)) 576 0 0) 2144 (st 579 0).toNatClampNeg x1) 2145 (st 579 0).toNatClampNeg x2) 2146 (st 579 0).toNatClampNeg x3) 2147 (st 579 0).toNatClampNeg x4) 2148 (st 579 0).toNatClampNeg g) 2149 (st 579 0).toNatClampNeg 0) 2143 (st 579 0 + 1).toNatClampNeg (st 2143 (st 579 0).toNatClampNeg + x1)) 579 0 (st 579 0 + 1)) 579 = up1 (st 579) 0 (st 579 0 + 1) := by
    unfold cs_ad
    simp (disch := decide) only [am_up_bank, up_sf]
  generalize (am_up (am_up (am_up (am_up (am_up (am_up (am_up (am_up (am_up (am_up (am_up (cs_ad st (st 323 0).toNatClampNeg (cs_E st) x1 x2 x3 x4 g) 323 0 (st 323 0 + 1)) 2167 0 (nI (st 323 0).toNatClampNeg)) 576 0 0) 2144 (st 579 0).toNatClampNeg x1) 2145 (st 579 0).toNatClampNeg x2) 2146 (st 579 0).toNatClampNeg x3) 2147 (st 579 0).toNatClampNeg x4) 2148 (st 579 0).toNatClampNeg g) 2149 (st 579 0).toNatClampNeg 0) 2143 (st 579 0 + 1).toNatClampNeg (st 2143 (st 579 0).toNatClampNeg + x1)) 579 0 (st 579 0 + 1)) = S at *
  obtain ⟨⟨e0, e1, ⟨f1, f2, f3, f4, f5⟩, ⟨f6, f7, f8, f9, f10⟩, f11, f12⟩, b1, b2, b3, b4, b5, a2, a3, a4⟩ := IA_ge w.1.1
  obtain ⟨cE0, cE1, cE2, cE3⟩ := cs_E_t w.1.1
  obtain ⟨⟨⟨n1, n2, n3, n4, n5, n6⟩, l1, l2⟩, h262, l8⟩ := h
  refine INV_pr w h262 ?_ (md_Ls k (by decide)) (md_Ls k (by decide)) (md_Rs k (by decide))
  have kb : ∀ b ∈ [2129, 128, 129, 130, 131, 322, 2142, 2150, 2151, 2152, 2153, 577], S b = st b := md_Ls k (by decide)
  clear k
  rw [i32_le] at n1 n2 n3 n4 n5 n6 l1 l2
  rw [i32_lt] at l8
  rw [i32_subw] at l2
  simp only [Int32.reduceToInt] at n1 n2 n3 n4 n5 n6 l1 l2 l8
  rw [f11] at s2144 s2145 s2146 s2147 s2148 s2149 s2143 s579 a3
  rw [a3] at s2143
  have hn : (st 323 0).toNatClampNeg = (st 323 0).toInt.toNat := nn_eq
  have ep : (st 323 0 + 1).toInt = (st 323 0).toInt + 1 := by
    rw [i32_addw]
    simp only [Int32.reduceToInt]
    omega
  have hn1 : (st 323 0 + 1).toNatClampNeg = (st 323 0).toInt.toNat + 1 := by
    rw [nn_eq, ep]
    omega
  rw [hn1] at s2143
  rw [hn] at s67 s68 s69 s70 s71 s72 s66 s2144 s2145 s2146 s2147 s2148 s2149 a3
  have e323 : (S 323 0).toInt.toNat = (st 323 0).toInt.toNat + 1 := by
    rw [s323, up1_s, ep]
    omega
  have l2' : (cs_E st).toInt + x1.toInt ≤ (st 322 0).toInt := by omega
  have e322 : S 322 = st 322 := kb 322 (by decide)
  generalize hN : (st 323 0).toInt.toNat = N at *
  have o : ∀ m, m < N → S 67 m = st 67 m ∧ S 68 m = st 68 m ∧ S 69 m = st 69 m ∧ S 70 m = st 70 m ∧ S 71 m = st 71 m ∧ S 72 m = st 72 m := by
    intro m hm
    rw [s67, s68, s69, s70, s71, s72]
    exact ⟨up1_o (by omega), up1_o (by omega), up1_o (by omega), up1_o (by omega), up1_o (by omega), up1_o (by omega)⟩
  have a2' : ∀ m, 0 ≤ (S 66 m).toInt ∧ (S 66 m).toInt ≤ 4 := by
    intro m
    rw [s66]
    unfold up1
    split
    · decide
    · exact a2 m
  refine IA_mk ?_ ?_ ⟨?_, ?_, ?_, ?_, ?_⟩ ⟨?_, ?_, ?_, ?_, ?_⟩ ⟨?_, ?_⟩ ?_ ?_ ?_ ?_ ?_ a2' ?_ ?_
  · rw [kb 2142 (by decide), kb 2129 (by decide)]
    exact e0
  · intro m hm
    rw [s2143, s67, up1_o (by omega)]
    by_cases e : m = N
    · rw [e, up1_s]
      exact a3
    · rw [up1_o e]
      exact e1 m (by omega)
  · rw [s2144, s68, f1]
  · rw [s2145, s69, f2]
  · rw [s2146, s70, f3]
  · rw [s2147, s71, f4]
  · rw [s2148, s72, f5]
  · rw [s2149, s66, f6]
  · rw [kb 2150 (by decide), kb 128 (by decide), f7]
  · rw [kb 2151 (by decide), kb 129 (by decide), f8]
  · rw [kb 2152 (by decide), kb 130 (by decide), f9]
  · rw [kb 2153 (by decide), kb 131 (by decide), f10]
  · rw [s579, s323]
  · rw [kb 577 (by decide), kb 322 (by decide), f12]
  · rw [s323, up1_s, ep, e322]
    omega
  · rw [kb 2129 (by decide)]
    exact b2
  · intro m hm
    rw [e322]
    by_cases e : m = N
    · refine ⟨?_, ?_, ?_, a2' m⟩
      · rw [s67, s68, e, up1_s, up1_s]
        omega
      · rw [s69, s70, s71, e, up1_s, up1_s, up1_s]
        omega
      · rw [s72, e, up1_s]
        exact hg
    · obtain ⟨o1, o2, o3, o4, o5, o6⟩ := o m (by omega)
      rw [o1, o2, o3, o4, o5, o6]
      have q := b3 m (by omega)
      exact ⟨q.1, q.2.1, q.2.2.1, a2' m⟩
  · intro m hm
    by_cases e : m + 1 = N
    · obtain ⟨o1, o2, -⟩ := o m (by omega)
      rw [s67, e, up1_s, ← s67, o1, o2, (cE3 m (by omega)).2]
      have q := b3 m (by omega)
      omega
    · rw [(o m (by omega)).1, (o m (by omega)).2.1, (o (m + 1) (by omega)).1]
      exact b4 m (by omega)
  · intro hm
    by_cases e : N = 0
    · rw [s67, e, up1_s, cE2 e]
      rfl
    · rw [(o 0 (by omega)).1]
      exact b5 (by omega)
  · rw [s579, up1_s, hn1, s2143, up1_s]
    unfold cs_E
    have e0 : ¬ S 323 0 = 0 := by
      rw [s323, up1_s, i32_eq, ep]
      simp only [Int32.reduceToInt]
      omega
    have e2 : (S 323 0 - 1).toNatClampNeg = N := by
      rw [s323, up1_s, nn_eq, i32_subw, ep]
      simp only [Int32.reduceToInt]
      omega
    rw [if_neg e0, e2, s67, s68, up1_s, up1_s]
    rfl
  · rw [s2143, up1_o (by omega)]
    exact a4
theorem tn_2 {j j' : Nat} {st : am_S} {x1 x2 x3 x4 : Int32} (w : pu_INV j st) (h : st 262 0 = 0 ∧ ¬ st 323 0 = 0 ∧ st 66 (st 323 0 - 1).toNatClampNeg < 4) : pu_INV j' (am_up (am_up (am_up (am_up (am_up (am_up (am_up (am_up (am_up (am_up (am_up st 128 (cs_h st) x1) 129 (cs_h st) x2) 130 (cs_h st) x3) 131 (cs_h st) x4) 66 (cs_m st) (st 66 (cs_m st) + 1)) 576 0 0) 2150 (ms_h st) x1) 2151 (ms_h st) x2) 2152 (ms_h st) x3) 2153 (ms_h st) x4) 2149 (ms_m st) (st 2149 (ms_m st) + 1)) := by
  have k : am_md (fun b => [128, 129, 130, 131, 66, 576, 2150, 2151, 2152, 2153, 2149].contains b) st (am_up (am_up (am_up (am_up (am_up (am_up (am_up (am_up (am_up (am_up (am_up st 128 (cs_h st) x1) 129 (cs_h st) x2) 130 (cs_h st) x3) 131 (cs_h st) x4) 66 (cs_m st) (st 66 (cs_m st) + 1)) 576 0 0) 2150 (ms_h st) x1) 2151 (ms_h st) x2) 2152 (ms_h st) x3) 2153 (ms_h st) x4) 2149 (ms_m st) (st 2149 (ms_m st) + 1)) := md_up (md_up (md_up (md_up (md_up (md_up (md_up (md_up (md_up (md_up (md_up md_refl rfl) rfl) rfl) rfl) rfl) rfl) rfl) rfl) rfl) rfl) rfl
  have s128 : (am_up (am_up (am_up (am_up (am_up (am_up (am_up (am_up (am_up (am_up (am_up st 128 (cs_h st) x1) 129 (cs_h st) x2) 130 (cs_h st) x3) 131 (cs_h st) x4) 66 (cs_m st) (st 66 (cs_m st) + 1)) 576 0 0) 2150 (ms_h st) x1) 2151 (ms_h st) x2) 2152 (ms_h st) x3) 2153 (ms_h st) x4) 2149 (ms_m st) (st 2149 (ms_m st) + 1)) 128 = up1 (st 128) (cs_h st) x1 := by
    simp (disch := decide) only [am_up_bank, up_sf]
  have s129 : (am_up (am_up (am_up (am_up (am_up (am_up (am_up (am_up (am_up (am_up (am_up st 128 (cs_h st) x1) 129 (cs_h st) x2) 130 (cs_h st) x3) 131 (cs_h st) x4) 66 (cs_m st) (st 66 (cs_m st) + 1)) 576 0 0) 2150 (ms_h st) x1) 2151 (ms_h st) x2) 2152 (ms_h st) x3) 2153 (ms_h st) x4) 2149 (ms_m st) (st 2149 (ms_m st) + 1)) 129 = up1 (st 129) (cs_h st) x2 := by
    simp (disch := decide) only [am_up_bank, up_sf]
  have s130 : (am_up (am_up (am_up (am_up (am_up (am_up (am_up (am_up (am_up (am_up (am_up st 128 (cs_h st) x1) 129 (cs_h st) x2) 130 (cs_h st) x3) 131 (cs_h st) x4) 66 (cs_m st) (st 66 (cs_m st) + 1)) 576 0 0) 2150 (ms_h st) x1) 2151 (ms_h st) x2) 2152 (ms_h st) x3) 2153 (ms_h st) x4) 2149 (ms_m st) (st 2149 (ms_m st) + 1)) 130 = up1 (st 130) (cs_h st) x3 := by
    simp (disch := decide) only [am_up_bank, up_sf]
  have s131 : (am_up (am_up (am_up (am_up (am_up (am_up (am_up (am_up (am_up (am_up (am_up st 128 (cs_h st) x1) 129 (cs_h st) x2) 130 (cs_h st) x3) 131 (cs_h st) x4) 66 (cs_m st) (st 66 (cs_m st) + 1)) 576 0 0) 2150 (ms_h st) x1) 2151 (ms_h st) x2) 2152 (ms_h st) x3) 2153 (ms_h st) x4) 2149 (ms_m st) (st 2149 (ms_m st) + 1)) 131 = up1 (st 131) (cs_h st) x4 := by
    simp (disch := decide) only [am_up_bank, up_sf]
  have s66 : (am_up (am_up (am_up (am_up (am_up (am_up (am_up (am_up (am_up (am_up (am_up st 128 (cs_h st) x1) 129 (cs_h st) x2) 130 (cs_h st) x3) 131 (cs_h st) x4) 66 (cs_m st) (st 66 (cs_m st) + 1)) 576 0 0) 2150 (ms_h st) x1) 2151 (ms_h st) x2) 2152 (ms_h st) x3) 2153 (ms_h st) x4) 2149 (ms_m st) (st 2149 (ms_m st) + 1)) 66 = up1 (st 66) (cs_m st) (st 66 (cs_m st) + 1) := by
    simp (disch := decide) only [am_up_bank, up_sf]
  have s2150 : (am_up (am_up (am_up (am_up (am_up (am_up (am_up (am_up (am_up (am_up (am_up st 128 (cs_h st) x1) 129 (cs_h st) x2) 130 (cs_h st) x3) 131 (cs_h st) x4) 66 (cs_m st) (st 66 (cs_m st) + 1)) 576 0 0) 2150 (ms_h st) x1) 2151 (ms_h st) x2) 2152 (ms_h st) x3) 2153 (ms_h st) x4) 2149 (ms_m st) (st 2149 (ms_m st) + 1)) 2150 = up1 (st 2150) (ms_h st) x1 := by
    simp (disch := decide) only [am_up_bank, up_sf]
  have s2151 : (am_up (am_up (am_up (am_up (am_up (am_up (am_up (am_up (am_up (am_up (am_up st 128 (cs_h st) x1) 129 (cs_h st) x2) 130 (cs_h st) x3) 131 (cs_h st) x4) 66 (cs_m st) (st 66 (cs_m st) + 1)) 576 0 0) 2150 (ms_h st) x1) 2151 (ms_h st) x2) 2152 (ms_h st) x3) 2153 (ms_h st) x4) 2149 (ms_m st) (st 2149 (ms_m st) + 1)) 2151 = up1 (st 2151) (ms_h st) x2 := by
    simp (disch := decide) only [am_up_bank, up_sf]
  have s2152 : (am_up (am_up (am_up (am_up (am_up (am_up (am_up (am_up (am_up (am_up (am_up st 128 (cs_h st) x1) 129 (cs_h st) x2) 130 (cs_h st) x3) 131 (cs_h st) x4) 66 (cs_m st) (st 66 (cs_m st) + 1)) 576 0 0) 2150 (ms_h st) x1) 2151 (ms_h st) x2) 2152 (ms_h st) x3) 2153 (ms_h st) x4) 2149 (ms_m st) (st 2149 (ms_m st) + 1)) 2152 = up1 (st 2152) (ms_h st) x3 := by
    simp (disch := decide) only [am_up_bank, up_sf]
  have s2153 : (am_up (am_up (am_up (am_up (am_up (am_up (am_up (am_up (am_up (am_up (am_up st 128 (cs_h st) x1) 129 (cs_h st) x2) 130 (cs_h st) x3) 131 (cs_h st) x4) 66 (cs_m st) (st 66 (cs_m st) + 1)) 576 0 0) 2150 (ms_h st) x1) 2151 (ms_h st) x2) 2152 (ms_h st) x3) 2153 (ms_h st) x4) 2149 (ms_m st) (st 2149 (ms_m st) + 1)) 2153 = up1 (st 2153) (ms_h st) x4 := by
    simp (disch := decide) only [am_up_bank, up_sf]
  have s2149 : (am_up (am_up (am_up (am_up (am_up (am_up (am_up (am_up (am_up (am_up (am_up st 128 (cs_h st) x1) 129 (cs_h st) x2) 130 (cs_h st) x3) 131 (cs_h st) x4) 66 (cs_m st) (st 66 (cs_m st) + 1)) 576 0 0) 2150 (ms_h st) x1) 2151 (ms_h st) x2) 2152 (ms_h st) x3) 2153 (ms_h st) x4) 2149 (ms_m st) (st 2149 (ms_m st) + 1)) 2149 = up1 (st 2149) (ms_m st) (st 2149 (ms_m st) + 1) := by
    simp (disch := decide) only [am_up_bank, up_sf]
  generalize (am_up (am_up (am_up (am_up (am_up (am_up (am_up (am_up (am_up (am_up (am_up st 128 (cs_h st) x1) 129 (cs_h st) x2) 130 (cs_h st) x3) 131 (cs_h st) x4) 66 (cs_m st) (st 66 (cs_m st) + 1)) 576 0 0) 2150 (ms_h st) x1) 2151 (ms_h st) x2) 2152 (ms_h st) x3) 2153 (ms_h st) x4) 2149 (ms_m st) (st 2149 (ms_m st) + 1)) = S at *
  obtain ⟨⟨e0, e1, ⟨f1, f2, f3, f4, f5⟩, ⟨f6, f7, f8, f9, f10⟩, f11, f12⟩, b1, b2, b3, b4, b5, a2, a3, a4⟩ := IA_ge w.1.1
  obtain ⟨h262, l0, l4⟩ := h
  refine INV_pr w h262 ?_ (md_Ls k (by decide)) (md_Ls k (by decide)) (md_Rs k (by decide))
  have kb : ∀ b ∈ [2129, 67, 68, 69, 70, 71, 72, 322, 323, 2142, 2143, 2144, 2145, 2146, 2147, 2148, 577, 579], S b = st b := md_Ls k (by decide)
  clear k
  rw [i32_lt] at l4
  rw [i32_eq] at l0
  simp only [Int32.reduceToInt] at l0 l4
  have em : ms_m st = cs_m st := by
    unfold ms_m cs_m
    rw [f11]
  have hm : cs_m st = (st 323 0).toInt.toNat - 1 ∧ (st 323 0 - 1).toInt = (st 323 0).toInt - 1 := by
    unfold cs_m
    rw [nn_eq, i32_subw]
    simp only [Int32.reduceToInt]
    omega
  have c66 := a2 (cs_m st)
  have l4' : (st 66 (cs_m st)).toInt < 4 := l4
  have eh : ms_h st = cs_h st := by
    unfold ms_h cs_h
    rw [em, f6, f11, nn_eq, nn_eq, i32_addw, i32_mulw, hm.2, hm.1]
    simp only [Int32.reduceToInt]
    rw [hm.1] at c66 l4'
    omega
  rw [em] at s2149
  rw [eh] at s2150 s2151 s2152 s2153
  have ep : (st 66 (cs_m st) + 1).toInt = (st 66 (cs_m st)).toInt + 1 := by
    rw [i32_addw]
    simp only [Int32.reduceToInt]
    omega
  have a2' : ∀ m, 0 ≤ (S 66 m).toInt ∧ (S 66 m).toInt ≤ 4 := by
    intro m
    rw [s66]
    unfold up1
    split
    · rw [ep]
      omega
    · exact a2 m
  have e323 := kb 323 (by decide)
  have e67 := kb 67 (by decide)
  have e68 := kb 68 (by decide)
  refine IA_mk ?_ ?_ ⟨?_, ?_, ?_, ?_, ?_⟩ ⟨?_, ?_, ?_, ?_, ?_⟩ ⟨?_, ?_⟩ ?_ ?_ ?_ ?_ ?_ a2' ?_ ?_
  · rw [kb 2142 (by decide), kb 2129 (by decide)]
    exact e0
  · rw [kb 2143 (by decide), e67, e323]
    exact e1
  · rw [kb 2144 (by decide), e68, f1]
  · rw [kb 2145 (by decide), kb 69 (by decide), f2]
  · rw [kb 2146 (by decide), kb 70 (by decide), f3]
  · rw [kb 2147 (by decide), kb 71 (by decide), f4]
  · rw [kb 2148 (by decide), kb 72 (by decide), f5]
  · rw [s2149, s66, f6]
  · rw [s2150, s128, f7]
  · rw [s2151, s129, f8]
  · rw [s2152, s130, f9]
  · rw [s2153, s131, f10]
  · rw [kb 579 (by decide), e323, f11]
  · rw [kb 577 (by decide), kb 322 (by decide), f12]
  · rw [e323, kb 322 (by decide)]
    exact b1
  · rw [kb 2129 (by decide)]
    exact b2
  · intro m hm
    rw [e323] at hm
    have q := b3 m hm
    rw [e67, e68, kb 69 (by decide), kb 70 (by decide), kb 71 (by decide), kb 72 (by decide), kb 322 (by decide)]
    exact ⟨q.1, q.2.1, q.2.2.1, a2' m⟩
  · rw [e323, e67, e68]
    exact b4
  · rw [e323, e67]
    exact b5
  · unfold cs_E
    rw [kb 2143 (by decide), kb 579 (by decide), e323, e67, e68]
    exact a3
  · rw [kb 2143 (by decide)]
    exact a4
theorem INV_g {j j' : Nat} {s t : am_S} (w : pu_INV j s) (h1 : ∀ b ∈ iaL, t b = s b) (h2 : ∀ b ∈ itL, t b = s b) (h3 : ∀ b ∈ rcL, t b = s b) (hm : ∀ b, mR b = true → t b = s b) (hG : IG t) : pu_INV j' t := by
  obtain ⟨⟨w1, w2⟩, T, w3, A, D, ⟨w4, w5⟩, w6⟩ := w
  refine ⟨⟨IA_md h1 w1, hG⟩, T, IT_md h1 h2 w3, A, D, ⟨?_, fun b hb => (hm b hb).trans (w5 b hb)⟩, ?_⟩
  · rw [iP_md h1]
    exact RC_md h3 w4
  · rw [iP_md h1, h2 262 (by decide)]
    exact w6
theorem tn_6 {j j' : Nat} {st : am_S} {x : Int32} (w : pu_INV j st) (h : st 261 0 < 4) : pu_INV j' (am_up (am_up (am_up (am_up (am_up st 2141 (st 261 0).toNatClampNeg x) 261 0 (st 261 0 + 1)) 576 0 0) 2159 (st 601 0).toNatClampNeg x) 601 0 (st 601 0 + 1)) := by
  have k : am_md (fun b => [2141, 261, 576, 2159, 601].contains b) st (am_up (am_up (am_up (am_up (am_up st 2141 (st 261 0).toNatClampNeg x) 261 0 (st 261 0 + 1)) 576 0 0) 2159 (st 601 0).toNatClampNeg x) 601 0 (st 601 0 + 1)) := md_up (md_up (md_up (md_up (md_up md_refl rfl) rfl) rfl) rfl) rfl
  have s2141 : (am_up (am_up (am_up (am_up (am_up st 2141 (st 261 0).toNatClampNeg x) 261 0 (st 261 0 + 1)) 576 0 0) 2159 (st 601 0).toNatClampNeg x) 601 0 (st 601 0 + 1)) 2141 = up1 (st 2141) (st 261 0).toNatClampNeg x := by
    simp (disch := decide) only [am_up_bank, up_sf]
  have s2159 : (am_up (am_up (am_up (am_up (am_up st 2141 (st 261 0).toNatClampNeg x) 261 0 (st 261 0 + 1)) 576 0 0) 2159 (st 601 0).toNatClampNeg x) 601 0 (st 601 0 + 1)) 2159 = up1 (st 2159) (st 601 0).toNatClampNeg x := by
    simp (disch := decide) only [am_up_bank, up_sf]
  have s261 : (am_up (am_up (am_up (am_up (am_up st 2141 (st 261 0).toNatClampNeg x) 261 0 (st 261 0 + 1)) 576 0 0) 2159 (st 601 0).toNatClampNeg x) 601 0 (st 601 0 + 1)) 261 = up1 (st 261) 0 (st 261 0 + 1) := by
    simp (disch := decide) only [am_up_bank, up_sf]
  have s601 : (am_up (am_up (am_up (am_up (am_up st 2141 (st 261 0).toNatClampNeg x) 261 0 (st 261 0 + 1)) 576 0 0) 2159 (st 601 0).toNatClampNeg x) 601 0 (st 601 0 + 1)) 601 = up1 (st 601) 0 (st 601 0 + 1) := by
    simp (disch := decide) only [am_up_bank, up_sf]
  generalize (am_up (am_up (am_up (am_up (am_up st 2141 (st 261 0).toNatClampNeg x) 261 0 (st 261 0 + 1)) 576 0 0) 2159 (st 601 0).toNatClampNeg x) 601 0 (st 601 0 + 1)) = S at *
  obtain ⟨g1, g2, g3, g4⟩ := w.1.2
  refine INV_g w (md_Ls k (by decide)) (md_Ls k (by decide)) (md_Ls k (by decide)) (md_Rs k (by decide)) ⟨?_, ?_, ?_, ?_⟩
  · have kb : ∀ b ∈ [591, 262, 263, 592], S b = st b := md_Ls k (by decide)
    rw [kb 591 (by decide), kb 262 (by decide), kb 263 (by decide), kb 592 (by decide)]
    exact g1
  · rw [i32_lt] at h
    simp only [Int32.reduceToInt] at h
    have ep : (st 261 0 + 1).toInt = (st 261 0).toInt + 1 := by
      rw [i32_addw]
      simp only [Int32.reduceToInt]
      omega
    rw [s261, up1_s, ep]
    omega
  · rw [s601, s261, up1_s, up1_s, g3]
  · rw [s2159, s2141, g3, g4]
theorem RC_no {P S : am_S} (h1 : S 519 0 = 0) (h2 : S 610 0 = 0) (h3 : ∀ i, i < 8 → S 2139 i = S 2160 i) (h4 : S 520 0 = 0) (h5 : S 606 0 = 0) (h6 : S 521 0 = 0) (h7 : S 603 0 = 0) (h8 : S 522 0 = 0) : RC P S S := by
  have e0 : fn S = 0 := by unfold fn; rw [h2]; rfl
  refine ⟨⟨by rw [h1, h2], fun w => by omega⟩, fun f w => by omega, fun f w => by omega, h3, ⟨by rw [h4, h5], fun i hi => ?_⟩, by rw [h6, h7], ?_⟩
  · rw [h5] at hi
    exact absurd hi (by simp only [Int32.reduceToInt]; omega)
  · rw [h7, h8, if_neg (by decide)]
theorem IM_no {S : am_S} {T : Nat → am_T} (h1 : S 519 0 = 0) (h2 : S 610 0 = 0) (h3 : ∀ i, i < 8 → S 2139 i = S 2160 i) (h4 : S 520 0 = 0) (h5 : S 606 0 = 0) (h6 : S 521 0 = 0) (h7 : S 603 0 = 0) (h8 : S 522 0 = 0) : IM S T := by
  refine ⟨S, fun _ => False, ⟨RC_no h1 h2 h3 h4 h5 h6 h7 h8, fun _ _ => rfl⟩, Or.inl ⟨h2, ?_, ?_⟩⟩
  · rw [h7]
    decide
  · unfold hb
    rw [h5]
    decide
theorem pu_zero : pu_INV 0 st0 := by
  refine ⟨⟨IA_mk rfl (fun m hm => ?_) ⟨rfl, rfl, rfl, rfl, rfl⟩ ⟨rfl, rfl, rfl, rfl, rfl⟩ ⟨rfl, rfl⟩ ?_ ?_ (fun m hm => ?_) (fun m hm => ?_) (fun hm => ?_) ?_ rfl rfl, ⟨rfl, rfl⟩, ?_, rfl, rfl⟩, fun _ _ _ => 0, fun k => absurd rfl k, IM_no rfl rfl (fun _ _ => rfl) rfl rfl rfl rfl rfl⟩
  · rfl
  · decide
  · intro i
    have : st0 2129 i = 0 := rfl
    rw [this]
    decide
  · have : st0 323 0 = 0 := rfl
    rw [this] at hm
    exact absurd hm (by simp only [Int32.reduceToInt]; omega)
  · have : st0 323 0 = 0 := rfl
    rw [this] at hm
    exact absurd hm (by simp only [Int32.reduceToInt]; omega)
  · have : st0 323 0 = 0 := rfl
    rw [this] at hm
    exact absurd hm (by decide)
  · intro i
    have : st0 66 i = 0 := rfl
    rw [this]
    decide
  · decide
theorem tn_5 {j j' : Nat} {st : am_S} (w : pu_INV j st) : pu_INV j' (am_fill (am_up (am_up (am_up (am_up (am_up (am_up (am_up (am_up (am_up (am_up (am_up (am_up (am_up (am_up (am_fill (am_up (am_up (am_up (am_up (am_up st 322 0 0) 323 0 0) 521 0 0) 522 0 0) 519 0 0) 2139 0 8 0) 520 0 0) 261 0 0) 262 0 0) 263 0 (-1)) 576 0 0) 577 0 0) 579 0 0) 591 0 0) 592 0 (-1)) 601 0 0) 603 0 0) 604 0 0) 610 0 0) 606 0 0) 2160 0 8 0) := by
  have k : am_md (fun b => [322, 323, 521, 522, 519, 2139, 520, 261, 262, 263, 576, 577, 579, 591, 592, 601, 603, 604, 610, 606, 2160].contains b) st (am_fill (am_up (am_up (am_up (am_up (am_up (am_up (am_up (am_up (am_up (am_up (am_up (am_up (am_up (am_up (am_fill (am_up (am_up (am_up (am_up (am_up st 322 0 0) 323 0 0) 521 0 0) 522 0 0) 519 0 0) 2139 0 8 0) 520 0 0) 261 0 0) 262 0 0) 263 0 (-1)) 576 0 0) 577 0 0) 579 0 0) 591 0 0) 592 0 (-1)) 601 0 0) 603 0 0) 604 0 0) 610 0 0) 606 0 0) 2160 0 8 0) := md_fill (md_up (md_up (md_up (md_up (md_up (md_up (md_up (md_up (md_up (md_up (md_up (md_up (md_up (md_up (md_fill (md_up (md_up (md_up (md_up (md_up md_refl rfl) rfl) rfl) rfl) rfl) rfl) rfl) rfl) rfl) rfl) rfl) rfl) rfl) rfl) rfl) rfl) rfl) rfl) rfl) rfl) rfl
  have s322 : (am_fill (am_up (am_up (am_up (am_up (am_up (am_up (am_up (am_up (am_up (am_up (am_up (am_up (am_up (am_up (am_fill (am_up (am_up (am_up (am_up (am_up st 322 0 0) 323 0 0) 521 0 0) 522 0 0) 519 0 0) 2139 0 8 0) 520 0 0) 261 0 0) 262 0 0) 263 0 (-1)) 576 0 0) 577 0 0) 579 0 0) 591 0 0) 592 0 (-1)) 601 0 0) 603 0 0) 604 0 0) 610 0 0) 606 0 0) 2160 0 8 0) 322 = up1 (st 322) 0 0 := by
    simp (disch := decide) only [am_up_bank, am_fill_bank, up_sf]
  have s323 : (am_fill (am_up (am_up (am_up (am_up (am_up (am_up (am_up (am_up (am_up (am_up (am_up (am_up (am_up (am_up (am_fill (am_up (am_up (am_up (am_up (am_up st 322 0 0) 323 0 0) 521 0 0) 522 0 0) 519 0 0) 2139 0 8 0) 520 0 0) 261 0 0) 262 0 0) 263 0 (-1)) 576 0 0) 577 0 0) 579 0 0) 591 0 0) 592 0 (-1)) 601 0 0) 603 0 0) 604 0 0) 610 0 0) 606 0 0) 2160 0 8 0) 323 = up1 (st 323) 0 0 := by
    simp (disch := decide) only [am_up_bank, am_fill_bank, up_sf]
  have s521 : (am_fill (am_up (am_up (am_up (am_up (am_up (am_up (am_up (am_up (am_up (am_up (am_up (am_up (am_up (am_up (am_fill (am_up (am_up (am_up (am_up (am_up st 322 0 0) 323 0 0) 521 0 0) 522 0 0) 519 0 0) 2139 0 8 0) 520 0 0) 261 0 0) 262 0 0) 263 0 (-1)) 576 0 0) 577 0 0) 579 0 0) 591 0 0) 592 0 (-1)) 601 0 0) 603 0 0) 604 0 0) 610 0 0) 606 0 0) 2160 0 8 0) 521 = up1 (st 521) 0 0 := by
    simp (disch := decide) only [am_up_bank, am_fill_bank, up_sf]
  have s522 : (am_fill (am_up (am_up (am_up (am_up (am_up (am_up (am_up (am_up (am_up (am_up (am_up (am_up (am_up (am_up (am_fill (am_up (am_up (am_up (am_up (am_up st 322 0 0) 323 0 0) 521 0 0) 522 0 0) 519 0 0) 2139 0 8 0) 520 0 0) 261 0 0) 262 0 0) 263 0 (-1)) 576 0 0) 577 0 0) 579 0 0) 591 0 0) 592 0 (-1)) 601 0 0) 603 0 0) 604 0 0) 610 0 0) 606 0 0) 2160 0 8 0) 522 = up1 (st 522) 0 0 := by
    simp (disch := decide) only [am_up_bank, am_fill_bank, up_sf]
  have s519 : (am_fill (am_up (am_up (am_up (am_up (am_up (am_up (am_up (am_up (am_up (am_up (am_up (am_up (am_up (am_up (am_fill (am_up (am_up (am_up (am_up (am_up st 322 0 0) 323 0 0) 521 0 0) 522 0 0) 519 0 0) 2139 0 8 0) 520 0 0) 261 0 0) 262 0 0) 263 0 (-1)) 576 0 0) 577 0 0) 579 0 0) 591 0 0) 592 0 (-1)) 601 0 0) 603 0 0) 604 0 0) 610 0 0) 606 0 0) 2160 0 8 0) 519 = up1 (st 519) 0 0 := by
    simp (disch := decide) only [am_up_bank, am_fill_bank, up_sf]
  have s520 : (am_fill (am_up (am_up (am_up (am_up (am_up (am_up (am_up (am_up (am_up (am_up (am_up (am_up (am_up (am_up (am_fill (am_up (am_up (am_up (am_up (am_up st 322 0 0) 323 0 0) 521 0 0) 522 0 0) 519 0 0) 2139 0 8 0) 520 0 0) 261 0 0) 262 0 0) 263 0 (-1)) 576 0 0) 577 0 0) 579 0 0) 591 0 0) 592 0 (-1)) 601 0 0) 603 0 0) 604 0 0) 610 0 0) 606 0 0) 2160 0 8 0) 520 = up1 (st 520) 0 0 := by
    simp (disch := decide) only [am_up_bank, am_fill_bank, up_sf]
  have s261 : (am_fill (am_up (am_up (am_up (am_up (am_up (am_up (am_up (am_up (am_up (am_up (am_up (am_up (am_up (am_up (am_fill (am_up (am_up (am_up (am_up (am_up st 322 0 0) 323 0 0) 521 0 0) 522 0 0) 519 0 0) 2139 0 8 0) 520 0 0) 261 0 0) 262 0 0) 263 0 (-1)) 576 0 0) 577 0 0) 579 0 0) 591 0 0) 592 0 (-1)) 601 0 0) 603 0 0) 604 0 0) 610 0 0) 606 0 0) 2160 0 8 0) 261 = up1 (st 261) 0 0 := by
    simp (disch := decide) only [am_up_bank, am_fill_bank, up_sf]
  have s262 : (am_fill (am_up (am_up (am_up (am_up (am_up (am_up (am_up (am_up (am_up (am_up (am_up (am_up (am_up (am_up (am_fill (am_up (am_up (am_up (am_up (am_up st 322 0 0) 323 0 0) 521 0 0) 522 0 0) 519 0 0) 2139 0 8 0) 520 0 0) 261 0 0) 262 0 0) 263 0 (-1)) 576 0 0) 577 0 0) 579 0 0) 591 0 0) 592 0 (-1)) 601 0 0) 603 0 0) 604 0 0) 610 0 0) 606 0 0) 2160 0 8 0) 262 = up1 (st 262) 0 0 := by
    simp (disch := decide) only [am_up_bank, am_fill_bank, up_sf]
  have s263 : (am_fill (am_up (am_up (am_up (am_up (am_up (am_up (am_up (am_up (am_up (am_up (am_up (am_up (am_up (am_up (am_fill (am_up (am_up (am_up (am_up (am_up st 322 0 0) 323 0 0) 521 0 0) 522 0 0) 519 0 0) 2139 0 8 0) 520 0 0) 261 0 0) 262 0 0) 263 0 (-1)) 576 0 0) 577 0 0) 579 0 0) 591 0 0) 592 0 (-1)) 601 0 0) 603 0 0) 604 0 0) 610 0 0) 606 0 0) 2160 0 8 0) 263 = up1 (st 263) 0 (-1) := by
    simp (disch := decide) only [am_up_bank, am_fill_bank, up_sf]
  have s577 : (am_fill (am_up (am_up (am_up (am_up (am_up (am_up (am_up (am_up (am_up (am_up (am_up (am_up (am_up (am_up (am_fill (am_up (am_up (am_up (am_up (am_up st 322 0 0) 323 0 0) 521 0 0) 522 0 0) 519 0 0) 2139 0 8 0) 520 0 0) 261 0 0) 262 0 0) 263 0 (-1)) 576 0 0) 577 0 0) 579 0 0) 591 0 0) 592 0 (-1)) 601 0 0) 603 0 0) 604 0 0) 610 0 0) 606 0 0) 2160 0 8 0) 577 = up1 (st 577) 0 0 := by
    simp (disch := decide) only [am_up_bank, am_fill_bank, up_sf]
  have s579 : (am_fill (am_up (am_up (am_up (am_up (am_up (am_up (am_up (am_up (am_up (am_up (am_up (am_up (am_up (am_up (am_fill (am_up (am_up (am_up (am_up (am_up st 322 0 0) 323 0 0) 521 0 0) 522 0 0) 519 0 0) 2139 0 8 0) 520 0 0) 261 0 0) 262 0 0) 263 0 (-1)) 576 0 0) 577 0 0) 579 0 0) 591 0 0) 592 0 (-1)) 601 0 0) 603 0 0) 604 0 0) 610 0 0) 606 0 0) 2160 0 8 0) 579 = up1 (st 579) 0 0 := by
    simp (disch := decide) only [am_up_bank, am_fill_bank, up_sf]
  have s591 : (am_fill (am_up (am_up (am_up (am_up (am_up (am_up (am_up (am_up (am_up (am_up (am_up (am_up (am_up (am_up (am_fill (am_up (am_up (am_up (am_up (am_up st 322 0 0) 323 0 0) 521 0 0) 522 0 0) 519 0 0) 2139 0 8 0) 520 0 0) 261 0 0) 262 0 0) 263 0 (-1)) 576 0 0) 577 0 0) 579 0 0) 591 0 0) 592 0 (-1)) 601 0 0) 603 0 0) 604 0 0) 610 0 0) 606 0 0) 2160 0 8 0) 591 = up1 (st 591) 0 0 := by
    simp (disch := decide) only [am_up_bank, am_fill_bank, up_sf]
  have s592 : (am_fill (am_up (am_up (am_up (am_up (am_up (am_up (am_up (am_up (am_up (am_up (am_up (am_up (am_up (am_up (am_fill (am_up (am_up (am_up (am_up (am_up st 322 0 0) 323 0 0) 521 0 0) 522 0 0) 519 0 0) 2139 0 8 0) 520 0 0) 261 0 0) 262 0 0) 263 0 (-1)) 576 0 0) 577 0 0) 579 0 0) 591 0 0) 592 0 (-1)) 601 0 0) 603 0 0) 604 0 0) 610 0 0) 606 0 0) 2160 0 8 0) 592 = up1 (st 592) 0 (-1) := by
    simp (disch := decide) only [am_up_bank, am_fill_bank, up_sf]
  have s601 : (am_fill (am_up (am_up (am_up (am_up (am_up (am_up (am_up (am_up (am_up (am_up (am_up (am_up (am_up (am_up (am_fill (am_up (am_up (am_up (am_up (am_up st 322 0 0) 323 0 0) 521 0 0) 522 0 0) 519 0 0) 2139 0 8 0) 520 0 0) 261 0 0) 262 0 0) 263 0 (-1)) 576 0 0) 577 0 0) 579 0 0) 591 0 0) 592 0 (-1)) 601 0 0) 603 0 0) 604 0 0) 610 0 0) 606 0 0) 2160 0 8 0) 601 = up1 (st 601) 0 0 := by
    simp (disch := decide) only [am_up_bank, am_fill_bank, up_sf]
  have s603 : (am_fill (am_up (am_up (am_up (am_up (am_up (am_up (am_up (am_up (am_up (am_up (am_up (am_up (am_up (am_up (am_fill (am_up (am_up (am_up (am_up (am_up st 322 0 0) 323 0 0) 521 0 0) 522 0 0) 519 0 0) 2139 0 8 0) 520 0 0) 261 0 0) 262 0 0) 263 0 (-1)) 576 0 0) 577 0 0) 579 0 0) 591 0 0) 592 0 (-1)) 601 0 0) 603 0 0) 604 0 0) 610 0 0) 606 0 0) 2160 0 8 0) 603 = up1 (st 603) 0 0 := by
    simp (disch := decide) only [am_up_bank, am_fill_bank, up_sf]
  have s604 : (am_fill (am_up (am_up (am_up (am_up (am_up (am_up (am_up (am_up (am_up (am_up (am_up (am_up (am_up (am_up (am_fill (am_up (am_up (am_up (am_up (am_up st 322 0 0) 323 0 0) 521 0 0) 522 0 0) 519 0 0) 2139 0 8 0) 520 0 0) 261 0 0) 262 0 0) 263 0 (-1)) 576 0 0) 577 0 0) 579 0 0) 591 0 0) 592 0 (-1)) 601 0 0) 603 0 0) 604 0 0) 610 0 0) 606 0 0) 2160 0 8 0) 604 = up1 (st 604) 0 0 := by
    simp (disch := decide) only [am_up_bank, am_fill_bank, up_sf]
  have s610 : (am_fill (am_up (am_up (am_up (am_up (am_up (am_up (am_up (am_up (am_up (am_up (am_up (am_up (am_up (am_up (am_fill (am_up (am_up (am_up (am_up (am_up st 322 0 0) 323 0 0) 521 0 0) 522 0 0) 519 0 0) 2139 0 8 0) 520 0 0) 261 0 0) 262 0 0) 263 0 (-1)) 576 0 0) 577 0 0) 579 0 0) 591 0 0) 592 0 (-1)) 601 0 0) 603 0 0) 604 0 0) 610 0 0) 606 0 0) 2160 0 8 0) 610 = up1 (st 610) 0 0 := by
    simp (disch := decide) only [am_up_bank, am_fill_bank, up_sf]
  have s606 : (am_fill (am_up (am_up (am_up (am_up (am_up (am_up (am_up (am_up (am_up (am_up (am_up (am_up (am_up (am_up (am_fill (am_up (am_up (am_up (am_up (am_up st 322 0 0) 323 0 0) 521 0 0) 522 0 0) 519 0 0) 2139 0 8 0) 520 0 0) 261 0 0) 262 0 0) 263 0 (-1)) 576 0 0) 577 0 0) 579 0 0) 591 0 0) 592 0 (-1)) 601 0 0) 603 0 0) 604 0 0) 610 0 0) 606 0 0) 2160 0 8 0) 606 = up1 (st 606) 0 0 := by
    simp (disch := decide) only [am_up_bank, am_fill_bank, up_sf]
  have h8 : ∀ i, i < 8 → (am_fill (am_up (am_up (am_up (am_up (am_up (am_up (am_up (am_up (am_up (am_up (am_up (am_up (am_up (am_up (am_fill (am_up (am_up (am_up (am_up (am_up st 322 0 0) 323 0 0) 521 0 0) 522 0 0) 519 0 0) 2139 0 8 0) 520 0 0) 261 0 0) 262 0 0) 263 0 (-1)) 576 0 0) 577 0 0) 579 0 0) 591 0 0) 592 0 (-1)) 601 0 0) 603 0 0) 604 0 0) 610 0 0) 606 0 0) 2160 0 8 0) 2139 i = (am_fill (am_up (am_up (am_up (am_up (am_up (am_up (am_up (am_up (am_up (am_up (am_up (am_up (am_up (am_up (am_fill (am_up (am_up (am_up (am_up (am_up st 322 0 0) 323 0 0) 521 0 0) 522 0 0) 519 0 0) 2139 0 8 0) 520 0 0) 261 0 0) 262 0 0) 263 0 (-1)) 576 0 0) 577 0 0) 579 0 0) 591 0 0) 592 0 (-1)) 601 0 0) 603 0 0) 604 0 0) 610 0 0) 606 0 0) 2160 0 8 0) 2160 i := by
    intro i hi
    have e1 : (am_fill (am_up (am_up (am_up (am_up (am_up (am_up (am_up (am_up (am_up (am_up (am_up (am_up (am_up (am_up (am_fill (am_up (am_up (am_up (am_up (am_up st 322 0 0) 323 0 0) 521 0 0) 522 0 0) 519 0 0) 2139 0 8 0) 520 0 0) 261 0 0) 262 0 0) 263 0 (-1)) 576 0 0) 577 0 0) 579 0 0) 591 0 0) 592 0 (-1)) 601 0 0) 603 0 0) 604 0 0) 610 0 0) 606 0 0) 2160 0 8 0) 2160 i = 0 := by
      unfold am_fill
      rw [if_pos (by omega)]
    rw [e1]
    simp (disch := decide) only [am_up_bank, am_fill_bank]
    unfold am_fill
    rw [if_pos (by omega)]
  generalize (am_fill (am_up (am_up (am_up (am_up (am_up (am_up (am_up (am_up (am_up (am_up (am_up (am_up (am_up (am_up (am_fill (am_up (am_up (am_up (am_up (am_up st 322 0 0) 323 0 0) 521 0 0) 522 0 0) 519 0 0) 2139 0 8 0) 520 0 0) 261 0 0) 262 0 0) 263 0 (-1)) 576 0 0) 577 0 0) 579 0 0) 591 0 0) 592 0 (-1)) 601 0 0) 603 0 0) 604 0 0) 610 0 0) 606 0 0) 2160 0 8 0) = S at *
  obtain ⟨⟨e0, e1, ⟨f1, f2, f3, f4, f5⟩, ⟨f6, f7, f8, f9, f10⟩, f11, f12⟩, b1, b2, b3, b4, b5, a2, a3, a4⟩ := IA_ge w.1.1
  obtain ⟨g1, g2, g3, g4⟩ := w.1.2
  have kb : ∀ b ∈ [2129, 66, 67, 68, 69, 70, 71, 72, 128, 129, 130, 131, 2142, 2143, 2144, 2145, 2146, 2147, 2148, 2149, 2150, 2151, 2152, 2153, 2141, 2159], S b = st b := md_Ls k (by decide)
  have z323 : S 323 0 = 0 := by rw [s323, up1_s]
  have z322 : S 322 0 = 0 := by rw [s322, up1_s]
  have z579 : S 579 0 = 0 := by rw [s579, up1_s]
  have z262 : S 262 0 = 0 := by rw [s262, up1_s]
  have zN : (S 323 0).toInt.toNat = 0 := by rw [z323]; rfl
  refine ⟨⟨IA_mk ?_ (fun m hm => by omega) ⟨?_, ?_, ?_, ?_, ?_⟩ ⟨?_, ?_, ?_, ?_, ?_⟩ ⟨?_, ?_⟩ ?_ ?_ (fun m hm => by omega) (fun m hm => by omega) (fun hm => by omega) ?_ ?_ ?_, ⟨?_, ?_⟩, ?_, ?_, ?_⟩, fun _ _ _ => 0, fun k => absurd z262 k, IM_no ?_ ?_ h8 ?_ ?_ ?_ ?_ ?_⟩
  · rw [kb 2142 (by decide), kb 2129 (by decide), e0]
  · rw [kb 2144 (by decide), kb 68 (by decide), f1]
  · rw [kb 2145 (by decide), kb 69 (by decide), f2]
  · rw [kb 2146 (by decide), kb 70 (by decide), f3]
  · rw [kb 2147 (by decide), kb 71 (by decide), f4]
  · rw [kb 2148 (by decide), kb 72 (by decide), f5]
  · rw [kb 2149 (by decide), kb 66 (by decide), f6]
  · rw [kb 2150 (by decide), kb 128 (by decide), f7]
  · rw [kb 2151 (by decide), kb 129 (by decide), f8]
  · rw [kb 2152 (by decide), kb 130 (by decide), f9]
  · rw [kb 2153 (by decide), kb 131 (by decide), f10]
  · rw [s579, s323, f11]
  · rw [s577, s322, f12]
  · rw [z323, z322]
    decide
  · rw [kb 2129 (by decide)]
    exact b2
  · rw [kb 66 (by decide)]
    exact a2
  · unfold cs_E
    rw [if_pos z323, z579, kb 2143 (by decide)]
    exact a4
  · rw [kb 2143 (by decide)]
    exact a4
  · rw [s591, s262, up1_s, up1_s]
  · rw [s263, s592, up1_s, up1_s]
  · rw [s261, up1_s]
    decide
  · rw [s601, s261, up1_s, up1_s]
  · rw [kb 2159 (by decide), kb 2141 (by decide), g4]
  · rw [s519, up1_s]
  · rw [s610, up1_s]
  · rw [s520, up1_s]
  · rw [s606, up1_s]
  · rw [s521, up1_s]
  · rw [s603, up1_s]
  · rw [s522, up1_s]

/-! Calls keep types. -/
theorem pops_rep {R2 H2 : Int32} : ∀ (c h : Nat) (R : Int32), h ≤ 9 → wfR R h → pops (List.replicate c 1) R (nI h) = some (R2, H2) → c ≤ h ∧ H2 = nI (h - c) ∧ ∀ k, k < h - c → ty_at R2 (nI k) = ty_at R (nI k) := by
  intro c
  induction c with
  | zero =>
    intro h R _ _ e
    simp only [List.replicate, pops, Option.some.injEq, Prod.mk.injEq] at e
    refine ⟨Nat.zero_le _, by rw [← e.2]; rfl, fun k _ => by rw [e.1]⟩
  | succ c ih =>
    intro h R hh w e
    rw [List.replicate_succ] at e
    unfold pops at e
    by_cases g : tkT R (nI h) = 1
    · rw [if_pos g] at e
      obtain ⟨h1, a1, a2, a3, a4, a5⟩ := tkT_c (by omega) w (by rw [g]; decide)
      subst a1
      rw [a4, a5] at e
      obtain ⟨b1, b2, b3⟩ := ih h1 _ (by omega) (wf_pop (by omega) w) e
      refine ⟨by omega, ?_, fun k hk => ?_⟩
      · rw [b2]
        have : h1 - c = h1 + 1 - (c + 1) := by omega
        rw [this]
      · rw [b3 k (by omega), at_w0 (by omega) (by omega), if_neg (by omega)]
    · rw [if_neg g] at e
      exact absurd e (by simp)
theorem ini_rv {D : Nat → Prop} {n k : Nat} {L v : Int32} (hn : n ≤ 8) (hk : k < 8) (h : lel (ini n) L) : rv D (ty_at L (nI k)) v := by
  intro e
  have g := ini_at hn k (by omega)
  rcases h k hk with w | w
  · rw [w, g] at e
    by_cases c : k < n
    · rw [if_pos c] at e
      exact absurd e (by decide)
    · rw [if_neg c] at e
      exact absurd e (by decide)
  · rw [w] at e
    exact absurd e (by decide)
theorem TY_call {P A : am_S} {T : Nat → am_T} {D : Nat → Prop} {q h m : Nat} {R2 H2 : Int32} (hT : PT P T) (hx : TX P T D A q (T (fm A (lf A)) 0 q) (T (fm A (lf A)) 1 q) (nI h)) (hw : wfR (T (fm A (lf A)) 1 q) h) (hq : T (fm A (lf A)) 2 q = nI h) (h5 : h ≤ fhe P A (lf A) ∧ fhe P A (lf A) ≤ 8 ∧ flo P A (lf A) ≤ 8) (hm : m < nM P) (ho : pO P (nb P (fm A (lf A)) + q) = 184) (hn : (pN P (nb P (fm A (lf A)) + q)).toNatClampNeg = m) (e1 : pops (dues P 184 (pN P (nb P (fm A (lf A)) + q))) (T (fm A (lf A)) 1 q) (nI h) = some (R2, H2)) : (P 3 m).toInt ≤ (sD A : Int) ∧ TY P T D (o_call P A m) := by
  have e1' := e1
  unfold dues at e1'
  rw [if_pos rfl, hn] at e1'
  obtain ⟨p1, p2, p3⟩ := pops_rep _ h _ (by omega) hw e1'
  have vm := hT.1.2.2 m hm
  have m8 : m < 8 := by
    have := hT.1.1
    unfold nM at hm
    omega
  have c3 : ((P 3 m).toNatClampNeg : Int) = (P 3 m).toInt := by
    have := vm.2.1
    rw [nn_eq]
    omega
  obtain ⟨⟨b1, b2, b3⟩, lo, at', f1, f2, f3⟩ := id hx
  have k0 := top_i b1 b2
  have es : sD A = h := ((nI_i (by omega) (by have e : ft A (lf A) = sD A := rfl; omega)).mp f1).symm
  have hle : (P 3 m).toInt ≤ (sD A : Int) := by omega
  refine ⟨hle, ?_⟩
  unfold o_call
  by_cases c : (A 608 0).toInt + (ned P m).toInt ≤ 80
  · rw [if_pos c]
    have v3 : 0 ≤ (P 3 m).toInt := vm.2.1.1
    obtain ⟨d1, d2, d3, d4⟩ := dec1 b1 b2 v3 hle
    have nc : (nI m).toNatClampNeg = m := nI_c (by omega)
    have d608 : o_dec A (P 3 m) 608 = A 608 := dec_o (by decide)
    have fit : (o_dec A (P 3 m) 608 0).toInt + (ned P (nI m).toNatClampNeg).toInt ≤ 80 := by rw [d608, nc]; exact c
    have hy : 0 ≤ (nI m).toInt ∧ (nI m).toNatClampNeg < nM P := ⟨by rw [nI_t (by omega)]; omega, by rw [nc]; exact hm⟩
    have bo := BV_open hT.1 d1 hy fit
    have nd := ned_t hT.1 hm
    have on := (open_n (y := nI m) d1 (by rw [d608]; omega)).1
    rw [d2] at on
    have use := fun f (hf : f < fn A) => used_ge b1 hf
    have of := fun f => @open_f P (o_dec A (P 3 m)) (nI m) f
    have oc := fun i => @open_c P (o_dec A (P 3 m)) (nI m) i
    rw [d608] at oc
    rw [d2] at of
    generalize hC : o_open P (o_dec A (P 3 m)) (nI m) = C at *
    generalize hS : sx P (o_dec A (P 3 m)) = S
    have cb : ∀ b, ¬ b = 2162 → am_cp C 2162 (A 608 0).toInt.toNat S (P 3 m).toInt.toNat b = C b := fun b hb => cp_bank hb
    have cc : ∀ i, i < (A 608 0).toInt.toNat → am_cp C 2162 (A 608 0).toInt.toNat S (P 3 m).toInt.toNat 2162 i = A 2162 i := by
      intro i hi
      unfold am_cp
      rw [if_neg (by omega), oc, if_neg (by omega), dec_o (by decide)]
    have hp : HP D C := by
      refine HP_eq ?_ ?_ b3
      · rw [← hC, open_o (by decide), dec_o (by decide)]
      · rw [← hC, open_o (by decide), dec_o (by decide)]
    generalize hE : am_cp C 2162 (A 608 0).toInt.toNat S (P 3 m).toInt.toNat = E at *
    have nE : fn E = fn A + 1 := by
      unfold fn at *
      rw [cb 610 (by decide)]
      exact on
    have lE : lf E = fn A := by unfold lf; omega
    have bE : BV P E := by
      refine BV_tops bo (fun b h1 _ _ => cb b h1) (fun f hf => ?_)
      have w := bo.2.1 f hf
      have e : ft E f = ft C f := by unfold ft; rw [cb 2165 (by decide)]
      rw [cb 2165 (by decide), e]
      exact ⟨w.2.2.1, w.2.2.2.1⟩
    have E3 : ∀ f, E 2163 f = if f = fn A then nI m else A 2163 f := fun f => by rw [cb 2163 (by decide), (of f).1, dec_o (by decide)]
    have E4 : ∀ f, E 2164 f = if f = fn A then 0 else A 2164 f := fun f => by rw [cb 2164 (by decide), (of f).2.1, dec_o (by decide)]
    have E5 : ∀ f, E 2165 f = if f = fn A then 0 else o_dec A (P 3 m) 2165 f := fun f => by rw [cb 2165 (by decide), (of f).2.2.1]
    have E6 : ∀ f, E 2166 f = if f = fn A then A 608 0 else A 2166 f := fun f => by rw [cb 2166 (by decide), (of f).2.2.2, d608, dec_o (by decide)]
    have hpE : HP D E := HP_eq (cb 606 (by decide)) (cb 2161 (by decide)) hp
    have mE : fm E (lf E) = m := by
      unfold fm
      rw [lE, E3, if_pos rfl, nc]
    obtain ⟨-, ty, wt⟩ := hT.2 m hm
    obtain ⟨i1, i2, i3, i4, i5, i6⟩ := ty.1
    have tE : ft E (lf E) = 0 := by
      unfold ft
      rw [lE, E5, if_pos rfl]
      rfl
    refine ⟨bE, hpE, fun _ => ⟨0, ⟨bE, by omega, hpE⟩, fun f hf => ?_, ⟨?_, ?_, ?_⟩, ?_, ?_, ?_⟩, fun _ => by omega⟩
    · rw [nE] at hf
      have hfa : f < fn A := by omega
      by_cases fl : f = lf A
      · subst fl
        have fne : ¬ lf A = fn A := by omega
        have fs : lf A + 1 = fn A := by unfold lf; omega
        have m1 : fm E (lf A) = fm A (lf A) := by
          unfold fm
          rw [E3, if_neg fne]
        have m2 : fm E (lf A + 1) = m := by
          unfold fm
          rw [fs, E3, if_pos rfl, nc]
        have ftE : ft E (lf A) = h - (P 3 m).toNatClampNeg := by
          have : ft E (lf A) = sD (o_dec A (P 3 m)) := by
            unfold ft sD ft
            rw [E5, if_neg fne]
            rfl
          rw [this]
          omega
        have fbE : fb E (lf A) = fb A (lf A) := by
          unfold fb
          rw [E6, if_neg fne]
        have flE : flo P E (lf A) = flo P A (lf A) := by
          unfold flo
          rw [m1]
        have en80 := (use (lf A) hfa).1
        unfold en at en80
        refine ⟨q, R2, H2, ?_, ?_, ?_, ?_, ?_, ?_, ?_⟩
        · unfold AT
          rw [m1, E4, if_neg fne]
          exact at'
        · rw [m1]
          exact ho
        · rw [m1, m2]
          exact hn
        · rw [m1, hq]
          exact e1
        · rw [ftE]
          exact p2
        · intro k hk
          rw [flE] at hk
          rw [m1, fbE, cc _ (by omega)]
          exact f2 k hk
        · intro k hk
          rw [ftE] at hk
          rw [fbE, flE, cc _ (by omega), p3 k hk]
          exact f3 k (by have e : ft A (lf A) = sD A := rfl; omega)
      · have fl2 : f + 1 < fn A := by unfold lf at fl; omega
        refine WF_same (fun _ x => x) (b1.2.1 f hfa).2.2.2.1 ⟨?_, ?_, ?_, ?_, ?_, fun i hi => ?_⟩ (lo f fl2)
        · rw [E3, if_neg (by omega)]
        · rw [E3, if_neg (by omega)]
        · rw [E4, if_neg (by omega)]
        · rw [E5, if_neg (by omega), dec_t, if_neg fl]
        · rw [E6, if_neg (by omega)]
        · have := (use f hfa).1
          exact cc i (by omega)
    · rw [lE, E4, if_pos rfl]
      rfl
    · rw [mE]
      omega
    · rw [mE]
      exact i3
    · rw [tE, mE]
      exact i4
    · intro k hk
      have hk' : k < 8 := by
        unfold flo at hk
        rw [mE] at hk
        have := vm.2.1
        omega
      rw [mE]
      exact ini_rv (n := (P 3 m).toInt.toNat) (by have := vm.2.1; omega) hk' i6
    · intro k hk
      rw [tE] at hk
      omega
  · rw [if_neg c]
    exact TY_stop (by decide) b3
theorem ty_184 {P A : am_S} {T : Nat → am_T} {D : Nat → Prop} {q h : Nat} {g z : Int32} (hT : PT P T) (hx : TX P T D A q (T (fm A (lf A)) 0 q) (T (fm A (lf A)) 1 q) (nI h)) (hw : wfR (T (fm A (lf A)) 1 q) h) (hq : T (fm A (lf A)) 2 q = nI h) (h5 : h ≤ fhe P A (lf A) ∧ fhe P A (lf A) ≤ 8 ∧ flo P A (lf A) ≤ 8) (ho : pO P (nb P (fm A (lf A)) + q) = 184) (hm : 0 ≤ (pN P (nb P (fm A (lf A)) + q)).toInt ∧ (pN P (nb P (fm A (lf A)) + q)).toNatClampNeg < nM P) {R' H' : Int32} (e : ss P (fm A (lf A)) 184 (pN P (nb P (fm A (lf A)) + q)) (T (fm A (lf A)) 1 q) (nI h) = some (R', H')) : ∃ A', stC P A 184 (pN P (nb P (fm A (lf A)) + q)) g z A' ∧ TY P T D A' := by
  obtain ⟨n1, n2, n3⟩ := op_no (op := 184) (by decide)
  obtain ⟨-, R2, H2, e1, -, -⟩ := ss_map n3 e
  have tc := TY_call hT hx hw hq h5 hm.2 ho rfl e1
  exact ⟨_, Or.inr (Or.inr (Or.inr ⟨n1, ⟨fun w => absurd w (by decide), fun w => absurd w (by decide), fun w => absurd w (by decide), fun w => absurd w (by decide), fun _ => ⟨hm, tc.1⟩, fun w => absurd w (by decide), fun w => absurd w (by decide), mvC_no (by decide), hx.1.2.2.1⟩, rfl⟩)), tc.2⟩

/-! written by wip/whole/gen/walk.py out of 99g.trap2.txt -/
def o_top0 (A : am_S) : am_S := am_up A 2165 (lf A) 0
theorem top0_o {A : am_S} {b : Nat} (h : ¬ b = 2165) : o_top0 A b = A b := am_up_bank h
theorem sD_top0 {A : am_S} : sD (o_top0 A) = 0 := by
  unfold sD ft
  have e : lf (o_top0 A) = lf A := rfl
  rw [e]
  unfold o_top0
  rw [am_up_eq]
  rfl
theorem top0_t {A : am_S} {f : Nat} : o_top0 A 2165 f = if f = lf A then 0 else A 2165 f := by
  unfold o_top0
  by_cases e : f = lf A
  · rw [if_pos e, e, am_up_eq]
  · rw [if_neg e, am_up_ne (fun q => e q.2)]
theorem BV_top0 {P A : am_S} (h : BV P A) : BV P (o_top0 A) := by
  refine BV_tops h (fun b _ b2 _ => top0_o b2) (fun f hf => ?_)
  obtain ⟨-, -, g3, g4, -⟩ := h.2.1 f hf
  unfold ft at *
  rw [top0_t]
  split
  · exact ⟨by decide, Nat.zero_le _⟩
  · exact ⟨g3, g4⟩
theorem RC_top0 {P st A : am_S} (h : RC P st A) : RC P (am_up st 3 (lf A) 0) (o_top0 A) := by
  obtain ⟨a1, a2, a3, a4, a5, a6⟩ := h
  have e : ∀ b, ¬ b = 3 → am_up st 3 (lf A) 0 b = st b := fun b b2 => am_up_bank b2
  refine ⟨?_, fun f hf => ?_, fun f hf k hk => ?_, ?_, ?_, ?_⟩
  · rw [e 519 (by decide), e 518 (by decide), top0_o (by decide)]
    exact a1
  · obtain ⟨b1, b2, b3, b4⟩ := a2 f hf
    rw [e 0 (by decide), e 1 (by decide), e 2 (by decide), top0_o (b := 2163) (by decide), top0_o (b := 2164) (by decide), top0_o (b := 2166) (by decide), top0_t]
    refine ⟨b1, b2, b3, ?_⟩
    by_cases q : f = lf A
    · rw [q, am_up_eq, if_pos rfl]
    · rw [if_neg q, am_up_ne (fun w => q w.2)]
      exact b4
  · have f1 : fb (o_top0 A) f = fb A f := by unfold fb; rw [top0_o (by decide)]
    have f2 : flo P (o_top0 A) f = flo P A f := by unfold flo fm; rw [top0_o (by decide)]
    have f3 : ft (o_top0 A) f ≤ ft A f := by
      unfold ft
      rw [top0_t]
      split
      · exact Nat.zero_le _
      · exact Nat.le_refl _
    rw [f1]
    rw [f2] at hk
    rw [e 2137 (by decide), top0_o (by decide)]
    exact a3 f hf k (by omega)
  · rw [e 2139 (by decide), top0_o (by decide)]
    exact a4
  · rw [e 520 (by decide), e 2140 (by decide), top0_o (b := 606) (by decide), top0_o (b := 2161) (by decide)]
    exact a5
  · rw [e 521 (by decide), e 522 (by decide), top0_o (b := 603) (by decide), top0_o (b := 604) (by decide)]
    exact a6
/-- a trap of kind k: to the handler that is next, or out of all frames -/
def o_trap (P : am_S) : Nat → Int32 → am_S → am_S
  | 0, k, A => o_stop A (k + 2)
  | n + 1, k, A => if fhT P (fm A (lf A)) (A 2164 (lf A)) k = -1 then o_trap P n k (o_close A) else o_push P (o_top0 (o_set A (fhT P (fm A (lf A)) (A 2164 (lf A)) k))) k
/-- handlers that cover a frame's place have room for what they catch -/
def HT (P A : am_S) : Prop := ∀ f, f < fn A → ∀ i, i < (P 7 (fm A f)).toInt.toNat → (P 8 (4 * fm A f + i) ≤ A 2164 f ∧ A 2164 f < P 9 (4 * fm A f + i)) → 1 ≤ (P 5 (fm A f)).toInt ∧ ¬ P 10 (4 * fm A f + i) = -1
theorem HT_close {P A : am_S} (hB : BV P A) (h1 : 0 < fn A) (h : HT P A) : HT P (o_close A) := by
  intro f hf
  rw [(close_n hB h1).1] at hf
  unfold fm
  rw [close_o (by decide), close_o (by decide)]
  exact h f (by omega)
theorem trap_room {P A : am_S} {k : Int32} (hB : BV P A) (h1 : 0 < fn A) (h : HT P A) (ht : ¬ fhT P (fm A (lf A)) (A 2164 (lf A)) k = -1) : ∀ z, BV P (o_top0 (o_set A z)) ∧ 0 < fn (o_top0 (o_set A z)) ∧ sD (o_top0 (o_set A z)) < fhe P (o_top0 (o_set A z)) (lf (o_top0 (o_set A z))) := by
  intro z
  obtain ⟨i, i1, i2, -⟩ := fhR_ok _ 0 (Nat.zero_add _) ht
  have := (h (lf A) (by unfold lf; omega) i i1 i2).1
  refine ⟨BV_top0 (BV_set hB), h1, ?_⟩
  rw [sD_top0]
  have e : fhe P (o_top0 (o_set A z)) (lf (o_top0 (o_set A z))) = fhe P A (lf A) := by
    unfold fhe fm
    rw [top0_o (by decide), set_o (by decide)]
    rfl
  rw [e]
  unfold fhe
  omega
theorem lp_MA_tr {P st0 : am_S} {k : Int32} {f : am_S → Prop} (hP : PC st0 P) (hV : VP P) (hk : ¬ k + 2 = 2) : ∀ (n : Nat) (A : am_S) (x : Int32) (a3 : Option am_V) (st : am_S), fn A = n → x.toInt = (n : Int) → BV P A → HT P A → QC P st0 A st → (∀ q : {q : am_S // QC P st0 (o_trap P n k A) q}, f q.1) → am_AW c_MA_trap g_MA_trap (fun o' st' => am_ok none o' ∧ am_kv f o' st') 5 [some (.inr (.inl 127)), some (.inl k), some (.inl x), a3] [] st := by
  intro n
  induction n with
  | zero =>
    intro A x a3 st k1 k2 k3 k4 k5 h
    have u0 : o_trap P 0 k A = o_stop A (k + 2) := rfl
    rw [u0] at h
    refine r_il2 (q := 6) d_MA_trap_5 rfl ?_
    refine r_zle (tgt := 65) (q := 9) d_MA_trap_6 rfl rfl (fun e6 => ?_) (fun e6 => ?_)
    · skip
      refine r_al0 (q := 66) d_MA_trap_65 rfl ?_
      refine r_il1 (q := 67) d_MA_trap_66 rfl ?_
      refine r_ic (v := 2) (q := 68) d_MA_trap_67 rfl rfl ?_
      refine r_iadd (q := 69) d_MA_trap_68 rfl ?_
      refine r_vv1 mo_MA_end d_MA_trap_69 rfl rfl rfl (q := 72) rfl ?_
      refine sq_MA_end (P := P) (st0 := st0) (A := A) (by first | exact hk | exact k5 | assumption | (refine pc_of hP ?_; (repeat (first | assumption | exact md_refl | refine md_up ?_ rfl | refine md_fill ?_ rfl | (unfold ik; refine md_up ?_ rfl))); done) | (refine pc_oS hP ?_; (repeat (first | assumption | exact md_refl | refine md_up ?_ rfl | refine md_fill ?_ rfl | (unfold ik; refine md_up ?_ rfl))); done) | (refine pm_of hP ?_; (repeat (first | assumption | exact md_refl | refine md_up ?_ rfl | refine md_fill ?_ rfl | (unfold ik; refine md_up ?_ rfl))); done) | omega | decide | ((try simp +decide only [b01, b10, b11, am_up, ik, and_true, and_false, true_and, false_and, if_true, if_false, nn_eq] at *) <;> (try simp only [sw_or, sw_all, or_false, and_true, i32_lt, i32_le, i32_eq, i32_addw, i32_subw, i32_mulw, Int32.reduceToInt] at *) <;> omega) | (apply_assumption; done)) (by first | exact hk | exact k5 | assumption | (refine pc_of hP ?_; (repeat (first | assumption | exact md_refl | refine md_up ?_ rfl | refine md_fill ?_ rfl | (unfold ik; refine md_up ?_ rfl))); done) | (refine pc_oS hP ?_; (repeat (first | assumption | exact md_refl | refine md_up ?_ rfl | refine md_fill ?_ rfl | (unfold ik; refine md_up ?_ rfl))); done) | (refine pm_of hP ?_; (repeat (first | assumption | exact md_refl | refine md_up ?_ rfl | refine md_fill ?_ rfl | (unfold ik; refine md_up ?_ rfl))); done) | omega | decide | ((try simp +decide only [b01, b10, b11, am_up, ik, and_true, and_false, true_and, false_and, if_true, if_false, nn_eq] at *) <;> (try simp only [sw_or, sw_all, or_false, and_true, i32_lt, i32_le, i32_eq, i32_addw, i32_subw, i32_mulw, Int32.reduceToInt] at *) <;> omega) | (apply_assumption; done)) (fun e69 => ?_)
      · skip
        refine r_rv d_MA_trap_72 ?_
        exact h e69
    · skip
      exfalso; clear h hP hV k3 k4 k5; ((try simp +decide only [b01, b10, b11, am_up, ik, and_true, and_false, true_and, false_and, if_true, if_false, nn_eq] at *) <;> (try simp only [sw_or, sw_all, or_false, and_true, i32_lt, i32_le, i32_eq, i32_addw, i32_subw, i32_mulw, Int32.reduceToInt] at *) <;> omega)
  | succ n ih =>
    intro A x a3 st k1 k2 k3 k4 k5 h
    have hn0 : 0 < fn A := by omega
    have hPs := pc_oR hP k5.1
    obtain ⟨t1, t2, t3, t4, -⟩ := RC_tw hPs hV k3 k5.2 hn0
    have tm := (RC_top hPs hV k3 k5.2 hn0).2.2.2.2.2.2.2.2.2.2
    have hm : (st 0 (st 518 0).toNatClampNeg).toNatClampNeg < nM P := by rw [t3]; exact tm
    have ep : st 1 (st 518 0).toNatClampNeg = A 2164 (lf A) := by rw [t1]; exact (k5.2.2.1 (lf A) (by unfold lf; omega)).2.1
    have eT : fhT P (st 0 (st 518 0).toNatClampNeg).toNatClampNeg (st 1 (st 518 0).toNatClampNeg) k = fhT P (fm A (lf A)) (A 2164 (lf A)) k := by rw [t3, ep]
    have u1 : o_trap P (n + 1) k A = if fhT P (fm A (lf A)) (A 2164 (lf A)) k = -1 then o_trap P n k (o_close A) else o_push P (o_top0 (o_set A (fhT P (fm A (lf A)) (A 2164 (lf A)) k))) k := rfl
    rw [u1] at h
    have kC : fhT P (st 0 (st 518 0).toNatClampNeg).toNatClampNeg (st 1 (st 518 0).toNatClampNeg) k = -1 → ∀ s a3', QC P st0 (o_close A) s → am_AW c_MA_trap g_MA_trap (fun o' st' => am_ok none o' ∧ am_kv f o' st') 5 [some (.inr (.inl 127)), some (.inl k), some (.inl (x + -1)), a3'] [] s := by
      intro q s a3' hsq
      rw [eT] at q
      rw [if_pos q] at h
      have cn := close_n k3 hn0
      have h80 := BV_fn k3
      exact ih (o_close A) _ a3' s (by omega) (by rw [i32_addw]; simp only [Int32.reduceToInt]; omega) (BV_close k3 hn0) (HT_close k3 hn0 k4) hsq h
    have kF : ¬ fhT P (st 0 (st 518 0).toNatClampNeg).toNatClampNeg (st 1 (st 518 0).toNatClampNeg) k = -1 → (BV P (o_top0 (o_set A (fhT P (fm A (lf A)) (A 2164 (lf A)) k))) ∧ 0 < fn (o_top0 (o_set A (fhT P (fm A (lf A)) (A 2164 (lf A)) k))) ∧ sD (o_top0 (o_set A (fhT P (fm A (lf A)) (A 2164 (lf A)) k))) < fhe P (o_top0 (o_set A (fhT P (fm A (lf A)) (A 2164 (lf A)) k))) (lf (o_top0 (o_set A (fhT P (fm A (lf A)) (A 2164 (lf A)) k))))) ∧ (∀ q : {q : am_S // QC P st0 (o_push P (o_top0 (o_set A (fhT P (fm A (lf A)) (A 2164 (lf A)) k))) k) q}, f q.1) ∧ QC P st0 (o_top0 (o_set A (fhT P (fm A (lf A)) (A 2164 (lf A)) k))) (am_up (am_up st 1 (st 518 0).toNatClampNeg (fhT P (st 0 (st 518 0).toNatClampNeg).toNatClampNeg (st 1 (st 518 0).toNatClampNeg) k)) 3 (st 518 0).toNatClampNeg 0) := by
      intro q
      rw [eT] at q
      rw [if_neg q] at h
      refine ⟨trap_room k3 hn0 k4 q _, h, md_up (md_up k5.1 rfl) rfl, ?_⟩
      rw [eT, t1]
      exact RC_top0 (RC_set k5.2)
    clear ih h
    refine r_il2 (q := 6) d_MA_trap_5 rfl ?_
    refine r_zle (tgt := 65) (q := 9) d_MA_trap_6 rfl rfl (fun e6 => ?_) (fun e6 => ?_)
    · skip
      first | exact kC e30 _ _ e56.2 | (exfalso; clear kC kF hP hV k3 k4 k5 hPs; ((try simp +decide only [b01, b10, b11, am_up, ik, and_true, and_false, true_and, false_and, if_true, if_false, nn_eq] at *) <;> (try simp only [sw_or, sw_all, or_false, and_true, i32_lt, i32_le, i32_eq, i32_addw, i32_subw, i32_mulw, Int32.reduceToInt] at *) <;> omega))
    · skip
      refine r_al0 (q := 10) d_MA_trap_9 rfl ?_
      refine gt_MA_latest (q := 13) d_MA_trap_10 rfl rfl ?_
      refine gt_FR_body (q := 16) d_MA_trap_13 rfl (by first | exact hPs | exact hm | exact k3 | exact hn0 | exact k5 | exact hP | exact (kF e30).1.1 | exact (kF e30).1.2.1 | exact (kF e30).1.2.2 | exact (kF e30).2.2 | assumption | (refine pc_of hP ?_; (repeat (first | assumption | exact md_refl | refine md_up ?_ rfl | refine md_fill ?_ rfl | (unfold ik; refine md_up ?_ rfl))); done) | (refine pc_oS hP ?_; (repeat (first | assumption | exact md_refl | refine md_up ?_ rfl | refine md_fill ?_ rfl | (unfold ik; refine md_up ?_ rfl))); done) | (refine pm_of hP ?_; (repeat (first | assumption | exact md_refl | refine md_up ?_ rfl | refine md_fill ?_ rfl | (unfold ik; refine md_up ?_ rfl))); done) | omega | decide | ((try simp +decide only [b01, b10, b11, am_up, ik, and_true, and_false, true_and, false_and, if_true, if_false, nn_eq] at *) <;> (try simp only [sw_or, sw_all, or_false, and_true, i32_lt, i32_le, i32_eq, i32_addw, i32_subw, i32_mulw, Int32.reduceToInt] at *) <;> omega) | (apply_assumption; done)) rfl ?_
      refine r_al0 (q := 17) d_MA_trap_16 rfl ?_
      refine gt_MA_latest (q := 20) d_MA_trap_17 rfl rfl ?_
      refine gt_FR_place (q := 23) d_MA_trap_20 rfl (by first | exact hPs | exact hm | exact k3 | exact hn0 | exact k5 | exact hP | exact (kF e30).1.1 | exact (kF e30).1.2.1 | exact (kF e30).1.2.2 | exact (kF e30).2.2 | assumption | (refine pc_of hP ?_; (repeat (first | assumption | exact md_refl | refine md_up ?_ rfl | refine md_fill ?_ rfl | (unfold ik; refine md_up ?_ rfl))); done) | (refine pc_oS hP ?_; (repeat (first | assumption | exact md_refl | refine md_up ?_ rfl | refine md_fill ?_ rfl | (unfold ik; refine md_up ?_ rfl))); done) | (refine pm_of hP ?_; (repeat (first | assumption | exact md_refl | refine md_up ?_ rfl | refine md_fill ?_ rfl | (unfold ik; refine md_up ?_ rfl))); done) | omega | decide | ((try simp +decide only [b01, b10, b11, am_up, ik, and_true, and_false, true_and, false_and, if_true, if_false, nn_eq] at *) <;> (try simp only [sw_or, sw_all, or_false, and_true, i32_lt, i32_le, i32_eq, i32_addw, i32_subw, i32_mulw, Int32.reduceToInt] at *) <;> omega) | (apply_assumption; done)) rfl ?_
      refine r_il1 (q := 24) d_MA_trap_23 rfl ?_
      refine r_vi2 mo_ME_findTarget d_MA_trap_24 rfl (r_kM (by first | exact hPs | exact hm | exact k3 | exact hn0 | exact k5 | exact hP | exact (kF e30).1.1 | exact (kF e30).1.2.1 | exact (kF e30).1.2.2 | exact (kF e30).2.2 | assumption | (refine pc_of hP ?_; (repeat (first | assumption | exact md_refl | refine md_up ?_ rfl | refine md_fill ?_ rfl | (unfold ik; refine md_up ?_ rfl))); done) | (refine pc_oS hP ?_; (repeat (first | assumption | exact md_refl | refine md_up ?_ rfl | refine md_fill ?_ rfl | (unfold ik; refine md_up ?_ rfl))); done) | (refine pm_of hP ?_; (repeat (first | assumption | exact md_refl | refine md_up ?_ rfl | refine md_fill ?_ rfl | (unfold ik; refine md_up ?_ rfl))); done) | omega | decide | ((try simp +decide only [b01, b10, b11, am_up, ik, and_true, and_false, true_and, false_and, if_true, if_false, nn_eq] at *) <;> (try simp only [sw_or, sw_all, or_false, and_true, i32_lt, i32_le, i32_eq, i32_addw, i32_subw, i32_mulw, Int32.reduceToInt] at *) <;> omega) | (apply_assumption; done))) rfl (q := 27) rfl ?_
      refine sp_ME_findTarget (P := P) (by first | exact hPs | exact hm | exact k3 | exact hn0 | exact k5 | exact hP | exact (kF e30).1.1 | exact (kF e30).1.2.1 | exact (kF e30).1.2.2 | exact (kF e30).2.2 | assumption | (refine pc_of hP ?_; (repeat (first | assumption | exact md_refl | refine md_up ?_ rfl | refine md_fill ?_ rfl | (unfold ik; refine md_up ?_ rfl))); done) | (refine pc_oS hP ?_; (repeat (first | assumption | exact md_refl | refine md_up ?_ rfl | refine md_fill ?_ rfl | (unfold ik; refine md_up ?_ rfl))); done) | (refine pm_of hP ?_; (repeat (first | assumption | exact md_refl | refine md_up ?_ rfl | refine md_fill ?_ rfl | (unfold ik; refine md_up ?_ rfl))); done) | omega | decide | ((try simp +decide only [b01, b10, b11, am_up, ik, and_true, and_false, true_and, false_and, if_true, if_false, nn_eq] at *) <;> (try simp only [sw_or, sw_all, or_false, and_true, i32_lt, i32_le, i32_eq, i32_addw, i32_subw, i32_mulw, Int32.reduceToInt] at *) <;> omega) | (apply_assumption; done)) (by first | exact hPs | exact hm | exact k3 | exact hn0 | exact k5 | exact hP | exact (kF e30).1.1 | exact (kF e30).1.2.1 | exact (kF e30).1.2.2 | exact (kF e30).2.2 | assumption | (refine pc_of hP ?_; (repeat (first | assumption | exact md_refl | refine md_up ?_ rfl | refine md_fill ?_ rfl | (unfold ik; refine md_up ?_ rfl))); done) | (refine pc_oS hP ?_; (repeat (first | assumption | exact md_refl | refine md_up ?_ rfl | refine md_fill ?_ rfl | (unfold ik; refine md_up ?_ rfl))); done) | (refine pm_of hP ?_; (repeat (first | assumption | exact md_refl | refine md_up ?_ rfl | refine md_fill ?_ rfl | (unfold ik; refine md_up ?_ rfl))); done) | omega | decide | ((try simp +decide only [b01, b10, b11, am_up, ik, and_true, and_false, true_and, false_and, if_true, if_false, nn_eq] at *) <;> (try simp only [sw_or, sw_all, or_false, and_true, i32_lt, i32_le, i32_eq, i32_addw, i32_subw, i32_mulw, Int32.reduceToInt] at *) <;> omega) | (apply_assumption; done)) (by first | exact hPs | exact hm | exact k3 | exact hn0 | exact k5 | exact hP | exact (kF e30).1.1 | exact (kF e30).1.2.1 | exact (kF e30).1.2.2 | exact (kF e30).2.2 | assumption | (refine pc_of hP ?_; (repeat (first | assumption | exact md_refl | refine md_up ?_ rfl | refine md_fill ?_ rfl | (unfold ik; refine md_up ?_ rfl))); done) | (refine pc_oS hP ?_; (repeat (first | assumption | exact md_refl | refine md_up ?_ rfl | refine md_fill ?_ rfl | (unfold ik; refine md_up ?_ rfl))); done) | (refine pm_of hP ?_; (repeat (first | assumption | exact md_refl | refine md_up ?_ rfl | refine md_fill ?_ rfl | (unfold ik; refine md_up ?_ rfl))); done) | omega | decide | ((try simp +decide only [b01, b10, b11, am_up, ik, and_true, and_false, true_and, false_and, if_true, if_false, nn_eq] at *) <;> (try simp only [sw_or, sw_all, or_false, and_true, i32_lt, i32_le, i32_eq, i32_addw, i32_subw, i32_mulw, Int32.reduceToInt] at *) <;> omega) | (apply_assumption; done)) ?_
      refine r_is3 (q := 28) d_MA_trap_27 rfl ?_
      refine r_il3 (q := 29) d_MA_trap_28 rfl ?_
      refine r_ic (v := -1) (q := 30) d_MA_trap_29 rfl rfl ?_
      refine r_ceq (tgt := 55) (q := 33) d_MA_trap_30 rfl rfl (fun e30 => ?_) (fun e30 => ?_)
      · skip
        refine r_al0 (q := 56) d_MA_trap_55 rfl ?_
        refine r_vv0 mo_MA_closeFrame d_MA_trap_56 rfl rfl rfl (q := 59) rfl ?_
        refine sp_MA_closeFrame (P := P) (st0 := st0) (A := A) (by first | exact hPs | exact hm | exact k3 | exact hn0 | exact k5 | exact hP | exact (kF e30).1.1 | exact (kF e30).1.2.1 | exact (kF e30).1.2.2 | exact (kF e30).2.2 | assumption | (refine pc_of hP ?_; (repeat (first | assumption | exact md_refl | refine md_up ?_ rfl | refine md_fill ?_ rfl | (unfold ik; refine md_up ?_ rfl))); done) | (refine pc_oS hP ?_; (repeat (first | assumption | exact md_refl | refine md_up ?_ rfl | refine md_fill ?_ rfl | (unfold ik; refine md_up ?_ rfl))); done) | (refine pm_of hP ?_; (repeat (first | assumption | exact md_refl | refine md_up ?_ rfl | refine md_fill ?_ rfl | (unfold ik; refine md_up ?_ rfl))); done) | omega | decide | ((try simp +decide only [b01, b10, b11, am_up, ik, and_true, and_false, true_and, false_and, if_true, if_false, nn_eq] at *) <;> (try simp only [sw_or, sw_all, or_false, and_true, i32_lt, i32_le, i32_eq, i32_addw, i32_subw, i32_mulw, Int32.reduceToInt] at *) <;> omega) | (apply_assumption; done)) (by first | exact hPs | exact hm | exact k3 | exact hn0 | exact k5 | exact hP | exact (kF e30).1.1 | exact (kF e30).1.2.1 | exact (kF e30).1.2.2 | exact (kF e30).2.2 | assumption | (refine pc_of hP ?_; (repeat (first | assumption | exact md_refl | refine md_up ?_ rfl | refine md_fill ?_ rfl | (unfold ik; refine md_up ?_ rfl))); done) | (refine pc_oS hP ?_; (repeat (first | assumption | exact md_refl | refine md_up ?_ rfl | refine md_fill ?_ rfl | (unfold ik; refine md_up ?_ rfl))); done) | (refine pm_of hP ?_; (repeat (first | assumption | exact md_refl | refine md_up ?_ rfl | refine md_fill ?_ rfl | (unfold ik; refine md_up ?_ rfl))); done) | omega | decide | ((try simp +decide only [b01, b10, b11, am_up, ik, and_true, and_false, true_and, false_and, if_true, if_false, nn_eq] at *) <;> (try simp only [sw_or, sw_all, or_false, and_true, i32_lt, i32_le, i32_eq, i32_addw, i32_subw, i32_mulw, Int32.reduceToInt] at *) <;> omega) | (apply_assumption; done)) (by first | exact hPs | exact hm | exact k3 | exact hn0 | exact k5 | exact hP | exact (kF e30).1.1 | exact (kF e30).1.2.1 | exact (kF e30).1.2.2 | exact (kF e30).2.2 | assumption | (refine pc_of hP ?_; (repeat (first | assumption | exact md_refl | refine md_up ?_ rfl | refine md_fill ?_ rfl | (unfold ik; refine md_up ?_ rfl))); done) | (refine pc_oS hP ?_; (repeat (first | assumption | exact md_refl | refine md_up ?_ rfl | refine md_fill ?_ rfl | (unfold ik; refine md_up ?_ rfl))); done) | (refine pm_of hP ?_; (repeat (first | assumption | exact md_refl | refine md_up ?_ rfl | refine md_fill ?_ rfl | (unfold ik; refine md_up ?_ rfl))); done) | omega | decide | ((try simp +decide only [b01, b10, b11, am_up, ik, and_true, and_false, true_and, false_and, if_true, if_false, nn_eq] at *) <;> (try simp only [sw_or, sw_all, or_false, and_true, i32_lt, i32_le, i32_eq, i32_addw, i32_subw, i32_mulw, Int32.reduceToInt] at *) <;> omega) | (apply_assumption; done)) (fun e56 => ?_)
        · skip
          refine r_in2 (v := -1) (q := 62) d_MA_trap_59 rfl rfl ?_
          refine am_go (tgt := 5) d_MA_trap_62 rfl ?_
          first | exact kC e30 _ _ e56.2 | (exfalso; clear kC kF hP hV k3 k4 k5 hPs; ((try simp +decide only [b01, b10, b11, am_up, ik, and_true, and_false, true_and, false_and, if_true, if_false, nn_eq] at *) <;> (try simp only [sw_or, sw_all, or_false, and_true, i32_lt, i32_le, i32_eq, i32_addw, i32_subw, i32_mulw, Int32.reduceToInt] at *) <;> omega))
      · skip
        refine r_al0 (q := 34) d_MA_trap_33 rfl ?_
        refine gt_MA_latest (q := 37) d_MA_trap_34 rfl rfl ?_
        refine r_il3 (q := 38) d_MA_trap_37 rfl ?_
        refine pt_FR_place (q := 41) d_MA_trap_38 rfl (by first | exact hPs | exact hm | exact k3 | exact hn0 | exact k5 | exact hP | exact (kF e30).1.1 | exact (kF e30).1.2.1 | exact (kF e30).1.2.2 | exact (kF e30).2.2 | assumption | (refine pc_of hP ?_; (repeat (first | assumption | exact md_refl | refine md_up ?_ rfl | refine md_fill ?_ rfl | (unfold ik; refine md_up ?_ rfl))); done) | (refine pc_oS hP ?_; (repeat (first | assumption | exact md_refl | refine md_up ?_ rfl | refine md_fill ?_ rfl | (unfold ik; refine md_up ?_ rfl))); done) | (refine pm_of hP ?_; (repeat (first | assumption | exact md_refl | refine md_up ?_ rfl | refine md_fill ?_ rfl | (unfold ik; refine md_up ?_ rfl))); done) | omega | decide | ((try simp +decide only [b01, b10, b11, am_up, ik, and_true, and_false, true_and, false_and, if_true, if_false, nn_eq] at *) <;> (try simp only [sw_or, sw_all, or_false, and_true, i32_lt, i32_le, i32_eq, i32_addw, i32_subw, i32_mulw, Int32.reduceToInt] at *) <;> omega) | (apply_assumption; done)) rfl ?_
        refine r_al0 (q := 42) d_MA_trap_41 rfl ?_
        refine gt_MA_latest (q := 45) d_MA_trap_42 rfl rfl ?_
        refine r_ic (v := 0) (q := 46) d_MA_trap_45 rfl rfl ?_
        refine pt_FR_high (q := 49) d_MA_trap_46 rfl (by first | exact hPs | exact hm | exact k3 | exact hn0 | exact k5 | exact hP | exact (kF e30).1.1 | exact (kF e30).1.2.1 | exact (kF e30).1.2.2 | exact (kF e30).2.2 | assumption | (refine pc_of hP ?_; (repeat (first | assumption | exact md_refl | refine md_up ?_ rfl | refine md_fill ?_ rfl | (unfold ik; refine md_up ?_ rfl))); done) | (refine pc_oS hP ?_; (repeat (first | assumption | exact md_refl | refine md_up ?_ rfl | refine md_fill ?_ rfl | (unfold ik; refine md_up ?_ rfl))); done) | (refine pm_of hP ?_; (repeat (first | assumption | exact md_refl | refine md_up ?_ rfl | refine md_fill ?_ rfl | (unfold ik; refine md_up ?_ rfl))); done) | omega | decide | ((try simp +decide only [b01, b10, b11, am_up, ik, and_true, and_false, true_and, false_and, if_true, if_false, nn_eq] at *) <;> (try simp only [sw_or, sw_all, or_false, and_true, i32_lt, i32_le, i32_eq, i32_addw, i32_subw, i32_mulw, Int32.reduceToInt] at *) <;> omega) | (apply_assumption; done)) rfl ?_
        refine r_al0 (q := 50) d_MA_trap_49 rfl ?_
        refine r_il1 (q := 51) d_MA_trap_50 rfl ?_
        refine r_vv1 mo_MA_push d_MA_trap_51 rfl rfl rfl (q := 54) rfl ?_
        refine sp_MA_push (P := P) (st0 := st0) (A := o_top0 (o_set A (fhT P (fm A (lf A)) (A 2164 (lf A)) k))) (by first | exact hPs | exact hm | exact k3 | exact hn0 | exact k5 | exact hP | exact (kF e30).1.1 | exact (kF e30).1.2.1 | exact (kF e30).1.2.2 | exact (kF e30).2.2 | assumption | (refine pc_of hP ?_; (repeat (first | assumption | exact md_refl | refine md_up ?_ rfl | refine md_fill ?_ rfl | (unfold ik; refine md_up ?_ rfl))); done) | (refine pc_oS hP ?_; (repeat (first | assumption | exact md_refl | refine md_up ?_ rfl | refine md_fill ?_ rfl | (unfold ik; refine md_up ?_ rfl))); done) | (refine pm_of hP ?_; (repeat (first | assumption | exact md_refl | refine md_up ?_ rfl | refine md_fill ?_ rfl | (unfold ik; refine md_up ?_ rfl))); done) | omega | decide | ((try simp +decide only [b01, b10, b11, am_up, ik, and_true, and_false, true_and, false_and, if_true, if_false, nn_eq] at *) <;> (try simp only [sw_or, sw_all, or_false, and_true, i32_lt, i32_le, i32_eq, i32_addw, i32_subw, i32_mulw, Int32.reduceToInt] at *) <;> omega) | (apply_assumption; done)) (by first | exact hPs | exact hm | exact k3 | exact hn0 | exact k5 | exact hP | exact (kF e30).1.1 | exact (kF e30).1.2.1 | exact (kF e30).1.2.2 | exact (kF e30).2.2 | assumption | (refine pc_of hP ?_; (repeat (first | assumption | exact md_refl | refine md_up ?_ rfl | refine md_fill ?_ rfl | (unfold ik; refine md_up ?_ rfl))); done) | (refine pc_oS hP ?_; (repeat (first | assumption | exact md_refl | refine md_up ?_ rfl | refine md_fill ?_ rfl | (unfold ik; refine md_up ?_ rfl))); done) | (refine pm_of hP ?_; (repeat (first | assumption | exact md_refl | refine md_up ?_ rfl | refine md_fill ?_ rfl | (unfold ik; refine md_up ?_ rfl))); done) | omega | decide | ((try simp +decide only [b01, b10, b11, am_up, ik, and_true, and_false, true_and, false_and, if_true, if_false, nn_eq] at *) <;> (try simp only [sw_or, sw_all, or_false, and_true, i32_lt, i32_le, i32_eq, i32_addw, i32_subw, i32_mulw, Int32.reduceToInt] at *) <;> omega) | (apply_assumption; done)) (by first | exact hPs | exact hm | exact k3 | exact hn0 | exact k5 | exact hP | exact (kF e30).1.1 | exact (kF e30).1.2.1 | exact (kF e30).1.2.2 | exact (kF e30).2.2 | assumption | (refine pc_of hP ?_; (repeat (first | assumption | exact md_refl | refine md_up ?_ rfl | refine md_fill ?_ rfl | (unfold ik; refine md_up ?_ rfl))); done) | (refine pc_oS hP ?_; (repeat (first | assumption | exact md_refl | refine md_up ?_ rfl | refine md_fill ?_ rfl | (unfold ik; refine md_up ?_ rfl))); done) | (refine pm_of hP ?_; (repeat (first | assumption | exact md_refl | refine md_up ?_ rfl | refine md_fill ?_ rfl | (unfold ik; refine md_up ?_ rfl))); done) | omega | decide | ((try simp +decide only [b01, b10, b11, am_up, ik, and_true, and_false, true_and, false_and, if_true, if_false, nn_eq] at *) <;> (try simp only [sw_or, sw_all, or_false, and_true, i32_lt, i32_le, i32_eq, i32_addw, i32_subw, i32_mulw, Int32.reduceToInt] at *) <;> omega) | (apply_assumption; done)) (by first | exact hPs | exact hm | exact k3 | exact hn0 | exact k5 | exact hP | exact (kF e30).1.1 | exact (kF e30).1.2.1 | exact (kF e30).1.2.2 | exact (kF e30).2.2 | assumption | (refine pc_of hP ?_; (repeat (first | assumption | exact md_refl | refine md_up ?_ rfl | refine md_fill ?_ rfl | (unfold ik; refine md_up ?_ rfl))); done) | (refine pc_oS hP ?_; (repeat (first | assumption | exact md_refl | refine md_up ?_ rfl | refine md_fill ?_ rfl | (unfold ik; refine md_up ?_ rfl))); done) | (refine pm_of hP ?_; (repeat (first | assumption | exact md_refl | refine md_up ?_ rfl | refine md_fill ?_ rfl | (unfold ik; refine md_up ?_ rfl))); done) | omega | decide | ((try simp +decide only [b01, b10, b11, am_up, ik, and_true, and_false, true_and, false_and, if_true, if_false, nn_eq] at *) <;> (try simp only [sw_or, sw_all, or_false, and_true, i32_lt, i32_le, i32_eq, i32_addw, i32_subw, i32_mulw, Int32.reduceToInt] at *) <;> omega) | (apply_assumption; done)) (by first | exact hPs | exact hm | exact k3 | exact hn0 | exact k5 | exact hP | exact (kF e30).1.1 | exact (kF e30).1.2.1 | exact (kF e30).1.2.2 | exact (kF e30).2.2 | assumption | (refine pc_of hP ?_; (repeat (first | assumption | exact md_refl | refine md_up ?_ rfl | refine md_fill ?_ rfl | (unfold ik; refine md_up ?_ rfl))); done) | (refine pc_oS hP ?_; (repeat (first | assumption | exact md_refl | refine md_up ?_ rfl | refine md_fill ?_ rfl | (unfold ik; refine md_up ?_ rfl))); done) | (refine pm_of hP ?_; (repeat (first | assumption | exact md_refl | refine md_up ?_ rfl | refine md_fill ?_ rfl | (unfold ik; refine md_up ?_ rfl))); done) | omega | decide | ((try simp +decide only [b01, b10, b11, am_up, ik, and_true, and_false, true_and, false_and, if_true, if_false, nn_eq] at *) <;> (try simp only [sw_or, sw_all, or_false, and_true, i32_lt, i32_le, i32_eq, i32_addw, i32_subw, i32_mulw, Int32.reduceToInt] at *) <;> omega) | (apply_assumption; done)) (by first | exact hPs | exact hm | exact k3 | exact hn0 | exact k5 | exact hP | exact (kF e30).1.1 | exact (kF e30).1.2.1 | exact (kF e30).1.2.2 | exact (kF e30).2.2 | assumption | (refine pc_of hP ?_; (repeat (first | assumption | exact md_refl | refine md_up ?_ rfl | refine md_fill ?_ rfl | (unfold ik; refine md_up ?_ rfl))); done) | (refine pc_oS hP ?_; (repeat (first | assumption | exact md_refl | refine md_up ?_ rfl | refine md_fill ?_ rfl | (unfold ik; refine md_up ?_ rfl))); done) | (refine pm_of hP ?_; (repeat (first | assumption | exact md_refl | refine md_up ?_ rfl | refine md_fill ?_ rfl | (unfold ik; refine md_up ?_ rfl))); done) | omega | decide | ((try simp +decide only [b01, b10, b11, am_up, ik, and_true, and_false, true_and, false_and, if_true, if_false, nn_eq] at *) <;> (try simp only [sw_or, sw_all, or_false, and_true, i32_lt, i32_le, i32_eq, i32_addw, i32_subw, i32_mulw, Int32.reduceToInt] at *) <;> omega) | (apply_assumption; done)) (fun e51 => ?_)
        · skip
          refine r_rv d_MA_trap_54 ?_
          exact (kF e30).2.1 e51
theorem sp_MA_trap {P st0 A : am_S} {k : Int32} {st : am_S} {f : am_S → Prop} (c1 : PC st0 P) (c2 : VP P) (c3 : BV P A) (c4 : HT P A) (c5 : ¬ k + 2 = 2) (c6 : QC P st0 A st) (h1 : ∀ q : {q : am_S // QC P st0 (o_trap P (fn A) k A) q}, f q.1) : wp_MA_trap [.inr (.inl 127), .inl k] st (am_kv f) := by
  refine ⟨⟨rfl, Nat.le_of_ble_eq_true rfl⟩, ?_⟩
  have e : (st 519 0).toInt = (fn A : Int) := by rw [c6.2.1.1]; exact fn_I c3.1
  refine r_al0 (q := 1) d_MA_trap_0 rfl ?_
  refine gt_MA_frameCount (q := 4) d_MA_trap_1 rfl rfl ?_
  refine r_is2 (q := 5) d_MA_trap_4 rfl ?_
  exact lp_MA_tr c1 c2 c5 (fn A) A _ _ st rfl e c3 c4 c6 h1
abbrev am_tr (w k y p : Int32) (K : am_S → Prop) (pc : Nat) (a5 : Option am_V) (st : am_S) : Prop := am_AW c_MO_trap g_MO_trap (fun o' st' => am_ok none o' ∧ am_kv K o' st') pc [some (.inr (.inl 128)), some (.inl w), some (.inl k), some (.inl y), some (.inl p), a5] [] st
theorem lp_MO_fh {P st : am_S} {w k y p : Int32} {K : am_S → Prop} (hP : PM st P) (hV : VP P) (hy : 0 ≤ y.toInt ∧ y.toNatClampNeg < nM P) (hT : ∀ i, i < (P 7 y.toNatClampNeg).toInt.toNat → (P 8 (4 * y.toNatClampNeg + i) ≤ p ∧ p < P 9 (4 * y.toNatClampNeg + i)) → ¬ P 10 (4 * y.toNatClampNeg + i) = -1) : ∀ (d j : Nat) (h : Int32), j + d = (P 7 y.toNatClampNeg).toInt.toNat → h.toInt = 4 * (y.toNatClampNeg : Int) + j → (∀ h', vp_in h' 32 → st 2152 h'.toNatClampNeg = fhR P y.toNatClampNeg p k d j → ¬ fhR P y.toNatClampNeg p k d j = -1 → am_tr w k y p K 97 (some (.inl h')) st) → (∀ a5, fhR P y.toNatClampNeg p k d j = -1 → am_tr w k y p K 135 a5 st) → am_tr w k y p K 37 (some (.inl h)) st := by
  intro d
  obtain ⟨v8, -, -, ⟨-, v7, v9⟩, -⟩ := mf hP hV hy.2
  have vy : vp_in y 8 := vp_of hy.1 (by rw [nn_eq] at v8; omega)
  have yn : (y.toNatClampNeg : Int) = y.toInt := by rw [nn_eq]; omega
  have hc : (P 7 y.toNatClampNeg).toInt = (st 2149 y.toNatClampNeg).toInt := by rw [hP.2.1]
  induction d with
  | zero =>
    intro j h k1 k2 k3 k4
    have kA := k4 (some (.inl h)) rfl
    clear k3 k4 hT
    refine r_il5 (q := 39) d_MO_trap_37 rfl ?_
    refine r_ic (v := 4) (q := 40) d_MO_trap_39 rfl rfl ?_
    refine r_il3 (q := 41) d_MO_trap_40 rfl ?_
    refine r_imul (q := 42) d_MO_trap_41 rfl ?_
    refine r_al0 (q := 43) d_MO_trap_42 rfl ?_
    refine gt_MO_handlers (q := 46) d_MO_trap_43 rfl rfl ?_
    refine r_il3 (q := 47) d_MO_trap_46 rfl ?_
    refine ld_149 (q := 48) d_MO_trap_47 ?_ rfl ?_
    · exact vy
    refine r_iadd (q := 49) d_MO_trap_48 rfl ?_
    refine r_cge (tgt := 135) (q := 52) d_MO_trap_49 rfl rfl (fun e49 => ?_) (fun e49 => ?_)
    · skip
      first | exact kA | (exfalso; clear kA hP hV; ((try simp +decide only [b01, b10, b11, am_up, ik, and_true, and_false, true_and, false_and, if_true, if_false, nn_eq] at *) <;> (try simp only [sw_or, sw_all, or_false, and_true, i32_lt, i32_le, i32_eq, i32_addw, i32_subw, i32_mulw, Int32.reduceToInt] at *) <;> omega))
    · skip
      first | exact kA | (exfalso; clear kA hP hV; ((try simp +decide only [b01, b10, b11, am_up, ik, and_true, and_false, true_and, false_and, if_true, if_false, nn_eq] at *) <;> (try simp only [sw_or, sw_all, or_false, and_true, i32_lt, i32_le, i32_eq, i32_addw, i32_subw, i32_mulw, Int32.reduceToInt] at *) <;> omega))
  | succ d ih =>
    intro j h k1 k2 k3 k4
    have hx4 : h.toNatClampNeg = 4 * y.toNatClampNeg + j := by rw [nn_eq]; omega
    have vh : vp_in h 32 := vp_of (by omega) (by omega)
    have u1 : fhR P y.toNatClampNeg p k (d + 1) j = if (P 8 (4 * y.toNatClampNeg + j) ≤ p ∧ p < P 9 (4 * y.toNatClampNeg + j)) ∧ (P 11 (4 * y.toNatClampNeg + j) = 0 ∨ P 11 (4 * y.toNatClampNeg + j) = k) then P 10 (4 * y.toNatClampNeg + j) else fhR P y.toNatClampNeg p k d (j + 1) := rfl
    rw [u1] at k3 k4
    have hT' := hT j (by omega)
    rw [← hP.2.2.1, ← hP.2.2.2.1, ← hP.2.2.2.2.1, ← hP.2.2.2.2.2.1, ← hx4] at k3 k4
    rw [← hP.2.2.1, ← hP.2.2.2.1, ← hP.2.2.2.2.1, ← hx4] at hT'
    have kT : (st 2150 h.toNatClampNeg ≤ p ∧ p < st 2151 h.toNatClampNeg) → (st 2153 h.toNatClampNeg = 0 ∨ st 2153 h.toNatClampNeg = k) → am_tr w k y p K 97 (some (.inl h)) st := by
      intro q1 q2
      have := k3 h vh
      rw [if_pos ⟨q1, q2⟩] at this
      exact this rfl (hT' q1)
    have kN : ¬ ((st 2150 h.toNatClampNeg ≤ p ∧ p < st 2151 h.toNatClampNeg) ∧ (st 2153 h.toNatClampNeg = 0 ∨ st 2153 h.toNatClampNeg = k)) → am_tr w k y p K 37 (some (.inl (h + 1))) st := by
      intro q
      rw [if_neg q] at k3 k4
      exact ih (j + 1) _ (by omega) (by rw [i32_addw]; simp only [Int32.reduceToInt]; omega) k3 k4
    have cov1 : ¬ p < st 2150 h.toNatClampNeg → st 2150 h.toNatClampNeg ≤ p := fun q => by rw [i32_lt] at q; rw [i32_le]; omega
    have cov2 : p < st 2150 h.toNatClampNeg → ¬ st 2150 h.toNatClampNeg ≤ p := fun q => by rw [i32_lt] at q; rw [i32_le]; omega
    clear ih k3 k4 hT hT' u1
    refine r_il5 (q := 39) d_MO_trap_37 rfl ?_
    refine r_ic (v := 4) (q := 40) d_MO_trap_39 rfl rfl ?_
    refine r_il3 (q := 41) d_MO_trap_40 rfl ?_
    refine r_imul (q := 42) d_MO_trap_41 rfl ?_
    refine r_al0 (q := 43) d_MO_trap_42 rfl ?_
    refine gt_MO_handlers (q := 46) d_MO_trap_43 rfl rfl ?_
    refine r_il3 (q := 47) d_MO_trap_46 rfl ?_
    refine ld_149 (q := 48) d_MO_trap_47 ?_ rfl ?_
    · first | exact vy | exact vh
    refine r_iadd (q := 49) d_MO_trap_48 rfl ?_
    refine r_cge (tgt := 135) (q := 52) d_MO_trap_49 rfl rfl (fun e49 => ?_) (fun e49 => ?_)
    · skip
      first | exact kN (fun q => cov2 e61 q.1.1) | exact kN (fun q => g_nl e73 q.1.2) | exact kT ⟨cov1 e61, g_lt e73⟩ (Or.inr e84) | exact kT ⟨cov1 e61, g_lt e73⟩ (Or.inl e94) | exact kN (fun q => q.2.elim e94 e84) | (exfalso; clear kT kN hP hV cov1 cov2; ((try simp +decide only [b01, b10, b11, am_up, ik, and_true, and_false, true_and, false_and, if_true, if_false, nn_eq] at *) <;> (try simp only [sw_or, sw_all, or_false, and_true, i32_lt, i32_le, i32_eq, i32_addw, i32_subw, i32_mulw, Int32.reduceToInt] at *) <;> omega))
    · skip
      refine r_al0 (q := 53) d_MO_trap_52 rfl ?_
      refine gt_MO_from (q := 56) d_MO_trap_53 rfl rfl ?_
      refine r_il5 (q := 58) d_MO_trap_56 rfl ?_
      refine ld_150 (q := 59) d_MO_trap_58 ?_ rfl ?_
      · first | exact vy | exact vh
      refine r_il4 (q := 61) d_MO_trap_59 rfl ?_
      refine r_cgt (tgt := 129) (q := 64) d_MO_trap_61 rfl rfl (fun e61 => ?_) (fun e61 => ?_)
      · skip
        refine r_in5 (v := 1) (q := 132) d_MO_trap_129 rfl rfl ?_
        refine am_go (tgt := 37) d_MO_trap_132 rfl ?_
        first | exact kN (fun q => cov2 e61 q.1.1) | exact kN (fun q => g_nl e73 q.1.2) | exact kT ⟨cov1 e61, g_lt e73⟩ (Or.inr e84) | exact kT ⟨cov1 e61, g_lt e73⟩ (Or.inl e94) | exact kN (fun q => q.2.elim e94 e84) | (exfalso; clear kT kN hP hV cov1 cov2; ((try simp +decide only [b01, b10, b11, am_up, ik, and_true, and_false, true_and, false_and, if_true, if_false, nn_eq] at *) <;> (try simp only [sw_or, sw_all, or_false, and_true, i32_lt, i32_le, i32_eq, i32_addw, i32_subw, i32_mulw, Int32.reduceToInt] at *) <;> omega))
      · skip
        refine r_il4 (q := 66) d_MO_trap_64 rfl ?_
        refine r_al0 (q := 67) d_MO_trap_66 rfl ?_
        refine gt_MO_to (q := 70) d_MO_trap_67 rfl rfl ?_
        refine r_il5 (q := 72) d_MO_trap_70 rfl ?_
        refine ld_151 (q := 73) d_MO_trap_72 ?_ rfl ?_
        · first | exact vy | exact vh
        refine r_cge (tgt := 129) (q := 76) d_MO_trap_73 rfl rfl (fun e73 => ?_) (fun e73 => ?_)
        · skip
          refine r_in5 (v := 1) (q := 132) d_MO_trap_129 rfl rfl ?_
          refine am_go (tgt := 37) d_MO_trap_132 rfl ?_
          first | exact kN (fun q => cov2 e61 q.1.1) | exact kN (fun q => g_nl e73 q.1.2) | exact kT ⟨cov1 e61, g_lt e73⟩ (Or.inr e84) | exact kT ⟨cov1 e61, g_lt e73⟩ (Or.inl e94) | exact kN (fun q => q.2.elim e94 e84) | (exfalso; clear kT kN hP hV cov1 cov2; ((try simp +decide only [b01, b10, b11, am_up, ik, and_true, and_false, true_and, false_and, if_true, if_false, nn_eq] at *) <;> (try simp only [sw_or, sw_all, or_false, and_true, i32_lt, i32_le, i32_eq, i32_addw, i32_subw, i32_mulw, Int32.reduceToInt] at *) <;> omega))
        · skip
          refine r_al0 (q := 77) d_MO_trap_76 rfl ?_
          refine gt_MO_kind (q := 80) d_MO_trap_77 rfl rfl ?_
          refine r_il5 (q := 82) d_MO_trap_80 rfl ?_
          refine ld_153 (q := 83) d_MO_trap_82 ?_ rfl ?_
          · first | exact vy | exact vh
          refine r_il2 (q := 84) d_MO_trap_83 rfl ?_
          refine r_ceq (tgt := 97) (q := 87) d_MO_trap_84 rfl rfl (fun e84 => ?_) (fun e84 => ?_)
          · skip
            first | exact kN (fun q => cov2 e61 q.1.1) | exact kN (fun q => g_nl e73 q.1.2) | exact kT ⟨cov1 e61, g_lt e73⟩ (Or.inr e84) | exact kT ⟨cov1 e61, g_lt e73⟩ (Or.inl e94) | exact kN (fun q => q.2.elim e94 e84) | (exfalso; clear kT kN hP hV cov1 cov2; ((try simp +decide only [b01, b10, b11, am_up, ik, and_true, and_false, true_and, false_and, if_true, if_false, nn_eq] at *) <;> (try simp only [sw_or, sw_all, or_false, and_true, i32_lt, i32_le, i32_eq, i32_addw, i32_subw, i32_mulw, Int32.reduceToInt] at *) <;> omega))
          · skip
            refine r_al0 (q := 88) d_MO_trap_87 rfl ?_
            refine gt_MO_kind (q := 91) d_MO_trap_88 rfl rfl ?_
            refine r_il5 (q := 93) d_MO_trap_91 rfl ?_
            refine ld_153 (q := 94) d_MO_trap_93 ?_ rfl ?_
            · first | exact vy | exact vh
            refine r_zne (tgt := 129) (q := 97) d_MO_trap_94 rfl rfl (fun e94 => ?_) (fun e94 => ?_)
            · skip
              refine r_in5 (v := 1) (q := 132) d_MO_trap_129 rfl rfl ?_
              refine am_go (tgt := 37) d_MO_trap_132 rfl ?_
              first | exact kN (fun q => cov2 e61 q.1.1) | exact kN (fun q => g_nl e73 q.1.2) | exact kT ⟨cov1 e61, g_lt e73⟩ (Or.inr e84) | exact kT ⟨cov1 e61, g_lt e73⟩ (Or.inl e94) | exact kN (fun q => q.2.elim e94 e84) | (exfalso; clear kT kN hP hV cov1 cov2; ((try simp +decide only [b01, b10, b11, am_up, ik, and_true, and_false, true_and, false_and, if_true, if_false, nn_eq] at *) <;> (try simp only [sw_or, sw_all, or_false, and_true, i32_lt, i32_le, i32_eq, i32_addw, i32_subw, i32_mulw, Int32.reduceToInt] at *) <;> omega))
            · skip
              first | exact kN (fun q => cov2 e61 q.1.1) | exact kN (fun q => g_nl e73 q.1.2) | exact kT ⟨cov1 e61, g_lt e73⟩ (Or.inr e84) | exact kT ⟨cov1 e61, g_lt e73⟩ (Or.inl e94) | exact kN (fun q => q.2.elim e94 e84) | (exfalso; clear kT kN hP hV cov1 cov2; ((try simp +decide only [b01, b10, b11, am_up, ik, and_true, and_false, true_and, false_and, if_true, if_false, nn_eq] at *) <;> (try simp only [sw_or, sw_all, or_false, and_true, i32_lt, i32_le, i32_eq, i32_addw, i32_subw, i32_mulw, Int32.reduceToInt] at *) <;> omega))
theorem lp_MO_tr {P st0 : am_S} {w k : Int32} {f : am_S → Prop} (hP : PM st0 P) (hV : VP P) (hw : w = k + 2) : ∀ (n : Nat) (A : am_S) (a3 a4 a5 : Option am_V) (st : am_S), fn A = n → BV P A → HT P A → QM st0 A st → (∀ q : {q : am_S // QM st0 (o_trap P n k A) q}, f q.1) → am_AW c_MO_trap g_MO_trap (fun o' st' => am_ok none o' ∧ am_kv f o' st') 4 [some (.inr (.inl 128)), some (.inl w), some (.inl k), a3, a4, a5] [] st := by
  intro n
  induction n with
  | zero =>
    intro A a3 a4 a5 st k1 k3 k4 k5 h
    have u0 : o_trap P 0 k A = o_stop A (k + 2) := rfl
    rw [u0, ← hw] at h
    have e610 : (st 610 0).toInt = 0 := by rw [k5.2 610 rfl, fn_I k3.1, k1]; rfl
    refine r_al0 (q := 5) d_MO_trap_4 rfl ?_
    refine gt_MO_frames (q := 8) d_MO_trap_5 rfl rfl ?_
    refine r_zle (tgt := 142) (q := 11) d_MO_trap_8 rfl rfl (fun e8 => ?_) (fun e8 => ?_)
    · skip
      refine r_al0 (q := 143) d_MO_trap_142 rfl ?_
      refine r_il1 (q := 144) d_MO_trap_143 rfl ?_
      refine r_vv1 mo_MO_stop d_MO_trap_144 rfl rfl rfl (q := 147) rfl ?_
      refine sp_MO_stop (st0 := st0) (A := A) (by first | exact k5 | assumption | (refine pc_of hP ?_; (repeat (first | assumption | exact md_refl | refine md_up ?_ rfl | refine md_fill ?_ rfl | (unfold ik; refine md_up ?_ rfl))); done) | (refine pc_oS hP ?_; (repeat (first | assumption | exact md_refl | refine md_up ?_ rfl | refine md_fill ?_ rfl | (unfold ik; refine md_up ?_ rfl))); done) | (refine pm_of hP ?_; (repeat (first | assumption | exact md_refl | refine md_up ?_ rfl | refine md_fill ?_ rfl | (unfold ik; refine md_up ?_ rfl))); done) | omega | decide | ((try simp +decide only [b01, b10, b11, am_up, ik, and_true, and_false, true_and, false_and, if_true, if_false, nn_eq] at *) <;> (try simp only [sw_or, sw_all, or_false, and_true, i32_lt, i32_le, i32_eq, i32_addw, i32_subw, i32_mulw, Int32.reduceToInt] at *) <;> omega) | (apply_assumption; done)) (fun e144 => ?_)
      · skip
        refine r_rv d_MO_trap_147 ?_
        exact h e144
    · skip
      exfalso; clear h hP hV k3 k4 k5; ((try simp +decide only [b01, b10, b11, am_up, ik, and_true, and_false, true_and, false_and, if_true, if_false, nn_eq] at *) <;> (try simp only [sw_or, sw_all, or_false, and_true, i32_lt, i32_le, i32_eq, i32_addw, i32_subw, i32_mulw, Int32.reduceToInt] at *) <;> omega)
  | succ n ih =>
    intro A a3 a4 a5 st k1 k3 k4 k5 h
    have hn0 : 0 < fn A := by omega
    have hPs := pm_oR hP k5.1
    obtain ⟨t1, t2, t3, ⟨t4, t5, t6⟩, -⟩ := RM_tw hPs hV k3 k5.2 hn0
    have vl : vp_in (st 610 0 - 1) 80 := vp_of t2.1 t2.2
    have tm := (k3.2.1 (lf A) (by unfold lf; omega)).1.2
    have hy : 0 ≤ (st 2163 (st 610 0 - 1).toNatClampNeg).toInt ∧ (st 2163 (st 610 0 - 1).toNatClampNeg).toNatClampNeg < nM P := ⟨t5, by rw [t4]; exact tm⟩
    have ep : st 2164 (st 610 0 - 1).toNatClampNeg = A 2164 (lf A) := by rw [t1, k5.2 2164 rfl]
    have y4 : (4 * st 2163 (st 610 0 - 1).toNatClampNeg).toInt = 4 * ((st 2163 (st 610 0 - 1).toNatClampNeg).toNatClampNeg : Int) + ((0 : Nat) : Int) := by
      rw [i32_mulw, @nn_eq (st 2163 (st 610 0 - 1).toNatClampNeg)]
      simp only [Int32.reduceToInt]
      omega
    have hT : ∀ i, i < (P 7 (st 2163 (st 610 0 - 1).toNatClampNeg).toNatClampNeg).toInt.toNat → (P 8 (4 * (st 2163 (st 610 0 - 1).toNatClampNeg).toNatClampNeg + i) ≤ st 2164 (st 610 0 - 1).toNatClampNeg ∧ st 2164 (st 610 0 - 1).toNatClampNeg < P 9 (4 * (st 2163 (st 610 0 - 1).toNatClampNeg).toNatClampNeg + i)) → ¬ P 10 (4 * (st 2163 (st 610 0 - 1).toNatClampNeg).toNatClampNeg + i) = -1 := by
      rw [t4, ep]
      exact fun i i1 i2 => (k4 (lf A) (by unfold lf; omega) i i1 i2).2
    have eT : fhR P (st 2163 (st 610 0 - 1).toNatClampNeg).toNatClampNeg (st 2164 (st 610 0 - 1).toNatClampNeg) k (P 7 (st 2163 (st 610 0 - 1).toNatClampNeg).toNatClampNeg).toInt.toNat 0 = fhT P (fm A (lf A)) (A 2164 (lf A)) k := by rw [t4, ep]; rfl
    have u1 : o_trap P (n + 1) k A = if fhT P (fm A (lf A)) (A 2164 (lf A)) k = -1 then o_trap P n k (o_close A) else o_push P (o_top0 (o_set A (fhT P (fm A (lf A)) (A 2164 (lf A)) k))) k := rfl
    rw [u1] at h
    have kC : ∀ a5', fhR P (st 2163 (st 610 0 - 1).toNatClampNeg).toNatClampNeg (st 2164 (st 610 0 - 1).toNatClampNeg) k (P 7 (st 2163 (st 610 0 - 1).toNatClampNeg).toNatClampNeg).toInt.toNat 0 = -1 → am_tr w k (st 2163 (st 610 0 - 1).toNatClampNeg) (st 2164 (st 610 0 - 1).toNatClampNeg) f 135 a5' st := by
      intro a5' q
      rw [eT] at q
      rw [if_pos q] at h
      have cn := close_n k3 hn0
      have kI : ∀ s b3 b4, QM st0 (o_close A) s → am_AW c_MO_trap g_MO_trap (fun o' st' => am_ok none o' ∧ am_kv f o' st') 4 [some (.inr (.inl 128)), some (.inl w), some (.inl k), b3, b4, a5'] [] s := fun s b3 b4 hsq => ih (o_close A) b3 b4 a5' s (by omega) (BV_close k3 hn0) (HT_close k3 hn0 k4) hsq h
      clear ih h
      refine r_al0 (q := 136) d_MO_trap_135 rfl ?_
      refine r_vv0 mo_MO_leave d_MO_trap_136 rfl rfl rfl (q := 139) rfl ?_
      refine sp_MO_leave (P := P) (st0 := st0) (A := A) (by first | exact k3 | exact hn0 | exact k5 | assumption | (refine pc_of hP ?_; (repeat (first | assumption | exact md_refl | refine md_up ?_ rfl | refine md_fill ?_ rfl | (unfold ik; refine md_up ?_ rfl))); done) | (refine pc_oS hP ?_; (repeat (first | assumption | exact md_refl | refine md_up ?_ rfl | refine md_fill ?_ rfl | (unfold ik; refine md_up ?_ rfl))); done) | (refine pm_of hP ?_; (repeat (first | assumption | exact md_refl | refine md_up ?_ rfl | refine md_fill ?_ rfl | (unfold ik; refine md_up ?_ rfl))); done) | omega | decide | ((try simp +decide only [b01, b10, b11, am_up, ik, and_true, and_false, true_and, false_and, if_true, if_false, nn_eq] at *) <;> (try simp only [sw_or, sw_all, or_false, and_true, i32_lt, i32_le, i32_eq, i32_addw, i32_subw, i32_mulw, Int32.reduceToInt] at *) <;> omega) | (apply_assumption; done)) (by first | exact k3 | exact hn0 | exact k5 | assumption | (refine pc_of hP ?_; (repeat (first | assumption | exact md_refl | refine md_up ?_ rfl | refine md_fill ?_ rfl | (unfold ik; refine md_up ?_ rfl))); done) | (refine pc_oS hP ?_; (repeat (first | assumption | exact md_refl | refine md_up ?_ rfl | refine md_fill ?_ rfl | (unfold ik; refine md_up ?_ rfl))); done) | (refine pm_of hP ?_; (repeat (first | assumption | exact md_refl | refine md_up ?_ rfl | refine md_fill ?_ rfl | (unfold ik; refine md_up ?_ rfl))); done) | omega | decide | ((try simp +decide only [b01, b10, b11, am_up, ik, and_true, and_false, true_and, false_and, if_true, if_false, nn_eq] at *) <;> (try simp only [sw_or, sw_all, or_false, and_true, i32_lt, i32_le, i32_eq, i32_addw, i32_subw, i32_mulw, Int32.reduceToInt] at *) <;> omega) | (apply_assumption; done)) (by first | exact k3 | exact hn0 | exact k5 | assumption | (refine pc_of hP ?_; (repeat (first | assumption | exact md_refl | refine md_up ?_ rfl | refine md_fill ?_ rfl | (unfold ik; refine md_up ?_ rfl))); done) | (refine pc_oS hP ?_; (repeat (first | assumption | exact md_refl | refine md_up ?_ rfl | refine md_fill ?_ rfl | (unfold ik; refine md_up ?_ rfl))); done) | (refine pm_of hP ?_; (repeat (first | assumption | exact md_refl | refine md_up ?_ rfl | refine md_fill ?_ rfl | (unfold ik; refine md_up ?_ rfl))); done) | omega | decide | ((try simp +decide only [b01, b10, b11, am_up, ik, and_true, and_false, true_and, false_and, if_true, if_false, nn_eq] at *) <;> (try simp only [sw_or, sw_all, or_false, and_true, i32_lt, i32_le, i32_eq, i32_addw, i32_subw, i32_mulw, Int32.reduceToInt] at *) <;> omega) | (apply_assumption; done)) (fun e136 => ?_)
      · skip
        refine am_go (tgt := 4) d_MO_trap_139 rfl ?_
        exact kI _ _ _ e136.2
    have kF : ∀ h', vp_in h' 32 → st 2152 h'.toNatClampNeg = fhR P (st 2163 (st 610 0 - 1).toNatClampNeg).toNatClampNeg (st 2164 (st 610 0 - 1).toNatClampNeg) k (P 7 (st 2163 (st 610 0 - 1).toNatClampNeg).toNatClampNeg).toInt.toNat 0 → ¬ fhR P (st 2163 (st 610 0 - 1).toNatClampNeg).toNatClampNeg (st 2164 (st 610 0 - 1).toNatClampNeg) k (P 7 (st 2163 (st 610 0 - 1).toNatClampNeg).toNatClampNeg).toInt.toNat 0 = -1 → am_tr w k (st 2163 (st 610 0 - 1).toNatClampNeg) (st 2164 (st 610 0 - 1).toNatClampNeg) f 97 (some (.inl h')) st := by
      intro h' vh q0 q
      rw [eT] at q q0
      rw [if_neg q] at h
      obtain ⟨r1, r2, r3⟩ := trap_room k3 hn0 k4 q (fhT P (fm A (lf A)) (A 2164 (lf A)) k)
      have kM : QM st0 (o_top0 (o_set A (fhT P (fm A (lf A)) (A 2164 (lf A)) k))) (am_up (am_up st 2164 (st 610 0 - 1).toNatClampNeg (st 2152 h'.toNatClampNeg)) 2165 (st 610 0 - 1).toNatClampNeg 0) := by
        refine ⟨md_up (md_up k5.1 rfl) rfl, ?_⟩
        rw [t1, q0]
        exact RM_up (RM_up k5.2)
      clear ih kC
      refine r_al0 (q := 98) d_MO_trap_97 rfl ?_
      refine gt_MO_framePlace (q := 101) d_MO_trap_98 rfl rfl ?_
      refine r_al0 (q := 102) d_MO_trap_101 rfl ?_
      refine r_vi0 mo_MO_latest d_MO_trap_102 rfl rfl rfl (q := 105) rfl ?_
      refine sp_MO_latest ?_
      refine r_al0 (q := 106) d_MO_trap_105 rfl ?_
      refine gt_MO_target (q := 109) d_MO_trap_106 rfl rfl ?_
      refine r_il5 (q := 111) d_MO_trap_109 rfl ?_
      refine ld_152 (q := 112) d_MO_trap_111 ?_ rfl ?_
      · first | exact vl | exact vh
      refine sv_164 (q := 113) d_MO_trap_112 ?_ rfl ?_
      · first | exact vl | exact vh
      refine r_al0 (q := 114) d_MO_trap_113 rfl ?_
      refine gt_MO_frameTop (q := 117) d_MO_trap_114 rfl rfl ?_
      refine r_al0 (q := 118) d_MO_trap_117 rfl ?_
      refine r_vi0 mo_MO_latest d_MO_trap_118 rfl rfl rfl (q := 121) rfl ?_
      refine sp_MO_latest ?_
      refine r_ic (v := 0) (q := 122) d_MO_trap_121 rfl rfl ?_
      refine sv_165 (q := 123) d_MO_trap_122 ?_ rfl ?_
      · first | exact vl | exact vh
      refine r_al0 (q := 124) d_MO_trap_123 rfl ?_
      refine r_il2 (q := 125) d_MO_trap_124 rfl ?_
      refine r_vv1 mo_MO_push d_MO_trap_125 rfl rfl rfl (q := 128) rfl ?_
      refine sp_MO_push (P := P) (st0 := st0) (A := o_top0 (o_set A (fhT P (fm A (lf A)) (A 2164 (lf A)) k))) (by first | exact hP | exact r1 | exact r2 | exact r3 | exact kM | assumption | (refine pc_of hP ?_; (repeat (first | assumption | exact md_refl | refine md_up ?_ rfl | refine md_fill ?_ rfl | (unfold ik; refine md_up ?_ rfl))); done) | (refine pc_oS hP ?_; (repeat (first | assumption | exact md_refl | refine md_up ?_ rfl | refine md_fill ?_ rfl | (unfold ik; refine md_up ?_ rfl))); done) | (refine pm_of hP ?_; (repeat (first | assumption | exact md_refl | refine md_up ?_ rfl | refine md_fill ?_ rfl | (unfold ik; refine md_up ?_ rfl))); done) | omega | decide | ((try simp +decide only [b01, b10, b11, am_up, ik, and_true, and_false, true_and, false_and, if_true, if_false, nn_eq] at *) <;> (try simp only [sw_or, sw_all, or_false, and_true, i32_lt, i32_le, i32_eq, i32_addw, i32_subw, i32_mulw, Int32.reduceToInt] at *) <;> omega) | (apply_assumption; done)) (by first | exact hP | exact r1 | exact r2 | exact r3 | exact kM | assumption | (refine pc_of hP ?_; (repeat (first | assumption | exact md_refl | refine md_up ?_ rfl | refine md_fill ?_ rfl | (unfold ik; refine md_up ?_ rfl))); done) | (refine pc_oS hP ?_; (repeat (first | assumption | exact md_refl | refine md_up ?_ rfl | refine md_fill ?_ rfl | (unfold ik; refine md_up ?_ rfl))); done) | (refine pm_of hP ?_; (repeat (first | assumption | exact md_refl | refine md_up ?_ rfl | refine md_fill ?_ rfl | (unfold ik; refine md_up ?_ rfl))); done) | omega | decide | ((try simp +decide only [b01, b10, b11, am_up, ik, and_true, and_false, true_and, false_and, if_true, if_false, nn_eq] at *) <;> (try simp only [sw_or, sw_all, or_false, and_true, i32_lt, i32_le, i32_eq, i32_addw, i32_subw, i32_mulw, Int32.reduceToInt] at *) <;> omega) | (apply_assumption; done)) (by first | exact hP | exact r1 | exact r2 | exact r3 | exact kM | assumption | (refine pc_of hP ?_; (repeat (first | assumption | exact md_refl | refine md_up ?_ rfl | refine md_fill ?_ rfl | (unfold ik; refine md_up ?_ rfl))); done) | (refine pc_oS hP ?_; (repeat (first | assumption | exact md_refl | refine md_up ?_ rfl | refine md_fill ?_ rfl | (unfold ik; refine md_up ?_ rfl))); done) | (refine pm_of hP ?_; (repeat (first | assumption | exact md_refl | refine md_up ?_ rfl | refine md_fill ?_ rfl | (unfold ik; refine md_up ?_ rfl))); done) | omega | decide | ((try simp +decide only [b01, b10, b11, am_up, ik, and_true, and_false, true_and, false_and, if_true, if_false, nn_eq] at *) <;> (try simp only [sw_or, sw_all, or_false, and_true, i32_lt, i32_le, i32_eq, i32_addw, i32_subw, i32_mulw, Int32.reduceToInt] at *) <;> omega) | (apply_assumption; done)) (by first | exact hP | exact r1 | exact r2 | exact r3 | exact kM | assumption | (refine pc_of hP ?_; (repeat (first | assumption | exact md_refl | refine md_up ?_ rfl | refine md_fill ?_ rfl | (unfold ik; refine md_up ?_ rfl))); done) | (refine pc_oS hP ?_; (repeat (first | assumption | exact md_refl | refine md_up ?_ rfl | refine md_fill ?_ rfl | (unfold ik; refine md_up ?_ rfl))); done) | (refine pm_of hP ?_; (repeat (first | assumption | exact md_refl | refine md_up ?_ rfl | refine md_fill ?_ rfl | (unfold ik; refine md_up ?_ rfl))); done) | omega | decide | ((try simp +decide only [b01, b10, b11, am_up, ik, and_true, and_false, true_and, false_and, if_true, if_false, nn_eq] at *) <;> (try simp only [sw_or, sw_all, or_false, and_true, i32_lt, i32_le, i32_eq, i32_addw, i32_subw, i32_mulw, Int32.reduceToInt] at *) <;> omega) | (apply_assumption; done)) (by first | exact hP | exact r1 | exact r2 | exact r3 | exact kM | assumption | (refine pc_of hP ?_; (repeat (first | assumption | exact md_refl | refine md_up ?_ rfl | refine md_fill ?_ rfl | (unfold ik; refine md_up ?_ rfl))); done) | (refine pc_oS hP ?_; (repeat (first | assumption | exact md_refl | refine md_up ?_ rfl | refine md_fill ?_ rfl | (unfold ik; refine md_up ?_ rfl))); done) | (refine pm_of hP ?_; (repeat (first | assumption | exact md_refl | refine md_up ?_ rfl | refine md_fill ?_ rfl | (unfold ik; refine md_up ?_ rfl))); done) | omega | decide | ((try simp +decide only [b01, b10, b11, am_up, ik, and_true, and_false, true_and, false_and, if_true, if_false, nn_eq] at *) <;> (try simp only [sw_or, sw_all, or_false, and_true, i32_lt, i32_le, i32_eq, i32_addw, i32_subw, i32_mulw, Int32.reduceToInt] at *) <;> omega) | (apply_assumption; done)) (by first | exact hP | exact r1 | exact r2 | exact r3 | exact kM | assumption | (refine pc_of hP ?_; (repeat (first | assumption | exact md_refl | refine md_up ?_ rfl | refine md_fill ?_ rfl | (unfold ik; refine md_up ?_ rfl))); done) | (refine pc_oS hP ?_; (repeat (first | assumption | exact md_refl | refine md_up ?_ rfl | refine md_fill ?_ rfl | (unfold ik; refine md_up ?_ rfl))); done) | (refine pm_of hP ?_; (repeat (first | assumption | exact md_refl | refine md_up ?_ rfl | refine md_fill ?_ rfl | (unfold ik; refine md_up ?_ rfl))); done) | omega | decide | ((try simp +decide only [b01, b10, b11, am_up, ik, and_true, and_false, true_and, false_and, if_true, if_false, nn_eq] at *) <;> (try simp only [sw_or, sw_all, or_false, and_true, i32_lt, i32_le, i32_eq, i32_addw, i32_subw, i32_mulw, Int32.reduceToInt] at *) <;> omega) | (apply_assumption; done)) (fun e125 => ?_)
      · skip
        refine r_rv d_MO_trap_128 ?_
        exact h e125
    have kL := lp_MO_fh hPs hV hy hT _ 0 _ (Nat.zero_add _) y4 kF kC
    clear ih h kF kC
    refine r_al0 (q := 5) d_MO_trap_4 rfl ?_
    refine gt_MO_frames (q := 8) d_MO_trap_5 rfl rfl ?_
    refine r_zle (tgt := 142) (q := 11) d_MO_trap_8 rfl rfl (fun e8 => ?_) (fun e8 => ?_)
    · skip
      first | exact kL | (exfalso; clear kL hP hV k3 k4 k5 hPs hT eT u1; ((try simp +decide only [b01, b10, b11, am_up, ik, and_true, and_false, true_and, false_and, if_true, if_false, nn_eq] at *) <;> (try simp only [sw_or, sw_all, or_false, and_true, i32_lt, i32_le, i32_eq, i32_addw, i32_subw, i32_mulw, Int32.reduceToInt] at *) <;> omega))
    · skip
      refine r_al0 (q := 12) d_MO_trap_11 rfl ?_
      refine gt_MO_frameMethod (q := 15) d_MO_trap_12 rfl rfl ?_
      refine r_al0 (q := 16) d_MO_trap_15 rfl ?_
      refine r_vi0 mo_MO_latest d_MO_trap_16 rfl rfl rfl (q := 19) rfl ?_
      refine sp_MO_latest ?_
      refine ld_163 (q := 20) d_MO_trap_19 ?_ rfl ?_
      · exact vl
      refine r_is3 (q := 21) d_MO_trap_20 rfl ?_
      refine r_al0 (q := 22) d_MO_trap_21 rfl ?_
      refine gt_MO_framePlace (q := 25) d_MO_trap_22 rfl rfl ?_
      refine r_al0 (q := 26) d_MO_trap_25 rfl ?_
      refine r_vi0 mo_MO_latest d_MO_trap_26 rfl rfl rfl (q := 29) rfl ?_
      refine sp_MO_latest ?_
      refine ld_164 (q := 30) d_MO_trap_29 ?_ rfl ?_
      · exact vl
      refine r_is4 (q := 32) d_MO_trap_30 rfl ?_
      refine r_ic (v := 4) (q := 33) d_MO_trap_32 rfl rfl ?_
      refine r_il3 (q := 34) d_MO_trap_33 rfl ?_
      refine r_imul (q := 35) d_MO_trap_34 rfl ?_
      refine r_is5 (q := 37) d_MO_trap_35 rfl ?_
      first | exact kL | (exfalso; clear kL hP hV k3 k4 k5 hPs hT eT u1; ((try simp +decide only [b01, b10, b11, am_up, ik, and_true, and_false, true_and, false_and, if_true, if_false, nn_eq] at *) <;> (try simp only [sw_or, sw_all, or_false, and_true, i32_lt, i32_le, i32_eq, i32_addw, i32_subw, i32_mulw, Int32.reduceToInt] at *) <;> omega))
theorem sp_MO_trap {P st0 A : am_S} {w k : Int32} {st : am_S} {f : am_S → Prop} (c1 : PM st0 P) (c2 : VP P) (c3 : BV P A) (c4 : HT P A) (c5 : w = k + 2) (c6 : QM st0 A st) (h1 : ∀ q : {q : am_S // QM st0 (o_trap P (fn A) k A) q}, f q.1) : wp_MO_trap [.inr (.inl 128), .inl w] st (am_kv f) := by
  refine ⟨⟨rfl, Nat.le_of_ble_eq_true rfl⟩, ?_⟩
  have e : w - 2 = k := by rw [c5]; exact Int32.add_sub_cancel _ _
  have kL := lp_MO_tr (f := f) c1 c2 c5 (fn A) A none none none st rfl c3 c4 c6 h1
  rw [← e] at kL
  clear h1
  refine r_il1 (q := 1) d_MO_trap_0 rfl ?_
  refine r_ic (v := 2) (q := 2) d_MO_trap_1 rfl rfl ?_
  refine r_isub (q := 3) d_MO_trap_2 rfl ?_
  refine r_is2 (q := 4) d_MO_trap_3 rfl ?_
  exact kL

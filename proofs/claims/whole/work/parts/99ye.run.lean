/-! written by wip/whole/gen/walk.py out of 99ye.run.txt -/
/-- one step of A to A' with all that both sides ask of it -/
def S1 (P A A' : am_S) : Prop := (BV P A ∧ 0 < fn A) ∧ ∃ p : Nat, ((A 2164 (lf A)).toInt = (p : Int) ∧ p < nl P (fm A (lf A)) ∧ p + (pZ P (nb P (fm A (lf A)) + p)).toInt.toNat ≤ nl P (fm A (lf A))) ∧ stC P A (pO P (nb P (fm A (lf A)) + p)) (pN P (nb P (fm A (lf A)) + p)) (pG P (nb P (fm A (lf A)) + p)) (pZ P (nb P (fm A (lf A)) + p)) A' ∧ (¬ pZ P (nb P (fm A (lf A)) + p) = 0 ∧ (pO P (nb P (fm A (lf A)) + p) = 172 → ¬ P 6 (fm A (lf A)) = 0) ∧ (pO P (nb P (fm A (lf A)) + p) = 177 → P 6 (fm A (lf A)) = 0))
/-- at most n steps of A: k of them, to A' -/
def Rn (P : am_S) : Nat → am_S → Nat → am_S → Prop
  | 0, A, k, A' => k = 0 ∧ A' = A
  | n + 1, A, k, A' => (¬ A 603 0 = 1 ∧ k = 0 ∧ A' = A) ∨ (A 603 0 = 1 ∧ ∃ B k', S1 P A B ∧ Rn P n B k' A' ∧ k = k' + 1)
theorem Rn_ex {P : am_S} {T : Nat → am_T} (hT : PT P T) : ∀ (n : Nat) (A : am_S) (D : Nat → Prop), TY P T D A → ∃ k A' D', (k ≤ n ∧ Rn P n A k A') ∧ TY P T D' A' := by
  intro n
  induction n with
  | zero => exact fun A D h => ⟨0, A, D, ⟨Nat.le_refl _, rfl, rfl⟩, h⟩
  | succ n ih =>
    intro A D h
    by_cases e : A 603 0 = 1
    · have hn := h.2.2.2 e
      obtain ⟨p, B, D1, a1, a2, a3, a4⟩ := TY_step hT h hn
      obtain ⟨k, A', D', ⟨b0, b1⟩, b2⟩ := ih B D1 a4
      exact ⟨k + 1, A', D', ⟨by omega, Or.inr ⟨e, B, k, ⟨⟨h.1, hn⟩, p, a1, a2, a3⟩, b1, rfl⟩⟩, b2⟩
    · exact ⟨0, A, D, ⟨Nat.zero_le _, Or.inl ⟨e, rfl, rfl⟩⟩, h⟩
theorem md_RI_trans {s t u : am_S} (h : am_md cRI s t) (h' : am_md cRI t u) : am_md cRI s u := md_trans h h'
theorem lp_FW_run {P : am_S} {N : Int32} {f : Int32 → am_S → Prop} {g : Nat → am_S → Prop} (hV : VP P) : ∀ (n : Nat) (A A' : am_S) (k : Nat) (x : Int32) (st : am_S), PC st P → RC P st A → Rn P n A k A' → 0 ≤ x.toInt → x.toInt + n = N.toInt → k ≤ n → N.toInt ≤ 100 → (∀ q : {q : am_S // am_md cRI st q ∧ RC P q A'}, f (x + nI k) q.1) → am_AW c_FW_run g_FW_run (fun o st' => am_ok (some .int) o ∧ am_kt f g o st') 20 [some (.inr (.inl 123)), some (.inl N), some (.inl x)] [] st := by
  intro n
  induction n with
  | zero =>
    intro A A' k x st hP hR hn x0 xN hk hN h
    obtain ⟨k0, kA⟩ := hn
    subst k0
    subst kA
    have kQ := h ⟨st, md_refl, hR⟩
    have ez : x + nI 0 = x := Int32.add_zero x
    rw [ez] at kQ
    clear h
    have hge : N ≤ x := by rw [i32_le]; omega
    refine r_il2 (q := 21) d_FW_run_20 rfl ?_
    refine r_il1 (q := 22) d_FW_run_21 rfl ?_
    refine r_cge (tgt := 48) (q := 25) d_FW_run_22 rfl rfl (fun e22 => ?_) (fun e22 => ?_)
    · skip
      refine r_il2 (q := 49) d_FW_run_48 rfl ?_
      refine r_ti d_FW_run_49 ?_
      exact kQ
    · skip
      exact absurd hge e22
  | succ n ih =>
    intro A A' k x st hP hR hn x0 xN hk hN h
    have hlt : ¬ N ≤ x := by rw [i32_le]; omega
    have es : st 521 0 = A 603 0 := hR.2.2.2.2.2.1
    have ex : (x + 1).toInt = x.toInt + 1 := by
      rw [i32_addw]
      simp only [Int32.reduceToInt]
      omega
    rcases hn with ⟨e, k0, kA⟩ | ⟨e, B, k', ⟨⟨s1, s2⟩, p, s3, s4, s5⟩, hr, ek⟩
    · subst k0
      subst kA
      have kQ := h ⟨st, md_refl, hR⟩
      have ez : x + nI 0 = x := Int32.add_zero x
      rw [ez] at kQ
      clear h
      have ne : ¬ st 521 0 = 1 := by rw [es]; exact e
      refine r_il2 (q := 21) d_FW_run_20 rfl ?_
      refine r_il1 (q := 22) d_FW_run_21 rfl ?_
      refine r_cge (tgt := 48) (q := 25) d_FW_run_22 rfl rfl (fun e22 => ?_) (fun e22 => ?_)
      · skip
        refine r_il2 (q := 49) d_FW_run_48 rfl ?_
        refine r_ti d_FW_run_49 ?_
        first | exact kQ | exact absurd e22 hlt
      · skip
        refine r_al0 (q := 26) d_FW_run_25 rfl ?_
        refine gt_FW_machine (q := 29) d_FW_run_26 rfl rfl ?_
        refine r_vi0 mo_MA_isRunning d_FW_run_29 rfl rfl rfl (q := 32) rfl ?_
        refine sp_MA_isRunning (fun e29 => ?_) (fun e29 => ?_)
        · skip
          refine r_zeq (tgt := 48) (q := 35) d_FW_run_32 rfl rfl (fun e32 => by exfalso; revert e32; decide) (fun e32 => ?_)
          first | exact absurd e29 ne | exact absurd e22 hlt
        · skip
          refine r_zeq (tgt := 48) (q := 35) d_FW_run_32 rfl rfl (fun e32 => ?_) (fun e32 => by exfalso; revert e32; decide)
          refine r_il2 (q := 49) d_FW_run_48 rfl ?_
          refine r_ti d_FW_run_49 ?_
          first | exact kQ | exact absurd e22 hlt
    · have ne : st 521 0 = 1 := by rw [es]; exact e
      have k20 : ∀ q : am_S, am_md cRI st q → RC P q B → am_AW c_FW_run g_FW_run (fun o st' => am_ok (some .int) o ∧ am_kt f g o st') 20 [some (.inr (.inl 123)), some (.inl N), some (.inl (x + 1))] [] q := by
        intro q m1 hq
        refine ih B A' k' (x + 1) q (pc_oI hP m1) hq hr (by omega) (by omega) (by omega) hN (fun s => ?_)
        have := h ⟨s.1, md_trans m1 s.2.1, s.2.2⟩
        have ez : x + nI k = x + 1 + nI k' := by
          rw [ek, ← nI_s, Int32.add_comm (nI k') 1, Int32.add_assoc]
        rw [ez] at this
        exact this
      clear h
      refine r_il2 (q := 21) d_FW_run_20 rfl ?_
      refine r_il1 (q := 22) d_FW_run_21 rfl ?_
      refine r_cge (tgt := 48) (q := 25) d_FW_run_22 rfl rfl (fun e22 => ?_) (fun e22 => ?_)
      · skip
        first | exact k20 _ e39.2.1 e39.2.2 | exact absurd e22 hlt | exact absurd ne e29
      · skip
        refine r_al0 (q := 26) d_FW_run_25 rfl ?_
        refine gt_FW_machine (q := 29) d_FW_run_26 rfl rfl ?_
        refine r_vi0 mo_MA_isRunning d_FW_run_29 rfl rfl rfl (q := 32) rfl ?_
        refine sp_MA_isRunning (fun e29 => ?_) (fun e29 => ?_)
        · skip
          refine r_zeq (tgt := 48) (q := 35) d_FW_run_32 rfl rfl (fun e32 => by exfalso; revert e32; decide) (fun e32 => ?_)
          refine r_al0 (q := 36) d_FW_run_35 rfl ?_
          refine gt_FW_machine (q := 39) d_FW_run_36 rfl rfl ?_
          refine r_vv0 mo_MA_step d_FW_run_39 rfl rfl rfl (q := 42) rfl ?_
          refine sp_MA_step (P := P) (A := A) (A' := B) (p := p) (by first | exact hP | exact s1 | exact s2 | exact s3 | exact hR | exact s4 | assumption | (refine pc_of hP ?_; (repeat (first | assumption | exact md_refl | refine md_up ?_ rfl | refine md_fill ?_ rfl | (unfold ik; refine md_up ?_ rfl))); done) | (refine pc_oS hP ?_; (repeat (first | assumption | exact md_refl | refine md_up ?_ rfl | refine md_fill ?_ rfl | (unfold ik; refine md_up ?_ rfl))); done) | (refine pm_of hP ?_; (repeat (first | assumption | exact md_refl | refine md_up ?_ rfl | refine md_fill ?_ rfl | (unfold ik; refine md_up ?_ rfl))); done) | omega | decide | ((try simp +decide only [b01, b10, b11, am_up, ik, and_true, and_false, true_and, false_and, if_true, if_false, nn_eq] at *) <;> (try simp only [sw_or, sw_all, or_false, and_true, i32_lt, i32_le, i32_eq, i32_addw, i32_subw, i32_mulw, Int32.reduceToInt] at *) <;> omega) | (apply_assumption; done)) (by first | exact hP | exact s1 | exact s2 | exact s3 | exact hR | exact s4 | assumption | (refine pc_of hP ?_; (repeat (first | assumption | exact md_refl | refine md_up ?_ rfl | refine md_fill ?_ rfl | (unfold ik; refine md_up ?_ rfl))); done) | (refine pc_oS hP ?_; (repeat (first | assumption | exact md_refl | refine md_up ?_ rfl | refine md_fill ?_ rfl | (unfold ik; refine md_up ?_ rfl))); done) | (refine pm_of hP ?_; (repeat (first | assumption | exact md_refl | refine md_up ?_ rfl | refine md_fill ?_ rfl | (unfold ik; refine md_up ?_ rfl))); done) | omega | decide | ((try simp +decide only [b01, b10, b11, am_up, ik, and_true, and_false, true_and, false_and, if_true, if_false, nn_eq] at *) <;> (try simp only [sw_or, sw_all, or_false, and_true, i32_lt, i32_le, i32_eq, i32_addw, i32_subw, i32_mulw, Int32.reduceToInt] at *) <;> omega) | (apply_assumption; done)) (by first | exact hP | exact s1 | exact s2 | exact s3 | exact hR | exact s4 | assumption | (refine pc_of hP ?_; (repeat (first | assumption | exact md_refl | refine md_up ?_ rfl | refine md_fill ?_ rfl | (unfold ik; refine md_up ?_ rfl))); done) | (refine pc_oS hP ?_; (repeat (first | assumption | exact md_refl | refine md_up ?_ rfl | refine md_fill ?_ rfl | (unfold ik; refine md_up ?_ rfl))); done) | (refine pm_of hP ?_; (repeat (first | assumption | exact md_refl | refine md_up ?_ rfl | refine md_fill ?_ rfl | (unfold ik; refine md_up ?_ rfl))); done) | omega | decide | ((try simp +decide only [b01, b10, b11, am_up, ik, and_true, and_false, true_and, false_and, if_true, if_false, nn_eq] at *) <;> (try simp only [sw_or, sw_all, or_false, and_true, i32_lt, i32_le, i32_eq, i32_addw, i32_subw, i32_mulw, Int32.reduceToInt] at *) <;> omega) | (apply_assumption; done)) (by first | exact hP | exact s1 | exact s2 | exact s3 | exact hR | exact s4 | assumption | (refine pc_of hP ?_; (repeat (first | assumption | exact md_refl | refine md_up ?_ rfl | refine md_fill ?_ rfl | (unfold ik; refine md_up ?_ rfl))); done) | (refine pc_oS hP ?_; (repeat (first | assumption | exact md_refl | refine md_up ?_ rfl | refine md_fill ?_ rfl | (unfold ik; refine md_up ?_ rfl))); done) | (refine pm_of hP ?_; (repeat (first | assumption | exact md_refl | refine md_up ?_ rfl | refine md_fill ?_ rfl | (unfold ik; refine md_up ?_ rfl))); done) | omega | decide | ((try simp +decide only [b01, b10, b11, am_up, ik, and_true, and_false, true_and, false_and, if_true, if_false, nn_eq] at *) <;> (try simp only [sw_or, sw_all, or_false, and_true, i32_lt, i32_le, i32_eq, i32_addw, i32_subw, i32_mulw, Int32.reduceToInt] at *) <;> omega) | (apply_assumption; done)) (by first | exact hP | exact s1 | exact s2 | exact s3 | exact hR | exact s4 | assumption | (refine pc_of hP ?_; (repeat (first | assumption | exact md_refl | refine md_up ?_ rfl | refine md_fill ?_ rfl | (unfold ik; refine md_up ?_ rfl))); done) | (refine pc_oS hP ?_; (repeat (first | assumption | exact md_refl | refine md_up ?_ rfl | refine md_fill ?_ rfl | (unfold ik; refine md_up ?_ rfl))); done) | (refine pm_of hP ?_; (repeat (first | assumption | exact md_refl | refine md_up ?_ rfl | refine md_fill ?_ rfl | (unfold ik; refine md_up ?_ rfl))); done) | omega | decide | ((try simp +decide only [b01, b10, b11, am_up, ik, and_true, and_false, true_and, false_and, if_true, if_false, nn_eq] at *) <;> (try simp only [sw_or, sw_all, or_false, and_true, i32_lt, i32_le, i32_eq, i32_addw, i32_subw, i32_mulw, Int32.reduceToInt] at *) <;> omega) | (apply_assumption; done)) (by first | exact hP | exact s1 | exact s2 | exact s3 | exact hR | exact s4 | assumption | (refine pc_of hP ?_; (repeat (first | assumption | exact md_refl | refine md_up ?_ rfl | refine md_fill ?_ rfl | (unfold ik; refine md_up ?_ rfl))); done) | (refine pc_oS hP ?_; (repeat (first | assumption | exact md_refl | refine md_up ?_ rfl | refine md_fill ?_ rfl | (unfold ik; refine md_up ?_ rfl))); done) | (refine pm_of hP ?_; (repeat (first | assumption | exact md_refl | refine md_up ?_ rfl | refine md_fill ?_ rfl | (unfold ik; refine md_up ?_ rfl))); done) | omega | decide | ((try simp +decide only [b01, b10, b11, am_up, ik, and_true, and_false, true_and, false_and, if_true, if_false, nn_eq] at *) <;> (try simp only [sw_or, sw_all, or_false, and_true, i32_lt, i32_le, i32_eq, i32_addw, i32_subw, i32_mulw, Int32.reduceToInt] at *) <;> omega) | (apply_assumption; done)) (by first | exact hP | exact s1 | exact s2 | exact s3 | exact hR | exact s4 | assumption | (refine pc_of hP ?_; (repeat (first | assumption | exact md_refl | refine md_up ?_ rfl | refine md_fill ?_ rfl | (unfold ik; refine md_up ?_ rfl))); done) | (refine pc_oS hP ?_; (repeat (first | assumption | exact md_refl | refine md_up ?_ rfl | refine md_fill ?_ rfl | (unfold ik; refine md_up ?_ rfl))); done) | (refine pm_of hP ?_; (repeat (first | assumption | exact md_refl | refine md_up ?_ rfl | refine md_fill ?_ rfl | (unfold ik; refine md_up ?_ rfl))); done) | omega | decide | ((try simp +decide only [b01, b10, b11, am_up, ik, and_true, and_false, true_and, false_and, if_true, if_false, nn_eq] at *) <;> (try simp only [sw_or, sw_all, or_false, and_true, i32_lt, i32_le, i32_eq, i32_addw, i32_subw, i32_mulw, Int32.reduceToInt] at *) <;> omega) | (apply_assumption; done)) (fun e39 => ?_)
          · skip
            refine r_in2 (v := 1) (q := 45) d_FW_run_42 rfl rfl ?_
            refine am_go (tgt := 20) d_FW_run_45 rfl ?_
            first | exact k20 _ e39.2.1 e39.2.2 | exact absurd e22 hlt | exact absurd ne e29
        · skip
          refine r_zeq (tgt := 48) (q := 35) d_FW_run_32 rfl rfl (fun e32 => ?_) (fun e32 => by exfalso; revert e32; decide)
          first | exact k20 _ e39.2.1 e39.2.2 | exact absurd e22 hlt | exact absurd ne e29
theorem lp_MO_run {P st0 : am_S} {N : Int32} {f : Int32 → am_S → Prop} (hP : PM st0 P) (hV : VP P) (h0 : st0 576 0 = 0) : ∀ (n : Nat) (A A' : am_S) (k : Nat) (x : Int32) (st : am_S), QM st0 A st → Rn P n A k A' → 0 ≤ x.toInt → x.toInt + n = N.toInt → k ≤ n → N.toInt ≤ 100 → (∀ q : {q : am_S // QM st0 A' q}, f (x + nI k) q.1) → am_AW c_MO_run g_MO_run (fun o st' => am_ok (some .int) o ∧ am_ki f o st') 21 [some (.inr (.inl 128)), some (.inl N), some (.inl x)] [] st := by
  intro n
  induction n with
  | zero =>
    intro A A' k x st hR hn x0 xN hk hN h
    obtain ⟨k0, kA⟩ := hn
    subst k0
    subst kA
    have kQ := h ⟨st, hR⟩
    have ez : x + nI 0 = x := Int32.add_zero x
    rw [ez] at kQ
    clear h
    have hge : N ≤ x := by rw [i32_le]; omega
    refine r_al0 (q := 22) d_MO_run_21 rfl ?_
    refine gt_MO_thrown (q := 25) d_MO_run_22 rfl rfl ?_
    refine r_zne (tgt := 51) (q := 28) d_MO_run_25 rfl rfl (fun e25 => ?_) (fun e25 => ?_)
    · skip
      refine r_il2 (q := 52) d_MO_run_51 rfl ?_
      refine r_ri d_MO_run_52 ?_
      exact kQ
    · skip
      refine r_il2 (q := 29) d_MO_run_28 rfl ?_
      refine r_il1 (q := 30) d_MO_run_29 rfl ?_
      refine r_cge (tgt := 51) (q := 33) d_MO_run_30 rfl rfl (fun e30 => ?_) (fun e30 => ?_)
      · skip
        refine r_il2 (q := 52) d_MO_run_51 rfl ?_
        refine r_ri d_MO_run_52 ?_
        exact kQ
      · skip
        exact absurd hge e30
  | succ n ih =>
    intro A A' k x st hR hn x0 xN hk hN h
    have hlt : ¬ N ≤ x := by rw [i32_le]; omega
    have es : st 603 0 = A 603 0 := by rw [hR.2 603 rfl]
    have e5 : st 576 0 = 0 := by rw [hR.1 576 rfl]; exact h0
    have ex : (x + 1).toInt = x.toInt + 1 := by
      rw [i32_addw]
      simp only [Int32.reduceToInt]
      omega
    rcases hn with ⟨e, k0, kA⟩ | ⟨e, B, k', ⟨⟨s1, s2⟩, p, s3, s4, s5⟩, hr, ek⟩
    · subst k0
      subst kA
      have kQ := h ⟨st, hR⟩
      have ez : x + nI 0 = x := Int32.add_zero x
      rw [ez] at kQ
      clear h
      have ne : ¬ st 603 0 = 1 := by rw [es]; exact e
      refine r_al0 (q := 22) d_MO_run_21 rfl ?_
      refine gt_MO_thrown (q := 25) d_MO_run_22 rfl rfl ?_
      refine r_zne (tgt := 51) (q := 28) d_MO_run_25 rfl rfl (fun e25 => ?_) (fun e25 => ?_)
      · skip
        refine r_il2 (q := 52) d_MO_run_51 rfl ?_
        refine r_ri d_MO_run_52 ?_
        first | exact kQ
      · skip
        refine r_il2 (q := 29) d_MO_run_28 rfl ?_
        refine r_il1 (q := 30) d_MO_run_29 rfl ?_
        refine r_cge (tgt := 51) (q := 33) d_MO_run_30 rfl rfl (fun e30 => ?_) (fun e30 => ?_)
        · skip
          refine r_il2 (q := 52) d_MO_run_51 rfl ?_
          refine r_ri d_MO_run_52 ?_
          first | exact kQ
        · skip
          refine r_al0 (q := 34) d_MO_run_33 rfl ?_
          refine gt_MO_state (q := 37) d_MO_run_34 rfl rfl ?_
          refine r_ic (v := 1) (q := 38) d_MO_run_37 rfl rfl ?_
          refine r_cne (tgt := 51) (q := 41) d_MO_run_38 rfl rfl (fun e38 => ?_) (fun e38 => ?_)
          · skip
            refine r_il2 (q := 52) d_MO_run_51 rfl ?_
            refine r_ri d_MO_run_52 ?_
            first | exact kQ
          · skip
            first | exact absurd e38 ne | exact absurd e30 hlt
    · have ne : st 603 0 = 1 := by rw [es]; exact e
      have k21 : ∀ q : am_S, QM st0 B q → am_AW c_MO_run g_MO_run (fun o st' => am_ok (some .int) o ∧ am_ki f o st') 21 [some (.inr (.inl 128)), some (.inl N), some (.inl (x + 1))] [] q := by
        intro q hq
        refine ih B A' k' (x + 1) q hq hr (by omega) (by omega) (by omega) hN (fun s => ?_)
        have := h s
        have ez : x + nI k = x + 1 + nI k' := by
          rw [ek, ← nI_s, Int32.add_comm (nI k') 1, Int32.add_assoc]
        rw [ez] at this
        exact this
      clear h
      refine r_al0 (q := 22) d_MO_run_21 rfl ?_
      refine gt_MO_thrown (q := 25) d_MO_run_22 rfl rfl ?_
      refine r_zne (tgt := 51) (q := 28) d_MO_run_25 rfl rfl (fun e25 => ?_) (fun e25 => ?_)
      · skip
        first | exact k21 _ e42.2 | exact absurd e5 e25 | exact absurd e30 hlt | exact absurd ne e38
      · skip
        refine r_il2 (q := 29) d_MO_run_28 rfl ?_
        refine r_il1 (q := 30) d_MO_run_29 rfl ?_
        refine r_cge (tgt := 51) (q := 33) d_MO_run_30 rfl rfl (fun e30 => ?_) (fun e30 => ?_)
        · skip
          first | exact k21 _ e42.2 | exact absurd e5 e25 | exact absurd e30 hlt | exact absurd ne e38
        · skip
          refine r_al0 (q := 34) d_MO_run_33 rfl ?_
          refine gt_MO_state (q := 37) d_MO_run_34 rfl rfl ?_
          refine r_ic (v := 1) (q := 38) d_MO_run_37 rfl rfl ?_
          refine r_cne (tgt := 51) (q := 41) d_MO_run_38 rfl rfl (fun e38 => ?_) (fun e38 => ?_)
          · skip
            first | exact k21 _ e42.2 | exact absurd e5 e25 | exact absurd e30 hlt | exact absurd ne e38
          · skip
            refine r_al0 (q := 42) d_MO_run_41 rfl ?_
            refine r_vv0 mo_MO_step d_MO_run_42 rfl rfl rfl (q := 45) rfl ?_
            refine sp_MO_step (P := P) (st0 := st0) (A := A) (A' := B) (p := p) (by first | exact hP | exact s1 | exact s2 | exact s3 | exact hR | exact s4 | exact s5 | assumption | (refine pc_of hP ?_; (repeat (first | assumption | exact md_refl | refine md_up ?_ rfl | refine md_fill ?_ rfl | (unfold ik; refine md_up ?_ rfl))); done) | (refine pc_oS hP ?_; (repeat (first | assumption | exact md_refl | refine md_up ?_ rfl | refine md_fill ?_ rfl | (unfold ik; refine md_up ?_ rfl))); done) | (refine pm_of hP ?_; (repeat (first | assumption | exact md_refl | refine md_up ?_ rfl | refine md_fill ?_ rfl | (unfold ik; refine md_up ?_ rfl))); done) | omega | decide | ((try simp +decide only [b01, b10, b11, am_up, ik, and_true, and_false, true_and, false_and, if_true, if_false, nn_eq] at *) <;> (try simp only [sw_or, sw_all, or_false, and_true, i32_lt, i32_le, i32_eq, i32_addw, i32_subw, i32_mulw, Int32.reduceToInt] at *) <;> omega) | (apply_assumption; done)) (by first | exact hP | exact s1 | exact s2 | exact s3 | exact hR | exact s4 | exact s5 | assumption | (refine pc_of hP ?_; (repeat (first | assumption | exact md_refl | refine md_up ?_ rfl | refine md_fill ?_ rfl | (unfold ik; refine md_up ?_ rfl))); done) | (refine pc_oS hP ?_; (repeat (first | assumption | exact md_refl | refine md_up ?_ rfl | refine md_fill ?_ rfl | (unfold ik; refine md_up ?_ rfl))); done) | (refine pm_of hP ?_; (repeat (first | assumption | exact md_refl | refine md_up ?_ rfl | refine md_fill ?_ rfl | (unfold ik; refine md_up ?_ rfl))); done) | omega | decide | ((try simp +decide only [b01, b10, b11, am_up, ik, and_true, and_false, true_and, false_and, if_true, if_false, nn_eq] at *) <;> (try simp only [sw_or, sw_all, or_false, and_true, i32_lt, i32_le, i32_eq, i32_addw, i32_subw, i32_mulw, Int32.reduceToInt] at *) <;> omega) | (apply_assumption; done)) (by first | exact hP | exact s1 | exact s2 | exact s3 | exact hR | exact s4 | exact s5 | assumption | (refine pc_of hP ?_; (repeat (first | assumption | exact md_refl | refine md_up ?_ rfl | refine md_fill ?_ rfl | (unfold ik; refine md_up ?_ rfl))); done) | (refine pc_oS hP ?_; (repeat (first | assumption | exact md_refl | refine md_up ?_ rfl | refine md_fill ?_ rfl | (unfold ik; refine md_up ?_ rfl))); done) | (refine pm_of hP ?_; (repeat (first | assumption | exact md_refl | refine md_up ?_ rfl | refine md_fill ?_ rfl | (unfold ik; refine md_up ?_ rfl))); done) | omega | decide | ((try simp +decide only [b01, b10, b11, am_up, ik, and_true, and_false, true_and, false_and, if_true, if_false, nn_eq] at *) <;> (try simp only [sw_or, sw_all, or_false, and_true, i32_lt, i32_le, i32_eq, i32_addw, i32_subw, i32_mulw, Int32.reduceToInt] at *) <;> omega) | (apply_assumption; done)) (by first | exact hP | exact s1 | exact s2 | exact s3 | exact hR | exact s4 | exact s5 | assumption | (refine pc_of hP ?_; (repeat (first | assumption | exact md_refl | refine md_up ?_ rfl | refine md_fill ?_ rfl | (unfold ik; refine md_up ?_ rfl))); done) | (refine pc_oS hP ?_; (repeat (first | assumption | exact md_refl | refine md_up ?_ rfl | refine md_fill ?_ rfl | (unfold ik; refine md_up ?_ rfl))); done) | (refine pm_of hP ?_; (repeat (first | assumption | exact md_refl | refine md_up ?_ rfl | refine md_fill ?_ rfl | (unfold ik; refine md_up ?_ rfl))); done) | omega | decide | ((try simp +decide only [b01, b10, b11, am_up, ik, and_true, and_false, true_and, false_and, if_true, if_false, nn_eq] at *) <;> (try simp only [sw_or, sw_all, or_false, and_true, i32_lt, i32_le, i32_eq, i32_addw, i32_subw, i32_mulw, Int32.reduceToInt] at *) <;> omega) | (apply_assumption; done)) (by first | exact hP | exact s1 | exact s2 | exact s3 | exact hR | exact s4 | exact s5 | assumption | (refine pc_of hP ?_; (repeat (first | assumption | exact md_refl | refine md_up ?_ rfl | refine md_fill ?_ rfl | (unfold ik; refine md_up ?_ rfl))); done) | (refine pc_oS hP ?_; (repeat (first | assumption | exact md_refl | refine md_up ?_ rfl | refine md_fill ?_ rfl | (unfold ik; refine md_up ?_ rfl))); done) | (refine pm_of hP ?_; (repeat (first | assumption | exact md_refl | refine md_up ?_ rfl | refine md_fill ?_ rfl | (unfold ik; refine md_up ?_ rfl))); done) | omega | decide | ((try simp +decide only [b01, b10, b11, am_up, ik, and_true, and_false, true_and, false_and, if_true, if_false, nn_eq] at *) <;> (try simp only [sw_or, sw_all, or_false, and_true, i32_lt, i32_le, i32_eq, i32_addw, i32_subw, i32_mulw, Int32.reduceToInt] at *) <;> omega) | (apply_assumption; done)) (by first | exact hP | exact s1 | exact s2 | exact s3 | exact hR | exact s4 | exact s5 | assumption | (refine pc_of hP ?_; (repeat (first | assumption | exact md_refl | refine md_up ?_ rfl | refine md_fill ?_ rfl | (unfold ik; refine md_up ?_ rfl))); done) | (refine pc_oS hP ?_; (repeat (first | assumption | exact md_refl | refine md_up ?_ rfl | refine md_fill ?_ rfl | (unfold ik; refine md_up ?_ rfl))); done) | (refine pm_of hP ?_; (repeat (first | assumption | exact md_refl | refine md_up ?_ rfl | refine md_fill ?_ rfl | (unfold ik; refine md_up ?_ rfl))); done) | omega | decide | ((try simp +decide only [b01, b10, b11, am_up, ik, and_true, and_false, true_and, false_and, if_true, if_false, nn_eq] at *) <;> (try simp only [sw_or, sw_all, or_false, and_true, i32_lt, i32_le, i32_eq, i32_addw, i32_subw, i32_mulw, Int32.reduceToInt] at *) <;> omega) | (apply_assumption; done)) (by first | exact hP | exact s1 | exact s2 | exact s3 | exact hR | exact s4 | exact s5 | assumption | (refine pc_of hP ?_; (repeat (first | assumption | exact md_refl | refine md_up ?_ rfl | refine md_fill ?_ rfl | (unfold ik; refine md_up ?_ rfl))); done) | (refine pc_oS hP ?_; (repeat (first | assumption | exact md_refl | refine md_up ?_ rfl | refine md_fill ?_ rfl | (unfold ik; refine md_up ?_ rfl))); done) | (refine pm_of hP ?_; (repeat (first | assumption | exact md_refl | refine md_up ?_ rfl | refine md_fill ?_ rfl | (unfold ik; refine md_up ?_ rfl))); done) | omega | decide | ((try simp +decide only [b01, b10, b11, am_up, ik, and_true, and_false, true_and, false_and, if_true, if_false, nn_eq] at *) <;> (try simp only [sw_or, sw_all, or_false, and_true, i32_lt, i32_le, i32_eq, i32_addw, i32_subw, i32_mulw, Int32.reduceToInt] at *) <;> omega) | (apply_assumption; done)) (by first | exact hP | exact s1 | exact s2 | exact s3 | exact hR | exact s4 | exact s5 | assumption | (refine pc_of hP ?_; (repeat (first | assumption | exact md_refl | refine md_up ?_ rfl | refine md_fill ?_ rfl | (unfold ik; refine md_up ?_ rfl))); done) | (refine pc_oS hP ?_; (repeat (first | assumption | exact md_refl | refine md_up ?_ rfl | refine md_fill ?_ rfl | (unfold ik; refine md_up ?_ rfl))); done) | (refine pm_of hP ?_; (repeat (first | assumption | exact md_refl | refine md_up ?_ rfl | refine md_fill ?_ rfl | (unfold ik; refine md_up ?_ rfl))); done) | omega | decide | ((try simp +decide only [b01, b10, b11, am_up, ik, and_true, and_false, true_and, false_and, if_true, if_false, nn_eq] at *) <;> (try simp only [sw_or, sw_all, or_false, and_true, i32_lt, i32_le, i32_eq, i32_addw, i32_subw, i32_mulw, Int32.reduceToInt] at *) <;> omega) | (apply_assumption; done)) (fun e42 => ?_)
            · skip
              refine r_in2 (v := 1) (q := 48) d_MO_run_45 rfl rfl ?_
              refine am_go (tgt := 21) d_MO_run_48 rfl ?_
              first | exact k21 _ e42.2 | exact absurd e5 e25 | exact absurd e30 hlt | exact absurd ne e38
theorem sp_FW_run {P A A' : am_S} {N : Int32} {k : Nat} {st : am_S} {f : Int32 → am_S → Prop} {g : Nat → am_S → Prop} (c1 : PC st P) (c2 : VP P) (c3 : RC P st A) (c4 : 0 ≤ N.toInt ∧ N.toInt ≤ 100 → k ≤ N.toInt.toNat ∧ Rn P N.toInt.toNat A k A') (h1 : 0 ≤ N.toInt ∧ N.toInt ≤ 100 → ∀ q : {q : am_S // am_md cRI st q ∧ RC P q A'}, f (nI k) q.1) (h2 : ¬ (0 ≤ N.toInt ∧ N.toInt ≤ 100) → g 1 st) : wp_FW_run [.inr (.inl 123), .inl N] st (am_kt f g) := by
  refine ⟨⟨rfl, Nat.le_of_ble_eq_true rfl⟩, ?_⟩
  have k20 : 0 ≤ N.toInt ∧ N.toInt ≤ 100 → am_AW c_FW_run g_FW_run (fun o st' => am_ok (some .int) o ∧ am_kt f g o st') 20 [some (.inr (.inl 123)), some (.inl N), some (.inl 0)] [] st := by
    intro hN
    obtain ⟨a, b⟩ := c4 hN
    refine lp_FW_run c2 N.toInt.toNat A A' k 0 st c1 c3 b (by decide) (by simp only [Int32.reduceToInt]; omega) a hN.2 (fun q => ?_)
    have ez : (0 : Int32) + nI k = nI k := Int32.zero_add _
    rw [ez]
    exact h1 hN q
  have l0 : ∀ e : ¬ N < 0, ∀ e' : N ≤ 100, 0 ≤ N.toInt ∧ N.toInt ≤ 100 := by
    intro e e'
    rw [i32_lt] at e
    rw [i32_le] at e'
    simp only [Int32.reduceToInt] at e e'
    omega
  have l1 : N < 0 → ¬ (0 ≤ N.toInt ∧ N.toInt ≤ 100) := by
    intro e
    rw [i32_lt] at e
    simp only [Int32.reduceToInt] at e
    omega
  have l2 : ¬ N ≤ 100 → ¬ (0 ≤ N.toInt ∧ N.toInt ≤ 100) := by
    intro e
    rw [i32_le] at e
    simp only [Int32.reduceToInt] at e
    omega
  clear h1
  refine r_il1 (q := 1) d_FW_run_0 rfl ?_
  refine r_zlt (tgt := 10) (q := 4) d_FW_run_1 rfl rfl (fun e1 => ?_) (fun e1 => ?_)
  · skip
    refine r_tti d_FW_run_10 d_FW_run_13 d_FW_run_14 d_FW_run_17 rfl ?_
    first | exact h2 (l1 e1) | exact h2 (l2 e7)
  · skip
    refine r_il1 (q := 5) d_FW_run_4 rfl ?_
    refine r_bp (v := 100) (q := 7) d_FW_run_5 rfl rfl ?_
    refine r_cle (tgt := 18) (q := 10) d_FW_run_7 rfl rfl (fun e7 => ?_) (fun e7 => ?_)
    · skip
      refine r_ic (v := 0) (q := 19) d_FW_run_18 rfl rfl ?_
      refine r_is2 (q := 20) d_FW_run_19 rfl ?_
      exact k20 (l0 e1 e7)
    · skip
      refine r_tti d_FW_run_10 d_FW_run_13 d_FW_run_14 d_FW_run_17 rfl ?_
      first | exact h2 (l1 e1) | exact h2 (l2 e7)
theorem sq_MO_run {P A A' : am_S} {N : Int32} {k : Nat} {st : am_S} {f : Int32 → am_S → Prop} (c1 : PM st P) (c2 : VP P) (c3 : RM st A) (c4 : 0 ≤ N.toInt ∧ N.toInt ≤ 100 → k ≤ N.toInt.toNat ∧ Rn P N.toInt.toNat A k A') (h1 : 0 ≤ N.toInt ∧ N.toInt ≤ 100 → ∀ q : {q : am_S // QM (am_up st 576 0 0) A' q}, f (nI k) q.1) (h2 : ¬ (0 ≤ N.toInt ∧ N.toInt ≤ 100) → f 0 (am_up st 576 0 1)) : wp_MO_run [.inr (.inl 128), .inl N] st (am_ki f) := by
  refine ⟨⟨rfl, Nat.le_of_ble_eq_true rfl⟩, ?_⟩
  have pm1 : ∀ v, PM (am_up st 576 0 v) P := by
    intro v
    have bk : ∀ b, ¬ b = 576 → am_up st 576 0 v b = st b := fun b hb => am_up_bank hb
    unfold PM at *
    rw [bk 2142 (by decide), bk 2143 (by decide), bk 2144 (by decide), bk 2145 (by decide), bk 2146 (by decide), bk 2147 (by decide), bk 2148 (by decide), bk 2149 (by decide), bk 2150 (by decide), bk 2151 (by decide), bk 2152 (by decide), bk 2153 (by decide), bk 579 (by decide), bk 577 (by decide)]
    exact c1
  have rm1 : ∀ v, RM (am_up st 576 0 v) A := by
    intro v b hb
    rw [am_up_bank (fun w => by rw [w] at hb; exact absurd hb (by decide))]
    exact c3 b hb
  have k21 : 0 ≤ N.toInt ∧ N.toInt ≤ 100 → am_AW c_MO_run g_MO_run (fun o st' => am_ok (some .int) o ∧ am_ki f o st') 21 [some (.inr (.inl 128)), some (.inl N), some (.inl 0)] [] (am_up st 576 0 0) := by
    intro hN
    obtain ⟨a, b⟩ := c4 hN
    refine lp_MO_run (pm1 0) c2 am_up_eq N.toInt.toNat A A' k 0 _ ⟨md_refl, rm1 0⟩ b (by decide) (by simp only [Int32.reduceToInt]; omega) a hN.2 (fun q => ?_)
    have ez : (0 : Int32) + nI k = nI k := Int32.zero_add _
    rw [ez]
    exact h1 hN q
  have l0 : 0 ≤ N ∧ N ≤ 100 → 0 ≤ N.toInt ∧ N.toInt ≤ 100 := by
    intro e
    rw [i32_le, i32_le] at e
    simp only [Int32.reduceToInt] at e
    omega
  have l1 : ¬ (0 ≤ N ∧ N ≤ 100) → ¬ (0 ≤ N.toInt ∧ N.toInt ≤ 100) := by
    intro e
    rw [i32_le, i32_le] at e
    simp only [Int32.reduceToInt] at e
    omega
  have k21b : ¬ (0 ≤ N.toInt ∧ N.toInt ≤ 100) → am_AW c_MO_run g_MO_run (fun o st' => am_ok (some .int) o ∧ am_ki f o st') 21 [some (.inr (.inl 128)), some (.inl N), some (.inl 0)] [] (am_up st 576 0 1) := by
    intro hN
    have kQ := h2 hN
    have e1 : am_up st 576 0 1 576 0 = 1 := am_up_eq
    generalize am_up st 576 0 1 = s at *
    have n1 : ¬ s 576 0 = 0 := by rw [e1]; decide
    clear h1 h2 k21 c4
    refine r_al0 (q := 22) d_MO_run_21 rfl ?_
    refine gt_MO_thrown (q := 25) d_MO_run_22 rfl rfl ?_
    refine r_zne (tgt := 51) (q := 28) d_MO_run_25 rfl rfl (fun e25 => ?_) (fun e25 => ?_)
    · skip
      refine r_il2 (q := 52) d_MO_run_51 rfl ?_
      refine r_ri d_MO_run_52 ?_
      exact kQ
    · skip
      exact absurd e25 n1
  clear h1
  refine r_al0 (q := 1) d_MO_run_0 rfl ?_
  refine r_il1 (q := 2) d_MO_run_1 rfl ?_
  refine r_ic (v := 0) (q := 3) d_MO_run_2 rfl rfl ?_
  refine r_bp (v := 100) (q := 5) d_MO_run_3 rfl rfl ?_
  refine r_si3 mo_MO_in d_MO_run_5 rfl rfl (q := 8) rfl ?_
  refine sq_MO_in (fun e5 => ?_) (fun e5 => ?_)
  · skip
    refine r_zeq (tgt := 15) (q := 11) d_MO_run_8 rfl rfl (fun e8 => by exfalso; revert e8; decide) (fun e8 => ?_)
    refine r_ic (v := 0) (q := 12) d_MO_run_11 rfl rfl ?_
    refine am_go (tgt := 16) d_MO_run_12 rfl ?_
    refine pt_MO_thrown (q := 19) d_MO_run_16 rfl rfl ?_
    refine r_ic (v := 0) (q := 20) d_MO_run_19 rfl rfl ?_
    refine r_is2 (q := 21) d_MO_run_20 rfl ?_
    first | exact k21 (l0 e5) | exact k21b (l1 e5)
  · skip
    refine r_zeq (tgt := 15) (q := 11) d_MO_run_8 rfl rfl (fun e8 => ?_) (fun e8 => by exfalso; revert e8; decide)
    refine r_ic (v := 1) (q := 16) d_MO_run_15 rfl rfl ?_
    refine pt_MO_thrown (q := 19) d_MO_run_16 rfl rfl ?_
    refine r_ic (v := 0) (q := 20) d_MO_run_19 rfl rfl ?_
    refine r_is2 (q := 21) d_MO_run_20 rfl ?_
    first | exact k21 (l0 e5) | exact k21b (l1 e5)

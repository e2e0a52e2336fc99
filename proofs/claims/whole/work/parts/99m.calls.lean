/-! written by wip/whole/gen/walk.py out of 99m.calls.txt -/
def o_new (A : am_S) (n : Int32) : am_S := am_up (am_fill (am_up A 2161 (A 606 0).toInt.toNat n) 2161 ((A 606 0).toInt.toNat + 1) n.toInt.toNat 0) 606 0 (A 606 0 + 1 + n)
def o_na (P A : am_S) (n z : Int32) : am_S := if n < 0 then o_trap P (fn A) 4 A else if 120 - A 606 0 ≤ n then o_stop A 8 else o_go (o_push P (o_new A n) (A 606 0)) z
theorem new_o {A : am_S} {n : Int32} {b : Nat} (h : ¬ b = 606 ∧ ¬ b = 2161) : o_new A n b = A b := by
  unfold o_new
  rw [am_up_bank h.1, am_fill_bank h.2, am_up_bank h.2]
theorem new_606 {A : am_S} {n : Int32} : o_new A n 606 0 = A 606 0 + 1 + n := am_up_eq
theorem new_h {A : am_S} {n : Int32} {i : Nat} : o_new A n 2161 i = if (A 606 0).toInt.toNat + 1 ≤ i ∧ i < (A 606 0).toInt.toNat + 1 + n.toInt.toNat then 0 else if i = (A 606 0).toInt.toNat then n else A 2161 i := by
  unfold o_new
  rw [am_up_bank (by decide)]
  unfold am_fill
  by_cases e : (A 606 0).toInt.toNat + 1 ≤ i ∧ i < (A 606 0).toInt.toNat + 1 + n.toInt.toNat
  · rw [if_pos ⟨rfl, e⟩, if_pos e]
  · rw [if_neg (fun q => e q.2), if_neg e]
    by_cases e2 : i = (A 606 0).toInt.toNat
    · rw [if_pos e2, e2, am_up_eq]
    · rw [if_neg e2, am_up_ne (fun q => e2 q.2)]
theorem new_fit {A : am_S} {n : Int32} (hh : hb A) (h0 : ¬ n < 0) (h1 : ¬ 120 - A 606 0 ≤ n) : 0 ≤ n.toInt ∧ (A 606 0).toInt + 1 + n.toInt ≤ 120 ∧ (A 606 0 + 1 + n).toInt = (A 606 0).toInt + 1 + n.toInt := by
  unfold hb at hh
  rw [i32_lt] at h0
  rw [i32_le, i32_subw] at h1
  simp only [Int32.reduceToInt] at h0 h1
  refine ⟨by omega, by omega, ?_⟩
  rw [i32_addw, i32_addw]
  simp only [Int32.reduceToInt]
  omega
theorem RC_new {P st A : am_S} {n : Int32} (hh : hb A) (h0 : ¬ n < 0) (h1 : ¬ 120 - A 606 0 ≤ n) (h : RC P st A) : RC P (am_up (am_fill (am_up st 2140 (A 606 0).toInt.toNat n) 2140 ((A 606 0).toInt.toNat + 1) n.toInt.toNat 0) 520 0 (A 606 0 + 1 + n)) (o_new A n) := by
  obtain ⟨a1, a2, a3, a4, a5, a6⟩ := h
  obtain ⟨f1, f2, f3⟩ := new_fit hh h0 h1
  unfold hb at hh
  have e : ∀ b, ¬ b = 2140 → ¬ b = 520 → am_up (am_fill (am_up st 2140 (A 606 0).toInt.toNat n) 2140 ((A 606 0).toInt.toNat + 1) n.toInt.toNat 0) 520 0 (A 606 0 + 1 + n) b = st b := fun b b1 b2 => by rw [am_up_bank b2, am_fill_bank b1, am_up_bank b1]
  refine ⟨?_, ?_, ?_, ?_, ⟨?_, fun i hi => ?_⟩, ?_⟩
  · rw [e 519 (by decide) (by decide), e 518 (by decide) (by decide), new_o (by decide)]
    exact a1
  · rw [e 0 (by decide) (by decide), e 1 (by decide) (by decide), e 2 (by decide) (by decide), e 3 (by decide) (by decide), new_o (b := 2163) (by decide), new_o (b := 2164) (by decide), new_o (b := 2165) (by decide), new_o (b := 2166) (by decide)]
    exact a2
  · unfold flo ft fb fm
    rw [e 2137 (by decide) (by decide), new_o (b := 2163) (by decide), new_o (b := 2165) (by decide), new_o (b := 2166) (by decide), new_o (b := 2162) (by decide)]
    exact a3
  · rw [e 2139 (by decide) (by decide), new_o (by decide)]
    exact a4
  · rw [am_up_eq, new_606]
  · rw [new_606, f3] at hi
    rw [new_h, am_up_bank (by decide)]
    unfold am_fill
    by_cases q : (A 606 0).toInt.toNat + 1 ≤ i ∧ i < (A 606 0).toInt.toNat + 1 + n.toInt.toNat
    · rw [if_pos ⟨rfl, q⟩, if_pos q]
    · rw [if_neg (fun w => q w.2), if_neg q]
      by_cases q2 : i = (A 606 0).toInt.toNat
      · rw [if_pos q2, q2, am_up_eq]
      · rw [if_neg q2, am_up_ne (fun w => q2 w.2)]
        exact a5.2 i (by omega)
  · rw [e 521 (by decide) (by decide), e 522 (by decide) (by decide), new_o (b := 603) (by decide), new_o (b := 604) (by decide)]
    exact a6
theorem lp_MA_na {n u : Int32} (hu : 0 ≤ u.toInt) (hn : u.toInt + 1 + n.toInt ≤ 120) : ∀ (d : Nat) (x : Int32) (st : am_S) {f : am_S → Prop}, 0 ≤ x.toInt → x.toInt + d = n.toInt → (∀ a3, am_AW c_MA_stepNewArray g_MA_stepNewArray (fun o st' => am_ok none o ∧ am_kv f o st') 64 [some (.inr (.inl 127)), some (.inl n), some (.inl u), a3] [] (am_fill st 2140 (u.toInt.toNat + 1 + x.toInt.toNat) d 0)) → am_AW c_MA_stepNewArray g_MA_stepNewArray (fun o st' => am_ok none o ∧ am_kv f o st') 42 [some (.inr (.inl 127)), some (.inl n), some (.inl u), some (.inl x)] [] st := by
  intro d
  induction d with
  | zero =>
    intro x st f c1 c2 h
    have kA := h (some (.inl x))
    rw [am_fill_zero] at kA
    clear h
    refine r_il3 (q := 43) d_MA_stepNewArray_42 rfl ?_
    refine r_il1 (q := 44) d_MA_stepNewArray_43 rfl ?_
    refine r_cge (tgt := 64) (q := 47) d_MA_stepNewArray_44 rfl rfl (fun e44 => ?_) (fun e44 => ?_)
    · skip
      first | exact kA | (exfalso; clear kA; ((try simp +decide only [b01, b10, b11, am_up, ik, and_true, and_false, true_and, false_and, if_true, if_false, nn_eq] at *) <;> (try simp only [sw_or, sw_all, or_false, and_true, i32_lt, i32_le, i32_eq, i32_addw, i32_subw, i32_mulw, Int32.reduceToInt] at *) <;> omega))
    · skip
      first | exact kA | (exfalso; clear kA; ((try simp +decide only [b01, b10, b11, am_up, ik, and_true, and_false, true_and, false_and, if_true, if_false, nn_eq] at *) <;> (try simp only [sw_or, sw_all, or_false, and_true, i32_lt, i32_le, i32_eq, i32_addw, i32_subw, i32_mulw, Int32.reduceToInt] at *) <;> omega))
  | succ d ih =>
    intro x st f c1 c2 h
    have ei : (u + 1 + x).toNatClampNeg = u.toInt.toNat + 1 + x.toInt.toNat := by
      rw [nn_eq, i32_addw, i32_addw]
      simp only [Int32.reduceToInt]
      omega
    have vi : vp_in (u + 1 + x) 120 := by
      refine vp_of ?_ ?_ <;> (rw [i32_addw, i32_addw]; simp only [Int32.reduceToInt]; omega)
    have ex : (x + 1).toInt = x.toInt + 1 := by
      rw [i32_addw]
      simp only [Int32.reduceToInt]
      omega
    have kA : am_AW c_MA_stepNewArray g_MA_stepNewArray (fun o st' => am_ok none o ∧ am_kv f o st') 42 [some (.inr (.inl 127)), some (.inl n), some (.inl u), some (.inl (x + 1))] [] (am_up st 2140 (u + 1 + x).toNatClampNeg 0) := by
      refine ih _ _ (by omega) (by omega) (fun a3 => ?_)
      have := h a3
      rw [ei, am_fill_step (by omega)]
      exact this
    clear ih h
    refine r_il3 (q := 43) d_MA_stepNewArray_42 rfl ?_
    refine r_il1 (q := 44) d_MA_stepNewArray_43 rfl ?_
    refine r_cge (tgt := 64) (q := 47) d_MA_stepNewArray_44 rfl rfl (fun e44 => ?_) (fun e44 => ?_)
    · skip
      first | exact kA | (exfalso; clear kA; ((try simp +decide only [b01, b10, b11, am_up, ik, and_true, and_false, true_and, false_and, if_true, if_false, nn_eq] at *) <;> (try simp only [sw_or, sw_all, or_false, and_true, i32_lt, i32_le, i32_eq, i32_addw, i32_subw, i32_mulw, Int32.reduceToInt] at *) <;> omega))
    · skip
      refine r_al0 (q := 48) d_MA_stepNewArray_47 rfl ?_
      refine gt_MA_heapCells (q := 51) d_MA_stepNewArray_48 rfl rfl ?_
      refine r_il2 (q := 52) d_MA_stepNewArray_51 rfl ?_
      refine r_ic (v := 1) (q := 53) d_MA_stepNewArray_52 rfl rfl ?_
      refine r_iadd (q := 54) d_MA_stepNewArray_53 rfl ?_
      refine r_il3 (q := 55) d_MA_stepNewArray_54 rfl ?_
      refine r_iadd (q := 56) d_MA_stepNewArray_55 rfl ?_
      refine r_ic (v := 0) (q := 57) d_MA_stepNewArray_56 rfl rfl ?_
      refine sv_140 (q := 58) d_MA_stepNewArray_57 ?_ rfl ?_
      · exact vi
      refine r_in3 (v := 1) (q := 61) d_MA_stepNewArray_58 rfl rfl ?_
      refine am_go (tgt := 42) d_MA_stepNewArray_61 rfl ?_
      first | exact kA | (exfalso; clear kA; ((try simp +decide only [b01, b10, b11, am_up, ik, and_true, and_false, true_and, false_and, if_true, if_false, nn_eq] at *) <;> (try simp only [sw_or, sw_all, or_false, and_true, i32_lt, i32_le, i32_eq, i32_addw, i32_subw, i32_mulw, Int32.reduceToInt] at *) <;> omega))
theorem sp_MA_stepNewArray {P st0 A : am_S} {n : Int32} {st : am_S} {f : am_S → Prop} (c1 : PC st0 P) (c2 : VP P) (c3 : BV P A) (c4 : 0 < fn A) (c5 : sD A < fhe P A (lf A)) (c6 : QC P st0 A st) (c7 : HT P A) (c8 : hb A) (h1 : ∀ q : {q : am_S // QC P st0 (o_na P A n (st0 195 2)) q}, f q.1) : wp_MA_stepNewArray [.inr (.inl 127), .inl n] st (am_kv f) := by
  refine ⟨⟨rfl, Nat.le_of_ble_eq_true rfl⟩, ?_⟩
  have i4 : ¬ (4 : Int32) + 2 = 2 := by decide
  have i8 : ¬ (8 : Int32) = 2 := by decide
  have e520 : st 520 0 = A 606 0 := c6.2.2.2.2.2.1.1
  have kT : n < 0 → ∀ q, QC P st0 (o_trap P (fn A) 4 A) q → f q := by
    intro e q hq
    refine h1 ⟨q, ?_⟩
    unfold o_na
    rw [if_pos e]
    exact hq
  have kS : ¬ n < 0 → ¬ n < 120 - st 520 0 → ∀ q, QC P st0 (o_stop A 8) q → f q := by
    intro e e2 q hq
    refine h1 ⟨q, ?_⟩
    unfold o_na
    rw [if_neg e, if_pos]
    · exact hq
    · rw [e520, i32_lt] at e2
      rw [i32_le]
      omega
  have kG : ¬ n < 0 → n < 120 - st 520 0 → am_AW c_MA_stepNewArray g_MA_stepNewArray (fun o st' => am_ok none o ∧ am_kv f o st') 28 [some (.inr (.inl 127)), some (.inl n), none, none] [] st := by
    intro e e2
    have e3 : ¬ 120 - A 606 0 ≤ n := by
      rw [e520, i32_lt] at e2
      rw [i32_le]
      omega
    obtain ⟨f1, f2, f3⟩ := new_fit c8 e e3
    have h0 := c8
    unfold hb at h0
    have et : (st 520 0).toNatClampNeg = (A 606 0).toInt.toNat := by rw [e520, nn_eq]
    have vt : vp_in (st 520 0) 120 := by
      rw [e520]
      exact vp_of (by omega) (by omega)
    have kQ := RC_new c8 e e3 c6.2
    have bn : BV P (o_new A n) := BV_eq c3 (new_o (by decide)) (new_o (by decide)) (new_o (by decide)) (new_o (by decide)) (new_o (by decide))
    obtain ⟨t1, t2, t3, t4, -⟩ := @eq_top P A (o_new A n) (new_o (by decide)) (new_o (by decide)) (new_o (by decide)) (new_o (by decide))
    have i5 : 0 < fn (o_new A n) := by omega
    have i6 : sD (o_new A n) < fhe P (o_new A n) (lf (o_new A n)) := by omega
    obtain ⟨r1, r2, -, -⟩ := push1 (v := A 606 0) bn i5 i6
    have kE : ∀ q, QC P st0 (o_go (o_push P (o_new A n) (A 606 0)) (st0 195 2)) q → f q := by
      intro q hq
      refine h1 ⟨q, ?_⟩
      unfold o_na
      rw [if_neg e, if_neg e3]
      exact hq
    have kM : QC P st0 (o_new A n) (am_up (am_fill (am_up st 2140 (A 606 0).toInt.toNat n) 2140 ((A 606 0).toInt.toNat + 1) n.toInt.toNat 0) 520 0 (A 606 0 + 1 + n)) := ⟨md_up (md_fill (md_up c6.1 rfl) rfl) rfl, kQ⟩
    have kL := @lp_MA_na n (A 606 0) h0.1 f2 n.toInt.toNat 0 (am_up st 2140 (A 606 0).toInt.toNat n) f (by decide) (by simp only [Int32.reduceToInt]; omega) (fun a3 => by
      have ez : (A 606 0).toInt.toNat + 1 + (0 : Int32).toInt.toNat = (A 606 0).toInt.toNat + 1 := rfl
      rw [ez]
      clear h1 kT kS
      refine r_al0 (q := 65) d_MA_stepNewArray_64 rfl ?_
      refine r_il2 (q := 66) d_MA_stepNewArray_65 rfl ?_
      refine r_ic (v := 1) (q := 67) d_MA_stepNewArray_66 rfl rfl ?_
      refine r_iadd (q := 68) d_MA_stepNewArray_67 rfl ?_
      refine r_il1 (q := 69) d_MA_stepNewArray_68 rfl ?_
      refine r_iadd (q := 70) d_MA_stepNewArray_69 rfl ?_
      refine pt_MA_heapTaken (q := 73) d_MA_stepNewArray_70 rfl rfl ?_
      refine r_al0 (q := 74) d_MA_stepNewArray_73 rfl ?_
      refine r_il2 (q := 75) d_MA_stepNewArray_74 rfl ?_
      refine r_vv1 mo_MA_push d_MA_stepNewArray_75 rfl rfl rfl (q := 78) rfl ?_
      refine sp_MA_push (P := P) (st0 := st0) (A := o_new A n) (by first | exact c1 | exact bn | exact i5 | exact i6 | exact kM | exact r1 | exact r2 | exact e75.2 | assumption | (refine pc_of hP ?_; (repeat (first | assumption | exact md_refl | refine md_up ?_ rfl | refine md_fill ?_ rfl | (unfold ik; refine md_up ?_ rfl))); done) | (refine pc_oS hP ?_; (repeat (first | assumption | exact md_refl | refine md_up ?_ rfl | refine md_fill ?_ rfl | (unfold ik; refine md_up ?_ rfl))); done) | (refine pm_of hP ?_; (repeat (first | assumption | exact md_refl | refine md_up ?_ rfl | refine md_fill ?_ rfl | (unfold ik; refine md_up ?_ rfl))); done) | omega | decide | ((try simp +decide only [b01, b10, b11, am_up, ik, and_true, and_false, true_and, false_and, if_true, if_false, nn_eq] at *) <;> (try simp only [sw_or, sw_all, or_false, and_true, i32_lt, i32_le, i32_eq, i32_addw, i32_subw, i32_mulw, Int32.reduceToInt] at *) <;> omega) | (apply_assumption; done)) (by first | exact c1 | exact bn | exact i5 | exact i6 | exact kM | exact r1 | exact r2 | exact e75.2 | assumption | (refine pc_of hP ?_; (repeat (first | assumption | exact md_refl | refine md_up ?_ rfl | refine md_fill ?_ rfl | (unfold ik; refine md_up ?_ rfl))); done) | (refine pc_oS hP ?_; (repeat (first | assumption | exact md_refl | refine md_up ?_ rfl | refine md_fill ?_ rfl | (unfold ik; refine md_up ?_ rfl))); done) | (refine pm_of hP ?_; (repeat (first | assumption | exact md_refl | refine md_up ?_ rfl | refine md_fill ?_ rfl | (unfold ik; refine md_up ?_ rfl))); done) | omega | decide | ((try simp +decide only [b01, b10, b11, am_up, ik, and_true, and_false, true_and, false_and, if_true, if_false, nn_eq] at *) <;> (try simp only [sw_or, sw_all, or_false, and_true, i32_lt, i32_le, i32_eq, i32_addw, i32_subw, i32_mulw, Int32.reduceToInt] at *) <;> omega) | (apply_assumption; done)) (by first | exact c1 | exact bn | exact i5 | exact i6 | exact kM | exact r1 | exact r2 | exact e75.2 | assumption | (refine pc_of hP ?_; (repeat (first | assumption | exact md_refl | refine md_up ?_ rfl | refine md_fill ?_ rfl | (unfold ik; refine md_up ?_ rfl))); done) | (refine pc_oS hP ?_; (repeat (first | assumption | exact md_refl | refine md_up ?_ rfl | refine md_fill ?_ rfl | (unfold ik; refine md_up ?_ rfl))); done) | (refine pm_of hP ?_; (repeat (first | assumption | exact md_refl | refine md_up ?_ rfl | refine md_fill ?_ rfl | (unfold ik; refine md_up ?_ rfl))); done) | omega | decide | ((try simp +decide only [b01, b10, b11, am_up, ik, and_true, and_false, true_and, false_and, if_true, if_false, nn_eq] at *) <;> (try simp only [sw_or, sw_all, or_false, and_true, i32_lt, i32_le, i32_eq, i32_addw, i32_subw, i32_mulw, Int32.reduceToInt] at *) <;> omega) | (apply_assumption; done)) (by first | exact c1 | exact bn | exact i5 | exact i6 | exact kM | exact r1 | exact r2 | exact e75.2 | assumption | (refine pc_of hP ?_; (repeat (first | assumption | exact md_refl | refine md_up ?_ rfl | refine md_fill ?_ rfl | (unfold ik; refine md_up ?_ rfl))); done) | (refine pc_oS hP ?_; (repeat (first | assumption | exact md_refl | refine md_up ?_ rfl | refine md_fill ?_ rfl | (unfold ik; refine md_up ?_ rfl))); done) | (refine pm_of hP ?_; (repeat (first | assumption | exact md_refl | refine md_up ?_ rfl | refine md_fill ?_ rfl | (unfold ik; refine md_up ?_ rfl))); done) | omega | decide | ((try simp +decide only [b01, b10, b11, am_up, ik, and_true, and_false, true_and, false_and, if_true, if_false, nn_eq] at *) <;> (try simp only [sw_or, sw_all, or_false, and_true, i32_lt, i32_le, i32_eq, i32_addw, i32_subw, i32_mulw, Int32.reduceToInt] at *) <;> omega) | (apply_assumption; done)) (by first | exact c1 | exact bn | exact i5 | exact i6 | exact kM | exact r1 | exact r2 | exact e75.2 | assumption | (refine pc_of hP ?_; (repeat (first | assumption | exact md_refl | refine md_up ?_ rfl | refine md_fill ?_ rfl | (unfold ik; refine md_up ?_ rfl))); done) | (refine pc_oS hP ?_; (repeat (first | assumption | exact md_refl | refine md_up ?_ rfl | refine md_fill ?_ rfl | (unfold ik; refine md_up ?_ rfl))); done) | (refine pm_of hP ?_; (repeat (first | assumption | exact md_refl | refine md_up ?_ rfl | refine md_fill ?_ rfl | (unfold ik; refine md_up ?_ rfl))); done) | omega | decide | ((try simp +decide only [b01, b10, b11, am_up, ik, and_true, and_false, true_and, false_and, if_true, if_false, nn_eq] at *) <;> (try simp only [sw_or, sw_all, or_false, and_true, i32_lt, i32_le, i32_eq, i32_addw, i32_subw, i32_mulw, Int32.reduceToInt] at *) <;> omega) | (apply_assumption; done)) (by first | exact c1 | exact bn | exact i5 | exact i6 | exact kM | exact r1 | exact r2 | exact e75.2 | assumption | (refine pc_of hP ?_; (repeat (first | assumption | exact md_refl | refine md_up ?_ rfl | refine md_fill ?_ rfl | (unfold ik; refine md_up ?_ rfl))); done) | (refine pc_oS hP ?_; (repeat (first | assumption | exact md_refl | refine md_up ?_ rfl | refine md_fill ?_ rfl | (unfold ik; refine md_up ?_ rfl))); done) | (refine pm_of hP ?_; (repeat (first | assumption | exact md_refl | refine md_up ?_ rfl | refine md_fill ?_ rfl | (unfold ik; refine md_up ?_ rfl))); done) | omega | decide | ((try simp +decide only [b01, b10, b11, am_up, ik, and_true, and_false, true_and, false_and, if_true, if_false, nn_eq] at *) <;> (try simp only [sw_or, sw_all, or_false, and_true, i32_lt, i32_le, i32_eq, i32_addw, i32_subw, i32_mulw, Int32.reduceToInt] at *) <;> omega) | (apply_assumption; done)) (fun e75 => ?_)
      · skip
        refine r_al0 (q := 79) d_MA_stepNewArray_78 rfl ?_
        refine r_vv0 mo_MA_goOn d_MA_stepNewArray_79 rfl rfl rfl (q := 82) rfl ?_
        refine sp_MA_goOn (P := P) (st0 := st0) (A := o_push P (o_new A n) (A 606 0)) (by first | exact c1 | exact bn | exact i5 | exact i6 | exact kM | exact r1 | exact r2 | exact e75.2 | assumption | (refine pc_of hP ?_; (repeat (first | assumption | exact md_refl | refine md_up ?_ rfl | refine md_fill ?_ rfl | (unfold ik; refine md_up ?_ rfl))); done) | (refine pc_oS hP ?_; (repeat (first | assumption | exact md_refl | refine md_up ?_ rfl | refine md_fill ?_ rfl | (unfold ik; refine md_up ?_ rfl))); done) | (refine pm_of hP ?_; (repeat (first | assumption | exact md_refl | refine md_up ?_ rfl | refine md_fill ?_ rfl | (unfold ik; refine md_up ?_ rfl))); done) | omega | decide | ((try simp +decide only [b01, b10, b11, am_up, ik, and_true, and_false, true_and, false_and, if_true, if_false, nn_eq] at *) <;> (try simp only [sw_or, sw_all, or_false, and_true, i32_lt, i32_le, i32_eq, i32_addw, i32_subw, i32_mulw, Int32.reduceToInt] at *) <;> omega) | (apply_assumption; done)) (by first | exact c1 | exact bn | exact i5 | exact i6 | exact kM | exact r1 | exact r2 | exact e75.2 | assumption | (refine pc_of hP ?_; (repeat (first | assumption | exact md_refl | refine md_up ?_ rfl | refine md_fill ?_ rfl | (unfold ik; refine md_up ?_ rfl))); done) | (refine pc_oS hP ?_; (repeat (first | assumption | exact md_refl | refine md_up ?_ rfl | refine md_fill ?_ rfl | (unfold ik; refine md_up ?_ rfl))); done) | (refine pm_of hP ?_; (repeat (first | assumption | exact md_refl | refine md_up ?_ rfl | refine md_fill ?_ rfl | (unfold ik; refine md_up ?_ rfl))); done) | omega | decide | ((try simp +decide only [b01, b10, b11, am_up, ik, and_true, and_false, true_and, false_and, if_true, if_false, nn_eq] at *) <;> (try simp only [sw_or, sw_all, or_false, and_true, i32_lt, i32_le, i32_eq, i32_addw, i32_subw, i32_mulw, Int32.reduceToInt] at *) <;> omega) | (apply_assumption; done)) (by first | exact c1 | exact bn | exact i5 | exact i6 | exact kM | exact r1 | exact r2 | exact e75.2 | assumption | (refine pc_of hP ?_; (repeat (first | assumption | exact md_refl | refine md_up ?_ rfl | refine md_fill ?_ rfl | (unfold ik; refine md_up ?_ rfl))); done) | (refine pc_oS hP ?_; (repeat (first | assumption | exact md_refl | refine md_up ?_ rfl | refine md_fill ?_ rfl | (unfold ik; refine md_up ?_ rfl))); done) | (refine pm_of hP ?_; (repeat (first | assumption | exact md_refl | refine md_up ?_ rfl | refine md_fill ?_ rfl | (unfold ik; refine md_up ?_ rfl))); done) | omega | decide | ((try simp +decide only [b01, b10, b11, am_up, ik, and_true, and_false, true_and, false_and, if_true, if_false, nn_eq] at *) <;> (try simp only [sw_or, sw_all, or_false, and_true, i32_lt, i32_le, i32_eq, i32_addw, i32_subw, i32_mulw, Int32.reduceToInt] at *) <;> omega) | (apply_assumption; done)) (by first | exact c1 | exact bn | exact i5 | exact i6 | exact kM | exact r1 | exact r2 | exact e75.2 | assumption | (refine pc_of hP ?_; (repeat (first | assumption | exact md_refl | refine md_up ?_ rfl | refine md_fill ?_ rfl | (unfold ik; refine md_up ?_ rfl))); done) | (refine pc_oS hP ?_; (repeat (first | assumption | exact md_refl | refine md_up ?_ rfl | refine md_fill ?_ rfl | (unfold ik; refine md_up ?_ rfl))); done) | (refine pm_of hP ?_; (repeat (first | assumption | exact md_refl | refine md_up ?_ rfl | refine md_fill ?_ rfl | (unfold ik; refine md_up ?_ rfl))); done) | omega | decide | ((try simp +decide only [b01, b10, b11, am_up, ik, and_true, and_false, true_and, false_and, if_true, if_false, nn_eq] at *) <;> (try simp only [sw_or, sw_all, or_false, and_true, i32_lt, i32_le, i32_eq, i32_addw, i32_subw, i32_mulw, Int32.reduceToInt] at *) <;> omega) | (apply_assumption; done)) (by first | exact c1 | exact bn | exact i5 | exact i6 | exact kM | exact r1 | exact r2 | exact e75.2 | assumption | (refine pc_of hP ?_; (repeat (first | assumption | exact md_refl | refine md_up ?_ rfl | refine md_fill ?_ rfl | (unfold ik; refine md_up ?_ rfl))); done) | (refine pc_oS hP ?_; (repeat (first | assumption | exact md_refl | refine md_up ?_ rfl | refine md_fill ?_ rfl | (unfold ik; refine md_up ?_ rfl))); done) | (refine pm_of hP ?_; (repeat (first | assumption | exact md_refl | refine md_up ?_ rfl | refine md_fill ?_ rfl | (unfold ik; refine md_up ?_ rfl))); done) | omega | decide | ((try simp +decide only [b01, b10, b11, am_up, ik, and_true, and_false, true_and, false_and, if_true, if_false, nn_eq] at *) <;> (try simp only [sw_or, sw_all, or_false, and_true, i32_lt, i32_le, i32_eq, i32_addw, i32_subw, i32_mulw, Int32.reduceToInt] at *) <;> omega) | (apply_assumption; done)) (fun e79 => ?_)
        · skip
          refine r_rv d_MA_stepNewArray_82 ?_
          exact kE _ e79.2
      )
    rw [← e520, ← nn_eq] at kL
    clear h1 kT kS kE kM kQ
    refine r_al0 (q := 29) d_MA_stepNewArray_28 rfl ?_
    refine gt_MA_heapTaken (q := 32) d_MA_stepNewArray_29 rfl rfl ?_
    refine r_is2 (q := 33) d_MA_stepNewArray_32 rfl ?_
    refine r_al0 (q := 34) d_MA_stepNewArray_33 rfl ?_
    refine gt_MA_heapCells (q := 37) d_MA_stepNewArray_34 rfl rfl ?_
    refine r_il2 (q := 38) d_MA_stepNewArray_37 rfl ?_
    refine r_il1 (q := 39) d_MA_stepNewArray_38 rfl ?_
    refine sv_140 (q := 40) d_MA_stepNewArray_39 ?_ rfl ?_
    · exact vt
    refine r_ic (v := 0) (q := 41) d_MA_stepNewArray_40 rfl rfl ?_
    refine r_is3 (q := 42) d_MA_stepNewArray_41 rfl ?_
    exact kL
  clear h1
  refine r_il1 (q := 1) d_MA_stepNewArray_0 rfl ?_
  refine r_zge (tgt := 10) (q := 4) d_MA_stepNewArray_1 rfl rfl (fun e1 => ?_) (fun e1 => ?_)
  · skip
    refine r_il1 (q := 11) d_MA_stepNewArray_10 rfl ?_
    refine r_bp (v := 120) (q := 13) d_MA_stepNewArray_11 rfl rfl ?_
    refine r_al0 (q := 14) d_MA_stepNewArray_13 rfl ?_
    refine gt_MA_heapTaken (q := 17) d_MA_stepNewArray_14 rfl rfl ?_
    refine r_isub (q := 18) d_MA_stepNewArray_17 rfl ?_
    refine r_clt (tgt := 28) (q := 21) d_MA_stepNewArray_18 rfl rfl (fun e18 => ?_) (fun e18 => ?_)
    · skip
      first | exact kG e1 e18 | exact kG (fun q => g_nl e1 q) e18
    · skip
      refine r_al0 (q := 22) d_MA_stepNewArray_21 rfl ?_
      refine r_bp (v := 8) (q := 24) d_MA_stepNewArray_22 rfl rfl ?_
      refine r_vv1 mo_MA_end d_MA_stepNewArray_24 rfl rfl rfl (q := 27) rfl ?_
      refine sq_MA_end (P := P) (st0 := st0) (A := A) (by first | exact c1 | exact c7 | exact i4 | exact c6 | exact i8 | assumption | (refine pc_of hP ?_; (repeat (first | assumption | exact md_refl | refine md_up ?_ rfl | refine md_fill ?_ rfl | (unfold ik; refine md_up ?_ rfl))); done) | (refine pc_oS hP ?_; (repeat (first | assumption | exact md_refl | refine md_up ?_ rfl | refine md_fill ?_ rfl | (unfold ik; refine md_up ?_ rfl))); done) | (refine pm_of hP ?_; (repeat (first | assumption | exact md_refl | refine md_up ?_ rfl | refine md_fill ?_ rfl | (unfold ik; refine md_up ?_ rfl))); done) | omega | decide | ((try simp +decide only [b01, b10, b11, am_up, ik, and_true, and_false, true_and, false_and, if_true, if_false, nn_eq] at *) <;> (try simp only [sw_or, sw_all, or_false, and_true, i32_lt, i32_le, i32_eq, i32_addw, i32_subw, i32_mulw, Int32.reduceToInt] at *) <;> omega) | (apply_assumption; done)) (by first | exact c1 | exact c7 | exact i4 | exact c6 | exact i8 | assumption | (refine pc_of hP ?_; (repeat (first | assumption | exact md_refl | refine md_up ?_ rfl | refine md_fill ?_ rfl | (unfold ik; refine md_up ?_ rfl))); done) | (refine pc_oS hP ?_; (repeat (first | assumption | exact md_refl | refine md_up ?_ rfl | refine md_fill ?_ rfl | (unfold ik; refine md_up ?_ rfl))); done) | (refine pm_of hP ?_; (repeat (first | assumption | exact md_refl | refine md_up ?_ rfl | refine md_fill ?_ rfl | (unfold ik; refine md_up ?_ rfl))); done) | omega | decide | ((try simp +decide only [b01, b10, b11, am_up, ik, and_true, and_false, true_and, false_and, if_true, if_false, nn_eq] at *) <;> (try simp only [sw_or, sw_all, or_false, and_true, i32_lt, i32_le, i32_eq, i32_addw, i32_subw, i32_mulw, Int32.reduceToInt] at *) <;> omega) | (apply_assumption; done)) (fun e24 => ?_)
      · skip
        refine r_rv d_MA_stepNewArray_27 ?_
        first | exact kT e1 _ e6.2 | exact kT (g_lt e1) _ e6.2 | exact kS (g_nl e1) e18 _ e24.2 | exact kS e1 e18 _ e24.2
  · skip
    refine r_al0 (q := 5) d_MA_stepNewArray_4 rfl ?_
    refine r_ic (v := 4) (q := 6) d_MA_stepNewArray_5 rfl rfl ?_
    refine r_vv1 mo_MA_trap d_MA_stepNewArray_6 rfl rfl rfl (q := 9) rfl ?_
    refine sp_MA_trap (P := P) (st0 := st0) (A := A) (by first | exact c1 | exact c7 | exact i4 | exact c6 | exact i8 | assumption | (refine pc_of hP ?_; (repeat (first | assumption | exact md_refl | refine md_up ?_ rfl | refine md_fill ?_ rfl | (unfold ik; refine md_up ?_ rfl))); done) | (refine pc_oS hP ?_; (repeat (first | assumption | exact md_refl | refine md_up ?_ rfl | refine md_fill ?_ rfl | (unfold ik; refine md_up ?_ rfl))); done) | (refine pm_of hP ?_; (repeat (first | assumption | exact md_refl | refine md_up ?_ rfl | refine md_fill ?_ rfl | (unfold ik; refine md_up ?_ rfl))); done) | omega | decide | ((try simp +decide only [b01, b10, b11, am_up, ik, and_true, and_false, true_and, false_and, if_true, if_false, nn_eq] at *) <;> (try simp only [sw_or, sw_all, or_false, and_true, i32_lt, i32_le, i32_eq, i32_addw, i32_subw, i32_mulw, Int32.reduceToInt] at *) <;> omega) | (apply_assumption; done)) (by first | exact c1 | exact c7 | exact i4 | exact c6 | exact i8 | assumption | (refine pc_of hP ?_; (repeat (first | assumption | exact md_refl | refine md_up ?_ rfl | refine md_fill ?_ rfl | (unfold ik; refine md_up ?_ rfl))); done) | (refine pc_oS hP ?_; (repeat (first | assumption | exact md_refl | refine md_up ?_ rfl | refine md_fill ?_ rfl | (unfold ik; refine md_up ?_ rfl))); done) | (refine pm_of hP ?_; (repeat (first | assumption | exact md_refl | refine md_up ?_ rfl | refine md_fill ?_ rfl | (unfold ik; refine md_up ?_ rfl))); done) | omega | decide | ((try simp +decide only [b01, b10, b11, am_up, ik, and_true, and_false, true_and, false_and, if_true, if_false, nn_eq] at *) <;> (try simp only [sw_or, sw_all, or_false, and_true, i32_lt, i32_le, i32_eq, i32_addw, i32_subw, i32_mulw, Int32.reduceToInt] at *) <;> omega) | (apply_assumption; done)) (by first | exact c1 | exact c7 | exact i4 | exact c6 | exact i8 | assumption | (refine pc_of hP ?_; (repeat (first | assumption | exact md_refl | refine md_up ?_ rfl | refine md_fill ?_ rfl | (unfold ik; refine md_up ?_ rfl))); done) | (refine pc_oS hP ?_; (repeat (first | assumption | exact md_refl | refine md_up ?_ rfl | refine md_fill ?_ rfl | (unfold ik; refine md_up ?_ rfl))); done) | (refine pm_of hP ?_; (repeat (first | assumption | exact md_refl | refine md_up ?_ rfl | refine md_fill ?_ rfl | (unfold ik; refine md_up ?_ rfl))); done) | omega | decide | ((try simp +decide only [b01, b10, b11, am_up, ik, and_true, and_false, true_and, false_and, if_true, if_false, nn_eq] at *) <;> (try simp only [sw_or, sw_all, or_false, and_true, i32_lt, i32_le, i32_eq, i32_addw, i32_subw, i32_mulw, Int32.reduceToInt] at *) <;> omega) | (apply_assumption; done)) (by first | exact c1 | exact c7 | exact i4 | exact c6 | exact i8 | assumption | (refine pc_of hP ?_; (repeat (first | assumption | exact md_refl | refine md_up ?_ rfl | refine md_fill ?_ rfl | (unfold ik; refine md_up ?_ rfl))); done) | (refine pc_oS hP ?_; (repeat (first | assumption | exact md_refl | refine md_up ?_ rfl | refine md_fill ?_ rfl | (unfold ik; refine md_up ?_ rfl))); done) | (refine pm_of hP ?_; (repeat (first | assumption | exact md_refl | refine md_up ?_ rfl | refine md_fill ?_ rfl | (unfold ik; refine md_up ?_ rfl))); done) | omega | decide | ((try simp +decide only [b01, b10, b11, am_up, ik, and_true, and_false, true_and, false_and, if_true, if_false, nn_eq] at *) <;> (try simp only [sw_or, sw_all, or_false, and_true, i32_lt, i32_le, i32_eq, i32_addw, i32_subw, i32_mulw, Int32.reduceToInt] at *) <;> omega) | (apply_assumption; done)) (by first | exact c1 | exact c7 | exact i4 | exact c6 | exact i8 | assumption | (refine pc_of hP ?_; (repeat (first | assumption | exact md_refl | refine md_up ?_ rfl | refine md_fill ?_ rfl | (unfold ik; refine md_up ?_ rfl))); done) | (refine pc_oS hP ?_; (repeat (first | assumption | exact md_refl | refine md_up ?_ rfl | refine md_fill ?_ rfl | (unfold ik; refine md_up ?_ rfl))); done) | (refine pm_of hP ?_; (repeat (first | assumption | exact md_refl | refine md_up ?_ rfl | refine md_fill ?_ rfl | (unfold ik; refine md_up ?_ rfl))); done) | omega | decide | ((try simp +decide only [b01, b10, b11, am_up, ik, and_true, and_false, true_and, false_and, if_true, if_false, nn_eq] at *) <;> (try simp only [sw_or, sw_all, or_false, and_true, i32_lt, i32_le, i32_eq, i32_addw, i32_subw, i32_mulw, Int32.reduceToInt] at *) <;> omega) | (apply_assumption; done)) (by first | exact c1 | exact c7 | exact i4 | exact c6 | exact i8 | assumption | (refine pc_of hP ?_; (repeat (first | assumption | exact md_refl | refine md_up ?_ rfl | refine md_fill ?_ rfl | (unfold ik; refine md_up ?_ rfl))); done) | (refine pc_oS hP ?_; (repeat (first | assumption | exact md_refl | refine md_up ?_ rfl | refine md_fill ?_ rfl | (unfold ik; refine md_up ?_ rfl))); done) | (refine pm_of hP ?_; (repeat (first | assumption | exact md_refl | refine md_up ?_ rfl | refine md_fill ?_ rfl | (unfold ik; refine md_up ?_ rfl))); done) | omega | decide | ((try simp +decide only [b01, b10, b11, am_up, ik, and_true, and_false, true_and, false_and, if_true, if_false, nn_eq] at *) <;> (try simp only [sw_or, sw_all, or_false, and_true, i32_lt, i32_le, i32_eq, i32_addw, i32_subw, i32_mulw, Int32.reduceToInt] at *) <;> omega) | (apply_assumption; done)) (fun e6 => ?_)
    · skip
      refine r_rv d_MA_stepNewArray_9 ?_
      first | exact kT e1 _ e6.2 | exact kT (g_lt e1) _ e6.2 | exact kS (g_nl e1) e18 _ e24.2 | exact kS e1 e18 _ e24.2

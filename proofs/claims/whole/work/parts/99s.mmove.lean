/-! written by wip/whole/gen/walk.py out of 99s.mmove.txt -/
theorem new_push {P B : am_S} {n v : Int32} : o_new (o_push P B v) n = o_push P (o_new B n) v := by
  have e1 : o_push P B v 606 0 = B 606 0 := rfl
  have e2 : lf (o_new B n) = lf B := rfl
  have e3 : sx P (o_new B n) = sx P B := by
    unfold sx flo fm fb ft
    rw [new_o (b := 2163) (by decide), new_o (b := 2165) (by decide), new_o (b := 2166) (by decide)]
    rfl
  have e4 : o_new B n 2165 = B 2165 := new_o (by decide)
  funext b i
  by_cases h1 : b = 2161
  · subst h1
    rw [new_h, e1, @push_o P B v 2161 (by decide), @push_o P (o_new B n) v 2161 (by decide), new_h]
  by_cases h2 : b = 606
  · subst h2
    rw [@push_o P (o_new B n) v 606 (by decide)]
    unfold o_new
    rw [e1]
    by_cases w : i = 0
    · rw [w, am_up_eq, am_up_eq]
    · rw [am_up_ne (fun z => w z.2), am_up_ne (fun z => w z.2), am_fill_bank (by decide), am_fill_bank (by decide), am_up_bank (by decide), am_up_bank (by decide), push_o (by decide)]
  rw [new_o ⟨h2, h1⟩]
  unfold o_push
  rw [e2, e3, e4]
  by_cases h3 : b = 2165
  · subst h3
    by_cases w : i = lf B
    · rw [w, am_up_eq, am_up_eq]
    · rw [am_up_ne (fun z => w z.2), am_up_ne (fun z => w z.2), am_up_bank (by decide), am_up_bank (by decide), e4]
  · rw [am_up_bank h3, am_up_bank h3]
    by_cases h4 : b = 2162
    · subst h4
      by_cases w : i = sx P B
      · rw [w, am_up_eq, am_up_eq]
      · rw [am_up_ne (fun z => w z.2), am_up_ne (fun z => w z.2), new_o (by decide)]
    · rw [am_up_bank h4, am_up_bank h4, new_o ⟨h2, h1⟩]
abbrev am_ar (n : Int32) (K : Int32 → am_S → Prop) (pc : Nat) (a4 : Option am_V) (st : am_S) : Prop := am_AW c_MO_arrays g_MO_arrays (fun o' st' => am_ok (some .boolean) o' ∧ am_ki K o' st') pc [some (.inr (.inl 128)), some (.inl 188), some (.inl 0), some (.inl n), a4, none] [] st
theorem lp_MO_nw {n : Int32} {K : Int32 → am_S → Prop} : ∀ (d : Nat) (x : Int32) (st : am_S), 1 ≤ x.toInt → x.toInt + d = n.toInt + 1 → 0 ≤ (st 606 0).toInt → (st 606 0).toInt + 1 + n.toInt ≤ 120 → (∀ a4, am_ar n K 115 a4 (am_fill st 2161 ((st 606 0).toInt.toNat + x.toInt.toNat) d 0)) → am_ar n K 90 (some (.inl x)) st := by
  intro d
  induction d with
  | zero =>
    intro x st c1 c2 c3 c4 h
    have kA := h (some (.inl x))
    rw [am_fill_zero] at kA
    clear h
    refine r_il4 (q := 92) d_MO_arrays_90 rfl ?_
    refine r_il3 (q := 93) d_MO_arrays_92 rfl ?_
    refine r_cgt (tgt := 115) (q := 96) d_MO_arrays_93 rfl rfl (fun e93 => ?_) (fun e93 => ?_)
    · skip
      first | exact kA | (exfalso; clear kA; ((try simp +decide only [b01, b10, b11, am_up, ik, and_true, and_false, true_and, false_and, if_true, if_false, nn_eq] at *) <;> (try simp only [sw_or, sw_all, or_false, and_true, i32_lt, i32_le, i32_eq, i32_addw, i32_subw, i32_mulw, Int32.reduceToInt] at *) <;> omega))
    · skip
      first | exact kA | (exfalso; clear kA; ((try simp +decide only [b01, b10, b11, am_up, ik, and_true, and_false, true_and, false_and, if_true, if_false, nn_eq] at *) <;> (try simp only [sw_or, sw_all, or_false, and_true, i32_lt, i32_le, i32_eq, i32_addw, i32_subw, i32_mulw, Int32.reduceToInt] at *) <;> omega))
  | succ d ih =>
    intro x st c1 c2 c3 c4 h
    have ei : (st 606 0 + x).toNatClampNeg = (st 606 0).toInt.toNat + x.toInt.toNat := by
      rw [nn_eq, i32_addw]
      omega
    have vi : vp_in (st 606 0 + x) 120 := by
      refine vp_of ?_ ?_ <;> (rw [i32_addw]; omega)
    have ex : (x + 1).toInt = x.toInt + 1 := by
      rw [i32_addw]
      simp only [Int32.reduceToInt]
      omega
    have e606 : am_up st 2161 (st 606 0 + x).toNatClampNeg 0 606 0 = st 606 0 := by rw [am_up_bank (by decide)]
    have kA : am_ar n K 90 (some (.inl (x + 1))) (am_up st 2161 (st 606 0 + x).toNatClampNeg 0) := by
      refine ih _ _ (by omega) (by omega) (by rw [e606]; exact c3) (by rw [e606]; exact c4) (fun a4 => ?_)
      have := h a4
      rw [e606, ei, am_fill_step (by omega)]
      exact this
    clear ih h
    refine r_il4 (q := 92) d_MO_arrays_90 rfl ?_
    refine r_il3 (q := 93) d_MO_arrays_92 rfl ?_
    refine r_cgt (tgt := 115) (q := 96) d_MO_arrays_93 rfl rfl (fun e93 => ?_) (fun e93 => ?_)
    · skip
      first | exact kA | (exfalso; clear kA; ((try simp +decide only [b01, b10, b11, am_up, ik, and_true, and_false, true_and, false_and, if_true, if_false, nn_eq] at *) <;> (try simp only [sw_or, sw_all, or_false, and_true, i32_lt, i32_le, i32_eq, i32_addw, i32_subw, i32_mulw, Int32.reduceToInt] at *) <;> omega))
    · skip
      refine r_al0 (q := 97) d_MO_arrays_96 rfl ?_
      refine gt_MO_heap (q := 100) d_MO_arrays_97 rfl rfl ?_
      refine r_al0 (q := 101) d_MO_arrays_100 rfl ?_
      refine gt_MO_taken (q := 104) d_MO_arrays_101 rfl rfl ?_
      refine r_il4 (q := 106) d_MO_arrays_104 rfl ?_
      refine r_iadd (q := 107) d_MO_arrays_106 rfl ?_
      refine r_ic (v := 0) (q := 108) d_MO_arrays_107 rfl rfl ?_
      refine sv_161 (q := 109) d_MO_arrays_108 ?_ rfl ?_
      · exact vi
      refine r_in4 (v := 1) (q := 112) d_MO_arrays_109 rfl rfl ?_
      refine am_go (tgt := 90) d_MO_arrays_112 rfl ?_
      first | exact kA | (exfalso; clear kA; ((try simp +decide only [b01, b10, b11, am_up, ik, and_true, and_false, true_and, false_and, if_true, if_false, nn_eq] at *) <;> (try simp only [sw_or, sw_all, or_false, and_true, i32_lt, i32_le, i32_eq, i32_addw, i32_subw, i32_mulw, Int32.reduceToInt] at *) <;> omega))
theorem sp_ar188 {P st0 A : am_S} {st : am_S} {f : Int32 → am_S → Prop} (c1 : PM st0 P) (c2 : VP P) (c3 : BV P A) (c4 : 0 < fn A) (c5 : 1 ≤ sD A) (c6 : QM st0 A st) (c7 : HT P (o_pop A)) (c8 : hb A) (h1 : ∀ q : {q : am_S // (¬ o_val P A < 0 ∧ ¬ 120 - A 606 0 ≤ o_val P A) ∧ QM st0 (o_push P (o_new (o_pop A) (o_val P A)) (A 606 0)) q}, f 1 q.1) (h2 : ∀ q : {q : am_S // o_val P A < 0 ∧ QM st0 (o_trap P (fn A) 4 (o_pop A)) q}, f 0 q.1) (h3 : ∀ q : {q : am_S // (¬ o_val P A < 0 ∧ 120 - A 606 0 ≤ o_val P A) ∧ QM st0 (o_stop (o_pop A) 8) q}, f 0 q.1) : wp_MO_arrays [.inr (.inl 128), .inl 188] st (am_ki f) := by
  refine ⟨⟨rfl, Nat.le_of_ble_eq_true rfl⟩, ?_⟩
  obtain ⟨-, -, -, h10, -⟩ := top_r c3 c4
  obtain ⟨p1, p2, p3, p4⟩ := pop1 c3 c4 (by omega)
  have i0 : 0 < sD A := by omega
  have iB : sD (o_pop A) < fhe P (o_pop A) (lf (o_pop A)) := by omega
  have hh := c8
  unfold hb at hh
  have t6 : (6 : Int32) = 4 + 2 := by decide
  generalize hv' : o_val P A = n at *
  have kS : ∀ s, QM st0 (o_pop A) s → s 606 0 = A 606 0 := fun s hsq => by rw [hsq.2 606 rfl]; rfl
  have k69 : ¬ n < 0 → ∀ s, n < 120 - s 606 0 → QM st0 (o_pop A) s → am_ar n f 69 none s := by
    intro e s e2 hsq
    have es := kS s hsq
    rw [es] at e2
    have e3 : ¬ 120 - A 606 0 ≤ n := by
      rw [i32_lt] at e2
      rw [i32_le]
      omega
    obtain ⟨f1, f2, f3⟩ := new_fit c8 e e3
    have k77 : ∀ q, QM st0 (o_push P (o_pop A) (A 606 0)) q → am_ar n f 77 none q := by
      intro q hq
      have eq : q 606 0 = A 606 0 := by rw [hq.2 606 rfl]; rfl
      have vt : vp_in (q 606 0) 120 := by rw [eq]; exact vp_of (by omega) (by omega)
      have et : (q 606 0).toNatClampNeg = (A 606 0).toInt.toNat := by rw [eq, nn_eq]
      have kQ : QM st0 (o_push P (o_new (o_pop A) n) (A 606 0)) (am_up (am_fill (am_up q 2161 (A 606 0).toInt.toNat n) 2161 ((A 606 0).toInt.toNat + 1) n.toInt.toNat 0) 606 0 (A 606 0 + 1 + n)) := by
        refine ⟨md_up (md_fill (md_up hq.1 rfl) rfl) rfl, ?_⟩
        rw [← new_push]
        exact RM_up (RM_fill (RM_up hq.2))
      have kF := h1 ⟨_, ⟨e, e3⟩, kQ⟩
      simp only at kF
      have ea : A 606 0 + 1 + n = A 606 0 + (n + 1) := by
        rw [i32_eq, f3, i32_addw, i32_addw]
        simp only [Int32.reduceToInt]
        omega
      rw [ea] at kF
      have e1 : (1 : Int32).toInt.toNat = 1 := rfl
      have u6 : am_up q 2161 (A 606 0).toInt.toNat n 606 0 = A 606 0 := by rw [am_up_bank (by decide)]; exact eq
      have kL := @lp_MO_nw n f n.toInt.toNat 1 (am_up q 2161 (A 606 0).toInt.toNat n) (by decide) (by simp only [Int32.reduceToInt]; omega) (by rw [u6]; omega) (by rw [u6]; omega) (fun a4 => by
        rw [u6, e1]
        have u7 : am_fill (am_up q 2161 (A 606 0).toInt.toNat n) 2161 ((A 606 0).toInt.toNat + 1) n.toInt.toNat 0 606 0 = A 606 0 := by rw [am_fill_bank (by decide)]; exact u6
        rw [← u7] at kF
        clear h1 h2 h3
        have kF' := kF
        rw [u7] at kF'
        have kF2 : f 1 (am_up (am_fill (am_up q 2161 (A 606 0).toInt.toNat n) 2161 ((A 606 0).toInt.toNat + 1) n.toInt.toNat 0) 606 0 (am_fill (am_up q 2161 (A 606 0).toInt.toNat n) 2161 ((A 606 0).toInt.toNat + 1) n.toInt.toNat 0 606 0 + (n + 1))) := by rw [u7]; exact kF'
        refine r_al0 (q := 116) d_MO_arrays_115 rfl ?_
        refine r_dupr (q := 117) d_MO_arrays_116 rfl ?_
        refine gt_MO_taken (q := 120) d_MO_arrays_117 rfl rfl ?_
        refine r_il3 (q := 121) d_MO_arrays_120 rfl ?_
        refine r_ic (v := 1) (q := 122) d_MO_arrays_121 rfl rfl ?_
        refine r_iadd (q := 123) d_MO_arrays_122 rfl ?_
        refine r_iadd (q := 124) d_MO_arrays_123 rfl ?_
        refine pt_MO_taken (q := 127) d_MO_arrays_124 rfl rfl ?_
        refine r_ic (v := 1) (q := 128) d_MO_arrays_127 rfl rfl ?_
        refine r_rz d_MO_arrays_128 (by first | assumption | (refine pc_of hP ?_; (repeat (first | assumption | exact md_refl | refine md_up ?_ rfl | refine md_fill ?_ rfl | (unfold ik; refine md_up ?_ rfl))); done) | (refine pc_oS hP ?_; (repeat (first | assumption | exact md_refl | refine md_up ?_ rfl | refine md_fill ?_ rfl | (unfold ik; refine md_up ?_ rfl))); done) | (refine pm_of hP ?_; (repeat (first | assumption | exact md_refl | refine md_up ?_ rfl | refine md_fill ?_ rfl | (unfold ik; refine md_up ?_ rfl))); done) | omega | decide | ((try simp +decide only [b01, b10, b11, am_up, ik, and_true, and_false, true_and, false_and, if_true, if_false, nn_eq] at *) <;> (try simp only [sw_or, sw_all, or_false, and_true, i32_lt, i32_le, i32_eq, i32_addw, i32_subw, i32_mulw, Int32.reduceToInt] at *) <;> omega) | (apply_assumption; done)) ?_
        exact kF2
        )
      rw [← et] at kL
      clear h1 h2 h3 kF
      refine r_al0 (q := 78) d_MO_arrays_77 rfl ?_
      refine gt_MO_heap (q := 81) d_MO_arrays_78 rfl rfl ?_
      refine r_al0 (q := 82) d_MO_arrays_81 rfl ?_
      refine gt_MO_taken (q := 85) d_MO_arrays_82 rfl rfl ?_
      refine r_il3 (q := 86) d_MO_arrays_85 rfl ?_
      refine sv_161 (q := 87) d_MO_arrays_86 ?_ rfl ?_
      · exact vt
      refine r_ic (v := 1) (q := 88) d_MO_arrays_87 rfl rfl ?_
      refine r_is4 (q := 90) d_MO_arrays_88 rfl ?_
      exact kL
    rw [← es] at k77
    clear h1 h2 h3
    refine r_al0 (q := 70) d_MO_arrays_69 rfl ?_
    refine r_al0 (q := 71) d_MO_arrays_70 rfl ?_
    refine gt_MO_taken (q := 74) d_MO_arrays_71 rfl rfl ?_
    refine r_vv1 mo_MO_push d_MO_arrays_74 rfl rfl rfl (q := 77) rfl ?_
    refine sp_MO_push (P := P) (st0 := st0) (A := o_pop A) (by first | exact c1 | exact p1 | exact p2 | exact iB | exact hsq | assumption | (refine pc_of hP ?_; (repeat (first | assumption | exact md_refl | refine md_up ?_ rfl | refine md_fill ?_ rfl | (unfold ik; refine md_up ?_ rfl))); done) | (refine pc_oS hP ?_; (repeat (first | assumption | exact md_refl | refine md_up ?_ rfl | refine md_fill ?_ rfl | (unfold ik; refine md_up ?_ rfl))); done) | (refine pm_of hP ?_; (repeat (first | assumption | exact md_refl | refine md_up ?_ rfl | refine md_fill ?_ rfl | (unfold ik; refine md_up ?_ rfl))); done) | omega | decide | ((try simp +decide only [b01, b10, b11, am_up, ik, and_true, and_false, true_and, false_and, if_true, if_false, nn_eq] at *) <;> (try simp only [sw_or, sw_all, or_false, and_true, i32_lt, i32_le, i32_eq, i32_addw, i32_subw, i32_mulw, Int32.reduceToInt] at *) <;> omega) | (apply_assumption; done)) (by first | exact c1 | exact p1 | exact p2 | exact iB | exact hsq | assumption | (refine pc_of hP ?_; (repeat (first | assumption | exact md_refl | refine md_up ?_ rfl | refine md_fill ?_ rfl | (unfold ik; refine md_up ?_ rfl))); done) | (refine pc_oS hP ?_; (repeat (first | assumption | exact md_refl | refine md_up ?_ rfl | refine md_fill ?_ rfl | (unfold ik; refine md_up ?_ rfl))); done) | (refine pm_of hP ?_; (repeat (first | assumption | exact md_refl | refine md_up ?_ rfl | refine md_fill ?_ rfl | (unfold ik; refine md_up ?_ rfl))); done) | omega | decide | ((try simp +decide only [b01, b10, b11, am_up, ik, and_true, and_false, true_and, false_and, if_true, if_false, nn_eq] at *) <;> (try simp only [sw_or, sw_all, or_false, and_true, i32_lt, i32_le, i32_eq, i32_addw, i32_subw, i32_mulw, Int32.reduceToInt] at *) <;> omega) | (apply_assumption; done)) (by first | exact c1 | exact p1 | exact p2 | exact iB | exact hsq | assumption | (refine pc_of hP ?_; (repeat (first | assumption | exact md_refl | refine md_up ?_ rfl | refine md_fill ?_ rfl | (unfold ik; refine md_up ?_ rfl))); done) | (refine pc_oS hP ?_; (repeat (first | assumption | exact md_refl | refine md_up ?_ rfl | refine md_fill ?_ rfl | (unfold ik; refine md_up ?_ rfl))); done) | (refine pm_of hP ?_; (repeat (first | assumption | exact md_refl | refine md_up ?_ rfl | refine md_fill ?_ rfl | (unfold ik; refine md_up ?_ rfl))); done) | omega | decide | ((try simp +decide only [b01, b10, b11, am_up, ik, and_true, and_false, true_and, false_and, if_true, if_false, nn_eq] at *) <;> (try simp only [sw_or, sw_all, or_false, and_true, i32_lt, i32_le, i32_eq, i32_addw, i32_subw, i32_mulw, Int32.reduceToInt] at *) <;> omega) | (apply_assumption; done)) (by first | exact c1 | exact p1 | exact p2 | exact iB | exact hsq | assumption | (refine pc_of hP ?_; (repeat (first | assumption | exact md_refl | refine md_up ?_ rfl | refine md_fill ?_ rfl | (unfold ik; refine md_up ?_ rfl))); done) | (refine pc_oS hP ?_; (repeat (first | assumption | exact md_refl | refine md_up ?_ rfl | refine md_fill ?_ rfl | (unfold ik; refine md_up ?_ rfl))); done) | (refine pm_of hP ?_; (repeat (first | assumption | exact md_refl | refine md_up ?_ rfl | refine md_fill ?_ rfl | (unfold ik; refine md_up ?_ rfl))); done) | omega | decide | ((try simp +decide only [b01, b10, b11, am_up, ik, and_true, and_false, true_and, false_and, if_true, if_false, nn_eq] at *) <;> (try simp only [sw_or, sw_all, or_false, and_true, i32_lt, i32_le, i32_eq, i32_addw, i32_subw, i32_mulw, Int32.reduceToInt] at *) <;> omega) | (apply_assumption; done)) (by first | exact c1 | exact p1 | exact p2 | exact iB | exact hsq | assumption | (refine pc_of hP ?_; (repeat (first | assumption | exact md_refl | refine md_up ?_ rfl | refine md_fill ?_ rfl | (unfold ik; refine md_up ?_ rfl))); done) | (refine pc_oS hP ?_; (repeat (first | assumption | exact md_refl | refine md_up ?_ rfl | refine md_fill ?_ rfl | (unfold ik; refine md_up ?_ rfl))); done) | (refine pm_of hP ?_; (repeat (first | assumption | exact md_refl | refine md_up ?_ rfl | refine md_fill ?_ rfl | (unfold ik; refine md_up ?_ rfl))); done) | omega | decide | ((try simp +decide only [b01, b10, b11, am_up, ik, and_true, and_false, true_and, false_and, if_true, if_false, nn_eq] at *) <;> (try simp only [sw_or, sw_all, or_false, and_true, i32_lt, i32_le, i32_eq, i32_addw, i32_subw, i32_mulw, Int32.reduceToInt] at *) <;> omega) | (apply_assumption; done)) (by first | exact c1 | exact p1 | exact p2 | exact iB | exact hsq | assumption | (refine pc_of hP ?_; (repeat (first | assumption | exact md_refl | refine md_up ?_ rfl | refine md_fill ?_ rfl | (unfold ik; refine md_up ?_ rfl))); done) | (refine pc_oS hP ?_; (repeat (first | assumption | exact md_refl | refine md_up ?_ rfl | refine md_fill ?_ rfl | (unfold ik; refine md_up ?_ rfl))); done) | (refine pm_of hP ?_; (repeat (first | assumption | exact md_refl | refine md_up ?_ rfl | refine md_fill ?_ rfl | (unfold ik; refine md_up ?_ rfl))); done) | omega | decide | ((try simp +decide only [b01, b10, b11, am_up, ik, and_true, and_false, true_and, false_and, if_true, if_false, nn_eq] at *) <;> (try simp only [sw_or, sw_all, or_false, and_true, i32_lt, i32_le, i32_eq, i32_addw, i32_subw, i32_mulw, Int32.reduceToInt] at *) <;> omega) | (apply_assumption; done)) (fun e74 => ?_)
    · skip
      exact k77 _ e74.2
  have k38 : ∀ s, QM st0 (o_pop A) s → am_ar n f 38 none s := by
    intro s hsq
    have es := kS s hsq
    have kT : n < 0 → ∀ q, QM st0 (o_trap P (fn (o_pop A)) 4 (o_pop A)) q → f 0 q := fun e q hq => h2 ⟨q, e, hq⟩
    have kP : ¬ n < 0 → ¬ n < 120 - s 606 0 → ∀ q, QM st0 (o_stop (o_pop A) 8) q → f 0 q := by
      intro e e2 q hq
      refine h3 ⟨q, ⟨e, ?_⟩, hq⟩
      rw [es, i32_lt] at e2
      rw [i32_le]
      omega
    clear h1 h2 h3
    refine r_il3 (q := 39) d_MO_arrays_38 rfl ?_
    refine r_zge (tgt := 50) (q := 42) d_MO_arrays_39 rfl rfl (fun e39 => ?_) (fun e39 => ?_)
    · skip
      refine r_il3 (q := 51) d_MO_arrays_50 rfl ?_
      refine r_bp (v := 120) (q := 53) d_MO_arrays_51 rfl rfl ?_
      refine r_al0 (q := 54) d_MO_arrays_53 rfl ?_
      refine gt_MO_taken (q := 57) d_MO_arrays_54 rfl rfl ?_
      refine r_isub (q := 58) d_MO_arrays_57 rfl ?_
      refine r_clt (tgt := 69) (q := 61) d_MO_arrays_58 rfl rfl (fun e58 => ?_) (fun e58 => ?_)
      · skip
        first | exact k69 e39 s e58 hsq | exact k69 (g_nl e39) s e58 hsq
      · skip
        refine r_al0 (q := 62) d_MO_arrays_61 rfl ?_
        refine r_bp (v := 8) (q := 64) d_MO_arrays_62 rfl rfl ?_
        refine r_vv1 mo_MO_stop d_MO_arrays_64 rfl rfl rfl (q := 67) rfl ?_
        refine sp_MO_stop (st0 := st0) (A := o_pop A) (by first | exact c1 | exact p1 | exact c7 | exact t6 | exact hsq | assumption | (refine pc_of hP ?_; (repeat (first | assumption | exact md_refl | refine md_up ?_ rfl | refine md_fill ?_ rfl | (unfold ik; refine md_up ?_ rfl))); done) | (refine pc_oS hP ?_; (repeat (first | assumption | exact md_refl | refine md_up ?_ rfl | refine md_fill ?_ rfl | (unfold ik; refine md_up ?_ rfl))); done) | (refine pm_of hP ?_; (repeat (first | assumption | exact md_refl | refine md_up ?_ rfl | refine md_fill ?_ rfl | (unfold ik; refine md_up ?_ rfl))); done) | omega | decide | ((try simp +decide only [b01, b10, b11, am_up, ik, and_true, and_false, true_and, false_and, if_true, if_false, nn_eq] at *) <;> (try simp only [sw_or, sw_all, or_false, and_true, i32_lt, i32_le, i32_eq, i32_addw, i32_subw, i32_mulw, Int32.reduceToInt] at *) <;> omega) | (apply_assumption; done)) (fun e64 => ?_)
        · skip
          refine r_ic (v := 0) (q := 68) d_MO_arrays_67 rfl rfl ?_
          refine r_rz d_MO_arrays_68 (by first | exact c1 | exact p1 | exact c7 | exact t6 | exact hsq | assumption | (refine pc_of hP ?_; (repeat (first | assumption | exact md_refl | refine md_up ?_ rfl | refine md_fill ?_ rfl | (unfold ik; refine md_up ?_ rfl))); done) | (refine pc_oS hP ?_; (repeat (first | assumption | exact md_refl | refine md_up ?_ rfl | refine md_fill ?_ rfl | (unfold ik; refine md_up ?_ rfl))); done) | (refine pm_of hP ?_; (repeat (first | assumption | exact md_refl | refine md_up ?_ rfl | refine md_fill ?_ rfl | (unfold ik; refine md_up ?_ rfl))); done) | omega | decide | ((try simp +decide only [b01, b10, b11, am_up, ik, and_true, and_false, true_and, false_and, if_true, if_false, nn_eq] at *) <;> (try simp only [sw_or, sw_all, or_false, and_true, i32_lt, i32_le, i32_eq, i32_addw, i32_subw, i32_mulw, Int32.reduceToInt] at *) <;> omega) | (apply_assumption; done)) ?_
          first | exact kT e39 _ e45.2 | exact kT (g_lt e39) _ e45.2 | exact kP e39 e58 _ e64.2 | exact kP (g_nl e39) e58 _ e64.2
    · skip
      refine r_al0 (q := 43) d_MO_arrays_42 rfl ?_
      refine r_bp (v := 6) (q := 45) d_MO_arrays_43 rfl rfl ?_
      refine r_vv1 mo_MO_trap d_MO_arrays_45 rfl rfl rfl (q := 48) rfl ?_
      refine sp_MO_trap (P := P) (st0 := st0) (A := o_pop A) (k := 4) (by first | exact c1 | exact p1 | exact c7 | exact t6 | exact hsq | assumption | (refine pc_of hP ?_; (repeat (first | assumption | exact md_refl | refine md_up ?_ rfl | refine md_fill ?_ rfl | (unfold ik; refine md_up ?_ rfl))); done) | (refine pc_oS hP ?_; (repeat (first | assumption | exact md_refl | refine md_up ?_ rfl | refine md_fill ?_ rfl | (unfold ik; refine md_up ?_ rfl))); done) | (refine pm_of hP ?_; (repeat (first | assumption | exact md_refl | refine md_up ?_ rfl | refine md_fill ?_ rfl | (unfold ik; refine md_up ?_ rfl))); done) | omega | decide | ((try simp +decide only [b01, b10, b11, am_up, ik, and_true, and_false, true_and, false_and, if_true, if_false, nn_eq] at *) <;> (try simp only [sw_or, sw_all, or_false, and_true, i32_lt, i32_le, i32_eq, i32_addw, i32_subw, i32_mulw, Int32.reduceToInt] at *) <;> omega) | (apply_assumption; done)) (by first | exact c1 | exact p1 | exact c7 | exact t6 | exact hsq | assumption | (refine pc_of hP ?_; (repeat (first | assumption | exact md_refl | refine md_up ?_ rfl | refine md_fill ?_ rfl | (unfold ik; refine md_up ?_ rfl))); done) | (refine pc_oS hP ?_; (repeat (first | assumption | exact md_refl | refine md_up ?_ rfl | refine md_fill ?_ rfl | (unfold ik; refine md_up ?_ rfl))); done) | (refine pm_of hP ?_; (repeat (first | assumption | exact md_refl | refine md_up ?_ rfl | refine md_fill ?_ rfl | (unfold ik; refine md_up ?_ rfl))); done) | omega | decide | ((try simp +decide only [b01, b10, b11, am_up, ik, and_true, and_false, true_and, false_and, if_true, if_false, nn_eq] at *) <;> (try simp only [sw_or, sw_all, or_false, and_true, i32_lt, i32_le, i32_eq, i32_addw, i32_subw, i32_mulw, Int32.reduceToInt] at *) <;> omega) | (apply_assumption; done)) (by first | exact c1 | exact p1 | exact c7 | exact t6 | exact hsq | assumption | (refine pc_of hP ?_; (repeat (first | assumption | exact md_refl | refine md_up ?_ rfl | refine md_fill ?_ rfl | (unfold ik; refine md_up ?_ rfl))); done) | (refine pc_oS hP ?_; (repeat (first | assumption | exact md_refl | refine md_up ?_ rfl | refine md_fill ?_ rfl | (unfold ik; refine md_up ?_ rfl))); done) | (refine pm_of hP ?_; (repeat (first | assumption | exact md_refl | refine md_up ?_ rfl | refine md_fill ?_ rfl | (unfold ik; refine md_up ?_ rfl))); done) | omega | decide | ((try simp +decide only [b01, b10, b11, am_up, ik, and_true, and_false, true_and, false_and, if_true, if_false, nn_eq] at *) <;> (try simp only [sw_or, sw_all, or_false, and_true, i32_lt, i32_le, i32_eq, i32_addw, i32_subw, i32_mulw, Int32.reduceToInt] at *) <;> omega) | (apply_assumption; done)) (by first | exact c1 | exact p1 | exact c7 | exact t6 | exact hsq | assumption | (refine pc_of hP ?_; (repeat (first | assumption | exact md_refl | refine md_up ?_ rfl | refine md_fill ?_ rfl | (unfold ik; refine md_up ?_ rfl))); done) | (refine pc_oS hP ?_; (repeat (first | assumption | exact md_refl | refine md_up ?_ rfl | refine md_fill ?_ rfl | (unfold ik; refine md_up ?_ rfl))); done) | (refine pm_of hP ?_; (repeat (first | assumption | exact md_refl | refine md_up ?_ rfl | refine md_fill ?_ rfl | (unfold ik; refine md_up ?_ rfl))); done) | omega | decide | ((try simp +decide only [b01, b10, b11, am_up, ik, and_true, and_false, true_and, false_and, if_true, if_false, nn_eq] at *) <;> (try simp only [sw_or, sw_all, or_false, and_true, i32_lt, i32_le, i32_eq, i32_addw, i32_subw, i32_mulw, Int32.reduceToInt] at *) <;> omega) | (apply_assumption; done)) (by first | exact c1 | exact p1 | exact c7 | exact t6 | exact hsq | assumption | (refine pc_of hP ?_; (repeat (first | assumption | exact md_refl | refine md_up ?_ rfl | refine md_fill ?_ rfl | (unfold ik; refine md_up ?_ rfl))); done) | (refine pc_oS hP ?_; (repeat (first | assumption | exact md_refl | refine md_up ?_ rfl | refine md_fill ?_ rfl | (unfold ik; refine md_up ?_ rfl))); done) | (refine pm_of hP ?_; (repeat (first | assumption | exact md_refl | refine md_up ?_ rfl | refine md_fill ?_ rfl | (unfold ik; refine md_up ?_ rfl))); done) | omega | decide | ((try simp +decide only [b01, b10, b11, am_up, ik, and_true, and_false, true_and, false_and, if_true, if_false, nn_eq] at *) <;> (try simp only [sw_or, sw_all, or_false, and_true, i32_lt, i32_le, i32_eq, i32_addw, i32_subw, i32_mulw, Int32.reduceToInt] at *) <;> omega) | (apply_assumption; done)) (by first | exact c1 | exact p1 | exact c7 | exact t6 | exact hsq | assumption | (refine pc_of hP ?_; (repeat (first | assumption | exact md_refl | refine md_up ?_ rfl | refine md_fill ?_ rfl | (unfold ik; refine md_up ?_ rfl))); done) | (refine pc_oS hP ?_; (repeat (first | assumption | exact md_refl | refine md_up ?_ rfl | refine md_fill ?_ rfl | (unfold ik; refine md_up ?_ rfl))); done) | (refine pm_of hP ?_; (repeat (first | assumption | exact md_refl | refine md_up ?_ rfl | refine md_fill ?_ rfl | (unfold ik; refine md_up ?_ rfl))); done) | omega | decide | ((try simp +decide only [b01, b10, b11, am_up, ik, and_true, and_false, true_and, false_and, if_true, if_false, nn_eq] at *) <;> (try simp only [sw_or, sw_all, or_false, and_true, i32_lt, i32_le, i32_eq, i32_addw, i32_subw, i32_mulw, Int32.reduceToInt] at *) <;> omega) | (apply_assumption; done)) (fun e45 => ?_)
      · skip
        refine r_ic (v := 0) (q := 49) d_MO_arrays_48 rfl rfl ?_
        refine r_rz d_MO_arrays_49 (by first | exact c1 | exact p1 | exact c7 | exact t6 | exact hsq | assumption | (refine pc_of hP ?_; (repeat (first | assumption | exact md_refl | refine md_up ?_ rfl | refine md_fill ?_ rfl | (unfold ik; refine md_up ?_ rfl))); done) | (refine pc_oS hP ?_; (repeat (first | assumption | exact md_refl | refine md_up ?_ rfl | refine md_fill ?_ rfl | (unfold ik; refine md_up ?_ rfl))); done) | (refine pm_of hP ?_; (repeat (first | assumption | exact md_refl | refine md_up ?_ rfl | refine md_fill ?_ rfl | (unfold ik; refine md_up ?_ rfl))); done) | omega | decide | ((try simp +decide only [b01, b10, b11, am_up, ik, and_true, and_false, true_and, false_and, if_true, if_false, nn_eq] at *) <;> (try simp only [sw_or, sw_all, or_false, and_true, i32_lt, i32_le, i32_eq, i32_addw, i32_subw, i32_mulw, Int32.reduceToInt] at *) <;> omega) | (apply_assumption; done)) ?_
        first | exact kT e39 _ e45.2 | exact kT (g_lt e39) _ e45.2 | exact kP e39 e58 _ e64.2 | exact kP (g_nl e39) e58 _ e64.2
  clear k69 h1 h2 h3
  rw [← hv'] at k38
  refine r_il1 (q := 1) d_MO_arrays_0 rfl ?_
  refine r_bp (v := 79) (q := 3) d_MO_arrays_1 rfl rfl ?_
  refine r_cne (tgt := 13) (q := 6) d_MO_arrays_3 rfl rfl (fun e3 => ?_) (fun e3 => by exfalso; revert e3; decide)
  refine r_ic (v := 0) (q := 14) d_MO_arrays_13 rfl rfl ?_
  refine r_is2 (q := 15) d_MO_arrays_14 rfl ?_
  refine r_il1 (q := 16) d_MO_arrays_15 rfl ?_
  refine r_sp (v := 190) (q := 19) d_MO_arrays_16 rfl rfl ?_
  refine r_cne (tgt := 26) (q := 22) d_MO_arrays_19 rfl rfl (fun e19 => ?_) (fun e19 => by exfalso; revert e19; decide)
  refine r_al0 (q := 27) d_MO_arrays_26 rfl ?_
  refine r_vi0 mo_MO_pop d_MO_arrays_27 rfl rfl rfl (q := 30) rfl ?_
  refine sp_MO_pop (P := P) (st0 := st0) (A := A) (by first | exact c1 | exact i0 | exact c6 | assumption | (refine pc_of hP ?_; (repeat (first | assumption | exact md_refl | refine md_up ?_ rfl | refine md_fill ?_ rfl | (unfold ik; refine md_up ?_ rfl))); done) | (refine pc_oS hP ?_; (repeat (first | assumption | exact md_refl | refine md_up ?_ rfl | refine md_fill ?_ rfl | (unfold ik; refine md_up ?_ rfl))); done) | (refine pm_of hP ?_; (repeat (first | assumption | exact md_refl | refine md_up ?_ rfl | refine md_fill ?_ rfl | (unfold ik; refine md_up ?_ rfl))); done) | omega | decide | ((try simp +decide only [b01, b10, b11, am_up, ik, and_true, and_false, true_and, false_and, if_true, if_false, nn_eq] at *) <;> (try simp only [sw_or, sw_all, or_false, and_true, i32_lt, i32_le, i32_eq, i32_addw, i32_subw, i32_mulw, Int32.reduceToInt] at *) <;> omega) | (apply_assumption; done)) (by first | exact c1 | exact i0 | exact c6 | assumption | (refine pc_of hP ?_; (repeat (first | assumption | exact md_refl | refine md_up ?_ rfl | refine md_fill ?_ rfl | (unfold ik; refine md_up ?_ rfl))); done) | (refine pc_oS hP ?_; (repeat (first | assumption | exact md_refl | refine md_up ?_ rfl | refine md_fill ?_ rfl | (unfold ik; refine md_up ?_ rfl))); done) | (refine pm_of hP ?_; (repeat (first | assumption | exact md_refl | refine md_up ?_ rfl | refine md_fill ?_ rfl | (unfold ik; refine md_up ?_ rfl))); done) | omega | decide | ((try simp +decide only [b01, b10, b11, am_up, ik, and_true, and_false, true_and, false_and, if_true, if_false, nn_eq] at *) <;> (try simp only [sw_or, sw_all, or_false, and_true, i32_lt, i32_le, i32_eq, i32_addw, i32_subw, i32_mulw, Int32.reduceToInt] at *) <;> omega) | (apply_assumption; done)) (by first | exact c1 | exact i0 | exact c6 | assumption | (refine pc_of hP ?_; (repeat (first | assumption | exact md_refl | refine md_up ?_ rfl | refine md_fill ?_ rfl | (unfold ik; refine md_up ?_ rfl))); done) | (refine pc_oS hP ?_; (repeat (first | assumption | exact md_refl | refine md_up ?_ rfl | refine md_fill ?_ rfl | (unfold ik; refine md_up ?_ rfl))); done) | (refine pm_of hP ?_; (repeat (first | assumption | exact md_refl | refine md_up ?_ rfl | refine md_fill ?_ rfl | (unfold ik; refine md_up ?_ rfl))); done) | omega | decide | ((try simp +decide only [b01, b10, b11, am_up, ik, and_true, and_false, true_and, false_and, if_true, if_false, nn_eq] at *) <;> (try simp only [sw_or, sw_all, or_false, and_true, i32_lt, i32_le, i32_eq, i32_addw, i32_subw, i32_mulw, Int32.reduceToInt] at *) <;> omega) | (apply_assumption; done)) (by first | exact c1 | exact i0 | exact c6 | assumption | (refine pc_of hP ?_; (repeat (first | assumption | exact md_refl | refine md_up ?_ rfl | refine md_fill ?_ rfl | (unfold ik; refine md_up ?_ rfl))); done) | (refine pc_oS hP ?_; (repeat (first | assumption | exact md_refl | refine md_up ?_ rfl | refine md_fill ?_ rfl | (unfold ik; refine md_up ?_ rfl))); done) | (refine pm_of hP ?_; (repeat (first | assumption | exact md_refl | refine md_up ?_ rfl | refine md_fill ?_ rfl | (unfold ik; refine md_up ?_ rfl))); done) | omega | decide | ((try simp +decide only [b01, b10, b11, am_up, ik, and_true, and_false, true_and, false_and, if_true, if_false, nn_eq] at *) <;> (try simp only [sw_or, sw_all, or_false, and_true, i32_lt, i32_le, i32_eq, i32_addw, i32_subw, i32_mulw, Int32.reduceToInt] at *) <;> omega) | (apply_assumption; done)) (by first | exact c1 | exact i0 | exact c6 | assumption | (refine pc_of hP ?_; (repeat (first | assumption | exact md_refl | refine md_up ?_ rfl | refine md_fill ?_ rfl | (unfold ik; refine md_up ?_ rfl))); done) | (refine pc_oS hP ?_; (repeat (first | assumption | exact md_refl | refine md_up ?_ rfl | refine md_fill ?_ rfl | (unfold ik; refine md_up ?_ rfl))); done) | (refine pm_of hP ?_; (repeat (first | assumption | exact md_refl | refine md_up ?_ rfl | refine md_fill ?_ rfl | (unfold ik; refine md_up ?_ rfl))); done) | omega | decide | ((try simp +decide only [b01, b10, b11, am_up, ik, and_true, and_false, true_and, false_and, if_true, if_false, nn_eq] at *) <;> (try simp only [sw_or, sw_all, or_false, and_true, i32_lt, i32_le, i32_eq, i32_addw, i32_subw, i32_mulw, Int32.reduceToInt] at *) <;> omega) | (apply_assumption; done)) (by first | exact c1 | exact i0 | exact c6 | assumption | (refine pc_of hP ?_; (repeat (first | assumption | exact md_refl | refine md_up ?_ rfl | refine md_fill ?_ rfl | (unfold ik; refine md_up ?_ rfl))); done) | (refine pc_oS hP ?_; (repeat (first | assumption | exact md_refl | refine md_up ?_ rfl | refine md_fill ?_ rfl | (unfold ik; refine md_up ?_ rfl))); done) | (refine pm_of hP ?_; (repeat (first | assumption | exact md_refl | refine md_up ?_ rfl | refine md_fill ?_ rfl | (unfold ik; refine md_up ?_ rfl))); done) | omega | decide | ((try simp +decide only [b01, b10, b11, am_up, ik, and_true, and_false, true_and, false_and, if_true, if_false, nn_eq] at *) <;> (try simp only [sw_or, sw_all, or_false, and_true, i32_lt, i32_le, i32_eq, i32_addw, i32_subw, i32_mulw, Int32.reduceToInt] at *) <;> omega) | (apply_assumption; done)) (fun e27 => ?_)
  · skip
    refine r_is3 (q := 31) d_MO_arrays_30 rfl ?_
    refine r_il1 (q := 32) d_MO_arrays_31 rfl ?_
    refine r_sp (v := 188) (q := 35) d_MO_arrays_32 rfl rfl ?_
    refine r_cne (tgt := 129) (q := 38) d_MO_arrays_35 rfl rfl (fun e35 => by exfalso; revert e35; decide) (fun e35 => ?_)
    exact k38 _ e27.2
theorem sp_MO_small {P : am_S} {x : Int32} {st : am_S} {f : Int32 → am_S → Prop} (c1 : PM st P) (c2 : VP P) (c3 : 0 ≤ x.toInt ∧ x.toInt < 200) (h : f (st 2142 x.toNatClampNeg).toInt8.toInt32 st) : wp_MO_small [.inr (.inl 128), .inl x] st (am_ki f) := by
  have b0 := c2.2.1 x.toNatClampNeg
  rw [← c1.1.1] at b0
  have key : ∀ b : Fin 256, (127 < nI b.val → nI b.val - 256 = (nI b.val).toInt8.toInt32) ∧ (¬ 127 < nI b.val → nI b.val = (nI b.val).toInt8.toInt32) := by decide +kernel
  have k2 := by_dec (Q := fun b => (127 < b → b - 256 = b.toInt8.toInt32) ∧ (¬ 127 < b → b = b.toInt8.toInt32)) key b0.1 b0.2
  refine sr_MO_small c3.1 c3.2 (fun k => ?_) (fun k => ?_)
  · rw [k2.1 k]
    exact h
  · have := k2.2 k
    have e : f (st 2142 x.toNatClampNeg) st ↔ f (st 2142 x.toNatClampNeg).toInt8.toInt32 st := by rw [← this]
    exact e.mpr h

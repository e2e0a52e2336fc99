/-! written by wip/whole/gen/walk.py out of 99q.mcall.txt -/
theorem sp_MO_end {P st0 A : am_S} {h v : Int32} {st : am_S} {f : am_S → Prop} (c1 : PM st0 P) (c2 : VP P) (c3 : BV P A) (c4 : 0 < fn A) (c5 : lvC P A) (c6 : QM st0 A st) (c7 : (h = 1 ∧ ¬ P 6 (fm A (lf A)) = 0) ∨ (h = 0 ∧ P 6 (fm A (lf A)) = 0 ∧ v = 0)) (h1 : ∀ q : {q : am_S // QM st0 (o_lv P A v) q}, f q.1) : wp_MO_end [.inr (.inl 128), .inl h, .inl v] st (am_kv f) := by
  refine ⟨⟨rfl, Nat.le_of_ble_eq_true rfl⟩, ?_⟩
  have bc := BV_close c3 c4
  obtain ⟨n1, n2⟩ := close_n c3 c4
  have e610 : ∀ s, QM st0 (o_close A) s → (s 610 0).toInt = (fn A : Int) - 1 := by
    intro s hsq
    rw [hsq.2 610 rfl, fn_I n2, n1]
    omega
  have z0 : ∀ s, QM st0 (o_close A) s → s 610 0 = 0 → fn A = 1 := by
    intro s hsq q
    have := e610 s hsq
    rw [q] at this
    simp only [Int32.reduceToInt] at this
    omega
  have z1 : ∀ s, QM st0 (o_close A) s → ¬ s 610 0 = 0 → 1 < fn A := by
    intro s hsq q
    have h9 := e610 s hsq
    rw [i32_eq, h9] at q
    simp only [Int32.reduceToInt] at q
    omega
  have kZ : fn A = 1 → ∀ s, QM st0 (o_close A) s → ∀ w, w = v → QM st0 (am_up (o_close A) 604 0 v) (am_up s 604 0 w) ∧ ∀ q, QM st0 (o_stop (am_up (o_close A) 604 0 v) 2) q → f q := by
    intro e s hsq w hw
    subst hw
    refine ⟨⟨md_up hsq.1 rfl, RM_up hsq.2⟩, fun q hq => h1 ⟨q, ?_⟩⟩
    unfold o_lv
    rw [if_pos e]
    exact hq
  have kG : 1 < fn A → ∀ B, (P 6 (fm A (lf A)) = 0 ∧ B = o_close A) ∨ (¬ P 6 (fm A (lf A)) = 0 ∧ B = o_push P (o_close A) v) → ∀ s, QM st0 B s → am_AW c_MO_end g_MO_end (fun o st' => am_ok none o ∧ am_kv f o st') 39 [some (.inr (.inl 128)), some (.inl h), some (.inl v)] [] s := by
    intro e B hBB s hsq
    have bB : BV P B ∧ 0 < fn B := by
      rcases hBB with ⟨q, w⟩ | ⟨q, w⟩
      · rw [w]
        exact ⟨bc, by omega⟩
      · rw [w]
        have := push1 (v := v) bc (by omega) (c5 e q)
        exact ⟨this.1, this.2.1⟩
    obtain ⟨w1, w2, -⟩ := RM_tw (pm_oR c1 hsq.1) c2 bB.1 hsq.2 bB.2
    have vl : vp_in (s 610 0 - 1) 80 := vp_of w2.1 w2.2
    have e1 : s 2164 (lf B) = B 2164 (lf B) := by rw [hsq.2 2164 rfl]
    have kQ : RM (am_up s 2164 (lf B) (B 2164 (lf B) + 3)) (o_go B 3) := RM_up hsq.2
    have kF : f (am_up s 2164 (lf B) (B 2164 (lf B) + 3)) := by
      refine h1 ⟨_, md_up hsq.1 rfl, ?_⟩
      unfold o_lv
      rw [if_neg (by omega)]
      rcases hBB with ⟨q, w⟩ | ⟨q, w⟩
      · rw [if_pos q, ← w]
        exact kQ
      · rw [if_neg q, ← w]
        exact kQ
    rw [← e1, ← w1] at kF
    clear h1 kQ
    refine r_al0 (q := 40) d_MO_end_39 rfl ?_
    refine gt_MO_framePlace (q := 43) d_MO_end_40 rfl rfl ?_
    refine r_al0 (q := 44) d_MO_end_43 rfl ?_
    refine r_vi0 mo_MO_latest d_MO_end_44 rfl rfl rfl (q := 47) rfl ?_
    refine sp_MO_latest ?_
    refine r_dup2 (q := 48) d_MO_end_47 rfl ?_
    refine ld_164 (q := 49) d_MO_end_48 ?_ rfl ?_
    · exact vl
    refine r_ic (v := 3) (q := 50) d_MO_end_49 rfl rfl ?_
    refine r_iadd (q := 51) d_MO_end_50 rfl ?_
    refine sv_164 (q := 52) d_MO_end_51 ?_ rfl ?_
    · exact vl
    refine r_rv d_MO_end_52 ?_
    exact kF
  clear h1
  rcases c7 with ⟨h7, h8⟩ | ⟨h7, h8, h9⟩
  · subst h7
    have k4 : ∀ s, QM st0 (o_close A) s → am_AW c_MO_end g_MO_end (fun o st' => am_ok none o ∧ am_kv f o st') 4 [some (.inr (.inl 128)), some (.inl 1), some (.inl v)] [] s := by
      intro s hsq
      have i1 : ¬ s 610 0 = 0 → 0 < fn (o_close A) := fun q => by have := z1 s hsq q; omega
      refine r_al0 (q := 5) d_MO_end_4 rfl ?_
      refine gt_MO_frames (q := 8) d_MO_end_5 rfl rfl ?_
      refine r_zne (tgt := 30) (q := 11) d_MO_end_8 rfl rfl (fun e8 => ?_) (fun e8 => ?_)
      · skip
        refine r_il1 (q := 31) d_MO_end_30 rfl ?_
        refine r_zeq (tgt := 39) (q := 34) d_MO_end_31 rfl rfl (fun e31 => by exfalso; revert e31; decide) (fun e31 => ?_)
        refine r_al0 (q := 35) d_MO_end_34 rfl ?_
        refine r_il2 (q := 36) d_MO_end_35 rfl ?_
        refine r_vv1 mo_MO_push d_MO_end_36 rfl rfl rfl (q := 39) rfl ?_
        refine sp_MO_push (P := P) (st0 := st0) (A := o_close A) (by first | exact c1 | exact bc | exact i1 e8 | exact c5 (z1 s hsq e8) h8 | exact hsq | exact (kZ (z0 s hsq e8) s hsq _ rfl).1 | assumption | (refine pc_of hP ?_; (repeat (first | assumption | exact md_refl | refine md_up ?_ rfl | refine md_fill ?_ rfl | (unfold ik; refine md_up ?_ rfl))); done) | (refine pc_oS hP ?_; (repeat (first | assumption | exact md_refl | refine md_up ?_ rfl | refine md_fill ?_ rfl | (unfold ik; refine md_up ?_ rfl))); done) | (refine pm_of hP ?_; (repeat (first | assumption | exact md_refl | refine md_up ?_ rfl | refine md_fill ?_ rfl | (unfold ik; refine md_up ?_ rfl))); done) | omega | decide | ((try simp +decide only [b01, b10, b11, am_up, ik, and_true, and_false, true_and, false_and, if_true, if_false, nn_eq] at *) <;> (try simp only [sw_or, sw_all, or_false, and_true, i32_lt, i32_le, i32_eq, i32_addw, i32_subw, i32_mulw, Int32.reduceToInt] at *) <;> omega) | (apply_assumption; done)) (by first | exact c1 | exact bc | exact i1 e8 | exact c5 (z1 s hsq e8) h8 | exact hsq | exact (kZ (z0 s hsq e8) s hsq _ rfl).1 | assumption | (refine pc_of hP ?_; (repeat (first | assumption | exact md_refl | refine md_up ?_ rfl | refine md_fill ?_ rfl | (unfold ik; refine md_up ?_ rfl))); done) | (refine pc_oS hP ?_; (repeat (first | assumption | exact md_refl | refine md_up ?_ rfl | refine md_fill ?_ rfl | (unfold ik; refine md_up ?_ rfl))); done) | (refine pm_of hP ?_; (repeat (first | assumption | exact md_refl | refine md_up ?_ rfl | refine md_fill ?_ rfl | (unfold ik; refine md_up ?_ rfl))); done) | omega | decide | ((try simp +decide only [b01, b10, b11, am_up, ik, and_true, and_false, true_and, false_and, if_true, if_false, nn_eq] at *) <;> (try simp only [sw_or, sw_all, or_false, and_true, i32_lt, i32_le, i32_eq, i32_addw, i32_subw, i32_mulw, Int32.reduceToInt] at *) <;> omega) | (apply_assumption; done)) (by first | exact c1 | exact bc | exact i1 e8 | exact c5 (z1 s hsq e8) h8 | exact hsq | exact (kZ (z0 s hsq e8) s hsq _ rfl).1 | assumption | (refine pc_of hP ?_; (repeat (first | assumption | exact md_refl | refine md_up ?_ rfl | refine md_fill ?_ rfl | (unfold ik; refine md_up ?_ rfl))); done) | (refine pc_oS hP ?_; (repeat (first | assumption | exact md_refl | refine md_up ?_ rfl | refine md_fill ?_ rfl | (unfold ik; refine md_up ?_ rfl))); done) | (refine pm_of hP ?_; (repeat (first | assumption | exact md_refl | refine md_up ?_ rfl | refine md_fill ?_ rfl | (unfold ik; refine md_up ?_ rfl))); done) | omega | decide | ((try simp +decide only [b01, b10, b11, am_up, ik, and_true, and_false, true_and, false_and, if_true, if_false, nn_eq] at *) <;> (try simp only [sw_or, sw_all, or_false, and_true, i32_lt, i32_le, i32_eq, i32_addw, i32_subw, i32_mulw, Int32.reduceToInt] at *) <;> omega) | (apply_assumption; done)) (by first | exact c1 | exact bc | exact i1 e8 | exact c5 (z1 s hsq e8) h8 | exact hsq | exact (kZ (z0 s hsq e8) s hsq _ rfl).1 | assumption | (refine pc_of hP ?_; (repeat (first | assumption | exact md_refl | refine md_up ?_ rfl | refine md_fill ?_ rfl | (unfold ik; refine md_up ?_ rfl))); done) | (refine pc_oS hP ?_; (repeat (first | assumption | exact md_refl | refine md_up ?_ rfl | refine md_fill ?_ rfl | (unfold ik; refine md_up ?_ rfl))); done) | (refine pm_of hP ?_; (repeat (first | assumption | exact md_refl | refine md_up ?_ rfl | refine md_fill ?_ rfl | (unfold ik; refine md_up ?_ rfl))); done) | omega | decide | ((try simp +decide only [b01, b10, b11, am_up, ik, and_true, and_false, true_and, false_and, if_true, if_false, nn_eq] at *) <;> (try simp only [sw_or, sw_all, or_false, and_true, i32_lt, i32_le, i32_eq, i32_addw, i32_subw, i32_mulw, Int32.reduceToInt] at *) <;> omega) | (apply_assumption; done)) (by first | exact c1 | exact bc | exact i1 e8 | exact c5 (z1 s hsq e8) h8 | exact hsq | exact (kZ (z0 s hsq e8) s hsq _ rfl).1 | assumption | (refine pc_of hP ?_; (repeat (first | assumption | exact md_refl | refine md_up ?_ rfl | refine md_fill ?_ rfl | (unfold ik; refine md_up ?_ rfl))); done) | (refine pc_oS hP ?_; (repeat (first | assumption | exact md_refl | refine md_up ?_ rfl | refine md_fill ?_ rfl | (unfold ik; refine md_up ?_ rfl))); done) | (refine pm_of hP ?_; (repeat (first | assumption | exact md_refl | refine md_up ?_ rfl | refine md_fill ?_ rfl | (unfold ik; refine md_up ?_ rfl))); done) | omega | decide | ((try simp +decide only [b01, b10, b11, am_up, ik, and_true, and_false, true_and, false_and, if_true, if_false, nn_eq] at *) <;> (try simp only [sw_or, sw_all, or_false, and_true, i32_lt, i32_le, i32_eq, i32_addw, i32_subw, i32_mulw, Int32.reduceToInt] at *) <;> omega) | (apply_assumption; done)) (by first | exact c1 | exact bc | exact i1 e8 | exact c5 (z1 s hsq e8) h8 | exact hsq | exact (kZ (z0 s hsq e8) s hsq _ rfl).1 | assumption | (refine pc_of hP ?_; (repeat (first | assumption | exact md_refl | refine md_up ?_ rfl | refine md_fill ?_ rfl | (unfold ik; refine md_up ?_ rfl))); done) | (refine pc_oS hP ?_; (repeat (first | assumption | exact md_refl | refine md_up ?_ rfl | refine md_fill ?_ rfl | (unfold ik; refine md_up ?_ rfl))); done) | (refine pm_of hP ?_; (repeat (first | assumption | exact md_refl | refine md_up ?_ rfl | refine md_fill ?_ rfl | (unfold ik; refine md_up ?_ rfl))); done) | omega | decide | ((try simp +decide only [b01, b10, b11, am_up, ik, and_true, and_false, true_and, false_and, if_true, if_false, nn_eq] at *) <;> (try simp only [sw_or, sw_all, or_false, and_true, i32_lt, i32_le, i32_eq, i32_addw, i32_subw, i32_mulw, Int32.reduceToInt] at *) <;> omega) | (apply_assumption; done)) (fun e36 => ?_)
        · skip
          exact kG (z1 s hsq e8) _ (Or.inr ⟨h8, rfl⟩) _ e36.2
      · skip
        refine r_al0 (q := 12) d_MO_end_11 rfl ?_
        refine r_il1 (q := 13) d_MO_end_12 rfl ?_
        refine r_zeq (tgt := 20) (q := 16) d_MO_end_13 rfl rfl (fun e13 => by exfalso; revert e13; decide) (fun e13 => ?_)
        refine r_il2 (q := 17) d_MO_end_16 rfl ?_
        refine am_go (tgt := 21) d_MO_end_17 rfl ?_
        refine pt_MO_result (q := 24) d_MO_end_21 rfl rfl ?_
        refine r_al0 (q := 25) d_MO_end_24 rfl ?_
        refine r_ic (v := 2) (q := 26) d_MO_end_25 rfl rfl ?_
        refine r_vv1 mo_MO_stop d_MO_end_26 rfl rfl rfl (q := 29) rfl ?_
        refine sp_MO_stop (st0 := st0) (A := am_up (o_close A) 604 0 v) (by first | exact c1 | exact bc | exact i1 e8 | exact c5 (z1 s hsq e8) h8 | exact hsq | exact (kZ (z0 s hsq e8) s hsq _ rfl).1 | assumption | (refine pc_of hP ?_; (repeat (first | assumption | exact md_refl | refine md_up ?_ rfl | refine md_fill ?_ rfl | (unfold ik; refine md_up ?_ rfl))); done) | (refine pc_oS hP ?_; (repeat (first | assumption | exact md_refl | refine md_up ?_ rfl | refine md_fill ?_ rfl | (unfold ik; refine md_up ?_ rfl))); done) | (refine pm_of hP ?_; (repeat (first | assumption | exact md_refl | refine md_up ?_ rfl | refine md_fill ?_ rfl | (unfold ik; refine md_up ?_ rfl))); done) | omega | decide | ((try simp +decide only [b01, b10, b11, am_up, ik, and_true, and_false, true_and, false_and, if_true, if_false, nn_eq] at *) <;> (try simp only [sw_or, sw_all, or_false, and_true, i32_lt, i32_le, i32_eq, i32_addw, i32_subw, i32_mulw, Int32.reduceToInt] at *) <;> omega) | (apply_assumption; done)) (fun e26 => ?_)
        · skip
          refine r_rv d_MO_end_29 ?_
          exact (kZ (z0 s hsq e8) s hsq _ rfl).2 _ e26.2
    clear kZ kG z0 z1 e610
    refine r_al0 (q := 1) d_MO_end_0 rfl ?_
    refine r_vv0 mo_MO_leave d_MO_end_1 rfl rfl rfl (q := 4) rfl ?_
    refine sp_MO_leave (P := P) (st0 := st0) (A := A) (by first | exact c6 | assumption | (refine pc_of hP ?_; (repeat (first | assumption | exact md_refl | refine md_up ?_ rfl | refine md_fill ?_ rfl | (unfold ik; refine md_up ?_ rfl))); done) | (refine pc_oS hP ?_; (repeat (first | assumption | exact md_refl | refine md_up ?_ rfl | refine md_fill ?_ rfl | (unfold ik; refine md_up ?_ rfl))); done) | (refine pm_of hP ?_; (repeat (first | assumption | exact md_refl | refine md_up ?_ rfl | refine md_fill ?_ rfl | (unfold ik; refine md_up ?_ rfl))); done) | omega | decide | ((try simp +decide only [b01, b10, b11, am_up, ik, and_true, and_false, true_and, false_and, if_true, if_false, nn_eq] at *) <;> (try simp only [sw_or, sw_all, or_false, and_true, i32_lt, i32_le, i32_eq, i32_addw, i32_subw, i32_mulw, Int32.reduceToInt] at *) <;> omega) | (apply_assumption; done)) (by first | exact c6 | assumption | (refine pc_of hP ?_; (repeat (first | assumption | exact md_refl | refine md_up ?_ rfl | refine md_fill ?_ rfl | (unfold ik; refine md_up ?_ rfl))); done) | (refine pc_oS hP ?_; (repeat (first | assumption | exact md_refl | refine md_up ?_ rfl | refine md_fill ?_ rfl | (unfold ik; refine md_up ?_ rfl))); done) | (refine pm_of hP ?_; (repeat (first | assumption | exact md_refl | refine md_up ?_ rfl | refine md_fill ?_ rfl | (unfold ik; refine md_up ?_ rfl))); done) | omega | decide | ((try simp +decide only [b01, b10, b11, am_up, ik, and_true, and_false, true_and, false_and, if_true, if_false, nn_eq] at *) <;> (try simp only [sw_or, sw_all, or_false, and_true, i32_lt, i32_le, i32_eq, i32_addw, i32_subw, i32_mulw, Int32.reduceToInt] at *) <;> omega) | (apply_assumption; done)) (by first | exact c6 | assumption | (refine pc_of hP ?_; (repeat (first | assumption | exact md_refl | refine md_up ?_ rfl | refine md_fill ?_ rfl | (unfold ik; refine md_up ?_ rfl))); done) | (refine pc_oS hP ?_; (repeat (first | assumption | exact md_refl | refine md_up ?_ rfl | refine md_fill ?_ rfl | (unfold ik; refine md_up ?_ rfl))); done) | (refine pm_of hP ?_; (repeat (first | assumption | exact md_refl | refine md_up ?_ rfl | refine md_fill ?_ rfl | (unfold ik; refine md_up ?_ rfl))); done) | omega | decide | ((try simp +decide only [b01, b10, b11, am_up, ik, and_true, and_false, true_and, false_and, if_true, if_false, nn_eq] at *) <;> (try simp only [sw_or, sw_all, or_false, and_true, i32_lt, i32_le, i32_eq, i32_addw, i32_subw, i32_mulw, Int32.reduceToInt] at *) <;> omega) | (apply_assumption; done)) (fun e1 => ?_)
    · skip
      exact k4 _ e1.2
  · subst h7
    have k4 : ∀ s, QM st0 (o_close A) s → am_AW c_MO_end g_MO_end (fun o st' => am_ok none o ∧ am_kv f o st') 4 [some (.inr (.inl 128)), some (.inl 0), some (.inl v)] [] s := by
      intro s hsq
      refine r_al0 (q := 5) d_MO_end_4 rfl ?_
      refine gt_MO_frames (q := 8) d_MO_end_5 rfl rfl ?_
      refine r_zne (tgt := 30) (q := 11) d_MO_end_8 rfl rfl (fun e8 => ?_) (fun e8 => ?_)
      · skip
        refine r_il1 (q := 31) d_MO_end_30 rfl ?_
        refine r_zeq (tgt := 39) (q := 34) d_MO_end_31 rfl rfl (fun e31 => ?_) (fun e31 => by exfalso; revert e31; decide)
        exact kG (z1 s hsq e8) _ (Or.inl ⟨h8, rfl⟩) s hsq
      · skip
        refine r_al0 (q := 12) d_MO_end_11 rfl ?_
        refine r_il1 (q := 13) d_MO_end_12 rfl ?_
        refine r_zeq (tgt := 20) (q := 16) d_MO_end_13 rfl rfl (fun e13 => ?_) (fun e13 => by exfalso; revert e13; decide)
        refine r_ic (v := 0) (q := 21) d_MO_end_20 rfl rfl ?_
        refine pt_MO_result (q := 24) d_MO_end_21 rfl rfl ?_
        refine r_al0 (q := 25) d_MO_end_24 rfl ?_
        refine r_ic (v := 2) (q := 26) d_MO_end_25 rfl rfl ?_
        refine r_vv1 mo_MO_stop d_MO_end_26 rfl rfl rfl (q := 29) rfl ?_
        refine sp_MO_stop (st0 := st0) (A := am_up (o_close A) 604 0 v) (by first | exact (kZ (z0 s hsq e8) s hsq _ h9.symm).1 | assumption | (refine pc_of hP ?_; (repeat (first | assumption | exact md_refl | refine md_up ?_ rfl | refine md_fill ?_ rfl | (unfold ik; refine md_up ?_ rfl))); done) | (refine pc_oS hP ?_; (repeat (first | assumption | exact md_refl | refine md_up ?_ rfl | refine md_fill ?_ rfl | (unfold ik; refine md_up ?_ rfl))); done) | (refine pm_of hP ?_; (repeat (first | assumption | exact md_refl | refine md_up ?_ rfl | refine md_fill ?_ rfl | (unfold ik; refine md_up ?_ rfl))); done) | omega | decide | ((try simp +decide only [b01, b10, b11, am_up, ik, and_true, and_false, true_and, false_and, if_true, if_false, nn_eq] at *) <;> (try simp only [sw_or, sw_all, or_false, and_true, i32_lt, i32_le, i32_eq, i32_addw, i32_subw, i32_mulw, Int32.reduceToInt] at *) <;> omega) | (apply_assumption; done)) (fun e26 => ?_)
        · skip
          refine r_rv d_MO_end_29 ?_
          exact (kZ (z0 s hsq e8) s hsq _ h9.symm).2 _ e26.2
    clear kZ kG z0 z1 e610
    refine r_al0 (q := 1) d_MO_end_0 rfl ?_
    refine r_vv0 mo_MO_leave d_MO_end_1 rfl rfl rfl (q := 4) rfl ?_
    refine sp_MO_leave (P := P) (st0 := st0) (A := A) (by first | exact c6 | assumption | (refine pc_of hP ?_; (repeat (first | assumption | exact md_refl | refine md_up ?_ rfl | refine md_fill ?_ rfl | (unfold ik; refine md_up ?_ rfl))); done) | (refine pc_oS hP ?_; (repeat (first | assumption | exact md_refl | refine md_up ?_ rfl | refine md_fill ?_ rfl | (unfold ik; refine md_up ?_ rfl))); done) | (refine pm_of hP ?_; (repeat (first | assumption | exact md_refl | refine md_up ?_ rfl | refine md_fill ?_ rfl | (unfold ik; refine md_up ?_ rfl))); done) | omega | decide | ((try simp +decide only [b01, b10, b11, am_up, ik, and_true, and_false, true_and, false_and, if_true, if_false, nn_eq] at *) <;> (try simp only [sw_or, sw_all, or_false, and_true, i32_lt, i32_le, i32_eq, i32_addw, i32_subw, i32_mulw, Int32.reduceToInt] at *) <;> omega) | (apply_assumption; done)) (by first | exact c6 | assumption | (refine pc_of hP ?_; (repeat (first | assumption | exact md_refl | refine md_up ?_ rfl | refine md_fill ?_ rfl | (unfold ik; refine md_up ?_ rfl))); done) | (refine pc_oS hP ?_; (repeat (first | assumption | exact md_refl | refine md_up ?_ rfl | refine md_fill ?_ rfl | (unfold ik; refine md_up ?_ rfl))); done) | (refine pm_of hP ?_; (repeat (first | assumption | exact md_refl | refine md_up ?_ rfl | refine md_fill ?_ rfl | (unfold ik; refine md_up ?_ rfl))); done) | omega | decide | ((try simp +decide only [b01, b10, b11, am_up, ik, and_true, and_false, true_and, false_and, if_true, if_false, nn_eq] at *) <;> (try simp only [sw_or, sw_all, or_false, and_true, i32_lt, i32_le, i32_eq, i32_addw, i32_subw, i32_mulw, Int32.reduceToInt] at *) <;> omega) | (apply_assumption; done)) (by first | exact c6 | assumption | (refine pc_of hP ?_; (repeat (first | assumption | exact md_refl | refine md_up ?_ rfl | refine md_fill ?_ rfl | (unfold ik; refine md_up ?_ rfl))); done) | (refine pc_oS hP ?_; (repeat (first | assumption | exact md_refl | refine md_up ?_ rfl | refine md_fill ?_ rfl | (unfold ik; refine md_up ?_ rfl))); done) | (refine pm_of hP ?_; (repeat (first | assumption | exact md_refl | refine md_up ?_ rfl | refine md_fill ?_ rfl | (unfold ik; refine md_up ?_ rfl))); done) | omega | decide | ((try simp +decide only [b01, b10, b11, am_up, ik, and_true, and_false, true_and, false_and, if_true, if_false, nn_eq] at *) <;> (try simp only [sw_or, sw_all, or_false, and_true, i32_lt, i32_le, i32_eq, i32_addw, i32_subw, i32_mulw, Int32.reduceToInt] at *) <;> omega) | (apply_assumption; done)) (fun e1 => ?_)
    · skip
      exact k4 _ e1.2
theorem open_dec {P A : am_S} {c y : Int32} (hn : 0 < fn A) : o_open P (o_dec A c) y = am_up (o_open P A y) 2165 (lf A) (A 2165 (lf A) - c) := by
  have hl : ¬ lf A = fn A := by unfold lf; omega
  have e1 : fn (o_dec A c) = fn A := rfl
  have e2 : o_dec A c 608 0 = A 608 0 := rfl
  have e3 : o_dec A c 610 0 = A 610 0 := rfl
  funext b i
  unfold o_open
  rw [e1, e2, e3]
  unfold o_dec am_fill am_up
  by_cases q : b = 2165 ∧ i = lf A
  · obtain ⟨q1, q2⟩ := q
    subst q1
    subst q2
    simp [hl]
  · by_cases q3 : b = 2165
    · subst q3
      have q4 : ¬ i = lf A := fun w => q ⟨rfl, w⟩
      simp [q4]
    · simp [q3]
abbrev am_ca (y c n s : Int32) (K : am_S → Prop) (pc : Nat) (a5 : Option am_V) (st : am_S) : Prop := am_AW c_MO_call g_MO_call (fun o' st' => am_ok none o' ∧ am_kv K o' st') pc [some (.inr (.inl 128)), some (.inl y), some (.inl c), some (.inl n), some (.inl s), a5] [] st
theorem lp_MO_ca {P st0 B : am_S} {y c n s : Int32} {u0 s0 : Nat} {f : am_S → Prop} (hP : PM st0 P) (hV : VP P) (hn : 0 ≤ n.toInt) (hy : s.toInt = (s0 : Int)) (hs0 : s0 + n.toInt.toNat ≤ u0) (hu : u0 + n.toInt.toNat ≤ 80) (hlB : ∀ j t, QM st0 (am_cp B 2162 u0 s0 j) t → (0 ≤ (t 610 0 - 1).toInt ∧ (t 610 0 - 1).toInt < 80) ∧ (t 2166 (t 610 0 - 1).toNatClampNeg).toInt = (u0 : Int)) (h : ∀ q : {q : am_S // QM st0 (am_cp B 2162 u0 s0 n.toInt.toNat) q}, f q.1) : ∀ (d j : Nat) (x : Int32) (st : am_S), (j : Int) + d = n.toInt → x.toInt = (j : Int) → QM st0 (am_cp B 2162 u0 s0 j) st → am_ca y c n s f 67 (some (.inl x)) st := by
  intro d
  induction d with
  | zero =>
    intro j x st k1 k2 k3
    have ej : j = n.toInt.toNat := by omega
    rw [ej] at k3
    have kQ := hs h k3
    clear h hlB k3
    refine r_il5 (q := 69) d_MO_call_67 rfl ?_
    refine r_il3 (q := 70) d_MO_call_69 rfl ?_
    refine r_cge (tgt := 106) (q := 73) d_MO_call_70 rfl rfl (fun e70 => ?_) (fun e70 => ?_)
    · skip
      refine r_rv d_MO_call_106 ?_
      exact kQ
    · skip
      exfalso; clear kQ hP hV; ((try simp +decide only [b01, b10, b11, am_up, ik, and_true, and_false, true_and, false_and, if_true, if_false, nn_eq] at *) <;> (try simp only [sw_or, sw_all, or_false, and_true, i32_lt, i32_le, i32_eq, i32_addw, i32_subw, i32_mulw, Int32.reduceToInt] at *) <;> omega)
  | succ d ih =>
    intro j x st k1 k2 k3
    obtain ⟨t1, t2⟩ := hlB j st k3
    have vl : vp_in (st 610 0 - 1) 80 := vp_of t1.1 t1.2
    have ei : (st 2166 (st 610 0 - 1).toNatClampNeg + x).toNatClampNeg = u0 + j := by
      rw [nn_eq, i32_addw]
      omega
    have vi : vp_in (st 2166 (st 610 0 - 1).toNatClampNeg + x) 80 := by
      refine vp_of ?_ ?_ <;> (rw [i32_addw]; omega)
    have es : (s + x).toNatClampNeg = s0 + j := by
      rw [nn_eq, i32_addw]
      omega
    have vs : vp_in (s + x) 80 := by
      refine vp_of ?_ ?_ <;> (rw [i32_addw]; omega)
    have kA : am_ca y c n s f 67 (some (.inl (x + 1))) (am_up st 2162 (st 2166 (st 610 0 - 1).toNatClampNeg + x).toNatClampNeg (st 2162 (s + x).toNatClampNeg)) := by
      have ev : st 2162 (s0 + j) = B 2162 (s0 + j) := by
        rw [k3.2 2162 rfl]
        unfold am_cp
        rw [if_neg (by omega)]
      rw [ei, es, ev]
      refine ih (j + 1) _ _ (by omega) (by rw [i32_addw]; simp only [Int32.reduceToInt]; omega) ⟨md_up k3.1 rfl, ?_⟩
      rw [← cp_snoc]
      exact RM_up k3.2
    clear ih h hlB k3
    refine r_il5 (q := 69) d_MO_call_67 rfl ?_
    refine r_il3 (q := 70) d_MO_call_69 rfl ?_
    refine r_cge (tgt := 106) (q := 73) d_MO_call_70 rfl rfl (fun e70 => ?_) (fun e70 => ?_)
    · skip
      first | exact kA | (exfalso; clear kA hP hV; ((try simp +decide only [b01, b10, b11, am_up, ik, and_true, and_false, true_and, false_and, if_true, if_false, nn_eq] at *) <;> (try simp only [sw_or, sw_all, or_false, and_true, i32_lt, i32_le, i32_eq, i32_addw, i32_subw, i32_mulw, Int32.reduceToInt] at *) <;> omega))
    · skip
      refine r_al0 (q := 74) d_MO_call_73 rfl ?_
      refine gt_MO_cell (q := 77) d_MO_call_74 rfl rfl ?_
      refine r_al0 (q := 78) d_MO_call_77 rfl ?_
      refine gt_MO_frameBase (q := 81) d_MO_call_78 rfl rfl ?_
      refine r_al0 (q := 82) d_MO_call_81 rfl ?_
      refine r_vi0 mo_MO_latest d_MO_call_82 rfl rfl rfl (q := 85) rfl ?_
      refine sp_MO_latest ?_
      refine ld_166 (q := 86) d_MO_call_85 ?_ rfl ?_
      · first | exact vl | exact vi | exact vs
      refine r_il5 (q := 88) d_MO_call_86 rfl ?_
      refine r_iadd (q := 89) d_MO_call_88 rfl ?_
      refine r_al0 (q := 90) d_MO_call_89 rfl ?_
      refine gt_MO_cell (q := 93) d_MO_call_90 rfl rfl ?_
      refine r_il4 (q := 95) d_MO_call_93 rfl ?_
      refine r_il5 (q := 97) d_MO_call_95 rfl ?_
      refine r_iadd (q := 98) d_MO_call_97 rfl ?_
      refine ld_162 (q := 99) d_MO_call_98 ?_ rfl ?_
      · first | exact vl | exact vi | exact vs
      refine sv_162 (q := 100) d_MO_call_99 ?_ rfl ?_
      · first | exact vl | exact vi | exact vs
      refine r_in5 (v := 1) (q := 103) d_MO_call_100 rfl rfl ?_
      refine am_go (tgt := 67) d_MO_call_103 rfl ?_
      first | exact kA | (exfalso; clear kA hP hV; ((try simp +decide only [b01, b10, b11, am_up, ik, and_true, and_false, true_and, false_and, if_true, if_false, nn_eq] at *) <;> (try simp only [sw_or, sw_all, or_false, and_true, i32_lt, i32_le, i32_eq, i32_addw, i32_subw, i32_mulw, Int32.reduceToInt] at *) <;> omega))
theorem sp_MO_call {P st0 A : am_S} {y : Int32} {st : am_S} {f : am_S → Prop} (c1 : PM st0 P) (c2 : VP P) (c3 : BV P A) (c4 : 0 < fn A) (c5 : 0 ≤ y.toInt ∧ y.toNatClampNeg < nM P) (c6 : QM st0 A st) (c7 : (P 3 y.toNatClampNeg).toInt ≤ (sD A : Int)) (h1 : ∀ q : {q : am_S // QM st0 (o_call P A y.toNatClampNeg) q}, f q.1) : wp_MO_call [.inr (.inl 128), .inl y] st (am_kv f) := by
  refine ⟨⟨rfl, Nat.le_of_ble_eq_true rfl⟩, ?_⟩
  have hPs := pm_oR c1 c6.1
  obtain ⟨v8, -⟩ := mf hPs c2 c5.2
  have vy : vp_in y 8 := vp_of c5.1 (by rw [nn_eq] at v8; omega)
  obtain ⟨d1, d2, d3, d4, d5⟩ := ned_t c2 c5.2
  have h3 := c2.2.2 _ c5.2
  unfold VM at h3
  obtain ⟨t1, t2, t3, ⟨t4, t5, t6⟩, t7, t8, t9, t10, t11⟩ := RM_tw hPs c2 c3 c6.2 c4
  have hu := c3.2.2.1
  rw [if_neg (by omega)] at hu
  have ey : nI y.toNatClampNeg = y := nI_back c5.1
  have e45 : st 2145 y.toNatClampNeg = P 3 y.toNatClampNeg := by rw [hPs.1.2.2.2.1]
  have kS : ¬ (A 608 0).toInt + (ned P y.toNatClampNeg).toInt ≤ 80 → ∀ q, QM st0 (o_stop A 7) q → f q := by
    intro e q hq
    refine h1 ⟨q, ?_⟩
    unfold o_call
    rw [if_neg e]
    exact hq
  have k27 : ∀ s : am_S, ((A 608 0).toInt + (ned P y.toNatClampNeg).toInt ≤ 80 ∧ QM st0 (o_open P A y) s) → am_AW c_MO_call g_MO_call (fun o st' => am_ok none o ∧ am_kv f o st') 27 [some (.inr (.inl 128)), some (.inl y), some (.inl (st 610 0 - 1)), some (.inl (st 2145 y.toNatClampNeg)), none, none] [] s := by
    intro s hse
    obtain ⟨e, hsq⟩ := hse
    obtain ⟨k1, k2, k3, k4⟩ := dec1 c3 c4 h3.2.1.1 c7
    obtain ⟨x1, x2⟩ := sx_dec (P := P) c3 c4 h3.2.1.1 c7
    have hPq := pm_oR c1 hsq.1
    have vl : vp_in (st 610 0 - 1) 80 := vp_of t2.1 t2.2
    have hl : ¬ lf A = fn A := by unfold lf; omega
    have f65 : s 2165 (lf A) = A 2165 (lf A) := by rw [hsq.2 2165 rfl, open_f.2.2.1, if_neg hl]
    have f66 : s 2166 (lf A) = A 2166 (lf A) := by rw [hsq.2 2166 rfl, open_f.2.2.2, if_neg hl]
    have f63 : s 2163 (lf A) = A 2163 (lf A) := by rw [hsq.2 2163 rfl, open_f.1, if_neg hl]
    have bo := BV_open (y := y) c2 k1 c5 e
    obtain ⟨o1, o2, o3⟩ := @open_n P (o_dec A (P 3 y.toNatClampNeg)) y k1 (by have : o_dec A (P 3 y.toNatClampNeg) 608 0 = A 608 0 := rfl; rw [this]; omega)
    have fbo : fb (o_open P (o_dec A (P 3 y.toNatClampNeg)) y) (fn A) = (A 608 0).toInt.toNat := by
      unfold fb
      rw [open_f.2.2.2, k2, if_pos rfl]
      rfl
    have hqd : QM st0 (o_open P (o_dec A (P 3 y.toNatClampNeg)) y) (am_up s 2165 (lf A) (A 2165 (lf A) - P 3 y.toNatClampNeg)) := by
      refine ⟨md_up hsq.1 rfl, ?_⟩
      rw [open_dec c4]
      exact RM_up hsq.2
    have yv : (s 2166 (lf A) + s 2146 (s 2163 (lf A)).toNatClampNeg + (A 2165 (lf A) - P 3 y.toNatClampNeg)).toInt = (sx P (o_dec A (P 3 y.toNatClampNeg)) : Int) := by
      have g1 := t7
      have g2 := t9
      have g3 := t8
      rw [t1, c6.2 2166 rfl] at g1
      rw [t1, c6.2 2163 rfl, hPs.1.2.2.2.2.1] at g2
      rw [t1, c6.2 2165 rfl] at g3
      rw [f66, f63, hPq.1.2.2.2.2.1, x1, i32_addw, i32_addw, i32_subw]
      omega
    have hlB : ∀ j t, QM st0 (am_cp (o_open P (o_dec A (P 3 y.toNatClampNeg)) y) 2162 (A 608 0).toInt.toNat (sx P (o_dec A (P 3 y.toNatClampNeg))) j) t → (0 ≤ (t 610 0 - 1).toInt ∧ (t 610 0 - 1).toInt < 80) ∧ (t 2166 (t 610 0 - 1).toNatClampNeg).toInt = ((A 608 0).toInt.toNat : Int) := by
      intro j t ht
      have bB : BV P (am_cp (o_open P (o_dec A (P 3 y.toNatClampNeg)) y) 2162 (A 608 0).toInt.toNat (sx P (o_dec A (P 3 y.toNatClampNeg))) j) := BV_eq bo (cp_bank (by decide)) (cp_bank (by decide)) (cp_bank (by decide)) (cp_bank (by decide)) (cp_bank (by decide))
      have fB : fn (am_cp (o_open P (o_dec A (P 3 y.toNatClampNeg)) y) 2162 (A 608 0).toInt.toNat (sx P (o_dec A (P 3 y.toNatClampNeg))) j) = fn A + 1 := by
        unfold fn
        rw [cp_bank (by decide)]
        have : (o_open P (o_dec A (P 3 y.toNatClampNeg)) y 610 0).toInt.toNat = fn A + 1 := by rw [o3, k2]; omega
        exact this
      obtain ⟨w1, w2, -, -, w5, -⟩ := RM_tw (pm_oR c1 ht.1) c2 bB ht.2 (by omega)
      refine ⟨w2, ?_⟩
      rw [w5]
      have : lf (am_cp (o_open P (o_dec A (P 3 y.toNatClampNeg)) y) 2162 (A 608 0).toInt.toNat (sx P (o_dec A (P 3 y.toNatClampNeg))) j) = fn A := by unfold lf; rw [fB]; rfl
      rw [this]
      unfold fb
      rw [cp_bank (by decide)]
      exact congrArg Nat.cast fbo
    have kE : ∀ q : {q : am_S // QM st0 (am_cp (o_open P (o_dec A (P 3 y.toNatClampNeg)) y) 2162 (A 608 0).toInt.toNat (sx P (o_dec A (P 3 y.toNatClampNeg))) (P 3 y.toNatClampNeg).toInt.toNat) q}, f q.1 := by
      intro q
      refine h1 ⟨q.1, ?_⟩
      unfold o_call
      rw [if_pos e, ey]
      exact q.2
    have hu2 : (A 608 0).toInt.toNat = en P A (lf A) := by omega
    have hen : en P A (lf A) = fb A (lf A) + flo P A (lf A) + fhe P A (lf A) + 1 := rfl
    have kL := lp_MO_ca (y := y) (c := st 610 0 - 1) c1 c2 h3.2.1.1 yv (by omega) (by omega) hlB kE (P 3 y.toNatClampNeg).toInt.toNat 0 0 _ (by omega) (by decide) (by rw [cp_0]; exact hqd)
    rw [← f65, ← t1, ← e45] at kL
    clear h1 kS kE hlB
    have v63 : vp_in (s 2163 (st 610 0 - 1).toNatClampNeg) 8 := by
      have g5 := t5
      have g6 := t6
      rw [c6.2 2163 rfl] at g5 g6
      rw [t1, f63]
      rw [t1] at g5 g6
      exact vp_of g5 g6
    refine r_al0 (q := 28) d_MO_call_27 rfl ?_
    refine gt_MO_frameTop (q := 31) d_MO_call_28 rfl rfl ?_
    refine r_il2 (q := 32) d_MO_call_31 rfl ?_
    refine r_dup2 (q := 33) d_MO_call_32 rfl ?_
    refine ld_165 (q := 34) d_MO_call_33 ?_ rfl ?_
    · first | exact vl | exact v63
    refine r_il3 (q := 35) d_MO_call_34 rfl ?_
    refine r_isub (q := 36) d_MO_call_35 rfl ?_
    refine sv_165 (q := 37) d_MO_call_36 ?_ rfl ?_
    · first | exact vl | exact v63
    refine r_al0 (q := 38) d_MO_call_37 rfl ?_
    refine gt_MO_frameBase (q := 41) d_MO_call_38 rfl rfl ?_
    refine r_il2 (q := 42) d_MO_call_41 rfl ?_
    refine ld_166 (q := 43) d_MO_call_42 ?_ rfl ?_
    · first | exact vl | exact v63
    refine r_al0 (q := 44) d_MO_call_43 rfl ?_
    refine gt_MO_locals (q := 47) d_MO_call_44 rfl rfl ?_
    refine r_al0 (q := 48) d_MO_call_47 rfl ?_
    refine gt_MO_frameMethod (q := 51) d_MO_call_48 rfl rfl ?_
    refine r_il2 (q := 52) d_MO_call_51 rfl ?_
    refine ld_163 (q := 53) d_MO_call_52 ?_ rfl ?_
    · first | exact vl | exact v63
    refine ld_146 (q := 54) d_MO_call_53 ?_ rfl ?_
    · first | exact vl | exact v63
    refine r_iadd (q := 55) d_MO_call_54 rfl ?_
    refine r_al0 (q := 56) d_MO_call_55 rfl ?_
    refine gt_MO_frameTop (q := 59) d_MO_call_56 rfl rfl ?_
    refine r_il2 (q := 60) d_MO_call_59 rfl ?_
    refine ld_165 (q := 61) d_MO_call_60 ?_ rfl ?_
    · first | exact vl | exact v63
    refine r_iadd (q := 62) d_MO_call_61 rfl ?_
    refine r_is4 (q := 64) d_MO_call_62 rfl ?_
    refine r_ic (v := 0) (q := 65) d_MO_call_64 rfl rfl ?_
    refine r_is5 (q := 67) d_MO_call_65 rfl ?_
    simp only [am_up_bank (show ¬ (2166 : Nat) = 2165 by decide), am_up_bank (show ¬ (2163 : Nat) = 2165 by decide), am_up_bank (show ¬ (2146 : Nat) = 2165 by decide), am_up_eq]; exact kL
  clear h1
  refine r_al0 (q := 1) d_MO_call_0 rfl ?_
  refine r_vi0 mo_MO_latest d_MO_call_1 rfl rfl rfl (q := 4) rfl ?_
  refine sp_MO_latest ?_
  refine r_is2 (q := 5) d_MO_call_4 rfl ?_
  refine r_al0 (q := 6) d_MO_call_5 rfl ?_
  refine gt_MO_takes (q := 9) d_MO_call_6 rfl rfl ?_
  refine r_il1 (q := 10) d_MO_call_9 rfl ?_
  refine ld_145 (q := 11) d_MO_call_10 ?_ rfl ?_
  · exact vy
  refine r_is3 (q := 12) d_MO_call_11 rfl ?_
  refine r_al0 (q := 13) d_MO_call_12 rfl ?_
  refine r_il1 (q := 14) d_MO_call_13 rfl ?_
  refine r_vi1 mo_MO_enter d_MO_call_14 rfl rfl rfl (q := 17) rfl ?_
  refine sp_MO_enter (P := P) (st0 := st0) (A := A) (by first | exact c1 | exact c6 | assumption | (refine pc_of hP ?_; (repeat (first | assumption | exact md_refl | refine md_up ?_ rfl | refine md_fill ?_ rfl | (unfold ik; refine md_up ?_ rfl))); done) | (refine pc_oS hP ?_; (repeat (first | assumption | exact md_refl | refine md_up ?_ rfl | refine md_fill ?_ rfl | (unfold ik; refine md_up ?_ rfl))); done) | (refine pm_of hP ?_; (repeat (first | assumption | exact md_refl | refine md_up ?_ rfl | refine md_fill ?_ rfl | (unfold ik; refine md_up ?_ rfl))); done) | omega | decide | ((try simp +decide only [b01, b10, b11, am_up, ik, and_true, and_false, true_and, false_and, if_true, if_false, nn_eq] at *) <;> (try simp only [sw_or, sw_all, or_false, and_true, i32_lt, i32_le, i32_eq, i32_addw, i32_subw, i32_mulw, Int32.reduceToInt] at *) <;> omega) | (apply_assumption; done)) (by first | exact c1 | exact c6 | assumption | (refine pc_of hP ?_; (repeat (first | assumption | exact md_refl | refine md_up ?_ rfl | refine md_fill ?_ rfl | (unfold ik; refine md_up ?_ rfl))); done) | (refine pc_oS hP ?_; (repeat (first | assumption | exact md_refl | refine md_up ?_ rfl | refine md_fill ?_ rfl | (unfold ik; refine md_up ?_ rfl))); done) | (refine pm_of hP ?_; (repeat (first | assumption | exact md_refl | refine md_up ?_ rfl | refine md_fill ?_ rfl | (unfold ik; refine md_up ?_ rfl))); done) | omega | decide | ((try simp +decide only [b01, b10, b11, am_up, ik, and_true, and_false, true_and, false_and, if_true, if_false, nn_eq] at *) <;> (try simp only [sw_or, sw_all, or_false, and_true, i32_lt, i32_le, i32_eq, i32_addw, i32_subw, i32_mulw, Int32.reduceToInt] at *) <;> omega) | (apply_assumption; done)) (by first | exact c1 | exact c6 | assumption | (refine pc_of hP ?_; (repeat (first | assumption | exact md_refl | refine md_up ?_ rfl | refine md_fill ?_ rfl | (unfold ik; refine md_up ?_ rfl))); done) | (refine pc_oS hP ?_; (repeat (first | assumption | exact md_refl | refine md_up ?_ rfl | refine md_fill ?_ rfl | (unfold ik; refine md_up ?_ rfl))); done) | (refine pm_of hP ?_; (repeat (first | assumption | exact md_refl | refine md_up ?_ rfl | refine md_fill ?_ rfl | (unfold ik; refine md_up ?_ rfl))); done) | omega | decide | ((try simp +decide only [b01, b10, b11, am_up, ik, and_true, and_false, true_and, false_and, if_true, if_false, nn_eq] at *) <;> (try simp only [sw_or, sw_all, or_false, and_true, i32_lt, i32_le, i32_eq, i32_addw, i32_subw, i32_mulw, Int32.reduceToInt] at *) <;> omega) | (apply_assumption; done)) (by first | exact c1 | exact c6 | assumption | (refine pc_of hP ?_; (repeat (first | assumption | exact md_refl | refine md_up ?_ rfl | refine md_fill ?_ rfl | (unfold ik; refine md_up ?_ rfl))); done) | (refine pc_oS hP ?_; (repeat (first | assumption | exact md_refl | refine md_up ?_ rfl | refine md_fill ?_ rfl | (unfold ik; refine md_up ?_ rfl))); done) | (refine pm_of hP ?_; (repeat (first | assumption | exact md_refl | refine md_up ?_ rfl | refine md_fill ?_ rfl | (unfold ik; refine md_up ?_ rfl))); done) | omega | decide | ((try simp +decide only [b01, b10, b11, am_up, ik, and_true, and_false, true_and, false_and, if_true, if_false, nn_eq] at *) <;> (try simp only [sw_or, sw_all, or_false, and_true, i32_lt, i32_le, i32_eq, i32_addw, i32_subw, i32_mulw, Int32.reduceToInt] at *) <;> omega) | (apply_assumption; done)) (by first | exact c1 | exact c6 | assumption | (refine pc_of hP ?_; (repeat (first | assumption | exact md_refl | refine md_up ?_ rfl | refine md_fill ?_ rfl | (unfold ik; refine md_up ?_ rfl))); done) | (refine pc_oS hP ?_; (repeat (first | assumption | exact md_refl | refine md_up ?_ rfl | refine md_fill ?_ rfl | (unfold ik; refine md_up ?_ rfl))); done) | (refine pm_of hP ?_; (repeat (first | assumption | exact md_refl | refine md_up ?_ rfl | refine md_fill ?_ rfl | (unfold ik; refine md_up ?_ rfl))); done) | omega | decide | ((try simp +decide only [b01, b10, b11, am_up, ik, and_true, and_false, true_and, false_and, if_true, if_false, nn_eq] at *) <;> (try simp only [sw_or, sw_all, or_false, and_true, i32_lt, i32_le, i32_eq, i32_addw, i32_subw, i32_mulw, Int32.reduceToInt] at *) <;> omega) | (apply_assumption; done)) (fun e14 => ?_) (fun e14 => ?_)
  · skip
    refine r_zne (tgt := 27) (q := 20) d_MO_call_17 rfl rfl (fun e17 => ?_) (fun e17 => by exfalso; revert e17; decide)
    exact k27 _ e14.2
  · skip
    refine r_zne (tgt := 27) (q := 20) d_MO_call_17 rfl rfl (fun e17 => by exfalso; revert e17; decide) (fun e17 => ?_)
    refine r_al0 (q := 21) d_MO_call_20 rfl ?_
    refine r_bp (v := 7) (q := 23) d_MO_call_21 rfl rfl ?_
    refine r_vv1 mo_MO_stop d_MO_call_23 rfl rfl rfl (q := 26) rfl ?_
    refine sp_MO_stop (st0 := st0) (A := A) (by first | exact c1 | exact c6 | assumption | (refine pc_of hP ?_; (repeat (first | assumption | exact md_refl | refine md_up ?_ rfl | refine md_fill ?_ rfl | (unfold ik; refine md_up ?_ rfl))); done) | (refine pc_oS hP ?_; (repeat (first | assumption | exact md_refl | refine md_up ?_ rfl | refine md_fill ?_ rfl | (unfold ik; refine md_up ?_ rfl))); done) | (refine pm_of hP ?_; (repeat (first | assumption | exact md_refl | refine md_up ?_ rfl | refine md_fill ?_ rfl | (unfold ik; refine md_up ?_ rfl))); done) | omega | decide | ((try simp +decide only [b01, b10, b11, am_up, ik, and_true, and_false, true_and, false_and, if_true, if_false, nn_eq] at *) <;> (try simp only [sw_or, sw_all, or_false, and_true, i32_lt, i32_le, i32_eq, i32_addw, i32_subw, i32_mulw, Int32.reduceToInt] at *) <;> omega) | (apply_assumption; done)) (fun e23 => ?_)
    · skip
      refine r_rv d_MO_call_26 ?_
      exact kS e14 _ e23.2

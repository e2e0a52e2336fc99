/-! written by wip/whole/gen/walk.py out of 99j.moves.txt -/
theorem BV_eq {P A A' : am_S} (h : BV P A) (e1 : A' 610 = A 610) (e2 : A' 608 = A 608) (e3 : A' 2163 = A 2163) (e4 : A' 2165 = A 2165) (e5 : A' 2166 = A 2166) : BV P A' := by
  unfold BV FV en fhe flo lf fn fm fb ft at *
  rw [e1, e2, e3, e4, e5]
  exact h
theorem eq_top {P A A' : am_S} (e1 : A' 610 = A 610) (e3 : A' 2163 = A 2163) (e4 : A' 2165 = A 2165) (e5 : A' 2166 = A 2166) : fn A' = fn A ∧ lf A' = lf A ∧ sD A' = sD A ∧ fhe P A' (lf A') = fhe P A (lf A) ∧ flo P A' (lf A') = flo P A (lf A) ∧ fb A' (lf A') = fb A (lf A) := by
  unfold sD fhe flo lf fn fm fb ft
  rw [e1, e3, e4, e5]
  exact ⟨rfl, rfl, rfl, rfl, rfl, rfl⟩
def o_cell (A : am_S) (i : Nat) (v : Int32) : am_S := am_up A 2162 i v
def o_stc (A : am_S) (i : Nat) (v : Int32) : am_S := am_up A 2160 i v
def o_hp (A : am_S) (i : Nat) (v : Int32) : am_S := am_up A 2161 i v
theorem RC_cell {P st A : am_S} {i : Nat} {v : Int32} (h : RC P st A) : RC P (am_up st 2137 i v) (o_cell A i v) := by
  obtain ⟨a1, a2, a3, a4, a5, a6⟩ := h
  have e : ∀ b, ¬ b = 2137 → am_up st 2137 i v b = st b := fun b b2 => am_up_bank b2
  have e' : ∀ b, ¬ b = 2162 → o_cell A i v b = A b := fun b b2 => am_up_bank b2
  refine ⟨?_, ?_, ?_, ?_, ?_, ?_⟩
  · rw [e 519 (by decide), e 518 (by decide), e' 610 (by decide)]
    exact a1
  · rw [e 0 (by decide), e 1 (by decide), e 2 (by decide), e 3 (by decide), e' 2163 (by decide), e' 2164 (by decide), e' 2165 (by decide), e' 2166 (by decide)]
    exact a2
  · unfold flo ft fb fm
    rw [e' 2163 (by decide), e' 2165 (by decide), e' 2166 (by decide)]
    intro f hf k hk
    have := a3 f hf k hk
    unfold o_cell
    by_cases q : (A 2166 f).toInt.toNat + k = i
    · rw [q, am_up_eq, am_up_eq]
    · rw [am_up_ne (fun w => q w.2), am_up_ne (fun w => q w.2)]
      exact this
  · rw [e 2139 (by decide), e' 2160 (by decide)]
    exact a4
  · rw [e 520 (by decide), e 2140 (by decide), e' 606 (by decide), e' 2161 (by decide)]
    exact a5
  · rw [e 521 (by decide), e 522 (by decide), e' 603 (by decide), e' 604 (by decide)]
    exact a6
theorem RC_stc {P st A : am_S} {i : Nat} {v : Int32} (h : RC P st A) : RC P (am_up st 2139 i v) (o_stc A i v) := by
  obtain ⟨a1, a2, a3, a4, a5, a6⟩ := h
  have e : ∀ b, ¬ b = 2139 → am_up st 2139 i v b = st b := fun b b2 => am_up_bank b2
  have e' : ∀ b, ¬ b = 2160 → o_stc A i v b = A b := fun b b2 => am_up_bank b2
  refine ⟨?_, ?_, ?_, ?_, ?_, ?_⟩
  · rw [e 519 (by decide), e 518 (by decide), e' 610 (by decide)]
    exact a1
  · rw [e 0 (by decide), e 1 (by decide), e 2 (by decide), e 3 (by decide), e' 2163 (by decide), e' 2164 (by decide), e' 2165 (by decide), e' 2166 (by decide)]
    exact a2
  · unfold flo ft fb fm
    rw [e 2137 (by decide), e' 2163 (by decide), e' 2165 (by decide), e' 2166 (by decide), e' 2162 (by decide)]
    exact a3
  · intro j hj
    unfold o_stc
    by_cases q : j = i
    · rw [q, am_up_eq, am_up_eq]
    · rw [am_up_ne (fun w => q w.2), am_up_ne (fun w => q w.2)]
      exact a4 j hj
  · rw [e 520 (by decide), e 2140 (by decide), e' 606 (by decide), e' 2161 (by decide)]
    exact a5
  · rw [e 521 (by decide), e 522 (by decide), e' 603 (by decide), e' 604 (by decide)]
    exact a6
theorem RC_hp {P st A : am_S} {i : Nat} {v : Int32} (h : RC P st A) : RC P (am_up st 2140 i v) (o_hp A i v) := by
  obtain ⟨a1, a2, a3, a4, a5, a6⟩ := h
  have e : ∀ b, ¬ b = 2140 → am_up st 2140 i v b = st b := fun b b2 => am_up_bank b2
  have e' : ∀ b, ¬ b = 2161 → o_hp A i v b = A b := fun b b2 => am_up_bank b2
  refine ⟨?_, ?_, ?_, ?_, ?_, ?_⟩
  · rw [e 519 (by decide), e 518 (by decide), e' 610 (by decide)]
    exact a1
  · rw [e 0 (by decide), e 1 (by decide), e 2 (by decide), e 3 (by decide), e' 2163 (by decide), e' 2164 (by decide), e' 2165 (by decide), e' 2166 (by decide)]
    exact a2
  · unfold flo ft fb fm
    rw [e 2137 (by decide), e' 2163 (by decide), e' 2165 (by decide), e' 2166 (by decide), e' 2162 (by decide)]
    exact a3
  · rw [e 2139 (by decide), e' 2160 (by decide)]
    exact a4
  · rw [e 520 (by decide), e' 606 (by decide)]
    refine ⟨a5.1, fun j hj => ?_⟩
    unfold o_hp
    by_cases q : j = i
    · rw [q, am_up_eq, am_up_eq]
    · rw [am_up_ne (fun w => q w.2), am_up_ne (fun w => q w.2)]
      exact a5.2 j hj
  · rw [e 521 (by decide), e 522 (by decide), e' 603 (by decide), e' 604 (by decide)]
    exact a6
theorem pop_top {P A : am_S} : lf (o_pop A) = lf A ∧ fb (o_pop A) (lf (o_pop A)) = fb A (lf A) ∧ flo P (o_pop A) (lf (o_pop A)) = flo P A (lf A) := by
  unfold flo fm fb
  rw [pop_o (b := 2163) (by decide), pop_o (b := 2166) (by decide)]
  exact ⟨rfl, rfl, rfl⟩
def o_lo (P A : am_S) (op : Int32) (i : Nat) (g : Int32) : am_S := if op = 21 ∨ op = 25 then o_push P A (A 2162 i) else if op = 132 then o_cell A i (A 2162 i + g) else o_cell (o_pop A) i (o_val P A)
theorem lo_ok {P A : am_S} {op g : Int32} {i : Nat} (hB : BV P A) (hn : 0 < fn A) (h1 : op = 21 ∨ op = 25 → sD A < fhe P A (lf A)) (h2 : ¬ (op = 21 ∨ op = 25) → ¬ op = 132 → 0 < sD A) : BV P (o_lo P A op i g) ∧ fn (o_lo P A op i g) = fn A := by
  unfold o_lo
  by_cases e : op = 21 ∨ op = 25
  · rw [if_pos e]
    exact ⟨BV_push hB hn (h1 e), rfl⟩
  · rw [if_neg e]
    by_cases e2 : op = 132
    · rw [if_pos e2]
      exact ⟨BV_eq hB rfl rfl rfl rfl rfl, rfl⟩
    · rw [if_neg e2]
      exact ⟨BV_eq (BV_pop hB hn (h2 e e2)) rfl rfl rfl rfl rfl, rfl⟩
theorem sp_MA_stepLocal {P st0 A : am_S} {x : Int32} {i : Nat} {st : am_S} {f : am_S → Prop} (c1 : PC st0 P) (c2 : VP P) (c3 : BV P A) (c4 : 0 < fn A) (c5 : st0 192 2 = 21 ∨ st0 192 2 = 25 → sD A < fhe P A (lf A)) (c6 : QC P st0 A st) (c7 : ¬ (st0 192 2 = 21 ∨ st0 192 2 = 25) → ¬ st0 192 2 = 132 → 0 < sD A) (c8 : x.toInt = (i : Int) ∧ fb A (lf A) ≤ i ∧ i < fb A (lf A) + flo P A (lf A)) (h1 : ∀ q : {q : am_S // QC P st0 (o_go (o_lo P A (st0 192 2) i (st0 194 2)) (st0 195 2)) q}, f q.1) : wp_MA_stepLocal [.inr (.inl 127), .inl x] st (am_kv f) := by
  refine ⟨⟨rfl, Nat.le_of_ble_eq_true rfl⟩, ?_⟩
  obtain ⟨l1, l2⟩ := lo_ok (g := st0 194 2) (i := i) c3 c4 c5 c7
  have l3 : 0 < fn (o_lo P A (st0 192 2) i (st0 194 2)) := by rw [l2]; exact c4
  have hl := BV_80 c3 (show lf A < fn A by unfold lf; omega)
  unfold en at hl
  have vx : vp_in x 80 := vp_of (by omega) (by omega)
  have ex : x.toNatClampNeg = i := by rw [nn_eq]; omega
  have ec : st 2137 x.toNatClampNeg = A 2162 i := by
    have := c6.2.2.2.1 (lf A) (by unfold lf; omega) (i - fb A (lf A)) (by omega)
    have e : fb A (lf A) + (i - fb A (lf A)) = i := by omega
    rw [e] at this
    rw [ex]
    exact this
  have e192 : st 192 2 = st0 192 2 := by rw [c6.1 192 rfl]
  have e194 : st 194 2 = st0 194 2 := by rw [c6.1 194 rfl]
  have k82 : ∀ s, QC P st0 (o_lo P A (st0 192 2) i (st0 194 2)) s → am_AW c_MA_stepLocal g_MA_stepLocal (fun o' st' => am_ok none o' ∧ am_kv f o' st') 82 [some (.inr (.inl 127)), some (.inl x)] [] s := by
    intro s hsq
    refine r_al0 (q := 83) d_MA_stepLocal_82 rfl ?_
    refine r_vv0 mo_MA_goOn d_MA_stepLocal_83 rfl rfl rfl (q := 86) rfl ?_
    refine sp_MA_goOn (P := P) (st0 := st0) (A := o_lo P A (st0 192 2) i (st0 194 2)) (by first | exact c1 | exact l1 | exact l3 | exact hsq | assumption | (refine pc_of hP ?_; (repeat (first | assumption | exact md_refl | refine md_up ?_ rfl | refine md_fill ?_ rfl | (unfold ik; refine md_up ?_ rfl))); done) | (refine pc_oS hP ?_; (repeat (first | assumption | exact md_refl | refine md_up ?_ rfl | refine md_fill ?_ rfl | (unfold ik; refine md_up ?_ rfl))); done) | (refine pm_of hP ?_; (repeat (first | assumption | exact md_refl | refine md_up ?_ rfl | refine md_fill ?_ rfl | (unfold ik; refine md_up ?_ rfl))); done) | omega | decide | ((try simp +decide only [b01, b10, b11, am_up, ik, and_true, and_false, true_and, false_and, if_true, if_false, nn_eq] at *) <;> (try simp only [sw_or, sw_all, or_false, and_true, i32_lt, i32_le, i32_eq, i32_addw, i32_subw, i32_mulw, Int32.reduceToInt] at *) <;> omega) | (apply_assumption; done)) (by first | exact c1 | exact l1 | exact l3 | exact hsq | assumption | (refine pc_of hP ?_; (repeat (first | assumption | exact md_refl | refine md_up ?_ rfl | refine md_fill ?_ rfl | (unfold ik; refine md_up ?_ rfl))); done) | (refine pc_oS hP ?_; (repeat (first | assumption | exact md_refl | refine md_up ?_ rfl | refine md_fill ?_ rfl | (unfold ik; refine md_up ?_ rfl))); done) | (refine pm_of hP ?_; (repeat (first | assumption | exact md_refl | refine md_up ?_ rfl | refine md_fill ?_ rfl | (unfold ik; refine md_up ?_ rfl))); done) | omega | decide | ((try simp +decide only [b01, b10, b11, am_up, ik, and_true, and_false, true_and, false_and, if_true, if_false, nn_eq] at *) <;> (try simp only [sw_or, sw_all, or_false, and_true, i32_lt, i32_le, i32_eq, i32_addw, i32_subw, i32_mulw, Int32.reduceToInt] at *) <;> omega) | (apply_assumption; done)) (by first | exact c1 | exact l1 | exact l3 | exact hsq | assumption | (refine pc_of hP ?_; (repeat (first | assumption | exact md_refl | refine md_up ?_ rfl | refine md_fill ?_ rfl | (unfold ik; refine md_up ?_ rfl))); done) | (refine pc_oS hP ?_; (repeat (first | assumption | exact md_refl | refine md_up ?_ rfl | refine md_fill ?_ rfl | (unfold ik; refine md_up ?_ rfl))); done) | (refine pm_of hP ?_; (repeat (first | assumption | exact md_refl | refine md_up ?_ rfl | refine md_fill ?_ rfl | (unfold ik; refine md_up ?_ rfl))); done) | omega | decide | ((try simp +decide only [b01, b10, b11, am_up, ik, and_true, and_false, true_and, false_and, if_true, if_false, nn_eq] at *) <;> (try simp only [sw_or, sw_all, or_false, and_true, i32_lt, i32_le, i32_eq, i32_addw, i32_subw, i32_mulw, Int32.reduceToInt] at *) <;> omega) | (apply_assumption; done)) (by first | exact c1 | exact l1 | exact l3 | exact hsq | assumption | (refine pc_of hP ?_; (repeat (first | assumption | exact md_refl | refine md_up ?_ rfl | refine md_fill ?_ rfl | (unfold ik; refine md_up ?_ rfl))); done) | (refine pc_oS hP ?_; (repeat (first | assumption | exact md_refl | refine md_up ?_ rfl | refine md_fill ?_ rfl | (unfold ik; refine md_up ?_ rfl))); done) | (refine pm_of hP ?_; (repeat (first | assumption | exact md_refl | refine md_up ?_ rfl | refine md_fill ?_ rfl | (unfold ik; refine md_up ?_ rfl))); done) | omega | decide | ((try simp +decide only [b01, b10, b11, am_up, ik, and_true, and_false, true_and, false_and, if_true, if_false, nn_eq] at *) <;> (try simp only [sw_or, sw_all, or_false, and_true, i32_lt, i32_le, i32_eq, i32_addw, i32_subw, i32_mulw, Int32.reduceToInt] at *) <;> omega) | (apply_assumption; done)) (by first | exact c1 | exact l1 | exact l3 | exact hsq | assumption | (refine pc_of hP ?_; (repeat (first | assumption | exact md_refl | refine md_up ?_ rfl | refine md_fill ?_ rfl | (unfold ik; refine md_up ?_ rfl))); done) | (refine pc_oS hP ?_; (repeat (first | assumption | exact md_refl | refine md_up ?_ rfl | refine md_fill ?_ rfl | (unfold ik; refine md_up ?_ rfl))); done) | (refine pm_of hP ?_; (repeat (first | assumption | exact md_refl | refine md_up ?_ rfl | refine md_fill ?_ rfl | (unfold ik; refine md_up ?_ rfl))); done) | omega | decide | ((try simp +decide only [b01, b10, b11, am_up, ik, and_true, and_false, true_and, false_and, if_true, if_false, nn_eq] at *) <;> (try simp only [sw_or, sw_all, or_false, and_true, i32_lt, i32_le, i32_eq, i32_addw, i32_subw, i32_mulw, Int32.reduceToInt] at *) <;> omega) | (apply_assumption; done)) (fun e83 => ?_)
    · skip
      refine r_rv d_MA_stepLocal_86 ?_
      exact h1 e83
  clear h1
  have k40 : st0 192 2 = 21 ∨ st0 192 2 = 25 → ∀ s, QC P st0 (o_push P A (A 2162 i)) s → am_AW c_MA_stepLocal g_MA_stepLocal (fun o' st' => am_ok none o' ∧ am_kv f o' st') 82 [some (.inr (.inl 127)), some (.inl x)] [] s := by
    intro e s hsq
    refine k82 s ?_
    unfold o_lo
    rw [if_pos e]
    exact hsq
  have k53 : st0 192 2 = 132 → am_AW c_MA_stepLocal g_MA_stepLocal (fun o' st' => am_ok none o' ∧ am_kv f o' st') 82 [some (.inr (.inl 127)), some (.inl x)] [] (am_up st 2137 x.toNatClampNeg (st 2137 x.toNatClampNeg + st 194 2)) := by
    intro e
    refine k82 _ ⟨md_up c6.1 rfl, ?_⟩
    unfold o_lo
    rw [if_neg (by rw [e]; decide), if_pos e, ec, e194, ex]
    exact RC_cell c6.2
  have k72 : ¬ (st0 192 2 = 21 ∨ st0 192 2 = 25) → ¬ st0 192 2 = 132 → ∀ s, QC P st0 (o_pop A) s → am_AW c_MA_stepLocal g_MA_stepLocal (fun o' st' => am_ok none o' ∧ am_kv f o' st') 82 [some (.inr (.inl 127)), some (.inl x)] [] (am_up s 2137 x.toNatClampNeg (o_val P A)) := by
    intro e e2 s hsq
    refine k82 _ ⟨md_up hsq.1 rfl, ?_⟩
    unfold o_lo
    rw [if_neg e, if_neg e2, ex]
    exact RC_cell hsq.2
  rw [← e192] at k40 k53 k72 c5 c7
  have s1 : sw_or (st 192 2).toInt [21, 25] → st 192 2 = 21 ∨ st 192 2 = 25 := by
    intro q
    rcases q with q | q | q
    · exact Or.inl (by rw [i32_eq]; exact q)
    · exact Or.inr (by rw [i32_eq]; exact q)
    · exact q.elim
  have s2 : ¬ sw_or (st 192 2).toInt [21, 25] → ¬ (st 192 2 = 21 ∨ st 192 2 = 25) := by
    intro q w
    rcases w with w | w
    · exact q (by rw [w]; exact Or.inl rfl)
    · exact q (by rw [w]; exact Or.inr (Or.inl rfl))
  rw [← ec] at k40
  clear k82 l1 l2 l3
  refine r_al0 (q := 1) d_MA_stepLocal_0 rfl ?_
  refine gt_MA_now (q := 4) d_MA_stepLocal_1 rfl rfl ?_
  refine gt_IN_operation (q := 7) d_MA_stepLocal_4 rfl (by first | exact c1 | exact c5 (s1 e7) | exact c6 | exact c7 (s2 e7.1) (sw_n e7.2.1) | assumption | (refine pc_of hP ?_; (repeat (first | assumption | exact md_refl | refine md_up ?_ rfl | refine md_fill ?_ rfl | (unfold ik; refine md_up ?_ rfl))); done) | (refine pc_oS hP ?_; (repeat (first | assumption | exact md_refl | refine md_up ?_ rfl | refine md_fill ?_ rfl | (unfold ik; refine md_up ?_ rfl))); done) | (refine pm_of hP ?_; (repeat (first | assumption | exact md_refl | refine md_up ?_ rfl | refine md_fill ?_ rfl | (unfold ik; refine md_up ?_ rfl))); done) | omega | decide | ((try simp +decide only [b01, b10, b11, am_up, ik, and_true, and_false, true_and, false_and, if_true, if_false, nn_eq] at *) <;> (try simp only [sw_or, sw_all, or_false, and_true, i32_lt, i32_le, i32_eq, i32_addw, i32_subw, i32_mulw, Int32.reduceToInt] at *) <;> omega) | (apply_assumption; done)) rfl ?_
  refine r_lsw [([21, 25], 40), ([132], 53)] (tgt := 72) d_MA_stepLocal_7 (by decide +kernel) (And.intro (fun e7 => ?_) (And.intro (fun e7 => ?_) trivial)) (fun e7 => ?_)
  · skip
    refine r_al0 (q := 41) d_MA_stepLocal_40 rfl ?_
    refine r_al0 (q := 42) d_MA_stepLocal_41 rfl ?_
    refine gt_MA_cells (q := 45) d_MA_stepLocal_42 rfl rfl ?_
    refine r_il1 (q := 46) d_MA_stepLocal_45 rfl ?_
    refine ld_137 (q := 47) d_MA_stepLocal_46 ?_ rfl ?_
    · exact vx
    refine r_vv1 mo_MA_push d_MA_stepLocal_47 rfl rfl rfl (q := 50) rfl ?_
    refine sp_MA_push (P := P) (st0 := st0) (A := A) (by first | exact c1 | exact c5 (s1 e7) | exact c6 | exact c7 (s2 e7.1) (sw_n e7.2.1) | assumption | (refine pc_of hP ?_; (repeat (first | assumption | exact md_refl | refine md_up ?_ rfl | refine md_fill ?_ rfl | (unfold ik; refine md_up ?_ rfl))); done) | (refine pc_oS hP ?_; (repeat (first | assumption | exact md_refl | refine md_up ?_ rfl | refine md_fill ?_ rfl | (unfold ik; refine md_up ?_ rfl))); done) | (refine pm_of hP ?_; (repeat (first | assumption | exact md_refl | refine md_up ?_ rfl | refine md_fill ?_ rfl | (unfold ik; refine md_up ?_ rfl))); done) | omega | decide | ((try simp +decide only [b01, b10, b11, am_up, ik, and_true, and_false, true_and, false_and, if_true, if_false, nn_eq] at *) <;> (try simp only [sw_or, sw_all, or_false, and_true, i32_lt, i32_le, i32_eq, i32_addw, i32_subw, i32_mulw, Int32.reduceToInt] at *) <;> omega) | (apply_assumption; done)) (by first | exact c1 | exact c5 (s1 e7) | exact c6 | exact c7 (s2 e7.1) (sw_n e7.2.1) | assumption | (refine pc_of hP ?_; (repeat (first | assumption | exact md_refl | refine md_up ?_ rfl | refine md_fill ?_ rfl | (unfold ik; refine md_up ?_ rfl))); done) | (refine pc_oS hP ?_; (repeat (first | assumption | exact md_refl | refine md_up ?_ rfl | refine md_fill ?_ rfl | (unfold ik; refine md_up ?_ rfl))); done) | (refine pm_of hP ?_; (repeat (first | assumption | exact md_refl | refine md_up ?_ rfl | refine md_fill ?_ rfl | (unfold ik; refine md_up ?_ rfl))); done) | omega | decide | ((try simp +decide only [b01, b10, b11, am_up, ik, and_true, and_false, true_and, false_and, if_true, if_false, nn_eq] at *) <;> (try simp only [sw_or, sw_all, or_false, and_true, i32_lt, i32_le, i32_eq, i32_addw, i32_subw, i32_mulw, Int32.reduceToInt] at *) <;> omega) | (apply_assumption; done)) (by first | exact c1 | exact c5 (s1 e7) | exact c6 | exact c7 (s2 e7.1) (sw_n e7.2.1) | assumption | (refine pc_of hP ?_; (repeat (first | assumption | exact md_refl | refine md_up ?_ rfl | refine md_fill ?_ rfl | (unfold ik; refine md_up ?_ rfl))); done) | (refine pc_oS hP ?_; (repeat (first | assumption | exact md_refl | refine md_up ?_ rfl | refine md_fill ?_ rfl | (unfold ik; refine md_up ?_ rfl))); done) | (refine pm_of hP ?_; (repeat (first | assumption | exact md_refl | refine md_up ?_ rfl | refine md_fill ?_ rfl | (unfold ik; refine md_up ?_ rfl))); done) | omega | decide | ((try simp +decide only [b01, b10, b11, am_up, ik, and_true, and_false, true_and, false_and, if_true, if_false, nn_eq] at *) <;> (try simp only [sw_or, sw_all, or_false, and_true, i32_lt, i32_le, i32_eq, i32_addw, i32_subw, i32_mulw, Int32.reduceToInt] at *) <;> omega) | (apply_assumption; done)) (by first | exact c1 | exact c5 (s1 e7) | exact c6 | exact c7 (s2 e7.1) (sw_n e7.2.1) | assumption | (refine pc_of hP ?_; (repeat (first | assumption | exact md_refl | refine md_up ?_ rfl | refine md_fill ?_ rfl | (unfold ik; refine md_up ?_ rfl))); done) | (refine pc_oS hP ?_; (repeat (first | assumption | exact md_refl | refine md_up ?_ rfl | refine md_fill ?_ rfl | (unfold ik; refine md_up ?_ rfl))); done) | (refine pm_of hP ?_; (repeat (first | assumption | exact md_refl | refine md_up ?_ rfl | refine md_fill ?_ rfl | (unfold ik; refine md_up ?_ rfl))); done) | omega | decide | ((try simp +decide only [b01, b10, b11, am_up, ik, and_true, and_false, true_and, false_and, if_true, if_false, nn_eq] at *) <;> (try simp only [sw_or, sw_all, or_false, and_true, i32_lt, i32_le, i32_eq, i32_addw, i32_subw, i32_mulw, Int32.reduceToInt] at *) <;> omega) | (apply_assumption; done)) (by first | exact c1 | exact c5 (s1 e7) | exact c6 | exact c7 (s2 e7.1) (sw_n e7.2.1) | assumption | (refine pc_of hP ?_; (repeat (first | assumption | exact md_refl | refine md_up ?_ rfl | refine md_fill ?_ rfl | (unfold ik; refine md_up ?_ rfl))); done) | (refine pc_oS hP ?_; (repeat (first | assumption | exact md_refl | refine md_up ?_ rfl | refine md_fill ?_ rfl | (unfold ik; refine md_up ?_ rfl))); done) | (refine pm_of hP ?_; (repeat (first | assumption | exact md_refl | refine md_up ?_ rfl | refine md_fill ?_ rfl | (unfold ik; refine md_up ?_ rfl))); done) | omega | decide | ((try simp +decide only [b01, b10, b11, am_up, ik, and_true, and_false, true_and, false_and, if_true, if_false, nn_eq] at *) <;> (try simp only [sw_or, sw_all, or_false, and_true, i32_lt, i32_le, i32_eq, i32_addw, i32_subw, i32_mulw, Int32.reduceToInt] at *) <;> omega) | (apply_assumption; done)) (by first | exact c1 | exact c5 (s1 e7) | exact c6 | exact c7 (s2 e7.1) (sw_n e7.2.1) | assumption | (refine pc_of hP ?_; (repeat (first | assumption | exact md_refl | refine md_up ?_ rfl | refine md_fill ?_ rfl | (unfold ik; refine md_up ?_ rfl))); done) | (refine pc_oS hP ?_; (repeat (first | assumption | exact md_refl | refine md_up ?_ rfl | refine md_fill ?_ rfl | (unfold ik; refine md_up ?_ rfl))); done) | (refine pm_of hP ?_; (repeat (first | assumption | exact md_refl | refine md_up ?_ rfl | refine md_fill ?_ rfl | (unfold ik; refine md_up ?_ rfl))); done) | omega | decide | ((try simp +decide only [b01, b10, b11, am_up, ik, and_true, and_false, true_and, false_and, if_true, if_false, nn_eq] at *) <;> (try simp only [sw_or, sw_all, or_false, and_true, i32_lt, i32_le, i32_eq, i32_addw, i32_subw, i32_mulw, Int32.reduceToInt] at *) <;> omega) | (apply_assumption; done)) (fun e47 => ?_)
    · skip
      refine am_go (tgt := 82) d_MA_stepLocal_50 rfl ?_
      first | exact k40 (s1 e7) _ e47.2 | exact k53 (sw_e e7) | exact k72 (s2 e7.1) (sw_n e7.2.1) _ e78.2
  · skip
    refine r_al0 (q := 54) d_MA_stepLocal_53 rfl ?_
    refine gt_MA_cells (q := 57) d_MA_stepLocal_54 rfl rfl ?_
    refine r_il1 (q := 58) d_MA_stepLocal_57 rfl ?_
    refine r_dup2 (q := 59) d_MA_stepLocal_58 rfl ?_
    refine ld_137 (q := 60) d_MA_stepLocal_59 ?_ rfl ?_
    · exact vx
    refine r_al0 (q := 61) d_MA_stepLocal_60 rfl ?_
    refine gt_MA_now (q := 64) d_MA_stepLocal_61 rfl rfl ?_
    refine gt_IN_growth (q := 67) d_MA_stepLocal_64 rfl (by first | exact c1 | exact c5 (s1 e7) | exact c6 | exact c7 (s2 e7.1) (sw_n e7.2.1) | assumption | (refine pc_of hP ?_; (repeat (first | assumption | exact md_refl | refine md_up ?_ rfl | refine md_fill ?_ rfl | (unfold ik; refine md_up ?_ rfl))); done) | (refine pc_oS hP ?_; (repeat (first | assumption | exact md_refl | refine md_up ?_ rfl | refine md_fill ?_ rfl | (unfold ik; refine md_up ?_ rfl))); done) | (refine pm_of hP ?_; (repeat (first | assumption | exact md_refl | refine md_up ?_ rfl | refine md_fill ?_ rfl | (unfold ik; refine md_up ?_ rfl))); done) | omega | decide | ((try simp +decide only [b01, b10, b11, am_up, ik, and_true, and_false, true_and, false_and, if_true, if_false, nn_eq] at *) <;> (try simp only [sw_or, sw_all, or_false, and_true, i32_lt, i32_le, i32_eq, i32_addw, i32_subw, i32_mulw, Int32.reduceToInt] at *) <;> omega) | (apply_assumption; done)) rfl ?_
    refine r_iadd (q := 68) d_MA_stepLocal_67 rfl ?_
    refine sv_137 (q := 69) d_MA_stepLocal_68 ?_ rfl ?_
    · exact vx
    refine am_go (tgt := 82) d_MA_stepLocal_69 rfl ?_
    first | exact k40 (s1 e7) _ e47.2 | exact k53 (sw_e e7) | exact k72 (s2 e7.1) (sw_n e7.2.1) _ e78.2
  · skip
    refine r_al0 (q := 73) d_MA_stepLocal_72 rfl ?_
    refine gt_MA_cells (q := 76) d_MA_stepLocal_73 rfl rfl ?_
    refine r_il1 (q := 77) d_MA_stepLocal_76 rfl ?_
    refine r_al0 (q := 78) d_MA_stepLocal_77 rfl ?_
    refine r_vi0 mo_MA_pop d_MA_stepLocal_78 rfl rfl rfl (q := 81) rfl ?_
    refine sp_MA_pop (P := P) (st0 := st0) (A := A) (by first | exact c1 | exact c5 (s1 e7) | exact c6 | exact c7 (s2 e7.1) (sw_n e7.2.1) | assumption | (refine pc_of hP ?_; (repeat (first | assumption | exact md_refl | refine md_up ?_ rfl | refine md_fill ?_ rfl | (unfold ik; refine md_up ?_ rfl))); done) | (refine pc_oS hP ?_; (repeat (first | assumption | exact md_refl | refine md_up ?_ rfl | refine md_fill ?_ rfl | (unfold ik; refine md_up ?_ rfl))); done) | (refine pm_of hP ?_; (repeat (first | assumption | exact md_refl | refine md_up ?_ rfl | refine md_fill ?_ rfl | (unfold ik; refine md_up ?_ rfl))); done) | omega | decide | ((try simp +decide only [b01, b10, b11, am_up, ik, and_true, and_false, true_and, false_and, if_true, if_false, nn_eq] at *) <;> (try simp only [sw_or, sw_all, or_false, and_true, i32_lt, i32_le, i32_eq, i32_addw, i32_subw, i32_mulw, Int32.reduceToInt] at *) <;> omega) | (apply_assumption; done)) (by first | exact c1 | exact c5 (s1 e7) | exact c6 | exact c7 (s2 e7.1) (sw_n e7.2.1) | assumption | (refine pc_of hP ?_; (repeat (first | assumption | exact md_refl | refine md_up ?_ rfl | refine md_fill ?_ rfl | (unfold ik; refine md_up ?_ rfl))); done) | (refine pc_oS hP ?_; (repeat (first | assumption | exact md_refl | refine md_up ?_ rfl | refine md_fill ?_ rfl | (unfold ik; refine md_up ?_ rfl))); done) | (refine pm_of hP ?_; (repeat (first | assumption | exact md_refl | refine md_up ?_ rfl | refine md_fill ?_ rfl | (unfold ik; refine md_up ?_ rfl))); done) | omega | decide | ((try simp +decide only [b01, b10, b11, am_up, ik, and_true, and_false, true_and, false_and, if_true, if_false, nn_eq] at *) <;> (try simp only [sw_or, sw_all, or_false, and_true, i32_lt, i32_le, i32_eq, i32_addw, i32_subw, i32_mulw, Int32.reduceToInt] at *) <;> omega) | (apply_assumption; done)) (by first | exact c1 | exact c5 (s1 e7) | exact c6 | exact c7 (s2 e7.1) (sw_n e7.2.1) | assumption | (refine pc_of hP ?_; (repeat (first | assumption | exact md_refl | refine md_up ?_ rfl | refine md_fill ?_ rfl | (unfold ik; refine md_up ?_ rfl))); done) | (refine pc_oS hP ?_; (repeat (first | assumption | exact md_refl | refine md_up ?_ rfl | refine md_fill ?_ rfl | (unfold ik; refine md_up ?_ rfl))); done) | (refine pm_of hP ?_; (repeat (first | assumption | exact md_refl | refine md_up ?_ rfl | refine md_fill ?_ rfl | (unfold ik; refine md_up ?_ rfl))); done) | omega | decide | ((try simp +decide only [b01, b10, b11, am_up, ik, and_true, and_false, true_and, false_and, if_true, if_false, nn_eq] at *) <;> (try simp only [sw_or, sw_all, or_false, and_true, i32_lt, i32_le, i32_eq, i32_addw, i32_subw, i32_mulw, Int32.reduceToInt] at *) <;> omega) | (apply_assumption; done)) (by first | exact c1 | exact c5 (s1 e7) | exact c6 | exact c7 (s2 e7.1) (sw_n e7.2.1) | assumption | (refine pc_of hP ?_; (repeat (first | assumption | exact md_refl | refine md_up ?_ rfl | refine md_fill ?_ rfl | (unfold ik; refine md_up ?_ rfl))); done) | (refine pc_oS hP ?_; (repeat (first | assumption | exact md_refl | refine md_up ?_ rfl | refine md_fill ?_ rfl | (unfold ik; refine md_up ?_ rfl))); done) | (refine pm_of hP ?_; (repeat (first | assumption | exact md_refl | refine md_up ?_ rfl | refine md_fill ?_ rfl | (unfold ik; refine md_up ?_ rfl))); done) | omega | decide | ((try simp +decide only [b01, b10, b11, am_up, ik, and_true, and_false, true_and, false_and, if_true, if_false, nn_eq] at *) <;> (try simp only [sw_or, sw_all, or_false, and_true, i32_lt, i32_le, i32_eq, i32_addw, i32_subw, i32_mulw, Int32.reduceToInt] at *) <;> omega) | (apply_assumption; done)) (by first | exact c1 | exact c5 (s1 e7) | exact c6 | exact c7 (s2 e7.1) (sw_n e7.2.1) | assumption | (refine pc_of hP ?_; (repeat (first | assumption | exact md_refl | refine md_up ?_ rfl | refine md_fill ?_ rfl | (unfold ik; refine md_up ?_ rfl))); done) | (refine pc_oS hP ?_; (repeat (first | assumption | exact md_refl | refine md_up ?_ rfl | refine md_fill ?_ rfl | (unfold ik; refine md_up ?_ rfl))); done) | (refine pm_of hP ?_; (repeat (first | assumption | exact md_refl | refine md_up ?_ rfl | refine md_fill ?_ rfl | (unfold ik; refine md_up ?_ rfl))); done) | omega | decide | ((try simp +decide only [b01, b10, b11, am_up, ik, and_true, and_false, true_and, false_and, if_true, if_false, nn_eq] at *) <;> (try simp only [sw_or, sw_all, or_false, and_true, i32_lt, i32_le, i32_eq, i32_addw, i32_subw, i32_mulw, Int32.reduceToInt] at *) <;> omega) | (apply_assumption; done)) (by first | exact c1 | exact c5 (s1 e7) | exact c6 | exact c7 (s2 e7.1) (sw_n e7.2.1) | assumption | (refine pc_of hP ?_; (repeat (first | assumption | exact md_refl | refine md_up ?_ rfl | refine md_fill ?_ rfl | (unfold ik; refine md_up ?_ rfl))); done) | (refine pc_oS hP ?_; (repeat (first | assumption | exact md_refl | refine md_up ?_ rfl | refine md_fill ?_ rfl | (unfold ik; refine md_up ?_ rfl))); done) | (refine pm_of hP ?_; (repeat (first | assumption | exact md_refl | refine md_up ?_ rfl | refine md_fill ?_ rfl | (unfold ik; refine md_up ?_ rfl))); done) | omega | decide | ((try simp +decide only [b01, b10, b11, am_up, ik, and_true, and_false, true_and, false_and, if_true, if_false, nn_eq] at *) <;> (try simp only [sw_or, sw_all, or_false, and_true, i32_lt, i32_le, i32_eq, i32_addw, i32_subw, i32_mulw, Int32.reduceToInt] at *) <;> omega) | (apply_assumption; done)) (fun e78 => ?_)
    · skip
      refine sv_137 (q := 82) d_MA_stepLocal_81 ?_ rfl ?_
      · exact vx
      first | exact k40 (s1 e7) _ e47.2 | exact k53 (sw_e e7) | exact k72 (s2 e7.1) (sw_n e7.2.1) _ e78.2

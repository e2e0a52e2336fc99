/-! written by wip/whole/gen/walk.py out of 99p.cstep2.txt -/
/-- one step of A to A', and what it wants -/
def stC (P A : am_S) (op n g z : Int32) (A' : am_S) : Prop := (op_calc op ∧ (2 ≤ sD A ∧ HT P (o_pop (o_pop A))) ∧ ((o_val P A = 0 ∧ (op = 108 ∨ op = 112)) ∧ A' = o_trap P (fn A) 1 (o_pop (o_pop A)) ∨ ¬ (o_val P A = 0 ∧ (op = 108 ∨ op = 112)) ∧ A' = o_go (o_push P (o_pop (o_pop A)) (o_cal op (o_val P (o_pop A)) (o_val P A))) z)) ∨ (op_jump op ∧ (o_jn op ≤ sD A ∧ (op = 198 ∨ op = 199 → o_val P A = -1 ∨ 0 ≤ (o_val P A).toInt)) ∧ (o_tk P A op ∧ A' = o_go (o_jA A op) n ∨ ¬ o_tk P A op ∧ A' = o_go (o_jA A op) z)) ∨ (op_loc op ∧ ((op = 21 ∨ op = 25 → sD A < fhe P A (lf A)) ∧ (¬ (op = 21 ∨ op = 25) → ¬ op = 132 → 0 < sD A) ∧ 0 ≤ n.toInt ∧ n.toInt < (flo P A (lf A) : Int)) ∧ A' = o_go (o_lo P A op (fb A (lf A) + n.toInt.toNat) g) z) ∨ ((¬ op_calc op ∧ ¬ op_jump op ∧ ¬ op_loc op) ∧ otC P A op n ∧ A' = o_ot P A op n z)
def cRI (b : Nat) : Bool := cR b || (192 ≤ b && b ≤ 195)
theorem md_RI {s t : am_S} (h : am_md cR s t) : am_md cRI s t := by
  intro b hb
  refine h b ?_
  unfold cRI at hb
  simp only [Bool.or_eq_false_iff] at hb
  exact hb.1
theorem pc_oI {s t P : am_S} (h : PC s P) (hm : am_md cRI s t) : PC t P := by
  unfold PC at *
  rw [hm 2129 rfl, hm 67 rfl, hm 68 rfl, hm 69 rfl, hm 70 rfl, hm 71 rfl, hm 72 rfl, hm 66 rfl, hm 128 rfl, hm 129 rfl, hm 130 rfl, hm 131 rfl, hm 323 rfl, hm 322 rfl]
  exact h
theorem oc_j {op : Int32} (h : op_calc op) : ¬ op_jump op ∧ ¬ op_loc op := by
  have h' := calc_m.mp h
  simp only [List.mem_cons, List.not_mem_nil, or_false] at h'
  clear h
  unfold op_jump op_loc
  simp only [i32_le, i32_eq, Int32.reduceToInt]
  omega
theorem oj_l {op : Int32} (h : op_jump op) : ¬ op_loc op := by
  unfold op_jump op_loc at *
  simp only [i32_le, i32_eq, Int32.reduceToInt] at *
  omega
theorem RC_bk {P st s A : am_S} (h : RC P st A) (e : ∀ b, ¬ (192 ≤ b ∧ b ≤ 195) → s b = st b) : RC P s A := by
  unfold RC
  rw [e 519 (by omega), e 518 (by omega), e 0 (by omega), e 1 (by omega), e 2 (by omega), e 3 (by omega), e 2137 (by omega), e 2139 (by omega), e 520 (by omega), e 2140 (by omega), e 521 (by omega), e 522 (by omega)]
  exact h
/-- numbers that an instruction does not have do not matter -/
theorem st_irr {P A A' : am_S} {a : Nat} {n g z : Int32} (hv : VP P) (hn : uN (P 0 a) → n = pN P a) (hg : P 0 a = 132 → g = pG P a) (h : stC P A (pO P a) (pN P a) (pG P a) z A') : stC P A (pO P a) n g z A' := by
  have hb := hv.2.1 a
  have hl : op_loc (pO P a) → n = pN P a := by
    intro q
    refine hn (Classical.byContradiction fun u => ?_)
    have key : ∀ b : Fin 256, ¬ uN (nI b.val) → ¬ op_loc (dO (nI b.val)) := by
      unfold uN op_loc dO dZ op_z
      decide +kernel
    exact by_dec (Q := fun b => ¬ uN b → ¬ op_loc (dO b)) key hb.1 hb.2 u q
  have hj : op_jump (pO P a) → n = pN P a := fun q => hn (uN_j hb.1 hb.2 q)
  have h9 : pO P a = 17 ∨ pO P a = 178 ∨ pO P a = 179 ∨ pO P a = 184 → n = pN P a := by
    intro q
    refine hn (Classical.byContradiction fun u => ?_)
    have key : ∀ b : Fin 256, ¬ uN (nI b.val) → ¬ (dO (nI b.val) = 17 ∨ dO (nI b.val) = 178 ∨ dO (nI b.val) = 179 ∨ dO (nI b.val) = 184) := by
      unfold uN dO dZ op_z
      decide +kernel
    exact by_dec (Q := fun b => ¬ uN b → ¬ (dO b = 17 ∨ dO b = 178 ∨ dO b = 179 ∨ dO b = 184)) key hb.1 hb.2 u q
  have hgg : pO P a = 132 → g = pG P a := by
    intro q
    refine hg ?_
    exact ((pl_f hb.1 hb.2).2.2.2.2.2).mp q
  rcases h with h | ⟨j1, j2, j3⟩ | ⟨l1, l2, l3⟩ | ⟨o1, o2, o3⟩
  · exact Or.inl h
  · refine Or.inr (Or.inl ⟨j1, j2, ?_⟩)
    rw [hj j1]
    exact j3
  · refine Or.inr (Or.inr (Or.inl ⟨l1, ?_, ?_⟩))
    · rw [hl l1]
      exact l2
    · rw [hl l1, l3]
      unfold o_lo
      by_cases e : pO P a = 132
      · rw [hgg e]
      · simp only [if_neg e]
  · refine Or.inr (Or.inr (Or.inr ⟨o1, ?_, ?_⟩))
    · obtain ⟨p1, p2, p3, p4, p5, p6, p7, p8, p9⟩ := o2
      refine ⟨p1, p2, p3, p4, fun e => ?_, p6, p7, ?_, p9⟩
      · rw [h9 (Or.inr (Or.inr (Or.inr e)))]
        exact p5 e
      · obtain ⟨q1, q2, q3, q4, q5⟩ := p8
        refine ⟨q1, q2, q3, q4, fun e => ?_⟩
        rw [h9 (by rcases e with e | e; exact Or.inr (Or.inl e); exact Or.inr (Or.inr (Or.inl e)))]
        exact q5 e
    · rw [o3]
      by_cases e : pO P a = 17 ∨ pO P a = 178 ∨ pO P a = 179 ∨ pO P a = 184
      · rw [h9 e]
      · unfold o_ot o_mv
        rw [not_or, not_or, not_or] at e
        simp only [if_neg e.1, if_neg e.2.1, if_neg e.2.2.1, if_neg e.2.2.2]
theorem sp_MA_step {P A A' : am_S} {p : Nat} {st : am_S} {f : am_S → Prop} (c1 : PC st P) (c2 : VP P) (c3 : BV P A) (c4 : 0 < fn A) (c5 : (A 2164 (lf A)).toInt = (p : Int) ∧ p < nl P (fm A (lf A)) ∧ p + (pZ P (nb P (fm A (lf A)) + p)).toInt.toNat ≤ nl P (fm A (lf A))) (c6 : RC P st A) (c7 : stC P A (pO P (nb P (fm A (lf A)) + p)) (pN P (nb P (fm A (lf A)) + p)) (pG P (nb P (fm A (lf A)) + p)) (pZ P (nb P (fm A (lf A)) + p)) A') (h1 : ∀ q : {q : am_S // am_md cRI st q ∧ RC P q A'}, f q.1) : wp_MA_step [.inr (.inl 127)] st (am_kv f) := by
  refine ⟨⟨rfl, Nat.le_of_ble_eq_true rfl⟩, ?_⟩
  obtain ⟨t1, t2, t3, t4, t5, t6, t7, t8, t9, t10⟩ := RC_tw c1 c2 c3 c6 c4
  have tm := (RC_top c1 c2 c3 c6 c4).2.2.2.2.2.2.2.2.2.2
  have cfm := cf c1 c2 tm
  have ep : st 1 (st 518 0).toNatClampNeg = A 2164 (lf A) := by rw [t1]; exact (c6.2.1 (lf A) (by unfold lf; omega)).2.1
  have e67 : (st 67 (st 0 (st 518 0).toNatClampNeg).toNatClampNeg).toInt = (nb P (fm A (lf A)) : Int) := by
    rw [t3, c1.1.2.1]
    have := cfm.2.1.1
    rw [c1.1.2.1] at this
    unfold nb
    omega
  have hz := @pZ_n P (nb P (fm A (lf A)) + p) c2
  have hin : nb P (fm A (lf A)) + nl P (fm A (lf A)) ≤ (st 322 0).toInt.toNat ∧ (st 322 0).toInt ≤ 200 := by
    have h1 := cfm.2.1
    rw [c1.1.2.1, c1.1.2.2.1] at h1
    unfold nb nl
    omega
  have hx : (st 67 (st 0 (st 518 0).toNatClampNeg).toNatClampNeg + st 1 (st 518 0).toNatClampNeg).toInt = (nb P (fm A (lf A)) : Int) + p := by
    rw [i32_addw, ep]
    omega
  have hxn : (st 67 (st 0 (st 518 0).toNatClampNeg).toNatClampNeg + st 1 (st 518 0).toNatClampNeg).toNatClampNeg = nb P (fm A (lf A)) + p := by
    rw [nn_eq, hx]
    omega
  have hxi : 0 ≤ (st 67 (st 0 (st 518 0).toNatClampNeg).toNatClampNeg + st 1 (st 518 0).toNatClampNeg).toInt ∧ (st 67 (st 0 (st 518 0).toNatClampNeg).toNatClampNeg + st 1 (st 518 0).toNatClampNeg).toInt < (st 322 0).toInt := by omega
  have k29 : ∀ n g, (uN (P 0 (nb P (fm A (lf A)) + p)) → n = pN P (nb P (fm A (lf A)) + p)) → (P 0 (nb P (fm A (lf A)) + p) = 132 → g = pG P (nb P (fm A (lf A)) + p)) → am_AW c_MA_step g_MA_step (fun o st' => am_ok none o ∧ am_kv f o st') 29 [some (.inr (.inl 127))] [] (am_up (ik st 2 (pO P (nb P (fm A (lf A)) + p)) n (pZ P (nb P (fm A (lf A)) + p))) 194 2 g) := by
    intro n g hn hg
    have hS := st_irr c2 hn hg c7
    generalize hop : pO P (nb P (fm A (lf A)) + p) = op at *
    generalize hzz : pZ P (nb P (fm A (lf A)) + p) = z at *
    have v1 : am_up (ik st 2 op n z) 194 2 g 192 2 = op := rfl
    have v2 : am_up (ik st 2 op n z) 194 2 g 193 2 = n := rfl
    have v3 : am_up (ik st 2 op n z) 194 2 g 195 2 = z := rfl
    have v4 : am_up (ik st 2 op n z) 194 2 g 194 2 = g := rfl
    have vb : ∀ b, ¬ (192 ≤ b ∧ b ≤ 195) → am_up (ik st 2 op n z) 194 2 g b = st b := by
      intro b hb
      unfold ik
      rw [am_up_bank (by omega), am_up_bank (by omega), am_up_bank (by omega), am_up_bank (by omega)]
    generalize hs1 : am_up (ik st 2 op n z) 194 2 g = s1 at *
    have m1 : am_md cRI st s1 := by
      rw [← hs1]
      unfold ik
      exact md_up (md_up (md_up (md_up md_refl rfl) rfl) rfl) rfl
    have pc1 := pc_oI c1 m1
    have q1 : QC P s1 A s1 := ⟨md_refl, RC_bk c6 vb⟩
    have kE : ∀ q, QC P s1 A' q → f q := fun q hq => h1 ⟨q, md_trans m1 (md_RI hq.1), hq.2⟩
    clear h1 c7 hs1
    rw [← v1, ← v2, ← v3, ← v4] at hS
    clear hop hzz hn hg
    rcases hS with ⟨s1c, ⟨s2, s3⟩, s4⟩ | ⟨s1c, ⟨s2, -⟩, s4⟩ | ⟨s1c, ⟨s2, s3, s4, s5⟩, s6⟩ | ⟨⟨n1, n2, n3⟩, s2, s3⟩
    · have kT : (o_val P A = 0 ∧ (s1 192 2 = 108 ∨ s1 192 2 = 112)) → ∀ q, QC P s1 (o_trap P (fn A) 1 (o_pop (o_pop A))) q → f q := by
        intro e q hq
        refine kE q ?_
        rcases s4 with w | w
        · rw [w.2]
          exact hq
        · exact absurd e w.1
      have kN : ¬ (o_val P A = 0 ∧ (s1 192 2 = 108 ∨ s1 192 2 = 112)) → ∀ q, QC P s1 (o_go (o_push P (o_pop (o_pop A)) (o_cal (s1 192 2) (o_val P (o_pop A)) (o_val P A))) (s1 195 2)) q → f q := by
        intro e q hq
        refine kE q ?_
        rcases s4 with w | w
        · exact absurd w.1 e
        · rw [w.2]
          exact hq
      refine r_al0 (q := 30) d_MA_step_29 rfl ?_
      refine gt_MA_now (q := 33) d_MA_step_30 rfl rfl ?_
      refine gt_IN_operation (q := 36) d_MA_step_33 rfl (by first | exact pc1 | exact s2 | exact s3 | exact q1 | assumption | (refine pc_of hP ?_; (repeat (first | assumption | exact md_refl | refine md_up ?_ rfl | refine md_fill ?_ rfl | (unfold ik; refine md_up ?_ rfl))); done) | (refine pc_oS hP ?_; (repeat (first | assumption | exact md_refl | refine md_up ?_ rfl | refine md_fill ?_ rfl | (unfold ik; refine md_up ?_ rfl))); done) | (refine pm_of hP ?_; (repeat (first | assumption | exact md_refl | refine md_up ?_ rfl | refine md_fill ?_ rfl | (unfold ik; refine md_up ?_ rfl))); done) | omega | decide | ((try simp +decide only [b01, b10, b11, am_up, ik, and_true, and_false, true_and, false_and, if_true, if_false, nn_eq] at *) <;> (try simp only [sw_or, sw_all, or_false, and_true, i32_lt, i32_le, i32_eq, i32_addw, i32_subw, i32_mulw, Int32.reduceToInt] at *) <;> omega) | (apply_assumption; done)) rfl ?_
      refine r_si1 mo_OP_isCalculation d_MA_step_36 rfl rfl (q := 39) rfl ?_
      refine sp_OP_isCalculation (fun e36 => ?_) (fun e36 => ?_)
      · skip
        refine r_zeq (tgt := 49) (q := 42) d_MA_step_39 rfl rfl (fun e39 => by exfalso; revert e39; decide) (fun e39 => ?_)
        refine r_al0 (q := 43) d_MA_step_42 rfl ?_
        refine r_vv0 mo_MA_stepCalculation d_MA_step_43 rfl rfl rfl (q := 46) rfl ?_
        refine sp_MA_stepCalculation (P := P) (st0 := s1) (A := A) (by first | exact pc1 | exact s2 | exact s3 | exact q1 | assumption | (refine pc_of hP ?_; (repeat (first | assumption | exact md_refl | refine md_up ?_ rfl | refine md_fill ?_ rfl | (unfold ik; refine md_up ?_ rfl))); done) | (refine pc_oS hP ?_; (repeat (first | assumption | exact md_refl | refine md_up ?_ rfl | refine md_fill ?_ rfl | (unfold ik; refine md_up ?_ rfl))); done) | (refine pm_of hP ?_; (repeat (first | assumption | exact md_refl | refine md_up ?_ rfl | refine md_fill ?_ rfl | (unfold ik; refine md_up ?_ rfl))); done) | omega | decide | ((try simp +decide only [b01, b10, b11, am_up, ik, and_true, and_false, true_and, false_and, if_true, if_false, nn_eq] at *) <;> (try simp only [sw_or, sw_all, or_false, and_true, i32_lt, i32_le, i32_eq, i32_addw, i32_subw, i32_mulw, Int32.reduceToInt] at *) <;> omega) | (apply_assumption; done)) (by first | exact pc1 | exact s2 | exact s3 | exact q1 | assumption | (refine pc_of hP ?_; (repeat (first | assumption | exact md_refl | refine md_up ?_ rfl | refine md_fill ?_ rfl | (unfold ik; refine md_up ?_ rfl))); done) | (refine pc_oS hP ?_; (repeat (first | assumption | exact md_refl | refine md_up ?_ rfl | refine md_fill ?_ rfl | (unfold ik; refine md_up ?_ rfl))); done) | (refine pm_of hP ?_; (repeat (first | assumption | exact md_refl | refine md_up ?_ rfl | refine md_fill ?_ rfl | (unfold ik; refine md_up ?_ rfl))); done) | omega | decide | ((try simp +decide only [b01, b10, b11, am_up, ik, and_true, and_false, true_and, false_and, if_true, if_false, nn_eq] at *) <;> (try simp only [sw_or, sw_all, or_false, and_true, i32_lt, i32_le, i32_eq, i32_addw, i32_subw, i32_mulw, Int32.reduceToInt] at *) <;> omega) | (apply_assumption; done)) (by first | exact pc1 | exact s2 | exact s3 | exact q1 | assumption | (refine pc_of hP ?_; (repeat (first | assumption | exact md_refl | refine md_up ?_ rfl | refine md_fill ?_ rfl | (unfold ik; refine md_up ?_ rfl))); done) | (refine pc_oS hP ?_; (repeat (first | assumption | exact md_refl | refine md_up ?_ rfl | refine md_fill ?_ rfl | (unfold ik; refine md_up ?_ rfl))); done) | (refine pm_of hP ?_; (repeat (first | assumption | exact md_refl | refine md_up ?_ rfl | refine md_fill ?_ rfl | (unfold ik; refine md_up ?_ rfl))); done) | omega | decide | ((try simp +decide only [b01, b10, b11, am_up, ik, and_true, and_false, true_and, false_and, if_true, if_false, nn_eq] at *) <;> (try simp only [sw_or, sw_all, or_false, and_true, i32_lt, i32_le, i32_eq, i32_addw, i32_subw, i32_mulw, Int32.reduceToInt] at *) <;> omega) | (apply_assumption; done)) (by first | exact pc1 | exact s2 | exact s3 | exact q1 | assumption | (refine pc_of hP ?_; (repeat (first | assumption | exact md_refl | refine md_up ?_ rfl | refine md_fill ?_ rfl | (unfold ik; refine md_up ?_ rfl))); done) | (refine pc_oS hP ?_; (repeat (first | assumption | exact md_refl | refine md_up ?_ rfl | refine md_fill ?_ rfl | (unfold ik; refine md_up ?_ rfl))); done) | (refine pm_of hP ?_; (repeat (first | assumption | exact md_refl | refine md_up ?_ rfl | refine md_fill ?_ rfl | (unfold ik; refine md_up ?_ rfl))); done) | omega | decide | ((try simp +decide only [b01, b10, b11, am_up, ik, and_true, and_false, true_and, false_and, if_true, if_false, nn_eq] at *) <;> (try simp only [sw_or, sw_all, or_false, and_true, i32_lt, i32_le, i32_eq, i32_addw, i32_subw, i32_mulw, Int32.reduceToInt] at *) <;> omega) | (apply_assumption; done)) (by first | exact pc1 | exact s2 | exact s3 | exact q1 | assumption | (refine pc_of hP ?_; (repeat (first | assumption | exact md_refl | refine md_up ?_ rfl | refine md_fill ?_ rfl | (unfold ik; refine md_up ?_ rfl))); done) | (refine pc_oS hP ?_; (repeat (first | assumption | exact md_refl | refine md_up ?_ rfl | refine md_fill ?_ rfl | (unfold ik; refine md_up ?_ rfl))); done) | (refine pm_of hP ?_; (repeat (first | assumption | exact md_refl | refine md_up ?_ rfl | refine md_fill ?_ rfl | (unfold ik; refine md_up ?_ rfl))); done) | omega | decide | ((try simp +decide only [b01, b10, b11, am_up, ik, and_true, and_false, true_and, false_and, if_true, if_false, nn_eq] at *) <;> (try simp only [sw_or, sw_all, or_false, and_true, i32_lt, i32_le, i32_eq, i32_addw, i32_subw, i32_mulw, Int32.reduceToInt] at *) <;> omega) | (apply_assumption; done)) (by first | exact pc1 | exact s2 | exact s3 | exact q1 | assumption | (refine pc_of hP ?_; (repeat (first | assumption | exact md_refl | refine md_up ?_ rfl | refine md_fill ?_ rfl | (unfold ik; refine md_up ?_ rfl))); done) | (refine pc_oS hP ?_; (repeat (first | assumption | exact md_refl | refine md_up ?_ rfl | refine md_fill ?_ rfl | (unfold ik; refine md_up ?_ rfl))); done) | (refine pm_of hP ?_; (repeat (first | assumption | exact md_refl | refine md_up ?_ rfl | refine md_fill ?_ rfl | (unfold ik; refine md_up ?_ rfl))); done) | omega | decide | ((try simp +decide only [b01, b10, b11, am_up, ik, and_true, and_false, true_and, false_and, if_true, if_false, nn_eq] at *) <;> (try simp only [sw_or, sw_all, or_false, and_true, i32_lt, i32_le, i32_eq, i32_addw, i32_subw, i32_mulw, Int32.reduceToInt] at *) <;> omega) | (apply_assumption; done)) (by first | exact pc1 | exact s2 | exact s3 | exact q1 | assumption | (refine pc_of hP ?_; (repeat (first | assumption | exact md_refl | refine md_up ?_ rfl | refine md_fill ?_ rfl | (unfold ik; refine md_up ?_ rfl))); done) | (refine pc_oS hP ?_; (repeat (first | assumption | exact md_refl | refine md_up ?_ rfl | refine md_fill ?_ rfl | (unfold ik; refine md_up ?_ rfl))); done) | (refine pm_of hP ?_; (repeat (first | assumption | exact md_refl | refine md_up ?_ rfl | refine md_fill ?_ rfl | (unfold ik; refine md_up ?_ rfl))); done) | omega | decide | ((try simp +decide only [b01, b10, b11, am_up, ik, and_true, and_false, true_and, false_and, if_true, if_false, nn_eq] at *) <;> (try simp only [sw_or, sw_all, or_false, and_true, i32_lt, i32_le, i32_eq, i32_addw, i32_subw, i32_mulw, Int32.reduceToInt] at *) <;> omega) | (apply_assumption; done)) (fun e43 => ?_) (fun e43 => ?_)
        · skip
          refine am_go (tgt := 147) d_MA_step_46 rfl ?_
          refine r_rv d_MA_step_147 ?_
          first | exact kT e43.2.1 _ e43.2.2 | exact kN e43.2.1 _ e43.2.2
        · skip
          refine am_go (tgt := 147) d_MA_step_46 rfl ?_
          refine r_rv d_MA_step_147 ?_
          first | exact kT e43.2.1 _ e43.2.2 | exact kN e43.2.1 _ e43.2.2
      · skip
        refine r_zeq (tgt := 49) (q := 42) d_MA_step_39 rfl rfl (fun e39 => ?_) (fun e39 => by exfalso; revert e39; decide)
        exact absurd s1c e36
    · obtain ⟨u1, u2, -⟩ := RC_tw pc1 c2 c3 q1.2 c4
      have nc : ¬ op_calc (s1 192 2) := fun q => (oc_j q).1 s1c
      have pl : ∀ q, QC P s1 (o_jA A (s1 192 2)) q → ∀ d, (o_tk P A (s1 192 2) ∧ d = s1 193 2 ∨ ¬ o_tk P A (s1 192 2) ∧ d = s1 195 2) → f (am_up q 1 (s1 518 0).toNatClampNeg (s1 1 (s1 518 0).toNatClampNeg + d)) := by
        intro q hq d hd
        have eA : A' = o_go (o_jA A (s1 192 2)) d := by
          rcases hd with ⟨w1, w2⟩ | ⟨w1, w2⟩
          · rcases s4 with x | x
            · rw [x.2, w2]
            · exact absurd w1 x.1
          · rcases s4 with x | x
            · exact absurd x.1 w1
            · rw [x.2, w2]
        have lj : lf (o_jA A (s1 192 2)) = lf A ∧ (o_jA A (s1 192 2)) 2164 = A 2164 := by
          unfold o_jA
          split
          · exact ⟨rfl, rfl⟩
          · split
            · exact ⟨rfl, rfl⟩
            · exact ⟨rfl, rfl⟩
        have e1 : s1 1 (s1 518 0).toNatClampNeg = (o_jA A (s1 192 2)) 2164 (lf (o_jA A (s1 192 2))) := by
          rw [u1, lj.1, lj.2]
          exact (q1.2.2.1 (lf A) (by unfold lf; omega)).2.1
        refine kE _ ?_
        rw [eA, e1, u1, ← lj.1]
        exact ⟨md_up hq.1 rfl, RC_set hq.2⟩
      have gq : ∀ q, QC P s1 (o_jA A (s1 192 2)) q → q 193 2 = s1 193 2 ∧ q 195 2 = s1 195 2 := fun q hq => ⟨by rw [hq.1 193 rfl], by rw [hq.1 195 rfl]⟩
      refine r_al0 (q := 30) d_MA_step_29 rfl ?_
      refine gt_MA_now (q := 33) d_MA_step_30 rfl rfl ?_
      refine gt_IN_operation (q := 36) d_MA_step_33 rfl (by first | exact pc1 | exact s2 | exact s1c | exact q1 | exact u2 | assumption | (refine pc_of hP ?_; (repeat (first | assumption | exact md_refl | refine md_up ?_ rfl | refine md_fill ?_ rfl | (unfold ik; refine md_up ?_ rfl))); done) | (refine pc_oS hP ?_; (repeat (first | assumption | exact md_refl | refine md_up ?_ rfl | refine md_fill ?_ rfl | (unfold ik; refine md_up ?_ rfl))); done) | (refine pm_of hP ?_; (repeat (first | assumption | exact md_refl | refine md_up ?_ rfl | refine md_fill ?_ rfl | (unfold ik; refine md_up ?_ rfl))); done) | omega | decide | ((try simp +decide only [b01, b10, b11, am_up, ik, and_true, and_false, true_and, false_and, if_true, if_false, nn_eq] at *) <;> (try simp only [sw_or, sw_all, or_false, and_true, i32_lt, i32_le, i32_eq, i32_addw, i32_subw, i32_mulw, Int32.reduceToInt] at *) <;> omega) | (apply_assumption; done)) rfl ?_
      refine r_si1 mo_OP_isCalculation d_MA_step_36 rfl rfl (q := 39) rfl ?_
      refine sp_OP_isCalculation (fun e36 => ?_) (fun e36 => ?_)
      · skip
        refine r_zeq (tgt := 49) (q := 42) d_MA_step_39 rfl rfl (fun e39 => by exfalso; revert e39; decide) (fun e39 => ?_)
        first | exact absurd e36 nc | exact absurd s1c e56
      · skip
        refine r_zeq (tgt := 49) (q := 42) d_MA_step_39 rfl rfl (fun e39 => ?_) (fun e39 => by exfalso; revert e39; decide)
        refine r_al0 (q := 50) d_MA_step_49 rfl ?_
        refine gt_MA_now (q := 53) d_MA_step_50 rfl rfl ?_
        refine gt_IN_operation (q := 56) d_MA_step_53 rfl (by first | exact pc1 | exact s2 | exact s1c | exact q1 | exact u2 | assumption | (refine pc_of hP ?_; (repeat (first | assumption | exact md_refl | refine md_up ?_ rfl | refine md_fill ?_ rfl | (unfold ik; refine md_up ?_ rfl))); done) | (refine pc_oS hP ?_; (repeat (first | assumption | exact md_refl | refine md_up ?_ rfl | refine md_fill ?_ rfl | (unfold ik; refine md_up ?_ rfl))); done) | (refine pm_of hP ?_; (repeat (first | assumption | exact md_refl | refine md_up ?_ rfl | refine md_fill ?_ rfl | (unfold ik; refine md_up ?_ rfl))); done) | omega | decide | ((try simp +decide only [b01, b10, b11, am_up, ik, and_true, and_false, true_and, false_and, if_true, if_false, nn_eq] at *) <;> (try simp only [sw_or, sw_all, or_false, and_true, i32_lt, i32_le, i32_eq, i32_addw, i32_subw, i32_mulw, Int32.reduceToInt] at *) <;> omega) | (apply_assumption; done)) rfl ?_
        refine r_si1 mo_OP_isJump d_MA_step_56 rfl rfl (q := 59) rfl ?_
        refine sp_OP_isJump (fun e56 => ?_) (fun e56 => ?_)
        · skip
          refine r_zeq (tgt := 108) (q := 62) d_MA_step_59 rfl rfl (fun e59 => by exfalso; revert e59; decide) (fun e59 => ?_)
          refine r_al0 (q := 63) d_MA_step_62 rfl ?_
          refine gt_MA_latest (q := 66) d_MA_step_63 rfl rfl ?_
          refine r_dupr (q := 67) d_MA_step_66 rfl ?_
          refine gt_FR_place (q := 70) d_MA_step_67 rfl (by first | exact pc1 | exact s2 | exact s1c | exact q1 | exact u2 | assumption | (refine pc_of hP ?_; (repeat (first | assumption | exact md_refl | refine md_up ?_ rfl | refine md_fill ?_ rfl | (unfold ik; refine md_up ?_ rfl))); done) | (refine pc_oS hP ?_; (repeat (first | assumption | exact md_refl | refine md_up ?_ rfl | refine md_fill ?_ rfl | (unfold ik; refine md_up ?_ rfl))); done) | (refine pm_of hP ?_; (repeat (first | assumption | exact md_refl | refine md_up ?_ rfl | refine md_fill ?_ rfl | (unfold ik; refine md_up ?_ rfl))); done) | omega | decide | ((try simp +decide only [b01, b10, b11, am_up, ik, and_true, and_false, true_and, false_and, if_true, if_false, nn_eq] at *) <;> (try simp only [sw_or, sw_all, or_false, and_true, i32_lt, i32_le, i32_eq, i32_addw, i32_subw, i32_mulw, Int32.reduceToInt] at *) <;> omega) | (apply_assumption; done)) rfl ?_
          refine r_al0 (q := 71) d_MA_step_70 rfl ?_
          refine r_al0 (q := 72) d_MA_step_71 rfl ?_
          refine gt_MA_now (q := 75) d_MA_step_72 rfl rfl ?_
          refine gt_IN_operation (q := 78) d_MA_step_75 rfl (by first | exact pc1 | exact s2 | exact s1c | exact q1 | exact u2 | assumption | (refine pc_of hP ?_; (repeat (first | assumption | exact md_refl | refine md_up ?_ rfl | refine md_fill ?_ rfl | (unfold ik; refine md_up ?_ rfl))); done) | (refine pc_oS hP ?_; (repeat (first | assumption | exact md_refl | refine md_up ?_ rfl | refine md_fill ?_ rfl | (unfold ik; refine md_up ?_ rfl))); done) | (refine pm_of hP ?_; (repeat (first | assumption | exact md_refl | refine md_up ?_ rfl | refine md_fill ?_ rfl | (unfold ik; refine md_up ?_ rfl))); done) | omega | decide | ((try simp +decide only [b01, b10, b11, am_up, ik, and_true, and_false, true_and, false_and, if_true, if_false, nn_eq] at *) <;> (try simp only [sw_or, sw_all, or_false, and_true, i32_lt, i32_le, i32_eq, i32_addw, i32_subw, i32_mulw, Int32.reduceToInt] at *) <;> omega) | (apply_assumption; done)) rfl ?_
          refine r_vi1 mo_MA_isTaken d_MA_step_78 rfl rfl rfl (q := 81) rfl ?_
          refine sp_MA_isTaken (P := P) (st0 := s1) (A := A) (by first | exact pc1 | exact s2 | exact s1c | exact q1 | exact u2 | assumption | (refine pc_of hP ?_; (repeat (first | assumption | exact md_refl | refine md_up ?_ rfl | refine md_fill ?_ rfl | (unfold ik; refine md_up ?_ rfl))); done) | (refine pc_oS hP ?_; (repeat (first | assumption | exact md_refl | refine md_up ?_ rfl | refine md_fill ?_ rfl | (unfold ik; refine md_up ?_ rfl))); done) | (refine pm_of hP ?_; (repeat (first | assumption | exact md_refl | refine md_up ?_ rfl | refine md_fill ?_ rfl | (unfold ik; refine md_up ?_ rfl))); done) | omega | decide | ((try simp +decide only [b01, b10, b11, am_up, ik, and_true, and_false, true_and, false_and, if_true, if_false, nn_eq] at *) <;> (try simp only [sw_or, sw_all, or_false, and_true, i32_lt, i32_le, i32_eq, i32_addw, i32_subw, i32_mulw, Int32.reduceToInt] at *) <;> omega) | (apply_assumption; done)) (by first | exact pc1 | exact s2 | exact s1c | exact q1 | exact u2 | assumption | (refine pc_of hP ?_; (repeat (first | assumption | exact md_refl | refine md_up ?_ rfl | refine md_fill ?_ rfl | (unfold ik; refine md_up ?_ rfl))); done) | (refine pc_oS hP ?_; (repeat (first | assumption | exact md_refl | refine md_up ?_ rfl | refine md_fill ?_ rfl | (unfold ik; refine md_up ?_ rfl))); done) | (refine pm_of hP ?_; (repeat (first | assumption | exact md_refl | refine md_up ?_ rfl | refine md_fill ?_ rfl | (unfold ik; refine md_up ?_ rfl))); done) | omega | decide | ((try simp +decide only [b01, b10, b11, am_up, ik, and_true, and_false, true_and, false_and, if_true, if_false, nn_eq] at *) <;> (try simp only [sw_or, sw_all, or_false, and_true, i32_lt, i32_le, i32_eq, i32_addw, i32_subw, i32_mulw, Int32.reduceToInt] at *) <;> omega) | (apply_assumption; done)) (by first | exact pc1 | exact s2 | exact s1c | exact q1 | exact u2 | assumption | (refine pc_of hP ?_; (repeat (first | assumption | exact md_refl | refine md_up ?_ rfl | refine md_fill ?_ rfl | (unfold ik; refine md_up ?_ rfl))); done) | (refine pc_oS hP ?_; (repeat (first | assumption | exact md_refl | refine md_up ?_ rfl | refine md_fill ?_ rfl | (unfold ik; refine md_up ?_ rfl))); done) | (refine pm_of hP ?_; (repeat (first | assumption | exact md_refl | refine md_up ?_ rfl | refine md_fill ?_ rfl | (unfold ik; refine md_up ?_ rfl))); done) | omega | decide | ((try simp +decide only [b01, b10, b11, am_up, ik, and_true, and_false, true_and, false_and, if_true, if_false, nn_eq] at *) <;> (try simp only [sw_or, sw_all, or_false, and_true, i32_lt, i32_le, i32_eq, i32_addw, i32_subw, i32_mulw, Int32.reduceToInt] at *) <;> omega) | (apply_assumption; done)) (by first | exact pc1 | exact s2 | exact s1c | exact q1 | exact u2 | assumption | (refine pc_of hP ?_; (repeat (first | assumption | exact md_refl | refine md_up ?_ rfl | refine md_fill ?_ rfl | (unfold ik; refine md_up ?_ rfl))); done) | (refine pc_oS hP ?_; (repeat (first | assumption | exact md_refl | refine md_up ?_ rfl | refine md_fill ?_ rfl | (unfold ik; refine md_up ?_ rfl))); done) | (refine pm_of hP ?_; (repeat (first | assumption | exact md_refl | refine md_up ?_ rfl | refine md_fill ?_ rfl | (unfold ik; refine md_up ?_ rfl))); done) | omega | decide | ((try simp +decide only [b01, b10, b11, am_up, ik, and_true, and_false, true_and, false_and, if_true, if_false, nn_eq] at *) <;> (try simp only [sw_or, sw_all, or_false, and_true, i32_lt, i32_le, i32_eq, i32_addw, i32_subw, i32_mulw, Int32.reduceToInt] at *) <;> omega) | (apply_assumption; done)) (by first | exact pc1 | exact s2 | exact s1c | exact q1 | exact u2 | assumption | (refine pc_of hP ?_; (repeat (first | assumption | exact md_refl | refine md_up ?_ rfl | refine md_fill ?_ rfl | (unfold ik; refine md_up ?_ rfl))); done) | (refine pc_oS hP ?_; (repeat (first | assumption | exact md_refl | refine md_up ?_ rfl | refine md_fill ?_ rfl | (unfold ik; refine md_up ?_ rfl))); done) | (refine pm_of hP ?_; (repeat (first | assumption | exact md_refl | refine md_up ?_ rfl | refine md_fill ?_ rfl | (unfold ik; refine md_up ?_ rfl))); done) | omega | decide | ((try simp +decide only [b01, b10, b11, am_up, ik, and_true, and_false, true_and, false_and, if_true, if_false, nn_eq] at *) <;> (try simp only [sw_or, sw_all, or_false, and_true, i32_lt, i32_le, i32_eq, i32_addw, i32_subw, i32_mulw, Int32.reduceToInt] at *) <;> omega) | (apply_assumption; done)) (by first | exact pc1 | exact s2 | exact s1c | exact q1 | exact u2 | assumption | (refine pc_of hP ?_; (repeat (first | assumption | exact md_refl | refine md_up ?_ rfl | refine md_fill ?_ rfl | (unfold ik; refine md_up ?_ rfl))); done) | (refine pc_oS hP ?_; (repeat (first | assumption | exact md_refl | refine md_up ?_ rfl | refine md_fill ?_ rfl | (unfold ik; refine md_up ?_ rfl))); done) | (refine pm_of hP ?_; (repeat (first | assumption | exact md_refl | refine md_up ?_ rfl | refine md_fill ?_ rfl | (unfold ik; refine md_up ?_ rfl))); done) | omega | decide | ((try simp +decide only [b01, b10, b11, am_up, ik, and_true, and_false, true_and, false_and, if_true, if_false, nn_eq] at *) <;> (try simp only [sw_or, sw_all, or_false, and_true, i32_lt, i32_le, i32_eq, i32_addw, i32_subw, i32_mulw, Int32.reduceToInt] at *) <;> omega) | (apply_assumption; done)) (by first | exact pc1 | exact s2 | exact s1c | exact q1 | exact u2 | assumption | (refine pc_of hP ?_; (repeat (first | assumption | exact md_refl | refine md_up ?_ rfl | refine md_fill ?_ rfl | (unfold ik; refine md_up ?_ rfl))); done) | (refine pc_oS hP ?_; (repeat (first | assumption | exact md_refl | refine md_up ?_ rfl | refine md_fill ?_ rfl | (unfold ik; refine md_up ?_ rfl))); done) | (refine pm_of hP ?_; (repeat (first | assumption | exact md_refl | refine md_up ?_ rfl | refine md_fill ?_ rfl | (unfold ik; refine md_up ?_ rfl))); done) | omega | decide | ((try simp +decide only [b01, b10, b11, am_up, ik, and_true, and_false, true_and, false_and, if_true, if_false, nn_eq] at *) <;> (try simp only [sw_or, sw_all, or_false, and_true, i32_lt, i32_le, i32_eq, i32_addw, i32_subw, i32_mulw, Int32.reduceToInt] at *) <;> omega) | (apply_assumption; done)) (fun e78 => ?_) (fun e78 => ?_)
          · skip
            refine r_zeq (tgt := 94) (q := 84) d_MA_step_81 rfl rfl (fun e81 => by exfalso; revert e81; decide) (fun e81 => ?_)
            refine r_al0 (q := 85) d_MA_step_84 rfl ?_
            refine gt_MA_now (q := 88) d_MA_step_85 rfl rfl ?_
            refine gt_IN_number (q := 91) d_MA_step_88 rfl (by first | exact pc1 | exact s2 | exact s1c | exact q1 | exact u2 | assumption | (refine pc_of hP ?_; (repeat (first | assumption | exact md_refl | refine md_up ?_ rfl | refine md_fill ?_ rfl | (unfold ik; refine md_up ?_ rfl))); done) | (refine pc_oS hP ?_; (repeat (first | assumption | exact md_refl | refine md_up ?_ rfl | refine md_fill ?_ rfl | (unfold ik; refine md_up ?_ rfl))); done) | (refine pm_of hP ?_; (repeat (first | assumption | exact md_refl | refine md_up ?_ rfl | refine md_fill ?_ rfl | (unfold ik; refine md_up ?_ rfl))); done) | omega | decide | ((try simp +decide only [b01, b10, b11, am_up, ik, and_true, and_false, true_and, false_and, if_true, if_false, nn_eq] at *) <;> (try simp only [sw_or, sw_all, or_false, and_true, i32_lt, i32_le, i32_eq, i32_addw, i32_subw, i32_mulw, Int32.reduceToInt] at *) <;> omega) | (apply_assumption; done)) rfl ?_
            refine am_go (tgt := 101) d_MA_step_91 rfl ?_
            refine r_iadd (q := 102) d_MA_step_101 rfl ?_
            refine pt_FR_place (q := 105) d_MA_step_102 rfl (by first | exact pc1 | exact s2 | exact s1c | exact q1 | exact u2 | assumption | (refine pc_of hP ?_; (repeat (first | assumption | exact md_refl | refine md_up ?_ rfl | refine md_fill ?_ rfl | (unfold ik; refine md_up ?_ rfl))); done) | (refine pc_oS hP ?_; (repeat (first | assumption | exact md_refl | refine md_up ?_ rfl | refine md_fill ?_ rfl | (unfold ik; refine md_up ?_ rfl))); done) | (refine pm_of hP ?_; (repeat (first | assumption | exact md_refl | refine md_up ?_ rfl | refine md_fill ?_ rfl | (unfold ik; refine md_up ?_ rfl))); done) | omega | decide | ((try simp +decide only [b01, b10, b11, am_up, ik, and_true, and_false, true_and, false_and, if_true, if_false, nn_eq] at *) <;> (try simp only [sw_or, sw_all, or_false, and_true, i32_lt, i32_le, i32_eq, i32_addw, i32_subw, i32_mulw, Int32.reduceToInt] at *) <;> omega) | (apply_assumption; done)) rfl ?_
            refine am_go (tgt := 147) d_MA_step_105 rfl ?_
            refine r_rv d_MA_step_147 ?_
            first | (rw [(gq _ e78.2.2).1]; exact pl _ e78.2.2 _ (Or.inl ⟨e78.2.1, rfl⟩)) | (rw [(gq _ e78.2.2).2]; exact pl _ e78.2.2 _ (Or.inr ⟨e78.2.1, rfl⟩))
          · skip
            refine r_zeq (tgt := 94) (q := 84) d_MA_step_81 rfl rfl (fun e81 => ?_) (fun e81 => by exfalso; revert e81; decide)
            refine r_al0 (q := 95) d_MA_step_94 rfl ?_
            refine gt_MA_now (q := 98) d_MA_step_95 rfl rfl ?_
            refine gt_IN_size (q := 101) d_MA_step_98 rfl (by first | exact pc1 | exact s2 | exact s1c | exact q1 | exact u2 | assumption | (refine pc_of hP ?_; (repeat (first | assumption | exact md_refl | refine md_up ?_ rfl | refine md_fill ?_ rfl | (unfold ik; refine md_up ?_ rfl))); done) | (refine pc_oS hP ?_; (repeat (first | assumption | exact md_refl | refine md_up ?_ rfl | refine md_fill ?_ rfl | (unfold ik; refine md_up ?_ rfl))); done) | (refine pm_of hP ?_; (repeat (first | assumption | exact md_refl | refine md_up ?_ rfl | refine md_fill ?_ rfl | (unfold ik; refine md_up ?_ rfl))); done) | omega | decide | ((try simp +decide only [b01, b10, b11, am_up, ik, and_true, and_false, true_and, false_and, if_true, if_false, nn_eq] at *) <;> (try simp only [sw_or, sw_all, or_false, and_true, i32_lt, i32_le, i32_eq, i32_addw, i32_subw, i32_mulw, Int32.reduceToInt] at *) <;> omega) | (apply_assumption; done)) rfl ?_
            refine r_iadd (q := 102) d_MA_step_101 rfl ?_
            refine pt_FR_place (q := 105) d_MA_step_102 rfl (by first | exact pc1 | exact s2 | exact s1c | exact q1 | exact u2 | assumption | (refine pc_of hP ?_; (repeat (first | assumption | exact md_refl | refine md_up ?_ rfl | refine md_fill ?_ rfl | (unfold ik; refine md_up ?_ rfl))); done) | (refine pc_oS hP ?_; (repeat (first | assumption | exact md_refl | refine md_up ?_ rfl | refine md_fill ?_ rfl | (unfold ik; refine md_up ?_ rfl))); done) | (refine pm_of hP ?_; (repeat (first | assumption | exact md_refl | refine md_up ?_ rfl | refine md_fill ?_ rfl | (unfold ik; refine md_up ?_ rfl))); done) | omega | decide | ((try simp +decide only [b01, b10, b11, am_up, ik, and_true, and_false, true_and, false_and, if_true, if_false, nn_eq] at *) <;> (try simp only [sw_or, sw_all, or_false, and_true, i32_lt, i32_le, i32_eq, i32_addw, i32_subw, i32_mulw, Int32.reduceToInt] at *) <;> omega) | (apply_assumption; done)) rfl ?_
            refine am_go (tgt := 147) d_MA_step_105 rfl ?_
            refine r_rv d_MA_step_147 ?_
            first | (rw [(gq _ e78.2.2).1]; exact pl _ e78.2.2 _ (Or.inl ⟨e78.2.1, rfl⟩)) | (rw [(gq _ e78.2.2).2]; exact pl _ e78.2.2 _ (Or.inr ⟨e78.2.1, rfl⟩))
        · skip
          refine r_zeq (tgt := 108) (q := 62) d_MA_step_59 rfl rfl (fun e59 => ?_) (fun e59 => by exfalso; revert e59; decide)
          first | exact absurd e36 nc | exact absurd s1c e56
    · obtain ⟨u1, u2, u3, u4, u5, -⟩ := RC_tw pc1 c2 c3 q1.2 c4
      have nc : ¬ op_calc (s1 192 2) := fun q => (oc_j q).2 s1c
      have nj : ¬ op_jump (s1 192 2) := fun q => oj_l q s1c
      have hi : (s1 2 (s1 518 0).toNatClampNeg + s1 193 2).toInt = ((fb A (lf A) + (s1 193 2).toInt.toNat : Nat) : Int) ∧ fb A (lf A) ≤ fb A (lf A) + (s1 193 2).toInt.toNat ∧ fb A (lf A) + (s1 193 2).toInt.toNat < fb A (lf A) + flo P A (lf A) := by
        rw [i32_addw]
        omega
      have kN : ∀ q, QC P s1 (o_go (o_lo P A (s1 192 2) (fb A (lf A) + (s1 193 2).toInt.toNat) (s1 194 2)) (s1 195 2)) q → f q := fun q hq => kE q (by rw [s6]; exact hq)
      refine r_al0 (q := 30) d_MA_step_29 rfl ?_
      refine gt_MA_now (q := 33) d_MA_step_30 rfl rfl ?_
      refine gt_IN_operation (q := 36) d_MA_step_33 rfl (by first | exact pc1 | exact s2 | exact s3 | exact hi | exact q1 | exact u2 | assumption | (refine pc_of hP ?_; (repeat (first | assumption | exact md_refl | refine md_up ?_ rfl | refine md_fill ?_ rfl | (unfold ik; refine md_up ?_ rfl))); done) | (refine pc_oS hP ?_; (repeat (first | assumption | exact md_refl | refine md_up ?_ rfl | refine md_fill ?_ rfl | (unfold ik; refine md_up ?_ rfl))); done) | (refine pm_of hP ?_; (repeat (first | assumption | exact md_refl | refine md_up ?_ rfl | refine md_fill ?_ rfl | (unfold ik; refine md_up ?_ rfl))); done) | omega | decide | ((try simp +decide only [b01, b10, b11, am_up, ik, and_true, and_false, true_and, false_and, if_true, if_false, nn_eq] at *) <;> (try simp only [sw_or, sw_all, or_false, and_true, i32_lt, i32_le, i32_eq, i32_addw, i32_subw, i32_mulw, Int32.reduceToInt] at *) <;> omega) | (apply_assumption; done)) rfl ?_
      refine r_si1 mo_OP_isCalculation d_MA_step_36 rfl rfl (q := 39) rfl ?_
      refine sp_OP_isCalculation (fun e36 => ?_) (fun e36 => ?_)
      · skip
        refine r_zeq (tgt := 49) (q := 42) d_MA_step_39 rfl rfl (fun e39 => by exfalso; revert e39; decide) (fun e39 => ?_)
        first | exact absurd e36 nc | exact absurd e56 nj | exact absurd s1c e115
      · skip
        refine r_zeq (tgt := 49) (q := 42) d_MA_step_39 rfl rfl (fun e39 => ?_) (fun e39 => by exfalso; revert e39; decide)
        refine r_al0 (q := 50) d_MA_step_49 rfl ?_
        refine gt_MA_now (q := 53) d_MA_step_50 rfl rfl ?_
        refine gt_IN_operation (q := 56) d_MA_step_53 rfl (by first | exact pc1 | exact s2 | exact s3 | exact hi | exact q1 | exact u2 | assumption | (refine pc_of hP ?_; (repeat (first | assumption | exact md_refl | refine md_up ?_ rfl | refine md_fill ?_ rfl | (unfold ik; refine md_up ?_ rfl))); done) | (refine pc_oS hP ?_; (repeat (first | assumption | exact md_refl | refine md_up ?_ rfl | refine md_fill ?_ rfl | (unfold ik; refine md_up ?_ rfl))); done) | (refine pm_of hP ?_; (repeat (first | assumption | exact md_refl | refine md_up ?_ rfl | refine md_fill ?_ rfl | (unfold ik; refine md_up ?_ rfl))); done) | omega | decide | ((try simp +decide only [b01, b10, b11, am_up, ik, and_true, and_false, true_and, false_and, if_true, if_false, nn_eq] at *) <;> (try simp only [sw_or, sw_all, or_false, and_true, i32_lt, i32_le, i32_eq, i32_addw, i32_subw, i32_mulw, Int32.reduceToInt] at *) <;> omega) | (apply_assumption; done)) rfl ?_
        refine r_si1 mo_OP_isJump d_MA_step_56 rfl rfl (q := 59) rfl ?_
        refine sp_OP_isJump (fun e56 => ?_) (fun e56 => ?_)
        · skip
          refine r_zeq (tgt := 108) (q := 62) d_MA_step_59 rfl rfl (fun e59 => by exfalso; revert e59; decide) (fun e59 => ?_)
          first | exact absurd e36 nc | exact absurd e56 nj | exact absurd s1c e115
        · skip
          refine r_zeq (tgt := 108) (q := 62) d_MA_step_59 rfl rfl (fun e59 => ?_) (fun e59 => by exfalso; revert e59; decide)
          refine r_al0 (q := 109) d_MA_step_108 rfl ?_
          refine gt_MA_now (q := 112) d_MA_step_109 rfl rfl ?_
          refine gt_IN_operation (q := 115) d_MA_step_112 rfl (by first | exact pc1 | exact s2 | exact s3 | exact hi | exact q1 | exact u2 | assumption | (refine pc_of hP ?_; (repeat (first | assumption | exact md_refl | refine md_up ?_ rfl | refine md_fill ?_ rfl | (unfold ik; refine md_up ?_ rfl))); done) | (refine pc_oS hP ?_; (repeat (first | assumption | exact md_refl | refine md_up ?_ rfl | refine md_fill ?_ rfl | (unfold ik; refine md_up ?_ rfl))); done) | (refine pm_of hP ?_; (repeat (first | assumption | exact md_refl | refine md_up ?_ rfl | refine md_fill ?_ rfl | (unfold ik; refine md_up ?_ rfl))); done) | omega | decide | ((try simp +decide only [b01, b10, b11, am_up, ik, and_true, and_false, true_and, false_and, if_true, if_false, nn_eq] at *) <;> (try simp only [sw_or, sw_all, or_false, and_true, i32_lt, i32_le, i32_eq, i32_addw, i32_subw, i32_mulw, Int32.reduceToInt] at *) <;> omega) | (apply_assumption; done)) rfl ?_
          refine r_si1 mo_OP_usesLocal d_MA_step_115 rfl rfl (q := 118) rfl ?_
          refine sp_OP_usesLocal (fun e115 => ?_) (fun e115 => ?_)
          · skip
            refine r_zeq (tgt := 143) (q := 121) d_MA_step_118 rfl rfl (fun e118 => by exfalso; revert e118; decide) (fun e118 => ?_)
            refine r_al0 (q := 122) d_MA_step_121 rfl ?_
            refine r_al0 (q := 123) d_MA_step_122 rfl ?_
            refine gt_MA_latest (q := 126) d_MA_step_123 rfl rfl ?_
            refine gt_FR_firstCell (q := 129) d_MA_step_126 rfl (by first | exact pc1 | exact s2 | exact s3 | exact hi | exact q1 | exact u2 | assumption | (refine pc_of hP ?_; (repeat (first | assumption | exact md_refl | refine md_up ?_ rfl | refine md_fill ?_ rfl | (unfold ik; refine md_up ?_ rfl))); done) | (refine pc_oS hP ?_; (repeat (first | assumption | exact md_refl | refine md_up ?_ rfl | refine md_fill ?_ rfl | (unfold ik; refine md_up ?_ rfl))); done) | (refine pm_of hP ?_; (repeat (first | assumption | exact md_refl | refine md_up ?_ rfl | refine md_fill ?_ rfl | (unfold ik; refine md_up ?_ rfl))); done) | omega | decide | ((try simp +decide only [b01, b10, b11, am_up, ik, and_true, and_false, true_and, false_and, if_true, if_false, nn_eq] at *) <;> (try simp only [sw_or, sw_all, or_false, and_true, i32_lt, i32_le, i32_eq, i32_addw, i32_subw, i32_mulw, Int32.reduceToInt] at *) <;> omega) | (apply_assumption; done)) rfl ?_
            refine r_al0 (q := 130) d_MA_step_129 rfl ?_
            refine gt_MA_now (q := 133) d_MA_step_130 rfl rfl ?_
            refine gt_IN_number (q := 136) d_MA_step_133 rfl (by first | exact pc1 | exact s2 | exact s3 | exact hi | exact q1 | exact u2 | assumption | (refine pc_of hP ?_; (repeat (first | assumption | exact md_refl | refine md_up ?_ rfl | refine md_fill ?_ rfl | (unfold ik; refine md_up ?_ rfl))); done) | (refine pc_oS hP ?_; (repeat (first | assumption | exact md_refl | refine md_up ?_ rfl | refine md_fill ?_ rfl | (unfold ik; refine md_up ?_ rfl))); done) | (refine pm_of hP ?_; (repeat (first | assumption | exact md_refl | refine md_up ?_ rfl | refine md_fill ?_ rfl | (unfold ik; refine md_up ?_ rfl))); done) | omega | decide | ((try simp +decide only [b01, b10, b11, am_up, ik, and_true, and_false, true_and, false_and, if_true, if_false, nn_eq] at *) <;> (try simp only [sw_or, sw_all, or_false, and_true, i32_lt, i32_le, i32_eq, i32_addw, i32_subw, i32_mulw, Int32.reduceToInt] at *) <;> omega) | (apply_assumption; done)) rfl ?_
            refine r_iadd (q := 137) d_MA_step_136 rfl ?_
            refine r_vv1 mo_MA_stepLocal d_MA_step_137 rfl rfl rfl (q := 140) rfl ?_
            refine sp_MA_stepLocal (P := P) (st0 := s1) (A := A) (i := fb A (lf A) + (s1 193 2).toInt.toNat) (by first | exact pc1 | exact s2 | exact s3 | exact hi | exact q1 | exact u2 | assumption | (refine pc_of hP ?_; (repeat (first | assumption | exact md_refl | refine md_up ?_ rfl | refine md_fill ?_ rfl | (unfold ik; refine md_up ?_ rfl))); done) | (refine pc_oS hP ?_; (repeat (first | assumption | exact md_refl | refine md_up ?_ rfl | refine md_fill ?_ rfl | (unfold ik; refine md_up ?_ rfl))); done) | (refine pm_of hP ?_; (repeat (first | assumption | exact md_refl | refine md_up ?_ rfl | refine md_fill ?_ rfl | (unfold ik; refine md_up ?_ rfl))); done) | omega | decide | ((try simp +decide only [b01, b10, b11, am_up, ik, and_true, and_false, true_and, false_and, if_true, if_false, nn_eq] at *) <;> (try simp only [sw_or, sw_all, or_false, and_true, i32_lt, i32_le, i32_eq, i32_addw, i32_subw, i32_mulw, Int32.reduceToInt] at *) <;> omega) | (apply_assumption; done)) (by first | exact pc1 | exact s2 | exact s3 | exact hi | exact q1 | exact u2 | assumption | (refine pc_of hP ?_; (repeat (first | assumption | exact md_refl | refine md_up ?_ rfl | refine md_fill ?_ rfl | (unfold ik; refine md_up ?_ rfl))); done) | (refine pc_oS hP ?_; (repeat (first | assumption | exact md_refl | refine md_up ?_ rfl | refine md_fill ?_ rfl | (unfold ik; refine md_up ?_ rfl))); done) | (refine pm_of hP ?_; (repeat (first | assumption | exact md_refl | refine md_up ?_ rfl | refine md_fill ?_ rfl | (unfold ik; refine md_up ?_ rfl))); done) | omega | decide | ((try simp +decide only [b01, b10, b11, am_up, ik, and_true, and_false, true_and, false_and, if_true, if_false, nn_eq] at *) <;> (try simp only [sw_or, sw_all, or_false, and_true, i32_lt, i32_le, i32_eq, i32_addw, i32_subw, i32_mulw, Int32.reduceToInt] at *) <;> omega) | (apply_assumption; done)) (by first | exact pc1 | exact s2 | exact s3 | exact hi | exact q1 | exact u2 | assumption | (refine pc_of hP ?_; (repeat (first | assumption | exact md_refl | refine md_up ?_ rfl | refine md_fill ?_ rfl | (unfold ik; refine md_up ?_ rfl))); done) | (refine pc_oS hP ?_; (repeat (first | assumption | exact md_refl | refine md_up ?_ rfl | refine md_fill ?_ rfl | (unfold ik; refine md_up ?_ rfl))); done) | (refine pm_of hP ?_; (repeat (first | assumption | exact md_refl | refine md_up ?_ rfl | refine md_fill ?_ rfl | (unfold ik; refine md_up ?_ rfl))); done) | omega | decide | ((try simp +decide only [b01, b10, b11, am_up, ik, and_true, and_false, true_and, false_and, if_true, if_false, nn_eq] at *) <;> (try simp only [sw_or, sw_all, or_false, and_true, i32_lt, i32_le, i32_eq, i32_addw, i32_subw, i32_mulw, Int32.reduceToInt] at *) <;> omega) | (apply_assumption; done)) (by first | exact pc1 | exact s2 | exact s3 | exact hi | exact q1 | exact u2 | assumption | (refine pc_of hP ?_; (repeat (first | assumption | exact md_refl | refine md_up ?_ rfl | refine md_fill ?_ rfl | (unfold ik; refine md_up ?_ rfl))); done) | (refine pc_oS hP ?_; (repeat (first | assumption | exact md_refl | refine md_up ?_ rfl | refine md_fill ?_ rfl | (unfold ik; refine md_up ?_ rfl))); done) | (refine pm_of hP ?_; (repeat (first | assumption | exact md_refl | refine md_up ?_ rfl | refine md_fill ?_ rfl | (unfold ik; refine md_up ?_ rfl))); done) | omega | decide | ((try simp +decide only [b01, b10, b11, am_up, ik, and_true, and_false, true_and, false_and, if_true, if_false, nn_eq] at *) <;> (try simp only [sw_or, sw_all, or_false, and_true, i32_lt, i32_le, i32_eq, i32_addw, i32_subw, i32_mulw, Int32.reduceToInt] at *) <;> omega) | (apply_assumption; done)) (by first | exact pc1 | exact s2 | exact s3 | exact hi | exact q1 | exact u2 | assumption | (refine pc_of hP ?_; (repeat (first | assumption | exact md_refl | refine md_up ?_ rfl | refine md_fill ?_ rfl | (unfold ik; refine md_up ?_ rfl))); done) | (refine pc_oS hP ?_; (repeat (first | assumption | exact md_refl | refine md_up ?_ rfl | refine md_fill ?_ rfl | (unfold ik; refine md_up ?_ rfl))); done) | (refine pm_of hP ?_; (repeat (first | assumption | exact md_refl | refine md_up ?_ rfl | refine md_fill ?_ rfl | (unfold ik; refine md_up ?_ rfl))); done) | omega | decide | ((try simp +decide only [b01, b10, b11, am_up, ik, and_true, and_false, true_and, false_and, if_true, if_false, nn_eq] at *) <;> (try simp only [sw_or, sw_all, or_false, and_true, i32_lt, i32_le, i32_eq, i32_addw, i32_subw, i32_mulw, Int32.reduceToInt] at *) <;> omega) | (apply_assumption; done)) (by first | exact pc1 | exact s2 | exact s3 | exact hi | exact q1 | exact u2 | assumption | (refine pc_of hP ?_; (repeat (first | assumption | exact md_refl | refine md_up ?_ rfl | refine md_fill ?_ rfl | (unfold ik; refine md_up ?_ rfl))); done) | (refine pc_oS hP ?_; (repeat (first | assumption | exact md_refl | refine md_up ?_ rfl | refine md_fill ?_ rfl | (unfold ik; refine md_up ?_ rfl))); done) | (refine pm_of hP ?_; (repeat (first | assumption | exact md_refl | refine md_up ?_ rfl | refine md_fill ?_ rfl | (unfold ik; refine md_up ?_ rfl))); done) | omega | decide | ((try simp +decide only [b01, b10, b11, am_up, ik, and_true, and_false, true_and, false_and, if_true, if_false, nn_eq] at *) <;> (try simp only [sw_or, sw_all, or_false, and_true, i32_lt, i32_le, i32_eq, i32_addw, i32_subw, i32_mulw, Int32.reduceToInt] at *) <;> omega) | (apply_assumption; done)) (by first | exact pc1 | exact s2 | exact s3 | exact hi | exact q1 | exact u2 | assumption | (refine pc_of hP ?_; (repeat (first | assumption | exact md_refl | refine md_up ?_ rfl | refine md_fill ?_ rfl | (unfold ik; refine md_up ?_ rfl))); done) | (refine pc_oS hP ?_; (repeat (first | assumption | exact md_refl | refine md_up ?_ rfl | refine md_fill ?_ rfl | (unfold ik; refine md_up ?_ rfl))); done) | (refine pm_of hP ?_; (repeat (first | assumption | exact md_refl | refine md_up ?_ rfl | refine md_fill ?_ rfl | (unfold ik; refine md_up ?_ rfl))); done) | omega | decide | ((try simp +decide only [b01, b10, b11, am_up, ik, and_true, and_false, true_and, false_and, if_true, if_false, nn_eq] at *) <;> (try simp only [sw_or, sw_all, or_false, and_true, i32_lt, i32_le, i32_eq, i32_addw, i32_subw, i32_mulw, Int32.reduceToInt] at *) <;> omega) | (apply_assumption; done)) (by first | exact pc1 | exact s2 | exact s3 | exact hi | exact q1 | exact u2 | assumption | (refine pc_of hP ?_; (repeat (first | assumption | exact md_refl | refine md_up ?_ rfl | refine md_fill ?_ rfl | (unfold ik; refine md_up ?_ rfl))); done) | (refine pc_oS hP ?_; (repeat (first | assumption | exact md_refl | refine md_up ?_ rfl | refine md_fill ?_ rfl | (unfold ik; refine md_up ?_ rfl))); done) | (refine pm_of hP ?_; (repeat (first | assumption | exact md_refl | refine md_up ?_ rfl | refine md_fill ?_ rfl | (unfold ik; refine md_up ?_ rfl))); done) | omega | decide | ((try simp +decide only [b01, b10, b11, am_up, ik, and_true, and_false, true_and, false_and, if_true, if_false, nn_eq] at *) <;> (try simp only [sw_or, sw_all, or_false, and_true, i32_lt, i32_le, i32_eq, i32_addw, i32_subw, i32_mulw, Int32.reduceToInt] at *) <;> omega) | (apply_assumption; done)) (fun e137 => ?_)
            · skip
              refine am_go (tgt := 147) d_MA_step_140 rfl ?_
              refine r_rv d_MA_step_147 ?_
              exact kN _ e137.2
          · skip
            refine r_zeq (tgt := 143) (q := 121) d_MA_step_118 rfl rfl (fun e118 => ?_) (fun e118 => by exfalso; revert e118; decide)
            first | exact absurd e36 nc | exact absurd e56 nj | exact absurd s1c e115
    · have kN : ∀ q, QC P s1 (o_ot P A (s1 192 2) (s1 193 2) (s1 195 2)) q → f q := fun q hq => kE q (by rw [s3]; exact hq)
      refine r_al0 (q := 30) d_MA_step_29 rfl ?_
      refine gt_MA_now (q := 33) d_MA_step_30 rfl rfl ?_
      refine gt_IN_operation (q := 36) d_MA_step_33 rfl (by first | exact pc1 | exact s2 | exact q1 | assumption | (refine pc_of hP ?_; (repeat (first | assumption | exact md_refl | refine md_up ?_ rfl | refine md_fill ?_ rfl | (unfold ik; refine md_up ?_ rfl))); done) | (refine pc_oS hP ?_; (repeat (first | assumption | exact md_refl | refine md_up ?_ rfl | refine md_fill ?_ rfl | (unfold ik; refine md_up ?_ rfl))); done) | (refine pm_of hP ?_; (repeat (first | assumption | exact md_refl | refine md_up ?_ rfl | refine md_fill ?_ rfl | (unfold ik; refine md_up ?_ rfl))); done) | omega | decide | ((try simp +decide only [b01, b10, b11, am_up, ik, and_true, and_false, true_and, false_and, if_true, if_false, nn_eq] at *) <;> (try simp only [sw_or, sw_all, or_false, and_true, i32_lt, i32_le, i32_eq, i32_addw, i32_subw, i32_mulw, Int32.reduceToInt] at *) <;> omega) | (apply_assumption; done)) rfl ?_
      refine r_si1 mo_OP_isCalculation d_MA_step_36 rfl rfl (q := 39) rfl ?_
      refine sp_OP_isCalculation (fun e36 => ?_) (fun e36 => ?_)
      · skip
        refine r_zeq (tgt := 49) (q := 42) d_MA_step_39 rfl rfl (fun e39 => by exfalso; revert e39; decide) (fun e39 => ?_)
        first | exact absurd e36 n1 | exact absurd e56 n2 | exact absurd e115 n3
      · skip
        refine r_zeq (tgt := 49) (q := 42) d_MA_step_39 rfl rfl (fun e39 => ?_) (fun e39 => by exfalso; revert e39; decide)
        refine r_al0 (q := 50) d_MA_step_49 rfl ?_
        refine gt_MA_now (q := 53) d_MA_step_50 rfl rfl ?_
        refine gt_IN_operation (q := 56) d_MA_step_53 rfl (by first | exact pc1 | exact s2 | exact q1 | assumption | (refine pc_of hP ?_; (repeat (first | assumption | exact md_refl | refine md_up ?_ rfl | refine md_fill ?_ rfl | (unfold ik; refine md_up ?_ rfl))); done) | (refine pc_oS hP ?_; (repeat (first | assumption | exact md_refl | refine md_up ?_ rfl | refine md_fill ?_ rfl | (unfold ik; refine md_up ?_ rfl))); done) | (refine pm_of hP ?_; (repeat (first | assumption | exact md_refl | refine md_up ?_ rfl | refine md_fill ?_ rfl | (unfold ik; refine md_up ?_ rfl))); done) | omega | decide | ((try simp +decide only [b01, b10, b11, am_up, ik, and_true, and_false, true_and, false_and, if_true, if_false, nn_eq] at *) <;> (try simp only [sw_or, sw_all, or_false, and_true, i32_lt, i32_le, i32_eq, i32_addw, i32_subw, i32_mulw, Int32.reduceToInt] at *) <;> omega) | (apply_assumption; done)) rfl ?_
        refine r_si1 mo_OP_isJump d_MA_step_56 rfl rfl (q := 59) rfl ?_
        refine sp_OP_isJump (fun e56 => ?_) (fun e56 => ?_)
        · skip
          refine r_zeq (tgt := 108) (q := 62) d_MA_step_59 rfl rfl (fun e59 => by exfalso; revert e59; decide) (fun e59 => ?_)
          first | exact absurd e36 n1 | exact absurd e56 n2 | exact absurd e115 n3
        · skip
          refine r_zeq (tgt := 108) (q := 62) d_MA_step_59 rfl rfl (fun e59 => ?_) (fun e59 => by exfalso; revert e59; decide)
          refine r_al0 (q := 109) d_MA_step_108 rfl ?_
          refine gt_MA_now (q := 112) d_MA_step_109 rfl rfl ?_
          refine gt_IN_operation (q := 115) d_MA_step_112 rfl (by first | exact pc1 | exact s2 | exact q1 | assumption | (refine pc_of hP ?_; (repeat (first | assumption | exact md_refl | refine md_up ?_ rfl | refine md_fill ?_ rfl | (unfold ik; refine md_up ?_ rfl))); done) | (refine pc_oS hP ?_; (repeat (first | assumption | exact md_refl | refine md_up ?_ rfl | refine md_fill ?_ rfl | (unfold ik; refine md_up ?_ rfl))); done) | (refine pm_of hP ?_; (repeat (first | assumption | exact md_refl | refine md_up ?_ rfl | refine md_fill ?_ rfl | (unfold ik; refine md_up ?_ rfl))); done) | omega | decide | ((try simp +decide only [b01, b10, b11, am_up, ik, and_true, and_false, true_and, false_and, if_true, if_false, nn_eq] at *) <;> (try simp only [sw_or, sw_all, or_false, and_true, i32_lt, i32_le, i32_eq, i32_addw, i32_subw, i32_mulw, Int32.reduceToInt] at *) <;> omega) | (apply_assumption; done)) rfl ?_
          refine r_si1 mo_OP_usesLocal d_MA_step_115 rfl rfl (q := 118) rfl ?_
          refine sp_OP_usesLocal (fun e115 => ?_) (fun e115 => ?_)
          · skip
            refine r_zeq (tgt := 143) (q := 121) d_MA_step_118 rfl rfl (fun e118 => by exfalso; revert e118; decide) (fun e118 => ?_)
            first | exact absurd e36 n1 | exact absurd e56 n2 | exact absurd e115 n3
          · skip
            refine r_zeq (tgt := 143) (q := 121) d_MA_step_118 rfl rfl (fun e118 => ?_) (fun e118 => by exfalso; revert e118; decide)
            refine r_al0 (q := 144) d_MA_step_143 rfl ?_
            refine r_vv0 mo_MA_stepOther d_MA_step_144 rfl rfl rfl (q := 147) rfl ?_
            refine sp_MA_stepOther (P := P) (st0 := s1) (A := A) (by first | exact pc1 | exact s2 | exact q1 | assumption | (refine pc_of hP ?_; (repeat (first | assumption | exact md_refl | refine md_up ?_ rfl | refine md_fill ?_ rfl | (unfold ik; refine md_up ?_ rfl))); done) | (refine pc_oS hP ?_; (repeat (first | assumption | exact md_refl | refine md_up ?_ rfl | refine md_fill ?_ rfl | (unfold ik; refine md_up ?_ rfl))); done) | (refine pm_of hP ?_; (repeat (first | assumption | exact md_refl | refine md_up ?_ rfl | refine md_fill ?_ rfl | (unfold ik; refine md_up ?_ rfl))); done) | omega | decide | ((try simp +decide only [b01, b10, b11, am_up, ik, and_true, and_false, true_and, false_and, if_true, if_false, nn_eq] at *) <;> (try simp only [sw_or, sw_all, or_false, and_true, i32_lt, i32_le, i32_eq, i32_addw, i32_subw, i32_mulw, Int32.reduceToInt] at *) <;> omega) | (apply_assumption; done)) (by first | exact pc1 | exact s2 | exact q1 | assumption | (refine pc_of hP ?_; (repeat (first | assumption | exact md_refl | refine md_up ?_ rfl | refine md_fill ?_ rfl | (unfold ik; refine md_up ?_ rfl))); done) | (refine pc_oS hP ?_; (repeat (first | assumption | exact md_refl | refine md_up ?_ rfl | refine md_fill ?_ rfl | (unfold ik; refine md_up ?_ rfl))); done) | (refine pm_of hP ?_; (repeat (first | assumption | exact md_refl | refine md_up ?_ rfl | refine md_fill ?_ rfl | (unfold ik; refine md_up ?_ rfl))); done) | omega | decide | ((try simp +decide only [b01, b10, b11, am_up, ik, and_true, and_false, true_and, false_and, if_true, if_false, nn_eq] at *) <;> (try simp only [sw_or, sw_all, or_false, and_true, i32_lt, i32_le, i32_eq, i32_addw, i32_subw, i32_mulw, Int32.reduceToInt] at *) <;> omega) | (apply_assumption; done)) (by first | exact pc1 | exact s2 | exact q1 | assumption | (refine pc_of hP ?_; (repeat (first | assumption | exact md_refl | refine md_up ?_ rfl | refine md_fill ?_ rfl | (unfold ik; refine md_up ?_ rfl))); done) | (refine pc_oS hP ?_; (repeat (first | assumption | exact md_refl | refine md_up ?_ rfl | refine md_fill ?_ rfl | (unfold ik; refine md_up ?_ rfl))); done) | (refine pm_of hP ?_; (repeat (first | assumption | exact md_refl | refine md_up ?_ rfl | refine md_fill ?_ rfl | (unfold ik; refine md_up ?_ rfl))); done) | omega | decide | ((try simp +decide only [b01, b10, b11, am_up, ik, and_true, and_false, true_and, false_and, if_true, if_false, nn_eq] at *) <;> (try simp only [sw_or, sw_all, or_false, and_true, i32_lt, i32_le, i32_eq, i32_addw, i32_subw, i32_mulw, Int32.reduceToInt] at *) <;> omega) | (apply_assumption; done)) (by first | exact pc1 | exact s2 | exact q1 | assumption | (refine pc_of hP ?_; (repeat (first | assumption | exact md_refl | refine md_up ?_ rfl | refine md_fill ?_ rfl | (unfold ik; refine md_up ?_ rfl))); done) | (refine pc_oS hP ?_; (repeat (first | assumption | exact md_refl | refine md_up ?_ rfl | refine md_fill ?_ rfl | (unfold ik; refine md_up ?_ rfl))); done) | (refine pm_of hP ?_; (repeat (first | assumption | exact md_refl | refine md_up ?_ rfl | refine md_fill ?_ rfl | (unfold ik; refine md_up ?_ rfl))); done) | omega | decide | ((try simp +decide only [b01, b10, b11, am_up, ik, and_true, and_false, true_and, false_and, if_true, if_false, nn_eq] at *) <;> (try simp only [sw_or, sw_all, or_false, and_true, i32_lt, i32_le, i32_eq, i32_addw, i32_subw, i32_mulw, Int32.reduceToInt] at *) <;> omega) | (apply_assumption; done)) (by first | exact pc1 | exact s2 | exact q1 | assumption | (refine pc_of hP ?_; (repeat (first | assumption | exact md_refl | refine md_up ?_ rfl | refine md_fill ?_ rfl | (unfold ik; refine md_up ?_ rfl))); done) | (refine pc_oS hP ?_; (repeat (first | assumption | exact md_refl | refine md_up ?_ rfl | refine md_fill ?_ rfl | (unfold ik; refine md_up ?_ rfl))); done) | (refine pm_of hP ?_; (repeat (first | assumption | exact md_refl | refine md_up ?_ rfl | refine md_fill ?_ rfl | (unfold ik; refine md_up ?_ rfl))); done) | omega | decide | ((try simp +decide only [b01, b10, b11, am_up, ik, and_true, and_false, true_and, false_and, if_true, if_false, nn_eq] at *) <;> (try simp only [sw_or, sw_all, or_false, and_true, i32_lt, i32_le, i32_eq, i32_addw, i32_subw, i32_mulw, Int32.reduceToInt] at *) <;> omega) | (apply_assumption; done)) (by first | exact pc1 | exact s2 | exact q1 | assumption | (refine pc_of hP ?_; (repeat (first | assumption | exact md_refl | refine md_up ?_ rfl | refine md_fill ?_ rfl | (unfold ik; refine md_up ?_ rfl))); done) | (refine pc_oS hP ?_; (repeat (first | assumption | exact md_refl | refine md_up ?_ rfl | refine md_fill ?_ rfl | (unfold ik; refine md_up ?_ rfl))); done) | (refine pm_of hP ?_; (repeat (first | assumption | exact md_refl | refine md_up ?_ rfl | refine md_fill ?_ rfl | (unfold ik; refine md_up ?_ rfl))); done) | omega | decide | ((try simp +decide only [b01, b10, b11, am_up, ik, and_true, and_false, true_and, false_and, if_true, if_false, nn_eq] at *) <;> (try simp only [sw_or, sw_all, or_false, and_true, i32_lt, i32_le, i32_eq, i32_addw, i32_subw, i32_mulw, Int32.reduceToInt] at *) <;> omega) | (apply_assumption; done)) (fun e144 => ?_)
            · skip
              refine r_rv d_MA_step_147 ?_
              exact kN _ e144.2
  clear h1 c7
  have k29' : ∀ n g, (uN (P 0 (nb P (fm A (lf A)) + p)) → n = pN P (nb P (fm A (lf A)) + p)) ∧ (P 0 (nb P (fm A (lf A)) + p) = 132 → g = pG P (nb P (fm A (lf A)) + p)) → am_AW c_MA_step g_MA_step (fun o st' => am_ok none o ∧ am_kv f o st') 29 [some (.inr (.inl 127))] [] (am_up (ik st 2 (pO P (nb P (fm A (lf A)) + p)) n (pZ P (nb P (fm A (lf A)) + p))) 194 2 g) := fun n g h => k29 n g h.1 h.2
  have hop : (st 67 (st 0 (st 518 0).toNatClampNeg).toNatClampNeg + st 1 (st 518 0).toNatClampNeg).toInt + (pZ P (nb P (fm A (lf A)) + p)).toInt ≤ (st 322 0).toInt := by omega
  clear k29
  rw [← hxn] at k29' hop
  refine r_al0 (q := 1) d_MA_step_0 rfl ?_
  refine gt_MA_now (q := 4) d_MA_step_1 rfl rfl ?_
  refine r_al0 (q := 5) d_MA_step_4 rfl ?_
  refine gt_MA_code (q := 8) d_MA_step_5 rfl rfl ?_
  refine r_al0 (q := 9) d_MA_step_8 rfl ?_
  refine gt_MA_latest (q := 12) d_MA_step_9 rfl rfl ?_
  refine gt_FR_body (q := 15) d_MA_step_12 rfl (by first | exact hxi | exact c1 | assumption | (refine pc_of hP ?_; (repeat (first | assumption | exact md_refl | refine md_up ?_ rfl | refine md_fill ?_ rfl | (unfold ik; refine md_up ?_ rfl))); done) | (refine pc_oS hP ?_; (repeat (first | assumption | exact md_refl | refine md_up ?_ rfl | refine md_fill ?_ rfl | (unfold ik; refine md_up ?_ rfl))); done) | (refine pm_of hP ?_; (repeat (first | assumption | exact md_refl | refine md_up ?_ rfl | refine md_fill ?_ rfl | (unfold ik; refine md_up ?_ rfl))); done) | omega | decide | ((try simp +decide only [b01, b10, b11, am_up, ik, and_true, and_false, true_and, false_and, if_true, if_false, nn_eq] at *) <;> (try simp only [sw_or, sw_all, or_false, and_true, i32_lt, i32_le, i32_eq, i32_addw, i32_subw, i32_mulw, Int32.reduceToInt] at *) <;> omega) | (apply_assumption; done)) rfl ?_
  refine gt_ME_first (q := 18) d_MA_step_15 rfl (by first | exact hxi | exact c1 | assumption | (refine pc_of hP ?_; (repeat (first | assumption | exact md_refl | refine md_up ?_ rfl | refine md_fill ?_ rfl | (unfold ik; refine md_up ?_ rfl))); done) | (refine pc_oS hP ?_; (repeat (first | assumption | exact md_refl | refine md_up ?_ rfl | refine md_fill ?_ rfl | (unfold ik; refine md_up ?_ rfl))); done) | (refine pm_of hP ?_; (repeat (first | assumption | exact md_refl | refine md_up ?_ rfl | refine md_fill ?_ rfl | (unfold ik; refine md_up ?_ rfl))); done) | omega | decide | ((try simp +decide only [b01, b10, b11, am_up, ik, and_true, and_false, true_and, false_and, if_true, if_false, nn_eq] at *) <;> (try simp only [sw_or, sw_all, or_false, and_true, i32_lt, i32_le, i32_eq, i32_addw, i32_subw, i32_mulw, Int32.reduceToInt] at *) <;> omega) | (apply_assumption; done)) rfl ?_
  refine r_al0 (q := 19) d_MA_step_18 rfl ?_
  refine gt_MA_latest (q := 22) d_MA_step_19 rfl rfl ?_
  refine gt_FR_place (q := 25) d_MA_step_22 rfl (by first | exact hxi | exact c1 | assumption | (refine pc_of hP ?_; (repeat (first | assumption | exact md_refl | refine md_up ?_ rfl | refine md_fill ?_ rfl | (unfold ik; refine md_up ?_ rfl))); done) | (refine pc_oS hP ?_; (repeat (first | assumption | exact md_refl | refine md_up ?_ rfl | refine md_fill ?_ rfl | (unfold ik; refine md_up ?_ rfl))); done) | (refine pm_of hP ?_; (repeat (first | assumption | exact md_refl | refine md_up ?_ rfl | refine md_fill ?_ rfl | (unfold ik; refine md_up ?_ rfl))); done) | omega | decide | ((try simp +decide only [b01, b10, b11, am_up, ik, and_true, and_false, true_and, false_and, if_true, if_false, nn_eq] at *) <;> (try simp only [sw_or, sw_all, or_false, and_true, i32_lt, i32_le, i32_eq, i32_addw, i32_subw, i32_mulw, Int32.reduceToInt] at *) <;> omega) | (apply_assumption; done)) rfl ?_
  refine r_iadd (q := 26) d_MA_step_25 rfl ?_
  refine r_vv2 mo_IN_read d_MA_step_26 rfl rfl rfl (q := 29) rfl ?_
  refine sp_IN_read (P := P) (by first | exact hxi | exact c1 | assumption | (refine pc_of hP ?_; (repeat (first | assumption | exact md_refl | refine md_up ?_ rfl | refine md_fill ?_ rfl | (unfold ik; refine md_up ?_ rfl))); done) | (refine pc_oS hP ?_; (repeat (first | assumption | exact md_refl | refine md_up ?_ rfl | refine md_fill ?_ rfl | (unfold ik; refine md_up ?_ rfl))); done) | (refine pm_of hP ?_; (repeat (first | assumption | exact md_refl | refine md_up ?_ rfl | refine md_fill ?_ rfl | (unfold ik; refine md_up ?_ rfl))); done) | omega | decide | ((try simp +decide only [b01, b10, b11, am_up, ik, and_true, and_false, true_and, false_and, if_true, if_false, nn_eq] at *) <;> (try simp only [sw_or, sw_all, or_false, and_true, i32_lt, i32_le, i32_eq, i32_addw, i32_subw, i32_mulw, Int32.reduceToInt] at *) <;> omega) | (apply_assumption; done)) (by first | exact hxi | exact c1 | assumption | (refine pc_of hP ?_; (repeat (first | assumption | exact md_refl | refine md_up ?_ rfl | refine md_fill ?_ rfl | (unfold ik; refine md_up ?_ rfl))); done) | (refine pc_oS hP ?_; (repeat (first | assumption | exact md_refl | refine md_up ?_ rfl | refine md_fill ?_ rfl | (unfold ik; refine md_up ?_ rfl))); done) | (refine pm_of hP ?_; (repeat (first | assumption | exact md_refl | refine md_up ?_ rfl | refine md_fill ?_ rfl | (unfold ik; refine md_up ?_ rfl))); done) | omega | decide | ((try simp +decide only [b01, b10, b11, am_up, ik, and_true, and_false, true_and, false_and, if_true, if_false, nn_eq] at *) <;> (try simp only [sw_or, sw_all, or_false, and_true, i32_lt, i32_le, i32_eq, i32_addw, i32_subw, i32_mulw, Int32.reduceToInt] at *) <;> omega) | (apply_assumption; done)) (by first | exact hxi | exact c1 | assumption | (refine pc_of hP ?_; (repeat (first | assumption | exact md_refl | refine md_up ?_ rfl | refine md_fill ?_ rfl | (unfold ik; refine md_up ?_ rfl))); done) | (refine pc_oS hP ?_; (repeat (first | assumption | exact md_refl | refine md_up ?_ rfl | refine md_fill ?_ rfl | (unfold ik; refine md_up ?_ rfl))); done) | (refine pm_of hP ?_; (repeat (first | assumption | exact md_refl | refine md_up ?_ rfl | refine md_fill ?_ rfl | (unfold ik; refine md_up ?_ rfl))); done) | omega | decide | ((try simp +decide only [b01, b10, b11, am_up, ik, and_true, and_false, true_and, false_and, if_true, if_false, nn_eq] at *) <;> (try simp only [sw_or, sw_all, or_false, and_true, i32_lt, i32_le, i32_eq, i32_addw, i32_subw, i32_mulw, Int32.reduceToInt] at *) <;> omega) | (apply_assumption; done)) (by first | exact hxi | exact c1 | assumption | (refine pc_of hP ?_; (repeat (first | assumption | exact md_refl | refine md_up ?_ rfl | refine md_fill ?_ rfl | (unfold ik; refine md_up ?_ rfl))); done) | (refine pc_oS hP ?_; (repeat (first | assumption | exact md_refl | refine md_up ?_ rfl | refine md_fill ?_ rfl | (unfold ik; refine md_up ?_ rfl))); done) | (refine pm_of hP ?_; (repeat (first | assumption | exact md_refl | refine md_up ?_ rfl | refine md_fill ?_ rfl | (unfold ik; refine md_up ?_ rfl))); done) | omega | decide | ((try simp +decide only [b01, b10, b11, am_up, ik, and_true, and_false, true_and, false_and, if_true, if_false, nn_eq] at *) <;> (try simp only [sw_or, sw_all, or_false, and_true, i32_lt, i32_le, i32_eq, i32_addw, i32_subw, i32_mulw, Int32.reduceToInt] at *) <;> omega) | (apply_assumption; done)) (fun e26 => ?_)
  · skip
    exact k29' _ _ (e26.2 hop)

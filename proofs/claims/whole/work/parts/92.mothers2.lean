/-! written by wip/whole/gen/walk.py out of 92.mothers2.txt -/
def putA (hei v : Int32) (o : am_ts) : am_ts := if v = 0 then o else onA hei v o
def mo_i (b : Int32) : Int32 := if b = 46 then 1 else if b.toInt ∈ [96, 100, 104, 108, 112, 120, 122, 124, 126, 128, 130] ∨ b = 79 ∨ (159 ≤ b ∧ b ≤ 164) then 2 else if b = 116 ∨ (153 ≤ b ∧ b ≤ 158) ∨ b = 172 ∨ b = 179 ∨ b = 188 then 1 else 0
def mo_r (b : Int32) : Int32 := if b = 46 ∨ b = 79 ∨ b = 190 ∨ b = 198 ∨ b = 199 then 1 else if b = 165 ∨ b = 166 then 2 else 0
def mo_p (b : Int32) : Int32 := if b.toInt ∈ [96, 100, 104, 108, 112, 120, 122, 124, 126, 128, 130] ∨ b = 116 ∨ b = 46 ∨ b = 190 then 1 else if b = 188 then 2 else 0
def otA (P : am_S) (m : Nat) (hei b n : Int32) (o : am_ts) : am_ts :=
  if b = 89 then onA hei (topT o) (onA hei (topT o) (offA 0 o))
  else if b = 95 then onA hei (topT (offA 0 o)) (onA hei (topT o) (offA 0 (offA 0 o)))
  else if b = 184 then putA hei (if P 6 n.toNatClampNeg = 0 then 0 else 1) (itA (offA 1) (P 3 n.toNatClampNeg).toInt.toNat o)
  else ifA ((¬ b = 172 ∨ ¬ P 6 m = 0) ∧ (¬ b = 177 ∨ P 6 m = 0)) (putA hei (mo_p b) (if b = 87 then offA 0 (itA (offA 2) (mo_r b).toInt.toNat (itA (offA 1) (mo_i b).toInt.toNat o)) else itA (offA 2) (mo_r b).toInt.toNat (itA (offA 1) (mo_i b).toInt.toNat o)))
def otQ (P : am_S) (m : Nat) (hei b n : Int32) (o : am_ts) (st st' : am_S) : Prop := am_md mN st st' ∧ NS st' hei (otA P m hei b n o)
theorem on_t {hei r t : Int32} {o : am_ts} (h : ¬ o = none → r = t) : onA hei r o = onA hei t o := by
  rcases o with _ | s
  · rfl
  · rw [h (by simp)]
theorem of_t {t hei r : Int32} {o : am_ts} {st st' : am_S} (h : ofQ t hei o st r st') : ¬ offA t o = none → r = topT o ∧ (r = 1 ∨ r = 2) := by
  intro q
  rcases o with _ | ⟨L, R, H⟩
  · exact absurd rfl q
  · exact h.2.2 L R H rfl q
theorem on_nn {hei t : Int32} {o : am_ts} (h : ¬ onA hei t o = none) : ¬ o = none := fun q => h (by rw [q]; rfl)
theorem off_nn {t : Int32} {o : am_ts} (h : ¬ offA t o = none) : ¬ o = none := fun q => h (by rw [q]; rfl)
theorem calc_m {b : Int32} : op_calc b ↔ b.toInt ∈ [96, 100, 104, 108, 112, 120, 122, 124, 126, 128, 130] := sw_or_iff
theorem mi_0 {b : Int32} : 0 ≤ (mo_i b).toInt := by
  unfold mo_i
  repeat' split
  all_goals decide
theorem mr_0 {b : Int32} : 0 ≤ (mo_r b).toInt := by
  unfold mo_r
  repeat' split
  all_goals decide
theorem sp_MO_others {P : am_S} {x y hei : Int32} {o : am_ts} {st : am_S} {f : am_S → Prop} (c1 : PM st P) (c2 : VP P) (c3 : 0 ≤ y.toInt ∧ y.toNatClampNeg < nM P) (c4 : 0 ≤ x.toInt ∧ x.toInt < 200) (c5 : x.toInt + (pZ P x.toNatClampNeg).toInt ≤ 200) (c6 : P 0 x.toNatClampNeg = 184 → 0 ≤ (pN P x.toNatClampNeg).toInt ∧ (pN P x.toNatClampNeg).toNatClampNeg < nM P) (c7 : P 5 y.toNatClampNeg = hei) (c8 : NS st hei o) (h1 : ∀ p : {p : am_S // otQ P y.toNatClampNeg hei (P 0 x.toNatClampNeg) (pN P x.toNatClampNeg) o st p}, f p.1) : wp_MO_others [.inr (.inl 128), .inl y, .inl x] st (am_kv f) := by
  refine kv_of (g := otQ P y.toNatClampNeg hei (P 0 x.toNatClampNeg) (pN P x.toNatClampNeg) o st) mo_MO_others ?_ h1
  refine ⟨⟨rfl, Nat.le_of_ble_eq_true rfl⟩, ?_⟩
  clear h1
  obtain ⟨v8, -, -, ⟨v6, -⟩, -⟩ := mf c1 c2 c3.2
  have hy8 : 0 ≤ y.toInt ∧ y.toInt < 8 := ⟨c3.1, by rw [nn_eq] at v8; omega⟩
  have vy : vp_in y 8 := vp_of hy8.1 hy8.2
  have h47 : st 2147 y.toNatClampNeg = hei := by rw [c1.1.2.2.2.2.2.1]; exact c7
  have h48 : st 2148 y.toNatClampNeg = P 6 y.toNatClampNeg := by rw [c1.1.2.2.2.2.2.2]
  have vx : vp_in x 200 := vp_of c4.1 c4.2
  have hst : st 2142 x.toNatClampNeg = P 0 x.toNatClampNeg := by rw [c1.1.1]
  have k47 : ∀ s, am_md mN st s → s 2147 y.toNatClampNeg = hei := fun s h => by rw [h 2147 rfl]; exact h47
  have t1 : ∀ o' : am_ts, ¬ o' = none → (1 : Int32) = 1 ∨ (1 : Int32) = 2 := fun _ _ => Or.inl rfl
  have t2 : ∀ o' : am_ts, ¬ o' = none → (2 : Int32) = 1 ∨ (2 : Int32) = 2 := fun _ _ => Or.inr rfl
  have hW : P 0 x.toNatClampNeg = 184 → (0 ≤ (x + 1).toInt ∧ (x + 1).toInt < 199) ∧ wv (st 2142 (x + 1).toNatClampNeg) (st 2142 (x + 1 + 1).toNatClampNeg) = pN P x.toNatClampNeg := by
    intro e
    obtain ⟨d1, d2, -⟩ := @dN_w (P 0 x.toNatClampNeg) (P 0 (x.toNatClampNeg + 1)) (P 0 (x.toNatClampNeg + 2)) (Or.inr (Or.inr (Or.inl e)))
    have d3 : (pZ P x.toNatClampNeg).toInt = 3 := by unfold pZ; rw [d2]; rfl
    have w1 : (x + 1).toNatClampNeg = x.toNatClampNeg + 1 ∧ (x + 1 + 1).toNatClampNeg = x.toNatClampNeg + 2 ∧ 0 ≤ (x + 1).toInt ∧ (x + 1).toInt < 199 := by
      simp only [nn_eq, i32_addw, Int32.reduceToInt]
      omega
    refine ⟨w1.2.2, ?_⟩
    rw [w1.1, w1.2.1, c1.1.1, ← d1]
    rfl
  have hP := c1
  generalize hbb : P 0 x.toNatClampNeg = b at *
  generalize hnn : pN P x.toNatClampNeg = n at *
  -- dup and swap
  have k19 : b = 89 ∨ b = 95 → am_oth y x b (otQ P y.toNatClampNeg hei b n o st) 19 none none none none [] st := by
    intro e
    have kD : b = 89 → ∀ r s s1 s2, ofQ 0 hei o st r s → onQ r hei (offA 0 o) s s1 → onQ r hei (onA hei r (offA 0 o)) s1 s2 → otQ P y.toNatClampNeg hei b n o st s2 := by
      intro eb r s s1 s2 g1 g2 g3
      refine ⟨md_trans g1.1 (md_trans g2.1 g3.1), ?_⟩
      unfold otA
      rw [if_pos eb]
      have g4 := g3.2
      have g5 : onA hei r (offA 0 o) = onA hei (topT o) (offA 0 o) := on_t (fun q => (of_t g1 q).1)
      rw [g5] at g4
      have g6 : onA hei r (onA hei (topT o) (offA 0 o)) = onA hei (topT o) (onA hei (topT o) (offA 0 o)) := on_t (fun q => (of_t g1 (on_nn q)).1)
      rw [g6] at g4
      exact g4
    have kS : b = 95 → ∀ r s r' s' s1 s2, ofQ 0 hei o st r s → ofQ 0 hei (offA 0 o) s r' s' → onQ r hei (offA 0 (offA 0 o)) s' s1 → onQ r' hei (onA hei r (offA 0 (offA 0 o))) s1 s2 → otQ P y.toNatClampNeg hei b n o st s2 := by
      intro eb r s r' s' s1 s2 g1 g2 g3 g4
      refine ⟨md_trans g1.1 (md_trans g2.1 (md_trans g3.1 g4.1)), ?_⟩
      unfold otA
      rw [if_neg (by rw [eb]; decide), if_pos eb]
      have g5 := g4.2
      have g6 : onA hei r (offA 0 (offA 0 o)) = onA hei (topT o) (offA 0 (offA 0 o)) := on_t (fun q => (of_t g1 (off_nn q)).1)
      rw [g6] at g5
      have g7 : onA hei r' (onA hei (topT o) (offA 0 (offA 0 o))) = onA hei (topT (offA 0 o)) (onA hei (topT o) (offA 0 (offA 0 o))) := on_t (fun q => (of_t g2 (on_nn q)).1)
      rw [g7] at g5
      exact g5
    have k26 : ∀ r s, ofQ 0 hei o st r s → am_oth y x b (otQ P y.toNatClampNeg hei b n o st) 26 (some (.inl r)) none none none [] s := by
      intro r s g1
      have s47 := k47 s g1.1
      have kA : b = 89 → am_oth y x b (otQ P y.toNatClampNeg hei b n o st) 44 (some (.inl r)) (some (.inl r)) none none [] s := by
        intro eb
        have tq : ¬ offA 0 o = none → r = 1 ∨ r = 2 := fun q => (of_t g1 q).2
        have k51 : ∀ s1, onQ r hei (offA 0 o) s s1 → am_oth y x b (otQ P y.toNatClampNeg hei b n o st) 51 (some (.inl r)) (some (.inl r)) none none [] s1 := by
          intro s1 g2
          have s47' := k47 s1 (md_trans g1.1 g2.1)
          have tq2 : ¬ onA hei r (offA 0 o) = none → r = 1 ∨ r = 2 := fun q => tq (on_nn q)
          have g2n := g2.2
          refine r_al0 (q := 52) d_MO_others_51 rfl ?_
          refine r_il5 (q := 54) d_MO_others_52 rfl ?_
          refine r_il1 (q := 55) d_MO_others_54 rfl ?_
          refine r_vv2 mo_MO_on d_MO_others_55 rfl rfl rfl (q := 58) rfl ?_
          refine sp_MO_on (o := onA hei r (offA 0 o)) (hei := hei) (by first | exact g2n | exact s47' | exact tq2 | assumption | (refine pc_of hP ?_; (repeat (first | assumption | exact md_refl | refine md_up ?_ rfl | refine md_fill ?_ rfl | (unfold ik; refine md_up ?_ rfl))); done) | (refine pm_of hP ?_; (repeat (first | assumption | exact md_refl | refine md_up ?_ rfl | refine md_fill ?_ rfl | (unfold ik; refine md_up ?_ rfl))); done) | omega | decide | ((try simp +decide only [b01, b10, b11, am_up, ik, and_true, and_false, true_and, false_and, if_true, if_false, nn_eq] at *) <;> (try simp only [sw_or, sw_all, or_false, and_true, i32_lt, i32_le, i32_eq, i32_addw, i32_subw, i32_mulw, Int32.reduceToInt] at *) <;> omega) | (apply_assumption; done)) (by first | exact g2n | exact s47' | exact tq2 | assumption | (refine pc_of hP ?_; (repeat (first | assumption | exact md_refl | refine md_up ?_ rfl | refine md_fill ?_ rfl | (unfold ik; refine md_up ?_ rfl))); done) | (refine pm_of hP ?_; (repeat (first | assumption | exact md_refl | refine md_up ?_ rfl | refine md_fill ?_ rfl | (unfold ik; refine md_up ?_ rfl))); done) | omega | decide | ((try simp +decide only [b01, b10, b11, am_up, ik, and_true, and_false, true_and, false_and, if_true, if_false, nn_eq] at *) <;> (try simp only [sw_or, sw_all, or_false, and_true, i32_lt, i32_le, i32_eq, i32_addw, i32_subw, i32_mulw, Int32.reduceToInt] at *) <;> omega) | (apply_assumption; done)) (by first | exact g2n | exact s47' | exact tq2 | assumption | (refine pc_of hP ?_; (repeat (first | assumption | exact md_refl | refine md_up ?_ rfl | refine md_fill ?_ rfl | (unfold ik; refine md_up ?_ rfl))); done) | (refine pm_of hP ?_; (repeat (first | assumption | exact md_refl | refine md_up ?_ rfl | refine md_fill ?_ rfl | (unfold ik; refine md_up ?_ rfl))); done) | omega | decide | ((try simp +decide only [b01, b10, b11, am_up, ik, and_true, and_false, true_and, false_and, if_true, if_false, nn_eq] at *) <;> (try simp only [sw_or, sw_all, or_false, and_true, i32_lt, i32_le, i32_eq, i32_addw, i32_subw, i32_mulw, Int32.reduceToInt] at *) <;> omega) | (apply_assumption; done)) (by first | exact g2n | exact s47' | exact tq2 | assumption | (refine pc_of hP ?_; (repeat (first | assumption | exact md_refl | refine md_up ?_ rfl | refine md_fill ?_ rfl | (unfold ik; refine md_up ?_ rfl))); done) | (refine pm_of hP ?_; (repeat (first | assumption | exact md_refl | refine md_up ?_ rfl | refine md_fill ?_ rfl | (unfold ik; refine md_up ?_ rfl))); done) | omega | decide | ((try simp +decide only [b01, b10, b11, am_up, ik, and_true, and_false, true_and, false_and, if_true, if_false, nn_eq] at *) <;> (try simp only [sw_or, sw_all, or_false, and_true, i32_lt, i32_le, i32_eq, i32_addw, i32_subw, i32_mulw, Int32.reduceToInt] at *) <;> omega) | (apply_assumption; done)) (fun e55 => ?_)
          · skip
            refine am_go (tgt := 434) d_MO_others_58 rfl ?_
            refine r_rv d_MO_others_434 ?_
            exact kD eb _ _ _ _ g1 g2 e55.2
        have g1n := g1.2.1
        refine r_al0 (q := 45) d_MO_others_44 rfl ?_
        refine r_il4 (q := 47) d_MO_others_45 rfl ?_
        refine r_il1 (q := 48) d_MO_others_47 rfl ?_
        refine r_vv2 mo_MO_on d_MO_others_48 rfl rfl rfl (q := 51) rfl ?_
        refine sp_MO_on (o := offA 0 o) (hei := hei) (by first | exact g1n | exact s47 | exact tq | assumption | (refine pc_of hP ?_; (repeat (first | assumption | exact md_refl | refine md_up ?_ rfl | refine md_fill ?_ rfl | (unfold ik; refine md_up ?_ rfl))); done) | (refine pm_of hP ?_; (repeat (first | assumption | exact md_refl | refine md_up ?_ rfl | refine md_fill ?_ rfl | (unfold ik; refine md_up ?_ rfl))); done) | omega | decide | ((try simp +decide only [b01, b10, b11, am_up, ik, and_true, and_false, true_and, false_and, if_true, if_false, nn_eq] at *) <;> (try simp only [sw_or, sw_all, or_false, and_true, i32_lt, i32_le, i32_eq, i32_addw, i32_subw, i32_mulw, Int32.reduceToInt] at *) <;> omega) | (apply_assumption; done)) (by first | exact g1n | exact s47 | exact tq | assumption | (refine pc_of hP ?_; (repeat (first | assumption | exact md_refl | refine md_up ?_ rfl | refine md_fill ?_ rfl | (unfold ik; refine md_up ?_ rfl))); done) | (refine pm_of hP ?_; (repeat (first | assumption | exact md_refl | refine md_up ?_ rfl | refine md_fill ?_ rfl | (unfold ik; refine md_up ?_ rfl))); done) | omega | decide | ((try simp +decide only [b01, b10, b11, am_up, ik, and_true, and_false, true_and, false_and, if_true, if_false, nn_eq] at *) <;> (try simp only [sw_or, sw_all, or_false, and_true, i32_lt, i32_le, i32_eq, i32_addw, i32_subw, i32_mulw, Int32.reduceToInt] at *) <;> omega) | (apply_assumption; done)) (by first | exact g1n | exact s47 | exact tq | assumption | (refine pc_of hP ?_; (repeat (first | assumption | exact md_refl | refine md_up ?_ rfl | refine md_fill ?_ rfl | (unfold ik; refine md_up ?_ rfl))); done) | (refine pm_of hP ?_; (repeat (first | assumption | exact md_refl | refine md_up ?_ rfl | refine md_fill ?_ rfl | (unfold ik; refine md_up ?_ rfl))); done) | omega | decide | ((try simp +decide only [b01, b10, b11, am_up, ik, and_true, and_false, true_and, false_and, if_true, if_false, nn_eq] at *) <;> (try simp only [sw_or, sw_all, or_false, and_true, i32_lt, i32_le, i32_eq, i32_addw, i32_subw, i32_mulw, Int32.reduceToInt] at *) <;> omega) | (apply_assumption; done)) (by first | exact g1n | exact s47 | exact tq | assumption | (refine pc_of hP ?_; (repeat (first | assumption | exact md_refl | refine md_up ?_ rfl | refine md_fill ?_ rfl | (unfold ik; refine md_up ?_ rfl))); done) | (refine pm_of hP ?_; (repeat (first | assumption | exact md_refl | refine md_up ?_ rfl | refine md_fill ?_ rfl | (unfold ik; refine md_up ?_ rfl))); done) | omega | decide | ((try simp +decide only [b01, b10, b11, am_up, ik, and_true, and_false, true_and, false_and, if_true, if_false, nn_eq] at *) <;> (try simp only [sw_or, sw_all, or_false, and_true, i32_lt, i32_le, i32_eq, i32_addw, i32_subw, i32_mulw, Int32.reduceToInt] at *) <;> omega) | (apply_assumption; done)) (fun e48 => ?_)
        · skip
          exact k51 _ e48.2
      have kB : b = 95 → ∀ r' s', ofQ 0 hei (offA 0 o) s r' s' → am_oth y x b (otQ P y.toNatClampNeg hei b n o st) 44 (some (.inl r)) (some (.inl r')) none none [] s' := by
        intro eb r' s' g2
        have s47 := k47 s' (md_trans g1.1 g2.1)
        have tq : ¬ offA 0 (offA 0 o) = none → r = 1 ∨ r = 2 := fun q => (of_t g1 (off_nn q)).2
        have k51 : ∀ s1, onQ r hei (offA 0 (offA 0 o)) s' s1 → am_oth y x b (otQ P y.toNatClampNeg hei b n o st) 51 (some (.inl r)) (some (.inl r')) none none [] s1 := by
          intro s1 g3
          have s47' := k47 s1 (md_trans g1.1 (md_trans g2.1 g3.1))
          have tq2 : ¬ onA hei r (offA 0 (offA 0 o)) = none → r' = 1 ∨ r' = 2 := fun q => (of_t g2 (on_nn q)).2
          have g3n := g3.2
          refine r_al0 (q := 52) d_MO_others_51 rfl ?_
          refine r_il5 (q := 54) d_MO_others_52 rfl ?_
          refine r_il1 (q := 55) d_MO_others_54 rfl ?_
          refine r_vv2 mo_MO_on d_MO_others_55 rfl rfl rfl (q := 58) rfl ?_
          refine sp_MO_on (o := onA hei r (offA 0 (offA 0 o))) (hei := hei) (by first | exact g3n | exact s47' | exact tq2 | assumption | (refine pc_of hP ?_; (repeat (first | assumption | exact md_refl | refine md_up ?_ rfl | refine md_fill ?_ rfl | (unfold ik; refine md_up ?_ rfl))); done) | (refine pm_of hP ?_; (repeat (first | assumption | exact md_refl | refine md_up ?_ rfl | refine md_fill ?_ rfl | (unfold ik; refine md_up ?_ rfl))); done) | omega | decide | ((try simp +decide only [b01, b10, b11, am_up, ik, and_true, and_false, true_and, false_and, if_true, if_false, nn_eq] at *) <;> (try simp only [sw_or, sw_all, or_false, and_true, i32_lt, i32_le, i32_eq, i32_addw, i32_subw, i32_mulw, Int32.reduceToInt] at *) <;> omega) | (apply_assumption; done)) (by first | exact g3n | exact s47' | exact tq2 | assumption | (refine pc_of hP ?_; (repeat (first | assumption | exact md_refl | refine md_up ?_ rfl | refine md_fill ?_ rfl | (unfold ik; refine md_up ?_ rfl))); done) | (refine pm_of hP ?_; (repeat (first | assumption | exact md_refl | refine md_up ?_ rfl | refine md_fill ?_ rfl | (unfold ik; refine md_up ?_ rfl))); done) | omega | decide | ((try simp +decide only [b01, b10, b11, am_up, ik, and_true, and_false, true_and, false_and, if_true, if_false, nn_eq] at *) <;> (try simp only [sw_or, sw_all, or_false, and_true, i32_lt, i32_le, i32_eq, i32_addw, i32_subw, i32_mulw, Int32.reduceToInt] at *) <;> omega) | (apply_assumption; done)) (by first | exact g3n | exact s47' | exact tq2 | assumption | (refine pc_of hP ?_; (repeat (first | assumption | exact md_refl | refine md_up ?_ rfl | refine md_fill ?_ rfl | (unfold ik; refine md_up ?_ rfl))); done) | (refine pm_of hP ?_; (repeat (first | assumption | exact md_refl | refine md_up ?_ rfl | refine md_fill ?_ rfl | (unfold ik; refine md_up ?_ rfl))); done) | omega | decide | ((try simp +decide only [b01, b10, b11, am_up, ik, and_true, and_false, true_and, false_and, if_true, if_false, nn_eq] at *) <;> (try simp only [sw_or, sw_all, or_false, and_true, i32_lt, i32_le, i32_eq, i32_addw, i32_subw, i32_mulw, Int32.reduceToInt] at *) <;> omega) | (apply_assumption; done)) (by first | exact g3n | exact s47' | exact tq2 | assumption | (refine pc_of hP ?_; (repeat (first | assumption | exact md_refl | refine md_up ?_ rfl | refine md_fill ?_ rfl | (unfold ik; refine md_up ?_ rfl))); done) | (refine pm_of hP ?_; (repeat (first | assumption | exact md_refl | refine md_up ?_ rfl | refine md_fill ?_ rfl | (unfold ik; refine md_up ?_ rfl))); done) | omega | decide | ((try simp +decide only [b01, b10, b11, am_up, ik, and_true, and_false, true_and, false_and, if_true, if_false, nn_eq] at *) <;> (try simp only [sw_or, sw_all, or_false, and_true, i32_lt, i32_le, i32_eq, i32_addw, i32_subw, i32_mulw, Int32.reduceToInt] at *) <;> omega) | (apply_assumption; done)) (fun e55 => ?_)
          · skip
            refine am_go (tgt := 434) d_MO_others_58 rfl ?_
            refine r_rv d_MO_others_434 ?_
            exact kS eb _ _ _ _ _ _ g1 g2 g3 e55.2
        have g2n := g2.2.1
        refine r_al0 (q := 45) d_MO_others_44 rfl ?_
        refine r_il4 (q := 47) d_MO_others_45 rfl ?_
        refine r_il1 (q := 48) d_MO_others_47 rfl ?_
        refine r_vv2 mo_MO_on d_MO_others_48 rfl rfl rfl (q := 51) rfl ?_
        refine sp_MO_on (o := offA 0 (offA 0 o)) (hei := hei) (by first | exact g2n | exact s47 | exact tq | assumption | (refine pc_of hP ?_; (repeat (first | assumption | exact md_refl | refine md_up ?_ rfl | refine md_fill ?_ rfl | (unfold ik; refine md_up ?_ rfl))); done) | (refine pm_of hP ?_; (repeat (first | assumption | exact md_refl | refine md_up ?_ rfl | refine md_fill ?_ rfl | (unfold ik; refine md_up ?_ rfl))); done) | omega | decide | ((try simp +decide only [b01, b10, b11, am_up, ik, and_true, and_false, true_and, false_and, if_true, if_false, nn_eq] at *) <;> (try simp only [sw_or, sw_all, or_false, and_true, i32_lt, i32_le, i32_eq, i32_addw, i32_subw, i32_mulw, Int32.reduceToInt] at *) <;> omega) | (apply_assumption; done)) (by first | exact g2n | exact s47 | exact tq | assumption | (refine pc_of hP ?_; (repeat (first | assumption | exact md_refl | refine md_up ?_ rfl | refine md_fill ?_ rfl | (unfold ik; refine md_up ?_ rfl))); done) | (refine pm_of hP ?_; (repeat (first | assumption | exact md_refl | refine md_up ?_ rfl | refine md_fill ?_ rfl | (unfold ik; refine md_up ?_ rfl))); done) | omega | decide | ((try simp +decide only [b01, b10, b11, am_up, ik, and_true, and_false, true_and, false_and, if_true, if_false, nn_eq] at *) <;> (try simp only [sw_or, sw_all, or_false, and_true, i32_lt, i32_le, i32_eq, i32_addw, i32_subw, i32_mulw, Int32.reduceToInt] at *) <;> omega) | (apply_assumption; done)) (by first | exact g2n | exact s47 | exact tq | assumption | (refine pc_of hP ?_; (repeat (first | assumption | exact md_refl | refine md_up ?_ rfl | refine md_fill ?_ rfl | (unfold ik; refine md_up ?_ rfl))); done) | (refine pm_of hP ?_; (repeat (first | assumption | exact md_refl | refine md_up ?_ rfl | refine md_fill ?_ rfl | (unfold ik; refine md_up ?_ rfl))); done) | omega | decide | ((try simp +decide only [b01, b10, b11, am_up, ik, and_true, and_false, true_and, false_and, if_true, if_false, nn_eq] at *) <;> (try simp only [sw_or, sw_all, or_false, and_true, i32_lt, i32_le, i32_eq, i32_addw, i32_subw, i32_mulw, Int32.reduceToInt] at *) <;> omega) | (apply_assumption; done)) (by first | exact g2n | exact s47 | exact tq | assumption | (refine pc_of hP ?_; (repeat (first | assumption | exact md_refl | refine md_up ?_ rfl | refine md_fill ?_ rfl | (unfold ik; refine md_up ?_ rfl))); done) | (refine pm_of hP ?_; (repeat (first | assumption | exact md_refl | refine md_up ?_ rfl | refine md_fill ?_ rfl | (unfold ik; refine md_up ?_ rfl))); done) | omega | decide | ((try simp +decide only [b01, b10, b11, am_up, ik, and_true, and_false, true_and, false_and, if_true, if_false, nn_eq] at *) <;> (try simp only [sw_or, sw_all, or_false, and_true, i32_lt, i32_le, i32_eq, i32_addw, i32_subw, i32_mulw, Int32.reduceToInt] at *) <;> omega) | (apply_assumption; done)) (fun e48 => ?_)
        · skip
          exact k51 _ e48.2
      have g1n := g1.2.1
      refine r_il3 (q := 27) d_MO_others_26 rfl ?_
      refine r_bp (v := 89) (q := 29) d_MO_others_27 rfl rfl ?_
      refine r_cne (tgt := 37) (q := 32) d_MO_others_29 rfl rfl (fun e29 => ?_) (fun e29 => ?_)
      · skip
        refine r_al0 (q := 38) d_MO_others_37 rfl ?_
        refine r_ic (v := 0) (q := 39) d_MO_others_38 rfl rfl ?_
        refine r_vi1 mo_MO_off d_MO_others_39 rfl rfl rfl (q := 42) rfl ?_
        refine sp_MO_off (o := offA 0 o) (hei := hei) (by first | exact g1n | assumption | (refine pc_of hP ?_; (repeat (first | assumption | exact md_refl | refine md_up ?_ rfl | refine md_fill ?_ rfl | (unfold ik; refine md_up ?_ rfl))); done) | (refine pm_of hP ?_; (repeat (first | assumption | exact md_refl | refine md_up ?_ rfl | refine md_fill ?_ rfl | (unfold ik; refine md_up ?_ rfl))); done) | omega | decide | ((try simp +decide only [b01, b10, b11, am_up, ik, and_true, and_false, true_and, false_and, if_true, if_false, nn_eq] at *) <;> (try simp only [sw_or, sw_all, or_false, and_true, i32_lt, i32_le, i32_eq, i32_addw, i32_subw, i32_mulw, Int32.reduceToInt] at *) <;> omega) | (apply_assumption; done)) (fun e39 => ?_)
        · skip
          refine r_is5 (q := 44) d_MO_others_42 rfl ?_
          first | exact kA e29 | exact kB (e.resolve_left e29) _ _ e39.2
      · skip
        refine r_il4 (q := 34) d_MO_others_32 rfl ?_
        refine am_go (tgt := 42) d_MO_others_34 rfl ?_
        refine r_is5 (q := 44) d_MO_others_42 rfl ?_
        first | exact kA e29 | exact kB (e.resolve_left e29) _ _ e39.2
    refine r_al0 (q := 20) d_MO_others_19 rfl ?_
    refine r_ic (v := 0) (q := 21) d_MO_others_20 rfl rfl ?_
    refine r_vi1 mo_MO_off d_MO_others_21 rfl rfl rfl (q := 24) rfl ?_
    refine sp_MO_off (o := o) (hei := hei) (by first | exact c8 | assumption | (refine pc_of hP ?_; (repeat (first | assumption | exact md_refl | refine md_up ?_ rfl | refine md_fill ?_ rfl | (unfold ik; refine md_up ?_ rfl))); done) | (refine pm_of hP ?_; (repeat (first | assumption | exact md_refl | refine md_up ?_ rfl | refine md_fill ?_ rfl | (unfold ik; refine md_up ?_ rfl))); done) | omega | decide | ((try simp +decide only [b01, b10, b11, am_up, ik, and_true, and_false, true_and, false_and, if_true, if_false, nn_eq] at *) <;> (try simp only [sw_or, sw_all, or_false, and_true, i32_lt, i32_le, i32_eq, i32_addw, i32_subw, i32_mulw, Int32.reduceToInt] at *) <;> omega) | (apply_assumption; done)) (fun e21 => ?_)
    · skip
      refine r_is4 (q := 26) d_MO_others_24 rfl ?_
      exact k26 _ _ e21.2
  -- a call
  have k68 : b = 184 → am_oth y x b (otQ P y.toNatClampNeg hei b n o st) 68 none none none none [] st := by
    intro e
    obtain ⟨w1, w2⟩ := hW e
    obtain ⟨n1, n2⟩ := c6 e
    obtain ⟨n8, -, ⟨n3, n4, -⟩, ⟨n5, -⟩, -⟩ := mf c1 c2 n2
    have hn8 : 0 ≤ n.toInt ∧ n.toInt < 8 := ⟨n1, by rw [nn_eq] at n8; omega⟩
    have vn : vp_in n 8 := vp_of hn8.1 hn8.2
    have e3 : (P 3 n.toNatClampNeg).toInt.toNat = (st 2145 n.toNatClampNeg).toInt.toNat := by rw [c1.1.2.2.2.1]
    have e6 : P 6 n.toNatClampNeg = st 2148 n.toNatClampNeg := by rw [c1.1.2.2.2.2.2.2]
    have k105 : ∀ w' a6' s, am_md mN st s → NS s hei (itA (offA 1) (st 2145 n.toNatClampNeg).toInt.toNat o) → am_oth y x b (otQ P y.toNatClampNeg hei b n o st) 105 (some (.inl n)) (some (.inl w')) a6' none [] s := by
      intro w' a6' s s1 s2
      have s47 := k47 s s1
      have s48 : s 2148 n.toNatClampNeg = P 6 n.toNatClampNeg := by rw [s1 2148 rfl, e6]
      have kQ : ∀ s', am_md mN st s' → NS s' hei (putA hei (if P 6 n.toNatClampNeg = 0 then 0 else 1) (itA (offA 1) (st 2145 n.toNatClampNeg).toInt.toNat o)) → otQ P y.toNatClampNeg hei b n o st s' := by
        intro s' q1 q2
        refine ⟨q1, ?_⟩
        unfold otA
        rw [if_neg (by rw [e]; decide), if_neg (by rw [e]; decide), if_pos e, e3]
        exact q2
      have kz : s 2148 n.toNatClampNeg = 0 → otQ P y.toNatClampNeg hei b n o st s := by
        intro q
        rw [s48] at q
        refine kQ s s1 ?_
        rw [if_pos q]
        exact s2
      have kp : ¬ s 2148 n.toNatClampNeg = 0 → ∀ s', onQ 1 hei (itA (offA 1) (st 2145 n.toNatClampNeg).toInt.toNat o) s s' → otQ P y.toNatClampNeg hei b n o st s' := by
        intro q s' g
        rw [s48] at q
        refine kQ s' (md_trans s1 g.1) ?_
        rw [if_neg q]
        exact g.2
      refine r_al0 (q := 106) d_MO_others_105 rfl ?_
      refine gt_MO_gives (q := 109) d_MO_others_106 rfl rfl ?_
      refine r_il4 (q := 111) d_MO_others_109 rfl ?_
      refine ld_148 (q := 112) d_MO_others_111 ?_ rfl ?_
      · exact vn
      refine r_zeq (tgt := 121) (q := 115) d_MO_others_112 rfl rfl (fun e112 => ?_) (fun e112 => ?_)
      · skip
        refine am_go (tgt := 434) d_MO_others_121 rfl ?_
        refine r_rv d_MO_others_434 ?_
        first | exact kz e112 | exact kp e112 _ e118.2
      · skip
        refine r_al0 (q := 116) d_MO_others_115 rfl ?_
        refine r_ic (v := 1) (q := 117) d_MO_others_116 rfl rfl ?_
        refine r_il1 (q := 118) d_MO_others_117 rfl ?_
        refine r_vv2 mo_MO_on d_MO_others_118 rfl rfl rfl (q := 121) rfl ?_
        refine sp_MO_on (o := itA (offA 1) (st 2145 n.toNatClampNeg).toInt.toNat o) (hei := hei) (by first | exact s2 | exact s47 | exact t1 _ | assumption | (refine pc_of hP ?_; (repeat (first | assumption | exact md_refl | refine md_up ?_ rfl | refine md_fill ?_ rfl | (unfold ik; refine md_up ?_ rfl))); done) | (refine pm_of hP ?_; (repeat (first | assumption | exact md_refl | refine md_up ?_ rfl | refine md_fill ?_ rfl | (unfold ik; refine md_up ?_ rfl))); done) | omega | decide | ((try simp +decide only [b01, b10, b11, am_up, ik, and_true, and_false, true_and, false_and, if_true, if_false, nn_eq] at *) <;> (try simp only [sw_or, sw_all, or_false, and_true, i32_lt, i32_le, i32_eq, i32_addw, i32_subw, i32_mulw, Int32.reduceToInt] at *) <;> omega) | (apply_assumption; done)) (by first | exact s2 | exact s47 | exact t1 _ | assumption | (refine pc_of hP ?_; (repeat (first | assumption | exact md_refl | refine md_up ?_ rfl | refine md_fill ?_ rfl | (unfold ik; refine md_up ?_ rfl))); done) | (refine pm_of hP ?_; (repeat (first | assumption | exact md_refl | refine md_up ?_ rfl | refine md_fill ?_ rfl | (unfold ik; refine md_up ?_ rfl))); done) | omega | decide | ((try simp +decide only [b01, b10, b11, am_up, ik, and_true, and_false, true_and, false_and, if_true, if_false, nn_eq] at *) <;> (try simp only [sw_or, sw_all, or_false, and_true, i32_lt, i32_le, i32_eq, i32_addw, i32_subw, i32_mulw, Int32.reduceToInt] at *) <;> omega) | (apply_assumption; done)) (by first | exact s2 | exact s47 | exact t1 _ | assumption | (refine pc_of hP ?_; (repeat (first | assumption | exact md_refl | refine md_up ?_ rfl | refine md_fill ?_ rfl | (unfold ik; refine md_up ?_ rfl))); done) | (refine pm_of hP ?_; (repeat (first | assumption | exact md_refl | refine md_up ?_ rfl | refine md_fill ?_ rfl | (unfold ik; refine md_up ?_ rfl))); done) | omega | decide | ((try simp +decide only [b01, b10, b11, am_up, ik, and_true, and_false, true_and, false_and, if_true, if_false, nn_eq] at *) <;> (try simp only [sw_or, sw_all, or_false, and_true, i32_lt, i32_le, i32_eq, i32_addw, i32_subw, i32_mulw, Int32.reduceToInt] at *) <;> omega) | (apply_assumption; done)) (by first | exact s2 | exact s47 | exact t1 _ | assumption | (refine pc_of hP ?_; (repeat (first | assumption | exact md_refl | refine md_up ?_ rfl | refine md_fill ?_ rfl | (unfold ik; refine md_up ?_ rfl))); done) | (refine pm_of hP ?_; (repeat (first | assumption | exact md_refl | refine md_up ?_ rfl | refine md_fill ?_ rfl | (unfold ik; refine md_up ?_ rfl))); done) | omega | decide | ((try simp +decide only [b01, b10, b11, am_up, ik, and_true, and_false, true_and, false_and, if_true, if_false, nn_eq] at *) <;> (try simp only [sw_or, sw_all, or_false, and_true, i32_lt, i32_le, i32_eq, i32_addw, i32_subw, i32_mulw, Int32.reduceToInt] at *) <;> omega) | (apply_assumption; done)) (fun e118 => ?_)
        · skip
          refine am_go (tgt := 434) d_MO_others_121 rfl ?_
          refine r_rv d_MO_others_434 ?_
          first | exact kz e112 | exact kp e112 _ e118.2
    have kL := @lp_ot1 y x b n hei (otQ P y.toNatClampNeg hei b n o st) st hn8 (st 2145 n.toNatClampNeg).toInt.toNat 0 none none o st (by decide) (by simp only [Int32.reduceToInt]; omega) md_refl c8 k105
    refine r_al0 (q := 69) d_MO_others_68 rfl ?_
    refine r_il2 (q := 70) d_MO_others_69 rfl ?_
    refine r_ic (v := 1) (q := 71) d_MO_others_70 rfl rfl ?_
    refine r_iadd (q := 72) d_MO_others_71 rfl ?_
    refine r_vi1 mo_MO_word d_MO_others_72 rfl rfl rfl (q := 75) rfl ?_
    refine sp_MO_word (P := P) (by first | exact w1 | assumption | (refine pc_of hP ?_; (repeat (first | assumption | exact md_refl | refine md_up ?_ rfl | refine md_fill ?_ rfl | (unfold ik; refine md_up ?_ rfl))); done) | (refine pm_of hP ?_; (repeat (first | assumption | exact md_refl | refine md_up ?_ rfl | refine md_fill ?_ rfl | (unfold ik; refine md_up ?_ rfl))); done) | omega | decide | ((try simp +decide only [b01, b10, b11, am_up, ik, and_true, and_false, true_and, false_and, if_true, if_false, nn_eq] at *) <;> (try simp only [sw_or, sw_all, or_false, and_true, i32_lt, i32_le, i32_eq, i32_addw, i32_subw, i32_mulw, Int32.reduceToInt] at *) <;> omega) | (apply_assumption; done)) (by first | exact w1 | assumption | (refine pc_of hP ?_; (repeat (first | assumption | exact md_refl | refine md_up ?_ rfl | refine md_fill ?_ rfl | (unfold ik; refine md_up ?_ rfl))); done) | (refine pm_of hP ?_; (repeat (first | assumption | exact md_refl | refine md_up ?_ rfl | refine md_fill ?_ rfl | (unfold ik; refine md_up ?_ rfl))); done) | omega | decide | ((try simp +decide only [b01, b10, b11, am_up, ik, and_true, and_false, true_and, false_and, if_true, if_false, nn_eq] at *) <;> (try simp only [sw_or, sw_all, or_false, and_true, i32_lt, i32_le, i32_eq, i32_addw, i32_subw, i32_mulw, Int32.reduceToInt] at *) <;> omega) | (apply_assumption; done)) (by first | exact w1 | assumption | (refine pc_of hP ?_; (repeat (first | assumption | exact md_refl | refine md_up ?_ rfl | refine md_fill ?_ rfl | (unfold ik; refine md_up ?_ rfl))); done) | (refine pm_of hP ?_; (repeat (first | assumption | exact md_refl | refine md_up ?_ rfl | refine md_fill ?_ rfl | (unfold ik; refine md_up ?_ rfl))); done) | omega | decide | ((try simp +decide only [b01, b10, b11, am_up, ik, and_true, and_false, true_and, false_and, if_true, if_false, nn_eq] at *) <;> (try simp only [sw_or, sw_all, or_false, and_true, i32_lt, i32_le, i32_eq, i32_addw, i32_subw, i32_mulw, Int32.reduceToInt] at *) <;> omega) | (apply_assumption; done)) ?_
    refine r_is4 (q := 77) d_MO_others_75 rfl ?_
    refine r_ic (v := 0) (q := 78) d_MO_others_77 rfl rfl ?_
    refine r_is5 (q := 80) d_MO_others_78 rfl ?_
    rw [w2]; exact kL
  -- all other instructions
  have k124 : ¬ b = 89 → ¬ b = 95 → ¬ b = 184 → am_oth y x b (otQ P y.toNatClampNeg hei b n o st) 124 none none none none [] st := by
    intro b1 b2 b3
    have kQ : ∀ s', am_md mN st s' → NS s' hei (ifA ((¬ b = 172 ∨ ¬ P 6 y.toNatClampNeg = 0) ∧ (¬ b = 177 ∨ P 6 y.toNatClampNeg = 0)) (putA hei (mo_p b) (if b = 87 then offA 0 (itA (offA 2) (mo_r b).toInt.toNat (itA (offA 1) (mo_i b).toInt.toNat o)) else itA (offA 2) (mo_r b).toInt.toNat (itA (offA 1) (mo_i b).toInt.toNat o)))) → otQ P y.toNatClampNeg hei b n o st s' := by
      intro s' q1 q2
      refine ⟨q1, ?_⟩
      unfold otA
      rw [if_neg b1, if_neg b2, if_neg b3]
      exact q2
    generalize hE : (if b = 87 then offA 0 (itA (offA 2) (mo_r b).toInt.toNat (itA (offA 1) (mo_i b).toInt.toNat o)) else itA (offA 2) (mo_r b).toInt.toNat (itA (offA 1) (mo_i b).toInt.toNat o)) = o3 at kQ
    -- giving
    have k386 : ∀ s a4 a5 a6 a7, am_md mN st s → NS s hei (putA hei (mo_p b) o3) → am_oth y x b (otQ P y.toNatClampNeg hei b n o st) 386 a4 a5 a6 a7 [] s := by
      intro s a4 a5 a6 a7 s1 s2
      have s48 : s 2148 y.toNatClampNeg = P 6 y.toNatClampNeg := by rw [s1 2148 rfl]; exact h48
      have kg : ∀ g, (g = 1 ∧ ¬ s 599 0 = 0 ∧ ((¬ b = 172 ∨ ¬ s 2148 y.toNatClampNeg = 0) ∧ (¬ b = 177 ∨ s 2148 y.toNatClampNeg = 0))) ∨ (g = 0 ∧ (s 599 0 = 0 ∨ ¬ ((¬ b = 172 ∨ ¬ s 2148 y.toNatClampNeg = 0) ∧ (¬ b = 177 ∨ s 2148 y.toNatClampNeg = 0)))) → otQ P y.toNatClampNeg hei b n o st (am_up s 599 0 g) := by
        intro g hg
        rw [s48] at hg
        exact kQ _ (md_up s1 rfl) (NS_if s2 hg)
      refine r_al0 (q := 387) d_MO_others_386 rfl ?_
      refine r_al0 (q := 388) d_MO_others_387 rfl ?_
      refine gt_MO_good (q := 391) d_MO_others_388 rfl rfl ?_
      refine r_zeq (tgt := 430) (q := 394) d_MO_others_391 rfl rfl (fun e391 => ?_) (fun e391 => ?_)
      · skip
        refine r_ic (v := 0) (q := 431) d_MO_others_430 rfl rfl ?_
        refine pt_MO_good (q := 434) d_MO_others_431 rfl (by first | assumption | (refine pc_of hP ?_; (repeat (first | assumption | exact md_refl | refine md_up ?_ rfl | refine md_fill ?_ rfl | (unfold ik; refine md_up ?_ rfl))); done) | (refine pm_of hP ?_; (repeat (first | assumption | exact md_refl | refine md_up ?_ rfl | refine md_fill ?_ rfl | (unfold ik; refine md_up ?_ rfl))); done) | omega | decide | ((try simp +decide only [b01, b10, b11, am_up, ik, and_true, and_false, true_and, false_and, if_true, if_false, nn_eq] at *) <;> (try simp only [sw_or, sw_all, or_false, and_true, i32_lt, i32_le, i32_eq, i32_addw, i32_subw, i32_mulw, Int32.reduceToInt] at *) <;> omega) | (apply_assumption; done)) rfl ?_
        refine r_rv d_MO_others_434 ?_
        first | exact kg 0 (Or.inr ⟨rfl, Or.inl e391⟩) | exact kg 0 (Or.inr ⟨rfl, Or.inr (fun q => q.1.elim (fun z => z e398) (fun z => z e407))⟩) | exact kg 0 (Or.inr ⟨rfl, Or.inr (fun q => q.2.elim (fun z => z e414) (fun z => e423 z))⟩) | exact kg 1 (Or.inl ⟨rfl, e391, Or.inl e398, Or.inl e414⟩) | exact kg 1 (Or.inl ⟨rfl, e391, Or.inl e398, Or.inr e423⟩) | exact kg 1 (Or.inl ⟨rfl, e391, Or.inr e407, Or.inl e414⟩) | exact kg 1 (Or.inl ⟨rfl, e391, Or.inr e407, Or.inr e423⟩)
      · skip
        refine r_il3 (q := 395) d_MO_others_394 rfl ?_
        refine r_sp (v := 172) (q := 398) d_MO_others_395 rfl rfl ?_
        refine r_cne (tgt := 410) (q := 401) d_MO_others_398 rfl rfl (fun e398 => ?_) (fun e398 => ?_)
        · skip
          refine r_il3 (q := 411) d_MO_others_410 rfl ?_
          refine r_sp (v := 177) (q := 414) d_MO_others_411 rfl rfl ?_
          refine r_cne (tgt := 426) (q := 417) d_MO_others_414 rfl rfl (fun e414 => ?_) (fun e414 => ?_)
          · skip
            refine r_ic (v := 1) (q := 427) d_MO_others_426 rfl rfl ?_
            refine am_go (tgt := 431) d_MO_others_427 rfl ?_
            refine pt_MO_good (q := 434) d_MO_others_431 rfl (by first | assumption | (refine pc_of hP ?_; (repeat (first | assumption | exact md_refl | refine md_up ?_ rfl | refine md_fill ?_ rfl | (unfold ik; refine md_up ?_ rfl))); done) | (refine pm_of hP ?_; (repeat (first | assumption | exact md_refl | refine md_up ?_ rfl | refine md_fill ?_ rfl | (unfold ik; refine md_up ?_ rfl))); done) | omega | decide | ((try simp +decide only [b01, b10, b11, am_up, ik, and_true, and_false, true_and, false_and, if_true, if_false, nn_eq] at *) <;> (try simp only [sw_or, sw_all, or_false, and_true, i32_lt, i32_le, i32_eq, i32_addw, i32_subw, i32_mulw, Int32.reduceToInt] at *) <;> omega) | (apply_assumption; done)) rfl ?_
            refine r_rv d_MO_others_434 ?_
            first | exact kg 0 (Or.inr ⟨rfl, Or.inl e391⟩) | exact kg 0 (Or.inr ⟨rfl, Or.inr (fun q => q.1.elim (fun z => z e398) (fun z => z e407))⟩) | exact kg 0 (Or.inr ⟨rfl, Or.inr (fun q => q.2.elim (fun z => z e414) (fun z => e423 z))⟩) | exact kg 1 (Or.inl ⟨rfl, e391, Or.inl e398, Or.inl e414⟩) | exact kg 1 (Or.inl ⟨rfl, e391, Or.inl e398, Or.inr e423⟩) | exact kg 1 (Or.inl ⟨rfl, e391, Or.inr e407, Or.inl e414⟩) | exact kg 1 (Or.inl ⟨rfl, e391, Or.inr e407, Or.inr e423⟩)
          · skip
            refine r_al0 (q := 418) d_MO_others_417 rfl ?_
            refine gt_MO_gives (q := 421) d_MO_others_418 rfl rfl ?_
            refine r_il1 (q := 422) d_MO_others_421 rfl ?_
            refine ld_148 (q := 423) d_MO_others_422 ?_ rfl ?_
            · exact vy
            refine r_zne (tgt := 430) (q := 426) d_MO_others_423 rfl rfl (fun e423 => ?_) (fun e423 => ?_)
            · skip
              refine r_ic (v := 0) (q := 431) d_MO_others_430 rfl rfl ?_
              refine pt_MO_good (q := 434) d_MO_others_431 rfl (by first | assumption | (refine pc_of hP ?_; (repeat (first | assumption | exact md_refl | refine md_up ?_ rfl | refine md_fill ?_ rfl | (unfold ik; refine md_up ?_ rfl))); done) | (refine pm_of hP ?_; (repeat (first | assumption | exact md_refl | refine md_up ?_ rfl | refine md_fill ?_ rfl | (unfold ik; refine md_up ?_ rfl))); done) | omega | decide | ((try simp +decide only [b01, b10, b11, am_up, ik, and_true, and_false, true_and, false_and, if_true, if_false, nn_eq] at *) <;> (try simp only [sw_or, sw_all, or_false, and_true, i32_lt, i32_le, i32_eq, i32_addw, i32_subw, i32_mulw, Int32.reduceToInt] at *) <;> omega) | (apply_assumption; done)) rfl ?_
              refine r_rv d_MO_others_434 ?_
              first | exact kg 0 (Or.inr ⟨rfl, Or.inl e391⟩) | exact kg 0 (Or.inr ⟨rfl, Or.inr (fun q => q.1.elim (fun z => z e398) (fun z => z e407))⟩) | exact kg 0 (Or.inr ⟨rfl, Or.inr (fun q => q.2.elim (fun z => z e414) (fun z => e423 z))⟩) | exact kg 1 (Or.inl ⟨rfl, e391, Or.inl e398, Or.inl e414⟩) | exact kg 1 (Or.inl ⟨rfl, e391, Or.inl e398, Or.inr e423⟩) | exact kg 1 (Or.inl ⟨rfl, e391, Or.inr e407, Or.inl e414⟩) | exact kg 1 (Or.inl ⟨rfl, e391, Or.inr e407, Or.inr e423⟩)
            · skip
              refine r_ic (v := 1) (q := 427) d_MO_others_426 rfl rfl ?_
              refine am_go (tgt := 431) d_MO_others_427 rfl ?_
              refine pt_MO_good (q := 434) d_MO_others_431 rfl (by first | assumption | (refine pc_of hP ?_; (repeat (first | assumption | exact md_refl | refine md_up ?_ rfl | refine md_fill ?_ rfl | (unfold ik; refine md_up ?_ rfl))); done) | (refine pm_of hP ?_; (repeat (first | assumption | exact md_refl | refine md_up ?_ rfl | refine md_fill ?_ rfl | (unfold ik; refine md_up ?_ rfl))); done) | omega | decide | ((try simp +decide only [b01, b10, b11, am_up, ik, and_true, and_false, true_and, false_and, if_true, if_false, nn_eq] at *) <;> (try simp only [sw_or, sw_all, or_false, and_true, i32_lt, i32_le, i32_eq, i32_addw, i32_subw, i32_mulw, Int32.reduceToInt] at *) <;> omega) | (apply_assumption; done)) rfl ?_
              refine r_rv d_MO_others_434 ?_
              first | exact kg 0 (Or.inr ⟨rfl, Or.inl e391⟩) | exact kg 0 (Or.inr ⟨rfl, Or.inr (fun q => q.1.elim (fun z => z e398) (fun z => z e407))⟩) | exact kg 0 (Or.inr ⟨rfl, Or.inr (fun q => q.2.elim (fun z => z e414) (fun z => e423 z))⟩) | exact kg 1 (Or.inl ⟨rfl, e391, Or.inl e398, Or.inl e414⟩) | exact kg 1 (Or.inl ⟨rfl, e391, Or.inl e398, Or.inr e423⟩) | exact kg 1 (Or.inl ⟨rfl, e391, Or.inr e407, Or.inl e414⟩) | exact kg 1 (Or.inl ⟨rfl, e391, Or.inr e407, Or.inr e423⟩)
        · skip
          refine r_al0 (q := 402) d_MO_others_401 rfl ?_
          refine gt_MO_gives (q := 405) d_MO_others_402 rfl rfl ?_
          refine r_il1 (q := 406) d_MO_others_405 rfl ?_
          refine ld_148 (q := 407) d_MO_others_406 ?_ rfl ?_
          · exact vy
          refine r_zeq (tgt := 430) (q := 410) d_MO_others_407 rfl rfl (fun e407 => ?_) (fun e407 => ?_)
          · skip
            refine r_ic (v := 0) (q := 431) d_MO_others_430 rfl rfl ?_
            refine pt_MO_good (q := 434) d_MO_others_431 rfl (by first | assumption | (refine pc_of hP ?_; (repeat (first | assumption | exact md_refl | refine md_up ?_ rfl | refine md_fill ?_ rfl | (unfold ik; refine md_up ?_ rfl))); done) | (refine pm_of hP ?_; (repeat (first | assumption | exact md_refl | refine md_up ?_ rfl | refine md_fill ?_ rfl | (unfold ik; refine md_up ?_ rfl))); done) | omega | decide | ((try simp +decide only [b01, b10, b11, am_up, ik, and_true, and_false, true_and, false_and, if_true, if_false, nn_eq] at *) <;> (try simp only [sw_or, sw_all, or_false, and_true, i32_lt, i32_le, i32_eq, i32_addw, i32_subw, i32_mulw, Int32.reduceToInt] at *) <;> omega) | (apply_assumption; done)) rfl ?_
            refine r_rv d_MO_others_434 ?_
            first | exact kg 0 (Or.inr ⟨rfl, Or.inl e391⟩) | exact kg 0 (Or.inr ⟨rfl, Or.inr (fun q => q.1.elim (fun z => z e398) (fun z => z e407))⟩) | exact kg 0 (Or.inr ⟨rfl, Or.inr (fun q => q.2.elim (fun z => z e414) (fun z => e423 z))⟩) | exact kg 1 (Or.inl ⟨rfl, e391, Or.inl e398, Or.inl e414⟩) | exact kg 1 (Or.inl ⟨rfl, e391, Or.inl e398, Or.inr e423⟩) | exact kg 1 (Or.inl ⟨rfl, e391, Or.inr e407, Or.inl e414⟩) | exact kg 1 (Or.inl ⟨rfl, e391, Or.inr e407, Or.inr e423⟩)
          · skip
            refine r_il3 (q := 411) d_MO_others_410 rfl ?_
            refine r_sp (v := 177) (q := 414) d_MO_others_411 rfl rfl ?_
            refine r_cne (tgt := 426) (q := 417) d_MO_others_414 rfl rfl (fun e414 => ?_) (fun e414 => ?_)
            · skip
              refine r_ic (v := 1) (q := 427) d_MO_others_426 rfl rfl ?_
              refine am_go (tgt := 431) d_MO_others_427 rfl ?_
              refine pt_MO_good (q := 434) d_MO_others_431 rfl (by first | assumption | (refine pc_of hP ?_; (repeat (first | assumption | exact md_refl | refine md_up ?_ rfl | refine md_fill ?_ rfl | (unfold ik; refine md_up ?_ rfl))); done) | (refine pm_of hP ?_; (repeat (first | assumption | exact md_refl | refine md_up ?_ rfl | refine md_fill ?_ rfl | (unfold ik; refine md_up ?_ rfl))); done) | omega | decide | ((try simp +decide only [b01, b10, b11, am_up, ik, and_true, and_false, true_and, false_and, if_true, if_false, nn_eq] at *) <;> (try simp only [sw_or, sw_all, or_false, and_true, i32_lt, i32_le, i32_eq, i32_addw, i32_subw, i32_mulw, Int32.reduceToInt] at *) <;> omega) | (apply_assumption; done)) rfl ?_
              refine r_rv d_MO_others_434 ?_
              first | exact kg 0 (Or.inr ⟨rfl, Or.inl e391⟩) | exact kg 0 (Or.inr ⟨rfl, Or.inr (fun q => q.1.elim (fun z => z e398) (fun z => z e407))⟩) | exact kg 0 (Or.inr ⟨rfl, Or.inr (fun q => q.2.elim (fun z => z e414) (fun z => e423 z))⟩) | exact kg 1 (Or.inl ⟨rfl, e391, Or.inl e398, Or.inl e414⟩) | exact kg 1 (Or.inl ⟨rfl, e391, Or.inl e398, Or.inr e423⟩) | exact kg 1 (Or.inl ⟨rfl, e391, Or.inr e407, Or.inl e414⟩) | exact kg 1 (Or.inl ⟨rfl, e391, Or.inr e407, Or.inr e423⟩)
            · skip
              refine r_al0 (q := 418) d_MO_others_417 rfl ?_
              refine gt_MO_gives (q := 421) d_MO_others_418 rfl rfl ?_
              refine r_il1 (q := 422) d_MO_others_421 rfl ?_
              refine ld_148 (q := 423) d_MO_others_422 ?_ rfl ?_
              · exact vy
              refine r_zne (tgt := 430) (q := 426) d_MO_others_423 rfl rfl (fun e423 => ?_) (fun e423 => ?_)
              · skip
                refine r_ic (v := 0) (q := 431) d_MO_others_430 rfl rfl ?_
                refine pt_MO_good (q := 434) d_MO_others_431 rfl (by first | assumption | (refine pc_of hP ?_; (repeat (first | assumption | exact md_refl | refine md_up ?_ rfl | refine md_fill ?_ rfl | (unfold ik; refine md_up ?_ rfl))); done) | (refine pm_of hP ?_; (repeat (first | assumption | exact md_refl | refine md_up ?_ rfl | refine md_fill ?_ rfl | (unfold ik; refine md_up ?_ rfl))); done) | omega | decide | ((try simp +decide only [b01, b10, b11, am_up, ik, and_true, and_false, true_and, false_and, if_true, if_false, nn_eq] at *) <;> (try simp only [sw_or, sw_all, or_false, and_true, i32_lt, i32_le, i32_eq, i32_addw, i32_subw, i32_mulw, Int32.reduceToInt] at *) <;> omega) | (apply_assumption; done)) rfl ?_
                refine r_rv d_MO_others_434 ?_
                first | exact kg 0 (Or.inr ⟨rfl, Or.inl e391⟩) | exact kg 0 (Or.inr ⟨rfl, Or.inr (fun q => q.1.elim (fun z => z e398) (fun z => z e407))⟩) | exact kg 0 (Or.inr ⟨rfl, Or.inr (fun q => q.2.elim (fun z => z e414) (fun z => e423 z))⟩) | exact kg 1 (Or.inl ⟨rfl, e391, Or.inl e398, Or.inl e414⟩) | exact kg 1 (Or.inl ⟨rfl, e391, Or.inl e398, Or.inr e423⟩) | exact kg 1 (Or.inl ⟨rfl, e391, Or.inr e407, Or.inl e414⟩) | exact kg 1 (Or.inl ⟨rfl, e391, Or.inr e407, Or.inr e423⟩)
              · skip
                refine r_ic (v := 1) (q := 427) d_MO_others_426 rfl rfl ?_
                refine am_go (tgt := 431) d_MO_others_427 rfl ?_
                refine pt_MO_good (q := 434) d_MO_others_431 rfl (by first | assumption | (refine pc_of hP ?_; (repeat (first | assumption | exact md_refl | refine md_up ?_ rfl | refine md_fill ?_ rfl | (unfold ik; refine md_up ?_ rfl))); done) | (refine pm_of hP ?_; (repeat (first | assumption | exact md_refl | refine md_up ?_ rfl | refine md_fill ?_ rfl | (unfold ik; refine md_up ?_ rfl))); done) | omega | decide | ((try simp +decide only [b01, b10, b11, am_up, ik, and_true, and_false, true_and, false_and, if_true, if_false, nn_eq] at *) <;> (try simp only [sw_or, sw_all, or_false, and_true, i32_lt, i32_le, i32_eq, i32_addw, i32_subw, i32_mulw, Int32.reduceToInt] at *) <;> omega) | (apply_assumption; done)) rfl ?_
                refine r_rv d_MO_others_434 ?_
                first | exact kg 0 (Or.inr ⟨rfl, Or.inl e391⟩) | exact kg 0 (Or.inr ⟨rfl, Or.inr (fun q => q.1.elim (fun z => z e398) (fun z => z e407))⟩) | exact kg 0 (Or.inr ⟨rfl, Or.inr (fun q => q.2.elim (fun z => z e414) (fun z => e423 z))⟩) | exact kg 1 (Or.inl ⟨rfl, e391, Or.inl e398, Or.inl e414⟩) | exact kg 1 (Or.inl ⟨rfl, e391, Or.inl e398, Or.inr e423⟩) | exact kg 1 (Or.inl ⟨rfl, e391, Or.inr e407, Or.inl e414⟩) | exact kg 1 (Or.inl ⟨rfl, e391, Or.inr e407, Or.inr e423⟩)
    -- putting
    have k338 : ∀ s a4 a5 a6 a7, am_md mN st s → NS s hei o3 → am_oth y x b (otQ P y.toNatClampNeg hei b n o st) 338 a4 a5 a6 a7 [] s := by
      intro s a4 a5 a6 a7 s1 s2
      have s47 := k47 s s1
      have p1 : (op_calc b ∨ b = 116 ∨ b = 46 ∨ b = 190) → ∀ s', onQ 1 hei o3 s s' → am_oth y x b (otQ P y.toNatClampNeg hei b n o st) 386 a4 a5 a6 a7 [] s' := by
        intro c s' g
        rw [calc_m] at c
        refine k386 s' a4 a5 a6 a7 (md_trans s1 g.1) ?_
        have : mo_p b = 1 := if_pos c
        rw [this]
        exact g.2
      have p2 : ¬ op_calc b → ¬ b = 116 → ¬ b = 46 → ¬ b = 190 → (b = 188 → ∀ s', onQ 2 hei o3 s s' → am_oth y x b (otQ P y.toNatClampNeg hei b n o st) 386 a4 a5 a6 a7 [] s') ∧ (¬ b = 188 → am_oth y x b (otQ P y.toNatClampNeg hei b n o st) 386 a4 a5 a6 a7 [] s) := by
        intro n1 n2 n3 n4
        rw [calc_m] at n1
        have n5 : ¬ (b.toInt ∈ [96, 100, 104, 108, 112, 120, 122, 124, 126, 128, 130] ∨ b = 116 ∨ b = 46 ∨ b = 190) := by
          rintro (q | q | q | q)
          · exact n1 q
          · exact n2 q
          · exact n3 q
          · exact n4 q
        refine ⟨fun c s' g => k386 s' a4 a5 a6 a7 (md_trans s1 g.1) ?_, fun c => k386 s a4 a5 a6 a7 s1 ?_⟩
        · have : mo_p b = 2 := by unfold mo_p; rw [if_neg n5, if_pos c]
          rw [this]
          exact g.2
        · have : mo_p b = 0 := by unfold mo_p; rw [if_neg n5, if_neg c]
          rw [this]
          exact s2
      refine r_il3 (q := 339) d_MO_others_338 rfl ?_
      refine r_si1 mo_MO_isSum d_MO_others_339 rfl rfl (q := 342) rfl ?_
      refine sp_MO_isSum (fun e339 => ?_) (fun e339 => ?_)
      · skip
        refine r_zne (tgt := 364) (q := 345) d_MO_others_342 rfl rfl (fun e342 => ?_) (fun e342 => by exfalso; revert e342; decide)
        refine r_al0 (q := 365) d_MO_others_364 rfl ?_
        refine r_ic (v := 1) (q := 366) d_MO_others_365 rfl rfl ?_
        refine r_il1 (q := 367) d_MO_others_366 rfl ?_
        refine r_vv2 mo_MO_on d_MO_others_367 rfl rfl rfl (q := 370) rfl ?_
        refine sp_MO_on (o := o3) (hei := hei) (by first | exact s2 | exact s47 | exact t1 _ | exact t2 _ | assumption | (refine pc_of hP ?_; (repeat (first | assumption | exact md_refl | refine md_up ?_ rfl | refine md_fill ?_ rfl | (unfold ik; refine md_up ?_ rfl))); done) | (refine pm_of hP ?_; (repeat (first | assumption | exact md_refl | refine md_up ?_ rfl | refine md_fill ?_ rfl | (unfold ik; refine md_up ?_ rfl))); done) | omega | decide | ((try simp +decide only [b01, b10, b11, am_up, ik, and_true, and_false, true_and, false_and, if_true, if_false, nn_eq] at *) <;> (try simp only [sw_or, sw_all, or_false, and_true, i32_lt, i32_le, i32_eq, i32_addw, i32_subw, i32_mulw, Int32.reduceToInt] at *) <;> omega) | (apply_assumption; done)) (by first | exact s2 | exact s47 | exact t1 _ | exact t2 _ | assumption | (refine pc_of hP ?_; (repeat (first | assumption | exact md_refl | refine md_up ?_ rfl | refine md_fill ?_ rfl | (unfold ik; refine md_up ?_ rfl))); done) | (refine pm_of hP ?_; (repeat (first | assumption | exact md_refl | refine md_up ?_ rfl | refine md_fill ?_ rfl | (unfold ik; refine md_up ?_ rfl))); done) | omega | decide | ((try simp +decide only [b01, b10, b11, am_up, ik, and_true, and_false, true_and, false_and, if_true, if_false, nn_eq] at *) <;> (try simp only [sw_or, sw_all, or_false, and_true, i32_lt, i32_le, i32_eq, i32_addw, i32_subw, i32_mulw, Int32.reduceToInt] at *) <;> omega) | (apply_assumption; done)) (by first | exact s2 | exact s47 | exact t1 _ | exact t2 _ | assumption | (refine pc_of hP ?_; (repeat (first | assumption | exact md_refl | refine md_up ?_ rfl | refine md_fill ?_ rfl | (unfold ik; refine md_up ?_ rfl))); done) | (refine pm_of hP ?_; (repeat (first | assumption | exact md_refl | refine md_up ?_ rfl | refine md_fill ?_ rfl | (unfold ik; refine md_up ?_ rfl))); done) | omega | decide | ((try simp +decide only [b01, b10, b11, am_up, ik, and_true, and_false, true_and, false_and, if_true, if_false, nn_eq] at *) <;> (try simp only [sw_or, sw_all, or_false, and_true, i32_lt, i32_le, i32_eq, i32_addw, i32_subw, i32_mulw, Int32.reduceToInt] at *) <;> omega) | (apply_assumption; done)) (by first | exact s2 | exact s47 | exact t1 _ | exact t2 _ | assumption | (refine pc_of hP ?_; (repeat (first | assumption | exact md_refl | refine md_up ?_ rfl | refine md_fill ?_ rfl | (unfold ik; refine md_up ?_ rfl))); done) | (refine pm_of hP ?_; (repeat (first | assumption | exact md_refl | refine md_up ?_ rfl | refine md_fill ?_ rfl | (unfold ik; refine md_up ?_ rfl))); done) | omega | decide | ((try simp +decide only [b01, b10, b11, am_up, ik, and_true, and_false, true_and, false_and, if_true, if_false, nn_eq] at *) <;> (try simp only [sw_or, sw_all, or_false, and_true, i32_lt, i32_le, i32_eq, i32_addw, i32_subw, i32_mulw, Int32.reduceToInt] at *) <;> omega) | (apply_assumption; done)) (fun e367 => ?_)
        · skip
          refine am_go (tgt := 386) d_MO_others_370 rfl ?_
          first | exact p1 (Or.inl e339) _ e367.2 | exact p1 (Or.inr (Or.inl e348)) _ e367.2 | exact p1 (Or.inr (Or.inr (Or.inl e354))) _ e367.2 | exact p1 (Or.inr (Or.inr (Or.inr e361))) _ e367.2 | exact (p2 e339 e348 e354 e361).1 e377 _ e383.2 | exact (p2 e339 e348 e354 e361).2 e377
      · skip
        refine r_zne (tgt := 364) (q := 345) d_MO_others_342 rfl rfl (fun e342 => by exfalso; revert e342; decide) (fun e342 => ?_)
        refine r_il3 (q := 346) d_MO_others_345 rfl ?_
        refine r_bp (v := 116) (q := 348) d_MO_others_346 rfl rfl ?_
        refine r_ceq (tgt := 364) (q := 351) d_MO_others_348 rfl rfl (fun e348 => ?_) (fun e348 => ?_)
        · skip
          refine r_al0 (q := 365) d_MO_others_364 rfl ?_
          refine r_ic (v := 1) (q := 366) d_MO_others_365 rfl rfl ?_
          refine r_il1 (q := 367) d_MO_others_366 rfl ?_
          refine r_vv2 mo_MO_on d_MO_others_367 rfl rfl rfl (q := 370) rfl ?_
          refine sp_MO_on (o := o3) (hei := hei) (by first | exact s2 | exact s47 | exact t1 _ | exact t2 _ | assumption | (refine pc_of hP ?_; (repeat (first | assumption | exact md_refl | refine md_up ?_ rfl | refine md_fill ?_ rfl | (unfold ik; refine md_up ?_ rfl))); done) | (refine pm_of hP ?_; (repeat (first | assumption | exact md_refl | refine md_up ?_ rfl | refine md_fill ?_ rfl | (unfold ik; refine md_up ?_ rfl))); done) | omega | decide | ((try simp +decide only [b01, b10, b11, am_up, ik, and_true, and_false, true_and, false_and, if_true, if_false, nn_eq] at *) <;> (try simp only [sw_or, sw_all, or_false, and_true, i32_lt, i32_le, i32_eq, i32_addw, i32_subw, i32_mulw, Int32.reduceToInt] at *) <;> omega) | (apply_assumption; done)) (by first | exact s2 | exact s47 | exact t1 _ | exact t2 _ | assumption | (refine pc_of hP ?_; (repeat (first | assumption | exact md_refl | refine md_up ?_ rfl | refine md_fill ?_ rfl | (unfold ik; refine md_up ?_ rfl))); done) | (refine pm_of hP ?_; (repeat (first | assumption | exact md_refl | refine md_up ?_ rfl | refine md_fill ?_ rfl | (unfold ik; refine md_up ?_ rfl))); done) | omega | decide | ((try simp +decide only [b01, b10, b11, am_up, ik, and_true, and_false, true_and, false_and, if_true, if_false, nn_eq] at *) <;> (try simp only [sw_or, sw_all, or_false, and_true, i32_lt, i32_le, i32_eq, i32_addw, i32_subw, i32_mulw, Int32.reduceToInt] at *) <;> omega) | (apply_assumption; done)) (by first | exact s2 | exact s47 | exact t1 _ | exact t2 _ | assumption | (refine pc_of hP ?_; (repeat (first | assumption | exact md_refl | refine md_up ?_ rfl | refine md_fill ?_ rfl | (unfold ik; refine md_up ?_ rfl))); done) | (refine pm_of hP ?_; (repeat (first | assumption | exact md_refl | refine md_up ?_ rfl | refine md_fill ?_ rfl | (unfold ik; refine md_up ?_ rfl))); done) | omega | decide | ((try simp +decide only [b01, b10, b11, am_up, ik, and_true, and_false, true_and, false_and, if_true, if_false, nn_eq] at *) <;> (try simp only [sw_or, sw_all, or_false, and_true, i32_lt, i32_le, i32_eq, i32_addw, i32_subw, i32_mulw, Int32.reduceToInt] at *) <;> omega) | (apply_assumption; done)) (by first | exact s2 | exact s47 | exact t1 _ | exact t2 _ | assumption | (refine pc_of hP ?_; (repeat (first | assumption | exact md_refl | refine md_up ?_ rfl | refine md_fill ?_ rfl | (unfold ik; refine md_up ?_ rfl))); done) | (refine pm_of hP ?_; (repeat (first | assumption | exact md_refl | refine md_up ?_ rfl | refine md_fill ?_ rfl | (unfold ik; refine md_up ?_ rfl))); done) | omega | decide | ((try simp +decide only [b01, b10, b11, am_up, ik, and_true, and_false, true_and, false_and, if_true, if_false, nn_eq] at *) <;> (try simp only [sw_or, sw_all, or_false, and_true, i32_lt, i32_le, i32_eq, i32_addw, i32_subw, i32_mulw, Int32.reduceToInt] at *) <;> omega) | (apply_assumption; done)) (fun e367 => ?_)
          · skip
            refine am_go (tgt := 386) d_MO_others_370 rfl ?_
            first | exact p1 (Or.inl e339) _ e367.2 | exact p1 (Or.inr (Or.inl e348)) _ e367.2 | exact p1 (Or.inr (Or.inr (Or.inl e354))) _ e367.2 | exact p1 (Or.inr (Or.inr (Or.inr e361))) _ e367.2 | exact (p2 e339 e348 e354 e361).1 e377 _ e383.2 | exact (p2 e339 e348 e354 e361).2 e377
        · skip
          refine r_il3 (q := 352) d_MO_others_351 rfl ?_
          refine r_bp (v := 46) (q := 354) d_MO_others_352 rfl rfl ?_
          refine r_ceq (tgt := 364) (q := 357) d_MO_others_354 rfl rfl (fun e354 => ?_) (fun e354 => ?_)
          · skip
            refine r_al0 (q := 365) d_MO_others_364 rfl ?_
            refine r_ic (v := 1) (q := 366) d_MO_others_365 rfl rfl ?_
            refine r_il1 (q := 367) d_MO_others_366 rfl ?_
            refine r_vv2 mo_MO_on d_MO_others_367 rfl rfl rfl (q := 370) rfl ?_
            refine sp_MO_on (o := o3) (hei := hei) (by first | exact s2 | exact s47 | exact t1 _ | exact t2 _ | assumption | (refine pc_of hP ?_; (repeat (first | assumption | exact md_refl | refine md_up ?_ rfl | refine md_fill ?_ rfl | (unfold ik; refine md_up ?_ rfl))); done) | (refine pm_of hP ?_; (repeat (first | assumption | exact md_refl | refine md_up ?_ rfl | refine md_fill ?_ rfl | (unfold ik; refine md_up ?_ rfl))); done) | omega | decide | ((try simp +decide only [b01, b10, b11, am_up, ik, and_true, and_false, true_and, false_and, if_true, if_false, nn_eq] at *) <;> (try simp only [sw_or, sw_all, or_false, and_true, i32_lt, i32_le, i32_eq, i32_addw, i32_subw, i32_mulw, Int32.reduceToInt] at *) <;> omega) | (apply_assumption; done)) (by first | exact s2 | exact s47 | exact t1 _ | exact t2 _ | assumption | (refine pc_of hP ?_; (repeat (first | assumption | exact md_refl | refine md_up ?_ rfl | refine md_fill ?_ rfl | (unfold ik; refine md_up ?_ rfl))); done) | (refine pm_of hP ?_; (repeat (first | assumption | exact md_refl | refine md_up ?_ rfl | refine md_fill ?_ rfl | (unfold ik; refine md_up ?_ rfl))); done) | omega | decide | ((try simp +decide only [b01, b10, b11, am_up, ik, and_true, and_false, true_and, false_and, if_true, if_false, nn_eq] at *) <;> (try simp only [sw_or, sw_all, or_false, and_true, i32_lt, i32_le, i32_eq, i32_addw, i32_subw, i32_mulw, Int32.reduceToInt] at *) <;> omega) | (apply_assumption; done)) (by first | exact s2 | exact s47 | exact t1 _ | exact t2 _ | assumption | (refine pc_of hP ?_; (repeat (first | assumption | exact md_refl | refine md_up ?_ rfl | refine md_fill ?_ rfl | (unfold ik; refine md_up ?_ rfl))); done) | (refine pm_of hP ?_; (repeat (first | assumption | exact md_refl | refine md_up ?_ rfl | refine md_fill ?_ rfl | (unfold ik; refine md_up ?_ rfl))); done) | omega | decide | ((try simp +decide only [b01, b10, b11, am_up, ik, and_true, and_false, true_and, false_and, if_true, if_false, nn_eq] at *) <;> (try simp only [sw_or, sw_all, or_false, and_true, i32_lt, i32_le, i32_eq, i32_addw, i32_subw, i32_mulw, Int32.reduceToInt] at *) <;> omega) | (apply_assumption; done)) (by first | exact s2 | exact s47 | exact t1 _ | exact t2 _ | assumption | (refine pc_of hP ?_; (repeat (first | assumption | exact md_refl | refine md_up ?_ rfl | refine md_fill ?_ rfl | (unfold ik; refine md_up ?_ rfl))); done) | (refine pm_of hP ?_; (repeat (first | assumption | exact md_refl | refine md_up ?_ rfl | refine md_fill ?_ rfl | (unfold ik; refine md_up ?_ rfl))); done) | omega | decide | ((try simp +decide only [b01, b10, b11, am_up, ik, and_true, and_false, true_and, false_and, if_true, if_false, nn_eq] at *) <;> (try simp only [sw_or, sw_all, or_false, and_true, i32_lt, i32_le, i32_eq, i32_addw, i32_subw, i32_mulw, Int32.reduceToInt] at *) <;> omega) | (apply_assumption; done)) (fun e367 => ?_)
            · skip
              refine am_go (tgt := 386) d_MO_others_370 rfl ?_
              first | exact p1 (Or.inl e339) _ e367.2 | exact p1 (Or.inr (Or.inl e348)) _ e367.2 | exact p1 (Or.inr (Or.inr (Or.inl e354))) _ e367.2 | exact p1 (Or.inr (Or.inr (Or.inr e361))) _ e367.2 | exact (p2 e339 e348 e354 e361).1 e377 _ e383.2 | exact (p2 e339 e348 e354 e361).2 e377
          · skip
            refine r_il3 (q := 358) d_MO_others_357 rfl ?_
            refine r_sp (v := 190) (q := 361) d_MO_others_358 rfl rfl ?_
            refine r_cne (tgt := 373) (q := 364) d_MO_others_361 rfl rfl (fun e361 => ?_) (fun e361 => ?_)
            · skip
              refine r_il3 (q := 374) d_MO_others_373 rfl ?_
              refine r_sp (v := 188) (q := 377) d_MO_others_374 rfl rfl ?_
              refine r_cne (tgt := 386) (q := 380) d_MO_others_377 rfl rfl (fun e377 => ?_) (fun e377 => ?_)
              · skip
                first | exact p1 (Or.inl e339) _ e367.2 | exact p1 (Or.inr (Or.inl e348)) _ e367.2 | exact p1 (Or.inr (Or.inr (Or.inl e354))) _ e367.2 | exact p1 (Or.inr (Or.inr (Or.inr e361))) _ e367.2 | exact (p2 e339 e348 e354 e361).1 e377 _ e383.2 | exact (p2 e339 e348 e354 e361).2 e377
              · skip
                refine r_al0 (q := 381) d_MO_others_380 rfl ?_
                refine r_ic (v := 2) (q := 382) d_MO_others_381 rfl rfl ?_
                refine r_il1 (q := 383) d_MO_others_382 rfl ?_
                refine r_vv2 mo_MO_on d_MO_others_383 rfl rfl rfl (q := 386) rfl ?_
                refine sp_MO_on (o := o3) (hei := hei) (by first | exact s2 | exact s47 | exact t1 _ | exact t2 _ | assumption | (refine pc_of hP ?_; (repeat (first | assumption | exact md_refl | refine md_up ?_ rfl | refine md_fill ?_ rfl | (unfold ik; refine md_up ?_ rfl))); done) | (refine pm_of hP ?_; (repeat (first | assumption | exact md_refl | refine md_up ?_ rfl | refine md_fill ?_ rfl | (unfold ik; refine md_up ?_ rfl))); done) | omega | decide | ((try simp +decide only [b01, b10, b11, am_up, ik, and_true, and_false, true_and, false_and, if_true, if_false, nn_eq] at *) <;> (try simp only [sw_or, sw_all, or_false, and_true, i32_lt, i32_le, i32_eq, i32_addw, i32_subw, i32_mulw, Int32.reduceToInt] at *) <;> omega) | (apply_assumption; done)) (by first | exact s2 | exact s47 | exact t1 _ | exact t2 _ | assumption | (refine pc_of hP ?_; (repeat (first | assumption | exact md_refl | refine md_up ?_ rfl | refine md_fill ?_ rfl | (unfold ik; refine md_up ?_ rfl))); done) | (refine pm_of hP ?_; (repeat (first | assumption | exact md_refl | refine md_up ?_ rfl | refine md_fill ?_ rfl | (unfold ik; refine md_up ?_ rfl))); done) | omega | decide | ((try simp +decide only [b01, b10, b11, am_up, ik, and_true, and_false, true_and, false_and, if_true, if_false, nn_eq] at *) <;> (try simp only [sw_or, sw_all, or_false, and_true, i32_lt, i32_le, i32_eq, i32_addw, i32_subw, i32_mulw, Int32.reduceToInt] at *) <;> omega) | (apply_assumption; done)) (by first | exact s2 | exact s47 | exact t1 _ | exact t2 _ | assumption | (refine pc_of hP ?_; (repeat (first | assumption | exact md_refl | refine md_up ?_ rfl | refine md_fill ?_ rfl | (unfold ik; refine md_up ?_ rfl))); done) | (refine pm_of hP ?_; (repeat (first | assumption | exact md_refl | refine md_up ?_ rfl | refine md_fill ?_ rfl | (unfold ik; refine md_up ?_ rfl))); done) | omega | decide | ((try simp +decide only [b01, b10, b11, am_up, ik, and_true, and_false, true_and, false_and, if_true, if_false, nn_eq] at *) <;> (try simp only [sw_or, sw_all, or_false, and_true, i32_lt, i32_le, i32_eq, i32_addw, i32_subw, i32_mulw, Int32.reduceToInt] at *) <;> omega) | (apply_assumption; done)) (by first | exact s2 | exact s47 | exact t1 _ | exact t2 _ | assumption | (refine pc_of hP ?_; (repeat (first | assumption | exact md_refl | refine md_up ?_ rfl | refine md_fill ?_ rfl | (unfold ik; refine md_up ?_ rfl))); done) | (refine pm_of hP ?_; (repeat (first | assumption | exact md_refl | refine md_up ?_ rfl | refine md_fill ?_ rfl | (unfold ik; refine md_up ?_ rfl))); done) | omega | decide | ((try simp +decide only [b01, b10, b11, am_up, ik, and_true, and_false, true_and, false_and, if_true, if_false, nn_eq] at *) <;> (try simp only [sw_or, sw_all, or_false, and_true, i32_lt, i32_le, i32_eq, i32_addw, i32_subw, i32_mulw, Int32.reduceToInt] at *) <;> omega) | (apply_assumption; done)) (fun e383 => ?_)
                · skip
                  first | exact p1 (Or.inl e339) _ e367.2 | exact p1 (Or.inr (Or.inl e348)) _ e367.2 | exact p1 (Or.inr (Or.inr (Or.inl e354))) _ e367.2 | exact p1 (Or.inr (Or.inr (Or.inr e361))) _ e367.2 | exact (p2 e339 e348 e354 e361).1 e377 _ e383.2 | exact (p2 e339 e348 e354 e361).2 e377
            · skip
              refine r_al0 (q := 365) d_MO_others_364 rfl ?_
              refine r_ic (v := 1) (q := 366) d_MO_others_365 rfl rfl ?_
              refine r_il1 (q := 367) d_MO_others_366 rfl ?_
              refine r_vv2 mo_MO_on d_MO_others_367 rfl rfl rfl (q := 370) rfl ?_
              refine sp_MO_on (o := o3) (hei := hei) (by first | exact s2 | exact s47 | exact t1 _ | exact t2 _ | assumption | (refine pc_of hP ?_; (repeat (first | assumption | exact md_refl | refine md_up ?_ rfl | refine md_fill ?_ rfl | (unfold ik; refine md_up ?_ rfl))); done) | (refine pm_of hP ?_; (repeat (first | assumption | exact md_refl | refine md_up ?_ rfl | refine md_fill ?_ rfl | (unfold ik; refine md_up ?_ rfl))); done) | omega | decide | ((try simp +decide only [b01, b10, b11, am_up, ik, and_true, and_false, true_and, false_and, if_true, if_false, nn_eq] at *) <;> (try simp only [sw_or, sw_all, or_false, and_true, i32_lt, i32_le, i32_eq, i32_addw, i32_subw, i32_mulw, Int32.reduceToInt] at *) <;> omega) | (apply_assumption; done)) (by first | exact s2 | exact s47 | exact t1 _ | exact t2 _ | assumption | (refine pc_of hP ?_; (repeat (first | assumption | exact md_refl | refine md_up ?_ rfl | refine md_fill ?_ rfl | (unfold ik; refine md_up ?_ rfl))); done) | (refine pm_of hP ?_; (repeat (first | assumption | exact md_refl | refine md_up ?_ rfl | refine md_fill ?_ rfl | (unfold ik; refine md_up ?_ rfl))); done) | omega | decide | ((try simp +decide only [b01, b10, b11, am_up, ik, and_true, and_false, true_and, false_and, if_true, if_false, nn_eq] at *) <;> (try simp only [sw_or, sw_all, or_false, and_true, i32_lt, i32_le, i32_eq, i32_addw, i32_subw, i32_mulw, Int32.reduceToInt] at *) <;> omega) | (apply_assumption; done)) (by first | exact s2 | exact s47 | exact t1 _ | exact t2 _ | assumption | (refine pc_of hP ?_; (repeat (first | assumption | exact md_refl | refine md_up ?_ rfl | refine md_fill ?_ rfl | (unfold ik; refine md_up ?_ rfl))); done) | (refine pm_of hP ?_; (repeat (first | assumption | exact md_refl | refine md_up ?_ rfl | refine md_fill ?_ rfl | (unfold ik; refine md_up ?_ rfl))); done) | omega | decide | ((try simp +decide only [b01, b10, b11, am_up, ik, and_true, and_false, true_and, false_and, if_true, if_false, nn_eq] at *) <;> (try simp only [sw_or, sw_all, or_false, and_true, i32_lt, i32_le, i32_eq, i32_addw, i32_subw, i32_mulw, Int32.reduceToInt] at *) <;> omega) | (apply_assumption; done)) (by first | exact s2 | exact s47 | exact t1 _ | exact t2 _ | assumption | (refine pc_of hP ?_; (repeat (first | assumption | exact md_refl | refine md_up ?_ rfl | refine md_fill ?_ rfl | (unfold ik; refine md_up ?_ rfl))); done) | (refine pm_of hP ?_; (repeat (first | assumption | exact md_refl | refine md_up ?_ rfl | refine md_fill ?_ rfl | (unfold ik; refine md_up ?_ rfl))); done) | omega | decide | ((try simp +decide only [b01, b10, b11, am_up, ik, and_true, and_false, true_and, false_and, if_true, if_false, nn_eq] at *) <;> (try simp only [sw_or, sw_all, or_false, and_true, i32_lt, i32_le, i32_eq, i32_addw, i32_subw, i32_mulw, Int32.reduceToInt] at *) <;> omega) | (apply_assumption; done)) (fun e367 => ?_)
              · skip
                refine am_go (tgt := 386) d_MO_others_370 rfl ?_
                first | exact p1 (Or.inl e339) _ e367.2 | exact p1 (Or.inr (Or.inl e348)) _ e367.2 | exact p1 (Or.inr (Or.inr (Or.inl e354))) _ e367.2 | exact p1 (Or.inr (Or.inr (Or.inr e361))) _ e367.2 | exact (p2 e339 e348 e354 e361).1 e377 _ e383.2 | exact (p2 e339 e348 e354 e361).2 e377
    -- taking
    have k325 : ∀ w' a7' a4 a5 s, am_md mN st s → NS s hei (itA (offA 2) (mo_r b).toInt.toNat (itA (offA 1) (mo_i b).toInt.toNat o)) → am_oth y x b (otQ P y.toNatClampNeg hei b n o st) 325 a4 a5 (some (.inl w')) a7' [] s := by
      intro w' a7' a4 a5 s s1 s2
      have p1 : b = 87 → ∀ r s' a6, ofQ 0 hei (itA (offA 2) (mo_r b).toInt.toNat (itA (offA 1) (mo_i b).toInt.toNat o)) s r s' → am_oth y x b (otQ P y.toNatClampNeg hei b n o st) 338 a4 a5 a6 a7' [] s' := by
        intro c r s' a6 g
        refine k338 s' a4 a5 a6 a7' (md_trans s1 g.1) ?_
        rw [← hE, if_pos c]
        exact g.2.1
      have p2 : ¬ b = 87 → ∀ a6, am_oth y x b (otQ P y.toNatClampNeg hei b n o st) 338 a4 a5 a6 a7' [] s := by
        intro c a6
        refine k338 s a4 a5 a6 a7' s1 ?_
        rw [← hE, if_neg c]
        exact s2
      refine r_il3 (q := 326) d_MO_others_325 rfl ?_
      refine r_bp (v := 87) (q := 328) d_MO_others_326 rfl rfl ?_
      refine r_cne (tgt := 338) (q := 331) d_MO_others_328 rfl rfl (fun e328 => ?_) (fun e328 => ?_)
      · skip
        first | exact p1 e328 _ _ _ e333.2 | exact p2 e328 _
      · skip
        refine r_al0 (q := 332) d_MO_others_331 rfl ?_
        refine r_ic (v := 0) (q := 333) d_MO_others_332 rfl rfl ?_
        refine r_vi1 mo_MO_off d_MO_others_333 rfl rfl rfl (q := 336) rfl ?_
        refine sp_MO_off (o := itA (offA 2) (mo_r b).toInt.toNat (itA (offA 1) (mo_i b).toInt.toNat o)) (hei := hei) (by first | exact s2 | assumption | (refine pc_of hP ?_; (repeat (first | assumption | exact md_refl | refine md_up ?_ rfl | refine md_fill ?_ rfl | (unfold ik; refine md_up ?_ rfl))); done) | (refine pm_of hP ?_; (repeat (first | assumption | exact md_refl | refine md_up ?_ rfl | refine md_fill ?_ rfl | (unfold ik; refine md_up ?_ rfl))); done) | omega | decide | ((try simp +decide only [b01, b10, b11, am_up, ik, and_true, and_false, true_and, false_and, if_true, if_false, nn_eq] at *) <;> (try simp only [sw_or, sw_all, or_false, and_true, i32_lt, i32_le, i32_eq, i32_addw, i32_subw, i32_mulw, Int32.reduceToInt] at *) <;> omega) | (apply_assumption; done)) (fun e333 => ?_)
        · skip
          refine r_is6 (q := 338) d_MO_others_336 rfl ?_
          first | exact p1 e328 _ _ _ e333.2 | exact p2 e328 _
    have k279 : am_oth y x b (otQ P y.toNatClampNeg hei b n o st) 279 (some (.inl (mo_i b))) (some (.inl (mo_r b))) none none [] st := by
      have i0 := @mi_0 b
      have r0 := @mr_0 b
      have k302 : ∀ w' a7' s, am_md mN st s → NS s hei (itA (offA 1) (mo_i b).toInt.toNat o) → am_oth y x b (otQ P y.toNatClampNeg hei b n o st) 302 (some (.inl (mo_i b))) (some (.inl (mo_r b))) (some (.inl w')) a7' [] s := by
        intro w' a7' s s1 s2
        have kM := @lp_ot3 y x b (mo_i b) (mo_r b) hei (otQ P y.toNatClampNeg hei b n o st) st (mo_r b).toInt.toNat 0 a7' _ s (by decide) (by simp only [Int32.reduceToInt]; omega) s1 s2 (fun w' a7' s s1 s2 => k325 w' a7' _ _ s s1 s2)
        refine r_ic (v := 0) (q := 303) d_MO_others_302 rfl rfl ?_
        refine r_is6 (q := 305) d_MO_others_303 rfl ?_
        exact kM
      have kL := @lp_ot2 y x b (mo_i b) (mo_r b) hei (otQ P y.toNatClampNeg hei b n o st) st (mo_i b).toInt.toNat 0 none o st (by decide) (by simp only [Int32.reduceToInt]; omega) md_refl c8 k302
      refine r_ic (v := 0) (q := 280) d_MO_others_279 rfl rfl ?_
      refine r_is6 (q := 282) d_MO_others_280 rfl ?_
      exact kL
    have k277 : ∀ v, v = mo_r b → am_oth y x b (otQ P y.toNatClampNeg hei b n o st) 277 (some (.inl (mo_i b))) none none none [.inl v] st := by
      intro v hv
      subst hv
      refine r_is5 (q := 279) d_MO_others_277 rfl ?_
      exact k279
    have k221 : am_oth y x b (otQ P y.toNatClampNeg hei b n o st) 221 (some (.inl (mo_i b))) none none none [] st := by
      have m1 : (b = 46 ∨ b = 79 ∨ b = 190 ∨ b = 198 ∨ b = 199) → (1 : Int32) = mo_r b := fun c => (if_pos c).symm
      have m2 : ¬ b = 46 → ¬ b = 79 → ¬ b = 190 → ¬ b = 198 → ¬ b = 199 → (b = 165 ∨ b = 166 → (2 : Int32) = mo_r b) ∧ (¬ b = 165 → ¬ b = 166 → (0 : Int32) = mo_r b) := by
        intro n1 n2 n3 n4 n5
        have n6 : ¬ (b = 46 ∨ b = 79 ∨ b = 190 ∨ b = 198 ∨ b = 199) := by
          rintro (q | q | q | q | q) <;> contradiction
        refine ⟨fun c => ?_, fun c d => ?_⟩
        · unfold mo_r
          rw [if_neg n6, if_pos c]
        · unfold mo_r
          rw [if_neg n6, if_neg]
          rintro (q | q) <;> contradiction
      refine r_il3 (q := 222) d_MO_others_221 rfl ?_
      refine r_bp (v := 46) (q := 224) d_MO_others_222 rfl rfl ?_
      refine r_ceq (tgt := 254) (q := 227) d_MO_others_224 rfl rfl (fun e224 => ?_) (fun e224 => ?_)
      · skip
        refine r_ic (v := 1) (q := 255) d_MO_others_254 rfl rfl ?_
        refine am_go (tgt := 277) d_MO_others_255 rfl ?_
        first | exact k277 _ (m1 (Or.inl e224)) | exact k277 _ (m1 (Or.inr (Or.inl e230))) | exact k277 _ (m1 (Or.inr (Or.inr (Or.inl e237)))) | exact k277 _ (m1 (Or.inr (Or.inr (Or.inr (Or.inl e244))))) | exact k277 _ (m1 (Or.inr (Or.inr (Or.inr (Or.inr e251))))) | exact k277 _ ((m2 e224 e230 e237 e244 e251).1 (Or.inl e262)) | exact k277 _ ((m2 e224 e230 e237 e244 e251).1 (Or.inr e269)) | exact k277 _ ((m2 e224 e230 e237 e244 e251).2 e262 e269)
      · skip
        refine r_il3 (q := 228) d_MO_others_227 rfl ?_
        refine r_bp (v := 79) (q := 230) d_MO_others_228 rfl rfl ?_
        refine r_ceq (tgt := 254) (q := 233) d_MO_others_230 rfl rfl (fun e230 => ?_) (fun e230 => ?_)
        · skip
          refine r_ic (v := 1) (q := 255) d_MO_others_254 rfl rfl ?_
          refine am_go (tgt := 277) d_MO_others_255 rfl ?_
          first | exact k277 _ (m1 (Or.inl e224)) | exact k277 _ (m1 (Or.inr (Or.inl e230))) | exact k277 _ (m1 (Or.inr (Or.inr (Or.inl e237)))) | exact k277 _ (m1 (Or.inr (Or.inr (Or.inr (Or.inl e244))))) | exact k277 _ (m1 (Or.inr (Or.inr (Or.inr (Or.inr e251))))) | exact k277 _ ((m2 e224 e230 e237 e244 e251).1 (Or.inl e262)) | exact k277 _ ((m2 e224 e230 e237 e244 e251).1 (Or.inr e269)) | exact k277 _ ((m2 e224 e230 e237 e244 e251).2 e262 e269)
        · skip
          refine r_il3 (q := 234) d_MO_others_233 rfl ?_
          refine r_sp (v := 190) (q := 237) d_MO_others_234 rfl rfl ?_
          refine r_ceq (tgt := 254) (q := 240) d_MO_others_237 rfl rfl (fun e237 => ?_) (fun e237 => ?_)
          · skip
            refine r_ic (v := 1) (q := 255) d_MO_others_254 rfl rfl ?_
            refine am_go (tgt := 277) d_MO_others_255 rfl ?_
            first | exact k277 _ (m1 (Or.inl e224)) | exact k277 _ (m1 (Or.inr (Or.inl e230))) | exact k277 _ (m1 (Or.inr (Or.inr (Or.inl e237)))) | exact k277 _ (m1 (Or.inr (Or.inr (Or.inr (Or.inl e244))))) | exact k277 _ (m1 (Or.inr (Or.inr (Or.inr (Or.inr e251))))) | exact k277 _ ((m2 e224 e230 e237 e244 e251).1 (Or.inl e262)) | exact k277 _ ((m2 e224 e230 e237 e244 e251).1 (Or.inr e269)) | exact k277 _ ((m2 e224 e230 e237 e244 e251).2 e262 e269)
          · skip
            refine r_il3 (q := 241) d_MO_others_240 rfl ?_
            refine r_sp (v := 198) (q := 244) d_MO_others_241 rfl rfl ?_
            refine r_ceq (tgt := 254) (q := 247) d_MO_others_244 rfl rfl (fun e244 => ?_) (fun e244 => ?_)
            · skip
              refine r_ic (v := 1) (q := 255) d_MO_others_254 rfl rfl ?_
              refine am_go (tgt := 277) d_MO_others_255 rfl ?_
              first | exact k277 _ (m1 (Or.inl e224)) | exact k277 _ (m1 (Or.inr (Or.inl e230))) | exact k277 _ (m1 (Or.inr (Or.inr (Or.inl e237)))) | exact k277 _ (m1 (Or.inr (Or.inr (Or.inr (Or.inl e244))))) | exact k277 _ (m1 (Or.inr (Or.inr (Or.inr (Or.inr e251))))) | exact k277 _ ((m2 e224 e230 e237 e244 e251).1 (Or.inl e262)) | exact k277 _ ((m2 e224 e230 e237 e244 e251).1 (Or.inr e269)) | exact k277 _ ((m2 e224 e230 e237 e244 e251).2 e262 e269)
            · skip
              refine r_il3 (q := 248) d_MO_others_247 rfl ?_
              refine r_sp (v := 199) (q := 251) d_MO_others_248 rfl rfl ?_
              refine r_cne (tgt := 258) (q := 254) d_MO_others_251 rfl rfl (fun e251 => ?_) (fun e251 => ?_)
              · skip
                refine r_il3 (q := 259) d_MO_others_258 rfl ?_
                refine r_sp (v := 165) (q := 262) d_MO_others_259 rfl rfl ?_
                refine r_ceq (tgt := 272) (q := 265) d_MO_others_262 rfl rfl (fun e262 => ?_) (fun e262 => ?_)
                · skip
                  refine r_ic (v := 2) (q := 273) d_MO_others_272 rfl rfl ?_
                  refine am_go (tgt := 277) d_MO_others_273 rfl ?_
                  first | exact k277 _ (m1 (Or.inl e224)) | exact k277 _ (m1 (Or.inr (Or.inl e230))) | exact k277 _ (m1 (Or.inr (Or.inr (Or.inl e237)))) | exact k277 _ (m1 (Or.inr (Or.inr (Or.inr (Or.inl e244))))) | exact k277 _ (m1 (Or.inr (Or.inr (Or.inr (Or.inr e251))))) | exact k277 _ ((m2 e224 e230 e237 e244 e251).1 (Or.inl e262)) | exact k277 _ ((m2 e224 e230 e237 e244 e251).1 (Or.inr e269)) | exact k277 _ ((m2 e224 e230 e237 e244 e251).2 e262 e269)
                · skip
                  refine r_il3 (q := 266) d_MO_others_265 rfl ?_
                  refine r_sp (v := 166) (q := 269) d_MO_others_266 rfl rfl ?_
                  refine r_cne (tgt := 276) (q := 272) d_MO_others_269 rfl rfl (fun e269 => ?_) (fun e269 => ?_)
                  · skip
                    refine r_ic (v := 0) (q := 277) d_MO_others_276 rfl rfl ?_
                    first | exact k277 _ (m1 (Or.inl e224)) | exact k277 _ (m1 (Or.inr (Or.inl e230))) | exact k277 _ (m1 (Or.inr (Or.inr (Or.inl e237)))) | exact k277 _ (m1 (Or.inr (Or.inr (Or.inr (Or.inl e244))))) | exact k277 _ (m1 (Or.inr (Or.inr (Or.inr (Or.inr e251))))) | exact k277 _ ((m2 e224 e230 e237 e244 e251).1 (Or.inl e262)) | exact k277 _ ((m2 e224 e230 e237 e244 e251).1 (Or.inr e269)) | exact k277 _ ((m2 e224 e230 e237 e244 e251).2 e262 e269)
                  · skip
                    refine r_ic (v := 2) (q := 273) d_MO_others_272 rfl rfl ?_
                    refine am_go (tgt := 277) d_MO_others_273 rfl ?_
                    first | exact k277 _ (m1 (Or.inl e224)) | exact k277 _ (m1 (Or.inr (Or.inl e230))) | exact k277 _ (m1 (Or.inr (Or.inr (Or.inl e237)))) | exact k277 _ (m1 (Or.inr (Or.inr (Or.inr (Or.inl e244))))) | exact k277 _ (m1 (Or.inr (Or.inr (Or.inr (Or.inr e251))))) | exact k277 _ ((m2 e224 e230 e237 e244 e251).1 (Or.inl e262)) | exact k277 _ ((m2 e224 e230 e237 e244 e251).1 (Or.inr e269)) | exact k277 _ ((m2 e224 e230 e237 e244 e251).2 e262 e269)
              · skip
                refine r_ic (v := 1) (q := 255) d_MO_others_254 rfl rfl ?_
                refine am_go (tgt := 277) d_MO_others_255 rfl ?_
                first | exact k277 _ (m1 (Or.inl e224)) | exact k277 _ (m1 (Or.inr (Or.inl e230))) | exact k277 _ (m1 (Or.inr (Or.inr (Or.inl e237)))) | exact k277 _ (m1 (Or.inr (Or.inr (Or.inr (Or.inl e244))))) | exact k277 _ (m1 (Or.inr (Or.inr (Or.inr (Or.inr e251))))) | exact k277 _ ((m2 e224 e230 e237 e244 e251).1 (Or.inl e262)) | exact k277 _ ((m2 e224 e230 e237 e244 e251).1 (Or.inr e269)) | exact k277 _ ((m2 e224 e230 e237 e244 e251).2 e262 e269)
    have k205 : ∀ v, (¬ b = 46 → v = mo_i b) → am_oth y x b (otQ P y.toNatClampNeg hei b n o st) 205 none none none none [.inl v] st := by
      intro v hv
      have e46 : b = 46 → am_oth y x b (otQ P y.toNatClampNeg hei b n o st) 221 (some (.inl 1)) none none none [] st := by
        intro c
        have : mo_i b = 1 := if_pos c
        rw [← this]
        exact k221
      have n46 : ¬ b = 46 → am_oth y x b (otQ P y.toNatClampNeg hei b n o st) 221 (some (.inl v)) none none none [] st := by
        intro c
        rw [hv c]
        exact k221
      refine r_is4 (q := 207) d_MO_others_205 rfl ?_
      refine r_il3 (q := 208) d_MO_others_207 rfl ?_
      refine r_bp (v := 46) (q := 210) d_MO_others_208 rfl rfl ?_
      refine r_cne (tgt := 217) (q := 213) d_MO_others_210 rfl rfl (fun e210 => ?_) (fun e210 => ?_)
      · skip
        refine r_il4 (q := 219) d_MO_others_217 rfl ?_
        refine r_is4 (q := 221) d_MO_others_219 rfl ?_
        first | exact e46 e210 | exact n46 e210
      · skip
        refine r_ic (v := 1) (q := 214) d_MO_others_213 rfl rfl ?_
        refine am_go (tgt := 219) d_MO_others_214 rfl ?_
        refine r_is4 (q := 221) d_MO_others_219 rfl ?_
        first | exact e46 e210 | exact n46 e210
    have m2 : (op_calc b ∨ b = 46 ∨ b = 79 ∨ (159 ≤ b ∧ b ≤ 164)) → ¬ b = 46 → (2 : Int32) = mo_i b := by
      intro c d
      rw [calc_m] at c
      unfold mo_i
      rw [if_neg d, if_pos]
      rcases c with c | c | c | c
      · exact Or.inl c
      · exact absurd c d
      · exact Or.inr (Or.inl c)
      · exact Or.inr (Or.inr c)
    have m1 : ¬ op_calc b → ¬ b = 46 → ¬ b = 79 → ¬ (159 ≤ b ∧ b ≤ 164) → ((b = 116 ∨ (153 ≤ b ∧ b ≤ 158) ∨ b = 172 ∨ b = 179 ∨ b = 188) → (1 : Int32) = mo_i b) ∧ (¬ b = 116 → ¬ (153 ≤ b ∧ b ≤ 158) → ¬ b = 172 → ¬ b = 179 → ¬ b = 188 → (0 : Int32) = mo_i b) := by
      intro n1 n2 n3 n4
      rw [calc_m] at n1
      have n5 : ¬ (b.toInt ∈ [96, 100, 104, 108, 112, 120, 122, 124, 126, 128, 130] ∨ b = 79 ∨ (159 ≤ b ∧ b ≤ 164)) := by
        rintro (q | q | q) <;> contradiction
      refine ⟨fun c => ?_, fun d1 d2 d3 d4 d5 => ?_⟩
      · unfold mo_i
        rw [if_neg n2, if_neg n5, if_pos c]
      · unfold mo_i
        rw [if_neg n2, if_neg n5, if_neg]
        rintro (q | q | q | q | q) <;> contradiction
    refine r_il3 (q := 125) d_MO_others_124 rfl ?_
    refine r_si1 mo_MO_isSum d_MO_others_125 rfl rfl (q := 128) rfl ?_
    refine sp_MO_isSum (fun e125 => ?_) (fun e125 => ?_)
    · skip
      refine r_zne (tgt := 156) (q := 131) d_MO_others_128 rfl rfl (fun e128 => ?_) (fun e128 => by exfalso; revert e128; decide)
      refine r_ic (v := 2) (q := 157) d_MO_others_156 rfl rfl ?_
      refine am_go (tgt := 205) d_MO_others_157 rfl ?_
      first | exact k205 _ (m2 (Or.inl e125)) | exact k205 _ (m2 (Or.inr (Or.inl e134))) | exact k205 _ (m2 (Or.inr (Or.inr (Or.inl e140)))) | exact k205 _ (m2 (Or.inr (Or.inr (Or.inr e150)))) | exact k205 _ (fun _ => (m1 e125 e134 e140 e150).1 (Or.inl e163)) | exact k205 _ (fun _ => (m1 e125 e134 e140 e150).1 (Or.inr (Or.inl e173))) | exact k205 _ (fun _ => (m1 e125 e134 e140 e150).1 (Or.inr (Or.inr (Or.inl e183)))) | exact k205 _ (fun _ => (m1 e125 e134 e140 e150).1 (Or.inr (Or.inr (Or.inr (Or.inl e190))))) | exact k205 _ (fun _ => (m1 e125 e134 e140 e150).1 (Or.inr (Or.inr (Or.inr (Or.inr e197))))) | exact k205 _ (fun _ => (m1 e125 e134 e140 e150).2 e163 e173 e183 e190 e197)
    · skip
      refine r_zne (tgt := 156) (q := 131) d_MO_others_128 rfl rfl (fun e128 => by exfalso; revert e128; decide) (fun e128 => ?_)
      refine r_il3 (q := 132) d_MO_others_131 rfl ?_
      refine r_bp (v := 46) (q := 134) d_MO_others_132 rfl rfl ?_
      refine r_ceq (tgt := 156) (q := 137) d_MO_others_134 rfl rfl (fun e134 => ?_) (fun e134 => ?_)
      · skip
        refine r_ic (v := 2) (q := 157) d_MO_others_156 rfl rfl ?_
        refine am_go (tgt := 205) d_MO_others_157 rfl ?_
        first | exact k205 _ (m2 (Or.inl e125)) | exact k205 _ (m2 (Or.inr (Or.inl e134))) | exact k205 _ (m2 (Or.inr (Or.inr (Or.inl e140)))) | exact k205 _ (m2 (Or.inr (Or.inr (Or.inr e150)))) | exact k205 _ (fun _ => (m1 e125 e134 e140 e150).1 (Or.inl e163)) | exact k205 _ (fun _ => (m1 e125 e134 e140 e150).1 (Or.inr (Or.inl e173))) | exact k205 _ (fun _ => (m1 e125 e134 e140 e150).1 (Or.inr (Or.inr (Or.inl e183)))) | exact k205 _ (fun _ => (m1 e125 e134 e140 e150).1 (Or.inr (Or.inr (Or.inr (Or.inl e190))))) | exact k205 _ (fun _ => (m1 e125 e134 e140 e150).1 (Or.inr (Or.inr (Or.inr (Or.inr e197))))) | exact k205 _ (fun _ => (m1 e125 e134 e140 e150).2 e163 e173 e183 e190 e197)
      · skip
        refine r_il3 (q := 138) d_MO_others_137 rfl ?_
        refine r_bp (v := 79) (q := 140) d_MO_others_138 rfl rfl ?_
        refine r_ceq (tgt := 156) (q := 143) d_MO_others_140 rfl rfl (fun e140 => ?_) (fun e140 => ?_)
        · skip
          refine r_ic (v := 2) (q := 157) d_MO_others_156 rfl rfl ?_
          refine am_go (tgt := 205) d_MO_others_157 rfl ?_
          first | exact k205 _ (m2 (Or.inl e125)) | exact k205 _ (m2 (Or.inr (Or.inl e134))) | exact k205 _ (m2 (Or.inr (Or.inr (Or.inl e140)))) | exact k205 _ (m2 (Or.inr (Or.inr (Or.inr e150)))) | exact k205 _ (fun _ => (m1 e125 e134 e140 e150).1 (Or.inl e163)) | exact k205 _ (fun _ => (m1 e125 e134 e140 e150).1 (Or.inr (Or.inl e173))) | exact k205 _ (fun _ => (m1 e125 e134 e140 e150).1 (Or.inr (Or.inr (Or.inl e183)))) | exact k205 _ (fun _ => (m1 e125 e134 e140 e150).1 (Or.inr (Or.inr (Or.inr (Or.inl e190))))) | exact k205 _ (fun _ => (m1 e125 e134 e140 e150).1 (Or.inr (Or.inr (Or.inr (Or.inr e197))))) | exact k205 _ (fun _ => (m1 e125 e134 e140 e150).2 e163 e173 e183 e190 e197)
        · skip
          refine r_il3 (q := 144) d_MO_others_143 rfl ?_
          refine r_sp (v := 159) (q := 147) d_MO_others_144 rfl rfl ?_
          refine r_sp (v := 164) (q := 150) d_MO_others_147 rfl rfl ?_
          refine r_si3 mo_MO_in d_MO_others_150 rfl rfl (q := 153) rfl ?_
          refine sq_MO_in (fun e150 => ?_) (fun e150 => ?_)
          · skip
            refine r_zeq (tgt := 160) (q := 156) d_MO_others_153 rfl rfl (fun e153 => by exfalso; revert e153; decide) (fun e153 => ?_)
            refine r_ic (v := 2) (q := 157) d_MO_others_156 rfl rfl ?_
            refine am_go (tgt := 205) d_MO_others_157 rfl ?_
            first | exact k205 _ (m2 (Or.inl e125)) | exact k205 _ (m2 (Or.inr (Or.inl e134))) | exact k205 _ (m2 (Or.inr (Or.inr (Or.inl e140)))) | exact k205 _ (m2 (Or.inr (Or.inr (Or.inr e150)))) | exact k205 _ (fun _ => (m1 e125 e134 e140 e150).1 (Or.inl e163)) | exact k205 _ (fun _ => (m1 e125 e134 e140 e150).1 (Or.inr (Or.inl e173))) | exact k205 _ (fun _ => (m1 e125 e134 e140 e150).1 (Or.inr (Or.inr (Or.inl e183)))) | exact k205 _ (fun _ => (m1 e125 e134 e140 e150).1 (Or.inr (Or.inr (Or.inr (Or.inl e190))))) | exact k205 _ (fun _ => (m1 e125 e134 e140 e150).1 (Or.inr (Or.inr (Or.inr (Or.inr e197))))) | exact k205 _ (fun _ => (m1 e125 e134 e140 e150).2 e163 e173 e183 e190 e197)
          · skip
            refine r_zeq (tgt := 160) (q := 156) d_MO_others_153 rfl rfl (fun e153 => ?_) (fun e153 => by exfalso; revert e153; decide)
            refine r_il3 (q := 161) d_MO_others_160 rfl ?_
            refine r_bp (v := 116) (q := 163) d_MO_others_161 rfl rfl ?_
            refine r_ceq (tgt := 200) (q := 166) d_MO_others_163 rfl rfl (fun e163 => ?_) (fun e163 => ?_)
            · skip
              refine r_ic (v := 1) (q := 201) d_MO_others_200 rfl rfl ?_
              refine am_go (tgt := 205) d_MO_others_201 rfl ?_
              first | exact k205 _ (m2 (Or.inl e125)) | exact k205 _ (m2 (Or.inr (Or.inl e134))) | exact k205 _ (m2 (Or.inr (Or.inr (Or.inl e140)))) | exact k205 _ (m2 (Or.inr (Or.inr (Or.inr e150)))) | exact k205 _ (fun _ => (m1 e125 e134 e140 e150).1 (Or.inl e163)) | exact k205 _ (fun _ => (m1 e125 e134 e140 e150).1 (Or.inr (Or.inl e173))) | exact k205 _ (fun _ => (m1 e125 e134 e140 e150).1 (Or.inr (Or.inr (Or.inl e183)))) | exact k205 _ (fun _ => (m1 e125 e134 e140 e150).1 (Or.inr (Or.inr (Or.inr (Or.inl e190))))) | exact k205 _ (fun _ => (m1 e125 e134 e140 e150).1 (Or.inr (Or.inr (Or.inr (Or.inr e197))))) | exact k205 _ (fun _ => (m1 e125 e134 e140 e150).2 e163 e173 e183 e190 e197)
            · skip
              refine r_il3 (q := 167) d_MO_others_166 rfl ?_
              refine r_sp (v := 153) (q := 170) d_MO_others_167 rfl rfl ?_
              refine r_sp (v := 158) (q := 173) d_MO_others_170 rfl rfl ?_
              refine r_si3 mo_MO_in d_MO_others_173 rfl rfl (q := 176) rfl ?_
              refine sq_MO_in (fun e173 => ?_) (fun e173 => ?_)
              · skip
                refine r_zne (tgt := 200) (q := 179) d_MO_others_176 rfl rfl (fun e176 => ?_) (fun e176 => by exfalso; revert e176; decide)
                refine r_ic (v := 1) (q := 201) d_MO_others_200 rfl rfl ?_
                refine am_go (tgt := 205) d_MO_others_201 rfl ?_
                first | exact k205 _ (m2 (Or.inl e125)) | exact k205 _ (m2 (Or.inr (Or.inl e134))) | exact k205 _ (m2 (Or.inr (Or.inr (Or.inl e140)))) | exact k205 _ (m2 (Or.inr (Or.inr (Or.inr e150)))) | exact k205 _ (fun _ => (m1 e125 e134 e140 e150).1 (Or.inl e163)) | exact k205 _ (fun _ => (m1 e125 e134 e140 e150).1 (Or.inr (Or.inl e173))) | exact k205 _ (fun _ => (m1 e125 e134 e140 e150).1 (Or.inr (Or.inr (Or.inl e183)))) | exact k205 _ (fun _ => (m1 e125 e134 e140 e150).1 (Or.inr (Or.inr (Or.inr (Or.inl e190))))) | exact k205 _ (fun _ => (m1 e125 e134 e140 e150).1 (Or.inr (Or.inr (Or.inr (Or.inr e197))))) | exact k205 _ (fun _ => (m1 e125 e134 e140 e150).2 e163 e173 e183 e190 e197)
              · skip
                refine r_zne (tgt := 200) (q := 179) d_MO_others_176 rfl rfl (fun e176 => by exfalso; revert e176; decide) (fun e176 => ?_)
                refine r_il3 (q := 180) d_MO_others_179 rfl ?_
                refine r_sp (v := 172) (q := 183) d_MO_others_180 rfl rfl ?_
                refine r_ceq (tgt := 200) (q := 186) d_MO_others_183 rfl rfl (fun e183 => ?_) (fun e183 => ?_)
                · skip
                  refine r_ic (v := 1) (q := 201) d_MO_others_200 rfl rfl ?_
                  refine am_go (tgt := 205) d_MO_others_201 rfl ?_
                  first | exact k205 _ (m2 (Or.inl e125)) | exact k205 _ (m2 (Or.inr (Or.inl e134))) | exact k205 _ (m2 (Or.inr (Or.inr (Or.inl e140)))) | exact k205 _ (m2 (Or.inr (Or.inr (Or.inr e150)))) | exact k205 _ (fun _ => (m1 e125 e134 e140 e150).1 (Or.inl e163)) | exact k205 _ (fun _ => (m1 e125 e134 e140 e150).1 (Or.inr (Or.inl e173))) | exact k205 _ (fun _ => (m1 e125 e134 e140 e150).1 (Or.inr (Or.inr (Or.inl e183)))) | exact k205 _ (fun _ => (m1 e125 e134 e140 e150).1 (Or.inr (Or.inr (Or.inr (Or.inl e190))))) | exact k205 _ (fun _ => (m1 e125 e134 e140 e150).1 (Or.inr (Or.inr (Or.inr (Or.inr e197))))) | exact k205 _ (fun _ => (m1 e125 e134 e140 e150).2 e163 e173 e183 e190 e197)
                · skip
                  refine r_il3 (q := 187) d_MO_others_186 rfl ?_
                  refine r_sp (v := 179) (q := 190) d_MO_others_187 rfl rfl ?_
                  refine r_ceq (tgt := 200) (q := 193) d_MO_others_190 rfl rfl (fun e190 => ?_) (fun e190 => ?_)
                  · skip
                    refine r_ic (v := 1) (q := 201) d_MO_others_200 rfl rfl ?_
                    refine am_go (tgt := 205) d_MO_others_201 rfl ?_
                    first | exact k205 _ (m2 (Or.inl e125)) | exact k205 _ (m2 (Or.inr (Or.inl e134))) | exact k205 _ (m2 (Or.inr (Or.inr (Or.inl e140)))) | exact k205 _ (m2 (Or.inr (Or.inr (Or.inr e150)))) | exact k205 _ (fun _ => (m1 e125 e134 e140 e150).1 (Or.inl e163)) | exact k205 _ (fun _ => (m1 e125 e134 e140 e150).1 (Or.inr (Or.inl e173))) | exact k205 _ (fun _ => (m1 e125 e134 e140 e150).1 (Or.inr (Or.inr (Or.inl e183)))) | exact k205 _ (fun _ => (m1 e125 e134 e140 e150).1 (Or.inr (Or.inr (Or.inr (Or.inl e190))))) | exact k205 _ (fun _ => (m1 e125 e134 e140 e150).1 (Or.inr (Or.inr (Or.inr (Or.inr e197))))) | exact k205 _ (fun _ => (m1 e125 e134 e140 e150).2 e163 e173 e183 e190 e197)
                  · skip
                    refine r_il3 (q := 194) d_MO_others_193 rfl ?_
                    refine r_sp (v := 188) (q := 197) d_MO_others_194 rfl rfl ?_
                    refine r_cne (tgt := 204) (q := 200) d_MO_others_197 rfl rfl (fun e197 => ?_) (fun e197 => ?_)
                    · skip
                      refine r_ic (v := 0) (q := 205) d_MO_others_204 rfl rfl ?_
                      first | exact k205 _ (m2 (Or.inl e125)) | exact k205 _ (m2 (Or.inr (Or.inl e134))) | exact k205 _ (m2 (Or.inr (Or.inr (Or.inl e140)))) | exact k205 _ (m2 (Or.inr (Or.inr (Or.inr e150)))) | exact k205 _ (fun _ => (m1 e125 e134 e140 e150).1 (Or.inl e163)) | exact k205 _ (fun _ => (m1 e125 e134 e140 e150).1 (Or.inr (Or.inl e173))) | exact k205 _ (fun _ => (m1 e125 e134 e140 e150).1 (Or.inr (Or.inr (Or.inl e183)))) | exact k205 _ (fun _ => (m1 e125 e134 e140 e150).1 (Or.inr (Or.inr (Or.inr (Or.inl e190))))) | exact k205 _ (fun _ => (m1 e125 e134 e140 e150).1 (Or.inr (Or.inr (Or.inr (Or.inr e197))))) | exact k205 _ (fun _ => (m1 e125 e134 e140 e150).2 e163 e173 e183 e190 e197)
                    · skip
                      refine r_ic (v := 1) (q := 201) d_MO_others_200 rfl rfl ?_
                      refine am_go (tgt := 205) d_MO_others_201 rfl ?_
                      first | exact k205 _ (m2 (Or.inl e125)) | exact k205 _ (m2 (Or.inr (Or.inl e134))) | exact k205 _ (m2 (Or.inr (Or.inr (Or.inl e140)))) | exact k205 _ (m2 (Or.inr (Or.inr (Or.inr e150)))) | exact k205 _ (fun _ => (m1 e125 e134 e140 e150).1 (Or.inl e163)) | exact k205 _ (fun _ => (m1 e125 e134 e140 e150).1 (Or.inr (Or.inl e173))) | exact k205 _ (fun _ => (m1 e125 e134 e140 e150).1 (Or.inr (Or.inr (Or.inl e183)))) | exact k205 _ (fun _ => (m1 e125 e134 e140 e150).1 (Or.inr (Or.inr (Or.inr (Or.inl e190))))) | exact k205 _ (fun _ => (m1 e125 e134 e140 e150).1 (Or.inr (Or.inr (Or.inr (Or.inr e197))))) | exact k205 _ (fun _ => (m1 e125 e134 e140 e150).2 e163 e173 e183 e190 e197)
  have k7 : am_oth y x b (otQ P y.toNatClampNeg hei b n o st) 7 none none none none [] st := by
    refine r_il3 (q := 8) d_MO_others_7 rfl ?_
    refine r_bp (v := 89) (q := 10) d_MO_others_8 rfl rfl ?_
    refine r_ceq (tgt := 19) (q := 13) d_MO_others_10 rfl rfl (fun e10 => ?_) (fun e10 => ?_)
    · skip
      first | exact k19 (Or.inl e10) | exact k19 (Or.inr e16) | exact k68 e65 | exact k124 e10 e16 e65
    · skip
      refine r_il3 (q := 14) d_MO_others_13 rfl ?_
      refine r_bp (v := 95) (q := 16) d_MO_others_14 rfl rfl ?_
      refine r_cne (tgt := 61) (q := 19) d_MO_others_16 rfl rfl (fun e16 => ?_) (fun e16 => ?_)
      · skip
        refine r_il3 (q := 62) d_MO_others_61 rfl ?_
        refine r_sp (v := 184) (q := 65) d_MO_others_62 rfl rfl ?_
        refine r_cne (tgt := 124) (q := 68) d_MO_others_65 rfl rfl (fun e65 => ?_) (fun e65 => ?_)
        · skip
          first | exact k19 (Or.inl e10) | exact k19 (Or.inr e16) | exact k68 e65 | exact k124 e10 e16 e65
        · skip
          first | exact k19 (Or.inl e10) | exact k19 (Or.inr e16) | exact k68 e65 | exact k124 e10 e16 e65
      · skip
        first | exact k19 (Or.inl e10) | exact k19 (Or.inr e16) | exact k68 e65 | exact k124 e10 e16 e65
  clear k19 k68 k124
  refine r_al0 (q := 1) d_MO_others_0 rfl ?_
  refine gt_MO_code (q := 4) d_MO_others_1 rfl rfl ?_
  refine r_il2 (q := 5) d_MO_others_4 rfl ?_
  refine ld_142 (q := 6) d_MO_others_5 ?_ rfl ?_
  · exact vx
  refine r_is3 (q := 7) d_MO_others_6 rfl ?_
  rw [hst]; exact k7

/-! written by wip/whole/gen/walk.py out of 90.mplain.txt -/
theorem NS_ch {st : am_S} {hei t g : Int32} {n : Nat} {o : am_ts} (h : NS st hei o) (hn : n < 8) (hg : (g = 1 ∧ ¬ st 599 0 = 0 ∧ st 2158 n = t) ∨ (g = 0 ∧ (st 599 0 = 0 ∨ ¬ st 2158 n = t))) : NS (am_up st 599 0 g) hei (chA (nI n) t o) := by
  have hb : 0 ≤ (am_up st 599 0 g 598 0).toInt ∧ (am_up st 599 0 g 598 0).toInt ≤ hei.toInt ∧ hei.toInt ≤ 8 := h.1
  rcases o with _ | ⟨L, R, H⟩
  · refine ⟨hb, ?_⟩
    have := h.2
    simp only [chA]
    rw [am_up_eq]
    rcases hg with q | q
    · exact absurd this q.2.1
    · exact q.1
  · obtain ⟨-, a1, a2, a3, a4⟩ := h
    unfold chA
    simp only
    rw [← a3 n hn]
    rcases hg with ⟨q1, q2, q3⟩ | ⟨q1, q2⟩
    · rw [if_pos q3]
      exact ⟨hb, by rw [am_up_eq]; exact q1, a2, a3, a4⟩
    · rw [if_neg (q2.resolve_left (by rw [a1]; decide))]
      exact ⟨hb, by rw [am_up_eq]; exact q1⟩
theorem NS_wr {st : am_S} {hei t : Int32} {n : Nat} {o : am_ts} (h : NS st hei o) (hn : n < 8) (ht : t = 1 ∨ t = 2) : NS (am_up st 2158 n t) hei (wrA (nI n) t o) := by
  rcases o with _ | ⟨L, R, H⟩
  · exact h
  · obtain ⟨hb, a1, a2, a3, k, k8, k1, k2, k3, k4⟩ := h
    refine ⟨hb, a1, ?_, ?_, k, k8, k1, k2, k3, ?_⟩
    · refine ⟨fun j b1 b2 => ?_, fun j b1 => ?_⟩
      · rw [at_w12 ht (by omega) b2, if_neg (by omega)]
        exact a2.1 j b1 b2
      · rw [at_w12 ht (by omega) (by omega)]
        split
        · exact Or.inr ht
        · exact a2.2 j b1
    · intro j hj
      rw [at_w12 ht (by omega) (by omega)]
      by_cases e : j = n
      · rw [e, am_up_eq, if_pos rfl]
      · rw [am_up_ne (by omega), if_neg e]
        exact a3 j hj
    · intro j hj
      rw [am_up_ne (by omega)]
      exact k4 j hj
def is_pl (b : Int32) : Prop := b = 1 ∨ dO b = 17 ∨ b = 178 ∨ op_loc (dO b)
def plA (hei b n : Int32) (o : am_ts) : am_ts := if b = 1 then onA hei 2 o else if dO b = 17 ∨ b = 178 then onA hei 1 o else if dO b = 21 then onA hei 1 (chA n 1 o) else if dO b = 132 then chA n 1 o else if dO b = 25 then onA hei 2 (chA n 2 o) else if dO b = 54 then wrA n 1 (offA 1 o) else wrA n 2 (offA 2 o)
def plQ (b n hei : Int32) (o : am_ts) (st : am_S) (r : Int32) (st' : am_S) : Prop := (r = 1 ∧ is_pl b ∧ am_md mN st st' ∧ NS st' hei (plA hei b n o)) ∨ (r = 0 ∧ ¬ is_pl b ∧ st' = st)
theorem pl_f {b : Int32} (h0 : 0 ≤ b.toInt) (h1 : b.toInt ≤ 255) : (dO b = 17 ↔ (2 ≤ b ∧ b ≤ 8) ∨ b = 16 ∨ b = 17) ∧ (dO b = 21 ↔ b = 21 ∨ (26 ≤ b ∧ b ≤ 29)) ∧ (dO b = 25 ↔ b = 25 ∨ (42 ≤ b ∧ b ≤ 45)) ∧ (dO b = 54 ↔ b = 54 ∨ (59 ≤ b ∧ b ≤ 62)) ∧ (dO b = 58 ↔ b = 58 ∨ (75 ≤ b ∧ b ≤ 78)) ∧ (dO b = 132 ↔ b = 132) := by
  refine by_dec (Q := fun b => (dO b = 17 ↔ (2 ≤ b ∧ b ≤ 8) ∨ b = 16 ∨ b = 17) ∧ (dO b = 21 ↔ b = 21 ∨ (26 ≤ b ∧ b ≤ 29)) ∧ (dO b = 25 ↔ b = 25 ∨ (42 ≤ b ∧ b ≤ 45)) ∧ (dO b = 54 ↔ b = 54 ∨ (59 ≤ b ∧ b ≤ 62)) ∧ (dO b = 58 ↔ b = 58 ∨ (75 ≤ b ∧ b ≤ 78)) ∧ (dO b = 132 ↔ b = 132)) ?_ h0 h1
  unfold dO
  decide +kernel
theorem sp_MO_plain {P : am_S} {x y hei : Int32} {o : am_ts} {st : am_S} {f : Int32 → am_S → Prop} (c1 : PM st P) (c2 : VP P) (c3 : 0 ≤ y.toInt ∧ y.toNatClampNeg < nM P) (c4 : 0 ≤ x.toInt ∧ x.toInt < 200) (c5 : x.toInt + (pZ P x.toNatClampNeg).toInt ≤ 200) (c6 : op_loc (pO P x.toNatClampNeg) → ∃ n, n < 8 ∧ pN P x.toNatClampNeg = nI n) (c7 : P 5 y.toNatClampNeg = hei) (c8 : NS st hei o) (h1 : ∀ p : {p : Int32 × am_S // plQ (P 0 x.toNatClampNeg) (pN P x.toNatClampNeg) hei o st p.1 p.2}, f p.1.1 p.1.2) : wp_MO_plain [.inr (.inl 128), .inl y, .inl x] st (am_ki f) := by
  refine ki_of (g := plQ (P 0 x.toNatClampNeg) (pN P x.toNatClampNeg) hei o st) mo_MO_plain ?_ h1
  refine ⟨⟨rfl, Nat.le_of_ble_eq_true rfl⟩, ?_⟩
  clear h1
  obtain ⟨v8, -⟩ := mf c1 c2 c3.2
  have hy8 : 0 ≤ y.toInt ∧ y.toInt < 8 := ⟨c3.1, by rw [nn_eq] at v8; omega⟩
  have h47 : st 2147 y.toNatClampNeg = hei := by rw [c1.1.2.2.2.2.2.1]; exact c7
  have vx : vp_in x 200 := vp_of c4.1 c4.2
  have hb := c2.2.1 x.toNatClampNeg
  have q0 := c1.1.1
  have hO : pO P x.toNatClampNeg = dO (P 0 x.toNatClampNeg) := rfl
  have hst : st 2142 x.toNatClampNeg = P 0 x.toNatClampNeg := by rw [q0]
  rw [hO] at c6
  obtain ⟨f17, f21, f25, f54, f58, f132⟩ := pl_f hb.1 hb.2
  generalize hbb : P 0 x.toNatClampNeg = b at *
  generalize hnn : pN P x.toNatClampNeg = n at *
  have t1 : ∀ o' : am_ts, ¬ o' = none → (1 : Int32) = 1 ∨ (1 : Int32) = 2 := fun _ _ => Or.inl rfl
  have t2 : ∀ o' : am_ts, ¬ o' = none → (2 : Int32) = 1 ∨ (2 : Int32) = 2 := fun _ _ => Or.inr rfl
  have k47 : ∀ s, am_md mN st s → s 2147 y.toNatClampNeg = hei := fun s h => by rw [h 2147 rfl]; exact h47
  have k19 : ∀ a4, b = 1 → am_AW c_MO_plain g_MO_plain (fun o' st' => am_ok (some .boolean) o' ∧ am_ki (plQ b n hei o st) o' st') 19 [some (.inr (.inl 128)), some (.inl y), some (.inl x), some (.inl b), a4, none] [] st := by
    intro a4 e
    have hp : is_pl b := Or.inl e
    have hA : plA hei b n o = onA hei 2 o := by unfold plA; rw [if_pos e]
    refine r_al0 (q := 20) d_MO_plain_19 rfl ?_
    refine r_ic (v := 2) (q := 21) d_MO_plain_20 rfl rfl ?_
    refine r_il1 (q := 22) d_MO_plain_21 rfl ?_
    refine r_vv2 mo_MO_on d_MO_plain_22 rfl rfl rfl (q := 25) rfl ?_
    refine sp_MO_on (o := o) (hei := hei) (by first | exact c8 | exact h47 | exact t2 _ | assumption | (refine pc_of hP ?_; (repeat (first | assumption | exact md_refl | refine md_up ?_ rfl | refine md_fill ?_ rfl | (unfold ik; refine md_up ?_ rfl))); done) | (refine pm_of hP ?_; (repeat (first | assumption | exact md_refl | refine md_up ?_ rfl | refine md_fill ?_ rfl | (unfold ik; refine md_up ?_ rfl))); done) | omega | decide | ((try simp +decide only [b01, b10, b11, am_up, ik, and_true, and_false, true_and, false_and, if_true, if_false, nn_eq] at *) <;> (try simp only [sw_or, sw_all, or_false, and_true, i32_lt, i32_le, i32_eq, i32_addw, i32_subw, i32_mulw, Int32.reduceToInt] at *) <;> omega) | (apply_assumption; done)) (by first | exact c8 | exact h47 | exact t2 _ | assumption | (refine pc_of hP ?_; (repeat (first | assumption | exact md_refl | refine md_up ?_ rfl | refine md_fill ?_ rfl | (unfold ik; refine md_up ?_ rfl))); done) | (refine pm_of hP ?_; (repeat (first | assumption | exact md_refl | refine md_up ?_ rfl | refine md_fill ?_ rfl | (unfold ik; refine md_up ?_ rfl))); done) | omega | decide | ((try simp +decide only [b01, b10, b11, am_up, ik, and_true, and_false, true_and, false_and, if_true, if_false, nn_eq] at *) <;> (try simp only [sw_or, sw_all, or_false, and_true, i32_lt, i32_le, i32_eq, i32_addw, i32_subw, i32_mulw, Int32.reduceToInt] at *) <;> omega) | (apply_assumption; done)) (by first | exact c8 | exact h47 | exact t2 _ | assumption | (refine pc_of hP ?_; (repeat (first | assumption | exact md_refl | refine md_up ?_ rfl | refine md_fill ?_ rfl | (unfold ik; refine md_up ?_ rfl))); done) | (refine pm_of hP ?_; (repeat (first | assumption | exact md_refl | refine md_up ?_ rfl | refine md_fill ?_ rfl | (unfold ik; refine md_up ?_ rfl))); done) | omega | decide | ((try simp +decide only [b01, b10, b11, am_up, ik, and_true, and_false, true_and, false_and, if_true, if_false, nn_eq] at *) <;> (try simp only [sw_or, sw_all, or_false, and_true, i32_lt, i32_le, i32_eq, i32_addw, i32_subw, i32_mulw, Int32.reduceToInt] at *) <;> omega) | (apply_assumption; done)) (by first | exact c8 | exact h47 | exact t2 _ | assumption | (refine pc_of hP ?_; (repeat (first | assumption | exact md_refl | refine md_up ?_ rfl | refine md_fill ?_ rfl | (unfold ik; refine md_up ?_ rfl))); done) | (refine pm_of hP ?_; (repeat (first | assumption | exact md_refl | refine md_up ?_ rfl | refine md_fill ?_ rfl | (unfold ik; refine md_up ?_ rfl))); done) | omega | decide | ((try simp +decide only [b01, b10, b11, am_up, ik, and_true, and_false, true_and, false_and, if_true, if_false, nn_eq] at *) <;> (try simp only [sw_or, sw_all, or_false, and_true, i32_lt, i32_le, i32_eq, i32_addw, i32_subw, i32_mulw, Int32.reduceToInt] at *) <;> omega) | (apply_assumption; done)) (fun e22 => ?_)
    · skip
      refine am_go (tgt := 258) d_MO_plain_25 rfl ?_
      refine r_ic (v := 1) (q := 259) d_MO_plain_258 rfl rfl ?_
      refine r_rz d_MO_plain_259 (by first | exact c8 | exact h47 | exact t2 _ | assumption | (refine pc_of hP ?_; (repeat (first | assumption | exact md_refl | refine md_up ?_ rfl | refine md_fill ?_ rfl | (unfold ik; refine md_up ?_ rfl))); done) | (refine pm_of hP ?_; (repeat (first | assumption | exact md_refl | refine md_up ?_ rfl | refine md_fill ?_ rfl | (unfold ik; refine md_up ?_ rfl))); done) | omega | decide | ((try simp +decide only [b01, b10, b11, am_up, ik, and_true, and_false, true_and, false_and, if_true, if_false, nn_eq] at *) <;> (try simp only [sw_or, sw_all, or_false, and_true, i32_lt, i32_le, i32_eq, i32_addw, i32_subw, i32_mulw, Int32.reduceToInt] at *) <;> omega) | (apply_assumption; done)) ?_
      exact Or.inl ⟨rfl, hp, e22.2.1, by rw [hA]; exact e22.2.2⟩
  have k57 : ∀ a4, dO b = 17 ∨ b = 178 → am_AW c_MO_plain g_MO_plain (fun o' st' => am_ok (some .boolean) o' ∧ am_ki (plQ b n hei o st) o' st') 57 [some (.inr (.inl 128)), some (.inl y), some (.inl x), some (.inl b), a4, none] [] st := by
    intro a4 e
    have hp : is_pl b := by
      rcases e with e | e
      · exact Or.inr (Or.inl e)
      · exact Or.inr (Or.inr (Or.inl e))
    have hA : plA hei b n o = onA hei 1 o := by
      unfold plA
      rw [if_neg, if_pos e]
      rcases e with e | e
      · intro q
        rw [q] at e
        exact absurd e (by decide)
      · rw [e]
        decide
    refine r_al0 (q := 58) d_MO_plain_57 rfl ?_
    refine r_ic (v := 1) (q := 59) d_MO_plain_58 rfl rfl ?_
    refine r_il1 (q := 60) d_MO_plain_59 rfl ?_
    refine r_vv2 mo_MO_on d_MO_plain_60 rfl rfl rfl (q := 63) rfl ?_
    refine sp_MO_on (o := o) (hei := hei) (by first | exact c8 | exact h47 | exact t1 _ | assumption | (refine pc_of hP ?_; (repeat (first | assumption | exact md_refl | refine md_up ?_ rfl | refine md_fill ?_ rfl | (unfold ik; refine md_up ?_ rfl))); done) | (refine pm_of hP ?_; (repeat (first | assumption | exact md_refl | refine md_up ?_ rfl | refine md_fill ?_ rfl | (unfold ik; refine md_up ?_ rfl))); done) | omega | decide | ((try simp +decide only [b01, b10, b11, am_up, ik, and_true, and_false, true_and, false_and, if_true, if_false, nn_eq] at *) <;> (try simp only [sw_or, sw_all, or_false, and_true, i32_lt, i32_le, i32_eq, i32_addw, i32_subw, i32_mulw, Int32.reduceToInt] at *) <;> omega) | (apply_assumption; done)) (by first | exact c8 | exact h47 | exact t1 _ | assumption | (refine pc_of hP ?_; (repeat (first | assumption | exact md_refl | refine md_up ?_ rfl | refine md_fill ?_ rfl | (unfold ik; refine md_up ?_ rfl))); done) | (refine pm_of hP ?_; (repeat (first | assumption | exact md_refl | refine md_up ?_ rfl | refine md_fill ?_ rfl | (unfold ik; refine md_up ?_ rfl))); done) | omega | decide | ((try simp +decide only [b01, b10, b11, am_up, ik, and_true, and_false, true_and, false_and, if_true, if_false, nn_eq] at *) <;> (try simp only [sw_or, sw_all, or_false, and_true, i32_lt, i32_le, i32_eq, i32_addw, i32_subw, i32_mulw, Int32.reduceToInt] at *) <;> omega) | (apply_assumption; done)) (by first | exact c8 | exact h47 | exact t1 _ | assumption | (refine pc_of hP ?_; (repeat (first | assumption | exact md_refl | refine md_up ?_ rfl | refine md_fill ?_ rfl | (unfold ik; refine md_up ?_ rfl))); done) | (refine pm_of hP ?_; (repeat (first | assumption | exact md_refl | refine md_up ?_ rfl | refine md_fill ?_ rfl | (unfold ik; refine md_up ?_ rfl))); done) | omega | decide | ((try simp +decide only [b01, b10, b11, am_up, ik, and_true, and_false, true_and, false_and, if_true, if_false, nn_eq] at *) <;> (try simp only [sw_or, sw_all, or_false, and_true, i32_lt, i32_le, i32_eq, i32_addw, i32_subw, i32_mulw, Int32.reduceToInt] at *) <;> omega) | (apply_assumption; done)) (by first | exact c8 | exact h47 | exact t1 _ | assumption | (refine pc_of hP ?_; (repeat (first | assumption | exact md_refl | refine md_up ?_ rfl | refine md_fill ?_ rfl | (unfold ik; refine md_up ?_ rfl))); done) | (refine pm_of hP ?_; (repeat (first | assumption | exact md_refl | refine md_up ?_ rfl | refine md_fill ?_ rfl | (unfold ik; refine md_up ?_ rfl))); done) | omega | decide | ((try simp +decide only [b01, b10, b11, am_up, ik, and_true, and_false, true_and, false_and, if_true, if_false, nn_eq] at *) <;> (try simp only [sw_or, sw_all, or_false, and_true, i32_lt, i32_le, i32_eq, i32_addw, i32_subw, i32_mulw, Int32.reduceToInt] at *) <;> omega) | (apply_assumption; done)) (fun e60 => ?_)
    · skip
      refine am_go (tgt := 258) d_MO_plain_63 rfl ?_
      refine r_ic (v := 1) (q := 259) d_MO_plain_258 rfl rfl ?_
      refine r_rz d_MO_plain_259 (by first | exact c8 | exact h47 | exact t1 _ | assumption | (refine pc_of hP ?_; (repeat (first | assumption | exact md_refl | refine md_up ?_ rfl | refine md_fill ?_ rfl | (unfold ik; refine md_up ?_ rfl))); done) | (refine pm_of hP ?_; (repeat (first | assumption | exact md_refl | refine md_up ?_ rfl | refine md_fill ?_ rfl | (unfold ik; refine md_up ?_ rfl))); done) | omega | decide | ((try simp +decide only [b01, b10, b11, am_up, ik, and_true, and_false, true_and, false_and, if_true, if_false, nn_eq] at *) <;> (try simp only [sw_or, sw_all, or_false, and_true, i32_lt, i32_le, i32_eq, i32_addw, i32_subw, i32_mulw, Int32.reduceToInt] at *) <;> omega) | (apply_assumption; done)) ?_
      exact Or.inl ⟨rfl, hp, e60.2.1, by rw [hA]; exact e60.2.2⟩
  have kv : ∀ v, dO b = v → op_loc v → ∃ j, j < 8 ∧ n = nI j ∧ n.toNatClampNeg = j ∧ vp_in n 16 := by
    intro v hv hl
    rw [← hv] at hl
    obtain ⟨j, j1, j2⟩ := c6 hl
    refine ⟨j, j1, j2, by rw [j2, nI_c (by omega)], ?_⟩
    rw [j2]
    exact vp_of (by rw [nI_t (by omega)]; omega) (by rw [nI_t (by omega)]; omega)
  have k90 : dO b = 21 ∨ dO b = 132 → am_AW c_MO_plain g_MO_plain (fun o' st' => am_ok (some .boolean) o' ∧ am_ki (plQ b n hei o st) o' st') 90 [some (.inr (.inl 128)), some (.inl y), some (.inl x), some (.inl b), some (.inl n), none] [] st := by
    intro e
    have hl : op_loc (dO b) := by unfold op_loc; rcases e with e | e <;> rw [e] <;> decide
    have hp : is_pl b := Or.inr (Or.inr (Or.inr hl))
    obtain ⟨j, j1, j2, j3, vn⟩ := kv _ rfl hl
    have hA1 : b = 132 → plA hei b n o = chA (nI j) 1 o := by
      intro q
      unfold plA
      rw [q, if_neg (by decide), if_neg (by decide), if_neg (by decide), if_pos (by decide), j2]
    have hA2 : ¬ b = 132 → plA hei b n o = onA hei 1 (chA (nI j) 1 o) := by
      intro q
      have e21 : dO b = 21 := e.resolve_right (fun w => q (f132.mp w))
      unfold plA
      rw [if_neg, if_neg, if_pos e21, j2]
      · rintro (w | w)
        · rw [w] at e21
          exact absurd e21 (by decide)
        · rw [w] at e21
          exact absurd e21 (by decide)
      · intro w
        rw [w] at e21
        exact absurd e21 (by decide)
    have kc : ∀ g, (g = 1 ∧ ¬ st 599 0 = 0 ∧ st 2158 n.toNatClampNeg = 1) ∨ (g = 0 ∧ (st 599 0 = 0 ∨ ¬ st 2158 n.toNatClampNeg = 1)) → am_md mN st (am_up st 599 0 g) ∧ NS (am_up st 599 0 g) hei (chA (nI j) 1 o) := fun g hg => ⟨md_up md_refl rfl, NS_ch c8 j1 (by rw [j3] at hg; exact hg)⟩
    have k117 : ∀ s, am_md mN st s → NS s hei (chA (nI j) 1 o) → am_AW c_MO_plain g_MO_plain (fun o' st' => am_ok (some .boolean) o' ∧ am_ki (plQ b n hei o st) o' st') 117 [some (.inr (.inl 128)), some (.inl y), some (.inl x), some (.inl b), some (.inl n), none] [] s := by
      intro s s1 s2
      have s3 := k47 s s1
      refine r_il3 (q := 118) d_MO_plain_117 rfl ?_
      refine r_sp (v := 132) (q := 121) d_MO_plain_118 rfl rfl ?_
      refine r_ceq (tgt := 258) (q := 124) d_MO_plain_121 rfl rfl (fun e121 => ?_) (fun e121 => ?_)
      · skip
        refine r_ic (v := 1) (q := 259) d_MO_plain_258 rfl rfl ?_
        refine r_rz d_MO_plain_259 (by first | exact s2 | exact s3 | exact t1 _ | assumption | (refine pc_of hP ?_; (repeat (first | assumption | exact md_refl | refine md_up ?_ rfl | refine md_fill ?_ rfl | (unfold ik; refine md_up ?_ rfl))); done) | (refine pm_of hP ?_; (repeat (first | assumption | exact md_refl | refine md_up ?_ rfl | refine md_fill ?_ rfl | (unfold ik; refine md_up ?_ rfl))); done) | omega | decide | ((try simp +decide only [b01, b10, b11, am_up, ik, and_true, and_false, true_and, false_and, if_true, if_false, nn_eq] at *) <;> (try simp only [sw_or, sw_all, or_false, and_true, i32_lt, i32_le, i32_eq, i32_addw, i32_subw, i32_mulw, Int32.reduceToInt] at *) <;> omega) | (apply_assumption; done)) ?_
        first | exact Or.inl ⟨rfl, hp, s1, by rw [hA1 e121]; exact s2⟩ | exact Or.inl ⟨rfl, hp, md_trans s1 e127.2.1, by rw [hA2 e121]; exact e127.2.2⟩
      · skip
        refine r_al0 (q := 125) d_MO_plain_124 rfl ?_
        refine r_ic (v := 1) (q := 126) d_MO_plain_125 rfl rfl ?_
        refine r_il1 (q := 127) d_MO_plain_126 rfl ?_
        refine r_vv2 mo_MO_on d_MO_plain_127 rfl rfl rfl (q := 130) rfl ?_
        refine sp_MO_on (o := chA (nI j) 1 o) (hei := hei) (by first | exact s2 | exact s3 | exact t1 _ | assumption | (refine pc_of hP ?_; (repeat (first | assumption | exact md_refl | refine md_up ?_ rfl | refine md_fill ?_ rfl | (unfold ik; refine md_up ?_ rfl))); done) | (refine pm_of hP ?_; (repeat (first | assumption | exact md_refl | refine md_up ?_ rfl | refine md_fill ?_ rfl | (unfold ik; refine md_up ?_ rfl))); done) | omega | decide | ((try simp +decide only [b01, b10, b11, am_up, ik, and_true, and_false, true_and, false_and, if_true, if_false, nn_eq] at *) <;> (try simp only [sw_or, sw_all, or_false, and_true, i32_lt, i32_le, i32_eq, i32_addw, i32_subw, i32_mulw, Int32.reduceToInt] at *) <;> omega) | (apply_assumption; done)) (by first | exact s2 | exact s3 | exact t1 _ | assumption | (refine pc_of hP ?_; (repeat (first | assumption | exact md_refl | refine md_up ?_ rfl | refine md_fill ?_ rfl | (unfold ik; refine md_up ?_ rfl))); done) | (refine pm_of hP ?_; (repeat (first | assumption | exact md_refl | refine md_up ?_ rfl | refine md_fill ?_ rfl | (unfold ik; refine md_up ?_ rfl))); done) | omega | decide | ((try simp +decide only [b01, b10, b11, am_up, ik, and_true, and_false, true_and, false_and, if_true, if_false, nn_eq] at *) <;> (try simp only [sw_or, sw_all, or_false, and_true, i32_lt, i32_le, i32_eq, i32_addw, i32_subw, i32_mulw, Int32.reduceToInt] at *) <;> omega) | (apply_assumption; done)) (by first | exact s2 | exact s3 | exact t1 _ | assumption | (refine pc_of hP ?_; (repeat (first | assumption | exact md_refl | refine md_up ?_ rfl | refine md_fill ?_ rfl | (unfold ik; refine md_up ?_ rfl))); done) | (refine pm_of hP ?_; (repeat (first | assumption | exact md_refl | refine md_up ?_ rfl | refine md_fill ?_ rfl | (unfold ik; refine md_up ?_ rfl))); done) | omega | decide | ((try simp +decide only [b01, b10, b11, am_up, ik, and_true, and_false, true_and, false_and, if_true, if_false, nn_eq] at *) <;> (try simp only [sw_or, sw_all, or_false, and_true, i32_lt, i32_le, i32_eq, i32_addw, i32_subw, i32_mulw, Int32.reduceToInt] at *) <;> omega) | (apply_assumption; done)) (by first | exact s2 | exact s3 | exact t1 _ | assumption | (refine pc_of hP ?_; (repeat (first | assumption | exact md_refl | refine md_up ?_ rfl | refine md_fill ?_ rfl | (unfold ik; refine md_up ?_ rfl))); done) | (refine pm_of hP ?_; (repeat (first | assumption | exact md_refl | refine md_up ?_ rfl | refine md_fill ?_ rfl | (unfold ik; refine md_up ?_ rfl))); done) | omega | decide | ((try simp +decide only [b01, b10, b11, am_up, ik, and_true, and_false, true_and, false_and, if_true, if_false, nn_eq] at *) <;> (try simp only [sw_or, sw_all, or_false, and_true, i32_lt, i32_le, i32_eq, i32_addw, i32_subw, i32_mulw, Int32.reduceToInt] at *) <;> omega) | (apply_assumption; done)) (fun e127 => ?_)
        · skip
          refine am_go (tgt := 258) d_MO_plain_130 rfl ?_
          refine r_ic (v := 1) (q := 259) d_MO_plain_258 rfl rfl ?_
          refine r_rz d_MO_plain_259 (by first | exact s2 | exact s3 | exact t1 _ | assumption | (refine pc_of hP ?_; (repeat (first | assumption | exact md_refl | refine md_up ?_ rfl | refine md_fill ?_ rfl | (unfold ik; refine md_up ?_ rfl))); done) | (refine pm_of hP ?_; (repeat (first | assumption | exact md_refl | refine md_up ?_ rfl | refine md_fill ?_ rfl | (unfold ik; refine md_up ?_ rfl))); done) | omega | decide | ((try simp +decide only [b01, b10, b11, am_up, ik, and_true, and_false, true_and, false_and, if_true, if_false, nn_eq] at *) <;> (try simp only [sw_or, sw_all, or_false, and_true, i32_lt, i32_le, i32_eq, i32_addw, i32_subw, i32_mulw, Int32.reduceToInt] at *) <;> omega) | (apply_assumption; done)) ?_
          first | exact Or.inl ⟨rfl, hp, s1, by rw [hA1 e121]; exact s2⟩ | exact Or.inl ⟨rfl, hp, md_trans s1 e127.2.1, by rw [hA2 e121]; exact e127.2.2⟩
    refine r_al0 (q := 91) d_MO_plain_90 rfl ?_
    refine r_al0 (q := 92) d_MO_plain_91 rfl ?_
    refine gt_MO_good (q := 95) d_MO_plain_92 rfl rfl ?_
    refine r_zeq (tgt := 113) (q := 98) d_MO_plain_95 rfl rfl (fun e95 => ?_) (fun e95 => ?_)
    · skip
      refine r_ic (v := 0) (q := 114) d_MO_plain_113 rfl rfl ?_
      refine pt_MO_good (q := 117) d_MO_plain_114 rfl (by first | assumption | (refine pc_of hP ?_; (repeat (first | assumption | exact md_refl | refine md_up ?_ rfl | refine md_fill ?_ rfl | (unfold ik; refine md_up ?_ rfl))); done) | (refine pm_of hP ?_; (repeat (first | assumption | exact md_refl | refine md_up ?_ rfl | refine md_fill ?_ rfl | (unfold ik; refine md_up ?_ rfl))); done) | omega | decide | ((try simp +decide only [b01, b10, b11, am_up, ik, and_true, and_false, true_and, false_and, if_true, if_false, nn_eq] at *) <;> (try simp only [sw_or, sw_all, or_false, and_true, i32_lt, i32_le, i32_eq, i32_addw, i32_subw, i32_mulw, Int32.reduceToInt] at *) <;> omega) | (apply_assumption; done)) rfl ?_
      first | exact k117 _ (kc 1 (Or.inl ⟨rfl, e95, e106⟩)).1 (kc 1 (Or.inl ⟨rfl, e95, e106⟩)).2 | exact k117 _ (kc 0 (Or.inr ⟨rfl, Or.inr e106⟩)).1 (kc 0 (Or.inr ⟨rfl, Or.inr e106⟩)).2 | exact k117 _ (kc 0 (Or.inr ⟨rfl, Or.inl e95⟩)).1 (kc 0 (Or.inr ⟨rfl, Or.inl e95⟩)).2
    · skip
      refine r_al0 (q := 99) d_MO_plain_98 rfl ?_
      refine gt_MO_now (q := 102) d_MO_plain_99 rfl rfl ?_
      refine r_il4 (q := 104) d_MO_plain_102 rfl ?_
      refine ld_158 (q := 105) d_MO_plain_104 ?_ rfl ?_
      · exact vn
      refine r_ic (v := 1) (q := 106) d_MO_plain_105 rfl rfl ?_
      refine r_cne (tgt := 113) (q := 109) d_MO_plain_106 rfl rfl (fun e106 => ?_) (fun e106 => ?_)
      · skip
        refine r_ic (v := 0) (q := 114) d_MO_plain_113 rfl rfl ?_
        refine pt_MO_good (q := 117) d_MO_plain_114 rfl (by first | assumption | (refine pc_of hP ?_; (repeat (first | assumption | exact md_refl | refine md_up ?_ rfl | refine md_fill ?_ rfl | (unfold ik; refine md_up ?_ rfl))); done) | (refine pm_of hP ?_; (repeat (first | assumption | exact md_refl | refine md_up ?_ rfl | refine md_fill ?_ rfl | (unfold ik; refine md_up ?_ rfl))); done) | omega | decide | ((try simp +decide only [b01, b10, b11, am_up, ik, and_true, and_false, true_and, false_and, if_true, if_false, nn_eq] at *) <;> (try simp only [sw_or, sw_all, or_false, and_true, i32_lt, i32_le, i32_eq, i32_addw, i32_subw, i32_mulw, Int32.reduceToInt] at *) <;> omega) | (apply_assumption; done)) rfl ?_
        first | exact k117 _ (kc 1 (Or.inl ⟨rfl, e95, e106⟩)).1 (kc 1 (Or.inl ⟨rfl, e95, e106⟩)).2 | exact k117 _ (kc 0 (Or.inr ⟨rfl, Or.inr e106⟩)).1 (kc 0 (Or.inr ⟨rfl, Or.inr e106⟩)).2 | exact k117 _ (kc 0 (Or.inr ⟨rfl, Or.inl e95⟩)).1 (kc 0 (Or.inr ⟨rfl, Or.inl e95⟩)).2
      · skip
        refine r_ic (v := 1) (q := 110) d_MO_plain_109 rfl rfl ?_
        refine am_go (tgt := 114) d_MO_plain_110 rfl ?_
        refine pt_MO_good (q := 117) d_MO_plain_114 rfl (by first | assumption | (refine pc_of hP ?_; (repeat (first | assumption | exact md_refl | refine md_up ?_ rfl | refine md_fill ?_ rfl | (unfold ik; refine md_up ?_ rfl))); done) | (refine pm_of hP ?_; (repeat (first | assumption | exact md_refl | refine md_up ?_ rfl | refine md_fill ?_ rfl | (unfold ik; refine md_up ?_ rfl))); done) | omega | decide | ((try simp +decide only [b01, b10, b11, am_up, ik, and_true, and_false, true_and, false_and, if_true, if_false, nn_eq] at *) <;> (try simp only [sw_or, sw_all, or_false, and_true, i32_lt, i32_le, i32_eq, i32_addw, i32_subw, i32_mulw, Int32.reduceToInt] at *) <;> omega) | (apply_assumption; done)) rfl ?_
        first | exact k117 _ (kc 1 (Or.inl ⟨rfl, e95, e106⟩)).1 (kc 1 (Or.inl ⟨rfl, e95, e106⟩)).2 | exact k117 _ (kc 0 (Or.inr ⟨rfl, Or.inr e106⟩)).1 (kc 0 (Or.inr ⟨rfl, Or.inr e106⟩)).2 | exact k117 _ (kc 0 (Or.inr ⟨rfl, Or.inl e95⟩)).1 (kc 0 (Or.inr ⟨rfl, Or.inl e95⟩)).2
  have k150 : dO b = 25 → am_AW c_MO_plain g_MO_plain (fun o' st' => am_ok (some .boolean) o' ∧ am_ki (plQ b n hei o st) o' st') 150 [some (.inr (.inl 128)), some (.inl y), some (.inl x), some (.inl b), some (.inl n), none] [] st := by
    intro e
    have hl : op_loc (dO b) := by unfold op_loc; rw [e]; decide
    have hp : is_pl b := Or.inr (Or.inr (Or.inr hl))
    obtain ⟨j, j1, j2, j3, vn⟩ := kv _ rfl hl
    have hA : plA hei b n o = onA hei 2 (chA (nI j) 2 o) := by
      unfold plA
      rw [if_neg, if_neg, if_neg, if_neg, if_pos e, j2]
      · rw [e]
        decide
      · rw [e]
        decide
      · rintro (w | w)
        · rw [w] at e
          exact absurd e (by decide)
        · rw [w] at e
          exact absurd e (by decide)
      · intro w
        rw [w] at e
        exact absurd e (by decide)
    have kc : ∀ g, (g = 1 ∧ ¬ st 599 0 = 0 ∧ st 2158 n.toNatClampNeg = 2) ∨ (g = 0 ∧ (st 599 0 = 0 ∨ ¬ st 2158 n.toNatClampNeg = 2)) → am_md mN st (am_up st 599 0 g) ∧ NS (am_up st 599 0 g) hei (chA (nI j) 2 o) := fun g hg => ⟨md_up md_refl rfl, NS_ch c8 j1 (by rw [j3] at hg; exact hg)⟩
    have k177 : ∀ s, am_md mN st s → NS s hei (chA (nI j) 2 o) → am_AW c_MO_plain g_MO_plain (fun o' st' => am_ok (some .boolean) o' ∧ am_ki (plQ b n hei o st) o' st') 177 [some (.inr (.inl 128)), some (.inl y), some (.inl x), some (.inl b), some (.inl n), none] [] s := by
      intro s s1 s2
      have s3 := k47 s s1
      refine r_al0 (q := 178) d_MO_plain_177 rfl ?_
      refine r_ic (v := 2) (q := 179) d_MO_plain_178 rfl rfl ?_
      refine r_il1 (q := 180) d_MO_plain_179 rfl ?_
      refine r_vv2 mo_MO_on d_MO_plain_180 rfl rfl rfl (q := 183) rfl ?_
      refine sp_MO_on (o := chA (nI j) 2 o) (hei := hei) (by first | exact s2 | exact s3 | exact t2 _ | assumption | (refine pc_of hP ?_; (repeat (first | assumption | exact md_refl | refine md_up ?_ rfl | refine md_fill ?_ rfl | (unfold ik; refine md_up ?_ rfl))); done) | (refine pm_of hP ?_; (repeat (first | assumption | exact md_refl | refine md_up ?_ rfl | refine md_fill ?_ rfl | (unfold ik; refine md_up ?_ rfl))); done) | omega | decide | ((try simp +decide only [b01, b10, b11, am_up, ik, and_true, and_false, true_and, false_and, if_true, if_false, nn_eq] at *) <;> (try simp only [sw_or, sw_all, or_false, and_true, i32_lt, i32_le, i32_eq, i32_addw, i32_subw, i32_mulw, Int32.reduceToInt] at *) <;> omega) | (apply_assumption; done)) (by first | exact s2 | exact s3 | exact t2 _ | assumption | (refine pc_of hP ?_; (repeat (first | assumption | exact md_refl | refine md_up ?_ rfl | refine md_fill ?_ rfl | (unfold ik; refine md_up ?_ rfl))); done) | (refine pm_of hP ?_; (repeat (first | assumption | exact md_refl | refine md_up ?_ rfl | refine md_fill ?_ rfl | (unfold ik; refine md_up ?_ rfl))); done) | omega | decide | ((try simp +decide only [b01, b10, b11, am_up, ik, and_true, and_false, true_and, false_and, if_true, if_false, nn_eq] at *) <;> (try simp only [sw_or, sw_all, or_false, and_true, i32_lt, i32_le, i32_eq, i32_addw, i32_subw, i32_mulw, Int32.reduceToInt] at *) <;> omega) | (apply_assumption; done)) (by first | exact s2 | exact s3 | exact t2 _ | assumption | (refine pc_of hP ?_; (repeat (first | assumption | exact md_refl | refine md_up ?_ rfl | refine md_fill ?_ rfl | (unfold ik; refine md_up ?_ rfl))); done) | (refine pm_of hP ?_; (repeat (first | assumption | exact md_refl | refine md_up ?_ rfl | refine md_fill ?_ rfl | (unfold ik; refine md_up ?_ rfl))); done) | omega | decide | ((try simp +decide only [b01, b10, b11, am_up, ik, and_true, and_false, true_and, false_and, if_true, if_false, nn_eq] at *) <;> (try simp only [sw_or, sw_all, or_false, and_true, i32_lt, i32_le, i32_eq, i32_addw, i32_subw, i32_mulw, Int32.reduceToInt] at *) <;> omega) | (apply_assumption; done)) (by first | exact s2 | exact s3 | exact t2 _ | assumption | (refine pc_of hP ?_; (repeat (first | assumption | exact md_refl | refine md_up ?_ rfl | refine md_fill ?_ rfl | (unfold ik; refine md_up ?_ rfl))); done) | (refine pm_of hP ?_; (repeat (first | assumption | exact md_refl | refine md_up ?_ rfl | refine md_fill ?_ rfl | (unfold ik; refine md_up ?_ rfl))); done) | omega | decide | ((try simp +decide only [b01, b10, b11, am_up, ik, and_true, and_false, true_and, false_and, if_true, if_false, nn_eq] at *) <;> (try simp only [sw_or, sw_all, or_false, and_true, i32_lt, i32_le, i32_eq, i32_addw, i32_subw, i32_mulw, Int32.reduceToInt] at *) <;> omega) | (apply_assumption; done)) (fun e180 => ?_)
      · skip
        refine am_go (tgt := 258) d_MO_plain_183 rfl ?_
        refine r_ic (v := 1) (q := 259) d_MO_plain_258 rfl rfl ?_
        refine r_rz d_MO_plain_259 (by first | exact s2 | exact s3 | exact t2 _ | assumption | (refine pc_of hP ?_; (repeat (first | assumption | exact md_refl | refine md_up ?_ rfl | refine md_fill ?_ rfl | (unfold ik; refine md_up ?_ rfl))); done) | (refine pm_of hP ?_; (repeat (first | assumption | exact md_refl | refine md_up ?_ rfl | refine md_fill ?_ rfl | (unfold ik; refine md_up ?_ rfl))); done) | omega | decide | ((try simp +decide only [b01, b10, b11, am_up, ik, and_true, and_false, true_and, false_and, if_true, if_false, nn_eq] at *) <;> (try simp only [sw_or, sw_all, or_false, and_true, i32_lt, i32_le, i32_eq, i32_addw, i32_subw, i32_mulw, Int32.reduceToInt] at *) <;> omega) | (apply_assumption; done)) ?_
        exact Or.inl ⟨rfl, hp, md_trans s1 e180.2.1, by rw [hA]; exact e180.2.2⟩
    refine r_al0 (q := 151) d_MO_plain_150 rfl ?_
    refine r_al0 (q := 152) d_MO_plain_151 rfl ?_
    refine gt_MO_good (q := 155) d_MO_plain_152 rfl rfl ?_
    refine r_zeq (tgt := 173) (q := 158) d_MO_plain_155 rfl rfl (fun e155 => ?_) (fun e155 => ?_)
    · skip
      refine r_ic (v := 0) (q := 174) d_MO_plain_173 rfl rfl ?_
      refine pt_MO_good (q := 177) d_MO_plain_174 rfl (by first | assumption | (refine pc_of hP ?_; (repeat (first | assumption | exact md_refl | refine md_up ?_ rfl | refine md_fill ?_ rfl | (unfold ik; refine md_up ?_ rfl))); done) | (refine pm_of hP ?_; (repeat (first | assumption | exact md_refl | refine md_up ?_ rfl | refine md_fill ?_ rfl | (unfold ik; refine md_up ?_ rfl))); done) | omega | decide | ((try simp +decide only [b01, b10, b11, am_up, ik, and_true, and_false, true_and, false_and, if_true, if_false, nn_eq] at *) <;> (try simp only [sw_or, sw_all, or_false, and_true, i32_lt, i32_le, i32_eq, i32_addw, i32_subw, i32_mulw, Int32.reduceToInt] at *) <;> omega) | (apply_assumption; done)) rfl ?_
      first | exact k177 _ (kc 1 (Or.inl ⟨rfl, e155, e166⟩)).1 (kc 1 (Or.inl ⟨rfl, e155, e166⟩)).2 | exact k177 _ (kc 0 (Or.inr ⟨rfl, Or.inr e166⟩)).1 (kc 0 (Or.inr ⟨rfl, Or.inr e166⟩)).2 | exact k177 _ (kc 0 (Or.inr ⟨rfl, Or.inl e155⟩)).1 (kc 0 (Or.inr ⟨rfl, Or.inl e155⟩)).2
    · skip
      refine r_al0 (q := 159) d_MO_plain_158 rfl ?_
      refine gt_MO_now (q := 162) d_MO_plain_159 rfl rfl ?_
      refine r_il4 (q := 164) d_MO_plain_162 rfl ?_
      refine ld_158 (q := 165) d_MO_plain_164 ?_ rfl ?_
      · exact vn
      refine r_ic (v := 2) (q := 166) d_MO_plain_165 rfl rfl ?_
      refine r_cne (tgt := 173) (q := 169) d_MO_plain_166 rfl rfl (fun e166 => ?_) (fun e166 => ?_)
      · skip
        refine r_ic (v := 0) (q := 174) d_MO_plain_173 rfl rfl ?_
        refine pt_MO_good (q := 177) d_MO_plain_174 rfl (by first | assumption | (refine pc_of hP ?_; (repeat (first | assumption | exact md_refl | refine md_up ?_ rfl | refine md_fill ?_ rfl | (unfold ik; refine md_up ?_ rfl))); done) | (refine pm_of hP ?_; (repeat (first | assumption | exact md_refl | refine md_up ?_ rfl | refine md_fill ?_ rfl | (unfold ik; refine md_up ?_ rfl))); done) | omega | decide | ((try simp +decide only [b01, b10, b11, am_up, ik, and_true, and_false, true_and, false_and, if_true, if_false, nn_eq] at *) <;> (try simp only [sw_or, sw_all, or_false, and_true, i32_lt, i32_le, i32_eq, i32_addw, i32_subw, i32_mulw, Int32.reduceToInt] at *) <;> omega) | (apply_assumption; done)) rfl ?_
        first | exact k177 _ (kc 1 (Or.inl ⟨rfl, e155, e166⟩)).1 (kc 1 (Or.inl ⟨rfl, e155, e166⟩)).2 | exact k177 _ (kc 0 (Or.inr ⟨rfl, Or.inr e166⟩)).1 (kc 0 (Or.inr ⟨rfl, Or.inr e166⟩)).2 | exact k177 _ (kc 0 (Or.inr ⟨rfl, Or.inl e155⟩)).1 (kc 0 (Or.inr ⟨rfl, Or.inl e155⟩)).2
      · skip
        refine r_ic (v := 1) (q := 170) d_MO_plain_169 rfl rfl ?_
        refine am_go (tgt := 174) d_MO_plain_170 rfl ?_
        refine pt_MO_good (q := 177) d_MO_plain_174 rfl (by first | assumption | (refine pc_of hP ?_; (repeat (first | assumption | exact md_refl | refine md_up ?_ rfl | refine md_fill ?_ rfl | (unfold ik; refine md_up ?_ rfl))); done) | (refine pm_of hP ?_; (repeat (first | assumption | exact md_refl | refine md_up ?_ rfl | refine md_fill ?_ rfl | (unfold ik; refine md_up ?_ rfl))); done) | omega | decide | ((try simp +decide only [b01, b10, b11, am_up, ik, and_true, and_false, true_and, false_and, if_true, if_false, nn_eq] at *) <;> (try simp only [sw_or, sw_all, or_false, and_true, i32_lt, i32_le, i32_eq, i32_addw, i32_subw, i32_mulw, Int32.reduceToInt] at *) <;> omega) | (apply_assumption; done)) rfl ?_
        first | exact k177 _ (kc 1 (Or.inl ⟨rfl, e155, e166⟩)).1 (kc 1 (Or.inl ⟨rfl, e155, e166⟩)).2 | exact k177 _ (kc 0 (Or.inr ⟨rfl, Or.inr e166⟩)).1 (kc 0 (Or.inr ⟨rfl, Or.inr e166⟩)).2 | exact k177 _ (kc 0 (Or.inr ⟨rfl, Or.inl e155⟩)).1 (kc 0 (Or.inr ⟨rfl, Or.inl e155⟩)).2
  have k203 : dO b = 54 → am_AW c_MO_plain g_MO_plain (fun o' st' => am_ok (some .boolean) o' ∧ am_ki (plQ b n hei o st) o' st') 203 [some (.inr (.inl 128)), some (.inl y), some (.inl x), some (.inl b), some (.inl n), none] [] st := by
    intro e
    have hl : op_loc (dO b) := by unfold op_loc; rw [e]; decide
    have hp : is_pl b := Or.inr (Or.inr (Or.inr hl))
    obtain ⟨j, j1, j2, j3, vn⟩ := kv _ rfl hl
    have hA : plA hei b n o = wrA (nI j) 1 (offA 1 o) := by
      unfold plA
      rw [if_neg, if_neg, if_neg, if_neg, if_neg, if_pos e, j2]
      · rw [e]
        decide
      · rw [e]
        decide
      · rw [e]
        decide
      · rintro (w | w)
        · rw [w] at e
          exact absurd e (by decide)
        · rw [w] at e
          exact absurd e (by decide)
      · intro w
        rw [w] at e
        exact absurd e (by decide)
    have kw : ∀ r s, ofQ 1 hei o st r s → am_md mN st (am_up s 2158 n.toNatClampNeg 1) ∧ NS (am_up s 2158 n.toNatClampNeg 1) hei (plA hei b n o) := fun r s h => ⟨md_up h.1 rfl, by rw [hA, j3]; exact NS_wr h.2.1 j1 (Or.inl rfl)⟩
    refine r_al0 (q := 204) d_MO_plain_203 rfl ?_
    refine r_ic (v := 1) (q := 205) d_MO_plain_204 rfl rfl ?_
    refine r_vi1 mo_MO_off d_MO_plain_205 rfl rfl rfl (q := 208) rfl ?_
    refine sp_MO_off (o := o) (hei := hei) (by first | exact c8 | assumption | (refine pc_of hP ?_; (repeat (first | assumption | exact md_refl | refine md_up ?_ rfl | refine md_fill ?_ rfl | (unfold ik; refine md_up ?_ rfl))); done) | (refine pm_of hP ?_; (repeat (first | assumption | exact md_refl | refine md_up ?_ rfl | refine md_fill ?_ rfl | (unfold ik; refine md_up ?_ rfl))); done) | omega | decide | ((try simp +decide only [b01, b10, b11, am_up, ik, and_true, and_false, true_and, false_and, if_true, if_false, nn_eq] at *) <;> (try simp only [sw_or, sw_all, or_false, and_true, i32_lt, i32_le, i32_eq, i32_addw, i32_subw, i32_mulw, Int32.reduceToInt] at *) <;> omega) | (apply_assumption; done)) (fun e205 => ?_)
    · skip
      refine r_is5 (q := 210) d_MO_plain_208 rfl ?_
      refine r_al0 (q := 211) d_MO_plain_210 rfl ?_
      refine gt_MO_now (q := 214) d_MO_plain_211 rfl rfl ?_
      refine r_il4 (q := 216) d_MO_plain_214 rfl ?_
      refine r_ic (v := 1) (q := 217) d_MO_plain_216 rfl rfl ?_
      refine sv_158 (q := 218) d_MO_plain_217 ?_ rfl ?_
      · exact vn
      refine am_go (tgt := 258) d_MO_plain_218 rfl ?_
      refine r_ic (v := 1) (q := 259) d_MO_plain_258 rfl rfl ?_
      refine r_rz d_MO_plain_259 (by first | exact c8 | assumption | (refine pc_of hP ?_; (repeat (first | assumption | exact md_refl | refine md_up ?_ rfl | refine md_fill ?_ rfl | (unfold ik; refine md_up ?_ rfl))); done) | (refine pm_of hP ?_; (repeat (first | assumption | exact md_refl | refine md_up ?_ rfl | refine md_fill ?_ rfl | (unfold ik; refine md_up ?_ rfl))); done) | omega | decide | ((try simp +decide only [b01, b10, b11, am_up, ik, and_true, and_false, true_and, false_and, if_true, if_false, nn_eq] at *) <;> (try simp only [sw_or, sw_all, or_false, and_true, i32_lt, i32_le, i32_eq, i32_addw, i32_subw, i32_mulw, Int32.reduceToInt] at *) <;> omega) | (apply_assumption; done)) ?_
      exact Or.inl ⟨rfl, hp, kw _ _ e205.2⟩
  have k238 : dO b = 58 → am_AW c_MO_plain g_MO_plain (fun o' st' => am_ok (some .boolean) o' ∧ am_ki (plQ b n hei o st) o' st') 238 [some (.inr (.inl 128)), some (.inl y), some (.inl x), some (.inl b), some (.inl n), none] [] st := by
    intro e
    have hl : op_loc (dO b) := by unfold op_loc; rw [e]; decide
    have hp : is_pl b := Or.inr (Or.inr (Or.inr hl))
    obtain ⟨j, j1, j2, j3, vn⟩ := kv _ rfl hl
    have hA : plA hei b n o = wrA (nI j) 2 (offA 2 o) := by
      unfold plA
      rw [if_neg, if_neg, if_neg, if_neg, if_neg, if_neg, j2]
      · rw [e]
        decide
      · rw [e]
        decide
      · rw [e]
        decide
      · rw [e]
        decide
      · rintro (w | w)
        · rw [w] at e
          exact absurd e (by decide)
        · rw [w] at e
          exact absurd e (by decide)
      · intro w
        rw [w] at e
        exact absurd e (by decide)
    have kw : ∀ r s, ofQ 2 hei o st r s → am_md mN st (am_up s 2158 n.toNatClampNeg 2) ∧ NS (am_up s 2158 n.toNatClampNeg 2) hei (plA hei b n o) := fun r s h => ⟨md_up h.1 rfl, by rw [hA, j3]; exact NS_wr h.2.1 j1 (Or.inr rfl)⟩
    refine r_al0 (q := 239) d_MO_plain_238 rfl ?_
    refine r_ic (v := 2) (q := 240) d_MO_plain_239 rfl rfl ?_
    refine r_vi1 mo_MO_off d_MO_plain_240 rfl rfl rfl (q := 243) rfl ?_
    refine sp_MO_off (o := o) (hei := hei) (by first | exact c8 | assumption | (refine pc_of hP ?_; (repeat (first | assumption | exact md_refl | refine md_up ?_ rfl | refine md_fill ?_ rfl | (unfold ik; refine md_up ?_ rfl))); done) | (refine pm_of hP ?_; (repeat (first | assumption | exact md_refl | refine md_up ?_ rfl | refine md_fill ?_ rfl | (unfold ik; refine md_up ?_ rfl))); done) | omega | decide | ((try simp +decide only [b01, b10, b11, am_up, ik, and_true, and_false, true_and, false_and, if_true, if_false, nn_eq] at *) <;> (try simp only [sw_or, sw_all, or_false, and_true, i32_lt, i32_le, i32_eq, i32_addw, i32_subw, i32_mulw, Int32.reduceToInt] at *) <;> omega) | (apply_assumption; done)) (fun e240 => ?_)
    · skip
      refine r_is5 (q := 245) d_MO_plain_243 rfl ?_
      refine r_al0 (q := 246) d_MO_plain_245 rfl ?_
      refine gt_MO_now (q := 249) d_MO_plain_246 rfl rfl ?_
      refine r_il4 (q := 251) d_MO_plain_249 rfl ?_
      refine r_ic (v := 2) (q := 252) d_MO_plain_251 rfl rfl ?_
      refine sv_158 (q := 253) d_MO_plain_252 ?_ rfl ?_
      · exact vn
      refine am_go (tgt := 258) d_MO_plain_253 rfl ?_
      refine r_ic (v := 1) (q := 259) d_MO_plain_258 rfl rfl ?_
      refine r_rz d_MO_plain_259 (by first | exact c8 | assumption | (refine pc_of hP ?_; (repeat (first | assumption | exact md_refl | refine md_up ?_ rfl | refine md_fill ?_ rfl | (unfold ik; refine md_up ?_ rfl))); done) | (refine pm_of hP ?_; (repeat (first | assumption | exact md_refl | refine md_up ?_ rfl | refine md_fill ?_ rfl | (unfold ik; refine md_up ?_ rfl))); done) | omega | decide | ((try simp +decide only [b01, b10, b11, am_up, ik, and_true, and_false, true_and, false_and, if_true, if_false, nn_eq] at *) <;> (try simp only [sw_or, sw_all, or_false, and_true, i32_lt, i32_le, i32_eq, i32_addw, i32_subw, i32_mulw, Int32.reduceToInt] at *) <;> omega) | (apply_assumption; done)) ?_
      exact Or.inl ⟨rfl, hp, kw _ _ e240.2⟩
  have k256 : ¬ b = 1 → ¬ (2 ≤ b ∧ b ≤ 8) → ¬ b = 16 → ¬ b = 17 → ¬ b = 178 → ¬ b = 21 → ¬ (26 ≤ b ∧ b ≤ 29) → ¬ b = 132 → ¬ b = 25 → ¬ (42 ≤ b ∧ b ≤ 45) → ¬ b = 54 → ¬ (59 ≤ b ∧ b ≤ 62) → ¬ b = 58 → ¬ (75 ≤ b ∧ b ≤ 78) → plQ b n hei o st 0 st := by
    intro a1 a2 a3 a4 a5 a6 a7 a8 a9 a10 a11 a12 a13 a14
    refine Or.inr ⟨rfl, ?_, rfl⟩
    rintro (h | h | h | h)
    · exact a1 h
    · rcases f17.mp h with q | q | q
      · exact a2 q
      · exact a3 q
      · exact a4 q
    · exact a5 h
    · rcases h with h | h | h | h | h
      · exact (f21.mp h).elim a6 a7
      · exact (f25.mp h).elim a9 a10
      · exact (f54.mp h).elim a11 a12
      · exact (f58.mp h).elim a13 a14
      · exact a8 (f132.mp h)
  have kx : ∀ v, dO b = v → op_loc v → ¬ op_loc (dO b) → False := fun v hv hl h => h (by rw [hv]; exact hl)
  have l21 : op_loc 21 := by unfold op_loc; decide
  have l25 : op_loc 25 := by unfold op_loc; decide
  have l54 : op_loc 54 := by unfold op_loc; decide
  have l58 : op_loc 58 := by unfold op_loc; decide
  have l132 : op_loc 132 := by unfold op_loc; decide
  have k14a : op_loc (dO b) → am_AW c_MO_plain g_MO_plain (fun o' st' => am_ok (some .boolean) o' ∧ am_ki (plQ b n hei o st) o' st') 14 [some (.inr (.inl 128)), some (.inl y), some (.inl x), some (.inl b), some (.inl n), none] [] st := by
    intro hl
    refine r_il3 (q := 15) d_MO_plain_14 rfl ?_
    refine r_ic (v := 1) (q := 16) d_MO_plain_15 rfl rfl ?_
    refine r_cne (tgt := 28) (q := 19) d_MO_plain_16 rfl rfl (fun e16 => ?_) (fun e16 => ?_)
    · skip
      refine r_il3 (q := 29) d_MO_plain_28 rfl ?_
      refine r_ic (v := 2) (q := 30) d_MO_plain_29 rfl rfl ?_
      refine r_bp (v := 8) (q := 32) d_MO_plain_30 rfl rfl ?_
      refine r_si3 mo_MO_in d_MO_plain_32 rfl rfl (q := 35) rfl ?_
      refine sq_MO_in (fun e32 => ?_) (fun e32 => ?_)
      · skip
        refine r_zne (tgt := 57) (q := 38) d_MO_plain_35 rfl rfl (fun e35 => ?_) (fun e35 => by exfalso; revert e35; decide)
        first | exact k19 _ e16 | exact k57 _ (Or.inl (f17.mpr (Or.inl e32))) | exact k57 _ (Or.inl (f17.mpr (Or.inr (Or.inl e41)))) | exact k57 _ (Or.inl (f17.mpr (Or.inr (Or.inr e47)))) | exact k57 _ (Or.inr e54) | exact k90 (Or.inl (f21.mpr (Or.inl e69))) | exact k90 (Or.inl (f21.mpr (Or.inr e77))) | exact k90 (Or.inr (f132.mpr e87)) | exact k150 (f25.mpr (Or.inl e136)) | exact k150 (f25.mpr (Or.inr e144)) | exact k203 (f54.mpr (Or.inl e189)) | exact k203 (f54.mpr (Or.inr e197)) | exact k238 (f58.mpr (Or.inl e224)) | exact k238 (f58.mpr (Or.inr e232))
      · skip
        refine r_zne (tgt := 57) (q := 38) d_MO_plain_35 rfl rfl (fun e35 => by exfalso; revert e35; decide) (fun e35 => ?_)
        refine r_il3 (q := 39) d_MO_plain_38 rfl ?_
        refine r_bp (v := 16) (q := 41) d_MO_plain_39 rfl rfl ?_
        refine r_ceq (tgt := 57) (q := 44) d_MO_plain_41 rfl rfl (fun e41 => ?_) (fun e41 => ?_)
        · skip
          first | exact k19 _ e16 | exact k57 _ (Or.inl (f17.mpr (Or.inl e32))) | exact k57 _ (Or.inl (f17.mpr (Or.inr (Or.inl e41)))) | exact k57 _ (Or.inl (f17.mpr (Or.inr (Or.inr e47)))) | exact k57 _ (Or.inr e54) | exact k90 (Or.inl (f21.mpr (Or.inl e69))) | exact k90 (Or.inl (f21.mpr (Or.inr e77))) | exact k90 (Or.inr (f132.mpr e87)) | exact k150 (f25.mpr (Or.inl e136)) | exact k150 (f25.mpr (Or.inr e144)) | exact k203 (f54.mpr (Or.inl e189)) | exact k203 (f54.mpr (Or.inr e197)) | exact k238 (f58.mpr (Or.inl e224)) | exact k238 (f58.mpr (Or.inr e232))
        · skip
          refine r_il3 (q := 45) d_MO_plain_44 rfl ?_
          refine r_bp (v := 17) (q := 47) d_MO_plain_45 rfl rfl ?_
          refine r_ceq (tgt := 57) (q := 50) d_MO_plain_47 rfl rfl (fun e47 => ?_) (fun e47 => ?_)
          · skip
            first | exact k19 _ e16 | exact k57 _ (Or.inl (f17.mpr (Or.inl e32))) | exact k57 _ (Or.inl (f17.mpr (Or.inr (Or.inl e41)))) | exact k57 _ (Or.inl (f17.mpr (Or.inr (Or.inr e47)))) | exact k57 _ (Or.inr e54) | exact k90 (Or.inl (f21.mpr (Or.inl e69))) | exact k90 (Or.inl (f21.mpr (Or.inr e77))) | exact k90 (Or.inr (f132.mpr e87)) | exact k150 (f25.mpr (Or.inl e136)) | exact k150 (f25.mpr (Or.inr e144)) | exact k203 (f54.mpr (Or.inl e189)) | exact k203 (f54.mpr (Or.inr e197)) | exact k238 (f58.mpr (Or.inl e224)) | exact k238 (f58.mpr (Or.inr e232))
          · skip
            refine r_il3 (q := 51) d_MO_plain_50 rfl ?_
            refine r_sp (v := 178) (q := 54) d_MO_plain_51 rfl rfl ?_
            refine r_cne (tgt := 66) (q := 57) d_MO_plain_54 rfl rfl (fun e54 => ?_) (fun e54 => ?_)
            · skip
              refine r_il3 (q := 67) d_MO_plain_66 rfl ?_
              refine r_bp (v := 21) (q := 69) d_MO_plain_67 rfl rfl ?_
              refine r_ceq (tgt := 90) (q := 72) d_MO_plain_69 rfl rfl (fun e69 => ?_) (fun e69 => ?_)
              · skip
                first | exact k19 _ e16 | exact k57 _ (Or.inl (f17.mpr (Or.inl e32))) | exact k57 _ (Or.inl (f17.mpr (Or.inr (Or.inl e41)))) | exact k57 _ (Or.inl (f17.mpr (Or.inr (Or.inr e47)))) | exact k57 _ (Or.inr e54) | exact k90 (Or.inl (f21.mpr (Or.inl e69))) | exact k90 (Or.inl (f21.mpr (Or.inr e77))) | exact k90 (Or.inr (f132.mpr e87)) | exact k150 (f25.mpr (Or.inl e136)) | exact k150 (f25.mpr (Or.inr e144)) | exact k203 (f54.mpr (Or.inl e189)) | exact k203 (f54.mpr (Or.inr e197)) | exact k238 (f58.mpr (Or.inl e224)) | exact k238 (f58.mpr (Or.inr e232))
              · skip
                refine r_il3 (q := 73) d_MO_plain_72 rfl ?_
                refine r_bp (v := 26) (q := 75) d_MO_plain_73 rfl rfl ?_
                refine r_bp (v := 29) (q := 77) d_MO_plain_75 rfl rfl ?_
                refine r_si3 mo_MO_in d_MO_plain_77 rfl rfl (q := 80) rfl ?_
                refine sq_MO_in (fun e77 => ?_) (fun e77 => ?_)
                · skip
                  refine r_zne (tgt := 90) (q := 83) d_MO_plain_80 rfl rfl (fun e80 => ?_) (fun e80 => by exfalso; revert e80; decide)
                  first | exact k19 _ e16 | exact k57 _ (Or.inl (f17.mpr (Or.inl e32))) | exact k57 _ (Or.inl (f17.mpr (Or.inr (Or.inl e41)))) | exact k57 _ (Or.inl (f17.mpr (Or.inr (Or.inr e47)))) | exact k57 _ (Or.inr e54) | exact k90 (Or.inl (f21.mpr (Or.inl e69))) | exact k90 (Or.inl (f21.mpr (Or.inr e77))) | exact k90 (Or.inr (f132.mpr e87)) | exact k150 (f25.mpr (Or.inl e136)) | exact k150 (f25.mpr (Or.inr e144)) | exact k203 (f54.mpr (Or.inl e189)) | exact k203 (f54.mpr (Or.inr e197)) | exact k238 (f58.mpr (Or.inl e224)) | exact k238 (f58.mpr (Or.inr e232))
                · skip
                  refine r_zne (tgt := 90) (q := 83) d_MO_plain_80 rfl rfl (fun e80 => by exfalso; revert e80; decide) (fun e80 => ?_)
                  refine r_il3 (q := 84) d_MO_plain_83 rfl ?_
                  refine r_sp (v := 132) (q := 87) d_MO_plain_84 rfl rfl ?_
                  refine r_cne (tgt := 133) (q := 90) d_MO_plain_87 rfl rfl (fun e87 => ?_) (fun e87 => ?_)
                  · skip
                    refine r_il3 (q := 134) d_MO_plain_133 rfl ?_
                    refine r_bp (v := 25) (q := 136) d_MO_plain_134 rfl rfl ?_
                    refine r_ceq (tgt := 150) (q := 139) d_MO_plain_136 rfl rfl (fun e136 => ?_) (fun e136 => ?_)
                    · skip
                      first | exact k19 _ e16 | exact k57 _ (Or.inl (f17.mpr (Or.inl e32))) | exact k57 _ (Or.inl (f17.mpr (Or.inr (Or.inl e41)))) | exact k57 _ (Or.inl (f17.mpr (Or.inr (Or.inr e47)))) | exact k57 _ (Or.inr e54) | exact k90 (Or.inl (f21.mpr (Or.inl e69))) | exact k90 (Or.inl (f21.mpr (Or.inr e77))) | exact k90 (Or.inr (f132.mpr e87)) | exact k150 (f25.mpr (Or.inl e136)) | exact k150 (f25.mpr (Or.inr e144)) | exact k203 (f54.mpr (Or.inl e189)) | exact k203 (f54.mpr (Or.inr e197)) | exact k238 (f58.mpr (Or.inl e224)) | exact k238 (f58.mpr (Or.inr e232))
                    · skip
                      refine r_il3 (q := 140) d_MO_plain_139 rfl ?_
                      refine r_bp (v := 42) (q := 142) d_MO_plain_140 rfl rfl ?_
                      refine r_bp (v := 45) (q := 144) d_MO_plain_142 rfl rfl ?_
                      refine r_si3 mo_MO_in d_MO_plain_144 rfl rfl (q := 147) rfl ?_
                      refine sq_MO_in (fun e144 => ?_) (fun e144 => ?_)
                      · skip
                        refine r_zeq (tgt := 186) (q := 150) d_MO_plain_147 rfl rfl (fun e147 => by exfalso; revert e147; decide) (fun e147 => ?_)
                        first | exact k19 _ e16 | exact k57 _ (Or.inl (f17.mpr (Or.inl e32))) | exact k57 _ (Or.inl (f17.mpr (Or.inr (Or.inl e41)))) | exact k57 _ (Or.inl (f17.mpr (Or.inr (Or.inr e47)))) | exact k57 _ (Or.inr e54) | exact k90 (Or.inl (f21.mpr (Or.inl e69))) | exact k90 (Or.inl (f21.mpr (Or.inr e77))) | exact k90 (Or.inr (f132.mpr e87)) | exact k150 (f25.mpr (Or.inl e136)) | exact k150 (f25.mpr (Or.inr e144)) | exact k203 (f54.mpr (Or.inl e189)) | exact k203 (f54.mpr (Or.inr e197)) | exact k238 (f58.mpr (Or.inl e224)) | exact k238 (f58.mpr (Or.inr e232))
                      · skip
                        refine r_zeq (tgt := 186) (q := 150) d_MO_plain_147 rfl rfl (fun e147 => ?_) (fun e147 => by exfalso; revert e147; decide)
                        refine r_il3 (q := 187) d_MO_plain_186 rfl ?_
                        refine r_bp (v := 54) (q := 189) d_MO_plain_187 rfl rfl ?_
                        refine r_ceq (tgt := 203) (q := 192) d_MO_plain_189 rfl rfl (fun e189 => ?_) (fun e189 => ?_)
                        · skip
                          first | exact k19 _ e16 | exact k57 _ (Or.inl (f17.mpr (Or.inl e32))) | exact k57 _ (Or.inl (f17.mpr (Or.inr (Or.inl e41)))) | exact k57 _ (Or.inl (f17.mpr (Or.inr (Or.inr e47)))) | exact k57 _ (Or.inr e54) | exact k90 (Or.inl (f21.mpr (Or.inl e69))) | exact k90 (Or.inl (f21.mpr (Or.inr e77))) | exact k90 (Or.inr (f132.mpr e87)) | exact k150 (f25.mpr (Or.inl e136)) | exact k150 (f25.mpr (Or.inr e144)) | exact k203 (f54.mpr (Or.inl e189)) | exact k203 (f54.mpr (Or.inr e197)) | exact k238 (f58.mpr (Or.inl e224)) | exact k238 (f58.mpr (Or.inr e232))
                        · skip
                          refine r_il3 (q := 193) d_MO_plain_192 rfl ?_
                          refine r_bp (v := 59) (q := 195) d_MO_plain_193 rfl rfl ?_
                          refine r_bp (v := 62) (q := 197) d_MO_plain_195 rfl rfl ?_
                          refine r_si3 mo_MO_in d_MO_plain_197 rfl rfl (q := 200) rfl ?_
                          refine sq_MO_in (fun e197 => ?_) (fun e197 => ?_)
                          · skip
                            refine r_zeq (tgt := 221) (q := 203) d_MO_plain_200 rfl rfl (fun e200 => by exfalso; revert e200; decide) (fun e200 => ?_)
                            first | exact k19 _ e16 | exact k57 _ (Or.inl (f17.mpr (Or.inl e32))) | exact k57 _ (Or.inl (f17.mpr (Or.inr (Or.inl e41)))) | exact k57 _ (Or.inl (f17.mpr (Or.inr (Or.inr e47)))) | exact k57 _ (Or.inr e54) | exact k90 (Or.inl (f21.mpr (Or.inl e69))) | exact k90 (Or.inl (f21.mpr (Or.inr e77))) | exact k90 (Or.inr (f132.mpr e87)) | exact k150 (f25.mpr (Or.inl e136)) | exact k150 (f25.mpr (Or.inr e144)) | exact k203 (f54.mpr (Or.inl e189)) | exact k203 (f54.mpr (Or.inr e197)) | exact k238 (f58.mpr (Or.inl e224)) | exact k238 (f58.mpr (Or.inr e232))
                          · skip
                            refine r_zeq (tgt := 221) (q := 203) d_MO_plain_200 rfl rfl (fun e200 => ?_) (fun e200 => by exfalso; revert e200; decide)
                            refine r_il3 (q := 222) d_MO_plain_221 rfl ?_
                            refine r_bp (v := 58) (q := 224) d_MO_plain_222 rfl rfl ?_
                            refine r_ceq (tgt := 238) (q := 227) d_MO_plain_224 rfl rfl (fun e224 => ?_) (fun e224 => ?_)
                            · skip
                              first | exact k19 _ e16 | exact k57 _ (Or.inl (f17.mpr (Or.inl e32))) | exact k57 _ (Or.inl (f17.mpr (Or.inr (Or.inl e41)))) | exact k57 _ (Or.inl (f17.mpr (Or.inr (Or.inr e47)))) | exact k57 _ (Or.inr e54) | exact k90 (Or.inl (f21.mpr (Or.inl e69))) | exact k90 (Or.inl (f21.mpr (Or.inr e77))) | exact k90 (Or.inr (f132.mpr e87)) | exact k150 (f25.mpr (Or.inl e136)) | exact k150 (f25.mpr (Or.inr e144)) | exact k203 (f54.mpr (Or.inl e189)) | exact k203 (f54.mpr (Or.inr e197)) | exact k238 (f58.mpr (Or.inl e224)) | exact k238 (f58.mpr (Or.inr e232))
                            · skip
                              refine r_il3 (q := 228) d_MO_plain_227 rfl ?_
                              refine r_bp (v := 75) (q := 230) d_MO_plain_228 rfl rfl ?_
                              refine r_bp (v := 78) (q := 232) d_MO_plain_230 rfl rfl ?_
                              refine r_si3 mo_MO_in d_MO_plain_232 rfl rfl (q := 235) rfl ?_
                              refine sq_MO_in (fun e232 => ?_) (fun e232 => ?_)
                              · skip
                                refine r_zeq (tgt := 256) (q := 238) d_MO_plain_235 rfl rfl (fun e235 => by exfalso; revert e235; decide) (fun e235 => ?_)
                                first | exact k19 _ e16 | exact k57 _ (Or.inl (f17.mpr (Or.inl e32))) | exact k57 _ (Or.inl (f17.mpr (Or.inr (Or.inl e41)))) | exact k57 _ (Or.inl (f17.mpr (Or.inr (Or.inr e47)))) | exact k57 _ (Or.inr e54) | exact k90 (Or.inl (f21.mpr (Or.inl e69))) | exact k90 (Or.inl (f21.mpr (Or.inr e77))) | exact k90 (Or.inr (f132.mpr e87)) | exact k150 (f25.mpr (Or.inl e136)) | exact k150 (f25.mpr (Or.inr e144)) | exact k203 (f54.mpr (Or.inl e189)) | exact k203 (f54.mpr (Or.inr e197)) | exact k238 (f58.mpr (Or.inl e224)) | exact k238 (f58.mpr (Or.inr e232))
                              · skip
                                refine r_zeq (tgt := 256) (q := 238) d_MO_plain_235 rfl rfl (fun e235 => ?_) (fun e235 => by exfalso; revert e235; decide)
                                refine r_ic (v := 0) (q := 257) d_MO_plain_256 rfl rfl ?_
                                refine r_rz d_MO_plain_257 (by first | assumption | (refine pc_of hP ?_; (repeat (first | assumption | exact md_refl | refine md_up ?_ rfl | refine md_fill ?_ rfl | (unfold ik; refine md_up ?_ rfl))); done) | (refine pm_of hP ?_; (repeat (first | assumption | exact md_refl | refine md_up ?_ rfl | refine md_fill ?_ rfl | (unfold ik; refine md_up ?_ rfl))); done) | omega | decide | ((try simp +decide only [b01, b10, b11, am_up, ik, and_true, and_false, true_and, false_and, if_true, if_false, nn_eq] at *) <;> (try simp only [sw_or, sw_all, or_false, and_true, i32_lt, i32_le, i32_eq, i32_addw, i32_subw, i32_mulw, Int32.reduceToInt] at *) <;> omega) | (apply_assumption; done)) ?_
                                exact k256 e16 e32 e41 e47 e54 e69 e77 e87 e136 e144 e189 e197 e224 e232
                  · skip
                    first | exact k19 _ e16 | exact k57 _ (Or.inl (f17.mpr (Or.inl e32))) | exact k57 _ (Or.inl (f17.mpr (Or.inr (Or.inl e41)))) | exact k57 _ (Or.inl (f17.mpr (Or.inr (Or.inr e47)))) | exact k57 _ (Or.inr e54) | exact k90 (Or.inl (f21.mpr (Or.inl e69))) | exact k90 (Or.inl (f21.mpr (Or.inr e77))) | exact k90 (Or.inr (f132.mpr e87)) | exact k150 (f25.mpr (Or.inl e136)) | exact k150 (f25.mpr (Or.inr e144)) | exact k203 (f54.mpr (Or.inl e189)) | exact k203 (f54.mpr (Or.inr e197)) | exact k238 (f58.mpr (Or.inl e224)) | exact k238 (f58.mpr (Or.inr e232))
            · skip
              first | exact k19 _ e16 | exact k57 _ (Or.inl (f17.mpr (Or.inl e32))) | exact k57 _ (Or.inl (f17.mpr (Or.inr (Or.inl e41)))) | exact k57 _ (Or.inl (f17.mpr (Or.inr (Or.inr e47)))) | exact k57 _ (Or.inr e54) | exact k90 (Or.inl (f21.mpr (Or.inl e69))) | exact k90 (Or.inl (f21.mpr (Or.inr e77))) | exact k90 (Or.inr (f132.mpr e87)) | exact k150 (f25.mpr (Or.inl e136)) | exact k150 (f25.mpr (Or.inr e144)) | exact k203 (f54.mpr (Or.inl e189)) | exact k203 (f54.mpr (Or.inr e197)) | exact k238 (f58.mpr (Or.inl e224)) | exact k238 (f58.mpr (Or.inr e232))
    · skip
      first | exact k19 _ e16 | exact k57 _ (Or.inl (f17.mpr (Or.inl e32))) | exact k57 _ (Or.inl (f17.mpr (Or.inr (Or.inl e41)))) | exact k57 _ (Or.inl (f17.mpr (Or.inr (Or.inr e47)))) | exact k57 _ (Or.inr e54) | exact k90 (Or.inl (f21.mpr (Or.inl e69))) | exact k90 (Or.inl (f21.mpr (Or.inr e77))) | exact k90 (Or.inr (f132.mpr e87)) | exact k150 (f25.mpr (Or.inl e136)) | exact k150 (f25.mpr (Or.inr e144)) | exact k203 (f54.mpr (Or.inl e189)) | exact k203 (f54.mpr (Or.inr e197)) | exact k238 (f58.mpr (Or.inl e224)) | exact k238 (f58.mpr (Or.inr e232))
  have k14b : ¬ op_loc (dO b) → am_AW c_MO_plain g_MO_plain (fun o' st' => am_ok (some .boolean) o' ∧ am_ki (plQ b n hei o st) o' st') 14 [some (.inr (.inl 128)), some (.inl y), some (.inl x), some (.inl b), some (.inl (-1)), none] [] st := by
    intro hl
    refine r_il3 (q := 15) d_MO_plain_14 rfl ?_
    refine r_ic (v := 1) (q := 16) d_MO_plain_15 rfl rfl ?_
    refine r_cne (tgt := 28) (q := 19) d_MO_plain_16 rfl rfl (fun e16 => ?_) (fun e16 => ?_)
    · skip
      refine r_il3 (q := 29) d_MO_plain_28 rfl ?_
      refine r_ic (v := 2) (q := 30) d_MO_plain_29 rfl rfl ?_
      refine r_bp (v := 8) (q := 32) d_MO_plain_30 rfl rfl ?_
      refine r_si3 mo_MO_in d_MO_plain_32 rfl rfl (q := 35) rfl ?_
      refine sq_MO_in (fun e32 => ?_) (fun e32 => ?_)
      · skip
        refine r_zne (tgt := 57) (q := 38) d_MO_plain_35 rfl rfl (fun e35 => ?_) (fun e35 => by exfalso; revert e35; decide)
        first | exact k19 _ e16 | exact k57 _ (Or.inl (f17.mpr (Or.inl e32))) | exact k57 _ (Or.inl (f17.mpr (Or.inr (Or.inl e41)))) | exact k57 _ (Or.inl (f17.mpr (Or.inr (Or.inr e47)))) | exact k57 _ (Or.inr e54) | exact (kx _ (f21.mpr (Or.inl e69)) l21 hl).elim | exact (kx _ (f21.mpr (Or.inr e77)) l21 hl).elim | exact (kx _ (f132.mpr e87) l132 hl).elim | exact (kx _ (f25.mpr (Or.inl e136)) l25 hl).elim | exact (kx _ (f25.mpr (Or.inr e144)) l25 hl).elim | exact (kx _ (f54.mpr (Or.inl e189)) l54 hl).elim | exact (kx _ (f54.mpr (Or.inr e197)) l54 hl).elim | exact (kx _ (f58.mpr (Or.inl e224)) l58 hl).elim | exact (kx _ (f58.mpr (Or.inr e232)) l58 hl).elim
      · skip
        refine r_zne (tgt := 57) (q := 38) d_MO_plain_35 rfl rfl (fun e35 => by exfalso; revert e35; decide) (fun e35 => ?_)
        refine r_il3 (q := 39) d_MO_plain_38 rfl ?_
        refine r_bp (v := 16) (q := 41) d_MO_plain_39 rfl rfl ?_
        refine r_ceq (tgt := 57) (q := 44) d_MO_plain_41 rfl rfl (fun e41 => ?_) (fun e41 => ?_)
        · skip
          first | exact k19 _ e16 | exact k57 _ (Or.inl (f17.mpr (Or.inl e32))) | exact k57 _ (Or.inl (f17.mpr (Or.inr (Or.inl e41)))) | exact k57 _ (Or.inl (f17.mpr (Or.inr (Or.inr e47)))) | exact k57 _ (Or.inr e54) | exact (kx _ (f21.mpr (Or.inl e69)) l21 hl).elim | exact (kx _ (f21.mpr (Or.inr e77)) l21 hl).elim | exact (kx _ (f132.mpr e87) l132 hl).elim | exact (kx _ (f25.mpr (Or.inl e136)) l25 hl).elim | exact (kx _ (f25.mpr (Or.inr e144)) l25 hl).elim | exact (kx _ (f54.mpr (Or.inl e189)) l54 hl).elim | exact (kx _ (f54.mpr (Or.inr e197)) l54 hl).elim | exact (kx _ (f58.mpr (Or.inl e224)) l58 hl).elim | exact (kx _ (f58.mpr (Or.inr e232)) l58 hl).elim
        · skip
          refine r_il3 (q := 45) d_MO_plain_44 rfl ?_
          refine r_bp (v := 17) (q := 47) d_MO_plain_45 rfl rfl ?_
          refine r_ceq (tgt := 57) (q := 50) d_MO_plain_47 rfl rfl (fun e47 => ?_) (fun e47 => ?_)
          · skip
            first | exact k19 _ e16 | exact k57 _ (Or.inl (f17.mpr (Or.inl e32))) | exact k57 _ (Or.inl (f17.mpr (Or.inr (Or.inl e41)))) | exact k57 _ (Or.inl (f17.mpr (Or.inr (Or.inr e47)))) | exact k57 _ (Or.inr e54) | exact (kx _ (f21.mpr (Or.inl e69)) l21 hl).elim | exact (kx _ (f21.mpr (Or.inr e77)) l21 hl).elim | exact (kx _ (f132.mpr e87) l132 hl).elim | exact (kx _ (f25.mpr (Or.inl e136)) l25 hl).elim | exact (kx _ (f25.mpr (Or.inr e144)) l25 hl).elim | exact (kx _ (f54.mpr (Or.inl e189)) l54 hl).elim | exact (kx _ (f54.mpr (Or.inr e197)) l54 hl).elim | exact (kx _ (f58.mpr (Or.inl e224)) l58 hl).elim | exact (kx _ (f58.mpr (Or.inr e232)) l58 hl).elim
          · skip
            refine r_il3 (q := 51) d_MO_plain_50 rfl ?_
            refine r_sp (v := 178) (q := 54) d_MO_plain_51 rfl rfl ?_
            refine r_cne (tgt := 66) (q := 57) d_MO_plain_54 rfl rfl (fun e54 => ?_) (fun e54 => ?_)
            · skip
              refine r_il3 (q := 67) d_MO_plain_66 rfl ?_
              refine r_bp (v := 21) (q := 69) d_MO_plain_67 rfl rfl ?_
              refine r_ceq (tgt := 90) (q := 72) d_MO_plain_69 rfl rfl (fun e69 => ?_) (fun e69 => ?_)
              · skip
                first | exact k19 _ e16 | exact k57 _ (Or.inl (f17.mpr (Or.inl e32))) | exact k57 _ (Or.inl (f17.mpr (Or.inr (Or.inl e41)))) | exact k57 _ (Or.inl (f17.mpr (Or.inr (Or.inr e47)))) | exact k57 _ (Or.inr e54) | exact (kx _ (f21.mpr (Or.inl e69)) l21 hl).elim | exact (kx _ (f21.mpr (Or.inr e77)) l21 hl).elim | exact (kx _ (f132.mpr e87) l132 hl).elim | exact (kx _ (f25.mpr (Or.inl e136)) l25 hl).elim | exact (kx _ (f25.mpr (Or.inr e144)) l25 hl).elim | exact (kx _ (f54.mpr (Or.inl e189)) l54 hl).elim | exact (kx _ (f54.mpr (Or.inr e197)) l54 hl).elim | exact (kx _ (f58.mpr (Or.inl e224)) l58 hl).elim | exact (kx _ (f58.mpr (Or.inr e232)) l58 hl).elim
              · skip
                refine r_il3 (q := 73) d_MO_plain_72 rfl ?_
                refine r_bp (v := 26) (q := 75) d_MO_plain_73 rfl rfl ?_
                refine r_bp (v := 29) (q := 77) d_MO_plain_75 rfl rfl ?_
                refine r_si3 mo_MO_in d_MO_plain_77 rfl rfl (q := 80) rfl ?_
                refine sq_MO_in (fun e77 => ?_) (fun e77 => ?_)
                · skip
                  refine r_zne (tgt := 90) (q := 83) d_MO_plain_80 rfl rfl (fun e80 => ?_) (fun e80 => by exfalso; revert e80; decide)
                  first | exact k19 _ e16 | exact k57 _ (Or.inl (f17.mpr (Or.inl e32))) | exact k57 _ (Or.inl (f17.mpr (Or.inr (Or.inl e41)))) | exact k57 _ (Or.inl (f17.mpr (Or.inr (Or.inr e47)))) | exact k57 _ (Or.inr e54) | exact (kx _ (f21.mpr (Or.inl e69)) l21 hl).elim | exact (kx _ (f21.mpr (Or.inr e77)) l21 hl).elim | exact (kx _ (f132.mpr e87) l132 hl).elim | exact (kx _ (f25.mpr (Or.inl e136)) l25 hl).elim | exact (kx _ (f25.mpr (Or.inr e144)) l25 hl).elim | exact (kx _ (f54.mpr (Or.inl e189)) l54 hl).elim | exact (kx _ (f54.mpr (Or.inr e197)) l54 hl).elim | exact (kx _ (f58.mpr (Or.inl e224)) l58 hl).elim | exact (kx _ (f58.mpr (Or.inr e232)) l58 hl).elim
                · skip
                  refine r_zne (tgt := 90) (q := 83) d_MO_plain_80 rfl rfl (fun e80 => by exfalso; revert e80; decide) (fun e80 => ?_)
                  refine r_il3 (q := 84) d_MO_plain_83 rfl ?_
                  refine r_sp (v := 132) (q := 87) d_MO_plain_84 rfl rfl ?_
                  refine r_cne (tgt := 133) (q := 90) d_MO_plain_87 rfl rfl (fun e87 => ?_) (fun e87 => ?_)
                  · skip
                    refine r_il3 (q := 134) d_MO_plain_133 rfl ?_
                    refine r_bp (v := 25) (q := 136) d_MO_plain_134 rfl rfl ?_
                    refine r_ceq (tgt := 150) (q := 139) d_MO_plain_136 rfl rfl (fun e136 => ?_) (fun e136 => ?_)
                    · skip
                      first | exact k19 _ e16 | exact k57 _ (Or.inl (f17.mpr (Or.inl e32))) | exact k57 _ (Or.inl (f17.mpr (Or.inr (Or.inl e41)))) | exact k57 _ (Or.inl (f17.mpr (Or.inr (Or.inr e47)))) | exact k57 _ (Or.inr e54) | exact (kx _ (f21.mpr (Or.inl e69)) l21 hl).elim | exact (kx _ (f21.mpr (Or.inr e77)) l21 hl).elim | exact (kx _ (f132.mpr e87) l132 hl).elim | exact (kx _ (f25.mpr (Or.inl e136)) l25 hl).elim | exact (kx _ (f25.mpr (Or.inr e144)) l25 hl).elim | exact (kx _ (f54.mpr (Or.inl e189)) l54 hl).elim | exact (kx _ (f54.mpr (Or.inr e197)) l54 hl).elim | exact (kx _ (f58.mpr (Or.inl e224)) l58 hl).elim | exact (kx _ (f58.mpr (Or.inr e232)) l58 hl).elim
                    · skip
                      refine r_il3 (q := 140) d_MO_plain_139 rfl ?_
                      refine r_bp (v := 42) (q := 142) d_MO_plain_140 rfl rfl ?_
                      refine r_bp (v := 45) (q := 144) d_MO_plain_142 rfl rfl ?_
                      refine r_si3 mo_MO_in d_MO_plain_144 rfl rfl (q := 147) rfl ?_
                      refine sq_MO_in (fun e144 => ?_) (fun e144 => ?_)
                      · skip
                        refine r_zeq (tgt := 186) (q := 150) d_MO_plain_147 rfl rfl (fun e147 => by exfalso; revert e147; decide) (fun e147 => ?_)
                        first | exact k19 _ e16 | exact k57 _ (Or.inl (f17.mpr (Or.inl e32))) | exact k57 _ (Or.inl (f17.mpr (Or.inr (Or.inl e41)))) | exact k57 _ (Or.inl (f17.mpr (Or.inr (Or.inr e47)))) | exact k57 _ (Or.inr e54) | exact (kx _ (f21.mpr (Or.inl e69)) l21 hl).elim | exact (kx _ (f21.mpr (Or.inr e77)) l21 hl).elim | exact (kx _ (f132.mpr e87) l132 hl).elim | exact (kx _ (f25.mpr (Or.inl e136)) l25 hl).elim | exact (kx _ (f25.mpr (Or.inr e144)) l25 hl).elim | exact (kx _ (f54.mpr (Or.inl e189)) l54 hl).elim | exact (kx _ (f54.mpr (Or.inr e197)) l54 hl).elim | exact (kx _ (f58.mpr (Or.inl e224)) l58 hl).elim | exact (kx _ (f58.mpr (Or.inr e232)) l58 hl).elim
                      · skip
                        refine r_zeq (tgt := 186) (q := 150) d_MO_plain_147 rfl rfl (fun e147 => ?_) (fun e147 => by exfalso; revert e147; decide)
                        refine r_il3 (q := 187) d_MO_plain_186 rfl ?_
                        refine r_bp (v := 54) (q := 189) d_MO_plain_187 rfl rfl ?_
                        refine r_ceq (tgt := 203) (q := 192) d_MO_plain_189 rfl rfl (fun e189 => ?_) (fun e189 => ?_)
                        · skip
                          first | exact k19 _ e16 | exact k57 _ (Or.inl (f17.mpr (Or.inl e32))) | exact k57 _ (Or.inl (f17.mpr (Or.inr (Or.inl e41)))) | exact k57 _ (Or.inl (f17.mpr (Or.inr (Or.inr e47)))) | exact k57 _ (Or.inr e54) | exact (kx _ (f21.mpr (Or.inl e69)) l21 hl).elim | exact (kx _ (f21.mpr (Or.inr e77)) l21 hl).elim | exact (kx _ (f132.mpr e87) l132 hl).elim | exact (kx _ (f25.mpr (Or.inl e136)) l25 hl).elim | exact (kx _ (f25.mpr (Or.inr e144)) l25 hl).elim | exact (kx _ (f54.mpr (Or.inl e189)) l54 hl).elim | exact (kx _ (f54.mpr (Or.inr e197)) l54 hl).elim | exact (kx _ (f58.mpr (Or.inl e224)) l58 hl).elim | exact (kx _ (f58.mpr (Or.inr e232)) l58 hl).elim
                        · skip
                          refine r_il3 (q := 193) d_MO_plain_192 rfl ?_
                          refine r_bp (v := 59) (q := 195) d_MO_plain_193 rfl rfl ?_
                          refine r_bp (v := 62) (q := 197) d_MO_plain_195 rfl rfl ?_
                          refine r_si3 mo_MO_in d_MO_plain_197 rfl rfl (q := 200) rfl ?_
                          refine sq_MO_in (fun e197 => ?_) (fun e197 => ?_)
                          · skip
                            refine r_zeq (tgt := 221) (q := 203) d_MO_plain_200 rfl rfl (fun e200 => by exfalso; revert e200; decide) (fun e200 => ?_)
                            first | exact k19 _ e16 | exact k57 _ (Or.inl (f17.mpr (Or.inl e32))) | exact k57 _ (Or.inl (f17.mpr (Or.inr (Or.inl e41)))) | exact k57 _ (Or.inl (f17.mpr (Or.inr (Or.inr e47)))) | exact k57 _ (Or.inr e54) | exact (kx _ (f21.mpr (Or.inl e69)) l21 hl).elim | exact (kx _ (f21.mpr (Or.inr e77)) l21 hl).elim | exact (kx _ (f132.mpr e87) l132 hl).elim | exact (kx _ (f25.mpr (Or.inl e136)) l25 hl).elim | exact (kx _ (f25.mpr (Or.inr e144)) l25 hl).elim | exact (kx _ (f54.mpr (Or.inl e189)) l54 hl).elim | exact (kx _ (f54.mpr (Or.inr e197)) l54 hl).elim | exact (kx _ (f58.mpr (Or.inl e224)) l58 hl).elim | exact (kx _ (f58.mpr (Or.inr e232)) l58 hl).elim
                          · skip
                            refine r_zeq (tgt := 221) (q := 203) d_MO_plain_200 rfl rfl (fun e200 => ?_) (fun e200 => by exfalso; revert e200; decide)
                            refine r_il3 (q := 222) d_MO_plain_221 rfl ?_
                            refine r_bp (v := 58) (q := 224) d_MO_plain_222 rfl rfl ?_
                            refine r_ceq (tgt := 238) (q := 227) d_MO_plain_224 rfl rfl (fun e224 => ?_) (fun e224 => ?_)
                            · skip
                              first | exact k19 _ e16 | exact k57 _ (Or.inl (f17.mpr (Or.inl e32))) | exact k57 _ (Or.inl (f17.mpr (Or.inr (Or.inl e41)))) | exact k57 _ (Or.inl (f17.mpr (Or.inr (Or.inr e47)))) | exact k57 _ (Or.inr e54) | exact (kx _ (f21.mpr (Or.inl e69)) l21 hl).elim | exact (kx _ (f21.mpr (Or.inr e77)) l21 hl).elim | exact (kx _ (f132.mpr e87) l132 hl).elim | exact (kx _ (f25.mpr (Or.inl e136)) l25 hl).elim | exact (kx _ (f25.mpr (Or.inr e144)) l25 hl).elim | exact (kx _ (f54.mpr (Or.inl e189)) l54 hl).elim | exact (kx _ (f54.mpr (Or.inr e197)) l54 hl).elim | exact (kx _ (f58.mpr (Or.inl e224)) l58 hl).elim | exact (kx _ (f58.mpr (Or.inr e232)) l58 hl).elim
                            · skip
                              refine r_il3 (q := 228) d_MO_plain_227 rfl ?_
                              refine r_bp (v := 75) (q := 230) d_MO_plain_228 rfl rfl ?_
                              refine r_bp (v := 78) (q := 232) d_MO_plain_230 rfl rfl ?_
                              refine r_si3 mo_MO_in d_MO_plain_232 rfl rfl (q := 235) rfl ?_
                              refine sq_MO_in (fun e232 => ?_) (fun e232 => ?_)
                              · skip
                                refine r_zeq (tgt := 256) (q := 238) d_MO_plain_235 rfl rfl (fun e235 => by exfalso; revert e235; decide) (fun e235 => ?_)
                                first | exact k19 _ e16 | exact k57 _ (Or.inl (f17.mpr (Or.inl e32))) | exact k57 _ (Or.inl (f17.mpr (Or.inr (Or.inl e41)))) | exact k57 _ (Or.inl (f17.mpr (Or.inr (Or.inr e47)))) | exact k57 _ (Or.inr e54) | exact (kx _ (f21.mpr (Or.inl e69)) l21 hl).elim | exact (kx _ (f21.mpr (Or.inr e77)) l21 hl).elim | exact (kx _ (f132.mpr e87) l132 hl).elim | exact (kx _ (f25.mpr (Or.inl e136)) l25 hl).elim | exact (kx _ (f25.mpr (Or.inr e144)) l25 hl).elim | exact (kx _ (f54.mpr (Or.inl e189)) l54 hl).elim | exact (kx _ (f54.mpr (Or.inr e197)) l54 hl).elim | exact (kx _ (f58.mpr (Or.inl e224)) l58 hl).elim | exact (kx _ (f58.mpr (Or.inr e232)) l58 hl).elim
                              · skip
                                refine r_zeq (tgt := 256) (q := 238) d_MO_plain_235 rfl rfl (fun e235 => ?_) (fun e235 => by exfalso; revert e235; decide)
                                refine r_ic (v := 0) (q := 257) d_MO_plain_256 rfl rfl ?_
                                refine r_rz d_MO_plain_257 (by first | assumption | (refine pc_of hP ?_; (repeat (first | assumption | exact md_refl | refine md_up ?_ rfl | refine md_fill ?_ rfl | (unfold ik; refine md_up ?_ rfl))); done) | (refine pm_of hP ?_; (repeat (first | assumption | exact md_refl | refine md_up ?_ rfl | refine md_fill ?_ rfl | (unfold ik; refine md_up ?_ rfl))); done) | omega | decide | ((try simp +decide only [b01, b10, b11, am_up, ik, and_true, and_false, true_and, false_and, if_true, if_false, nn_eq] at *) <;> (try simp only [sw_or, sw_all, or_false, and_true, i32_lt, i32_le, i32_eq, i32_addw, i32_subw, i32_mulw, Int32.reduceToInt] at *) <;> omega) | (apply_assumption; done)) ?_
                                exact k256 e16 e32 e41 e47 e54 e69 e77 e87 e136 e144 e189 e197 e224 e232
                  · skip
                    first | exact k19 _ e16 | exact k57 _ (Or.inl (f17.mpr (Or.inl e32))) | exact k57 _ (Or.inl (f17.mpr (Or.inr (Or.inl e41)))) | exact k57 _ (Or.inl (f17.mpr (Or.inr (Or.inr e47)))) | exact k57 _ (Or.inr e54) | exact (kx _ (f21.mpr (Or.inl e69)) l21 hl).elim | exact (kx _ (f21.mpr (Or.inr e77)) l21 hl).elim | exact (kx _ (f132.mpr e87) l132 hl).elim | exact (kx _ (f25.mpr (Or.inl e136)) l25 hl).elim | exact (kx _ (f25.mpr (Or.inr e144)) l25 hl).elim | exact (kx _ (f54.mpr (Or.inl e189)) l54 hl).elim | exact (kx _ (f54.mpr (Or.inr e197)) l54 hl).elim | exact (kx _ (f58.mpr (Or.inl e224)) l58 hl).elim | exact (kx _ (f58.mpr (Or.inr e232)) l58 hl).elim
            · skip
              first | exact k19 _ e16 | exact k57 _ (Or.inl (f17.mpr (Or.inl e32))) | exact k57 _ (Or.inl (f17.mpr (Or.inr (Or.inl e41)))) | exact k57 _ (Or.inl (f17.mpr (Or.inr (Or.inr e47)))) | exact k57 _ (Or.inr e54) | exact (kx _ (f21.mpr (Or.inl e69)) l21 hl).elim | exact (kx _ (f21.mpr (Or.inr e77)) l21 hl).elim | exact (kx _ (f132.mpr e87) l132 hl).elim | exact (kx _ (f25.mpr (Or.inl e136)) l25 hl).elim | exact (kx _ (f25.mpr (Or.inr e144)) l25 hl).elim | exact (kx _ (f54.mpr (Or.inl e189)) l54 hl).elim | exact (kx _ (f54.mpr (Or.inr e197)) l54 hl).elim | exact (kx _ (f58.mpr (Or.inl e224)) l58 hl).elim | exact (kx _ (f58.mpr (Or.inr e232)) l58 hl).elim
    · skip
      first | exact k19 _ e16 | exact k57 _ (Or.inl (f17.mpr (Or.inl e32))) | exact k57 _ (Or.inl (f17.mpr (Or.inr (Or.inl e41)))) | exact k57 _ (Or.inl (f17.mpr (Or.inr (Or.inr e47)))) | exact k57 _ (Or.inr e54) | exact (kx _ (f21.mpr (Or.inl e69)) l21 hl).elim | exact (kx _ (f21.mpr (Or.inr e77)) l21 hl).elim | exact (kx _ (f132.mpr e87) l132 hl).elim | exact (kx _ (f25.mpr (Or.inl e136)) l25 hl).elim | exact (kx _ (f25.mpr (Or.inr e144)) l25 hl).elim | exact (kx _ (f54.mpr (Or.inl e189)) l54 hl).elim | exact (kx _ (f54.mpr (Or.inr e197)) l54 hl).elim | exact (kx _ (f58.mpr (Or.inl e224)) l58 hl).elim | exact (kx _ (f58.mpr (Or.inr e232)) l58 hl).elim
  clear k19 k57 k90 k150 k203 k238 k256 kx kv
  have hOb : op_loc (pO P x.toNatClampNeg) ↔ op_loc (dO b) := by rw [hO]
  refine r_al0 (q := 1) d_MO_plain_0 rfl ?_
  refine gt_MO_code (q := 4) d_MO_plain_1 rfl rfl ?_
  refine r_il2 (q := 5) d_MO_plain_4 rfl ?_
  refine ld_142 (q := 6) d_MO_plain_5 ?_ rfl ?_
  · exact vx
  refine r_is3 (q := 7) d_MO_plain_6 rfl ?_
  refine r_al0 (q := 8) d_MO_plain_7 rfl ?_
  refine r_il2 (q := 9) d_MO_plain_8 rfl ?_
  refine r_vi1 mo_MO_localOf d_MO_plain_9 rfl rfl rfl (q := 12) rfl ?_
  refine sp_MO_localOf (P := P) (by first | assumption | (refine pc_of hP ?_; (repeat (first | assumption | exact md_refl | refine md_up ?_ rfl | refine md_fill ?_ rfl | (unfold ik; refine md_up ?_ rfl))); done) | (refine pm_of hP ?_; (repeat (first | assumption | exact md_refl | refine md_up ?_ rfl | refine md_fill ?_ rfl | (unfold ik; refine md_up ?_ rfl))); done) | omega | decide | ((try simp +decide only [b01, b10, b11, am_up, ik, and_true, and_false, true_and, false_and, if_true, if_false, nn_eq] at *) <;> (try simp only [sw_or, sw_all, or_false, and_true, i32_lt, i32_le, i32_eq, i32_addw, i32_subw, i32_mulw, Int32.reduceToInt] at *) <;> omega) | (apply_assumption; done)) (by first | assumption | (refine pc_of hP ?_; (repeat (first | assumption | exact md_refl | refine md_up ?_ rfl | refine md_fill ?_ rfl | (unfold ik; refine md_up ?_ rfl))); done) | (refine pm_of hP ?_; (repeat (first | assumption | exact md_refl | refine md_up ?_ rfl | refine md_fill ?_ rfl | (unfold ik; refine md_up ?_ rfl))); done) | omega | decide | ((try simp +decide only [b01, b10, b11, am_up, ik, and_true, and_false, true_and, false_and, if_true, if_false, nn_eq] at *) <;> (try simp only [sw_or, sw_all, or_false, and_true, i32_lt, i32_le, i32_eq, i32_addw, i32_subw, i32_mulw, Int32.reduceToInt] at *) <;> omega) | (apply_assumption; done)) (by first | assumption | (refine pc_of hP ?_; (repeat (first | assumption | exact md_refl | refine md_up ?_ rfl | refine md_fill ?_ rfl | (unfold ik; refine md_up ?_ rfl))); done) | (refine pm_of hP ?_; (repeat (first | assumption | exact md_refl | refine md_up ?_ rfl | refine md_fill ?_ rfl | (unfold ik; refine md_up ?_ rfl))); done) | omega | decide | ((try simp +decide only [b01, b10, b11, am_up, ik, and_true, and_false, true_and, false_and, if_true, if_false, nn_eq] at *) <;> (try simp only [sw_or, sw_all, or_false, and_true, i32_lt, i32_le, i32_eq, i32_addw, i32_subw, i32_mulw, Int32.reduceToInt] at *) <;> omega) | (apply_assumption; done)) (by first | assumption | (refine pc_of hP ?_; (repeat (first | assumption | exact md_refl | refine md_up ?_ rfl | refine md_fill ?_ rfl | (unfold ik; refine md_up ?_ rfl))); done) | (refine pm_of hP ?_; (repeat (first | assumption | exact md_refl | refine md_up ?_ rfl | refine md_fill ?_ rfl | (unfold ik; refine md_up ?_ rfl))); done) | omega | decide | ((try simp +decide only [b01, b10, b11, am_up, ik, and_true, and_false, true_and, false_and, if_true, if_false, nn_eq] at *) <;> (try simp only [sw_or, sw_all, or_false, and_true, i32_lt, i32_le, i32_eq, i32_addw, i32_subw, i32_mulw, Int32.reduceToInt] at *) <;> omega) | (apply_assumption; done)) (fun e9 => ?_) (fun e9 => ?_)
  · skip
    refine r_is4 (q := 14) d_MO_plain_12 rfl ?_
    first | (rw [hst, hnn]; exact k14a (hOb.mp e9)) | (rw [hst]; exact k14b (fun q => e9 (hOb.mpr q)))
  · skip
    refine r_is4 (q := 14) d_MO_plain_12 rfl ?_
    first | (rw [hst, hnn]; exact k14a (hOb.mp e9)) | (rw [hst]; exact k14b (fun q => e9 (hOb.mpr q)))

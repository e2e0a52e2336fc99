/-! written by wip/whole/gen/walk.py out of 89.mnow.txt -/
abbrev am_ts : Type := Option (Int32 × Int32 × Int32)
def offA (t : Int32) (o : am_ts) : am_ts := match o with
  | none => none
  | some (L, R, H) => if H = 0 then none else if t = 0 ∨ ty_at R (H - 1) = t then some (L, ty_with R (H - 1) 0, H - 1) else none
def onA (hei t : Int32) (o : am_ts) : am_ts := match o with
  | none => none
  | some (L, R, H) => if H = hei then none else some (L, ty_with R H t, H + 1)
def chA (n t : Int32) (o : am_ts) : am_ts := match o with
  | none => none
  | some (L, R, H) => if ty_at L n = t then some (L, R, H) else none
def wrA (n t : Int32) (o : am_ts) : am_ts := match o with
  | none => none
  | some (L, R, H) => some (ty_with L n t, R, H)
def ifA (c : Prop) [Decidable c] (o : am_ts) : am_ts := if c then o else none
/-- banks that what is held of one state may write -/
def mN (b : Nat) : Bool := b == 2158 || b == 598 || b == 599
theorem md_N {s t : am_S} (h : am_md mN s t) : am_md mV s t := by
  intro b hb
  refine h b ?_
  unfold mV at hb
  unfold mN
  simp only [Bool.or_eq_false_iff, Bool.and_eq_false_iff, decide_eq_false_iff_not, beq_eq_false_iff_ne] at hb ⊢
  omega
/-- the state in hand: gone wrong, or L, R, H -/
def NS (st : am_S) (hei : Int32) (o : am_ts) : Prop := (0 ≤ (st 598 0).toInt ∧ (st 598 0).toInt ≤ hei.toInt ∧ hei.toInt ≤ 8) ∧ match o with
  | none => st 599 0 = 0
  | some (L, R, H) => st 599 0 = 1 ∧ wfL L ∧ (∀ k, k < 8 → st 2158 k = ty_at L (nI k)) ∧ ∃ h : Nat, h ≤ 8 ∧ H = nI h ∧ st 598 0 = nI h ∧ wfR R h ∧ ∀ k, k < h → st 2158 (8 + k) = ty_at R (nI k)
theorem NS_good {st : am_S} {hei : Int32} {o : am_ts} (h : NS st hei o) : (st 599 0 = 0 ∧ o = none) ∨ (st 599 0 = 1 ∧ ∃ s, o = some s) := by
  unfold NS at h
  rcases o with _ | ⟨L, R, H⟩
  · exact Or.inl ⟨h.2, rfl⟩
  · exact Or.inr ⟨h.2.1, _, rfl⟩
def ofQ (t hei : Int32) (o : am_ts) (st : am_S) (r : Int32) (st' : am_S) : Prop := am_md mN st st' ∧ NS st' hei (offA t o) ∧ (∀ L R H, o = some (L, R, H) → ¬ offA t o = none → r = ty_at R (H - 1) ∧ (r = 1 ∨ r = 2))
theorem sp_MO_off {t hei : Int32} {o : am_ts} {st : am_S} {f : Int32 → am_S → Prop} (c1 : NS st hei o) (h1 : ∀ p : {p : Int32 × am_S // ofQ t hei o st p.1 p.2}, f p.1.1 p.1.2) : wp_MO_off [.inr (.inl 128), .inl t] st (am_ki f) := by
  refine ki_of (g := ofQ t hei o st) mo_MO_off ?_ h1
  refine ⟨⟨rfl, Nat.le_of_ble_eq_true rfl⟩, ?_⟩
  clear h1
  have hg : st 599 0 = 0 ∨ st 599 0 = 1 := by
    rcases NS_good c1 with h | h
    · exact Or.inl h.1
    · exact Or.inr h.1
  have hb := c1.1
  have k0 : st 598 0 = 0 → ofQ t hei o st 0 (am_up st 599 0 0) := by
    intro e
    refine ⟨md_up md_refl rfl, ?_⟩
    have e2 : offA t o = none := by
      rcases o with _ | ⟨L, R, H⟩
      · rfl
      · obtain ⟨-, -, -, -, h, -, h1, h2, -⟩ := c1
        unfold offA
        simp only
        rw [if_pos]
        rw [h1, ← h2]
        exact e
    rw [e2]
    refine ⟨⟨?_, am_up_eq⟩, fun _ _ _ _ q => absurd rfl q⟩
    rw [am_up_bank (by decide)]
    exact hb
  have k1 : ¬ st 598 0 = 0 → ∀ g, (st 599 0 = 0 → g = 0) → (st 599 0 = 1 → (g = 1 ∧ (t = 0 ∨ st 2158 (8 + (st 598 0 - 1)).toNatClampNeg = t)) ∨ (g = 0 ∧ ¬ (t = 0 ∨ st 2158 (8 + (st 598 0 - 1)).toNatClampNeg = t))) → ofQ t hei o st (st 2158 (8 + (st 598 0 - 1)).toNatClampNeg) (am_up (am_up st 598 0 (st 598 0 - 1)) 599 0 g) := by
    intro e g g0 g1
    refine ⟨md_up (md_up md_refl rfl) rfl, ?_⟩
    have hb2 : 0 ≤ (am_up (am_up st 598 0 (st 598 0 - 1)) 599 0 g 598 0).toInt ∧ (am_up (am_up st 598 0 (st 598 0 - 1)) 599 0 g 598 0).toInt ≤ hei.toInt ∧ hei.toInt ≤ 8 := by
      rw [am_up_bank (by decide), am_up_eq, i32_subw]
      rw [i32_eq] at e
      simp only [Int32.reduceToInt] at e ⊢
      omega
    rcases o with _ | ⟨L, R, H⟩
    · exact ⟨⟨hb2, by rw [am_up_eq]; exact g0 c1.2⟩, fun _ _ _ q => by cases q⟩
    · obtain ⟨-, a1, a2, a3, h, hh, h1, h2, h3, h4⟩ := c1
      rcases h with _ | h
      · rw [h2] at e
        exact absurd rfl e
      · have e8 : (8 + (st 598 0 - 1)).toNatClampNeg = 8 + h := by
          rw [h2, nI_p, nn_eq, i32_addw, nI_t (by omega)]
          simp only [Int32.reduceToInt]
          omega
        have e9 : H - 1 = nI h := by rw [h1, nI_p]
        have e10 : ¬ H = 0 := by rw [h1, nI_z (by omega)]; omega
        rw [e8, h4 h (by omega)] at g1 ⊢
        have v12 := h3.2 h (by omega)
        unfold offA
        simp only
        rw [if_neg e10, e9]
        rcases g1 a1 with ⟨g2, g3⟩ | ⟨g2, g3⟩
        · rw [if_pos g3]
          refine ⟨⟨hb2, by rw [am_up_eq]; exact g2, a2, ?_, h, by omega, rfl, ?_, wf_pop (by omega) h3, ?_⟩, ?_⟩
          · intro k hk
            rw [am_up_bank (by decide), am_up_bank (by decide)]
            exact a3 k hk
          · rw [am_up_bank (by decide), am_up_eq, h2, nI_p]
          · intro k hk
            rw [am_up_bank (by decide), am_up_bank (by decide), at_w0 (by omega) (by omega), if_neg (by omega)]
            exact h4 k (by omega)
          · intro L' R' H' q _
            rw [Option.some.injEq, Prod.mk.injEq, Prod.mk.injEq] at q
            obtain ⟨-, q1, q2⟩ := q
            rw [← q1, ← q2, e9]
            exact ⟨rfl, v12⟩
        · rw [if_neg g3]
          exact ⟨⟨hb2, by rw [am_up_eq]; exact g2⟩, fun _ _ _ _ q => absurd rfl q⟩
  have vx : ¬ st 598 0 = 0 → vp_in (8 + (st 598 0 - 1)) 16 := by
    intro e
    rw [i32_eq] at e
    refine vp_of ?_ ?_ <;> (simp only [i32_addw, i32_subw, Int32.reduceToInt] at *; omega)
  clear c1
  refine r_al0 (q := 1) d_MO_off_0 rfl ?_
  refine gt_MO_top (q := 4) d_MO_off_1 rfl rfl ?_
  refine r_zne (tgt := 14) (q := 7) d_MO_off_4 rfl rfl (fun e4 => ?_) (fun e4 => ?_)
  · skip
    refine r_al0 (q := 15) d_MO_off_14 rfl ?_
    refine r_dupr (q := 16) d_MO_off_15 rfl ?_
    refine gt_MO_top (q := 19) d_MO_off_16 rfl rfl ?_
    refine r_ic (v := 1) (q := 20) d_MO_off_19 rfl rfl ?_
    refine r_isub (q := 21) d_MO_off_20 rfl ?_
    refine pt_MO_top (q := 24) d_MO_off_21 rfl rfl ?_
    refine r_al0 (q := 25) d_MO_off_24 rfl ?_
    refine gt_MO_now (q := 28) d_MO_off_25 rfl rfl ?_
    refine r_bp (v := 8) (q := 30) d_MO_off_28 rfl rfl ?_
    refine r_al0 (q := 31) d_MO_off_30 rfl ?_
    refine gt_MO_top (q := 34) d_MO_off_31 rfl rfl ?_
    refine r_iadd (q := 35) d_MO_off_34 rfl ?_
    refine ld_158 (q := 36) d_MO_off_35 ?_ rfl ?_
    · exact vx e4
    refine r_is2 (q := 37) d_MO_off_36 rfl ?_
    refine r_al0 (q := 38) d_MO_off_37 rfl ?_
    refine r_al0 (q := 39) d_MO_off_38 rfl ?_
    refine gt_MO_good (q := 42) d_MO_off_39 rfl rfl ?_
    refine r_zeq (tgt := 58) (q := 45) d_MO_off_42 rfl rfl (fun e42 => ?_) (fun e42 => ?_)
    · skip
      refine r_ic (v := 0) (q := 59) d_MO_off_58 rfl rfl ?_
      refine pt_MO_good (q := 62) d_MO_off_59 rfl (by first | assumption | (refine pc_of hP ?_; (repeat (first | assumption | exact md_refl | refine md_up ?_ rfl | refine md_fill ?_ rfl | (unfold ik; refine md_up ?_ rfl))); done) | (refine pm_of hP ?_; (repeat (first | assumption | exact md_refl | refine md_up ?_ rfl | refine md_fill ?_ rfl | (unfold ik; refine md_up ?_ rfl))); done) | omega | decide | ((try simp +decide only [b01, b10, b11, am_up, ik, and_true, and_false, true_and, false_and, if_true, if_false, nn_eq] at *) <;> (try simp only [sw_or, sw_all, or_false, and_true, i32_lt, i32_le, i32_eq, i32_addw, i32_subw, i32_mulw, Int32.reduceToInt] at *) <;> omega) | (apply_assumption; done)) rfl ?_
      refine r_il2 (q := 63) d_MO_off_62 rfl ?_
      refine r_ri d_MO_off_63 ?_
      first | exact k0 e4 | exact k1 e4 _ (fun _ => rfl) (fun q => absurd (e42.symm.trans q) (by decide)) | exact k1 e4 _ (fun q => absurd q e42) (fun _ => Or.inl ⟨rfl, Or.inl e46⟩) | exact k1 e4 _ (fun q => absurd q e42) (fun _ => Or.inl ⟨rfl, Or.inr e51⟩) | exact k1 e4 _ (fun q => absurd q e42) (fun _ => Or.inr ⟨rfl, fun q => q.elim e46 e51⟩)
    · skip
      refine r_il1 (q := 46) d_MO_off_45 rfl ?_
      refine r_zeq (tgt := 54) (q := 49) d_MO_off_46 rfl rfl (fun e46 => ?_) (fun e46 => ?_)
      · skip
        refine r_ic (v := 1) (q := 55) d_MO_off_54 rfl rfl ?_
        refine am_go (tgt := 59) d_MO_off_55 rfl ?_
        refine pt_MO_good (q := 62) d_MO_off_59 rfl (by first | assumption | (refine pc_of hP ?_; (repeat (first | assumption | exact md_refl | refine md_up ?_ rfl | refine md_fill ?_ rfl | (unfold ik; refine md_up ?_ rfl))); done) | (refine pm_of hP ?_; (repeat (first | assumption | exact md_refl | refine md_up ?_ rfl | refine md_fill ?_ rfl | (unfold ik; refine md_up ?_ rfl))); done) | omega | decide | ((try simp +decide only [b01, b10, b11, am_up, ik, and_true, and_false, true_and, false_and, if_true, if_false, nn_eq] at *) <;> (try simp only [sw_or, sw_all, or_false, and_true, i32_lt, i32_le, i32_eq, i32_addw, i32_subw, i32_mulw, Int32.reduceToInt] at *) <;> omega) | (apply_assumption; done)) rfl ?_
        refine r_il2 (q := 63) d_MO_off_62 rfl ?_
        refine r_ri d_MO_off_63 ?_
        first | exact k0 e4 | exact k1 e4 _ (fun _ => rfl) (fun q => absurd (e42.symm.trans q) (by decide)) | exact k1 e4 _ (fun q => absurd q e42) (fun _ => Or.inl ⟨rfl, Or.inl e46⟩) | exact k1 e4 _ (fun q => absurd q e42) (fun _ => Or.inl ⟨rfl, Or.inr e51⟩) | exact k1 e4 _ (fun q => absurd q e42) (fun _ => Or.inr ⟨rfl, fun q => q.elim e46 e51⟩)
      · skip
        refine r_il2 (q := 50) d_MO_off_49 rfl ?_
        refine r_il1 (q := 51) d_MO_off_50 rfl ?_
        refine r_cne (tgt := 58) (q := 54) d_MO_off_51 rfl rfl (fun e51 => ?_) (fun e51 => ?_)
        · skip
          refine r_ic (v := 0) (q := 59) d_MO_off_58 rfl rfl ?_
          refine pt_MO_good (q := 62) d_MO_off_59 rfl (by first | assumption | (refine pc_of hP ?_; (repeat (first | assumption | exact md_refl | refine md_up ?_ rfl | refine md_fill ?_ rfl | (unfold ik; refine md_up ?_ rfl))); done) | (refine pm_of hP ?_; (repeat (first | assumption | exact md_refl | refine md_up ?_ rfl | refine md_fill ?_ rfl | (unfold ik; refine md_up ?_ rfl))); done) | omega | decide | ((try simp +decide only [b01, b10, b11, am_up, ik, and_true, and_false, true_and, false_and, if_true, if_false, nn_eq] at *) <;> (try simp only [sw_or, sw_all, or_false, and_true, i32_lt, i32_le, i32_eq, i32_addw, i32_subw, i32_mulw, Int32.reduceToInt] at *) <;> omega) | (apply_assumption; done)) rfl ?_
          refine r_il2 (q := 63) d_MO_off_62 rfl ?_
          refine r_ri d_MO_off_63 ?_
          first | exact k0 e4 | exact k1 e4 _ (fun _ => rfl) (fun q => absurd (e42.symm.trans q) (by decide)) | exact k1 e4 _ (fun q => absurd q e42) (fun _ => Or.inl ⟨rfl, Or.inl e46⟩) | exact k1 e4 _ (fun q => absurd q e42) (fun _ => Or.inl ⟨rfl, Or.inr e51⟩) | exact k1 e4 _ (fun q => absurd q e42) (fun _ => Or.inr ⟨rfl, fun q => q.elim e46 e51⟩)
        · skip
          refine r_ic (v := 1) (q := 55) d_MO_off_54 rfl rfl ?_
          refine am_go (tgt := 59) d_MO_off_55 rfl ?_
          refine pt_MO_good (q := 62) d_MO_off_59 rfl (by first | assumption | (refine pc_of hP ?_; (repeat (first | assumption | exact md_refl | refine md_up ?_ rfl | refine md_fill ?_ rfl | (unfold ik; refine md_up ?_ rfl))); done) | (refine pm_of hP ?_; (repeat (first | assumption | exact md_refl | refine md_up ?_ rfl | refine md_fill ?_ rfl | (unfold ik; refine md_up ?_ rfl))); done) | omega | decide | ((try simp +decide only [b01, b10, b11, am_up, ik, and_true, and_false, true_and, false_and, if_true, if_false, nn_eq] at *) <;> (try simp only [sw_or, sw_all, or_false, and_true, i32_lt, i32_le, i32_eq, i32_addw, i32_subw, i32_mulw, Int32.reduceToInt] at *) <;> omega) | (apply_assumption; done)) rfl ?_
          refine r_il2 (q := 63) d_MO_off_62 rfl ?_
          refine r_ri d_MO_off_63 ?_
          first | exact k0 e4 | exact k1 e4 _ (fun _ => rfl) (fun q => absurd (e42.symm.trans q) (by decide)) | exact k1 e4 _ (fun q => absurd q e42) (fun _ => Or.inl ⟨rfl, Or.inl e46⟩) | exact k1 e4 _ (fun q => absurd q e42) (fun _ => Or.inl ⟨rfl, Or.inr e51⟩) | exact k1 e4 _ (fun q => absurd q e42) (fun _ => Or.inr ⟨rfl, fun q => q.elim e46 e51⟩)
  · skip
    refine r_al0 (q := 8) d_MO_off_7 rfl ?_
    refine r_ic (v := 0) (q := 9) d_MO_off_8 rfl rfl ?_
    refine pt_MO_good (q := 12) d_MO_off_9 rfl (by first | assumption | (refine pc_of hP ?_; (repeat (first | assumption | exact md_refl | refine md_up ?_ rfl | refine md_fill ?_ rfl | (unfold ik; refine md_up ?_ rfl))); done) | (refine pm_of hP ?_; (repeat (first | assumption | exact md_refl | refine md_up ?_ rfl | refine md_fill ?_ rfl | (unfold ik; refine md_up ?_ rfl))); done) | omega | decide | ((try simp +decide only [b01, b10, b11, am_up, ik, and_true, and_false, true_and, false_and, if_true, if_false, nn_eq] at *) <;> (try simp only [sw_or, sw_all, or_false, and_true, i32_lt, i32_le, i32_eq, i32_addw, i32_subw, i32_mulw, Int32.reduceToInt] at *) <;> omega) | (apply_assumption; done)) rfl ?_
    refine r_ic (v := 0) (q := 13) d_MO_off_12 rfl rfl ?_
    refine r_ri d_MO_off_13 ?_
    first | exact k0 e4 | exact k1 e4 _ (fun _ => rfl) (fun q => absurd (e42.symm.trans q) (by decide)) | exact k1 e4 _ (fun q => absurd q e42) (fun _ => Or.inl ⟨rfl, Or.inl e46⟩) | exact k1 e4 _ (fun q => absurd q e42) (fun _ => Or.inl ⟨rfl, Or.inr e51⟩) | exact k1 e4 _ (fun q => absurd q e42) (fun _ => Or.inr ⟨rfl, fun q => q.elim e46 e51⟩)
def onQ (t hei : Int32) (o : am_ts) (st st' : am_S) : Prop := am_md mN st st' ∧ NS st' hei (onA hei t o)
theorem sp_MO_on {t hei y : Int32} {o : am_ts} {st : am_S} {f : am_S → Prop} (c1 : NS st hei o) (c2 : 0 ≤ y.toInt ∧ y.toInt < 8) (c3 : st 2147 y.toNatClampNeg = hei) (c4 : ¬ o = none → t = 1 ∨ t = 2) (h1 : ∀ p : {p : am_S // onQ t hei o st p}, f p.1) : wp_MO_on [.inr (.inl 128), .inl t, .inl y] st (am_kv f) := by
  refine kv_of (g := onQ t hei o st) mo_MO_on ?_ h1
  refine ⟨⟨rfl, Nat.le_of_ble_eq_true rfl⟩, ?_⟩
  clear h1
  have hb := c1.1
  have vy : vp_in y 8 := vp_of c2.1 c2.2
  have k0 : st 598 0 = st 2147 y.toNatClampNeg → onQ t hei o st (am_up st 599 0 0) := by
    intro e
    rw [c3] at e
    refine ⟨md_up md_refl rfl, ?_⟩
    have e2 : onA hei t o = none := by
      rcases o with _ | ⟨L, R, H⟩
      · rfl
      · obtain ⟨-, -, -, -, h, -, h1, h2, -⟩ := c1
        unfold onA
        simp only
        rw [if_pos]
        rw [h1, ← h2]
        exact e
    rw [e2]
    refine ⟨?_, am_up_eq⟩
    rw [am_up_bank (by decide)]
    exact hb
  have k1 : ¬ st 598 0 = st 2147 y.toNatClampNeg → vp_in (8 + st 598 0) 16 ∧ onQ t hei o st (am_up (am_up st 2158 (8 + st 598 0).toNatClampNeg t) 598 0 (st 598 0 + 1)) := by
    intro e
    rw [c3] at e
    have e0 := e
    rw [i32_eq] at e
    refine ⟨?_, md_up (md_up md_refl rfl) rfl, ?_⟩
    · refine vp_of ?_ ?_ <;> (simp only [i32_addw, Int32.reduceToInt] at *; omega)
    have hb2 : 0 ≤ (am_up (am_up st 2158 (8 + st 598 0).toNatClampNeg t) 598 0 (st 598 0 + 1) 598 0).toInt ∧ (am_up (am_up st 2158 (8 + st 598 0).toNatClampNeg t) 598 0 (st 598 0 + 1) 598 0).toInt ≤ hei.toInt ∧ hei.toInt ≤ 8 := by
      rw [am_up_eq, i32_addw]
      simp only [Int32.reduceToInt]
      omega
    rcases o with _ | ⟨L, R, H⟩
    · refine ⟨hb2, ?_⟩
      simp only [onA]
      rw [am_up_bank (by decide), am_up_bank (by decide)]
      exact c1.2
    · obtain ⟨-, a1, a2, a3, h, hh, h1, h2, h3, h4⟩ := c1
      have ht := c4 (by simp)
      have hh : h < 8 := by
        rw [h2, nI_t (by omega)] at hb e
        omega
      have e8 : (8 + st 598 0).toNatClampNeg = 8 + h := by
        rw [h2, nn_eq, i32_addw, nI_t (by omega)]
        simp only [Int32.reduceToInt]
        omega
      rw [e8] at hb2 ⊢
      unfold onA
      simp only
      rw [if_neg (by rw [h1, ← h2]; exact e0)]
      refine ⟨hb2, ?_, a2, ?_, h + 1, by omega, by rw [h1, nI_s], by rw [am_up_eq, h2, nI_s], by rw [h1]; exact wf_push ht (by omega) h3, ?_⟩
      · rw [am_up_bank (by decide), am_up_bank (by decide)]
        exact a1
      · intro k hk
        rw [am_up_bank (by decide), am_up_ne (by omega)]
        exact a3 k hk
      · intro k hk
        rw [am_up_bank (by decide), h1, at_w12 ht (by omega) (by omega)]
        by_cases e2 : k = h
        · rw [e2, am_up_eq, if_pos rfl]
        · rw [am_up_ne (by omega), if_neg e2]
          exact h4 k (by omega)
  clear c1
  refine r_al0 (q := 1) d_MO_on_0 rfl ?_
  refine gt_MO_top (q := 4) d_MO_on_1 rfl rfl ?_
  refine r_al0 (q := 5) d_MO_on_4 rfl ?_
  refine gt_MO_height (q := 8) d_MO_on_5 rfl rfl ?_
  refine r_il2 (q := 9) d_MO_on_8 rfl ?_
  refine ld_147 (q := 10) d_MO_on_9 ?_ rfl ?_
  · first | exact vy | exact (k1 e10).1
  refine r_cne (tgt := 21) (q := 13) d_MO_on_10 rfl rfl (fun e10 => ?_) (fun e10 => ?_)
  · skip
    refine r_al0 (q := 22) d_MO_on_21 rfl ?_
    refine gt_MO_now (q := 25) d_MO_on_22 rfl rfl ?_
    refine r_bp (v := 8) (q := 27) d_MO_on_25 rfl rfl ?_
    refine r_al0 (q := 28) d_MO_on_27 rfl ?_
    refine gt_MO_top (q := 31) d_MO_on_28 rfl rfl ?_
    refine r_iadd (q := 32) d_MO_on_31 rfl ?_
    refine r_il1 (q := 33) d_MO_on_32 rfl ?_
    refine sv_158 (q := 34) d_MO_on_33 ?_ rfl ?_
    · first | exact vy | exact (k1 e10).1
    refine r_al0 (q := 35) d_MO_on_34 rfl ?_
    refine r_dupr (q := 36) d_MO_on_35 rfl ?_
    refine gt_MO_top (q := 39) d_MO_on_36 rfl rfl ?_
    refine r_ic (v := 1) (q := 40) d_MO_on_39 rfl rfl ?_
    refine r_iadd (q := 41) d_MO_on_40 rfl ?_
    refine pt_MO_top (q := 44) d_MO_on_41 rfl rfl ?_
    refine r_rv d_MO_on_44 ?_
    first | exact k0 e10 | exact (k1 e10).2
  · skip
    refine r_al0 (q := 14) d_MO_on_13 rfl ?_
    refine r_ic (v := 0) (q := 15) d_MO_on_14 rfl rfl ?_
    refine pt_MO_good (q := 18) d_MO_on_15 rfl (by first | assumption | (refine pc_of hP ?_; (repeat (first | assumption | exact md_refl | refine md_up ?_ rfl | refine md_fill ?_ rfl | (unfold ik; refine md_up ?_ rfl))); done) | (refine pm_of hP ?_; (repeat (first | assumption | exact md_refl | refine md_up ?_ rfl | refine md_fill ?_ rfl | (unfold ik; refine md_up ?_ rfl))); done) | omega | decide | ((try simp +decide only [b01, b10, b11, am_up, ik, and_true, and_false, true_and, false_and, if_true, if_false, nn_eq] at *) <;> (try simp only [sw_or, sw_all, or_false, and_true, i32_lt, i32_le, i32_eq, i32_addw, i32_subw, i32_mulw, Int32.reduceToInt] at *) <;> omega) | (apply_assumption; done)) rfl ?_
    refine am_go (tgt := 44) d_MO_on_18 rfl ?_
    refine r_rv d_MO_on_44 ?_
    first | exact k0 e10 | exact (k1 e10).2

/-! written by wip/whole/gen/walk.py out of 87.visit.txt -/
theorem CI_bk {P : am_S} {m v p0 : Nat} {L0 R0 H0 : Int32} {s t : am_S} (h : CI P m v p0 L0 R0 H0 s) (h2 : t 2132 = s 2132) (h3 : t 2133 = s 2133) (h4 : t 2134 = s 2134) (h5 : t 2135 = s 2135) (h6 : t 2136 = s 2136) (h7 : t 455 = s 455) : CI P m v p0 L0 R0 H0 t ∧ cT t (nb P m) = cT s (nb P m) := by
  have e : ∀ B, cT t B = cT s B := by
    intro B
    funext j q
    unfold cT
    rw [h2, h3, h4]
  refine ⟨?_, e _⟩
  unfold CI WQ at *
  rw [e, h4, h5, h6, h7]
  exact h
def VS (P : am_S) (m v p : Nat) (L0 R0 H0 : Int32) (st s : am_S) : Prop := am_md cV st s ∧ oS (nb P m) (nl P m) st s ∧ CI P m v p L0 R0 H0 s ∧ le (nl P m) (cT st (nb P m)) (cT s (nb P m)) ∧ s 192 1 = pO P (nb P m + p) ∧ (uN (P 0 (nb P m + p)) → s 193 1 = pN P (nb P m + p)) ∧ s 195 1 = pZ P (nb P m + p)
theorem VS_W {P : am_S} {m v p : Nat} {L0 R0 H0 : Int32} {st s t : am_S} (h : VS P m v p L0 R0 H0 st s) (h1 : am_md cW s t) (h2 : oS (nb P m) (nl P m) s t) (h3 : CI P m v p L0 R0 H0 t) (h4 : le (nl P m) (cT s (nb P m)) (cT t (nb P m))) : VS P m v p L0 R0 H0 st t := by
  obtain ⟨a1, a2, a3, a4, a5, a6, a7⟩ := h
  refine ⟨md_trans a1 (md_W h1), oS_trans a2 h2, h3, le_trans' a4 h4, ?_, ?_, ?_⟩
  · rw [h1 192 rfl]
    exact a5
  · rw [h1 193 rfl]
    exact a6
  · rw [h1 195 rfl]
    exact a7
theorem VS_f {P : am_S} {m v p : Nat} {L0 R0 H0 L R H : Int32} {st s : am_S} (h : VS P m v p L0 R0 H0 st s) : VS P m v p L0 R0 H0 st (fl s L R H) ∧ cT (fl s L R H) (nb P m) = cT s (nb P m) := by
  obtain ⟨a1, a2, a3, a4, a5, a6, a7⟩ := h
  have e : ∀ b, ¬ b = 456 ∧ ¬ b = 457 ∧ ¬ b = 458 → fl s L R H b = s b := by
    intro b hb
    unfold fl
    rw [am_up_bank hb.1, fs_n hb.2]
  obtain ⟨c1, c2⟩ := CI_bk a3 (e 2132 (by decide)) (e 2133 (by decide)) (e 2134 (by decide)) (e 2135 (by decide)) (e 2136 (by decide)) (e 455 (by decide))
  refine ⟨⟨?_, ?_, c1, ?_, ?_, ?_, ?_⟩, c2⟩
  · unfold fl fs
    exact md_up (md_up (md_up a1 rfl) rfl) rfl
  · unfold fl fs
    exact oS_up (oS_up (oS_up a2 (Or.inr (by decide))) (Or.inr (by decide))) (Or.inr (by decide))
  · rw [c2]
    exact a4
  · rw [e 192 (by decide)]
    exact a5
  · rw [e 193 (by decide)]
    exact a6
  · rw [e 195 (by decide)]
    exact a7
theorem un_irr {b : Int32} (h0 : 0 ≤ b.toInt) (h1 : b.toInt ≤ 255) (h : ¬ uN b) : ¬ dO b = 184 ∧ ty_rl (dO b) = 0 ∧ ty_wr (dO b) = 0 := by
  have key : ∀ b : Fin 256, ¬ uN (nI b.val) → ¬ dO (nI b.val) = 184 ∧ ty_rl (dO (nI b.val)) = 0 ∧ ty_wr (dO (nI b.val)) = 0 := by
    unfold uN dO dZ op_z ty_rl ty_wr
    decide +kernel
  exact by_dec (Q := fun b => ¬ uN b → ¬ dO b = 184 ∧ ty_rl (dO b) = 0 ∧ ty_wr (dO b) = 0) key h0 h1 h
theorem ss_n {P : am_S} {m : Nat} {op n n' R H : Int32} (h : ¬ op = 184) : ss P m op n R H = ss P m op n' R H := by
  unfold ss dues puts
  simp only [if_neg h]
theorem un_184 {P : am_S} {a : Nat} (hv : VP P) (h : pO P a = 184) : uN (P 0 a) := by
  refine Classical.byContradiction fun q => ?_
  have := (un_irr (hv.2.1 a).1 (hv.2.1 a).2 q).1
  exact this h
/-- the number as read serves like the program's -/
theorem rd_ss {P : am_S} {m a : Nat} {n R H : Int32} (hv : VP P) (h : uN (P 0 a) → n = pN P a) : ss P m (pO P a) n R H = ss P m (pO P a) (pN P a) R H := by
  by_cases u : uN (P 0 a)
  · rw [h u]
  · exact ss_n (un_irr (hv.2.1 a).1 (hv.2.1 a).2 u).1
theorem rd_lw {P : am_S} {a : Nat} {n L : Int32} (hv : VP P) (h : uN (P 0 a) → n = pN P a) : lw (pO P a) n L = lw (pO P a) (pN P a) L := by
  by_cases u : uN (P 0 a)
  · rw [h u]
  · have := (un_irr (hv.2.1 a).1 (hv.2.1 a).2 u).2.2
    unfold lw pO
    rw [if_pos this, if_pos this]
theorem rd_rl {P : am_S} {a : Nat} {n L : Int32} (hv : VP P) (h : uN (P 0 a) → n = pN P a) : (ty_rl (pO P a) = 0 ∨ ty_at L n = ty_rl (pO P a)) ↔ (ty_rl (pO P a) = 0 ∨ ty_at L (pN P a) = ty_rl (pO P a)) := by
  by_cases u : uN (P 0 a)
  · rw [h u]
  · have := (un_irr (hv.2.1 a).1 (hv.2.1 a).2 u).2.1
    exact ⟨fun _ => Or.inl this, fun _ => Or.inl this⟩
def viQ (P : am_S) (m v : Nat) (st : am_S) (r : Int32) (st' : am_S) : Prop := am_md cV st st' ∧ oS (nb P m) (nl P m) st st' ∧ ((r = 1 ∧ CI P m v (nl P m) 0 0 0 st' ∧ le (nl P m) (cT st (nb P m)) (cT st' (nb P m))) ∨ (r = 0 ∧ ∀ U, ¬ Typ P m U))
theorem ch_1 {P : am_S} {m v p0 p : Nat} {L0 R0 H0 L r : Int32} {st st' : am_S} (h : chQ P m v p0 L0 R0 H0 p L st r st') (hr : ¬ r = 0) : am_md cW st st' ∧ oS (nb P m) (nl P m) st st' ∧ CI P m v p0 L0 R0 H0 st' ∧ le (nl P m) (cT st (nb P m)) (cT st' (nb P m)) ∧ ∀ k, k < (P 7 m).toInt.toNat → cov P (4 * m + k) p → 1 ≤ (P 5 m).toInt ∧ Ar (nl P m) (cT st' (nb P m)) (P 10 (4 * m + k)).toInt L 1 1 := by
  rcases h.2.2 with q | q
  · exact ⟨h.1, h.2.1, q.2⟩
  · exact absurd q.1 hr
theorem ch_0 {P : am_S} {m v p0 p : Nat} {L0 R0 H0 L r : Int32} {st st' : am_S} (h : chQ P m v p0 L0 R0 H0 p L st r st') (hr : r = 0) : am_md cW st st' ∧ oS (nb P m) (nl P m) st st' ∧ ∀ U, ¬ Typ P m U := by
  rcases h.2.2 with q | q
  · exact absurd (q.1.symm.trans hr) (by decide)
  · exact ⟨h.1, h.2.1, q.2⟩
theorem cf_1 {P : am_S} {m v p0 p : Nat} {L0 R0 H0 L R H r : Int32} {st st' : am_S} (h : cfQ P m v p0 L0 R0 H0 p L R H st r st') (hr : ¬ r = 0) : am_md cW st st' ∧ oS (nb P m) (nl P m) st st' ∧ CI P m v p0 L0 R0 H0 st' ∧ le (nl P m) (cT st (nb P m)) (cT st' (nb P m)) ∧ (op_jump (pO P (nb P m + p)) → Ar (nl P m) (cT st' (nb P m)) ((p : Int) + (pN P (nb P m + p)).toInt) L R H) ∧ (¬ pO P (nb P m + p) = 167 ∧ ¬ pO P (nb P m + p) = 172 ∧ ¬ pO P (nb P m + p) = 177 → Ar (nl P m) (cT st' (nb P m)) ((p : Int) + (pZ P (nb P m + p)).toInt) L R H) := by
  rcases h.2.2 with q | q
  · exact ⟨h.1, h.2.1, q.2⟩
  · exact absurd q.1 hr
theorem cf_0 {P : am_S} {m v p0 p : Nat} {L0 R0 H0 L R H r : Int32} {st st' : am_S} (h : cfQ P m v p0 L0 R0 H0 p L R H st r st') (hr : r = 0) : am_md cW st st' ∧ oS (nb P m) (nl P m) st st' ∧ ∀ U, ¬ Typ P m U := by
  rcases h.2.2 with q | q
  · exact absurd (q.1.symm.trans hr) (by decide)
  · exact ⟨h.1, h.2.1, q.2⟩
theorem vi_end {P : am_S} {m v p : Nat} {L0 R0 H0 : Int32} {st s : am_S} (h : VS P m v p L0 R0 H0 st s) (hs : SO P m (cT s (nb P m)) p L0 R0 H0) : viQ P m v st 1 s := by
  obtain ⟨a1, a2, a3, a4, -⟩ := h
  obtain ⟨b1, b2, b3, b4, b5⟩ := a3
  refine ⟨a1, a2, Or.inl ⟨rfl, ⟨b1, b2, b3, b4, fun q hq hq2 => ?_⟩, a4⟩⟩
  rcases b5 q hq hq2 with c | ⟨c1, c2, c3, c4⟩ | c
  · exact Or.inl c
  · refine Or.inr (Or.inr ?_)
    rw [c2, c3, c4, c1]
    exact hs
  · exact Or.inr (Or.inr c)
theorem sp_FL_visit {P : am_S} {m v p : Nat} {y : Int32} {st : am_S} {f : Int32 → am_S → Prop} (c1 : PC st P) (c2 : VP P) (c3 : m < nM P) (c4 : SHP P m) (c5 : y.toInt = (p : Int)) (c6 : p < nl P m ∧ ¬ cT st (nb P m) 2 p = -1) (c7 : CI P m v p (st 2132 (nb P m + p)) (st 2133 (nb P m + p)) (st 2134 (nb P m + p)) st) (h1 : ∀ q : {q : Int32 × am_S // viQ P m v st q.1 q.2}, f q.1.1 q.1.2) : wp_FL_visit [.inr (.inl 126), .inr (.inl (m + 80)), .inl y] st (am_ki f) := by
  refine ki_of (g := viQ P m v st) mo_FL_visit ?_ h1
  refine ⟨⟨rfl, Nat.le_of_ble_eq_true rfl⟩, ?_⟩
  clear h1
  obtain ⟨v8, ⟨v1, v2, v3, v4, v5⟩, -⟩ := cf c1 c2 c3
  have hb : (nb P m : Int) = (st 67 m).toInt := by unfold nb; rw [← c1.1.2.1]; omega
  have hl : (nl P m : Int) = (st 68 m).toInt := by unfold nl; rw [← c1.1.2.2.1]; omega
  have ha : (st 67 m + y).toNatClampNeg = nb P m + p := by rw [nn_eq, i32_addw]; omega
  have ha2 : 0 ≤ (st 67 m + y).toInt ∧ (st 67 m + y).toInt < (st 322 0).toInt := by rw [i32_addw]; omega
  have va : vp_in (st 67 m + y) 200 := vp_of ha2.1 (by omega)
  obtain ⟨hbg, hWS⟩ := c7.1 p c6.1 c6.2
  have ho := c4.1 p c6.1 hbg
  generalize hL0 : st 2132 (nb P m + p) = L0 at *
  generalize hR0 : st 2133 (nb P m + p) = R0 at *
  generalize hH0 : st 2134 (nb P m + p) = H0 at *
  have hT0 : cT st (nb P m) 0 p = L0 := hL0
  have hT1 : cT st (nb P m) 1 p = R0 := hR0
  have hT2 : cT st (nb P m) 2 p = H0 := hH0
  rw [hT0, hT1, hT2] at hWS
  -- what every typing grants at p
  have hSO : ∀ U, Typ P m U → SO P m U p L0 R0 H0 := by
    intro U hU
    obtain ⟨u1, u2, u3⟩ := c7.2.1 U hU p c6.1 c6.2
    have := hU.2 p c6.1 (by rw [u1]; exact c6.2)
    rw [u1, u2, hT1, hT2] at this
    rw [hT0] at u3
    exact SO_lel c2 c3 ho this u3
  have kF : ∀ s s2, VS P m v p L0 R0 H0 st s → (am_md cW s s2 ∧ oS (nb P m) (nl P m) s s2 ∧ ∀ U, ¬ Typ P m U) → viQ P m v st 0 s2 := fun s s2 hs h => ⟨md_trans hs.1 (md_W h.1), oS_trans hs.2.1 h.2.1, Or.inr ⟨rfl, h.2.2⟩⟩
  -- the followers
  have k86 : ∀ s R' H' a3, VS P m v p L0 R0 H0 st s → (∀ k, k < (P 7 m).toInt.toNat → cov P (4 * m + k) p → 1 ≤ (P 5 m).toInt ∧ Ar (nl P m) (cT s (nb P m)) (P 10 (4 * m + k)).toInt L0 1 1) → (ty_rl (pO P (nb P m + p)) = 0 ∨ ty_at L0 (pN P (nb P m + p)) = ty_rl (pO P (nb P m + p))) → ss P m (pO P (nb P m + p)) (pN P (nb P m + p)) R0 H0 = some (R', H') → H'.toInt ≤ (P 5 m).toInt → (∀ k, k < (P 7 m).toInt.toNat → cov P (4 * m + k) p → 1 ≤ (P 5 m).toInt ∧ Ar (nl P m) (cT s (nb P m)) (P 10 (4 * m + k)).toInt (lw (pO P (nb P m + p)) (pN P (nb P m + p)) L0) 1 1) → s 456 0 = lw (pO P (nb P m + p)) (pN P (nb P m + p)) L0 → s 457 0 = R' → s 458 0 = H' → am_AW c_FL_visit g_FL_visit (fun o st' => am_ok (some .boolean) o ∧ am_ki (viQ P m v st) o st') 86 [some (.inr (.inl 126)), some (.inr (.inl (m + 80))), some (.inl y), a3] [] s := by
    intro s R' H' a3 hs s1 s2 s3 s4 s5 s6 s7 s8
    have hWS' := ap_WS c2 c3 ho hWS s3 s4
    rw [← s6, ← s7, ← s8] at hWS'
    have hA : ∀ U, Typ P m U → (op_jump (pO P (nb P m + p)) → Ar (nl P m) U ((p : Int) + (pN P (nb P m + p)).toInt) (s 456 0) (s 457 0) (s 458 0)) ∧ (¬ pO P (nb P m + p) = 167 ∧ ¬ pO P (nb P m + p) = 172 ∧ ¬ pO P (nb P m + p) = 177 → Ar (nl P m) U ((p : Int) + (pZ P (nb P m + p)).toInt) (s 456 0) (s 457 0) (s 458 0)) := by
      intro U hU
      obtain ⟨-, -, R2, H2, u1, -, -, u2, u3⟩ := hSO U hU
      rw [s3, Option.some.injEq, Prod.mk.injEq] at u1
      rw [s6, s7, s8, u1.1, u1.2]
      exact ⟨u2, u3⟩
    have hF : s 192 1 = pO P (nb P m + p) ∧ (op_jump (pO P (nb P m + p)) → s 193 1 = pN P (nb P m + p)) ∧ s 195 1 = pZ P (nb P m + p) := ⟨hs.2.2.2.2.1, fun q => hs.2.2.2.2.2.1 (uN_j (c2.2.1 _).1 (c2.2.1 _).2 q), hs.2.2.2.2.2.2⟩
    have hPs := pc_of c1 hs.1
    have kE : ∀ r s', cfQ P m v p L0 R0 H0 p (s 456 0) (s 457 0) (s 458 0) s r s' → ¬ r = 0 → viQ P m v st 1 s' := by
      intro r s' h hr
      obtain ⟨z1, z2, z3, z4, z5, z6⟩ := cf_1 h hr
      rw [s6, s7, s8] at z5 z6
      exact vi_end (VS_W hs z1 z2 z3 z4) ⟨fun k hk hc => ⟨(s1 k hk hc).1, Ar_le (s1 k hk hc).2 z4⟩, s2, R', H', s3, s4, fun k hk hc => Ar_le (s5 k hk hc).2 z4, z5, z6⟩
    refine r_al0 (q := 87) d_FL_visit_86 rfl ?_
    refine r_al1 (q := 88) d_FL_visit_87 rfl ?_
    refine r_il2 (q := 89) d_FL_visit_88 rfl ?_
    refine r_vi2 mo_FL_comeToFollowers d_FL_visit_89 rfl rfl rfl (q := 92) rfl ?_
    refine sp_FL_comeToFollowers (P := P) (v := v) (p0 := p) (L0 := L0) (R0 := R0) (H0 := H0) (p := p) (by first | exact hPs | exact ⟨c6.1, hbg⟩ | exact hs.2.2.1 | exact hWS' | exact hF | exact hA | assumption | (refine pc_of hP ?_; (repeat (first | assumption | exact md_refl | refine md_up ?_ rfl | refine md_fill ?_ rfl | (unfold ik; refine md_up ?_ rfl))); done) | (refine pm_of hP ?_; (repeat (first | assumption | exact md_refl | refine md_up ?_ rfl | refine md_fill ?_ rfl | (unfold ik; refine md_up ?_ rfl))); done) | omega | decide | ((try simp +decide only [b01, b10, b11, am_up, ik, and_true, and_false, true_and, false_and, if_true, if_false, nn_eq] at *) <;> (try simp only [sw_or, sw_all, or_false, and_true, i32_lt, i32_le, i32_eq, i32_addw, i32_subw, i32_mulw, Int32.reduceToInt] at *) <;> omega) | (apply_assumption; done)) (by first | exact hPs | exact ⟨c6.1, hbg⟩ | exact hs.2.2.1 | exact hWS' | exact hF | exact hA | assumption | (refine pc_of hP ?_; (repeat (first | assumption | exact md_refl | refine md_up ?_ rfl | refine md_fill ?_ rfl | (unfold ik; refine md_up ?_ rfl))); done) | (refine pm_of hP ?_; (repeat (first | assumption | exact md_refl | refine md_up ?_ rfl | refine md_fill ?_ rfl | (unfold ik; refine md_up ?_ rfl))); done) | omega | decide | ((try simp +decide only [b01, b10, b11, am_up, ik, and_true, and_false, true_and, false_and, if_true, if_false, nn_eq] at *) <;> (try simp only [sw_or, sw_all, or_false, and_true, i32_lt, i32_le, i32_eq, i32_addw, i32_subw, i32_mulw, Int32.reduceToInt] at *) <;> omega) | (apply_assumption; done)) (by first | exact hPs | exact ⟨c6.1, hbg⟩ | exact hs.2.2.1 | exact hWS' | exact hF | exact hA | assumption | (refine pc_of hP ?_; (repeat (first | assumption | exact md_refl | refine md_up ?_ rfl | refine md_fill ?_ rfl | (unfold ik; refine md_up ?_ rfl))); done) | (refine pm_of hP ?_; (repeat (first | assumption | exact md_refl | refine md_up ?_ rfl | refine md_fill ?_ rfl | (unfold ik; refine md_up ?_ rfl))); done) | omega | decide | ((try simp +decide only [b01, b10, b11, am_up, ik, and_true, and_false, true_and, false_and, if_true, if_false, nn_eq] at *) <;> (try simp only [sw_or, sw_all, or_false, and_true, i32_lt, i32_le, i32_eq, i32_addw, i32_subw, i32_mulw, Int32.reduceToInt] at *) <;> omega) | (apply_assumption; done)) (by first | exact hPs | exact ⟨c6.1, hbg⟩ | exact hs.2.2.1 | exact hWS' | exact hF | exact hA | assumption | (refine pc_of hP ?_; (repeat (first | assumption | exact md_refl | refine md_up ?_ rfl | refine md_fill ?_ rfl | (unfold ik; refine md_up ?_ rfl))); done) | (refine pm_of hP ?_; (repeat (first | assumption | exact md_refl | refine md_up ?_ rfl | refine md_fill ?_ rfl | (unfold ik; refine md_up ?_ rfl))); done) | omega | decide | ((try simp +decide only [b01, b10, b11, am_up, ik, and_true, and_false, true_and, false_and, if_true, if_false, nn_eq] at *) <;> (try simp only [sw_or, sw_all, or_false, and_true, i32_lt, i32_le, i32_eq, i32_addw, i32_subw, i32_mulw, Int32.reduceToInt] at *) <;> omega) | (apply_assumption; done)) (by first | exact hPs | exact ⟨c6.1, hbg⟩ | exact hs.2.2.1 | exact hWS' | exact hF | exact hA | assumption | (refine pc_of hP ?_; (repeat (first | assumption | exact md_refl | refine md_up ?_ rfl | refine md_fill ?_ rfl | (unfold ik; refine md_up ?_ rfl))); done) | (refine pm_of hP ?_; (repeat (first | assumption | exact md_refl | refine md_up ?_ rfl | refine md_fill ?_ rfl | (unfold ik; refine md_up ?_ rfl))); done) | omega | decide | ((try simp +decide only [b01, b10, b11, am_up, ik, and_true, and_false, true_and, false_and, if_true, if_false, nn_eq] at *) <;> (try simp only [sw_or, sw_all, or_false, and_true, i32_lt, i32_le, i32_eq, i32_addw, i32_subw, i32_mulw, Int32.reduceToInt] at *) <;> omega) | (apply_assumption; done)) (by first | exact hPs | exact ⟨c6.1, hbg⟩ | exact hs.2.2.1 | exact hWS' | exact hF | exact hA | assumption | (refine pc_of hP ?_; (repeat (first | assumption | exact md_refl | refine md_up ?_ rfl | refine md_fill ?_ rfl | (unfold ik; refine md_up ?_ rfl))); done) | (refine pm_of hP ?_; (repeat (first | assumption | exact md_refl | refine md_up ?_ rfl | refine md_fill ?_ rfl | (unfold ik; refine md_up ?_ rfl))); done) | omega | decide | ((try simp +decide only [b01, b10, b11, am_up, ik, and_true, and_false, true_and, false_and, if_true, if_false, nn_eq] at *) <;> (try simp only [sw_or, sw_all, or_false, and_true, i32_lt, i32_le, i32_eq, i32_addw, i32_subw, i32_mulw, Int32.reduceToInt] at *) <;> omega) | (apply_assumption; done)) (by first | exact hPs | exact ⟨c6.1, hbg⟩ | exact hs.2.2.1 | exact hWS' | exact hF | exact hA | assumption | (refine pc_of hP ?_; (repeat (first | assumption | exact md_refl | refine md_up ?_ rfl | refine md_fill ?_ rfl | (unfold ik; refine md_up ?_ rfl))); done) | (refine pm_of hP ?_; (repeat (first | assumption | exact md_refl | refine md_up ?_ rfl | refine md_fill ?_ rfl | (unfold ik; refine md_up ?_ rfl))); done) | omega | decide | ((try simp +decide only [b01, b10, b11, am_up, ik, and_true, and_false, true_and, false_and, if_true, if_false, nn_eq] at *) <;> (try simp only [sw_or, sw_all, or_false, and_true, i32_lt, i32_le, i32_eq, i32_addw, i32_subw, i32_mulw, Int32.reduceToInt] at *) <;> omega) | (apply_assumption; done)) (by first | exact hPs | exact ⟨c6.1, hbg⟩ | exact hs.2.2.1 | exact hWS' | exact hF | exact hA | assumption | (refine pc_of hP ?_; (repeat (first | assumption | exact md_refl | refine md_up ?_ rfl | refine md_fill ?_ rfl | (unfold ik; refine md_up ?_ rfl))); done) | (refine pm_of hP ?_; (repeat (first | assumption | exact md_refl | refine md_up ?_ rfl | refine md_fill ?_ rfl | (unfold ik; refine md_up ?_ rfl))); done) | omega | decide | ((try simp +decide only [b01, b10, b11, am_up, ik, and_true, and_false, true_and, false_and, if_true, if_false, nn_eq] at *) <;> (try simp only [sw_or, sw_all, or_false, and_true, i32_lt, i32_le, i32_eq, i32_addw, i32_subw, i32_mulw, Int32.reduceToInt] at *) <;> omega) | (apply_assumption; done)) (by first | exact hPs | exact ⟨c6.1, hbg⟩ | exact hs.2.2.1 | exact hWS' | exact hF | exact hA | assumption | (refine pc_of hP ?_; (repeat (first | assumption | exact md_refl | refine md_up ?_ rfl | refine md_fill ?_ rfl | (unfold ik; refine md_up ?_ rfl))); done) | (refine pm_of hP ?_; (repeat (first | assumption | exact md_refl | refine md_up ?_ rfl | refine md_fill ?_ rfl | (unfold ik; refine md_up ?_ rfl))); done) | omega | decide | ((try simp +decide only [b01, b10, b11, am_up, ik, and_true, and_false, true_and, false_and, if_true, if_false, nn_eq] at *) <;> (try simp only [sw_or, sw_all, or_false, and_true, i32_lt, i32_le, i32_eq, i32_addw, i32_subw, i32_mulw, Int32.reduceToInt] at *) <;> omega) | (apply_assumption; done)) (by first | exact hPs | exact ⟨c6.1, hbg⟩ | exact hs.2.2.1 | exact hWS' | exact hF | exact hA | assumption | (refine pc_of hP ?_; (repeat (first | assumption | exact md_refl | refine md_up ?_ rfl | refine md_fill ?_ rfl | (unfold ik; refine md_up ?_ rfl))); done) | (refine pm_of hP ?_; (repeat (first | assumption | exact md_refl | refine md_up ?_ rfl | refine md_fill ?_ rfl | (unfold ik; refine md_up ?_ rfl))); done) | omega | decide | ((try simp +decide only [b01, b10, b11, am_up, ik, and_true, and_false, true_and, false_and, if_true, if_false, nn_eq] at *) <;> (try simp only [sw_or, sw_all, or_false, and_true, i32_lt, i32_le, i32_eq, i32_addw, i32_subw, i32_mulw, Int32.reduceToInt] at *) <;> omega) | (apply_assumption; done)) (fun e89 => ?_)
    · skip
      refine r_zeq (tgt := 99) (q := 95) d_FL_visit_92 rfl rfl (fun e92 => ?_) (fun e92 => ?_)
      · skip
        refine r_ic (v := 0) (q := 100) d_FL_visit_99 rfl rfl ?_
        refine r_rz d_FL_visit_100 (by first | exact hPs | exact ⟨c6.1, hbg⟩ | exact hs.2.2.1 | exact hWS' | exact hF | exact hA | assumption | (refine pc_of hP ?_; (repeat (first | assumption | exact md_refl | refine md_up ?_ rfl | refine md_fill ?_ rfl | (unfold ik; refine md_up ?_ rfl))); done) | (refine pm_of hP ?_; (repeat (first | assumption | exact md_refl | refine md_up ?_ rfl | refine md_fill ?_ rfl | (unfold ik; refine md_up ?_ rfl))); done) | omega | decide | ((try simp +decide only [b01, b10, b11, am_up, ik, and_true, and_false, true_and, false_and, if_true, if_false, nn_eq] at *) <;> (try simp only [sw_or, sw_all, or_false, and_true, i32_lt, i32_le, i32_eq, i32_addw, i32_subw, i32_mulw, Int32.reduceToInt] at *) <;> omega) | (apply_assumption; done)) ?_
        first | exact kE _ _ e89.2 e92 | exact kF _ _ hs (cf_0 e89.2 e92)
      · skip
        refine r_ic (v := 1) (q := 96) d_FL_visit_95 rfl rfl ?_
        refine am_go (tgt := 100) d_FL_visit_96 rfl ?_
        refine r_rz d_FL_visit_100 (by first | exact hPs | exact ⟨c6.1, hbg⟩ | exact hs.2.2.1 | exact hWS' | exact hF | exact hA | assumption | (refine pc_of hP ?_; (repeat (first | assumption | exact md_refl | refine md_up ?_ rfl | refine md_fill ?_ rfl | (unfold ik; refine md_up ?_ rfl))); done) | (refine pm_of hP ?_; (repeat (first | assumption | exact md_refl | refine md_up ?_ rfl | refine md_fill ?_ rfl | (unfold ik; refine md_up ?_ rfl))); done) | omega | decide | ((try simp +decide only [b01, b10, b11, am_up, ik, and_true, and_false, true_and, false_and, if_true, if_false, nn_eq] at *) <;> (try simp only [sw_or, sw_all, or_false, and_true, i32_lt, i32_le, i32_eq, i32_addw, i32_subw, i32_mulw, Int32.reduceToInt] at *) <;> omega) | (apply_assumption; done)) ?_
        first | exact kE _ _ e89.2 e92 | exact kF _ _ hs (cf_0 e89.2 e92)
  -- the handlers, after the instruction
  have k77 : ∀ s R' H' a3, VS P m v p L0 R0 H0 st s → (∀ k, k < (P 7 m).toInt.toNat → cov P (4 * m + k) p → 1 ≤ (P 5 m).toInt ∧ Ar (nl P m) (cT s (nb P m)) (P 10 (4 * m + k)).toInt L0 1 1) → (ty_rl (pO P (nb P m + p)) = 0 ∨ ty_at L0 (pN P (nb P m + p)) = ty_rl (pO P (nb P m + p))) → ss P m (pO P (nb P m + p)) (pN P (nb P m + p)) R0 H0 = some (R', H') → H'.toInt ≤ (P 5 m).toInt → s 456 0 = lw (pO P (nb P m + p)) (pN P (nb P m + p)) L0 → s 457 0 = R' → s 458 0 = H' → am_AW c_FL_visit g_FL_visit (fun o st' => am_ok (some .boolean) o ∧ am_ki (viQ P m v st) o st') 77 [some (.inr (.inl 126)), some (.inr (.inl (m + 80))), some (.inl y), a3] [] s := by
    intro s R' H' a3 hs s1 s2 s3 s4 s6 s7 s8
    have hWS' := ap_WS c2 c3 ho hWS s3 s4
    have hwL : wfL (s 456 0) := by rw [s6]; exact hWS'.1
    have hA : ∀ U, Typ P m U → ∀ k, k < (P 7 m).toInt.toNat → cov P (4 * m + k) p → 1 ≤ (P 5 m).toInt ∧ Ar (nl P m) U (P 10 (4 * m + k)).toInt (s 456 0) 1 1 := by
      intro U hU k hk hc
      obtain ⟨u0, -, R2, H2, u1, -, u4, -⟩ := hSO U hU
      rw [s6]
      exact ⟨(u0 k hk hc).1, u4 k hk hc⟩
    have hPs := pc_of c1 hs.1
    have kE : ∀ r s' a3, chQ P m v p L0 R0 H0 p (s 456 0) s r s' → ¬ r = 0 → am_AW c_FL_visit g_FL_visit (fun o st' => am_ok (some .boolean) o ∧ am_ki (viQ P m v st) o st') 86 [some (.inr (.inl 126)), some (.inr (.inl (m + 80))), some (.inl y), a3] [] s' := by
      intro r s' a3 h hr
      obtain ⟨z1, z2, z3, z4, z5⟩ := ch_1 h hr
      rw [s6] at z5
      exact k86 s' R' H' a3 (VS_W hs z1 z2 z3 z4) (fun k hk hc => ⟨(s1 k hk hc).1, Ar_le (s1 k hk hc).2 z4⟩) s2 s3 s4 z5 (by rw [z1 456 rfl]; exact s6) (by rw [z1 457 rfl]; exact s7) (by rw [z1 458 rfl]; exact s8)
    refine r_al0 (q := 78) d_FL_visit_77 rfl ?_
    refine r_al1 (q := 79) d_FL_visit_78 rfl ?_
    refine r_il2 (q := 80) d_FL_visit_79 rfl ?_
    refine r_vi2 mo_FL_comeToHandlers d_FL_visit_80 rfl rfl rfl (q := 83) rfl ?_
    refine sp_FL_comeToHandlers (P := P) (v := v) (p0 := p) (L0 := L0) (R0 := R0) (H0 := H0) (p := p) (by first | exact hPs | exact hwL | exact hs.2.2.1 | exact hA | assumption | (refine pc_of hP ?_; (repeat (first | assumption | exact md_refl | refine md_up ?_ rfl | refine md_fill ?_ rfl | (unfold ik; refine md_up ?_ rfl))); done) | (refine pm_of hP ?_; (repeat (first | assumption | exact md_refl | refine md_up ?_ rfl | refine md_fill ?_ rfl | (unfold ik; refine md_up ?_ rfl))); done) | omega | decide | ((try simp +decide only [b01, b10, b11, am_up, ik, and_true, and_false, true_and, false_and, if_true, if_false, nn_eq] at *) <;> (try simp only [sw_or, sw_all, or_false, and_true, i32_lt, i32_le, i32_eq, i32_addw, i32_subw, i32_mulw, Int32.reduceToInt] at *) <;> omega) | (apply_assumption; done)) (by first | exact hPs | exact hwL | exact hs.2.2.1 | exact hA | assumption | (refine pc_of hP ?_; (repeat (first | assumption | exact md_refl | refine md_up ?_ rfl | refine md_fill ?_ rfl | (unfold ik; refine md_up ?_ rfl))); done) | (refine pm_of hP ?_; (repeat (first | assumption | exact md_refl | refine md_up ?_ rfl | refine md_fill ?_ rfl | (unfold ik; refine md_up ?_ rfl))); done) | omega | decide | ((try simp +decide only [b01, b10, b11, am_up, ik, and_true, and_false, true_and, false_and, if_true, if_false, nn_eq] at *) <;> (try simp only [sw_or, sw_all, or_false, and_true, i32_lt, i32_le, i32_eq, i32_addw, i32_subw, i32_mulw, Int32.reduceToInt] at *) <;> omega) | (apply_assumption; done)) (by first | exact hPs | exact hwL | exact hs.2.2.1 | exact hA | assumption | (refine pc_of hP ?_; (repeat (first | assumption | exact md_refl | refine md_up ?_ rfl | refine md_fill ?_ rfl | (unfold ik; refine md_up ?_ rfl))); done) | (refine pm_of hP ?_; (repeat (first | assumption | exact md_refl | refine md_up ?_ rfl | refine md_fill ?_ rfl | (unfold ik; refine md_up ?_ rfl))); done) | omega | decide | ((try simp +decide only [b01, b10, b11, am_up, ik, and_true, and_false, true_and, false_and, if_true, if_false, nn_eq] at *) <;> (try simp only [sw_or, sw_all, or_false, and_true, i32_lt, i32_le, i32_eq, i32_addw, i32_subw, i32_mulw, Int32.reduceToInt] at *) <;> omega) | (apply_assumption; done)) (by first | exact hPs | exact hwL | exact hs.2.2.1 | exact hA | assumption | (refine pc_of hP ?_; (repeat (first | assumption | exact md_refl | refine md_up ?_ rfl | refine md_fill ?_ rfl | (unfold ik; refine md_up ?_ rfl))); done) | (refine pm_of hP ?_; (repeat (first | assumption | exact md_refl | refine md_up ?_ rfl | refine md_fill ?_ rfl | (unfold ik; refine md_up ?_ rfl))); done) | omega | decide | ((try simp +decide only [b01, b10, b11, am_up, ik, and_true, and_false, true_and, false_and, if_true, if_false, nn_eq] at *) <;> (try simp only [sw_or, sw_all, or_false, and_true, i32_lt, i32_le, i32_eq, i32_addw, i32_subw, i32_mulw, Int32.reduceToInt] at *) <;> omega) | (apply_assumption; done)) (by first | exact hPs | exact hwL | exact hs.2.2.1 | exact hA | assumption | (refine pc_of hP ?_; (repeat (first | assumption | exact md_refl | refine md_up ?_ rfl | refine md_fill ?_ rfl | (unfold ik; refine md_up ?_ rfl))); done) | (refine pm_of hP ?_; (repeat (first | assumption | exact md_refl | refine md_up ?_ rfl | refine md_fill ?_ rfl | (unfold ik; refine md_up ?_ rfl))); done) | omega | decide | ((try simp +decide only [b01, b10, b11, am_up, ik, and_true, and_false, true_and, false_and, if_true, if_false, nn_eq] at *) <;> (try simp only [sw_or, sw_all, or_false, and_true, i32_lt, i32_le, i32_eq, i32_addw, i32_subw, i32_mulw, Int32.reduceToInt] at *) <;> omega) | (apply_assumption; done)) (by first | exact hPs | exact hwL | exact hs.2.2.1 | exact hA | assumption | (refine pc_of hP ?_; (repeat (first | assumption | exact md_refl | refine md_up ?_ rfl | refine md_fill ?_ rfl | (unfold ik; refine md_up ?_ rfl))); done) | (refine pm_of hP ?_; (repeat (first | assumption | exact md_refl | refine md_up ?_ rfl | refine md_fill ?_ rfl | (unfold ik; refine md_up ?_ rfl))); done) | omega | decide | ((try simp +decide only [b01, b10, b11, am_up, ik, and_true, and_false, true_and, false_and, if_true, if_false, nn_eq] at *) <;> (try simp only [sw_or, sw_all, or_false, and_true, i32_lt, i32_le, i32_eq, i32_addw, i32_subw, i32_mulw, Int32.reduceToInt] at *) <;> omega) | (apply_assumption; done)) (by first | exact hPs | exact hwL | exact hs.2.2.1 | exact hA | assumption | (refine pc_of hP ?_; (repeat (first | assumption | exact md_refl | refine md_up ?_ rfl | refine md_fill ?_ rfl | (unfold ik; refine md_up ?_ rfl))); done) | (refine pm_of hP ?_; (repeat (first | assumption | exact md_refl | refine md_up ?_ rfl | refine md_fill ?_ rfl | (unfold ik; refine md_up ?_ rfl))); done) | omega | decide | ((try simp +decide only [b01, b10, b11, am_up, ik, and_true, and_false, true_and, false_and, if_true, if_false, nn_eq] at *) <;> (try simp only [sw_or, sw_all, or_false, and_true, i32_lt, i32_le, i32_eq, i32_addw, i32_subw, i32_mulw, Int32.reduceToInt] at *) <;> omega) | (apply_assumption; done)) (by first | exact hPs | exact hwL | exact hs.2.2.1 | exact hA | assumption | (refine pc_of hP ?_; (repeat (first | assumption | exact md_refl | refine md_up ?_ rfl | refine md_fill ?_ rfl | (unfold ik; refine md_up ?_ rfl))); done) | (refine pm_of hP ?_; (repeat (first | assumption | exact md_refl | refine md_up ?_ rfl | refine md_fill ?_ rfl | (unfold ik; refine md_up ?_ rfl))); done) | omega | decide | ((try simp +decide only [b01, b10, b11, am_up, ik, and_true, and_false, true_and, false_and, if_true, if_false, nn_eq] at *) <;> (try simp only [sw_or, sw_all, or_false, and_true, i32_lt, i32_le, i32_eq, i32_addw, i32_subw, i32_mulw, Int32.reduceToInt] at *) <;> omega) | (apply_assumption; done)) (fun e80 => ?_)
    · skip
      refine r_zeq (tgt := 99) (q := 86) d_FL_visit_83 rfl rfl (fun e83 => ?_) (fun e83 => ?_)
      · skip
        refine r_ic (v := 0) (q := 100) d_FL_visit_99 rfl rfl ?_
        refine r_rz d_FL_visit_100 (by first | exact hPs | exact hwL | exact hs.2.2.1 | exact hA | assumption | (refine pc_of hP ?_; (repeat (first | assumption | exact md_refl | refine md_up ?_ rfl | refine md_fill ?_ rfl | (unfold ik; refine md_up ?_ rfl))); done) | (refine pm_of hP ?_; (repeat (first | assumption | exact md_refl | refine md_up ?_ rfl | refine md_fill ?_ rfl | (unfold ik; refine md_up ?_ rfl))); done) | omega | decide | ((try simp +decide only [b01, b10, b11, am_up, ik, and_true, and_false, true_and, false_and, if_true, if_false, nn_eq] at *) <;> (try simp only [sw_or, sw_all, or_false, and_true, i32_lt, i32_le, i32_eq, i32_addw, i32_subw, i32_mulw, Int32.reduceToInt] at *) <;> omega) | (apply_assumption; done)) ?_
        exact kF _ _ hs (ch_0 e80.2 e83)
      · skip
        exact kE _ _ _ e80.2 e83
  -- the instruction
  have k58 : ∀ s a3, VS P m v p L0 R0 H0 st s → (∀ k, k < (P 7 m).toInt.toNat → cov P (4 * m + k) p → 1 ≤ (P 5 m).toInt ∧ Ar (nl P m) (cT s (nb P m)) (P 10 (4 * m + k)).toInt L0 1 1) → s 456 0 = L0 → s 457 0 = R0 → s 458 0 = H0 → am_AW c_FL_visit g_FL_visit (fun o st' => am_ok (some .boolean) o ∧ am_ki (viQ P m v st) o st') 58 [some (.inr (.inl 126)), some (.inr (.inl (m + 80))), some (.inl y), a3] [] s := by
    intro s a3 hs s1 s6 s7 s8
    have hPs := pc_of c1 hs.1
    have f1 := hs.2.2.2.2.1
    have f2 := hs.2.2.2.2.2.1
    have h184 : s 192 1 = 184 → 0 ≤ s 193 1 ∧ s 193 1 < s 323 0 := by
      intro h
      rw [f1] at h
      rw [f2 (un_184 c2 h), hPs.2.2.2.2.2.2.1]
      have o3 := ho.2.2
      rw [h] at o3
      unfold oH at o3
      rcases o3 with q | ⟨-, q | q | q | q⟩
      · exact absurd q.1 (by unfold op_loc; decide)
      · exact absurd q.1 (by decide)
      · exact q.2
      · exact absurd q.1 (by decide)
      · exact absurd rfl q.2.2.1
    have hai : ∀ q : Int32 × Int32, aiC P m s q ↔ (ty_rl (pO P (nb P m + p)) = 0 ∨ ty_at L0 (pN P (nb P m + p)) = ty_rl (pO P (nb P m + p))) ∧ ss P m (pO P (nb P m + p)) (pN P (nb P m + p)) R0 H0 = some q := by
      intro q
      unfold aiC
      rw [f1, s6, s7, s8, rd_ss c2 f2, rd_rl c2 f2]
    have hno : (¬ ∃ q, aiC P m s q) → ∀ U, ¬ Typ P m U := by
      intro h U hU
      obtain ⟨-, u0, R2, H2, u1, -⟩ := hSO U hU
      exact h ⟨(R2, H2), (hai _).mpr ⟨u0, u1⟩⟩
    have hlw : lw (s 192 1) (s 193 1) (s 456 0) = lw (pO P (nb P m + p)) (pN P (nb P m + p)) L0 := by rw [f1, s6, rd_lw c2 f2]
    have h71 : s 71 m = P 5 m := by rw [hPs.1.2.2.2.2.2.1]
    have kE : ∀ q : {q : Int32 × Int32 // aiC P m s q}, ¬ (P 5 m < q.1.2) → am_AW c_FL_visit g_FL_visit (fun o st' => am_ok (some .boolean) o ∧ am_ki (viQ P m v st) o st') 77 [some (.inr (.inl 126)), some (.inr (.inl (m + 80))), some (.inl y), a3] [] (fl s (lw (s 192 1) (s 193 1) (s 456 0)) q.1.1 q.1.2) := by
      intro q hq
      obtain ⟨q, hai2⟩ := q
      obtain ⟨g1, g2⟩ := (hai q).mp hai2
      simp only at hq ⊢
      rw [i32_lt] at hq
      obtain ⟨w1, w2⟩ := @VS_f P m v p L0 R0 H0 (lw (s 192 1) (s 193 1) (s 456 0)) q.1 q.2 st s hs
      refine k77 _ q.1 q.2 a3 w1 (by rw [w2]; exact s1) g1 g2 (by omega) ?_ rfl rfl
      rw [← hlw]
      exact am_up_eq
    have kG : ∀ q : {q : Int32 × Int32 // aiC P m s q}, P 5 m < q.1.2 → viQ P m v st 0 (fl s (lw (s 192 1) (s 193 1) (s 456 0)) q.1.1 q.1.2) := by
      intro q hq
      obtain ⟨q, hai2⟩ := q
      obtain ⟨g1, g2⟩ := (hai q).mp hai2
      simp only at hq ⊢
      rw [i32_lt] at hq
      obtain ⟨w1, w2⟩ := @VS_f P m v p L0 R0 H0 (lw (s 192 1) (s 193 1) (s 456 0)) q.1 q.2 st s hs
      refine ⟨w1.1, w1.2.1, Or.inr ⟨rfl, fun U hU => ?_⟩⟩
      obtain ⟨-, -, R2, H2, u1, u2, -⟩ := hSO U hU
      rw [g2, Option.some.injEq] at u1
      rw [u1] at hq
      simp only at hq
      omega
    have kN : ∀ q : {q : Int32 × Int32 // ¬ ∃ q, aiC P m s q}, viQ P m v st 0 (fs s q.1.1 q.1.2) := by
      intro q
      have w1 := (@VS_f P m v p L0 R0 H0 (s 456 0) q.1.1 q.1.2 st s hs).1
      rw [fl_self] at w1
      exact ⟨w1.1, w1.2.1, Or.inr ⟨rfl, hno q.2⟩⟩
    rw [← h71] at kE kG
    have v8' := v8
    refine r_al0 (q := 59) d_FL_visit_58 rfl ?_
    refine r_al1 (q := 60) d_FL_visit_59 rfl ?_
    refine r_vi1 mo_FL_applyInstruction d_FL_visit_60 rfl rfl rfl (q := 63) rfl ?_
    refine sp_FL_applyInstruction (P := P) (by first | exact hPs | exact h184 | assumption | (refine pc_of hP ?_; (repeat (first | assumption | exact md_refl | refine md_up ?_ rfl | refine md_fill ?_ rfl | (unfold ik; refine md_up ?_ rfl))); done) | (refine pm_of hP ?_; (repeat (first | assumption | exact md_refl | refine md_up ?_ rfl | refine md_fill ?_ rfl | (unfold ik; refine md_up ?_ rfl))); done) | omega | decide | ((try simp +decide only [b01, b10, b11, am_up, ik, and_true, and_false, true_and, false_and, if_true, if_false, nn_eq] at *) <;> (try simp only [sw_or, sw_all, or_false, and_true, i32_lt, i32_le, i32_eq, i32_addw, i32_subw, i32_mulw, Int32.reduceToInt] at *) <;> omega) | (apply_assumption; done)) (by first | exact hPs | exact h184 | assumption | (refine pc_of hP ?_; (repeat (first | assumption | exact md_refl | refine md_up ?_ rfl | refine md_fill ?_ rfl | (unfold ik; refine md_up ?_ rfl))); done) | (refine pm_of hP ?_; (repeat (first | assumption | exact md_refl | refine md_up ?_ rfl | refine md_fill ?_ rfl | (unfold ik; refine md_up ?_ rfl))); done) | omega | decide | ((try simp +decide only [b01, b10, b11, am_up, ik, and_true, and_false, true_and, false_and, if_true, if_false, nn_eq] at *) <;> (try simp only [sw_or, sw_all, or_false, and_true, i32_lt, i32_le, i32_eq, i32_addw, i32_subw, i32_mulw, Int32.reduceToInt] at *) <;> omega) | (apply_assumption; done)) (by first | exact hPs | exact h184 | assumption | (refine pc_of hP ?_; (repeat (first | assumption | exact md_refl | refine md_up ?_ rfl | refine md_fill ?_ rfl | (unfold ik; refine md_up ?_ rfl))); done) | (refine pm_of hP ?_; (repeat (first | assumption | exact md_refl | refine md_up ?_ rfl | refine md_fill ?_ rfl | (unfold ik; refine md_up ?_ rfl))); done) | omega | decide | ((try simp +decide only [b01, b10, b11, am_up, ik, and_true, and_false, true_and, false_and, if_true, if_false, nn_eq] at *) <;> (try simp only [sw_or, sw_all, or_false, and_true, i32_lt, i32_le, i32_eq, i32_addw, i32_subw, i32_mulw, Int32.reduceToInt] at *) <;> omega) | (apply_assumption; done)) (by first | exact hPs | exact h184 | assumption | (refine pc_of hP ?_; (repeat (first | assumption | exact md_refl | refine md_up ?_ rfl | refine md_fill ?_ rfl | (unfold ik; refine md_up ?_ rfl))); done) | (refine pm_of hP ?_; (repeat (first | assumption | exact md_refl | refine md_up ?_ rfl | refine md_fill ?_ rfl | (unfold ik; refine md_up ?_ rfl))); done) | omega | decide | ((try simp +decide only [b01, b10, b11, am_up, ik, and_true, and_false, true_and, false_and, if_true, if_false, nn_eq] at *) <;> (try simp only [sw_or, sw_all, or_false, and_true, i32_lt, i32_le, i32_eq, i32_addw, i32_subw, i32_mulw, Int32.reduceToInt] at *) <;> omega) | (apply_assumption; done)) (fun e60 => ?_) (fun e60 => ?_)
    · skip
      refine r_zeq (tgt := 99) (q := 66) d_FL_visit_63 rfl rfl (fun e63 => by exfalso; revert e63; decide) (fun e63 => ?_)
      refine r_al0 (q := 67) d_FL_visit_66 rfl ?_
      refine gt_FL_height (q := 70) d_FL_visit_67 rfl rfl ?_
      refine r_al1 (q := 71) d_FL_visit_70 rfl ?_
      refine gt_ME_height (q := 74) d_FL_visit_71 rfl (by first | exact hPs | exact h184 | assumption | (refine pc_of hP ?_; (repeat (first | assumption | exact md_refl | refine md_up ?_ rfl | refine md_fill ?_ rfl | (unfold ik; refine md_up ?_ rfl))); done) | (refine pm_of hP ?_; (repeat (first | assumption | exact md_refl | refine md_up ?_ rfl | refine md_fill ?_ rfl | (unfold ik; refine md_up ?_ rfl))); done) | omega | decide | ((try simp +decide only [b01, b10, b11, am_up, ik, and_true, and_false, true_and, false_and, if_true, if_false, nn_eq] at *) <;> (try simp only [sw_or, sw_all, or_false, and_true, i32_lt, i32_le, i32_eq, i32_addw, i32_subw, i32_mulw, Int32.reduceToInt] at *) <;> omega) | (apply_assumption; done)) rfl ?_
      refine r_cgt (tgt := 99) (q := 77) d_FL_visit_74 rfl rfl (fun e74 => ?_) (fun e74 => ?_)
      · skip
        refine r_ic (v := 0) (q := 100) d_FL_visit_99 rfl rfl ?_
        refine r_rz d_FL_visit_100 (by first | exact hPs | exact h184 | assumption | (refine pc_of hP ?_; (repeat (first | assumption | exact md_refl | refine md_up ?_ rfl | refine md_fill ?_ rfl | (unfold ik; refine md_up ?_ rfl))); done) | (refine pm_of hP ?_; (repeat (first | assumption | exact md_refl | refine md_up ?_ rfl | refine md_fill ?_ rfl | (unfold ik; refine md_up ?_ rfl))); done) | omega | decide | ((try simp +decide only [b01, b10, b11, am_up, ik, and_true, and_false, true_and, false_and, if_true, if_false, nn_eq] at *) <;> (try simp only [sw_or, sw_all, or_false, and_true, i32_lt, i32_le, i32_eq, i32_addw, i32_subw, i32_mulw, Int32.reduceToInt] at *) <;> omega) | (apply_assumption; done)) ?_
        first | exact kN e60 | exact kG e60 e74
      · skip
        exact kE e60 e74
    · skip
      refine r_zeq (tgt := 99) (q := 66) d_FL_visit_63 rfl rfl (fun e63 => ?_) (fun e63 => by exfalso; revert e63; decide)
      refine r_ic (v := 0) (q := 100) d_FL_visit_99 rfl rfl ?_
      refine r_rz d_FL_visit_100 (by first | exact hPs | exact h184 | assumption | (refine pc_of hP ?_; (repeat (first | assumption | exact md_refl | refine md_up ?_ rfl | refine md_fill ?_ rfl | (unfold ik; refine md_up ?_ rfl))); done) | (refine pm_of hP ?_; (repeat (first | assumption | exact md_refl | refine md_up ?_ rfl | refine md_fill ?_ rfl | (unfold ik; refine md_up ?_ rfl))); done) | omega | decide | ((try simp +decide only [b01, b10, b11, am_up, ik, and_true, and_false, true_and, false_and, if_true, if_false, nn_eq] at *) <;> (try simp only [sw_or, sw_all, or_false, and_true, i32_lt, i32_le, i32_eq, i32_addw, i32_subw, i32_mulw, Int32.reduceToInt] at *) <;> omega) | (apply_assumption; done)) ?_
      first | exact kN e60 | exact kG e60 e74
  -- the handlers, before the instruction
  have k49 : ∀ n g a3, ((st 67 m + y).toInt + (pZ P (nb P m + p)).toInt ≤ (st 322 0).toInt → (uN (P 0 (nb P m + p)) → n = pN P (nb P m + p)) ∧ (P 0 (nb P m + p) = 132 → g = pG P (nb P m + p))) → am_AW c_FL_visit g_FL_visit (fun o st' => am_ok (some .boolean) o ∧ am_ki (viQ P m v st) o st') 49 [some (.inr (.inl 126)), some (.inr (.inl (m + 80))), some (.inl y), a3] [] (am_up (ik (am_up (am_up (am_up st 456 0 L0) 457 0 R0) 458 0 H0) 1 (pO P (nb P m + p)) n (pZ P (nb P m + p))) 194 1 g) := by
    intro n g a3 hng
    have hin : (st 67 m + y).toInt + (pZ P (nb P m + p)).toInt ≤ (st 322 0).toInt := by
      have := ho.2.1
      have := pZ_n (a := nb P m + p) c2
      rw [i32_addw]
      omega
    generalize hs' : am_up (ik (am_up (am_up (am_up st 456 0 L0) 457 0 R0) 458 0 H0) 1 (pO P (nb P m + p)) n (pZ P (nb P m + p))) 194 1 g = s
    have hmd : am_md cV st s := by
      rw [← hs']
      unfold ik
      exact md_up (md_up (md_up (md_up (md_up (md_up (md_up md_refl rfl) rfl) rfl) rfl) rfl) rfl) rfl
    have hbk : ∀ b, (2131 < b ∧ b < 2137) ∨ b = 455 → s b = st b := by
      intro b hb
      rw [← hs']
      unfold ik
      rw [am_up_bank (by omega), am_up_bank (by omega), am_up_bank (by omega), am_up_bank (by omega), am_up_bank (by omega), am_up_bank (by omega), am_up_bank (by omega)]
    obtain ⟨w1, w2⟩ := CI_bk c7 (hbk 2132 (by omega)) (hbk 2133 (by omega)) (hbk 2134 (by omega)) (hbk 2135 (by omega)) (hbk 2136 (by omega)) (hbk 455 (by omega))
    have hVS : VS P m v p L0 R0 H0 st s := by
      refine ⟨hmd, fun i _ => by rw [hbk 2132 (by omega), hbk 2133 (by omega), hbk 2134 (by omega)]; exact ⟨rfl, rfl, rfl⟩, w1, by rw [w2]; exact le_refl', ?_, ?_, ?_⟩
      · rw [← hs']
        rfl
      · intro u
        rw [← (hng hin).1 u, ← hs']
        rfl
      · rw [← hs']
        rfl
    have f6 : s 456 0 = L0 := by rw [← hs']; rfl
    have f7 : s 457 0 = R0 := by rw [← hs']; rfl
    have f8 : s 458 0 = H0 := by rw [← hs']; rfl
    clear hs' hng
    have hPs := pc_of c1 hmd
    have hwL : wfL (s 456 0) := by rw [f6]; exact hWS.1
    have hA : ∀ U, Typ P m U → ∀ k, k < (P 7 m).toInt.toNat → cov P (4 * m + k) p → 1 ≤ (P 5 m).toInt ∧ Ar (nl P m) U (P 10 (4 * m + k)).toInt (s 456 0) 1 1 := by
      intro U hU
      rw [f6]
      exact (hSO U hU).1
    have kE : ∀ r s' a3, chQ P m v p L0 R0 H0 p (s 456 0) s r s' → ¬ r = 0 → am_AW c_FL_visit g_FL_visit (fun o st' => am_ok (some .boolean) o ∧ am_ki (viQ P m v st) o st') 58 [some (.inr (.inl 126)), some (.inr (.inl (m + 80))), some (.inl y), a3] [] s' := by
      intro r s' a3 h hr
      obtain ⟨z1, z2, z3, z4, z5⟩ := ch_1 h hr
      rw [f6] at z5
      exact k58 s' a3 (VS_W hVS z1 z2 z3 z4) z5 (by rw [z1 456 rfl]; exact f6) (by rw [z1 457 rfl]; exact f7) (by rw [z1 458 rfl]; exact f8)
    refine r_al0 (q := 50) d_FL_visit_49 rfl ?_
    refine r_al1 (q := 51) d_FL_visit_50 rfl ?_
    refine r_il2 (q := 52) d_FL_visit_51 rfl ?_
    refine r_vi2 mo_FL_comeToHandlers d_FL_visit_52 rfl rfl rfl (q := 55) rfl ?_
    refine sp_FL_comeToHandlers (P := P) (v := v) (p0 := p) (L0 := L0) (R0 := R0) (H0 := H0) (p := p) (by first | exact hPs | exact hwL | exact w1 | exact hA | assumption | (refine pc_of hP ?_; (repeat (first | assumption | exact md_refl | refine md_up ?_ rfl | refine md_fill ?_ rfl | (unfold ik; refine md_up ?_ rfl))); done) | (refine pm_of hP ?_; (repeat (first | assumption | exact md_refl | refine md_up ?_ rfl | refine md_fill ?_ rfl | (unfold ik; refine md_up ?_ rfl))); done) | omega | decide | ((try simp +decide only [b01, b10, b11, am_up, ik, and_true, and_false, true_and, false_and, if_true, if_false, nn_eq] at *) <;> (try simp only [sw_or, sw_all, or_false, and_true, i32_lt, i32_le, i32_eq, i32_addw, i32_subw, i32_mulw, Int32.reduceToInt] at *) <;> omega) | (apply_assumption; done)) (by first | exact hPs | exact hwL | exact w1 | exact hA | assumption | (refine pc_of hP ?_; (repeat (first | assumption | exact md_refl | refine md_up ?_ rfl | refine md_fill ?_ rfl | (unfold ik; refine md_up ?_ rfl))); done) | (refine pm_of hP ?_; (repeat (first | assumption | exact md_refl | refine md_up ?_ rfl | refine md_fill ?_ rfl | (unfold ik; refine md_up ?_ rfl))); done) | omega | decide | ((try simp +decide only [b01, b10, b11, am_up, ik, and_true, and_false, true_and, false_and, if_true, if_false, nn_eq] at *) <;> (try simp only [sw_or, sw_all, or_false, and_true, i32_lt, i32_le, i32_eq, i32_addw, i32_subw, i32_mulw, Int32.reduceToInt] at *) <;> omega) | (apply_assumption; done)) (by first | exact hPs | exact hwL | exact w1 | exact hA | assumption | (refine pc_of hP ?_; (repeat (first | assumption | exact md_refl | refine md_up ?_ rfl | refine md_fill ?_ rfl | (unfold ik; refine md_up ?_ rfl))); done) | (refine pm_of hP ?_; (repeat (first | assumption | exact md_refl | refine md_up ?_ rfl | refine md_fill ?_ rfl | (unfold ik; refine md_up ?_ rfl))); done) | omega | decide | ((try simp +decide only [b01, b10, b11, am_up, ik, and_true, and_false, true_and, false_and, if_true, if_false, nn_eq] at *) <;> (try simp only [sw_or, sw_all, or_false, and_true, i32_lt, i32_le, i32_eq, i32_addw, i32_subw, i32_mulw, Int32.reduceToInt] at *) <;> omega) | (apply_assumption; done)) (by first | exact hPs | exact hwL | exact w1 | exact hA | assumption | (refine pc_of hP ?_; (repeat (first | assumption | exact md_refl | refine md_up ?_ rfl | refine md_fill ?_ rfl | (unfold ik; refine md_up ?_ rfl))); done) | (refine pm_of hP ?_; (repeat (first | assumption | exact md_refl | refine md_up ?_ rfl | refine md_fill ?_ rfl | (unfold ik; refine md_up ?_ rfl))); done) | omega | decide | ((try simp +decide only [b01, b10, b11, am_up, ik, and_true, and_false, true_and, false_and, if_true, if_false, nn_eq] at *) <;> (try simp only [sw_or, sw_all, or_false, and_true, i32_lt, i32_le, i32_eq, i32_addw, i32_subw, i32_mulw, Int32.reduceToInt] at *) <;> omega) | (apply_assumption; done)) (by first | exact hPs | exact hwL | exact w1 | exact hA | assumption | (refine pc_of hP ?_; (repeat (first | assumption | exact md_refl | refine md_up ?_ rfl | refine md_fill ?_ rfl | (unfold ik; refine md_up ?_ rfl))); done) | (refine pm_of hP ?_; (repeat (first | assumption | exact md_refl | refine md_up ?_ rfl | refine md_fill ?_ rfl | (unfold ik; refine md_up ?_ rfl))); done) | omega | decide | ((try simp +decide only [b01, b10, b11, am_up, ik, and_true, and_false, true_and, false_and, if_true, if_false, nn_eq] at *) <;> (try simp only [sw_or, sw_all, or_false, and_true, i32_lt, i32_le, i32_eq, i32_addw, i32_subw, i32_mulw, Int32.reduceToInt] at *) <;> omega) | (apply_assumption; done)) (by first | exact hPs | exact hwL | exact w1 | exact hA | assumption | (refine pc_of hP ?_; (repeat (first | assumption | exact md_refl | refine md_up ?_ rfl | refine md_fill ?_ rfl | (unfold ik; refine md_up ?_ rfl))); done) | (refine pm_of hP ?_; (repeat (first | assumption | exact md_refl | refine md_up ?_ rfl | refine md_fill ?_ rfl | (unfold ik; refine md_up ?_ rfl))); done) | omega | decide | ((try simp +decide only [b01, b10, b11, am_up, ik, and_true, and_false, true_and, false_and, if_true, if_false, nn_eq] at *) <;> (try simp only [sw_or, sw_all, or_false, and_true, i32_lt, i32_le, i32_eq, i32_addw, i32_subw, i32_mulw, Int32.reduceToInt] at *) <;> omega) | (apply_assumption; done)) (by first | exact hPs | exact hwL | exact w1 | exact hA | assumption | (refine pc_of hP ?_; (repeat (first | assumption | exact md_refl | refine md_up ?_ rfl | refine md_fill ?_ rfl | (unfold ik; refine md_up ?_ rfl))); done) | (refine pm_of hP ?_; (repeat (first | assumption | exact md_refl | refine md_up ?_ rfl | refine md_fill ?_ rfl | (unfold ik; refine md_up ?_ rfl))); done) | omega | decide | ((try simp +decide only [b01, b10, b11, am_up, ik, and_true, and_false, true_and, false_and, if_true, if_false, nn_eq] at *) <;> (try simp only [sw_or, sw_all, or_false, and_true, i32_lt, i32_le, i32_eq, i32_addw, i32_subw, i32_mulw, Int32.reduceToInt] at *) <;> omega) | (apply_assumption; done)) (by first | exact hPs | exact hwL | exact w1 | exact hA | assumption | (refine pc_of hP ?_; (repeat (first | assumption | exact md_refl | refine md_up ?_ rfl | refine md_fill ?_ rfl | (unfold ik; refine md_up ?_ rfl))); done) | (refine pm_of hP ?_; (repeat (first | assumption | exact md_refl | refine md_up ?_ rfl | refine md_fill ?_ rfl | (unfold ik; refine md_up ?_ rfl))); done) | omega | decide | ((try simp +decide only [b01, b10, b11, am_up, ik, and_true, and_false, true_and, false_and, if_true, if_false, nn_eq] at *) <;> (try simp only [sw_or, sw_all, or_false, and_true, i32_lt, i32_le, i32_eq, i32_addw, i32_subw, i32_mulw, Int32.reduceToInt] at *) <;> omega) | (apply_assumption; done)) (fun e52 => ?_)
    · skip
      refine r_zeq (tgt := 99) (q := 58) d_FL_visit_55 rfl rfl (fun e55 => ?_) (fun e55 => ?_)
      · skip
        refine r_ic (v := 0) (q := 100) d_FL_visit_99 rfl rfl ?_
        refine r_rz d_FL_visit_100 (by first | exact hPs | exact hwL | exact w1 | exact hA | assumption | (refine pc_of hP ?_; (repeat (first | assumption | exact md_refl | refine md_up ?_ rfl | refine md_fill ?_ rfl | (unfold ik; refine md_up ?_ rfl))); done) | (refine pm_of hP ?_; (repeat (first | assumption | exact md_refl | refine md_up ?_ rfl | refine md_fill ?_ rfl | (unfold ik; refine md_up ?_ rfl))); done) | omega | decide | ((try simp +decide only [b01, b10, b11, am_up, ik, and_true, and_false, true_and, false_and, if_true, if_false, nn_eq] at *) <;> (try simp only [sw_or, sw_all, or_false, and_true, i32_lt, i32_le, i32_eq, i32_addw, i32_subw, i32_mulw, Int32.reduceToInt] at *) <;> omega) | (apply_assumption; done)) ?_
        exact kF _ _ hVS (ch_0 e52.2 e55)
      · skip
        exact kE _ _ _ e52.2 e55
  clear k58 k77 k86 kF hSO
  rw [← ha] at k49 hL0 hR0 hH0
  rw [← hL0, ← hR0, ← hH0] at k49
  have hP := c1
  refine r_al1 (q := 1) d_FL_visit_0 rfl ?_
  refine gt_ME_first (q := 4) d_FL_visit_1 rfl (by first | exact ha2 | assumption | (refine pc_of hP ?_; (repeat (first | assumption | exact md_refl | refine md_up ?_ rfl | refine md_fill ?_ rfl | (unfold ik; refine md_up ?_ rfl))); done) | (refine pm_of hP ?_; (repeat (first | assumption | exact md_refl | refine md_up ?_ rfl | refine md_fill ?_ rfl | (unfold ik; refine md_up ?_ rfl))); done) | omega | decide | ((try simp +decide only [b01, b10, b11, am_up, ik, and_true, and_false, true_and, false_and, if_true, if_false, nn_eq] at *) <;> (try simp only [sw_or, sw_all, or_false, and_true, i32_lt, i32_le, i32_eq, i32_addw, i32_subw, i32_mulw, Int32.reduceToInt] at *) <;> omega) | (apply_assumption; done)) rfl ?_
  refine r_il2 (q := 5) d_FL_visit_4 rfl ?_
  refine r_iadd (q := 6) d_FL_visit_5 rfl ?_
  refine r_is3 (q := 7) d_FL_visit_6 rfl ?_
  refine r_al0 (q := 8) d_FL_visit_7 rfl ?_
  refine r_al0 (q := 9) d_FL_visit_8 rfl ?_
  refine gt_FL_foundLocals (q := 12) d_FL_visit_9 rfl rfl ?_
  refine r_il3 (q := 13) d_FL_visit_12 rfl ?_
  refine ld_132 (q := 14) d_FL_visit_13 ?_ rfl ?_
  · exact va
  refine pt_FL_locals (q := 17) d_FL_visit_14 rfl rfl ?_
  refine r_al0 (q := 18) d_FL_visit_17 rfl ?_
  refine r_al0 (q := 19) d_FL_visit_18 rfl ?_
  refine gt_FL_foundStack (q := 22) d_FL_visit_19 rfl rfl ?_
  refine r_il3 (q := 23) d_FL_visit_22 rfl ?_
  refine ld_133 (q := 24) d_FL_visit_23 ?_ rfl ?_
  · exact va
  refine pt_FL_row (q := 27) d_FL_visit_24 rfl rfl ?_
  refine r_al0 (q := 28) d_FL_visit_27 rfl ?_
  refine r_al0 (q := 29) d_FL_visit_28 rfl ?_
  refine gt_FL_foundHeight (q := 32) d_FL_visit_29 rfl rfl ?_
  refine r_il3 (q := 33) d_FL_visit_32 rfl ?_
  refine ld_134 (q := 34) d_FL_visit_33 ?_ rfl ?_
  · exact va
  refine pt_FL_height (q := 37) d_FL_visit_34 rfl rfl ?_
  refine r_al0 (q := 38) d_FL_visit_37 rfl ?_
  refine gt_FL_now (q := 41) d_FL_visit_38 rfl rfl ?_
  refine r_al0 (q := 42) d_FL_visit_41 rfl ?_
  refine gt_FL_code (q := 45) d_FL_visit_42 rfl rfl ?_
  refine r_il3 (q := 46) d_FL_visit_45 rfl ?_
  refine r_vv2 mo_IN_read d_FL_visit_46 rfl rfl rfl (q := 49) rfl ?_
  refine sp_IN_read (P := P) (by first | exact ha2 | assumption | (refine pc_of hP ?_; (repeat (first | assumption | exact md_refl | refine md_up ?_ rfl | refine md_fill ?_ rfl | (unfold ik; refine md_up ?_ rfl))); done) | (refine pm_of hP ?_; (repeat (first | assumption | exact md_refl | refine md_up ?_ rfl | refine md_fill ?_ rfl | (unfold ik; refine md_up ?_ rfl))); done) | omega | decide | ((try simp +decide only [b01, b10, b11, am_up, ik, and_true, and_false, true_and, false_and, if_true, if_false, nn_eq] at *) <;> (try simp only [sw_or, sw_all, or_false, and_true, i32_lt, i32_le, i32_eq, i32_addw, i32_subw, i32_mulw, Int32.reduceToInt] at *) <;> omega) | (apply_assumption; done)) (by first | exact ha2 | assumption | (refine pc_of hP ?_; (repeat (first | assumption | exact md_refl | refine md_up ?_ rfl | refine md_fill ?_ rfl | (unfold ik; refine md_up ?_ rfl))); done) | (refine pm_of hP ?_; (repeat (first | assumption | exact md_refl | refine md_up ?_ rfl | refine md_fill ?_ rfl | (unfold ik; refine md_up ?_ rfl))); done) | omega | decide | ((try simp +decide only [b01, b10, b11, am_up, ik, and_true, and_false, true_and, false_and, if_true, if_false, nn_eq] at *) <;> (try simp only [sw_or, sw_all, or_false, and_true, i32_lt, i32_le, i32_eq, i32_addw, i32_subw, i32_mulw, Int32.reduceToInt] at *) <;> omega) | (apply_assumption; done)) (by first | exact ha2 | assumption | (refine pc_of hP ?_; (repeat (first | assumption | exact md_refl | refine md_up ?_ rfl | refine md_fill ?_ rfl | (unfold ik; refine md_up ?_ rfl))); done) | (refine pm_of hP ?_; (repeat (first | assumption | exact md_refl | refine md_up ?_ rfl | refine md_fill ?_ rfl | (unfold ik; refine md_up ?_ rfl))); done) | omega | decide | ((try simp +decide only [b01, b10, b11, am_up, ik, and_true, and_false, true_and, false_and, if_true, if_false, nn_eq] at *) <;> (try simp only [sw_or, sw_all, or_false, and_true, i32_lt, i32_le, i32_eq, i32_addw, i32_subw, i32_mulw, Int32.reduceToInt] at *) <;> omega) | (apply_assumption; done)) (by first | exact ha2 | assumption | (refine pc_of hP ?_; (repeat (first | assumption | exact md_refl | refine md_up ?_ rfl | refine md_fill ?_ rfl | (unfold ik; refine md_up ?_ rfl))); done) | (refine pm_of hP ?_; (repeat (first | assumption | exact md_refl | refine md_up ?_ rfl | refine md_fill ?_ rfl | (unfold ik; refine md_up ?_ rfl))); done) | omega | decide | ((try simp +decide only [b01, b10, b11, am_up, ik, and_true, and_false, true_and, false_and, if_true, if_false, nn_eq] at *) <;> (try simp only [sw_or, sw_all, or_false, and_true, i32_lt, i32_le, i32_eq, i32_addw, i32_subw, i32_mulw, Int32.reduceToInt] at *) <;> omega) | (apply_assumption; done)) (fun e46 => ?_)
  · skip
    exact k49 _ _ _ e46.2

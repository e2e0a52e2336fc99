/-! written by wip/whole/gen/walk.py out of 99yg.cbegin.txt -/
theorem giv_0 {E : am_S} {G : Nat → Int32} : o_giv E G 0 = E := by
  funext b i
  unfold o_giv
  rw [if_neg (by omega)]
theorem giv_s {E : am_S} {G : Nat → Int32} {n : Nat} : o_cell (o_giv E G n) n (G n) = o_giv E G (n + 1) := by
  funext b i
  unfold o_cell o_giv am_up
  by_cases e : b = 2162 ∧ i = n
  · rw [if_pos e, if_pos (by omega), e.2]
  · rw [if_neg e]
    show (if b = 2162 ∧ i < n then G i else E b i) = _
    by_cases e2 : b = 2162 ∧ i < n
    · rw [if_pos e2, if_pos (by omega)]
    · rw [if_neg e2, if_neg (by omega)]
theorem BV_giv {P E : am_S} {G : Nat → Int32} {n : Nat} (h : BV P E) : BV P (o_giv E G n) := by
  refine BV_tops h (fun b h1 _ _ => giv_o h1) (fun f hf => ?_)
  have w := h.2.1 f hf
  have e : ft (o_giv E G n) f = ft E f := by unfold ft; rw [giv_o (by decide)]
  rw [giv_o (by decide), e]
  exact ⟨w.2.2.1, w.2.2.2.1⟩
theorem lp_MA_bg {P st0 C : am_S} {y : Int32} {m : Nat} {f : am_S → Prop} (hP : PC st0 P) (hV : VP P) (hm : m < nM P) (hB : BV P C) (hn : fn C = 1) (hf : fm C 0 = m) (hb0 : fb C 0 = 0) : ∀ (d j : Nat) (x : Int32) (st : am_S), x.toInt = (j : Int) → (j : Int) + d = (P 3 m).toInt → QC P st0 (o_giv C (st0 2141) j) st → (∀ q : {q : am_S // QC P st0 (o_giv C (st0 2141) (P 3 m).toInt.toNat) q}, f q.1) → am_AW c_MA_begin g_MA_begin (fun o' st' => am_ok none o' ∧ am_kv f o' st') 24 [some (.inr (.inl 127)), some (.inl y), some (.inr (.inl 141)), some (.inl x)] [] st := by
  have vm := (hV.2.2 m hm).2.1
  intro d
  induction d with
  | zero =>
    intro j x st hx hj hq h
    have ej : (P 3 m).toInt.toNat = j := by omega
    rw [ej] at h
    have kQ := h ⟨st, hq⟩
    clear h
    have hPs := pc_oR hP hq.1
    obtain ⟨t1, t2, t3, t4, -⟩ := RC_tw hPs hV (BV_giv hB) hq.2 (show 0 < fn (o_giv C (st0 2141) j) by unfold fn; rw [giv_o (by decide)]; unfold fn at hn; omega)
    have lf0 : lf (o_giv C (st0 2141) j) = 0 := by unfold lf fn; rw [giv_o (by decide)]; unfold fn at hn; omega
    have fm0 : fm (o_giv C (st0 2141) j) 0 = m := by unfold fm; rw [giv_o (by decide)]; exact hf
    have hge : st 69 (st 0 (st 518 0).toNatClampNeg).toNatClampNeg ≤ x := by
      rw [t3, lf0, fm0, hPs.1.2.2.2.1, i32_le]
      omega
    refine r_il3 (q := 25) d_MA_begin_24 rfl ?_
    refine r_al0 (q := 26) d_MA_begin_25 rfl ?_
    refine gt_MA_latest (q := 29) d_MA_begin_26 rfl rfl ?_
    refine gt_FR_body (q := 32) d_MA_begin_29 rfl (by first | exact t2 | exact t4 | assumption | (refine pc_of hP ?_; (repeat (first | assumption | exact md_refl | refine md_up ?_ rfl | refine md_fill ?_ rfl | (unfold ik; refine md_up ?_ rfl))); done) | (refine pc_oS hP ?_; (repeat (first | assumption | exact md_refl | refine md_up ?_ rfl | refine md_fill ?_ rfl | (unfold ik; refine md_up ?_ rfl))); done) | (refine pm_of hP ?_; (repeat (first | assumption | exact md_refl | refine md_up ?_ rfl | refine md_fill ?_ rfl | (unfold ik; refine md_up ?_ rfl))); done) | omega | decide | ((try simp +decide only [b01, b10, b11, am_up, ik, and_true, and_false, true_and, false_and, if_true, if_false, nn_eq] at *) <;> (try simp only [sw_or, sw_all, or_false, and_true, i32_lt, i32_le, i32_eq, i32_addw, i32_subw, i32_mulw, Int32.reduceToInt] at *) <;> omega) | (apply_assumption; done)) rfl ?_
    refine gt_ME_arguments (q := 35) d_MA_begin_32 rfl (by first | exact t2 | exact t4 | assumption | (refine pc_of hP ?_; (repeat (first | assumption | exact md_refl | refine md_up ?_ rfl | refine md_fill ?_ rfl | (unfold ik; refine md_up ?_ rfl))); done) | (refine pc_oS hP ?_; (repeat (first | assumption | exact md_refl | refine md_up ?_ rfl | refine md_fill ?_ rfl | (unfold ik; refine md_up ?_ rfl))); done) | (refine pm_of hP ?_; (repeat (first | assumption | exact md_refl | refine md_up ?_ rfl | refine md_fill ?_ rfl | (unfold ik; refine md_up ?_ rfl))); done) | omega | decide | ((try simp +decide only [b01, b10, b11, am_up, ik, and_true, and_false, true_and, false_and, if_true, if_false, nn_eq] at *) <;> (try simp only [sw_or, sw_all, or_false, and_true, i32_lt, i32_le, i32_eq, i32_addw, i32_subw, i32_mulw, Int32.reduceToInt] at *) <;> omega) | (apply_assumption; done)) rfl ?_
    refine r_cge (tgt := 61) (q := 38) d_MA_begin_35 rfl rfl (fun e35 => ?_) (fun e35 => ?_)
    · skip
      refine r_rv d_MA_begin_61 ?_
      exact kQ
    · skip
      exact absurd hge e35
  | succ d ih =>
    intro j x st hx hj hq h
    have hPs := pc_oR hP hq.1
    obtain ⟨t1, t2, t3, t4, t5, -⟩ := RC_tw hPs hV (BV_giv hB) hq.2 (show 0 < fn (o_giv C (st0 2141) j) by unfold fn; rw [giv_o (by decide)]; unfold fn at hn; omega)
    have lf0 : lf (o_giv C (st0 2141) j) = 0 := by unfold lf fn; rw [giv_o (by decide)]; unfold fn at hn; omega
    have fm0 : fm (o_giv C (st0 2141) j) 0 = m := by unfold fm; rw [giv_o (by decide)]; exact hf
    have fb0 : fb (o_giv C (st0 2141) j) 0 = 0 := by unfold fb; rw [giv_o (by decide)]; exact hb0
    have hlt : ¬ st 69 (st 0 (st 518 0).toNatClampNeg).toNatClampNeg ≤ x := by
      rw [t3, lf0, fm0, hPs.1.2.2.2.1, i32_le]
      omega
    rw [lf0, fb0] at t5
    have ei : (st 2 (st 518 0).toNatClampNeg + x).toInt = (j : Int) := by
      rw [i32_addw, t5, hx]
      omega
    have en : (st 2 (st 518 0).toNatClampNeg + x).toNatClampNeg = j := by
      rw [nn_eq, ei]
      omega
    have exn : x.toNatClampNeg = j := by
      rw [nn_eq, hx]
      omega
    have v1 : vp_in (st 2 (st 518 0).toNatClampNeg + x) 80 := vp_of (by omega) (by omega)
    have v2 : vp_in x 4 := vp_of (by omega) (by omega)
    have ex : (x + 1).toInt = ((j + 1 : Nat) : Int) := by
      rw [i32_addw, hx]
      simp only [Int32.reduceToInt]
      omega
    have k24 : am_AW c_MA_begin g_MA_begin (fun o' st' => am_ok none o' ∧ am_kv f o' st') 24 [some (.inr (.inl 127)), some (.inl y), some (.inr (.inl 141)), some (.inl (x + 1))] [] (am_up st 2137 (st 2 (st 518 0).toNatClampNeg + x).toNatClampNeg (st 2141 x.toNatClampNeg)) := by
      refine ih (j + 1) (x + 1) _ ex (by omega) ⟨md_up hq.1 rfl, ?_⟩ h
      rw [en, exn, hq.1 2141 rfl, ← giv_s]
      exact RC_cell hq.2
    clear h
    refine r_il3 (q := 25) d_MA_begin_24 rfl ?_
    refine r_al0 (q := 26) d_MA_begin_25 rfl ?_
    refine gt_MA_latest (q := 29) d_MA_begin_26 rfl rfl ?_
    refine gt_FR_body (q := 32) d_MA_begin_29 rfl (by first | exact t2 | exact t4 | assumption | (refine pc_of hP ?_; (repeat (first | assumption | exact md_refl | refine md_up ?_ rfl | refine md_fill ?_ rfl | (unfold ik; refine md_up ?_ rfl))); done) | (refine pc_oS hP ?_; (repeat (first | assumption | exact md_refl | refine md_up ?_ rfl | refine md_fill ?_ rfl | (unfold ik; refine md_up ?_ rfl))); done) | (refine pm_of hP ?_; (repeat (first | assumption | exact md_refl | refine md_up ?_ rfl | refine md_fill ?_ rfl | (unfold ik; refine md_up ?_ rfl))); done) | omega | decide | ((try simp +decide only [b01, b10, b11, am_up, ik, and_true, and_false, true_and, false_and, if_true, if_false, nn_eq] at *) <;> (try simp only [sw_or, sw_all, or_false, and_true, i32_lt, i32_le, i32_eq, i32_addw, i32_subw, i32_mulw, Int32.reduceToInt] at *) <;> omega) | (apply_assumption; done)) rfl ?_
    refine gt_ME_arguments (q := 35) d_MA_begin_32 rfl (by first | exact t2 | exact t4 | assumption | (refine pc_of hP ?_; (repeat (first | assumption | exact md_refl | refine md_up ?_ rfl | refine md_fill ?_ rfl | (unfold ik; refine md_up ?_ rfl))); done) | (refine pc_oS hP ?_; (repeat (first | assumption | exact md_refl | refine md_up ?_ rfl | refine md_fill ?_ rfl | (unfold ik; refine md_up ?_ rfl))); done) | (refine pm_of hP ?_; (repeat (first | assumption | exact md_refl | refine md_up ?_ rfl | refine md_fill ?_ rfl | (unfold ik; refine md_up ?_ rfl))); done) | omega | decide | ((try simp +decide only [b01, b10, b11, am_up, ik, and_true, and_false, true_and, false_and, if_true, if_false, nn_eq] at *) <;> (try simp only [sw_or, sw_all, or_false, and_true, i32_lt, i32_le, i32_eq, i32_addw, i32_subw, i32_mulw, Int32.reduceToInt] at *) <;> omega) | (apply_assumption; done)) rfl ?_
    refine r_cge (tgt := 61) (q := 38) d_MA_begin_35 rfl rfl (fun e35 => ?_) (fun e35 => ?_)
    · skip
      first | exact k24 | exact absurd e35 hlt
    · skip
      refine r_al0 (q := 39) d_MA_begin_38 rfl ?_
      refine gt_MA_cells (q := 42) d_MA_begin_39 rfl rfl ?_
      refine r_al0 (q := 43) d_MA_begin_42 rfl ?_
      refine gt_MA_latest (q := 46) d_MA_begin_43 rfl rfl ?_
      refine gt_FR_firstCell (q := 49) d_MA_begin_46 rfl (by first | exact t2 | exact t4 | assumption | (refine pc_of hP ?_; (repeat (first | assumption | exact md_refl | refine md_up ?_ rfl | refine md_fill ?_ rfl | (unfold ik; refine md_up ?_ rfl))); done) | (refine pc_oS hP ?_; (repeat (first | assumption | exact md_refl | refine md_up ?_ rfl | refine md_fill ?_ rfl | (unfold ik; refine md_up ?_ rfl))); done) | (refine pm_of hP ?_; (repeat (first | assumption | exact md_refl | refine md_up ?_ rfl | refine md_fill ?_ rfl | (unfold ik; refine md_up ?_ rfl))); done) | omega | decide | ((try simp +decide only [b01, b10, b11, am_up, ik, and_true, and_false, true_and, false_and, if_true, if_false, nn_eq] at *) <;> (try simp only [sw_or, sw_all, or_false, and_true, i32_lt, i32_le, i32_eq, i32_addw, i32_subw, i32_mulw, Int32.reduceToInt] at *) <;> omega) | (apply_assumption; done)) rfl ?_
      refine r_il3 (q := 50) d_MA_begin_49 rfl ?_
      refine r_iadd (q := 51) d_MA_begin_50 rfl ?_
      refine r_al2 (q := 52) d_MA_begin_51 rfl ?_
      refine r_il3 (q := 53) d_MA_begin_52 rfl ?_
      refine ld_141 (q := 54) d_MA_begin_53 ?_ rfl ?_
      · first | with_reducible exact v1 | with_reducible exact v2
      refine sv_137 (q := 55) d_MA_begin_54 ?_ rfl ?_
      · first | with_reducible exact v1 | with_reducible exact v2
      refine r_in3 (v := 1) (q := 58) d_MA_begin_55 rfl rfl ?_
      refine am_go (tgt := 24) d_MA_begin_58 rfl ?_
      first | exact k24 | exact absurd e35 hlt
theorem md_fillR {s : am_S} {b i n : Nat} {v : Int32} (hb : cR b = true) : am_md cR s (am_fill s b i n v) := md_fill md_refl hb
theorem RC_clr {P st A : am_S} : RC P (am_up (am_fill (am_up (am_up (am_up st 521 0 1) 522 0 0) 519 0 0) 2139 0 8 0) 520 0 0) (o_clr A) := by
  refine ⟨⟨rfl, fun w => absurd w (by rw [clr_n]; omega)⟩, fun f w => absurd w (by rw [clr_n]; omega), fun f w => absurd w (by rw [clr_n]; omega), fun i hi => ?_, ⟨rfl, fun i hi => ?_⟩, rfl, rfl⟩
  · rw [am_up_bank (by decide)]
    unfold o_clr
    rw [am_up_bank (by decide), am_up_bank (by decide), am_up_bank (by decide), am_up_bank (by decide), am_up_bank (by decide)]
    unfold am_fill
    rw [if_pos (by omega), if_pos (by omega)]
  · have e : o_clr A 606 0 = 0 := rfl
    rw [e] at hi
    simp only [Int32.reduceToInt] at hi
    omega
theorem sp_MA_begin {P : am_S} (A : am_S) {m : Nat} {st : am_S} {f : am_S → Prop} (c1 : PC st P) (c2 : VP P) (c3 : m < nM P) (h1 : ∀ q : {q : am_S // am_md cR st q ∧ RC P q (o_beg P A m (st 2141))}, f q.1) : wp_MA_begin [.inr (.inl 127), .inl (nI m), .inr (.inl 141)] st (am_kv f) := by
  refine ⟨⟨rfl, Nat.le_of_ble_eq_true rfl⟩, ?_⟩
  have m8 := (cf c1 c2 c3).1
  have nc : (nI m).toNatClampNeg = m := nI_c (by omega)
  have vm : vp_in (nI m) 8 := vp_of (by rw [nI_t (by omega)]; omega) (by rw [nI_t (by omega)]; omega)
  have hy : 0 ≤ (nI m).toInt ∧ (nI m).toNatClampNeg < nM P := ⟨by rw [nI_t (by omega)]; omega, by rw [nc]; exact c3⟩
  have bo := BV_open (A := o_clr A) c2 BV_clr hy (by rw [nc]; exact beg_fit c2 c3)
  have on := (open_n (P := P) (A := o_clr A) (y := nI m) BV_clr (by rw [clr_u]; decide)).1
  rw [clr_n] at on
  have of := @open_f P (o_clr A) (nI m) 0
  rw [clr_n] at of
  have hf0 : fm (o_open P (o_clr A) (nI m)) 0 = m := by
    unfold fm
    rw [of.1, if_pos rfl, nc]
  have hb0 : fb (o_open P (o_clr A) (nI m)) 0 = 0 := by
    unfold fb
    rw [of.2.2.2, if_pos rfl, clr_u]
    rfl
  have v3 := (c2.2.2 m c3).2.1.1
  have fit := beg_fit (A := A) c2 c3
  have bc := @BV_clr P A
  have q0 : QC P st (o_clr A) (am_up (am_fill (am_up (am_up (am_up st 521 0 1) 522 0 0) 519 0 0) 2139 0 8 0) 520 0 0) := ⟨md_up (md_fill (md_up (md_up (md_up md_refl rfl) rfl) rfl) rfl) rfl, RC_clr⟩
  have k24 : ∀ q, QC P st (o_open P (o_clr A) (nI m)) q → am_AW c_MA_begin g_MA_begin (fun o' st' => am_ok none o' ∧ am_kv f o' st') 24 [some (.inr (.inl 127)), some (.inl (nI m)), some (.inr (.inl 141)), some (.inl 0)] [] q := by
    intro q hq
    refine lp_MA_bg c1 c2 c3 bo on hf0 hb0 (P 3 m).toInt.toNat 0 0 q rfl (by omega) (by rw [giv_0]; exact hq) (fun s => h1 ⟨s.1, s.2.1, s.2.2⟩)
  have k24' : ∀ q, QC P st (o_open P (o_clr A) (nI (nI m).toNatClampNeg)) q → am_AW c_MA_begin g_MA_begin (fun o' st' => am_ok none o' ∧ am_kv f o' st') 24 [some (.inr (.inl 127)), some (.inl (nI m)), some (.inr (.inl 141)), some (.inl 0)] [] q := by
    rw [nc]
    exact k24
  have c3' := hy.2
  have fit' : (o_clr A 608 0).toInt + (ned P (nI m).toNatClampNeg).toInt ≤ 80 := by rw [nc]; exact fit
  clear h1 k24
  generalize hS : am_up (am_fill (am_up (am_up (am_up st 521 0 1) 522 0 0) 519 0 0) 2139 0 8 0) 520 0 0 = S at *
  refine r_al0 (q := 1) d_MA_begin_0 rfl ?_
  refine r_ic (v := 1) (q := 2) d_MA_begin_1 rfl rfl ?_
  refine r_vv1 mo_MA_end d_MA_begin_2 rfl rfl rfl (q := 5) rfl ?_
  refine sp_MA_end ?_
  refine r_al0 (q := 6) d_MA_begin_5 rfl ?_
  refine r_vv0 mo_MA_emptyStaticsAndHeap d_MA_begin_6 rfl rfl rfl (q := 9) rfl ?_
  refine sp_MA_emptyStaticsAndHeap ?_
  refine r_al0 (q := 10) d_MA_begin_9 rfl ?_
  refine r_al0 (q := 11) d_MA_begin_10 rfl ?_
  refine gt_MA_code (q := 14) d_MA_begin_11 rfl rfl ?_
  refine gt_CO_methods (q := 17) d_MA_begin_14 rfl rfl ?_
  refine r_il1 (q := 18) d_MA_begin_17 rfl ?_
  refine ld_130 (q := 19) d_MA_begin_18 ?_ rfl ?_
  · exact vm
  refine r_vv1 mo_MA_openFrame d_MA_begin_19 rfl rfl rfl (q := 22) rfl ?_
  refine sp_MA_openFrame (P := P) (st0 := st) (A := o_clr A) (m := (nI m).toNatClampNeg) (by first | exact c1 | exact c3' | exact fit' | exact bc | exact hS ▸ q0 | assumption | (refine pc_of hP ?_; (repeat (first | assumption | exact md_refl | refine md_up ?_ rfl | refine md_fill ?_ rfl | (unfold ik; refine md_up ?_ rfl))); done) | (refine pc_oS hP ?_; (repeat (first | assumption | exact md_refl | refine md_up ?_ rfl | refine md_fill ?_ rfl | (unfold ik; refine md_up ?_ rfl))); done) | (refine pm_of hP ?_; (repeat (first | assumption | exact md_refl | refine md_up ?_ rfl | refine md_fill ?_ rfl | (unfold ik; refine md_up ?_ rfl))); done) | omega | decide | ((try simp +decide only [b01, b10, b11, am_up, ik, and_true, and_false, true_and, false_and, if_true, if_false, nn_eq] at *) <;> (try simp only [sw_or, sw_all, or_false, and_true, i32_lt, i32_le, i32_eq, i32_addw, i32_subw, i32_mulw, Int32.reduceToInt] at *) <;> omega) | (apply_assumption; done)) (by first | exact c1 | exact c3' | exact fit' | exact bc | exact hS ▸ q0 | assumption | (refine pc_of hP ?_; (repeat (first | assumption | exact md_refl | refine md_up ?_ rfl | refine md_fill ?_ rfl | (unfold ik; refine md_up ?_ rfl))); done) | (refine pc_oS hP ?_; (repeat (first | assumption | exact md_refl | refine md_up ?_ rfl | refine md_fill ?_ rfl | (unfold ik; refine md_up ?_ rfl))); done) | (refine pm_of hP ?_; (repeat (first | assumption | exact md_refl | refine md_up ?_ rfl | refine md_fill ?_ rfl | (unfold ik; refine md_up ?_ rfl))); done) | omega | decide | ((try simp +decide only [b01, b10, b11, am_up, ik, and_true, and_false, true_and, false_and, if_true, if_false, nn_eq] at *) <;> (try simp only [sw_or, sw_all, or_false, and_true, i32_lt, i32_le, i32_eq, i32_addw, i32_subw, i32_mulw, Int32.reduceToInt] at *) <;> omega) | (apply_assumption; done)) (by first | exact c1 | exact c3' | exact fit' | exact bc | exact hS ▸ q0 | assumption | (refine pc_of hP ?_; (repeat (first | assumption | exact md_refl | refine md_up ?_ rfl | refine md_fill ?_ rfl | (unfold ik; refine md_up ?_ rfl))); done) | (refine pc_oS hP ?_; (repeat (first | assumption | exact md_refl | refine md_up ?_ rfl | refine md_fill ?_ rfl | (unfold ik; refine md_up ?_ rfl))); done) | (refine pm_of hP ?_; (repeat (first | assumption | exact md_refl | refine md_up ?_ rfl | refine md_fill ?_ rfl | (unfold ik; refine md_up ?_ rfl))); done) | omega | decide | ((try simp +decide only [b01, b10, b11, am_up, ik, and_true, and_false, true_and, false_and, if_true, if_false, nn_eq] at *) <;> (try simp only [sw_or, sw_all, or_false, and_true, i32_lt, i32_le, i32_eq, i32_addw, i32_subw, i32_mulw, Int32.reduceToInt] at *) <;> omega) | (apply_assumption; done)) (by first | exact c1 | exact c3' | exact fit' | exact bc | exact hS ▸ q0 | assumption | (refine pc_of hP ?_; (repeat (first | assumption | exact md_refl | refine md_up ?_ rfl | refine md_fill ?_ rfl | (unfold ik; refine md_up ?_ rfl))); done) | (refine pc_oS hP ?_; (repeat (first | assumption | exact md_refl | refine md_up ?_ rfl | refine md_fill ?_ rfl | (unfold ik; refine md_up ?_ rfl))); done) | (refine pm_of hP ?_; (repeat (first | assumption | exact md_refl | refine md_up ?_ rfl | refine md_fill ?_ rfl | (unfold ik; refine md_up ?_ rfl))); done) | omega | decide | ((try simp +decide only [b01, b10, b11, am_up, ik, and_true, and_false, true_and, false_and, if_true, if_false, nn_eq] at *) <;> (try simp only [sw_or, sw_all, or_false, and_true, i32_lt, i32_le, i32_eq, i32_addw, i32_subw, i32_mulw, Int32.reduceToInt] at *) <;> omega) | (apply_assumption; done)) (by first | exact c1 | exact c3' | exact fit' | exact bc | exact hS ▸ q0 | assumption | (refine pc_of hP ?_; (repeat (first | assumption | exact md_refl | refine md_up ?_ rfl | refine md_fill ?_ rfl | (unfold ik; refine md_up ?_ rfl))); done) | (refine pc_oS hP ?_; (repeat (first | assumption | exact md_refl | refine md_up ?_ rfl | refine md_fill ?_ rfl | (unfold ik; refine md_up ?_ rfl))); done) | (refine pm_of hP ?_; (repeat (first | assumption | exact md_refl | refine md_up ?_ rfl | refine md_fill ?_ rfl | (unfold ik; refine md_up ?_ rfl))); done) | omega | decide | ((try simp +decide only [b01, b10, b11, am_up, ik, and_true, and_false, true_and, false_and, if_true, if_false, nn_eq] at *) <;> (try simp only [sw_or, sw_all, or_false, and_true, i32_lt, i32_le, i32_eq, i32_addw, i32_subw, i32_mulw, Int32.reduceToInt] at *) <;> omega) | (apply_assumption; done)) (by first | exact c1 | exact c3' | exact fit' | exact bc | exact hS ▸ q0 | assumption | (refine pc_of hP ?_; (repeat (first | assumption | exact md_refl | refine md_up ?_ rfl | refine md_fill ?_ rfl | (unfold ik; refine md_up ?_ rfl))); done) | (refine pc_oS hP ?_; (repeat (first | assumption | exact md_refl | refine md_up ?_ rfl | refine md_fill ?_ rfl | (unfold ik; refine md_up ?_ rfl))); done) | (refine pm_of hP ?_; (repeat (first | assumption | exact md_refl | refine md_up ?_ rfl | refine md_fill ?_ rfl | (unfold ik; refine md_up ?_ rfl))); done) | omega | decide | ((try simp +decide only [b01, b10, b11, am_up, ik, and_true, and_false, true_and, false_and, if_true, if_false, nn_eq] at *) <;> (try simp only [sw_or, sw_all, or_false, and_true, i32_lt, i32_le, i32_eq, i32_addw, i32_subw, i32_mulw, Int32.reduceToInt] at *) <;> omega) | (apply_assumption; done)) (fun e19 => ?_)
  · skip
    refine r_ic (v := 0) (q := 23) d_MA_begin_22 rfl rfl ?_
    refine r_is3 (q := 24) d_MA_begin_23 rfl ?_
    exact k24' _ e19.2.1

/-! written by wip/whole/gen/walk.py out of 99yk.type.txt -/
/-- what type answers, out of a typing -/
def tp (P : am_S) (T : am_T) (m : Nat) (y z : Int32) : Prop := ((0 ≤ y.toInt ∧ y.toNatClampNeg < nl P m) ∧ ¬ T 2 y.toNatClampNeg = -1) ∧ 0 ≤ z.toInt ∧ z.toInt < (P 4 m).toInt + (T 2 y.toNatClampNeg).toInt
def tu (P : am_S) (T : am_T) (m : Nat) (y z : Int32) : Int32 := if z.toInt < (P 4 m).toInt then ty_at (T 0 y.toNatClampNeg) z else ty_at (T 1 y.toNatClampNeg) (z - P 4 m)
theorem WT_h {P : am_S} {T : am_T} {m p : Nat} (hV : VP P) (hm : m < nM P) (w : WT P m T) (hp : p < nl P m) (e : ¬ T 2 p = -1) : 0 ≤ (T 2 p).toInt ∧ (T 2 p).toInt ≤ 8 := by
  obtain ⟨-, -, h, h1, h2, -⟩ := w p hp e
  have := (hV.2.2 m hm).2.1
  rw [h2, nI_t (by omega)]
  omega
theorem sp_FL_showType {P : am_S} {T : am_T} {m : Nat} {y z : Int32} {st : am_S} {f : Int32 → am_S → Prop} (c1 : PC st P) (c2 : VP P) (c3 : m < nM P) (c4 : LC P m st T) (c5 : WT P m T) (h1 : tp P T m y z → f (tu P T m y z) st) (h2 : ¬ tp P T m y z → f (-1) st) : wp_FL_showType [.inr (.inl 126), .inr (.inl (m + 80)), .inl y, .inl z] st (am_ki f) := by
  refine ⟨⟨rfl, Nat.le_of_ble_eq_true rfl⟩, ?_⟩
  obtain ⟨m8, ⟨v1, v2, v3, v4, v5⟩, v6, -⟩ := cf c1 c2 c3
  have e70 : st 70 m = P 4 m := by rw [c1.1.2.2.2.2.1]
  have e67 : (st 67 m).toInt = (nb P m : Int) := by
    have := (c2.2.2 m c3).1
    unfold nb
    rw [c1.1.2.1]
    omega
  have e68 : (st 68 m).toInt = (nl P m : Int) := by
    have := (c2.2.2 m c3).1
    unfold nl
    rw [c1.1.2.2.1]
    omega
  have hy : ¬ y < 0 → ¬ st 68 m ≤ y → (0 ≤ y.toInt ∧ y.toNatClampNeg < nl P m) ∧ vp_in (st 67 m + y) 200 ∧ (st 67 m + y).toNatClampNeg = nb P m + y.toNatClampNeg := by
    intro w1 w2
    rw [i32_lt] at w1
    rw [i32_le] at w2
    simp only [Int32.reduceToInt] at w1
    have es : (st 67 m + y).toInt = (st 67 m).toInt + y.toInt := by
      rw [i32_addw]
      omega
    refine ⟨⟨by omega, by rw [nn_eq]; omega⟩, vp_of (by omega) (by omega), ?_⟩
    rw [nn_eq, nn_eq, es]
    omega
  have hH : ∀ p, p < nl P m → ¬ T 2 p = -1 → 0 ≤ (T 2 p).toInt ∧ (T 2 p).toInt ≤ 8 := fun p hp e => WT_h c2 c3 c5 hp e
  have hz : ¬ y < 0 → ¬ st 68 m ≤ y → ¬ st 2134 (st 67 m + y).toNatClampNeg = -1 → (st 70 m + st 2134 (st 67 m + y).toNatClampNeg).toInt = (P 4 m).toInt + (T 2 y.toNatClampNeg).toInt := by
    intro w1 w2 w3
    have a := hy w1 w2
    rw [a.2.2, ← (c4 _ a.1.2).2.2] at w3 ⊢
    have := hH _ a.1.2 w3
    rw [i32_addw, e70]
    rw [e70] at v6
    omega
  have kA : y < 0 → f (-1) st := by
    intro w
    refine h2 (fun k => ?_)
    have := k.1.1.1
    rw [i32_lt] at w
    simp only [Int32.reduceToInt] at w
    omega
  have kB : st 68 m ≤ y → f (-1) st := by
    intro w
    refine h2 (fun k => ?_)
    have := k.1.1
    rw [i32_le] at w
    rw [nn_eq] at this
    omega
  have kC : ¬ 0 ≤ z → f (-1) st := by
    intro w
    refine h2 (fun k => ?_)
    have := k.2.1
    rw [i32_le] at w
    simp only [Int32.reduceToInt] at w
    omega
  have kD : ¬ y < 0 → ¬ st 68 m ≤ y → st 2134 (st 67 m + y).toNatClampNeg = -1 → f (-1) st := by
    intro w1 w2 w3
    have a := hy w1 w2
    rw [a.2.2, ← (c4 _ a.1.2).2.2] at w3
    exact h2 (fun k => k.1.2 w3)
  have kF : ¬ y < 0 → ¬ st 68 m ≤ y → st 70 m + st 2134 (st 67 m + y).toNatClampNeg ≤ z → f (-1) st := by
    intro w1 w2 w4
    by_cases w3 : st 2134 (st 67 m + y).toNatClampNeg = -1
    · exact kD w1 w2 w3
    · have e := hz w1 w2 w3
      refine h2 (fun k => ?_)
      have := k.2.2
      rw [i32_le] at w4
      omega
  have kT : ¬ y < 0 → ¬ st 68 m ≤ y → 0 ≤ z → ¬ st 70 m + st 2134 (st 67 m + y).toNatClampNeg ≤ z → ¬ st 2134 (st 67 m + y).toNatClampNeg = -1 → f (tu P T m y z) st := by
    intro w1 w2 w5 w4 w3
    have a := hy w1 w2
    have e := hz w1 w2 w3
    rw [i32_le] at w4 w5
    simp only [Int32.reduceToInt] at w5
    rw [a.2.2, ← (c4 _ a.1.2).2.2] at w3
    exact h1 ⟨⟨a.1, w3⟩, w5, by omega⟩
  have kU : ¬ y < 0 → ¬ st 68 m ≤ y → ¬ st 70 m ≤ z → tu P T m y z = ty_at (st 2132 (st 67 m + y).toNatClampNeg) z := by
    intro w1 w2 w3
    have a := hy w1 w2
    rw [i32_le, e70] at w3
    unfold tu
    rw [if_pos (by omega), a.2.2, (c4 _ a.1.2).1]
  have kV : ¬ y < 0 → ¬ st 68 m ≤ y → st 70 m ≤ z → tu P T m y z = ty_at (st 2133 (st 67 m + y).toNatClampNeg) (z - st 70 m) := by
    intro w1 w2 w3
    have a := hy w1 w2
    rw [i32_le, e70] at w3
    unfold tu
    rw [if_neg (by omega), a.2.2, (c4 _ a.1.2).2.1, e70]
  clear h1 h2
  refine r_il2 (q := 1) d_FL_showType_0 rfl ?_
  refine r_zlt (tgt := 16) (q := 4) d_FL_showType_1 rfl rfl (fun e1 => ?_) (fun e1 => ?_)
  · skip
    refine r_ic (v := -1) (q := 17) d_FL_showType_16 rfl rfl ?_
    refine r_ri d_FL_showType_17 ?_
    first | exact kA e1 | exact kB e9 | exact kC e13 | exact kF e1 e9 e39 | exact kD e1 e9 e50 | exact kD e1 e9 (not_not.mp e50) | exact (kU e1 e9 e60) ▸ kT e1 e9 e13 e39 e50 | exact (kV e1 e9 e60) ▸ kT e1 e9 e13 e39 e50
  · skip
    refine r_il2 (q := 5) d_FL_showType_4 rfl ?_
    refine r_al1 (q := 6) d_FL_showType_5 rfl ?_
    refine gt_ME_length (q := 9) d_FL_showType_6 rfl (by first | exact m8 | assumption | (refine pc_of hP ?_; (repeat (first | assumption | exact md_refl | refine md_up ?_ rfl | refine md_fill ?_ rfl | (unfold ik; refine md_up ?_ rfl))); done) | (refine pc_oS hP ?_; (repeat (first | assumption | exact md_refl | refine md_up ?_ rfl | refine md_fill ?_ rfl | (unfold ik; refine md_up ?_ rfl))); done) | (refine pm_of hP ?_; (repeat (first | assumption | exact md_refl | refine md_up ?_ rfl | refine md_fill ?_ rfl | (unfold ik; refine md_up ?_ rfl))); done) | omega | decide | ((try simp +decide only [b01, b10, b11, am_up, ik, and_true, and_false, true_and, false_and, if_true, if_false, nn_eq] at *) <;> (try simp only [sw_or, sw_all, or_false, and_true, i32_lt, i32_le, i32_eq, i32_addw, i32_subw, i32_mulw, Int32.reduceToInt] at *) <;> omega) | (apply_assumption; done)) rfl ?_
    refine r_cge (tgt := 16) (q := 12) d_FL_showType_9 rfl rfl (fun e9 => ?_) (fun e9 => ?_)
    · skip
      refine r_ic (v := -1) (q := 17) d_FL_showType_16 rfl rfl ?_
      refine r_ri d_FL_showType_17 ?_
      first | exact kA e1 | exact kB e9 | exact kC e13 | exact kF e1 e9 e39 | exact kD e1 e9 e50 | exact kD e1 e9 (not_not.mp e50) | exact (kU e1 e9 e60) ▸ kT e1 e9 e13 e39 e50 | exact (kV e1 e9 e60) ▸ kT e1 e9 e13 e39 e50
    · skip
      refine r_il3 (q := 13) d_FL_showType_12 rfl ?_
      refine r_zge (tgt := 18) (q := 16) d_FL_showType_13 rfl rfl (fun e13 => ?_) (fun e13 => ?_)
      · skip
        refine r_al1 (q := 19) d_FL_showType_18 rfl ?_
        refine gt_ME_first (q := 22) d_FL_showType_19 rfl (by first | exact m8 | assumption | (refine pc_of hP ?_; (repeat (first | assumption | exact md_refl | refine md_up ?_ rfl | refine md_fill ?_ rfl | (unfold ik; refine md_up ?_ rfl))); done) | (refine pc_oS hP ?_; (repeat (first | assumption | exact md_refl | refine md_up ?_ rfl | refine md_fill ?_ rfl | (unfold ik; refine md_up ?_ rfl))); done) | (refine pm_of hP ?_; (repeat (first | assumption | exact md_refl | refine md_up ?_ rfl | refine md_fill ?_ rfl | (unfold ik; refine md_up ?_ rfl))); done) | omega | decide | ((try simp +decide only [b01, b10, b11, am_up, ik, and_true, and_false, true_and, false_and, if_true, if_false, nn_eq] at *) <;> (try simp only [sw_or, sw_all, or_false, and_true, i32_lt, i32_le, i32_eq, i32_addw, i32_subw, i32_mulw, Int32.reduceToInt] at *) <;> omega) | (apply_assumption; done)) rfl ?_
        refine r_il2 (q := 23) d_FL_showType_22 rfl ?_
        refine r_iadd (q := 24) d_FL_showType_23 rfl ?_
        refine r_is4 (q := 26) d_FL_showType_24 rfl ?_
        refine r_il3 (q := 27) d_FL_showType_26 rfl ?_
        refine r_al1 (q := 28) d_FL_showType_27 rfl ?_
        refine gt_ME_locals (q := 31) d_FL_showType_28 rfl (by first | exact m8 | assumption | (refine pc_of hP ?_; (repeat (first | assumption | exact md_refl | refine md_up ?_ rfl | refine md_fill ?_ rfl | (unfold ik; refine md_up ?_ rfl))); done) | (refine pc_oS hP ?_; (repeat (first | assumption | exact md_refl | refine md_up ?_ rfl | refine md_fill ?_ rfl | (unfold ik; refine md_up ?_ rfl))); done) | (refine pm_of hP ?_; (repeat (first | assumption | exact md_refl | refine md_up ?_ rfl | refine md_fill ?_ rfl | (unfold ik; refine md_up ?_ rfl))); done) | omega | decide | ((try simp +decide only [b01, b10, b11, am_up, ik, and_true, and_false, true_and, false_and, if_true, if_false, nn_eq] at *) <;> (try simp only [sw_or, sw_all, or_false, and_true, i32_lt, i32_le, i32_eq, i32_addw, i32_subw, i32_mulw, Int32.reduceToInt] at *) <;> omega) | (apply_assumption; done)) rfl ?_
        refine r_al0 (q := 32) d_FL_showType_31 rfl ?_
        refine gt_FL_foundHeight (q := 35) d_FL_showType_32 rfl rfl ?_
        refine r_il4 (q := 37) d_FL_showType_35 rfl ?_
        refine ld_134 (q := 38) d_FL_showType_37 ?_ rfl ?_
        · exact (hy e1 e9).2.1
        refine r_iadd (q := 39) d_FL_showType_38 rfl ?_
        refine r_cge (tgt := 53) (q := 42) d_FL_showType_39 rfl rfl (fun e39 => ?_) (fun e39 => ?_)
        · skip
          refine r_ic (v := -1) (q := 54) d_FL_showType_53 rfl rfl ?_
          refine r_ri d_FL_showType_54 ?_
          first | exact kA e1 | exact kB e9 | exact kC e13 | exact kF e1 e9 e39 | exact kD e1 e9 e50 | exact kD e1 e9 (not_not.mp e50) | exact (kU e1 e9 e60) ▸ kT e1 e9 e13 e39 e50 | exact (kV e1 e9 e60) ▸ kT e1 e9 e13 e39 e50
        · skip
          refine r_al0 (q := 43) d_FL_showType_42 rfl ?_
          refine gt_FL_foundHeight (q := 46) d_FL_showType_43 rfl rfl ?_
          refine r_il4 (q := 48) d_FL_showType_46 rfl ?_
          refine ld_134 (q := 49) d_FL_showType_48 ?_ rfl ?_
          · exact (hy e1 e9).2.1
          refine r_ic (v := -1) (q := 50) d_FL_showType_49 rfl rfl ?_
          refine r_cne (tgt := 55) (q := 53) d_FL_showType_50 rfl rfl (fun e50 => ?_) (fun e50 => ?_)
          · skip
            refine r_il3 (q := 56) d_FL_showType_55 rfl ?_
            refine r_al1 (q := 57) d_FL_showType_56 rfl ?_
            refine gt_ME_locals (q := 60) d_FL_showType_57 rfl (by first | exact m8 | assumption | (refine pc_of hP ?_; (repeat (first | assumption | exact md_refl | refine md_up ?_ rfl | refine md_fill ?_ rfl | (unfold ik; refine md_up ?_ rfl))); done) | (refine pc_oS hP ?_; (repeat (first | assumption | exact md_refl | refine md_up ?_ rfl | refine md_fill ?_ rfl | (unfold ik; refine md_up ?_ rfl))); done) | (refine pm_of hP ?_; (repeat (first | assumption | exact md_refl | refine md_up ?_ rfl | refine md_fill ?_ rfl | (unfold ik; refine md_up ?_ rfl))); done) | omega | decide | ((try simp +decide only [b01, b10, b11, am_up, ik, and_true, and_false, true_and, false_and, if_true, if_false, nn_eq] at *) <;> (try simp only [sw_or, sw_all, or_false, and_true, i32_lt, i32_le, i32_eq, i32_addw, i32_subw, i32_mulw, Int32.reduceToInt] at *) <;> omega) | (apply_assumption; done)) rfl ?_
            refine r_cge (tgt := 77) (q := 63) d_FL_showType_60 rfl rfl (fun e60 => ?_) (fun e60 => ?_)
            · skip
              refine r_al0 (q := 78) d_FL_showType_77 rfl ?_
              refine gt_FL_foundStack (q := 81) d_FL_showType_78 rfl rfl ?_
              refine r_il4 (q := 83) d_FL_showType_81 rfl ?_
              refine ld_133 (q := 84) d_FL_showType_83 ?_ rfl ?_
              · exact (hy e1 e9).2.1
              refine r_il3 (q := 85) d_FL_showType_84 rfl ?_
              refine r_al1 (q := 86) d_FL_showType_85 rfl ?_
              refine gt_ME_locals (q := 89) d_FL_showType_86 rfl (by first | exact m8 | assumption | (refine pc_of hP ?_; (repeat (first | assumption | exact md_refl | refine md_up ?_ rfl | refine md_fill ?_ rfl | (unfold ik; refine md_up ?_ rfl))); done) | (refine pc_oS hP ?_; (repeat (first | assumption | exact md_refl | refine md_up ?_ rfl | refine md_fill ?_ rfl | (unfold ik; refine md_up ?_ rfl))); done) | (refine pm_of hP ?_; (repeat (first | assumption | exact md_refl | refine md_up ?_ rfl | refine md_fill ?_ rfl | (unfold ik; refine md_up ?_ rfl))); done) | omega | decide | ((try simp +decide only [b01, b10, b11, am_up, ik, and_true, and_false, true_and, false_and, if_true, if_false, nn_eq] at *) <;> (try simp only [sw_or, sw_all, or_false, and_true, i32_lt, i32_le, i32_eq, i32_addw, i32_subw, i32_mulw, Int32.reduceToInt] at *) <;> omega) | (apply_assumption; done)) rfl ?_
              refine r_isub (q := 90) d_FL_showType_89 rfl ?_
              refine r_si2 mo_TY_at d_FL_showType_90 rfl rfl (q := 93) rfl ?_
              refine sp_TY_at ?_
              refine r_ri d_FL_showType_93 ?_
              first | exact kA e1 | exact kB e9 | exact kC e13 | exact kF e1 e9 e39 | exact kD e1 e9 e50 | exact kD e1 e9 (not_not.mp e50) | exact (kU e1 e9 e60) ▸ kT e1 e9 e13 e39 e50 | exact (kV e1 e9 e60) ▸ kT e1 e9 e13 e39 e50
            · skip
              refine r_al0 (q := 64) d_FL_showType_63 rfl ?_
              refine gt_FL_foundLocals (q := 67) d_FL_showType_64 rfl rfl ?_
              refine r_il4 (q := 69) d_FL_showType_67 rfl ?_
              refine ld_132 (q := 70) d_FL_showType_69 ?_ rfl ?_
              · exact (hy e1 e9).2.1
              refine r_il3 (q := 71) d_FL_showType_70 rfl ?_
              refine r_si2 mo_TY_at d_FL_showType_71 rfl rfl (q := 74) rfl ?_
              refine sp_TY_at ?_
              refine am_go (tgt := 93) d_FL_showType_74 rfl ?_
              refine r_ri d_FL_showType_93 ?_
              first | exact kA e1 | exact kB e9 | exact kC e13 | exact kF e1 e9 e39 | exact kD e1 e9 e50 | exact kD e1 e9 (not_not.mp e50) | exact (kU e1 e9 e60) ▸ kT e1 e9 e13 e39 e50 | exact (kV e1 e9 e60) ▸ kT e1 e9 e13 e39 e50
          · skip
            refine r_ic (v := -1) (q := 54) d_FL_showType_53 rfl rfl ?_
            refine r_ri d_FL_showType_54 ?_
            first | exact kA e1 | exact kB e9 | exact kC e13 | exact kF e1 e9 e39 | exact kD e1 e9 e50 | exact kD e1 e9 (not_not.mp e50) | exact (kU e1 e9 e60) ▸ kT e1 e9 e13 e39 e50 | exact (kV e1 e9 e60) ▸ kT e1 e9 e13 e39 e50
      · skip
        refine r_ic (v := -1) (q := 17) d_FL_showType_16 rfl rfl ?_
        refine r_ri d_FL_showType_17 ?_
        first | exact kA e1 | exact kB e9 | exact kC e13 | exact kF e1 e9 e39 | exact kD e1 e9 e50 | exact kD e1 e9 (not_not.mp e50) | exact (kU e1 e9 e60) ▸ kT e1 e9 e13 e39 e50 | exact (kV e1 e9 e60) ▸ kT e1 e9 e13 e39 e50
theorem ix16 {a : Int32} {n : Nat} (ha : a.toInt = (n : Int)) (hn : n < 200) : (16 * a).toInt = 16 * (n : Int) := by
  rw [i32_mulw, ha]
  simp only [Int32.reduceToInt]
  omega
theorem ixz {a z : Int32} {n k : Nat} (ha : a.toInt = (n : Int)) (hn : n < 4000) (hz : z.toInt = (k : Int)) (hk : k < 16) : (a + z).toInt = ((n + k : Nat) : Int) := by
  rw [i32_addw, ha, hz]
  omega
theorem ix8 {a : Int32} {n : Nat} (ha : a.toInt = (n : Int)) (hn : n < 4000) : (a + 8).toInt = ((n + 8 : Nat) : Int) := by
  rw [i32_addw, ha]
  simp only [Int32.reduceToInt]
  omega
theorem ixs {a l : Int32} {n k : Nat} (ha : a.toInt = (n : Int)) (hn : n < 4000) (hl : l.toInt = (k : Int)) (hk : k ≤ n) : (a - l).toInt = ((n - k : Nat) : Int) := by
  rw [i32_subw, ha, hl]
  omega
theorem ixn {a : Int32} {n : Nat} (ha : a.toInt = (n : Int)) : a.toNatClampNeg = n := by
  rw [nn_eq, ha]
  omega
/-- type of the class: of a verified program alone -/
theorem sq_FW_type {P : am_S} {T : Nat → am_T} {x y z : Int32} {st : am_S} {f : Int32 → am_S → Prop} (c1 : PC st P) (c2 : VP P) (c3 : ¬ st 262 0 = 0 → ∀ m, m < nM P → LC P m st (T m) ∧ WT P m (T m)) (h1 : ¬ st 262 0 = 0 ∧ (0 ≤ x.toInt ∧ x.toNatClampNeg < nM P) ∧ tp P (T x.toNatClampNeg) x.toNatClampNeg y z → f (tu P (T x.toNatClampNeg) x.toNatClampNeg y z) st) (h2 : ¬ (¬ st 262 0 = 0 ∧ (0 ≤ x.toInt ∧ x.toNatClampNeg < nM P) ∧ tp P (T x.toNatClampNeg) x.toNatClampNeg y z) → f (-1) st) : wp_FW_type [.inr (.inl 123), .inl x, .inl y, .inl z] st (am_ki f) := by
  refine ⟨⟨rfl, Nat.le_of_ble_eq_true rfl⟩, ?_⟩
  have hm : 0 ≤ x ∧ x < st 323 0 ↔ (0 ≤ x.toInt ∧ x.toNatClampNeg < nM P) := by
    have e : st 323 0 = P 12 0 := by rw [c1.2.2.2.2.2.2.1]
    have := c2.1
    rw [i32_le, i32_lt, e, nn_eq]
    simp only [Int32.reduceToInt]
    unfold nM
    omega
  have v8 : 0 ≤ x ∧ x < st 323 0 → vp_in x 8 ∧ x.toNatClampNeg < 8 := by
    intro w
    have w' := hm.mp w
    have := c2.1
    have h8 : x.toNatClampNeg < 8 := by unfold nM at w'; omega
    refine ⟨vp_of w'.1 ?_, h8⟩
    rw [nn_eq] at h8
    omega
  have k20 : ¬ st 262 0 = 0 → (0 ≤ x ∧ x < st 323 0) → am_AW c_FW_type g_FW_type (fun o st' => am_ok (some .int) o ∧ am_ki f o st') 20 [some (.inr (.inl 123)), some (.inl x), some (.inl y), some (.inl z)] [] st := by
    intro w1 w2
    have w2' := hm.mp w2
    have vx := (v8 w2).1
    have n8 := w2'.2
    have q4 := (c3 w1 _ n8).1
    have q5 := (c3 w1 _ n8).2
    have kT : tp P (T x.toNatClampNeg) x.toNatClampNeg y z → f (tu P (T x.toNatClampNeg) x.toNatClampNeg y z) st := fun k => h1 ⟨w1, w2', k⟩
    have kF : ¬ tp P (T x.toNatClampNeg) x.toNatClampNeg y z → f (-1) st := fun k => h2 (fun w => k w.2.2)
    clear h1 h2 c3 hm v8
    refine r_al0 (q := 21) d_FW_type_20 rfl ?_
    refine gt_FW_flow (q := 24) d_FW_type_21 rfl rfl ?_
    refine r_al0 (q := 25) d_FW_type_24 rfl ?_
    refine gt_FW_code (q := 28) d_FW_type_25 rfl rfl ?_
    refine gt_CO_methods (q := 31) d_FW_type_28 rfl rfl ?_
    refine r_il1 (q := 32) d_FW_type_31 rfl ?_
    refine ld_130 (q := 33) d_FW_type_32 ?_ rfl ?_
    · exact vx
    refine r_il2 (q := 34) d_FW_type_33 rfl ?_
    refine r_il3 (q := 35) d_FW_type_34 rfl ?_
    refine r_vi3 mo_FL_showType d_FW_type_35 rfl rfl rfl (q := 38) rfl ?_
    refine sp_FL_showType (P := P) (T := T x.toNatClampNeg) (m := x.toNatClampNeg) (by first | exact c1 | exact n8 | exact q4 | exact q5 | assumption | (refine pc_of hP ?_; (repeat (first | assumption | exact md_refl | refine md_up ?_ rfl | refine md_fill ?_ rfl | (unfold ik; refine md_up ?_ rfl))); done) | (refine pc_oS hP ?_; (repeat (first | assumption | exact md_refl | refine md_up ?_ rfl | refine md_fill ?_ rfl | (unfold ik; refine md_up ?_ rfl))); done) | (refine pm_of hP ?_; (repeat (first | assumption | exact md_refl | refine md_up ?_ rfl | refine md_fill ?_ rfl | (unfold ik; refine md_up ?_ rfl))); done) | omega | decide | ((try simp +decide only [b01, b10, b11, am_up, ik, and_true, and_false, true_and, false_and, if_true, if_false, nn_eq] at *) <;> (try simp only [sw_or, sw_all, or_false, and_true, i32_lt, i32_le, i32_eq, i32_addw, i32_subw, i32_mulw, Int32.reduceToInt] at *) <;> omega) | (apply_assumption; done)) (by first | exact c1 | exact n8 | exact q4 | exact q5 | assumption | (refine pc_of hP ?_; (repeat (first | assumption | exact md_refl | refine md_up ?_ rfl | refine md_fill ?_ rfl | (unfold ik; refine md_up ?_ rfl))); done) | (refine pc_oS hP ?_; (repeat (first | assumption | exact md_refl | refine md_up ?_ rfl | refine md_fill ?_ rfl | (unfold ik; refine md_up ?_ rfl))); done) | (refine pm_of hP ?_; (repeat (first | assumption | exact md_refl | refine md_up ?_ rfl | refine md_fill ?_ rfl | (unfold ik; refine md_up ?_ rfl))); done) | omega | decide | ((try simp +decide only [b01, b10, b11, am_up, ik, and_true, and_false, true_and, false_and, if_true, if_false, nn_eq] at *) <;> (try simp only [sw_or, sw_all, or_false, and_true, i32_lt, i32_le, i32_eq, i32_addw, i32_subw, i32_mulw, Int32.reduceToInt] at *) <;> omega) | (apply_assumption; done)) (by first | exact c1 | exact n8 | exact q4 | exact q5 | assumption | (refine pc_of hP ?_; (repeat (first | assumption | exact md_refl | refine md_up ?_ rfl | refine md_fill ?_ rfl | (unfold ik; refine md_up ?_ rfl))); done) | (refine pc_oS hP ?_; (repeat (first | assumption | exact md_refl | refine md_up ?_ rfl | refine md_fill ?_ rfl | (unfold ik; refine md_up ?_ rfl))); done) | (refine pm_of hP ?_; (repeat (first | assumption | exact md_refl | refine md_up ?_ rfl | refine md_fill ?_ rfl | (unfold ik; refine md_up ?_ rfl))); done) | omega | decide | ((try simp +decide only [b01, b10, b11, am_up, ik, and_true, and_false, true_and, false_and, if_true, if_false, nn_eq] at *) <;> (try simp only [sw_or, sw_all, or_false, and_true, i32_lt, i32_le, i32_eq, i32_addw, i32_subw, i32_mulw, Int32.reduceToInt] at *) <;> omega) | (apply_assumption; done)) (by first | exact c1 | exact n8 | exact q4 | exact q5 | assumption | (refine pc_of hP ?_; (repeat (first | assumption | exact md_refl | refine md_up ?_ rfl | refine md_fill ?_ rfl | (unfold ik; refine md_up ?_ rfl))); done) | (refine pc_oS hP ?_; (repeat (first | assumption | exact md_refl | refine md_up ?_ rfl | refine md_fill ?_ rfl | (unfold ik; refine md_up ?_ rfl))); done) | (refine pm_of hP ?_; (repeat (first | assumption | exact md_refl | refine md_up ?_ rfl | refine md_fill ?_ rfl | (unfold ik; refine md_up ?_ rfl))); done) | omega | decide | ((try simp +decide only [b01, b10, b11, am_up, ik, and_true, and_false, true_and, false_and, if_true, if_false, nn_eq] at *) <;> (try simp only [sw_or, sw_all, or_false, and_true, i32_lt, i32_le, i32_eq, i32_addw, i32_subw, i32_mulw, Int32.reduceToInt] at *) <;> omega) | (apply_assumption; done)) (by first | exact c1 | exact n8 | exact q4 | exact q5 | assumption | (refine pc_of hP ?_; (repeat (first | assumption | exact md_refl | refine md_up ?_ rfl | refine md_fill ?_ rfl | (unfold ik; refine md_up ?_ rfl))); done) | (refine pc_oS hP ?_; (repeat (first | assumption | exact md_refl | refine md_up ?_ rfl | refine md_fill ?_ rfl | (unfold ik; refine md_up ?_ rfl))); done) | (refine pm_of hP ?_; (repeat (first | assumption | exact md_refl | refine md_up ?_ rfl | refine md_fill ?_ rfl | (unfold ik; refine md_up ?_ rfl))); done) | omega | decide | ((try simp +decide only [b01, b10, b11, am_up, ik, and_true, and_false, true_and, false_and, if_true, if_false, nn_eq] at *) <;> (try simp only [sw_or, sw_all, or_false, and_true, i32_lt, i32_le, i32_eq, i32_addw, i32_subw, i32_mulw, Int32.reduceToInt] at *) <;> omega) | (apply_assumption; done)) (fun e35 => ?_) (fun e35 => ?_)
    · skip
      refine r_ri d_FW_type_38 ?_
      first | exact kT e35 | exact kF e35
    · skip
      refine r_ri d_FW_type_38 ?_
      first | exact kT e35 | exact kF e35
  clear h1
  refine r_al0 (q := 1) d_FW_type_0 rfl ?_
  refine gt_FW_verified (q := 4) d_FW_type_1 rfl rfl ?_
  refine r_zeq (tgt := 18) (q := 7) d_FW_type_4 rfl rfl (fun e4 => ?_) (fun e4 => ?_)
  · skip
    refine r_ic (v := -1) (q := 19) d_FW_type_18 rfl rfl ?_
    refine r_ri d_FW_type_19 ?_
    first | exact h2 (fun w => w.1 e4) | exact h2 (fun w => e12 (hm.mpr w.2.1))
  · skip
    refine r_al0 (q := 8) d_FW_type_7 rfl ?_
    refine gt_FW_code (q := 11) d_FW_type_8 rfl rfl ?_
    refine r_il1 (q := 12) d_FW_type_11 rfl ?_
    refine r_vi1 mo_CO_hasMethod d_FW_type_12 rfl rfl rfl (q := 15) rfl ?_
    refine sq_CO_hasMethod (fun e12 => ?_) (fun e12 => ?_)
    · skip
      refine r_zne (tgt := 20) (q := 18) d_FW_type_15 rfl rfl (fun e15 => ?_) (fun e15 => by exfalso; revert e15; decide)
      exact k20 e4 e12
    · skip
      refine r_zne (tgt := 20) (q := 18) d_FW_type_15 rfl rfl (fun e15 => by exfalso; revert e15; decide) (fun e15 => ?_)
      refine r_ic (v := -1) (q := 19) d_FW_type_18 rfl rfl ?_
      refine r_ri d_FW_type_19 ?_
      first | exact h2 (fun w => w.1 e4) | exact h2 (fun w => e12 (hm.mpr w.2.1))
theorem sq_MO_type {P : am_S} {T : Nat → am_T} {x y z : Int32} {st : am_S} {f : Int32 → am_S → Prop} (c1 : PM st P) (c2 : VP P) (c3 : ¬ st 591 0 = 0 → ∀ m, m < nM P → (MT P m st (T m) ∧ WT P m (T m)) ∧ ∀ q, q < nl P m → st 2154 (nb P m + q) = if nx P m q = q then 1 else 0) (h1 : ¬ st 591 0 = 0 ∧ (0 ≤ x.toInt ∧ x.toNatClampNeg < nM P) ∧ tp P (T x.toNatClampNeg) x.toNatClampNeg y z → f (tu P (T x.toNatClampNeg) x.toNatClampNeg y z) (am_up st 576 0 0)) (h2 : ¬ (¬ st 591 0 = 0 ∧ (0 ≤ x.toInt ∧ x.toNatClampNeg < nM P) ∧ tp P (T x.toNatClampNeg) x.toNatClampNeg y z) → f (-1) (am_up st 576 0 0)) : wp_MO_type [.inr (.inl 128), .inl x, .inl y, .inl z] st (am_ki f) := by
  refine ⟨⟨rfl, Nat.le_of_ble_eq_true rfl⟩, ?_⟩
  have d1 : PM (am_up st 576 0 0) P := c1
  have d3 : ¬ (am_up st 576 0 0) 591 0 = 0 → ∀ m, m < nM P → (MT P m (am_up st 576 0 0) (T m) ∧ WT P m (T m)) ∧ ∀ q, q < nl P m → (am_up st 576 0 0) 2154 (nb P m + q) = if nx P m q = q then 1 else 0 := c3
  have d4 : ¬ (¬ (am_up st 576 0 0) 591 0 = 0 ∧ (0 ≤ x.toInt ∧ x.toNatClampNeg < nM P) ∧ tp P (T x.toNatClampNeg) x.toNatClampNeg y z) → f (-1) (am_up st 576 0 0) := h2
  have d5 : ¬ (am_up st 576 0 0) 591 0 = 0 ∧ (0 ≤ x.toInt ∧ x.toNatClampNeg < nM P) ∧ tp P (T x.toNatClampNeg) x.toNatClampNeg y z → f (tu P (T x.toNatClampNeg) x.toNatClampNeg y z) (am_up st 576 0 0) := h1
  clear c1 c3 h1 h2
  have k5 : am_AW c_MO_type g_MO_type (fun o st' => am_ok (some .int) o ∧ am_ki f o st') 5 [some (.inr (.inl 128)), some (.inl x), some (.inl y), some (.inl z), none] [] (am_up st 576 0 0) := by
    generalize am_up st 576 0 0 = S at *
    have e579 : S 579 0 = P 12 0 := by rw [d1.2.2.2.2.2.2.1]
    have b12 := c2.1
    have hm : 0 ≤ x ∧ x ≤ S 579 0 - 1 ↔ (0 ≤ x.toInt ∧ x.toNatClampNeg < nM P) := by
      rw [i32_le, i32_le, i32_subw, e579, nn_eq]
      simp only [Int32.reduceToInt]
      unfold nM
      omega
    have k26 : ¬ S 591 0 = 0 → (0 ≤ x ∧ x ≤ S 579 0 - 1) → am_AW c_MO_type g_MO_type (fun o st' => am_ok (some .int) o ∧ am_ki f o st') 26 [some (.inr (.inl 128)), some (.inl x), some (.inl y), some (.inl z), none] [] S := by
      intro w1 w2
      have w2' := hm.mp w2
      obtain ⟨⟨q1, q2⟩, q3⟩ := d3 w1 _ w2'.2
      have d6 : ¬ tp P (T x.toNatClampNeg) x.toNatClampNeg y z → f (-1) S := fun k => d4 (fun w => k w.2.2)
      have d7 : tp P (T x.toNatClampNeg) x.toNatClampNeg y z → f (tu P (T x.toNatClampNeg) x.toNatClampNeg y z) S := fun k => d5 ⟨w1, w2', k⟩
      obtain ⟨v8, ⟨v1, v2, v3, v4, v5⟩, v6, v7, -⟩ := mf d1 c2 w2'.2
      have e2143 : (S 2143 x.toNatClampNeg).toInt = (nb P x.toNatClampNeg : Int) := by
        have := (c2.2.2 _ w2'.2).1
        unfold nb
        rw [d1.1.2.1 _ w2'.2]
        omega
      have e2144 : (S 2144 x.toNatClampNeg).toInt = (nl P x.toNatClampNeg : Int) := by
        have := (c2.2.2 _ w2'.2).1
        unfold nl
        rw [d1.1.2.2.1]
        omega
      have e2146 : S 2146 x.toNatClampNeg = P 4 x.toNatClampNeg := by rw [d1.1.2.2.2.2.1]
      have vx : vp_in x 8 := vp_of w2'.1 (by rw [nn_eq] at v8; omega)
      have cx : 0 ≤ x.toInt ∧ x.toInt < 8 := ⟨w2'.1, by rw [nn_eq] at v8; omega⟩
      have hH : ∀ p, p < nl P x.toNatClampNeg → ¬ T x.toNatClampNeg 2 p = -1 → 0 ≤ (T x.toNatClampNeg 2 p).toInt ∧ (T x.toNatClampNeg 2 p).toInt ≤ 8 := fun p hp e => WT_h c2 w2'.2 q2 hp e
      clear d3 d4 d5 hm
      generalize hM : T x.toNatClampNeg = U at *
      -- the address
      have hy : (0 ≤ y ∧ y < S 2144 x.toNatClampNeg) → (0 ≤ y.toInt ∧ y.toNatClampNeg < nl P x.toNatClampNeg) ∧ (S 2143 x.toNatClampNeg + y).toInt = (nb P x.toNatClampNeg : Int) + y.toNatClampNeg ∧ nb P x.toNatClampNeg + y.toNatClampNeg < 200 := by
        intro w
        rw [i32_le, i32_lt] at w
        simp only [Int32.reduceToInt] at w
        have en : (y.toNatClampNeg : Int) = y.toInt := by
          rw [nn_eq]
          omega
        refine ⟨⟨by omega, by omega⟩, ?_, by omega⟩
        rw [i32_addw]
        omega
      have hyn : (0 ≤ y ∧ y < S 2144 x.toNatClampNeg) → (S 2143 x.toNatClampNeg + y).toNatClampNeg = nb P x.toNatClampNeg + y.toNatClampNeg := by
        intro w
        rw [nn_eq, (hy w).2.1]
        omega
      have kA : ¬ ((0 ≤ y ∧ y < S 2144 x.toNatClampNeg) ∧ ¬ S 2154 (S 2143 x.toNatClampNeg + y).toNatClampNeg = 0) → f (-1) S := by
        intro w
        refine d6 (fun k => w ?_)
        have a : 0 ≤ y ∧ y < S 2144 x.toNatClampNeg := by
          have := k.1.1
          rw [nn_eq] at this
          rw [i32_le, i32_lt]
          simp only [Int32.reduceToInt]
          omega
        refine ⟨a, ?_⟩
        have b := (q2 _ (hy a).1.2 k.1.2).1
        unfold bg at b
        rw [hyn a, q3 _ (hy a).1.2, if_pos b]
        decide
      have kB : (0 ≤ y ∧ y < S 2144 x.toNatClampNeg) → S 2155 (S 2143 x.toNatClampNeg + y).toNatClampNeg = 0 → f (-1) S := by
        intro a w
        refine d6 (fun k => ?_)
        rw [hyn a] at w
        rcases q1 _ (hy a).1.2 with r | r
        · exact k.1.2 r.1
        · rw [r.2.1] at w
          exact absurd w (by decide)
      have kC : ¬ 0 ≤ z → f (-1) S := by
        intro w
        refine d6 (fun k => ?_)
        have := k.2.1
        rw [i32_le] at w
        simp only [Int32.reduceToInt] at w
        omega
      have mt : (0 ≤ y ∧ y < S 2144 x.toNatClampNeg) → ¬ S 2155 (S 2143 x.toNatClampNeg + y).toNatClampNeg = 0 → ¬ U 2 y.toNatClampNeg = -1 ∧ S 2157 (S 2143 x.toNatClampNeg + y).toNatClampNeg = U 2 y.toNatClampNeg ∧ (∀ k, k < 8 → S 2156 (16 * (nb P x.toNatClampNeg + y.toNatClampNeg) + k) = ty_at (U 0 y.toNatClampNeg) (nI k)) ∧ ∀ k : Nat, (k : Int) < (U 2 y.toNatClampNeg).toInt → S 2156 (16 * (nb P x.toNatClampNeg + y.toNatClampNeg) + 8 + k) = ty_at (U 1 y.toNatClampNeg) (nI k) := by
        intro a w
        rw [hyn a] at w ⊢
        rcases q1 _ (hy a).1.2 with r | r
        · exact absurd r.2 w
        · exact ⟨r.1, r.2.2⟩
      have kD : (0 ≤ y ∧ y < S 2144 x.toNatClampNeg) → ¬ S 2155 (S 2143 x.toNatClampNeg + y).toNatClampNeg = 0 → S 2146 x.toNatClampNeg + S 2157 (S 2143 x.toNatClampNeg + y).toNatClampNeg ≤ z → f (-1) S := by
        intro a w w3
        obtain ⟨r1, r2, -⟩ := mt a w
        have := hH _ (hy a).1.2 r1
        refine d6 (fun k => ?_)
        have k2 := k.2.2
        rw [r2, i32_le, i32_addw, e2146] at w3
        rw [e2146] at v6
        omega
      have kE : (0 ≤ y ∧ y < S 2144 x.toNatClampNeg) → ¬ S 2155 (S 2143 x.toNatClampNeg + y).toNatClampNeg = 0 → 0 ≤ z → ¬ S 2146 x.toNatClampNeg ≤ z → (0 ≤ (16 * (S 2143 x.toNatClampNeg + y) + z).toInt ∧ (16 * (S 2143 x.toNatClampNeg + y) + z).toInt < 3200) ∧ f (S 2156 (16 * (S 2143 x.toNatClampNeg + y) + z).toNatClampNeg) S := by
        intro a w w3 w4
        obtain ⟨r1, r2, r3, r4⟩ := mt a w
        have h8 := hH _ (hy a).1.2 r1
        rw [i32_le] at w3 w4
        simp only [Int32.reduceToInt] at w3
        have ha := hy a
        have ey : (S 2143 x.toNatClampNeg + y).toInt = ((nb P x.toNatClampNeg + y.toNatClampNeg : Nat) : Int) := by
          rw [ha.2.1]
          omega
        have e16 : (16 * (S 2143 x.toNatClampNeg + y)).toInt = ((16 * (nb P x.toNatClampNeg + y.toNatClampNeg) : Nat) : Int) := by
          rw [ix16 ey ha.2.2]
          omega
        have ezn : z.toInt = ((z.toNatClampNeg : Nat) : Int) := by
          rw [nn_eq]
          omega
        have hl8 : (S 2146 x.toNatClampNeg).toInt ≤ 8 := v6.2.2.2.1
        have hz8 : z.toNatClampNeg < 8 := by omega
        have ei := ixz e16 (by omega) ezn (by omega)
        have en := ixn ei
        refine ⟨by rw [ei]; omega, ?_⟩
        rw [en, r3 _ hz8, nI_back w3]
        have kk := d7 ⟨⟨ha.1, r1⟩, w3, by rw [e2146] at w4; omega⟩
        unfold tu at kk
        rw [if_pos (by rw [e2146] at w4; omega)] at kk
        exact kk
      have kF : (0 ≤ y ∧ y < S 2144 x.toNatClampNeg) → ¬ S 2155 (S 2143 x.toNatClampNeg + y).toNatClampNeg = 0 → 0 ≤ z → S 2146 x.toNatClampNeg ≤ z → ¬ S 2146 x.toNatClampNeg + S 2157 (S 2143 x.toNatClampNeg + y).toNatClampNeg ≤ z → (0 ≤ (16 * (S 2143 x.toNatClampNeg + y) + 8 + z - S 2146 x.toNatClampNeg).toInt ∧ (16 * (S 2143 x.toNatClampNeg + y) + 8 + z - S 2146 x.toNatClampNeg).toInt < 3200) ∧ f (S 2156 (16 * (S 2143 x.toNatClampNeg + y) + 8 + z - S 2146 x.toNatClampNeg).toNatClampNeg) S := by
        intro a w w3 w4 w5
        obtain ⟨r1, r2, r3, r4⟩ := mt a w
        have h8 := hH _ (hy a).1.2 r1
        rw [r2, i32_le, i32_addw] at w5
        rw [i32_le] at w3 w4
        simp only [Int32.reduceToInt] at w3
        have ha := hy a
        have ey : (S 2143 x.toNatClampNeg + y).toInt = ((nb P x.toNatClampNeg + y.toNatClampNeg : Nat) : Int) := by
          rw [ha.2.1]
          omega
        have e16 : (16 * (S 2143 x.toNatClampNeg + y)).toInt = ((16 * (nb P x.toNatClampNeg + y.toNatClampNeg) : Nat) : Int) := by
          rw [ix16 ey ha.2.2]
          omega
        have hl8 : 0 ≤ (S 2146 x.toNatClampNeg).toInt ∧ (S 2146 x.toNatClampNeg).toInt ≤ 8 := by omega
        have hzl : z.toInt < (S 2146 x.toNatClampNeg).toInt + (U 2 y.toNatClampNeg).toInt := by omega
        clear w5
        have ezn : z.toInt = ((z.toNatClampNeg : Nat) : Int) := by
          rw [nn_eq]
          omega
        have eln : (S 2146 x.toNatClampNeg).toInt = (((S 2146 x.toNatClampNeg).toInt.toNat : Nat) : Int) := by omega
        have e1 := ix8 e16 (by omega)
        have e2 := ixz e1 (by omega) ezn (by omega)
        have ei := ixs e2 (by omega) eln (by omega)
        have ez := ixs ezn (by omega) eln (by omega)
        have en := ixn ei
        have ek : 16 * (nb P x.toNatClampNeg + y.toNatClampNeg) + 8 + z.toNatClampNeg - (S 2146 x.toNatClampNeg).toInt.toNat = 16 * (nb P x.toNatClampNeg + y.toNatClampNeg) + 8 + (z.toNatClampNeg - (S 2146 x.toNatClampNeg).toInt.toNat) := by omega
        have ezk : nI (z.toNatClampNeg - (S 2146 x.toNatClampNeg).toInt.toNat) = z - S 2146 x.toNatClampNeg := by
          rw [← ixn ez]
          exact nI_back (by rw [ez]; omega)
        refine ⟨by rw [ei]; omega, ?_⟩
        rw [en, ek, r4 _ (by omega), ezk]
        have kk := d7 ⟨⟨ha.1, r1⟩, w3, by rw [← e2146]; omega⟩
        unfold tu at kk
        rw [← e2146, if_neg (by omega)] at kk
        exact kk
      have v3200 : (S 2143 x.toNatClampNeg).toInt + (S 2144 x.toNatClampNeg).toInt ≤ 200 := by omega
      clear d6 d7 q1 q2 q3 hH
      refine r_al0 (q := 27) d_MO_type_26 rfl ?_
      refine r_il1 (q := 28) d_MO_type_27 rfl ?_
      refine r_il2 (q := 29) d_MO_type_28 rfl ?_
      refine r_vi2 mo_MO_isStart d_MO_type_29 rfl rfl rfl (q := 32) rfl ?_
      refine sp_MO_isStart (by first | exact cx | exact v1 | exact v3200 | assumption | (refine pc_of hP ?_; (repeat (first | assumption | exact md_refl | refine md_up ?_ rfl | refine md_fill ?_ rfl | (unfold ik; refine md_up ?_ rfl))); done) | (refine pc_oS hP ?_; (repeat (first | assumption | exact md_refl | refine md_up ?_ rfl | refine md_fill ?_ rfl | (unfold ik; refine md_up ?_ rfl))); done) | (refine pm_of hP ?_; (repeat (first | assumption | exact md_refl | refine md_up ?_ rfl | refine md_fill ?_ rfl | (unfold ik; refine md_up ?_ rfl))); done) | omega | decide | ((try simp +decide only [b01, b10, b11, am_up, ik, and_true, and_false, true_and, false_and, if_true, if_false, nn_eq] at *) <;> (try simp only [sw_or, sw_all, or_false, and_true, i32_lt, i32_le, i32_eq, i32_addw, i32_subw, i32_mulw, Int32.reduceToInt] at *) <;> omega) | (apply_assumption; done)) (by first | exact cx | exact v1 | exact v3200 | assumption | (refine pc_of hP ?_; (repeat (first | assumption | exact md_refl | refine md_up ?_ rfl | refine md_fill ?_ rfl | (unfold ik; refine md_up ?_ rfl))); done) | (refine pc_oS hP ?_; (repeat (first | assumption | exact md_refl | refine md_up ?_ rfl | refine md_fill ?_ rfl | (unfold ik; refine md_up ?_ rfl))); done) | (refine pm_of hP ?_; (repeat (first | assumption | exact md_refl | refine md_up ?_ rfl | refine md_fill ?_ rfl | (unfold ik; refine md_up ?_ rfl))); done) | omega | decide | ((try simp +decide only [b01, b10, b11, am_up, ik, and_true, and_false, true_and, false_and, if_true, if_false, nn_eq] at *) <;> (try simp only [sw_or, sw_all, or_false, and_true, i32_lt, i32_le, i32_eq, i32_addw, i32_subw, i32_mulw, Int32.reduceToInt] at *) <;> omega) | (apply_assumption; done)) (by first | exact cx | exact v1 | exact v3200 | assumption | (refine pc_of hP ?_; (repeat (first | assumption | exact md_refl | refine md_up ?_ rfl | refine md_fill ?_ rfl | (unfold ik; refine md_up ?_ rfl))); done) | (refine pc_oS hP ?_; (repeat (first | assumption | exact md_refl | refine md_up ?_ rfl | refine md_fill ?_ rfl | (unfold ik; refine md_up ?_ rfl))); done) | (refine pm_of hP ?_; (repeat (first | assumption | exact md_refl | refine md_up ?_ rfl | refine md_fill ?_ rfl | (unfold ik; refine md_up ?_ rfl))); done) | omega | decide | ((try simp +decide only [b01, b10, b11, am_up, ik, and_true, and_false, true_and, false_and, if_true, if_false, nn_eq] at *) <;> (try simp only [sw_or, sw_all, or_false, and_true, i32_lt, i32_le, i32_eq, i32_addw, i32_subw, i32_mulw, Int32.reduceToInt] at *) <;> omega) | (apply_assumption; done)) (fun e29 => ?_) (fun e29 => ?_)
      · skip
        refine r_zeq (tgt := 55) (q := 35) d_MO_type_32 rfl rfl (fun e32 => by exfalso; revert e32; decide) (fun e32 => ?_)
        refine r_al0 (q := 36) d_MO_type_35 rfl ?_
        refine gt_MO_has (q := 39) d_MO_type_36 rfl rfl ?_
        refine r_al0 (q := 40) d_MO_type_39 rfl ?_
        refine gt_MO_begin (q := 43) d_MO_type_40 rfl rfl ?_
        refine r_il1 (q := 44) d_MO_type_43 rfl ?_
        refine ld_143 (q := 45) d_MO_type_44 ?_ rfl ?_
        · first | with_reducible exact vx | exact vp_of (by have := hy e29.1; omega) (by have := hy e29.1; omega) | exact vp_of (kE e29.1 e48 e52 e74).1.1 (by have := (kE e29.1 e48 e52 e74).1; omega) | exact vp_of (kF e29.1 e48 e52 e74 e105).1.1 (by have := (kF e29.1 e48 e52 e74 e105).1; omega)
        refine r_il2 (q := 46) d_MO_type_45 rfl ?_
        refine r_iadd (q := 47) d_MO_type_46 rfl ?_
        refine ld_155 (q := 48) d_MO_type_47 ?_ rfl ?_
        · first | with_reducible exact vx | exact vp_of (by have := hy e29.1; omega) (by have := hy e29.1; omega) | exact vp_of (kE e29.1 e48 e52 e74).1.1 (by have := (kE e29.1 e48 e52 e74).1; omega) | exact vp_of (kF e29.1 e48 e52 e74 e105).1.1 (by have := (kF e29.1 e48 e52 e74 e105).1; omega)
        refine r_zeq (tgt := 55) (q := 51) d_MO_type_48 rfl rfl (fun e48 => ?_) (fun e48 => ?_)
        · skip
          refine r_ic (v := -1) (q := 56) d_MO_type_55 rfl rfl ?_
          refine r_ri d_MO_type_56 ?_
          first | exact kA e29 | exact kB e29.1 e48 | exact kC e52 | exact (kE e29.1 e48 e52 e74).2 | exact kD e29.1 e48 e105 | exact (kF e29.1 e48 e52 e74 e105).2
        · skip
          refine r_il3 (q := 52) d_MO_type_51 rfl ?_
          refine r_zge (tgt := 57) (q := 55) d_MO_type_52 rfl rfl (fun e52 => ?_) (fun e52 => ?_)
          · skip
            refine r_al0 (q := 58) d_MO_type_57 rfl ?_
            refine gt_MO_begin (q := 61) d_MO_type_58 rfl rfl ?_
            refine r_il1 (q := 62) d_MO_type_61 rfl ?_
            refine ld_143 (q := 63) d_MO_type_62 ?_ rfl ?_
            · first | with_reducible exact vx | exact vp_of (by have := hy e29.1; omega) (by have := hy e29.1; omega) | exact vp_of (kE e29.1 e48 e52 e74).1.1 (by have := (kE e29.1 e48 e52 e74).1; omega) | exact vp_of (kF e29.1 e48 e52 e74 e105).1.1 (by have := (kF e29.1 e48 e52 e74 e105).1; omega)
            refine r_il2 (q := 64) d_MO_type_63 rfl ?_
            refine r_iadd (q := 65) d_MO_type_64 rfl ?_
            refine r_is4 (q := 67) d_MO_type_65 rfl ?_
            refine r_il3 (q := 68) d_MO_type_67 rfl ?_
            refine r_al0 (q := 69) d_MO_type_68 rfl ?_
            refine gt_MO_locals (q := 72) d_MO_type_69 rfl rfl ?_
            refine r_il1 (q := 73) d_MO_type_72 rfl ?_
            refine ld_146 (q := 74) d_MO_type_73 ?_ rfl ?_
            · first | with_reducible exact vx | exact vp_of (by have := hy e29.1; omega) (by have := hy e29.1; omega) | exact vp_of (kE e29.1 e48 e52 e74).1.1 (by have := (kE e29.1 e48 e52 e74).1; omega) | exact vp_of (kF e29.1 e48 e52 e74 e105).1.1 (by have := (kF e29.1 e48 e52 e74 e105).1; omega)
            refine r_cge (tgt := 90) (q := 77) d_MO_type_74 rfl rfl (fun e74 => ?_) (fun e74 => ?_)
            · skip
              refine r_il3 (q := 91) d_MO_type_90 rfl ?_
              refine r_al0 (q := 92) d_MO_type_91 rfl ?_
              refine gt_MO_locals (q := 95) d_MO_type_92 rfl rfl ?_
              refine r_il1 (q := 96) d_MO_type_95 rfl ?_
              refine ld_146 (q := 97) d_MO_type_96 ?_ rfl ?_
              · first | with_reducible exact vx | exact vp_of (by have := hy e29.1; omega) (by have := hy e29.1; omega) | exact vp_of (kE e29.1 e48 e52 e74).1.1 (by have := (kE e29.1 e48 e52 e74).1; omega) | exact vp_of (kF e29.1 e48 e52 e74 e105).1.1 (by have := (kF e29.1 e48 e52 e74 e105).1; omega)
              refine r_al0 (q := 98) d_MO_type_97 rfl ?_
              refine gt_MO_high (q := 101) d_MO_type_98 rfl rfl ?_
              refine r_il4 (q := 103) d_MO_type_101 rfl ?_
              refine ld_157 (q := 104) d_MO_type_103 ?_ rfl ?_
              · first | with_reducible exact vx | exact vp_of (by have := hy e29.1; omega) (by have := hy e29.1; omega) | exact vp_of (kE e29.1 e48 e52 e74).1.1 (by have := (kE e29.1 e48 e52 e74).1; omega) | exact vp_of (kF e29.1 e48 e52 e74 e105).1.1 (by have := (kF e29.1 e48 e52 e74 e105).1; omega)
              refine r_iadd (q := 105) d_MO_type_104 rfl ?_
              refine r_cge (tgt := 133) (q := 108) d_MO_type_105 rfl rfl (fun e105 => ?_) (fun e105 => ?_)
              · skip
                refine r_ic (v := -1) (q := 134) d_MO_type_133 rfl rfl ?_
                refine r_ri d_MO_type_134 ?_
                first | exact kA e29 | exact kB e29.1 e48 | exact kC e52 | exact (kE e29.1 e48 e52 e74).2 | exact kD e29.1 e48 e105 | exact (kF e29.1 e48 e52 e74 e105).2
              · skip
                refine r_al0 (q := 109) d_MO_type_108 rfl ?_
                refine gt_MO_types (q := 112) d_MO_type_109 rfl rfl ?_
                refine r_bp (v := 16) (q := 114) d_MO_type_112 rfl rfl ?_
                refine r_il4 (q := 116) d_MO_type_114 rfl ?_
                refine r_imul (q := 117) d_MO_type_116 rfl ?_
                refine r_bp (v := 8) (q := 119) d_MO_type_117 rfl rfl ?_
                refine r_iadd (q := 120) d_MO_type_119 rfl ?_
                refine r_il3 (q := 121) d_MO_type_120 rfl ?_
                refine r_iadd (q := 122) d_MO_type_121 rfl ?_
                refine r_al0 (q := 123) d_MO_type_122 rfl ?_
                refine gt_MO_locals (q := 126) d_MO_type_123 rfl rfl ?_
                refine r_il1 (q := 127) d_MO_type_126 rfl ?_
                refine ld_146 (q := 128) d_MO_type_127 ?_ rfl ?_
                · first | with_reducible exact vx | exact vp_of (by have := hy e29.1; omega) (by have := hy e29.1; omega) | exact vp_of (kE e29.1 e48 e52 e74).1.1 (by have := (kE e29.1 e48 e52 e74).1; omega) | exact vp_of (kF e29.1 e48 e52 e74 e105).1.1 (by have := (kF e29.1 e48 e52 e74 e105).1; omega)
                refine r_isub (q := 129) d_MO_type_128 rfl ?_
                refine ld_156 (q := 130) d_MO_type_129 ?_ rfl ?_
                · first | with_reducible exact vx | exact vp_of (by have := hy e29.1; omega) (by have := hy e29.1; omega) | exact vp_of (kE e29.1 e48 e52 e74).1.1 (by have := (kE e29.1 e48 e52 e74).1; omega) | exact vp_of (kF e29.1 e48 e52 e74 e105).1.1 (by have := (kF e29.1 e48 e52 e74 e105).1; omega)
                refine am_go (tgt := 134) d_MO_type_130 rfl ?_
                refine r_ri d_MO_type_134 ?_
                first | exact kA e29 | exact kB e29.1 e48 | exact kC e52 | exact (kE e29.1 e48 e52 e74).2 | exact kD e29.1 e48 e105 | exact (kF e29.1 e48 e52 e74 e105).2
            · skip
              refine r_al0 (q := 78) d_MO_type_77 rfl ?_
              refine gt_MO_types (q := 81) d_MO_type_78 rfl rfl ?_
              refine r_bp (v := 16) (q := 83) d_MO_type_81 rfl rfl ?_
              refine r_il4 (q := 85) d_MO_type_83 rfl ?_
              refine r_imul (q := 86) d_MO_type_85 rfl ?_
              refine r_il3 (q := 87) d_MO_type_86 rfl ?_
              refine r_iadd (q := 88) d_MO_type_87 rfl ?_
              refine ld_156 (q := 89) d_MO_type_88 ?_ rfl ?_
              · first | with_reducible exact vx | exact vp_of (by have := hy e29.1; omega) (by have := hy e29.1; omega) | exact vp_of (kE e29.1 e48 e52 e74).1.1 (by have := (kE e29.1 e48 e52 e74).1; omega) | exact vp_of (kF e29.1 e48 e52 e74 e105).1.1 (by have := (kF e29.1 e48 e52 e74 e105).1; omega)
              refine r_ri d_MO_type_89 ?_
              first | exact kA e29 | exact kB e29.1 e48 | exact kC e52 | exact (kE e29.1 e48 e52 e74).2 | exact kD e29.1 e48 e105 | exact (kF e29.1 e48 e52 e74 e105).2
          · skip
            refine r_ic (v := -1) (q := 56) d_MO_type_55 rfl rfl ?_
            refine r_ri d_MO_type_56 ?_
            first | exact kA e29 | exact kB e29.1 e48 | exact kC e52 | exact (kE e29.1 e48 e52 e74).2 | exact kD e29.1 e48 e105 | exact (kF e29.1 e48 e52 e74 e105).2
      · skip
        refine r_zeq (tgt := 55) (q := 35) d_MO_type_32 rfl rfl (fun e32 => ?_) (fun e32 => by exfalso; revert e32; decide)
        refine r_ic (v := -1) (q := 56) d_MO_type_55 rfl rfl ?_
        refine r_ri d_MO_type_56 ?_
        first | exact kA e29 | exact kB e29.1 e48 | exact kC e52 | exact (kE e29.1 e48 e52 e74).2 | exact kD e29.1 e48 e105 | exact (kF e29.1 e48 e52 e74 e105).2
    clear d5
    refine r_al0 (q := 6) d_MO_type_5 rfl ?_
    refine gt_MO_verified (q := 9) d_MO_type_6 rfl rfl ?_
    refine r_zeq (tgt := 55) (q := 12) d_MO_type_9 rfl rfl (fun e9 => ?_) (fun e9 => ?_)
    · skip
      refine r_ic (v := -1) (q := 56) d_MO_type_55 rfl rfl ?_
      refine r_ri d_MO_type_56 ?_
      first | exact d4 (fun w => w.1 e9) | exact d4 (fun w => e20 (hm.mpr w.2.1))
    · skip
      refine r_il1 (q := 13) d_MO_type_12 rfl ?_
      refine r_ic (v := 0) (q := 14) d_MO_type_13 rfl rfl ?_
      refine r_al0 (q := 15) d_MO_type_14 rfl ?_
      refine gt_MO_methods (q := 18) d_MO_type_15 rfl rfl ?_
      refine r_ic (v := 1) (q := 19) d_MO_type_18 rfl rfl ?_
      refine r_isub (q := 20) d_MO_type_19 rfl ?_
      refine r_si3 mo_MO_in d_MO_type_20 rfl rfl (q := 23) rfl ?_
      refine sq_MO_in (fun e20 => ?_) (fun e20 => ?_)
      · skip
        refine r_zeq (tgt := 55) (q := 26) d_MO_type_23 rfl rfl (fun e23 => by exfalso; revert e23; decide) (fun e23 => ?_)
        exact k26 e9 e20
      · skip
        refine r_zeq (tgt := 55) (q := 26) d_MO_type_23 rfl rfl (fun e23 => ?_) (fun e23 => by exfalso; revert e23; decide)
        refine r_ic (v := -1) (q := 56) d_MO_type_55 rfl rfl ?_
        refine r_ri d_MO_type_56 ?_
        first | exact d4 (fun w => w.1 e9) | exact d4 (fun w => e20 (hm.mpr w.2.1))
  clear d4 d5 d1 d3
  refine r_al0 (q := 1) d_MO_type_0 rfl ?_
  refine r_ic (v := 0) (q := 2) d_MO_type_1 rfl rfl ?_
  refine pt_MO_thrown (q := 5) d_MO_type_2 rfl rfl ?_
  exact k5

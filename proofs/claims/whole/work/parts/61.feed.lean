/-! written by wip/whole/gen/walk.py out of 61.feed.txt -/
theorem la_0t {L : Nat} {xs : Nat → Int32} {K : Int32 → am_S → Prop} {i : Int32} {a b : Option am_V} {st : am_S} (i0 : 0 ≤ i.toInt) (i6 : i.toInt + 6 ≤ (L : Int)) (iL : L ≤ 3072) (c1 : 0 ≤ (st 577 0).toInt) (c2 : (st 577 0).toInt ≤ 200) (c3 : ¬ st 591 0 = 0 ∨ st 577 0 = 200) (h : K i (am_up st 576 0 1)) : am_AW code (g_law L xs (lw_P2 K)) lw_k 139 (lw_lv i a b) [.inl 1] st := by
  refine r_is5 (q := 141) d_law_139 rfl ?_
  refine r_al2 (q := 142) d_law_141 rfl ?_
  refine r_al0 (q := 143) d_law_142 rfl ?_
  refine r_il4 (q := 145) d_law_143 rfl ?_
  refine r_ic (v := 1) (q := 146) d_law_145 rfl rfl ?_
  refine r_iadd (q := 147) d_law_146 rfl ?_
  refine am_sl (q := 148) d_law_147 rfl ?_ rfl ?_
  · (refine vp_of ?_ ?_ <;> (((try simp +decide only [b01, b10, b11, am_up, and_true, and_false, true_and, false_and, if_true, if_false, nn_eq] at *) <;> (try simp only [sw_or, sw_all, or_false, and_true, i32_lt, i32_le, i32_eq, i32_addw, i32_subw, i32_mulw, Int32.reduceToInt] at *) <;> omega)))
  refine r_vi1 mo_MO_feed d_law_148 rfl rfl rfl (q := 151) rfl ?_
  refine sp_MO_feed (by first | assumption | omega | decide | ((try simp +decide only [b01, b10, b11, am_up, and_true, and_false, true_and, false_and, if_true, if_false, nn_eq] at *) <;> (try simp only [sw_or, sw_all, or_false, and_true, i32_lt, i32_le, i32_eq, i32_addw, i32_subw, i32_mulw, Int32.reduceToInt] at *) <;> omega) | (apply_assumption; done)) (by first | assumption | omega | decide | ((try simp +decide only [b01, b10, b11, am_up, and_true, and_false, true_and, false_and, if_true, if_false, nn_eq] at *) <;> (try simp only [sw_or, sw_all, or_false, and_true, i32_lt, i32_le, i32_eq, i32_addw, i32_subw, i32_mulw, Int32.reduceToInt] at *) <;> omega) | (apply_assumption; done)) (fun e148 => ?_) (fun e148 => ?_)
  · skip
    refine r_is6 (q := 153) d_law_151 rfl ?_
    refine r_al2 (q := 154) d_law_153 rfl ?_
    refine r_vi0 mo_MO_thrown d_law_154 rfl rfl rfl (q := 157) rfl ?_
    refine sp_MO_thrown ?_
    refine r_il5 (q := 159) d_law_157 rfl ?_
    refine r_ceq (tgt := 164) (q := 162) d_law_159 rfl rfl (fun e159 => ?_) (fun e159 => ?_)
    · skip
      refine r_il5 (q := 166) d_law_164 rfl ?_
      refine r_zne (tgt := 181) (q := 169) d_law_166 rfl rfl (fun e166 => ?_) (fun e166 => ?_)
      · skip
        refine am_go (tgt := 802) d_law_181 rfl ?_
        first | exact am_cut ⟨rfl, rfl, _, _, _, rfl, h⟩ | (exfalso; ((try simp +decide only [b01, b10, b11, am_up, and_true, and_false, true_and, false_and, if_true, if_false, nn_eq] at *) <;> (try simp only [sw_or, sw_all, or_false, and_true, i32_lt, i32_le, i32_eq, i32_addw, i32_subw, i32_mulw, Int32.reduceToInt] at *) <;> omega))
      · skip
        refine r_al3 (q := 170) d_law_169 rfl ?_
        refine r_ic (v := 0) (q := 171) d_law_170 rfl rfl ?_
        refine am_al (n := 1) (q := 172) d_law_171 rfl (vp_of (by decide) (by decide)) rfl ?_
        refine r_il6 (q := 174) d_law_172 rfl ?_
        refine am_s (q := 175) d_law_174 rfl rfl ?_
        refine am_s (q := 176) d_law_175 rfl rfl ?_
        refine r_zeq (tgt := 181) (q := 179) d_law_176 rfl rfl (fun e176 => ?_) (fun e176 => ?_)
        · skip
          refine am_go (tgt := 802) d_law_181 rfl ?_
          first | exact am_cut ⟨rfl, rfl, _, _, _, rfl, h⟩ | (exfalso; ((try simp +decide only [b01, b10, b11, am_up, and_true, and_false, true_and, false_and, if_true, if_false, nn_eq] at *) <;> (try simp only [sw_or, sw_all, or_false, and_true, i32_lt, i32_le, i32_eq, i32_addw, i32_subw, i32_mulw, Int32.reduceToInt] at *) <;> omega))
        · skip
          refine r_ic (v := 0) (q := 180) d_law_179 rfl rfl ?_
          exfalso; ((try simp +decide only [b01, b10, b11, am_up, and_true, and_false, true_and, false_and, if_true, if_false, nn_eq] at *) <;> (try simp only [sw_or, sw_all, or_false, and_true, i32_lt, i32_le, i32_eq, i32_addw, i32_subw, i32_mulw, Int32.reduceToInt] at *) <;> omega)
    · skip
      refine r_ic (v := 0) (q := 163) d_law_162 rfl rfl ?_
      exfalso; ((try simp +decide only [b01, b10, b11, am_up, and_true, and_false, true_and, false_and, if_true, if_false, nn_eq] at *) <;> (try simp only [sw_or, sw_all, or_false, and_true, i32_lt, i32_le, i32_eq, i32_addw, i32_subw, i32_mulw, Int32.reduceToInt] at *) <;> omega)
  · skip
    refine r_is6 (q := 153) d_law_151 rfl ?_
    refine r_al2 (q := 154) d_law_153 rfl ?_
    refine r_vi0 mo_MO_thrown d_law_154 rfl rfl rfl (q := 157) rfl ?_
    refine sp_MO_thrown ?_
    refine r_il5 (q := 159) d_law_157 rfl ?_
    refine r_ceq (tgt := 164) (q := 162) d_law_159 rfl rfl (fun e159 => ?_) (fun e159 => ?_)
    · skip
      refine r_il5 (q := 166) d_law_164 rfl ?_
      refine r_zne (tgt := 181) (q := 169) d_law_166 rfl rfl (fun e166 => ?_) (fun e166 => ?_)
      · skip
        refine am_go (tgt := 802) d_law_181 rfl ?_
        first | exact am_cut ⟨rfl, rfl, _, _, _, rfl, h⟩ | (exfalso; ((try simp +decide only [b01, b10, b11, am_up, and_true, and_false, true_and, false_and, if_true, if_false, nn_eq] at *) <;> (try simp only [sw_or, sw_all, or_false, and_true, i32_lt, i32_le, i32_eq, i32_addw, i32_subw, i32_mulw, Int32.reduceToInt] at *) <;> omega))
      · skip
        refine r_al3 (q := 170) d_law_169 rfl ?_
        refine r_ic (v := 0) (q := 171) d_law_170 rfl rfl ?_
        refine am_al (n := 1) (q := 172) d_law_171 rfl (vp_of (by decide) (by decide)) rfl ?_
        refine r_il6 (q := 174) d_law_172 rfl ?_
        refine am_s (q := 175) d_law_174 rfl rfl ?_
        refine am_s (q := 176) d_law_175 rfl rfl ?_
        refine r_zeq (tgt := 181) (q := 179) d_law_176 rfl rfl (fun e176 => ?_) (fun e176 => ?_)
        · skip
          refine am_go (tgt := 802) d_law_181 rfl ?_
          first | exact am_cut ⟨rfl, rfl, _, _, _, rfl, h⟩ | (exfalso; ((try simp +decide only [b01, b10, b11, am_up, and_true, and_false, true_and, false_and, if_true, if_false, nn_eq] at *) <;> (try simp only [sw_or, sw_all, or_false, and_true, i32_lt, i32_le, i32_eq, i32_addw, i32_subw, i32_mulw, Int32.reduceToInt] at *) <;> omega))
        · skip
          refine r_ic (v := 0) (q := 180) d_law_179 rfl rfl ?_
          exfalso; ((try simp +decide only [b01, b10, b11, am_up, and_true, and_false, true_and, false_and, if_true, if_false, nn_eq] at *) <;> (try simp only [sw_or, sw_all, or_false, and_true, i32_lt, i32_le, i32_eq, i32_addw, i32_subw, i32_mulw, Int32.reduceToInt] at *) <;> omega)
    · skip
      refine r_ic (v := 0) (q := 163) d_law_162 rfl rfl ?_
      exfalso; ((try simp +decide only [b01, b10, b11, am_up, and_true, and_false, true_and, false_and, if_true, if_false, nn_eq] at *) <;> (try simp only [sw_or, sw_all, or_false, and_true, i32_lt, i32_le, i32_eq, i32_addw, i32_subw, i32_mulw, Int32.reduceToInt] at *) <;> omega)
theorem la_0n {L : Nat} {xs : Nat → Int32} {K : Int32 → am_S → Prop} {i : Int32} {a b : Option am_V} {st : am_S} (i0 : 0 ≤ i.toInt) (i6 : i.toInt + 6 ≤ (L : Int)) (iL : L ≤ 3072) (c1 : 0 ≤ (st 577 0).toInt) (c2 : (st 577 0).toInt ≤ 200) (c3 : st 591 0 = 0 ∧ ¬ st 577 0 = 200) (c9 : st 2167 0 = st 577 0 + 1) (h : K i (am_up (am_up (am_up st 576 0 0) 2142 (st 577 0).toNatClampNeg (xs (i + 1).toNatClampNeg &&& 255)) 577 0 (st 577 0 + 1))) : am_AW code (g_law L xs (lw_P2 K)) lw_k 139 (lw_lv i a b) [.inl 0] st := by
  refine r_is5 (q := 141) d_law_139 rfl ?_
  refine r_al2 (q := 142) d_law_141 rfl ?_
  refine r_al0 (q := 143) d_law_142 rfl ?_
  refine r_il4 (q := 145) d_law_143 rfl ?_
  refine r_ic (v := 1) (q := 146) d_law_145 rfl rfl ?_
  refine r_iadd (q := 147) d_law_146 rfl ?_
  refine am_sl (q := 148) d_law_147 rfl ?_ rfl ?_
  · (refine vp_of ?_ ?_ <;> (((try simp +decide only [b01, b10, b11, am_up, and_true, and_false, true_and, false_and, if_true, if_false, nn_eq] at *) <;> (try simp only [sw_or, sw_all, or_false, and_true, i32_lt, i32_le, i32_eq, i32_addw, i32_subw, i32_mulw, Int32.reduceToInt] at *) <;> omega)))
  refine r_vi1 mo_MO_feed d_law_148 rfl rfl rfl (q := 151) rfl ?_
  refine sp_MO_feed (by first | assumption | omega | decide | ((try simp +decide only [b01, b10, b11, am_up, and_true, and_false, true_and, false_and, if_true, if_false, nn_eq] at *) <;> (try simp only [sw_or, sw_all, or_false, and_true, i32_lt, i32_le, i32_eq, i32_addw, i32_subw, i32_mulw, Int32.reduceToInt] at *) <;> omega) | (apply_assumption; done)) (by first | assumption | omega | decide | ((try simp +decide only [b01, b10, b11, am_up, and_true, and_false, true_and, false_and, if_true, if_false, nn_eq] at *) <;> (try simp only [sw_or, sw_all, or_false, and_true, i32_lt, i32_le, i32_eq, i32_addw, i32_subw, i32_mulw, Int32.reduceToInt] at *) <;> omega) | (apply_assumption; done)) (fun e148 => ?_) (fun e148 => ?_)
  · skip
    refine r_is6 (q := 153) d_law_151 rfl ?_
    refine r_al2 (q := 154) d_law_153 rfl ?_
    refine r_vi0 mo_MO_thrown d_law_154 rfl rfl rfl (q := 157) rfl ?_
    refine sp_MO_thrown ?_
    refine r_il5 (q := 159) d_law_157 rfl ?_
    refine r_ceq (tgt := 164) (q := 162) d_law_159 rfl rfl (fun e159 => ?_) (fun e159 => ?_)
    · skip
      refine r_il5 (q := 166) d_law_164 rfl ?_
      refine r_zne (tgt := 181) (q := 169) d_law_166 rfl rfl (fun e166 => ?_) (fun e166 => ?_)
      · skip
        refine am_go (tgt := 802) d_law_181 rfl ?_
        first | exact am_cut ⟨rfl, rfl, _, _, _, rfl, h⟩ | (exfalso; ((try simp +decide only [b01, b10, b11, am_up, and_true, and_false, true_and, false_and, if_true, if_false, nn_eq] at *) <;> (try simp only [sw_or, sw_all, or_false, and_true, i32_lt, i32_le, i32_eq, i32_addw, i32_subw, i32_mulw, Int32.reduceToInt] at *) <;> omega))
      · skip
        refine r_al3 (q := 170) d_law_169 rfl ?_
        refine r_ic (v := 0) (q := 171) d_law_170 rfl rfl ?_
        refine am_al (n := 1) (q := 172) d_law_171 rfl (vp_of (by decide) (by decide)) rfl ?_
        refine r_il6 (q := 174) d_law_172 rfl ?_
        refine am_s (q := 175) d_law_174 rfl rfl ?_
        refine am_s (q := 176) d_law_175 rfl rfl ?_
        refine r_zeq (tgt := 181) (q := 179) d_law_176 rfl rfl (fun e176 => ?_) (fun e176 => ?_)
        · skip
          refine am_go (tgt := 802) d_law_181 rfl ?_
          first | exact am_cut ⟨rfl, rfl, _, _, _, rfl, h⟩ | (exfalso; ((try simp +decide only [b01, b10, b11, am_up, and_true, and_false, true_and, false_and, if_true, if_false, nn_eq] at *) <;> (try simp only [sw_or, sw_all, or_false, and_true, i32_lt, i32_le, i32_eq, i32_addw, i32_subw, i32_mulw, Int32.reduceToInt] at *) <;> omega))
        · skip
          refine r_ic (v := 0) (q := 180) d_law_179 rfl rfl ?_
          first | (exfalso; exact absurd (cmp_of c9) e176) | (exfalso; ((try simp +decide only [b01, b10, b11, am_up, and_true, and_false, true_and, false_and, if_true, if_false, nn_eq] at *) <;> (try simp only [sw_or, sw_all, or_false, and_true, i32_lt, i32_le, i32_eq, i32_addw, i32_subw, i32_mulw, Int32.reduceToInt] at *) <;> omega))
    · skip
      refine r_ic (v := 0) (q := 163) d_law_162 rfl rfl ?_
      first | (exfalso; exact absurd (cmp_of c9) e176) | (exfalso; ((try simp +decide only [b01, b10, b11, am_up, and_true, and_false, true_and, false_and, if_true, if_false, nn_eq] at *) <;> (try simp only [sw_or, sw_all, or_false, and_true, i32_lt, i32_le, i32_eq, i32_addw, i32_subw, i32_mulw, Int32.reduceToInt] at *) <;> omega))
  · skip
    refine r_is6 (q := 153) d_law_151 rfl ?_
    refine r_al2 (q := 154) d_law_153 rfl ?_
    refine r_vi0 mo_MO_thrown d_law_154 rfl rfl rfl (q := 157) rfl ?_
    refine sp_MO_thrown ?_
    refine r_il5 (q := 159) d_law_157 rfl ?_
    refine r_ceq (tgt := 164) (q := 162) d_law_159 rfl rfl (fun e159 => ?_) (fun e159 => ?_)
    · skip
      refine r_il5 (q := 166) d_law_164 rfl ?_
      refine r_zne (tgt := 181) (q := 169) d_law_166 rfl rfl (fun e166 => ?_) (fun e166 => ?_)
      · skip
        refine am_go (tgt := 802) d_law_181 rfl ?_
        first | exact am_cut ⟨rfl, rfl, _, _, _, rfl, h⟩ | (exfalso; ((try simp +decide only [b01, b10, b11, am_up, and_true, and_false, true_and, false_and, if_true, if_false, nn_eq] at *) <;> (try simp only [sw_or, sw_all, or_false, and_true, i32_lt, i32_le, i32_eq, i32_addw, i32_subw, i32_mulw, Int32.reduceToInt] at *) <;> omega))
      · skip
        refine r_al3 (q := 170) d_law_169 rfl ?_
        refine r_ic (v := 0) (q := 171) d_law_170 rfl rfl ?_
        refine am_al (n := 1) (q := 172) d_law_171 rfl (vp_of (by decide) (by decide)) rfl ?_
        refine r_il6 (q := 174) d_law_172 rfl ?_
        refine am_s (q := 175) d_law_174 rfl rfl ?_
        refine am_s (q := 176) d_law_175 rfl rfl ?_
        refine r_zeq (tgt := 181) (q := 179) d_law_176 rfl rfl (fun e176 => ?_) (fun e176 => ?_)
        · skip
          refine am_go (tgt := 802) d_law_181 rfl ?_
          first | exact am_cut ⟨rfl, rfl, _, _, _, rfl, h⟩ | (exfalso; ((try simp +decide only [b01, b10, b11, am_up, and_true, and_false, true_and, false_and, if_true, if_false, nn_eq] at *) <;> (try simp only [sw_or, sw_all, or_false, and_true, i32_lt, i32_le, i32_eq, i32_addw, i32_subw, i32_mulw, Int32.reduceToInt] at *) <;> omega))
        · skip
          refine r_ic (v := 0) (q := 180) d_law_179 rfl rfl ?_
          first | (exfalso; exact absurd (cmp_of c9) e176) | (exfalso; ((try simp +decide only [b01, b10, b11, am_up, and_true, and_false, true_and, false_and, if_true, if_false, nn_eq] at *) <;> (try simp only [sw_or, sw_all, or_false, and_true, i32_lt, i32_le, i32_eq, i32_addw, i32_subw, i32_mulw, Int32.reduceToInt] at *) <;> omega))
    · skip
      refine r_ic (v := 0) (q := 163) d_law_162 rfl rfl ?_
      first | (exfalso; exact absurd (cmp_of c9) e176) | (exfalso; ((try simp +decide only [b01, b10, b11, am_up, and_true, and_false, true_and, false_and, if_true, if_false, nn_eq] at *) <;> (try simp only [sw_or, sw_all, or_false, and_true, i32_lt, i32_le, i32_eq, i32_addw, i32_subw, i32_mulw, Int32.reduceToInt] at *) <;> omega))
theorem la_0 {L : Nat} {xs : Nat → Int32} {K : Int32 → am_S → Prop} {i : Int32} {a b : Option am_V} {st : am_S} (i0 : 0 ≤ i.toInt) (i6 : i.toInt + 6 ≤ (L : Int)) (iL : L ≤ 3072) (c1 : 0 ≤ (st 322 0).toInt) (c2 : (st 322 0).toInt ≤ 200) (c3 : st 577 0 = st 322 0) (c4 : st 591 0 = st 262 0) (h1 : ¬ st 262 0 = 0 ∨ 200 ≤ st 322 0 → K i (am_up st 576 0 1)) (h2 : st 262 0 = 0 ∧ st 322 0 < 200 → K i (am_up (am_up (am_up (am_up (am_up (am_up st 2129 (st 322 0).toNatClampNeg (xs (i + 1).toNatClampNeg &&& 255)) 322 0 (st 322 0 + 1)) 2167 0 (st 322 0 + 1)) 576 0 0) 2142 (st 577 0).toNatClampNeg (xs (i + 1).toNatClampNeg &&& 255)) 577 0 (st 577 0 + 1))) : am_AW code (g_law L xs (lw_P1 L xs K)) lw_k 128 (lw_lv i a b) [] st := by
  refine r_al1 (q := 129) d_law_128 rfl ?_
  refine r_al0 (q := 130) d_law_129 rfl ?_
  refine r_il4 (q := 132) d_law_130 rfl ?_
  refine r_ic (v := 1) (q := 133) d_law_132 rfl rfl ?_
  refine r_iadd (q := 134) d_law_133 rfl ?_
  refine am_sl (q := 135) d_law_134 rfl ?_ rfl ?_
  · (refine vp_of ?_ ?_ <;> (((try simp +decide only [b01, b10, b11, am_up, and_true, and_false, true_and, false_and, if_true, if_false, nn_eq] at *) <;> (try simp only [sw_or, sw_all, or_false, and_true, i32_lt, i32_le, i32_eq, i32_addw, i32_subw, i32_mulw, Int32.reduceToInt] at *) <;> omega)))
  refine r_al3 (q := 136) d_law_135 rfl ?_
  refine am_cut (Or.inr ⟨wl_feed, [.inr (.inl 123), .inl (xs (i + 1).toNatClampNeg), .inr (.inl 167)], rfl, rfl, _, rfl, mo_FW_feed _ _ _ _ (fun o st' => fl_kt) (sp_FW_feed c1 (fun e => ?_) (fun e => ?_))⟩)
  · refine ⟨Or.inr rfl, 1, rfl, ?_⟩
    exact la_0t i0 i6 iL (by rw [c3]; exact c1) (by rw [c3]; exact c2) (by rw [c3, c4]; ((try simp +decide only [b01, b10, b11, am_up, and_true, and_false, true_and, false_and, if_true, if_false, nn_eq] at *) <;> (try simp only [sw_or, sw_all, or_false, and_true, i32_lt, i32_le, i32_eq, i32_addw, i32_subw, i32_mulw, Int32.reduceToInt] at *) <;> omega)) (h1 e)
  · refine ⟨Or.inr (Or.inr rfl), ?_⟩
    refine la_0n (st := am_up (am_up (am_up st 2129 (st 322 0).toNatClampNeg (xs (i + 1).toNatClampNeg &&& 255)) 322 0 (st 322 0 + 1)) 2167 0 (st 322 0 + 1)) i0 i6 iL ?_ ?_ ?_ ?_ (h2 e)
    · show 0 ≤ (st 577 0).toInt
      rw [c3]; exact c1
    · show (st 577 0).toInt ≤ 200
      rw [c3]; exact c2
    · show st 591 0 = 0 ∧ ¬ st 577 0 = 200
      rw [c3, c4]
      ((try simp +decide only [b01, b10, b11, am_up, and_true, and_false, true_and, false_and, if_true, if_false, nn_eq] at *) <;> (try simp only [sw_or, sw_all, or_false, and_true, i32_lt, i32_le, i32_eq, i32_addw, i32_subw, i32_mulw, Int32.reduceToInt] at *) <;> omega)
    · show st 322 0 + 1 = st 577 0 + 1
      rw [c3]

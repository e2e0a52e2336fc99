/-! written by wip/whole/gen/walk.py out of 63.method.txt -/
theorem la_1a {L : Nat} {xs : Nat → Int32} {K : Int32 → am_S → Prop} {i : Int32} {a b : Option am_V} {st : am_S} (i0 : 0 ≤ i.toInt) (i6 : i.toInt + 6 ≤ (L : Int)) (iL : L ≤ 3072) {g : Int32} (cg : ((xs (i + 5).toNatClampNeg) = 0 ∧ g = 0) ∨ (¬ (xs (i + 5).toNatClampNeg) = 0 ∧ g = 1)) (c1 : 0 ≤ (st 579 0).toInt) (c2 : (st 579 0).toInt ≤ 8) (c3 : ¬ (cs_nm (xs (i + 2).toNatClampNeg) (xs (i + 3).toNatClampNeg) (xs (i + 4).toNatClampNeg) ∧ 1 ≤ (xs (i + 1).toNatClampNeg) ∧ (xs (i + 1).toNatClampNeg) ≤ st 577 0 - st 2143 (st 579 0).toNatClampNeg)) (h : K i (am_up st 576 0 1)) : am_AW code (g_law L xs (lw_P2 K)) lw_k 227 (lw_lv i a b) [.inl 1] st := by
  refine r_is5 (q := 229) d_law_227 rfl ?_
  refine r_al2 (q := 230) d_law_229 rfl ?_
  refine r_al0 (q := 231) d_law_230 rfl ?_
  refine r_il4 (q := 233) d_law_231 rfl ?_
  refine r_ic (v := 1) (q := 234) d_law_233 rfl rfl ?_
  refine r_iadd (q := 235) d_law_234 rfl ?_
  refine am_sl (q := 236) d_law_235 rfl ?_ rfl ?_
  · (refine vp_of ?_ ?_ <;> (((try simp +decide only [b01, b10, b11, am_up, and_true, and_false, true_and, false_and, if_true, if_false, nn_eq] at *) <;> (try simp only [sw_or, sw_all, or_false, and_true, i32_lt, i32_le, i32_eq, i32_addw, i32_subw, i32_mulw, Int32.reduceToInt] at *) <;> omega)))
  refine r_al0 (q := 237) d_law_236 rfl ?_
  refine r_il4 (q := 239) d_law_237 rfl ?_
  refine r_ic (v := 2) (q := 240) d_law_239 rfl rfl ?_
  refine r_iadd (q := 241) d_law_240 rfl ?_
  refine am_sl (q := 242) d_law_241 rfl ?_ rfl ?_
  · (refine vp_of ?_ ?_ <;> (((try simp +decide only [b01, b10, b11, am_up, and_true, and_false, true_and, false_and, if_true, if_false, nn_eq] at *) <;> (try simp only [sw_or, sw_all, or_false, and_true, i32_lt, i32_le, i32_eq, i32_addw, i32_subw, i32_mulw, Int32.reduceToInt] at *) <;> omega)))
  refine r_al0 (q := 243) d_law_242 rfl ?_
  refine r_il4 (q := 245) d_law_243 rfl ?_
  refine r_ic (v := 3) (q := 246) d_law_245 rfl rfl ?_
  refine r_iadd (q := 247) d_law_246 rfl ?_
  refine am_sl (q := 248) d_law_247 rfl ?_ rfl ?_
  · (refine vp_of ?_ ?_ <;> (((try simp +decide only [b01, b10, b11, am_up, and_true, and_false, true_and, false_and, if_true, if_false, nn_eq] at *) <;> (try simp only [sw_or, sw_all, or_false, and_true, i32_lt, i32_le, i32_eq, i32_addw, i32_subw, i32_mulw, Int32.reduceToInt] at *) <;> omega)))
  refine r_al0 (q := 249) d_law_248 rfl ?_
  refine r_il4 (q := 251) d_law_249 rfl ?_
  refine r_ic (v := 4) (q := 252) d_law_251 rfl rfl ?_
  refine r_iadd (q := 253) d_law_252 rfl ?_
  refine am_sl (q := 254) d_law_253 rfl ?_ rfl ?_
  · (refine vp_of ?_ ?_ <;> (((try simp +decide only [b01, b10, b11, am_up, and_true, and_false, true_and, false_and, if_true, if_false, nn_eq] at *) <;> (try simp only [sw_or, sw_all, or_false, and_true, i32_lt, i32_le, i32_eq, i32_addw, i32_subw, i32_mulw, Int32.reduceToInt] at *) <;> omega)))
  refine r_al0 (q := 255) d_law_254 rfl ?_
  refine r_il4 (q := 257) d_law_255 rfl ?_
  refine r_ic (v := 5) (q := 258) d_law_257 rfl rfl ?_
  refine r_iadd (q := 259) d_law_258 rfl ?_
  refine am_sl (q := 260) d_law_259 rfl ?_ rfl ?_
  · (refine vp_of ?_ ?_ <;> (((try simp +decide only [b01, b10, b11, am_up, and_true, and_false, true_and, false_and, if_true, if_false, nn_eq] at *) <;> (try simp only [sw_or, sw_all, or_false, and_true, i32_lt, i32_le, i32_eq, i32_addw, i32_subw, i32_mulw, Int32.reduceToInt] at *) <;> omega)))
  refine r_zeq (tgt := 267) (q := 263) d_law_260 rfl rfl (fun e260 => ?_) (fun e260 => ?_)
  · skip
    refine r_ic (v := 0) (q := 268) d_law_267 rfl rfl ?_
    refine r_vi5 mo_MO_method d_law_268 rfl rfl rfl (q := 271) rfl ?_
    refine sp_MO_method (by first | assumption | omega | decide | ((try simp +decide only [b01, b10, b11, am_up, and_true, and_false, true_and, false_and, if_true, if_false, nn_eq] at *) <;> (try simp only [sw_or, sw_all, or_false, and_true, i32_lt, i32_le, i32_eq, i32_addw, i32_subw, i32_mulw, Int32.reduceToInt] at *) <;> omega) | (apply_assumption; done)) (by first | assumption | omega | decide | ((try simp +decide only [b01, b10, b11, am_up, and_true, and_false, true_and, false_and, if_true, if_false, nn_eq] at *) <;> (try simp only [sw_or, sw_all, or_false, and_true, i32_lt, i32_le, i32_eq, i32_addw, i32_subw, i32_mulw, Int32.reduceToInt] at *) <;> omega) | (apply_assumption; done)) (by first | assumption | omega | decide | ((try simp +decide only [b01, b10, b11, am_up, and_true, and_false, true_and, false_and, if_true, if_false, nn_eq] at *) <;> (try simp only [sw_or, sw_all, or_false, and_true, i32_lt, i32_le, i32_eq, i32_addw, i32_subw, i32_mulw, Int32.reduceToInt] at *) <;> omega) | (apply_assumption; done)) (fun e268 => ?_) (fun e268 => ?_) (fun e268 => ?_)
    · skip
      refine r_is6 (q := 273) d_law_271 rfl ?_
      refine r_al2 (q := 274) d_law_273 rfl ?_
      refine r_vi0 mo_MO_thrown d_law_274 rfl rfl rfl (q := 277) rfl ?_
      refine sp_MO_thrown ?_
      refine r_il5 (q := 279) d_law_277 rfl ?_
      refine r_ceq (tgt := 284) (q := 282) d_law_279 rfl rfl (fun e279 => ?_) (fun e279 => ?_)
      · skip
        refine r_il5 (q := 286) d_law_284 rfl ?_
        refine r_zne (tgt := 301) (q := 289) d_law_286 rfl rfl (fun e286 => ?_) (fun e286 => ?_)
        · skip
          refine am_go (tgt := 802) d_law_301 rfl ?_
          first | exact am_cut ⟨rfl, rfl, _, _, _, rfl, h⟩ | (rcases cg with ⟨_, rfl⟩ | ⟨_, rfl⟩ <;> first | exact am_cut ⟨rfl, rfl, _, _, _, rfl, h⟩ | (exfalso; ((try unfold cs_nm at *) <;> ((try simp +decide only [b01, b10, b11, am_up, and_true, and_false, true_and, false_and, if_true, if_false, nn_eq] at *) <;> (try simp only [sw_or, sw_all, or_false, and_true, i32_lt, i32_le, i32_eq, i32_addw, i32_subw, i32_mulw, Int32.reduceToInt] at *) <;> omega)))) | (exfalso; ((try unfold cs_nm at *) <;> ((try simp +decide only [b01, b10, b11, am_up, and_true, and_false, true_and, false_and, if_true, if_false, nn_eq] at *) <;> (try simp only [sw_or, sw_all, or_false, and_true, i32_lt, i32_le, i32_eq, i32_addw, i32_subw, i32_mulw, Int32.reduceToInt] at *) <;> omega)))
        · skip
          refine r_al3 (q := 290) d_law_289 rfl ?_
          refine r_ic (v := 0) (q := 291) d_law_290 rfl rfl ?_
          refine am_al (n := 1) (q := 292) d_law_291 rfl (vp_of (by decide) (by decide)) rfl ?_
          refine r_il6 (q := 294) d_law_292 rfl ?_
          refine am_s (q := 295) d_law_294 rfl rfl ?_
          refine am_s (q := 296) d_law_295 rfl rfl ?_
          refine r_zeq (tgt := 301) (q := 299) d_law_296 rfl rfl (fun e296 => ?_) (fun e296 => ?_)
          · skip
            refine am_go (tgt := 802) d_law_301 rfl ?_
            first | exact am_cut ⟨rfl, rfl, _, _, _, rfl, h⟩ | (rcases cg with ⟨_, rfl⟩ | ⟨_, rfl⟩ <;> first | exact am_cut ⟨rfl, rfl, _, _, _, rfl, h⟩ | (exfalso; ((try unfold cs_nm at *) <;> ((try simp +decide only [b01, b10, b11, am_up, and_true, and_false, true_and, false_and, if_true, if_false, nn_eq] at *) <;> (try simp only [sw_or, sw_all, or_false, and_true, i32_lt, i32_le, i32_eq, i32_addw, i32_subw, i32_mulw, Int32.reduceToInt] at *) <;> omega)))) | (exfalso; ((try unfold cs_nm at *) <;> ((try simp +decide only [b01, b10, b11, am_up, and_true, and_false, true_and, false_and, if_true, if_false, nn_eq] at *) <;> (try simp only [sw_or, sw_all, or_false, and_true, i32_lt, i32_le, i32_eq, i32_addw, i32_subw, i32_mulw, Int32.reduceToInt] at *) <;> omega)))
          · skip
            refine r_ic (v := 0) (q := 300) d_law_299 rfl rfl ?_
            exfalso; ((try unfold cs_nm at *) <;> ((try simp +decide only [b01, b10, b11, am_up, and_true, and_false, true_and, false_and, if_true, if_false, nn_eq] at *) <;> (try simp only [sw_or, sw_all, or_false, and_true, i32_lt, i32_le, i32_eq, i32_addw, i32_subw, i32_mulw, Int32.reduceToInt] at *) <;> omega))
      · skip
        refine r_ic (v := 0) (q := 283) d_law_282 rfl rfl ?_
        exfalso; ((try unfold cs_nm at *) <;> ((try simp +decide only [b01, b10, b11, am_up, and_true, and_false, true_and, false_and, if_true, if_false, nn_eq] at *) <;> (try simp only [sw_or, sw_all, or_false, and_true, i32_lt, i32_le, i32_eq, i32_addw, i32_subw, i32_mulw, Int32.reduceToInt] at *) <;> omega))
    · skip
      refine r_is6 (q := 273) d_law_271 rfl ?_
      refine r_al2 (q := 274) d_law_273 rfl ?_
      refine r_vi0 mo_MO_thrown d_law_274 rfl rfl rfl (q := 277) rfl ?_
      refine sp_MO_thrown ?_
      refine r_il5 (q := 279) d_law_277 rfl ?_
      refine r_ceq (tgt := 284) (q := 282) d_law_279 rfl rfl (fun e279 => ?_) (fun e279 => ?_)
      · skip
        refine r_il5 (q := 286) d_law_284 rfl ?_
        refine r_zne (tgt := 301) (q := 289) d_law_286 rfl rfl (fun e286 => ?_) (fun e286 => ?_)
        · skip
          refine am_go (tgt := 802) d_law_301 rfl ?_
          first | exact am_cut ⟨rfl, rfl, _, _, _, rfl, h⟩ | (rcases cg with ⟨_, rfl⟩ | ⟨_, rfl⟩ <;> first | exact am_cut ⟨rfl, rfl, _, _, _, rfl, h⟩ | (exfalso; ((try unfold cs_nm at *) <;> ((try simp +decide only [b01, b10, b11, am_up, and_true, and_false, true_and, false_and, if_true, if_false, nn_eq] at *) <;> (try simp only [sw_or, sw_all, or_false, and_true, i32_lt, i32_le, i32_eq, i32_addw, i32_subw, i32_mulw, Int32.reduceToInt] at *) <;> omega)))) | (exfalso; ((try unfold cs_nm at *) <;> ((try simp +decide only [b01, b10, b11, am_up, and_true, and_false, true_and, false_and, if_true, if_false, nn_eq] at *) <;> (try simp only [sw_or, sw_all, or_false, and_true, i32_lt, i32_le, i32_eq, i32_addw, i32_subw, i32_mulw, Int32.reduceToInt] at *) <;> omega)))
        · skip
          refine r_al3 (q := 290) d_law_289 rfl ?_
          refine r_ic (v := 0) (q := 291) d_law_290 rfl rfl ?_
          refine am_al (n := 1) (q := 292) d_law_291 rfl (vp_of (by decide) (by decide)) rfl ?_
          refine r_il6 (q := 294) d_law_292 rfl ?_
          refine am_s (q := 295) d_law_294 rfl rfl ?_
          refine am_s (q := 296) d_law_295 rfl rfl ?_
          refine r_zeq (tgt := 301) (q := 299) d_law_296 rfl rfl (fun e296 => ?_) (fun e296 => ?_)
          · skip
            refine am_go (tgt := 802) d_law_301 rfl ?_
            first | exact am_cut ⟨rfl, rfl, _, _, _, rfl, h⟩ | (rcases cg with ⟨_, rfl⟩ | ⟨_, rfl⟩ <;> first | exact am_cut ⟨rfl, rfl, _, _, _, rfl, h⟩ | (exfalso; ((try unfold cs_nm at *) <;> ((try simp +decide only [b01, b10, b11, am_up, and_true, and_false, true_and, false_and, if_true, if_false, nn_eq] at *) <;> (try simp only [sw_or, sw_all, or_false, and_true, i32_lt, i32_le, i32_eq, i32_addw, i32_subw, i32_mulw, Int32.reduceToInt] at *) <;> omega)))) | (exfalso; ((try unfold cs_nm at *) <;> ((try simp +decide only [b01, b10, b11, am_up, and_true, and_false, true_and, false_and, if_true, if_false, nn_eq] at *) <;> (try simp only [sw_or, sw_all, or_false, and_true, i32_lt, i32_le, i32_eq, i32_addw, i32_subw, i32_mulw, Int32.reduceToInt] at *) <;> omega)))
          · skip
            refine r_ic (v := 0) (q := 300) d_law_299 rfl rfl ?_
            exfalso; ((try unfold cs_nm at *) <;> ((try simp +decide only [b01, b10, b11, am_up, and_true, and_false, true_and, false_and, if_true, if_false, nn_eq] at *) <;> (try simp only [sw_or, sw_all, or_false, and_true, i32_lt, i32_le, i32_eq, i32_addw, i32_subw, i32_mulw, Int32.reduceToInt] at *) <;> omega))
      · skip
        refine r_ic (v := 0) (q := 283) d_law_282 rfl rfl ?_
        exfalso; ((try unfold cs_nm at *) <;> ((try simp +decide only [b01, b10, b11, am_up, and_true, and_false, true_and, false_and, if_true, if_false, nn_eq] at *) <;> (try simp only [sw_or, sw_all, or_false, and_true, i32_lt, i32_le, i32_eq, i32_addw, i32_subw, i32_mulw, Int32.reduceToInt] at *) <;> omega))
    · skip
      refine r_is6 (q := 273) d_law_271 rfl ?_
      refine r_al2 (q := 274) d_law_273 rfl ?_
      refine r_vi0 mo_MO_thrown d_law_274 rfl rfl rfl (q := 277) rfl ?_
      refine sp_MO_thrown ?_
      refine r_il5 (q := 279) d_law_277 rfl ?_
      refine r_ceq (tgt := 284) (q := 282) d_law_279 rfl rfl (fun e279 => ?_) (fun e279 => ?_)
      · skip
        refine r_il5 (q := 286) d_law_284 rfl ?_
        refine r_zne (tgt := 301) (q := 289) d_law_286 rfl rfl (fun e286 => ?_) (fun e286 => ?_)
        · skip
          refine am_go (tgt := 802) d_law_301 rfl ?_
          first | exact am_cut ⟨rfl, rfl, _, _, _, rfl, h⟩ | (rcases cg with ⟨_, rfl⟩ | ⟨_, rfl⟩ <;> first | exact am_cut ⟨rfl, rfl, _, _, _, rfl, h⟩ | (exfalso; ((try unfold cs_nm at *) <;> ((try simp +decide only [b01, b10, b11, am_up, and_true, and_false, true_and, false_and, if_true, if_false, nn_eq] at *) <;> (try simp only [sw_or, sw_all, or_false, and_true, i32_lt, i32_le, i32_eq, i32_addw, i32_subw, i32_mulw, Int32.reduceToInt] at *) <;> omega)))) | (exfalso; ((try unfold cs_nm at *) <;> ((try simp +decide only [b01, b10, b11, am_up, and_true, and_false, true_and, false_and, if_true, if_false, nn_eq] at *) <;> (try simp only [sw_or, sw_all, or_false, and_true, i32_lt, i32_le, i32_eq, i32_addw, i32_subw, i32_mulw, Int32.reduceToInt] at *) <;> omega)))
        · skip
          refine r_al3 (q := 290) d_law_289 rfl ?_
          refine r_ic (v := 0) (q := 291) d_law_290 rfl rfl ?_
          refine am_al (n := 1) (q := 292) d_law_291 rfl (vp_of (by decide) (by decide)) rfl ?_
          refine r_il6 (q := 294) d_law_292 rfl ?_
          refine am_s (q := 295) d_law_294 rfl rfl ?_
          refine am_s (q := 296) d_law_295 rfl rfl ?_
          refine r_zeq (tgt := 301) (q := 299) d_law_296 rfl rfl (fun e296 => ?_) (fun e296 => ?_)
          · skip
            refine am_go (tgt := 802) d_law_301 rfl ?_
            first | exact am_cut ⟨rfl, rfl, _, _, _, rfl, h⟩ | (rcases cg with ⟨_, rfl⟩ | ⟨_, rfl⟩ <;> first | exact am_cut ⟨rfl, rfl, _, _, _, rfl, h⟩ | (exfalso; ((try unfold cs_nm at *) <;> ((try simp +decide only [b01, b10, b11, am_up, and_true, and_false, true_and, false_and, if_true, if_false, nn_eq] at *) <;> (try simp only [sw_or, sw_all, or_false, and_true, i32_lt, i32_le, i32_eq, i32_addw, i32_subw, i32_mulw, Int32.reduceToInt] at *) <;> omega)))) | (exfalso; ((try unfold cs_nm at *) <;> ((try simp +decide only [b01, b10, b11, am_up, and_true, and_false, true_and, false_and, if_true, if_false, nn_eq] at *) <;> (try simp only [sw_or, sw_all, or_false, and_true, i32_lt, i32_le, i32_eq, i32_addw, i32_subw, i32_mulw, Int32.reduceToInt] at *) <;> omega)))
          · skip
            refine r_ic (v := 0) (q := 300) d_law_299 rfl rfl ?_
            exfalso; ((try unfold cs_nm at *) <;> ((try simp +decide only [b01, b10, b11, am_up, and_true, and_false, true_and, false_and, if_true, if_false, nn_eq] at *) <;> (try simp only [sw_or, sw_all, or_false, and_true, i32_lt, i32_le, i32_eq, i32_addw, i32_subw, i32_mulw, Int32.reduceToInt] at *) <;> omega))
      · skip
        refine r_ic (v := 0) (q := 283) d_law_282 rfl rfl ?_
        exfalso; ((try unfold cs_nm at *) <;> ((try simp +decide only [b01, b10, b11, am_up, and_true, and_false, true_and, false_and, if_true, if_false, nn_eq] at *) <;> (try simp only [sw_or, sw_all, or_false, and_true, i32_lt, i32_le, i32_eq, i32_addw, i32_subw, i32_mulw, Int32.reduceToInt] at *) <;> omega))
  · skip
    refine r_ic (v := 1) (q := 264) d_law_263 rfl rfl ?_
    refine am_go (tgt := 268) d_law_264 rfl ?_
    refine r_vi5 mo_MO_method d_law_268 rfl rfl rfl (q := 271) rfl ?_
    refine sp_MO_method (by first | assumption | omega | decide | ((try simp +decide only [b01, b10, b11, am_up, and_true, and_false, true_and, false_and, if_true, if_false, nn_eq] at *) <;> (try simp only [sw_or, sw_all, or_false, and_true, i32_lt, i32_le, i32_eq, i32_addw, i32_subw, i32_mulw, Int32.reduceToInt] at *) <;> omega) | (apply_assumption; done)) (by first | assumption | omega | decide | ((try simp +decide only [b01, b10, b11, am_up, and_true, and_false, true_and, false_and, if_true, if_false, nn_eq] at *) <;> (try simp only [sw_or, sw_all, or_false, and_true, i32_lt, i32_le, i32_eq, i32_addw, i32_subw, i32_mulw, Int32.reduceToInt] at *) <;> omega) | (apply_assumption; done)) (by first | assumption | omega | decide | ((try simp +decide only [b01, b10, b11, am_up, and_true, and_false, true_and, false_and, if_true, if_false, nn_eq] at *) <;> (try simp only [sw_or, sw_all, or_false, and_true, i32_lt, i32_le, i32_eq, i32_addw, i32_subw, i32_mulw, Int32.reduceToInt] at *) <;> omega) | (apply_assumption; done)) (fun e268 => ?_) (fun e268 => ?_) (fun e268 => ?_)
    · skip
      refine r_is6 (q := 273) d_law_271 rfl ?_
      refine r_al2 (q := 274) d_law_273 rfl ?_
      refine r_vi0 mo_MO_thrown d_law_274 rfl rfl rfl (q := 277) rfl ?_
      refine sp_MO_thrown ?_
      refine r_il5 (q := 279) d_law_277 rfl ?_
      refine r_ceq (tgt := 284) (q := 282) d_law_279 rfl rfl (fun e279 => ?_) (fun e279 => ?_)
      · skip
        refine r_il5 (q := 286) d_law_284 rfl ?_
        refine r_zne (tgt := 301) (q := 289) d_law_286 rfl rfl (fun e286 => ?_) (fun e286 => ?_)
        · skip
          refine am_go (tgt := 802) d_law_301 rfl ?_
          first | exact am_cut ⟨rfl, rfl, _, _, _, rfl, h⟩ | (rcases cg with ⟨_, rfl⟩ | ⟨_, rfl⟩ <;> first | exact am_cut ⟨rfl, rfl, _, _, _, rfl, h⟩ | (exfalso; ((try unfold cs_nm at *) <;> ((try simp +decide only [b01, b10, b11, am_up, and_true, and_false, true_and, false_and, if_true, if_false, nn_eq] at *) <;> (try simp only [sw_or, sw_all, or_false, and_true, i32_lt, i32_le, i32_eq, i32_addw, i32_subw, i32_mulw, Int32.reduceToInt] at *) <;> omega)))) | (exfalso; ((try unfold cs_nm at *) <;> ((try simp +decide only [b01, b10, b11, am_up, and_true, and_false, true_and, false_and, if_true, if_false, nn_eq] at *) <;> (try simp only [sw_or, sw_all, or_false, and_true, i32_lt, i32_le, i32_eq, i32_addw, i32_subw, i32_mulw, Int32.reduceToInt] at *) <;> omega)))
        · skip
          refine r_al3 (q := 290) d_law_289 rfl ?_
          refine r_ic (v := 0) (q := 291) d_law_290 rfl rfl ?_
          refine am_al (n := 1) (q := 292) d_law_291 rfl (vp_of (by decide) (by decide)) rfl ?_
          refine r_il6 (q := 294) d_law_292 rfl ?_
          refine am_s (q := 295) d_law_294 rfl rfl ?_
          refine am_s (q := 296) d_law_295 rfl rfl ?_
          refine r_zeq (tgt := 301) (q := 299) d_law_296 rfl rfl (fun e296 => ?_) (fun e296 => ?_)
          · skip
            refine am_go (tgt := 802) d_law_301 rfl ?_
            first | exact am_cut ⟨rfl, rfl, _, _, _, rfl, h⟩ | (rcases cg with ⟨_, rfl⟩ | ⟨_, rfl⟩ <;> first | exact am_cut ⟨rfl, rfl, _, _, _, rfl, h⟩ | (exfalso; ((try unfold cs_nm at *) <;> ((try simp +decide only [b01, b10, b11, am_up, and_true, and_false, true_and, false_and, if_true, if_false, nn_eq] at *) <;> (try simp only [sw_or, sw_all, or_false, and_true, i32_lt, i32_le, i32_eq, i32_addw, i32_subw, i32_mulw, Int32.reduceToInt] at *) <;> omega)))) | (exfalso; ((try unfold cs_nm at *) <;> ((try simp +decide only [b01, b10, b11, am_up, and_true, and_false, true_and, false_and, if_true, if_false, nn_eq] at *) <;> (try simp only [sw_or, sw_all, or_false, and_true, i32_lt, i32_le, i32_eq, i32_addw, i32_subw, i32_mulw, Int32.reduceToInt] at *) <;> omega)))
          · skip
            refine r_ic (v := 0) (q := 300) d_law_299 rfl rfl ?_
            exfalso; ((try unfold cs_nm at *) <;> ((try simp +decide only [b01, b10, b11, am_up, and_true, and_false, true_and, false_and, if_true, if_false, nn_eq] at *) <;> (try simp only [sw_or, sw_all, or_false, and_true, i32_lt, i32_le, i32_eq, i32_addw, i32_subw, i32_mulw, Int32.reduceToInt] at *) <;> omega))
      · skip
        refine r_ic (v := 0) (q := 283) d_law_282 rfl rfl ?_
        exfalso; ((try unfold cs_nm at *) <;> ((try simp +decide only [b01, b10, b11, am_up, and_true, and_false, true_and, false_and, if_true, if_false, nn_eq] at *) <;> (try simp only [sw_or, sw_all, or_false, and_true, i32_lt, i32_le, i32_eq, i32_addw, i32_subw, i32_mulw, Int32.reduceToInt] at *) <;> omega))
    · skip
      refine r_is6 (q := 273) d_law_271 rfl ?_
      refine r_al2 (q := 274) d_law_273 rfl ?_
      refine r_vi0 mo_MO_thrown d_law_274 rfl rfl rfl (q := 277) rfl ?_
      refine sp_MO_thrown ?_
      refine r_il5 (q := 279) d_law_277 rfl ?_
      refine r_ceq (tgt := 284) (q := 282) d_law_279 rfl rfl (fun e279 => ?_) (fun e279 => ?_)
      · skip
        refine r_il5 (q := 286) d_law_284 rfl ?_
        refine r_zne (tgt := 301) (q := 289) d_law_286 rfl rfl (fun e286 => ?_) (fun e286 => ?_)
        · skip
          refine am_go (tgt := 802) d_law_301 rfl ?_
          first | exact am_cut ⟨rfl, rfl, _, _, _, rfl, h⟩ | (rcases cg with ⟨_, rfl⟩ | ⟨_, rfl⟩ <;> first | exact am_cut ⟨rfl, rfl, _, _, _, rfl, h⟩ | (exfalso; ((try unfold cs_nm at *) <;> ((try simp +decide only [b01, b10, b11, am_up, and_true, and_false, true_and, false_and, if_true, if_false, nn_eq] at *) <;> (try simp only [sw_or, sw_all, or_false, and_true, i32_lt, i32_le, i32_eq, i32_addw, i32_subw, i32_mulw, Int32.reduceToInt] at *) <;> omega)))) | (exfalso; ((try unfold cs_nm at *) <;> ((try simp +decide only [b01, b10, b11, am_up, and_true, and_false, true_and, false_and, if_true, if_false, nn_eq] at *) <;> (try simp only [sw_or, sw_all, or_false, and_true, i32_lt, i32_le, i32_eq, i32_addw, i32_subw, i32_mulw, Int32.reduceToInt] at *) <;> omega)))
        · skip
          refine r_al3 (q := 290) d_law_289 rfl ?_
          refine r_ic (v := 0) (q := 291) d_law_290 rfl rfl ?_
          refine am_al (n := 1) (q := 292) d_law_291 rfl (vp_of (by decide) (by decide)) rfl ?_
          refine r_il6 (q := 294) d_law_292 rfl ?_
          refine am_s (q := 295) d_law_294 rfl rfl ?_
          refine am_s (q := 296) d_law_295 rfl rfl ?_
          refine r_zeq (tgt := 301) (q := 299) d_law_296 rfl rfl (fun e296 => ?_) (fun e296 => ?_)
          · skip
            refine am_go (tgt := 802) d_law_301 rfl ?_
            first | exact am_cut ⟨rfl, rfl, _, _, _, rfl, h⟩ | (rcases cg with ⟨_, rfl⟩ | ⟨_, rfl⟩ <;> first | exact am_cut ⟨rfl, rfl, _, _, _, rfl, h⟩ | (exfalso; ((try unfold cs_nm at *) <;> ((try simp +decide only [b01, b10, b11, am_up, and_true, and_false, true_and, false_and, if_true, if_false, nn_eq] at *) <;> (try simp only [sw_or, sw_all, or_false, and_true, i32_lt, i32_le, i32_eq, i32_addw, i32_subw, i32_mulw, Int32.reduceToInt] at *) <;> omega)))) | (exfalso; ((try unfold cs_nm at *) <;> ((try simp +decide only [b01, b10, b11, am_up, and_true, and_false, true_and, false_and, if_true, if_false, nn_eq] at *) <;> (try simp only [sw_or, sw_all, or_false, and_true, i32_lt, i32_le, i32_eq, i32_addw, i32_subw, i32_mulw, Int32.reduceToInt] at *) <;> omega)))
          · skip
            refine r_ic (v := 0) (q := 300) d_law_299 rfl rfl ?_
            exfalso; ((try unfold cs_nm at *) <;> ((try simp +decide only [b01, b10, b11, am_up, and_true, and_false, true_and, false_and, if_true, if_false, nn_eq] at *) <;> (try simp only [sw_or, sw_all, or_false, and_true, i32_lt, i32_le, i32_eq, i32_addw, i32_subw, i32_mulw, Int32.reduceToInt] at *) <;> omega))
      · skip
        refine r_ic (v := 0) (q := 283) d_law_282 rfl rfl ?_
        exfalso; ((try unfold cs_nm at *) <;> ((try simp +decide only [b01, b10, b11, am_up, and_true, and_false, true_and, false_and, if_true, if_false, nn_eq] at *) <;> (try simp only [sw_or, sw_all, or_false, and_true, i32_lt, i32_le, i32_eq, i32_addw, i32_subw, i32_mulw, Int32.reduceToInt] at *) <;> omega))
    · skip
      refine r_is6 (q := 273) d_law_271 rfl ?_
      refine r_al2 (q := 274) d_law_273 rfl ?_
      refine r_vi0 mo_MO_thrown d_law_274 rfl rfl rfl (q := 277) rfl ?_
      refine sp_MO_thrown ?_
      refine r_il5 (q := 279) d_law_277 rfl ?_
      refine r_ceq (tgt := 284) (q := 282) d_law_279 rfl rfl (fun e279 => ?_) (fun e279 => ?_)
      · skip
        refine r_il5 (q := 286) d_law_284 rfl ?_
        refine r_zne (tgt := 301) (q := 289) d_law_286 rfl rfl (fun e286 => ?_) (fun e286 => ?_)
        · skip
          refine am_go (tgt := 802) d_law_301 rfl ?_
          first | exact am_cut ⟨rfl, rfl, _, _, _, rfl, h⟩ | (rcases cg with ⟨_, rfl⟩ | ⟨_, rfl⟩ <;> first | exact am_cut ⟨rfl, rfl, _, _, _, rfl, h⟩ | (exfalso; ((try unfold cs_nm at *) <;> ((try simp +decide only [b01, b10, b11, am_up, and_true, and_false, true_and, false_and, if_true, if_false, nn_eq] at *) <;> (try simp only [sw_or, sw_all, or_false, and_true, i32_lt, i32_le, i32_eq, i32_addw, i32_subw, i32_mulw, Int32.reduceToInt] at *) <;> omega)))) | (exfalso; ((try unfold cs_nm at *) <;> ((try simp +decide only [b01, b10, b11, am_up, and_true, and_false, true_and, false_and, if_true, if_false, nn_eq] at *) <;> (try simp only [sw_or, sw_all, or_false, and_true, i32_lt, i32_le, i32_eq, i32_addw, i32_subw, i32_mulw, Int32.reduceToInt] at *) <;> omega)))
        · skip
          refine r_al3 (q := 290) d_law_289 rfl ?_
          refine r_ic (v := 0) (q := 291) d_law_290 rfl rfl ?_
          refine am_al (n := 1) (q := 292) d_law_291 rfl (vp_of (by decide) (by decide)) rfl ?_
          refine r_il6 (q := 294) d_law_292 rfl ?_
          refine am_s (q := 295) d_law_294 rfl rfl ?_
          refine am_s (q := 296) d_law_295 rfl rfl ?_
          refine r_zeq (tgt := 301) (q := 299) d_law_296 rfl rfl (fun e296 => ?_) (fun e296 => ?_)
          · skip
            refine am_go (tgt := 802) d_law_301 rfl ?_
            first | exact am_cut ⟨rfl, rfl, _, _, _, rfl, h⟩ | (rcases cg with ⟨_, rfl⟩ | ⟨_, rfl⟩ <;> first | exact am_cut ⟨rfl, rfl, _, _, _, rfl, h⟩ | (exfalso; ((try unfold cs_nm at *) <;> ((try simp +decide only [b01, b10, b11, am_up, and_true, and_false, true_and, false_and, if_true, if_false, nn_eq] at *) <;> (try simp only [sw_or, sw_all, or_false, and_true, i32_lt, i32_le, i32_eq, i32_addw, i32_subw, i32_mulw, Int32.reduceToInt] at *) <;> omega)))) | (exfalso; ((try unfold cs_nm at *) <;> ((try simp +decide only [b01, b10, b11, am_up, and_true, and_false, true_and, false_and, if_true, if_false, nn_eq] at *) <;> (try simp only [sw_or, sw_all, or_false, and_true, i32_lt, i32_le, i32_eq, i32_addw, i32_subw, i32_mulw, Int32.reduceToInt] at *) <;> omega)))
          · skip
            refine r_ic (v := 0) (q := 300) d_law_299 rfl rfl ?_
            exfalso; ((try unfold cs_nm at *) <;> ((try simp +decide only [b01, b10, b11, am_up, and_true, and_false, true_and, false_and, if_true, if_false, nn_eq] at *) <;> (try simp only [sw_or, sw_all, or_false, and_true, i32_lt, i32_le, i32_eq, i32_addw, i32_subw, i32_mulw, Int32.reduceToInt] at *) <;> omega))
      · skip
        refine r_ic (v := 0) (q := 283) d_law_282 rfl rfl ?_
        exfalso; ((try unfold cs_nm at *) <;> ((try simp +decide only [b01, b10, b11, am_up, and_true, and_false, true_and, false_and, if_true, if_false, nn_eq] at *) <;> (try simp only [sw_or, sw_all, or_false, and_true, i32_lt, i32_le, i32_eq, i32_addw, i32_subw, i32_mulw, Int32.reduceToInt] at *) <;> omega))
theorem la_1b {L : Nat} {xs : Nat → Int32} {K : Int32 → am_S → Prop} {i : Int32} {a b : Option am_V} {st : am_S} (i0 : 0 ≤ i.toInt) (i6 : i.toInt + 6 ≤ (L : Int)) (iL : L ≤ 3072) {g : Int32} (cg : ((xs (i + 5).toNatClampNeg) = 0 ∧ g = 0) ∨ (¬ (xs (i + 5).toNatClampNeg) = 0 ∧ g = 1)) (c1 : 0 ≤ (st 579 0).toInt) (c2 : (st 579 0).toInt ≤ 8) (c3 : (cs_nm (xs (i + 2).toNatClampNeg) (xs (i + 3).toNatClampNeg) (xs (i + 4).toNatClampNeg) ∧ 1 ≤ (xs (i + 1).toNatClampNeg) ∧ (xs (i + 1).toNatClampNeg) ≤ st 577 0 - st 2143 (st 579 0).toNatClampNeg)) (c4 : ¬ st 591 0 = 0 ∨ st 579 0 = 8) (h : K i (am_up st 576 0 2)) : am_AW code (g_law L xs (lw_P2 K)) lw_k 227 (lw_lv i a b) [.inl 2] st := by
  refine r_is5 (q := 229) d_law_227 rfl ?_
  refine r_al2 (q := 230) d_law_229 rfl ?_
  refine r_al0 (q := 231) d_law_230 rfl ?_
  refine r_il4 (q := 233) d_law_231 rfl ?_
  refine r_ic (v := 1) (q := 234) d_law_233 rfl rfl ?_
  refine r_iadd (q := 235) d_law_234 rfl ?_
  refine am_sl (q := 236) d_law_235 rfl ?_ rfl ?_
  · (refine vp_of ?_ ?_ <;> (((try simp +decide only [b01, b10, b11, am_up, and_true, and_false, true_and, false_and, if_true, if_false, nn_eq] at *) <;> (try simp only [sw_or, sw_all, or_false, and_true, i32_lt, i32_le, i32_eq, i32_addw, i32_subw, i32_mulw, Int32.reduceToInt] at *) <;> omega)))
  refine r_al0 (q := 237) d_law_236 rfl ?_
  refine r_il4 (q := 239) d_law_237 rfl ?_
  refine r_ic (v := 2) (q := 240) d_law_239 rfl rfl ?_
  refine r_iadd (q := 241) d_law_240 rfl ?_
  refine am_sl (q := 242) d_law_241 rfl ?_ rfl ?_
  · (refine vp_of ?_ ?_ <;> (((try simp +decide only [b01, b10, b11, am_up, and_true, and_false, true_and, false_and, if_true, if_false, nn_eq] at *) <;> (try simp only [sw_or, sw_all, or_false, and_true, i32_lt, i32_le, i32_eq, i32_addw, i32_subw, i32_mulw, Int32.reduceToInt] at *) <;> omega)))
  refine r_al0 (q := 243) d_law_242 rfl ?_
  refine r_il4 (q := 245) d_law_243 rfl ?_
  refine r_ic (v := 3) (q := 246) d_law_245 rfl rfl ?_
  refine r_iadd (q := 247) d_law_246 rfl ?_
  refine am_sl (q := 248) d_law_247 rfl ?_ rfl ?_
  · (refine vp_of ?_ ?_ <;> (((try simp +decide only [b01, b10, b11, am_up, and_true, and_false, true_and, false_and, if_true, if_false, nn_eq] at *) <;> (try simp only [sw_or, sw_all, or_false, and_true, i32_lt, i32_le, i32_eq, i32_addw, i32_subw, i32_mulw, Int32.reduceToInt] at *) <;> omega)))
  refine r_al0 (q := 249) d_law_248 rfl ?_
  refine r_il4 (q := 251) d_law_249 rfl ?_
  refine r_ic (v := 4) (q := 252) d_law_251 rfl rfl ?_
  refine r_iadd (q := 253) d_law_252 rfl ?_
  refine am_sl (q := 254) d_law_253 rfl ?_ rfl ?_
  · (refine vp_of ?_ ?_ <;> (((try simp +decide only [b01, b10, b11, am_up, and_true, and_false, true_and, false_and, if_true, if_false, nn_eq] at *) <;> (try simp only [sw_or, sw_all, or_false, and_true, i32_lt, i32_le, i32_eq, i32_addw, i32_subw, i32_mulw, Int32.reduceToInt] at *) <;> omega)))
  refine r_al0 (q := 255) d_law_254 rfl ?_
  refine r_il4 (q := 257) d_law_255 rfl ?_
  refine r_ic (v := 5) (q := 258) d_law_257 rfl rfl ?_
  refine r_iadd (q := 259) d_law_258 rfl ?_
  refine am_sl (q := 260) d_law_259 rfl ?_ rfl ?_
  · (refine vp_of ?_ ?_ <;> (((try simp +decide only [b01, b10, b11, am_up, and_true, and_false, true_and, false_and, if_true, if_false, nn_eq] at *) <;> (try simp only [sw_or, sw_all, or_false, and_true, i32_lt, i32_le, i32_eq, i32_addw, i32_subw, i32_mulw, Int32.reduceToInt] at *) <;> omega)))
  refine r_zeq (tgt := 267) (q := 263) d_law_260 rfl rfl (fun e260 => ?_) (fun e260 => ?_)
  · skip
    refine r_ic (v := 0) (q := 268) d_law_267 rfl rfl ?_
    refine r_vi5 mo_MO_method d_law_268 rfl rfl rfl (q := 271) rfl ?_
    refine sp_MO_method (by first | assumption | omega | decide | ((try simp +decide only [b01, b10, b11, am_up, and_true, and_false, true_and, false_and, if_true, if_false, nn_eq] at *) <;> (try simp only [sw_or, sw_all, or_false, and_true, i32_lt, i32_le, i32_eq, i32_addw, i32_subw, i32_mulw, Int32.reduceToInt] at *) <;> omega) | (apply_assumption; done)) (by first | assumption | omega | decide | ((try simp +decide only [b01, b10, b11, am_up, and_true, and_false, true_and, false_and, if_true, if_false, nn_eq] at *) <;> (try simp only [sw_or, sw_all, or_false, and_true, i32_lt, i32_le, i32_eq, i32_addw, i32_subw, i32_mulw, Int32.reduceToInt] at *) <;> omega) | (apply_assumption; done)) (by first | assumption | omega | decide | ((try simp +decide only [b01, b10, b11, am_up, and_true, and_false, true_and, false_and, if_true, if_false, nn_eq] at *) <;> (try simp only [sw_or, sw_all, or_false, and_true, i32_lt, i32_le, i32_eq, i32_addw, i32_subw, i32_mulw, Int32.reduceToInt] at *) <;> omega) | (apply_assumption; done)) (fun e268 => ?_) (fun e268 => ?_) (fun e268 => ?_)
    · skip
      refine r_is6 (q := 273) d_law_271 rfl ?_
      refine r_al2 (q := 274) d_law_273 rfl ?_
      refine r_vi0 mo_MO_thrown d_law_274 rfl rfl rfl (q := 277) rfl ?_
      refine sp_MO_thrown ?_
      refine r_il5 (q := 279) d_law_277 rfl ?_
      refine r_ceq (tgt := 284) (q := 282) d_law_279 rfl rfl (fun e279 => ?_) (fun e279 => ?_)
      · skip
        refine r_il5 (q := 286) d_law_284 rfl ?_
        refine r_zne (tgt := 301) (q := 289) d_law_286 rfl rfl (fun e286 => ?_) (fun e286 => ?_)
        · skip
          refine am_go (tgt := 802) d_law_301 rfl ?_
          first | exact am_cut ⟨rfl, rfl, _, _, _, rfl, h⟩ | (rcases cg with ⟨_, rfl⟩ | ⟨_, rfl⟩ <;> first | exact am_cut ⟨rfl, rfl, _, _, _, rfl, h⟩ | (exfalso; ((try unfold cs_nm at *) <;> ((try simp +decide only [b01, b10, b11, am_up, and_true, and_false, true_and, false_and, if_true, if_false, nn_eq] at *) <;> (try simp only [sw_or, sw_all, or_false, and_true, i32_lt, i32_le, i32_eq, i32_addw, i32_subw, i32_mulw, Int32.reduceToInt] at *) <;> omega)))) | (exfalso; ((try unfold cs_nm at *) <;> ((try simp +decide only [b01, b10, b11, am_up, and_true, and_false, true_and, false_and, if_true, if_false, nn_eq] at *) <;> (try simp only [sw_or, sw_all, or_false, and_true, i32_lt, i32_le, i32_eq, i32_addw, i32_subw, i32_mulw, Int32.reduceToInt] at *) <;> omega)))
        · skip
          refine r_al3 (q := 290) d_law_289 rfl ?_
          refine r_ic (v := 0) (q := 291) d_law_290 rfl rfl ?_
          refine am_al (n := 1) (q := 292) d_law_291 rfl (vp_of (by decide) (by decide)) rfl ?_
          refine r_il6 (q := 294) d_law_292 rfl ?_
          refine am_s (q := 295) d_law_294 rfl rfl ?_
          refine am_s (q := 296) d_law_295 rfl rfl ?_
          refine r_zeq (tgt := 301) (q := 299) d_law_296 rfl rfl (fun e296 => ?_) (fun e296 => ?_)
          · skip
            refine am_go (tgt := 802) d_law_301 rfl ?_
            first | exact am_cut ⟨rfl, rfl, _, _, _, rfl, h⟩ | (rcases cg with ⟨_, rfl⟩ | ⟨_, rfl⟩ <;> first | exact am_cut ⟨rfl, rfl, _, _, _, rfl, h⟩ | (exfalso; ((try unfold cs_nm at *) <;> ((try simp +decide only [b01, b10, b11, am_up, and_true, and_false, true_and, false_and, if_true, if_false, nn_eq] at *) <;> (try simp only [sw_or, sw_all, or_false, and_true, i32_lt, i32_le, i32_eq, i32_addw, i32_subw, i32_mulw, Int32.reduceToInt] at *) <;> omega)))) | (exfalso; ((try unfold cs_nm at *) <;> ((try simp +decide only [b01, b10, b11, am_up, and_true, and_false, true_and, false_and, if_true, if_false, nn_eq] at *) <;> (try simp only [sw_or, sw_all, or_false, and_true, i32_lt, i32_le, i32_eq, i32_addw, i32_subw, i32_mulw, Int32.reduceToInt] at *) <;> omega)))
          · skip
            refine r_ic (v := 0) (q := 300) d_law_299 rfl rfl ?_
            exfalso; ((try unfold cs_nm at *) <;> ((try simp +decide only [b01, b10, b11, am_up, and_true, and_false, true_and, false_and, if_true, if_false, nn_eq] at *) <;> (try simp only [sw_or, sw_all, or_false, and_true, i32_lt, i32_le, i32_eq, i32_addw, i32_subw, i32_mulw, Int32.reduceToInt] at *) <;> omega))
      · skip
        refine r_ic (v := 0) (q := 283) d_law_282 rfl rfl ?_
        exfalso; ((try unfold cs_nm at *) <;> ((try simp +decide only [b01, b10, b11, am_up, and_true, and_false, true_and, false_and, if_true, if_false, nn_eq] at *) <;> (try simp only [sw_or, sw_all, or_false, and_true, i32_lt, i32_le, i32_eq, i32_addw, i32_subw, i32_mulw, Int32.reduceToInt] at *) <;> omega))
    · skip
      refine r_is6 (q := 273) d_law_271 rfl ?_
      refine r_al2 (q := 274) d_law_273 rfl ?_
      refine r_vi0 mo_MO_thrown d_law_274 rfl rfl rfl (q := 277) rfl ?_
      refine sp_MO_thrown ?_
      refine r_il5 (q := 279) d_law_277 rfl ?_
      refine r_ceq (tgt := 284) (q := 282) d_law_279 rfl rfl (fun e279 => ?_) (fun e279 => ?_)
      · skip
        refine r_il5 (q := 286) d_law_284 rfl ?_
        refine r_zne (tgt := 301) (q := 289) d_law_286 rfl rfl (fun e286 => ?_) (fun e286 => ?_)
        · skip
          refine am_go (tgt := 802) d_law_301 rfl ?_
          first | exact am_cut ⟨rfl, rfl, _, _, _, rfl, h⟩ | (rcases cg with ⟨_, rfl⟩ | ⟨_, rfl⟩ <;> first | exact am_cut ⟨rfl, rfl, _, _, _, rfl, h⟩ | (exfalso; ((try unfold cs_nm at *) <;> ((try simp +decide only [b01, b10, b11, am_up, and_true, and_false, true_and, false_and, if_true, if_false, nn_eq] at *) <;> (try simp only [sw_or, sw_all, or_false, and_true, i32_lt, i32_le, i32_eq, i32_addw, i32_subw, i32_mulw, Int32.reduceToInt] at *) <;> omega)))) | (exfalso; ((try unfold cs_nm at *) <;> ((try simp +decide only [b01, b10, b11, am_up, and_true, and_false, true_and, false_and, if_true, if_false, nn_eq] at *) <;> (try simp only [sw_or, sw_all, or_false, and_true, i32_lt, i32_le, i32_eq, i32_addw, i32_subw, i32_mulw, Int32.reduceToInt] at *) <;> omega)))
        · skip
          refine r_al3 (q := 290) d_law_289 rfl ?_
          refine r_ic (v := 0) (q := 291) d_law_290 rfl rfl ?_
          refine am_al (n := 1) (q := 292) d_law_291 rfl (vp_of (by decide) (by decide)) rfl ?_
          refine r_il6 (q := 294) d_law_292 rfl ?_
          refine am_s (q := 295) d_law_294 rfl rfl ?_
          refine am_s (q := 296) d_law_295 rfl rfl ?_
          refine r_zeq (tgt := 301) (q := 299) d_law_296 rfl rfl (fun e296 => ?_) (fun e296 => ?_)
          · skip
            refine am_go (tgt := 802) d_law_301 rfl ?_
            first | exact am_cut ⟨rfl, rfl, _, _, _, rfl, h⟩ | (rcases cg with ⟨_, rfl⟩ | ⟨_, rfl⟩ <;> first | exact am_cut ⟨rfl, rfl, _, _, _, rfl, h⟩ | (exfalso; ((try unfold cs_nm at *) <;> ((try simp +decide only [b01, b10, b11, am_up, and_true, and_false, true_and, false_and, if_true, if_false, nn_eq] at *) <;> (try simp only [sw_or, sw_all, or_false, and_true, i32_lt, i32_le, i32_eq, i32_addw, i32_subw, i32_mulw, Int32.reduceToInt] at *) <;> omega)))) | (exfalso; ((try unfold cs_nm at *) <;> ((try simp +decide only [b01, b10, b11, am_up, and_true, and_false, true_and, false_and, if_true, if_false, nn_eq] at *) <;> (try simp only [sw_or, sw_all, or_false, and_true, i32_lt, i32_le, i32_eq, i32_addw, i32_subw, i32_mulw, Int32.reduceToInt] at *) <;> omega)))
          · skip
            refine r_ic (v := 0) (q := 300) d_law_299 rfl rfl ?_
            exfalso; ((try unfold cs_nm at *) <;> ((try simp +decide only [b01, b10, b11, am_up, and_true, and_false, true_and, false_and, if_true, if_false, nn_eq] at *) <;> (try simp only [sw_or, sw_all, or_false, and_true, i32_lt, i32_le, i32_eq, i32_addw, i32_subw, i32_mulw, Int32.reduceToInt] at *) <;> omega))
      · skip
        refine r_ic (v := 0) (q := 283) d_law_282 rfl rfl ?_
        exfalso; ((try unfold cs_nm at *) <;> ((try simp +decide only [b01, b10, b11, am_up, and_true, and_false, true_and, false_and, if_true, if_false, nn_eq] at *) <;> (try simp only [sw_or, sw_all, or_false, and_true, i32_lt, i32_le, i32_eq, i32_addw, i32_subw, i32_mulw, Int32.reduceToInt] at *) <;> omega))
    · skip
      refine r_is6 (q := 273) d_law_271 rfl ?_
      refine r_al2 (q := 274) d_law_273 rfl ?_
      refine r_vi0 mo_MO_thrown d_law_274 rfl rfl rfl (q := 277) rfl ?_
      refine sp_MO_thrown ?_
      refine r_il5 (q := 279) d_law_277 rfl ?_
      refine r_ceq (tgt := 284) (q := 282) d_law_279 rfl rfl (fun e279 => ?_) (fun e279 => ?_)
      · skip
        refine r_il5 (q := 286) d_law_284 rfl ?_
        refine r_zne (tgt := 301) (q := 289) d_law_286 rfl rfl (fun e286 => ?_) (fun e286 => ?_)
        · skip
          refine am_go (tgt := 802) d_law_301 rfl ?_
          first | exact am_cut ⟨rfl, rfl, _, _, _, rfl, h⟩ | (rcases cg with ⟨_, rfl⟩ | ⟨_, rfl⟩ <;> first | exact am_cut ⟨rfl, rfl, _, _, _, rfl, h⟩ | (exfalso; ((try unfold cs_nm at *) <;> ((try simp +decide only [b01, b10, b11, am_up, and_true, and_false, true_and, false_and, if_true, if_false, nn_eq] at *) <;> (try simp only [sw_or, sw_all, or_false, and_true, i32_lt, i32_le, i32_eq, i32_addw, i32_subw, i32_mulw, Int32.reduceToInt] at *) <;> omega)))) | (exfalso; ((try unfold cs_nm at *) <;> ((try simp +decide only [b01, b10, b11, am_up, and_true, and_false, true_and, false_and, if_true, if_false, nn_eq] at *) <;> (try simp only [sw_or, sw_all, or_false, and_true, i32_lt, i32_le, i32_eq, i32_addw, i32_subw, i32_mulw, Int32.reduceToInt] at *) <;> omega)))
        · skip
          refine r_al3 (q := 290) d_law_289 rfl ?_
          refine r_ic (v := 0) (q := 291) d_law_290 rfl rfl ?_
          refine am_al (n := 1) (q := 292) d_law_291 rfl (vp_of (by decide) (by decide)) rfl ?_
          refine r_il6 (q := 294) d_law_292 rfl ?_
          refine am_s (q := 295) d_law_294 rfl rfl ?_
          refine am_s (q := 296) d_law_295 rfl rfl ?_
          refine r_zeq (tgt := 301) (q := 299) d_law_296 rfl rfl (fun e296 => ?_) (fun e296 => ?_)
          · skip
            refine am_go (tgt := 802) d_law_301 rfl ?_
            first | exact am_cut ⟨rfl, rfl, _, _, _, rfl, h⟩ | (rcases cg with ⟨_, rfl⟩ | ⟨_, rfl⟩ <;> first | exact am_cut ⟨rfl, rfl, _, _, _, rfl, h⟩ | (exfalso; ((try unfold cs_nm at *) <;> ((try simp +decide only [b01, b10, b11, am_up, and_true, and_false, true_and, false_and, if_true, if_false, nn_eq] at *) <;> (try simp only [sw_or, sw_all, or_false, and_true, i32_lt, i32_le, i32_eq, i32_addw, i32_subw, i32_mulw, Int32.reduceToInt] at *) <;> omega)))) | (exfalso; ((try unfold cs_nm at *) <;> ((try simp +decide only [b01, b10, b11, am_up, and_true, and_false, true_and, false_and, if_true, if_false, nn_eq] at *) <;> (try simp only [sw_or, sw_all, or_false, and_true, i32_lt, i32_le, i32_eq, i32_addw, i32_subw, i32_mulw, Int32.reduceToInt] at *) <;> omega)))
          · skip
            refine r_ic (v := 0) (q := 300) d_law_299 rfl rfl ?_
            exfalso; ((try unfold cs_nm at *) <;> ((try simp +decide only [b01, b10, b11, am_up, and_true, and_false, true_and, false_and, if_true, if_false, nn_eq] at *) <;> (try simp only [sw_or, sw_all, or_false, and_true, i32_lt, i32_le, i32_eq, i32_addw, i32_subw, i32_mulw, Int32.reduceToInt] at *) <;> omega))
      · skip
        refine r_ic (v := 0) (q := 283) d_law_282 rfl rfl ?_
        exfalso; ((try unfold cs_nm at *) <;> ((try simp +decide only [b01, b10, b11, am_up, and_true, and_false, true_and, false_and, if_true, if_false, nn_eq] at *) <;> (try simp only [sw_or, sw_all, or_false, and_true, i32_lt, i32_le, i32_eq, i32_addw, i32_subw, i32_mulw, Int32.reduceToInt] at *) <;> omega))
  · skip
    refine r_ic (v := 1) (q := 264) d_law_263 rfl rfl ?_
    refine am_go (tgt := 268) d_law_264 rfl ?_
    refine r_vi5 mo_MO_method d_law_268 rfl rfl rfl (q := 271) rfl ?_
    refine sp_MO_method (by first | assumption | omega | decide | ((try simp +decide only [b01, b10, b11, am_up, and_true, and_false, true_and, false_and, if_true, if_false, nn_eq] at *) <;> (try simp only [sw_or, sw_all, or_false, and_true, i32_lt, i32_le, i32_eq, i32_addw, i32_subw, i32_mulw, Int32.reduceToInt] at *) <;> omega) | (apply_assumption; done)) (by first | assumption | omega | decide | ((try simp +decide only [b01, b10, b11, am_up, and_true, and_false, true_and, false_and, if_true, if_false, nn_eq] at *) <;> (try simp only [sw_or, sw_all, or_false, and_true, i32_lt, i32_le, i32_eq, i32_addw, i32_subw, i32_mulw, Int32.reduceToInt] at *) <;> omega) | (apply_assumption; done)) (by first | assumption | omega | decide | ((try simp +decide only [b01, b10, b11, am_up, and_true, and_false, true_and, false_and, if_true, if_false, nn_eq] at *) <;> (try simp only [sw_or, sw_all, or_false, and_true, i32_lt, i32_le, i32_eq, i32_addw, i32_subw, i32_mulw, Int32.reduceToInt] at *) <;> omega) | (apply_assumption; done)) (fun e268 => ?_) (fun e268 => ?_) (fun e268 => ?_)
    · skip
      refine r_is6 (q := 273) d_law_271 rfl ?_
      refine r_al2 (q := 274) d_law_273 rfl ?_
      refine r_vi0 mo_MO_thrown d_law_274 rfl rfl rfl (q := 277) rfl ?_
      refine sp_MO_thrown ?_
      refine r_il5 (q := 279) d_law_277 rfl ?_
      refine r_ceq (tgt := 284) (q := 282) d_law_279 rfl rfl (fun e279 => ?_) (fun e279 => ?_)
      · skip
        refine r_il5 (q := 286) d_law_284 rfl ?_
        refine r_zne (tgt := 301) (q := 289) d_law_286 rfl rfl (fun e286 => ?_) (fun e286 => ?_)
        · skip
          refine am_go (tgt := 802) d_law_301 rfl ?_
          first | exact am_cut ⟨rfl, rfl, _, _, _, rfl, h⟩ | (rcases cg with ⟨_, rfl⟩ | ⟨_, rfl⟩ <;> first | exact am_cut ⟨rfl, rfl, _, _, _, rfl, h⟩ | (exfalso; ((try unfold cs_nm at *) <;> ((try simp +decide only [b01, b10, b11, am_up, and_true, and_false, true_and, false_and, if_true, if_false, nn_eq] at *) <;> (try simp only [sw_or, sw_all, or_false, and_true, i32_lt, i32_le, i32_eq, i32_addw, i32_subw, i32_mulw, Int32.reduceToInt] at *) <;> omega)))) | (exfalso; ((try unfold cs_nm at *) <;> ((try simp +decide only [b01, b10, b11, am_up, and_true, and_false, true_and, false_and, if_true, if_false, nn_eq] at *) <;> (try simp only [sw_or, sw_all, or_false, and_true, i32_lt, i32_le, i32_eq, i32_addw, i32_subw, i32_mulw, Int32.reduceToInt] at *) <;> omega)))
        · skip
          refine r_al3 (q := 290) d_law_289 rfl ?_
          refine r_ic (v := 0) (q := 291) d_law_290 rfl rfl ?_
          refine am_al (n := 1) (q := 292) d_law_291 rfl (vp_of (by decide) (by decide)) rfl ?_
          refine r_il6 (q := 294) d_law_292 rfl ?_
          refine am_s (q := 295) d_law_294 rfl rfl ?_
          refine am_s (q := 296) d_law_295 rfl rfl ?_
          refine r_zeq (tgt := 301) (q := 299) d_law_296 rfl rfl (fun e296 => ?_) (fun e296 => ?_)
          · skip
            refine am_go (tgt := 802) d_law_301 rfl ?_
            first | exact am_cut ⟨rfl, rfl, _, _, _, rfl, h⟩ | (rcases cg with ⟨_, rfl⟩ | ⟨_, rfl⟩ <;> first | exact am_cut ⟨rfl, rfl, _, _, _, rfl, h⟩ | (exfalso; ((try unfold cs_nm at *) <;> ((try simp +decide only [b01, b10, b11, am_up, and_true, and_false, true_and, false_and, if_true, if_false, nn_eq] at *) <;> (try simp only [sw_or, sw_all, or_false, and_true, i32_lt, i32_le, i32_eq, i32_addw, i32_subw, i32_mulw, Int32.reduceToInt] at *) <;> omega)))) | (exfalso; ((try unfold cs_nm at *) <;> ((try simp +decide only [b01, b10, b11, am_up, and_true, and_false, true_and, false_and, if_true, if_false, nn_eq] at *) <;> (try simp only [sw_or, sw_all, or_false, and_true, i32_lt, i32_le, i32_eq, i32_addw, i32_subw, i32_mulw, Int32.reduceToInt] at *) <;> omega)))
          · skip
            refine r_ic (v := 0) (q := 300) d_law_299 rfl rfl ?_
            exfalso; ((try unfold cs_nm at *) <;> ((try simp +decide only [b01, b10, b11, am_up, and_true, and_false, true_and, false_and, if_true, if_false, nn_eq] at *) <;> (try simp only [sw_or, sw_all, or_false, and_true, i32_lt, i32_le, i32_eq, i32_addw, i32_subw, i32_mulw, Int32.reduceToInt] at *) <;> omega))
      · skip
        refine r_ic (v := 0) (q := 283) d_law_282 rfl rfl ?_
        exfalso; ((try unfold cs_nm at *) <;> ((try simp +decide only [b01, b10, b11, am_up, and_true, and_false, true_and, false_and, if_true, if_false, nn_eq] at *) <;> (try simp only [sw_or, sw_all, or_false, and_true, i32_lt, i32_le, i32_eq, i32_addw, i32_subw, i32_mulw, Int32.reduceToInt] at *) <;> omega))
    · skip
      refine r_is6 (q := 273) d_law_271 rfl ?_
      refine r_al2 (q := 274) d_law_273 rfl ?_
      refine r_vi0 mo_MO_thrown d_law_274 rfl rfl rfl (q := 277) rfl ?_
      refine sp_MO_thrown ?_
      refine r_il5 (q := 279) d_law_277 rfl ?_
      refine r_ceq (tgt := 284) (q := 282) d_law_279 rfl rfl (fun e279 => ?_) (fun e279 => ?_)
      · skip
        refine r_il5 (q := 286) d_law_284 rfl ?_
        refine r_zne (tgt := 301) (q := 289) d_law_286 rfl rfl (fun e286 => ?_) (fun e286 => ?_)
        · skip
          refine am_go (tgt := 802) d_law_301 rfl ?_
          first | exact am_cut ⟨rfl, rfl, _, _, _, rfl, h⟩ | (rcases cg with ⟨_, rfl⟩ | ⟨_, rfl⟩ <;> first | exact am_cut ⟨rfl, rfl, _, _, _, rfl, h⟩ | (exfalso; ((try unfold cs_nm at *) <;> ((try simp +decide only [b01, b10, b11, am_up, and_true, and_false, true_and, false_and, if_true, if_false, nn_eq] at *) <;> (try simp only [sw_or, sw_all, or_false, and_true, i32_lt, i32_le, i32_eq, i32_addw, i32_subw, i32_mulw, Int32.reduceToInt] at *) <;> omega)))) | (exfalso; ((try unfold cs_nm at *) <;> ((try simp +decide only [b01, b10, b11, am_up, and_true, and_false, true_and, false_and, if_true, if_false, nn_eq] at *) <;> (try simp only [sw_or, sw_all, or_false, and_true, i32_lt, i32_le, i32_eq, i32_addw, i32_subw, i32_mulw, Int32.reduceToInt] at *) <;> omega)))
        · skip
          refine r_al3 (q := 290) d_law_289 rfl ?_
          refine r_ic (v := 0) (q := 291) d_law_290 rfl rfl ?_
          refine am_al (n := 1) (q := 292) d_law_291 rfl (vp_of (by decide) (by decide)) rfl ?_
          refine r_il6 (q := 294) d_law_292 rfl ?_
          refine am_s (q := 295) d_law_294 rfl rfl ?_
          refine am_s (q := 296) d_law_295 rfl rfl ?_
          refine r_zeq (tgt := 301) (q := 299) d_law_296 rfl rfl (fun e296 => ?_) (fun e296 => ?_)
          · skip
            refine am_go (tgt := 802) d_law_301 rfl ?_
            first | exact am_cut ⟨rfl, rfl, _, _, _, rfl, h⟩ | (rcases cg with ⟨_, rfl⟩ | ⟨_, rfl⟩ <;> first | exact am_cut ⟨rfl, rfl, _, _, _, rfl, h⟩ | (exfalso; ((try unfold cs_nm at *) <;> ((try simp +decide only [b01, b10, b11, am_up, and_true, and_false, true_and, false_and, if_true, if_false, nn_eq] at *) <;> (try simp only [sw_or, sw_all, or_false, and_true, i32_lt, i32_le, i32_eq, i32_addw, i32_subw, i32_mulw, Int32.reduceToInt] at *) <;> omega)))) | (exfalso; ((try unfold cs_nm at *) <;> ((try simp +decide only [b01, b10, b11, am_up, and_true, and_false, true_and, false_and, if_true, if_false, nn_eq] at *) <;> (try simp only [sw_or, sw_all, or_false, and_true, i32_lt, i32_le, i32_eq, i32_addw, i32_subw, i32_mulw, Int32.reduceToInt] at *) <;> omega)))
          · skip
            refine r_ic (v := 0) (q := 300) d_law_299 rfl rfl ?_
            exfalso; ((try unfold cs_nm at *) <;> ((try simp +decide only [b01, b10, b11, am_up, and_true, and_false, true_and, false_and, if_true, if_false, nn_eq] at *) <;> (try simp only [sw_or, sw_all, or_false, and_true, i32_lt, i32_le, i32_eq, i32_addw, i32_subw, i32_mulw, Int32.reduceToInt] at *) <;> omega))
      · skip
        refine r_ic (v := 0) (q := 283) d_law_282 rfl rfl ?_
        exfalso; ((try unfold cs_nm at *) <;> ((try simp +decide only [b01, b10, b11, am_up, and_true, and_false, true_and, false_and, if_true, if_false, nn_eq] at *) <;> (try simp only [sw_or, sw_all, or_false, and_true, i32_lt, i32_le, i32_eq, i32_addw, i32_subw, i32_mulw, Int32.reduceToInt] at *) <;> omega))
    · skip
      refine r_is6 (q := 273) d_law_271 rfl ?_
      refine r_al2 (q := 274) d_law_273 rfl ?_
      refine r_vi0 mo_MO_thrown d_law_274 rfl rfl rfl (q := 277) rfl ?_
      refine sp_MO_thrown ?_
      refine r_il5 (q := 279) d_law_277 rfl ?_
      refine r_ceq (tgt := 284) (q := 282) d_law_279 rfl rfl (fun e279 => ?_) (fun e279 => ?_)
      · skip
        refine r_il5 (q := 286) d_law_284 rfl ?_
        refine r_zne (tgt := 301) (q := 289) d_law_286 rfl rfl (fun e286 => ?_) (fun e286 => ?_)
        · skip
          refine am_go (tgt := 802) d_law_301 rfl ?_
          first | exact am_cut ⟨rfl, rfl, _, _, _, rfl, h⟩ | (rcases cg with ⟨_, rfl⟩ | ⟨_, rfl⟩ <;> first | exact am_cut ⟨rfl, rfl, _, _, _, rfl, h⟩ | (exfalso; ((try unfold cs_nm at *) <;> ((try simp +decide only [b01, b10, b11, am_up, and_true, and_false, true_and, false_and, if_true, if_false, nn_eq] at *) <;> (try simp only [sw_or, sw_all, or_false, and_true, i32_lt, i32_le, i32_eq, i32_addw, i32_subw, i32_mulw, Int32.reduceToInt] at *) <;> omega)))) | (exfalso; ((try unfold cs_nm at *) <;> ((try simp +decide only [b01, b10, b11, am_up, and_true, and_false, true_and, false_and, if_true, if_false, nn_eq] at *) <;> (try simp only [sw_or, sw_all, or_false, and_true, i32_lt, i32_le, i32_eq, i32_addw, i32_subw, i32_mulw, Int32.reduceToInt] at *) <;> omega)))
        · skip
          refine r_al3 (q := 290) d_law_289 rfl ?_
          refine r_ic (v := 0) (q := 291) d_law_290 rfl rfl ?_
          refine am_al (n := 1) (q := 292) d_law_291 rfl (vp_of (by decide) (by decide)) rfl ?_
          refine r_il6 (q := 294) d_law_292 rfl ?_
          refine am_s (q := 295) d_law_294 rfl rfl ?_
          refine am_s (q := 296) d_law_295 rfl rfl ?_
          refine r_zeq (tgt := 301) (q := 299) d_law_296 rfl rfl (fun e296 => ?_) (fun e296 => ?_)
          · skip
            refine am_go (tgt := 802) d_law_301 rfl ?_
            first | exact am_cut ⟨rfl, rfl, _, _, _, rfl, h⟩ | (rcases cg with ⟨_, rfl⟩ | ⟨_, rfl⟩ <;> first | exact am_cut ⟨rfl, rfl, _, _, _, rfl, h⟩ | (exfalso; ((try unfold cs_nm at *) <;> ((try simp +decide only [b01, b10, b11, am_up, and_true, and_false, true_and, false_and, if_true, if_false, nn_eq] at *) <;> (try simp only [sw_or, sw_all, or_false, and_true, i32_lt, i32_le, i32_eq, i32_addw, i32_subw, i32_mulw, Int32.reduceToInt] at *) <;> omega)))) | (exfalso; ((try unfold cs_nm at *) <;> ((try simp +decide only [b01, b10, b11, am_up, and_true, and_false, true_and, false_and, if_true, if_false, nn_eq] at *) <;> (try simp only [sw_or, sw_all, or_false, and_true, i32_lt, i32_le, i32_eq, i32_addw, i32_subw, i32_mulw, Int32.reduceToInt] at *) <;> omega)))
          · skip
            refine r_ic (v := 0) (q := 300) d_law_299 rfl rfl ?_
            exfalso; ((try unfold cs_nm at *) <;> ((try simp +decide only [b01, b10, b11, am_up, and_true, and_false, true_and, false_and, if_true, if_false, nn_eq] at *) <;> (try simp only [sw_or, sw_all, or_false, and_true, i32_lt, i32_le, i32_eq, i32_addw, i32_subw, i32_mulw, Int32.reduceToInt] at *) <;> omega))
      · skip
        refine r_ic (v := 0) (q := 283) d_law_282 rfl rfl ?_
        exfalso; ((try unfold cs_nm at *) <;> ((try simp +decide only [b01, b10, b11, am_up, and_true, and_false, true_and, false_and, if_true, if_false, nn_eq] at *) <;> (try simp only [sw_or, sw_all, or_false, and_true, i32_lt, i32_le, i32_eq, i32_addw, i32_subw, i32_mulw, Int32.reduceToInt] at *) <;> omega))
theorem la_1c {L : Nat} {xs : Nat → Int32} {K : Int32 → am_S → Prop} {i : Int32} {a b : Option am_V} {st : am_S} (i0 : 0 ≤ i.toInt) (i6 : i.toInt + 6 ≤ (L : Int)) (iL : L ≤ 3072) {g : Int32} (cg : ((xs (i + 5).toNatClampNeg) = 0 ∧ g = 0) ∨ (¬ (xs (i + 5).toNatClampNeg) = 0 ∧ g = 1)) (c1 : 0 ≤ (st 579 0).toInt) (c2 : (st 579 0).toInt ≤ 8) (c3 : (cs_nm (xs (i + 2).toNatClampNeg) (xs (i + 3).toNatClampNeg) (xs (i + 4).toNatClampNeg) ∧ 1 ≤ (xs (i + 1).toNatClampNeg) ∧ (xs (i + 1).toNatClampNeg) ≤ st 577 0 - st 2143 (st 579 0).toNatClampNeg)) (c4 : st 591 0 = 0) (c5 : ¬ st 579 0 = 8) (c9 : st 2167 0 = st 579 0) (h : K i (am_up (am_up (am_up (am_up (am_up (am_up (am_up (am_up (am_up st 576 0 0) 2144 (st 579 0).toNatClampNeg (xs (i + 1).toNatClampNeg)) 2145 (st 579 0).toNatClampNeg (xs (i + 2).toNatClampNeg)) 2146 (st 579 0).toNatClampNeg (xs (i + 3).toNatClampNeg)) 2147 (st 579 0).toNatClampNeg (xs (i + 4).toNatClampNeg)) 2148 (st 579 0).toNatClampNeg g) 2149 (st 579 0).toNatClampNeg 0) 2143 (st 579 0 + 1).toNatClampNeg (st 2143 (st 579 0).toNatClampNeg + (xs (i + 1).toNatClampNeg))) 579 0 (st 579 0 + 1))) : am_AW code (g_law L xs (lw_P2 K)) lw_k 227 (lw_lv i a b) [.inl 0] st := by
  refine r_is5 (q := 229) d_law_227 rfl ?_
  refine r_al2 (q := 230) d_law_229 rfl ?_
  refine r_al0 (q := 231) d_law_230 rfl ?_
  refine r_il4 (q := 233) d_law_231 rfl ?_
  refine r_ic (v := 1) (q := 234) d_law_233 rfl rfl ?_
  refine r_iadd (q := 235) d_law_234 rfl ?_
  refine am_sl (q := 236) d_law_235 rfl ?_ rfl ?_
  · (refine vp_of ?_ ?_ <;> (((try simp +decide only [b01, b10, b11, am_up, and_true, and_false, true_and, false_and, if_true, if_false, nn_eq] at *) <;> (try simp only [sw_or, sw_all, or_false, and_true, i32_lt, i32_le, i32_eq, i32_addw, i32_subw, i32_mulw, Int32.reduceToInt] at *) <;> omega)))
  refine r_al0 (q := 237) d_law_236 rfl ?_
  refine r_il4 (q := 239) d_law_237 rfl ?_
  refine r_ic (v := 2) (q := 240) d_law_239 rfl rfl ?_
  refine r_iadd (q := 241) d_law_240 rfl ?_
  refine am_sl (q := 242) d_law_241 rfl ?_ rfl ?_
  · (refine vp_of ?_ ?_ <;> (((try simp +decide only [b01, b10, b11, am_up, and_true, and_false, true_and, false_and, if_true, if_false, nn_eq] at *) <;> (try simp only [sw_or, sw_all, or_false, and_true, i32_lt, i32_le, i32_eq, i32_addw, i32_subw, i32_mulw, Int32.reduceToInt] at *) <;> omega)))
  refine r_al0 (q := 243) d_law_242 rfl ?_
  refine r_il4 (q := 245) d_law_243 rfl ?_
  refine r_ic (v := 3) (q := 246) d_law_245 rfl rfl ?_
  refine r_iadd (q := 247) d_law_246 rfl ?_
  refine am_sl (q := 248) d_law_247 rfl ?_ rfl ?_
  · (refine vp_of ?_ ?_ <;> (((try simp +decide only [b01, b10, b11, am_up, and_true, and_false, true_and, false_and, if_true, if_false, nn_eq] at *) <;> (try simp only [sw_or, sw_all, or_false, and_true, i32_lt, i32_le, i32_eq, i32_addw, i32_subw, i32_mulw, Int32.reduceToInt] at *) <;> omega)))
  refine r_al0 (q := 249) d_law_248 rfl ?_
  refine r_il4 (q := 251) d_law_249 rfl ?_
  refine r_ic (v := 4) (q := 252) d_law_251 rfl rfl ?_
  refine r_iadd (q := 253) d_law_252 rfl ?_
  refine am_sl (q := 254) d_law_253 rfl ?_ rfl ?_
  · (refine vp_of ?_ ?_ <;> (((try simp +decide only [b01, b10, b11, am_up, and_true, and_false, true_and, false_and, if_true, if_false, nn_eq] at *) <;> (try simp only [sw_or, sw_all, or_false, and_true, i32_lt, i32_le, i32_eq, i32_addw, i32_subw, i32_mulw, Int32.reduceToInt] at *) <;> omega)))
  refine r_al0 (q := 255) d_law_254 rfl ?_
  refine r_il4 (q := 257) d_law_255 rfl ?_
  refine r_ic (v := 5) (q := 258) d_law_257 rfl rfl ?_
  refine r_iadd (q := 259) d_law_258 rfl ?_
  refine am_sl (q := 260) d_law_259 rfl ?_ rfl ?_
  · (refine vp_of ?_ ?_ <;> (((try simp +decide only [b01, b10, b11, am_up, and_true, and_false, true_and, false_and, if_true, if_false, nn_eq] at *) <;> (try simp only [sw_or, sw_all, or_false, and_true, i32_lt, i32_le, i32_eq, i32_addw, i32_subw, i32_mulw, Int32.reduceToInt] at *) <;> omega)))
  refine r_zeq (tgt := 267) (q := 263) d_law_260 rfl rfl (fun e260 => ?_) (fun e260 => ?_)
  · skip
    refine r_ic (v := 0) (q := 268) d_law_267 rfl rfl ?_
    refine r_vi5 mo_MO_method d_law_268 rfl rfl rfl (q := 271) rfl ?_
    refine sp_MO_method (by first | assumption | omega | decide | ((try simp +decide only [b01, b10, b11, am_up, and_true, and_false, true_and, false_and, if_true, if_false, nn_eq] at *) <;> (try simp only [sw_or, sw_all, or_false, and_true, i32_lt, i32_le, i32_eq, i32_addw, i32_subw, i32_mulw, Int32.reduceToInt] at *) <;> omega) | (apply_assumption; done)) (by first | assumption | omega | decide | ((try simp +decide only [b01, b10, b11, am_up, and_true, and_false, true_and, false_and, if_true, if_false, nn_eq] at *) <;> (try simp only [sw_or, sw_all, or_false, and_true, i32_lt, i32_le, i32_eq, i32_addw, i32_subw, i32_mulw, Int32.reduceToInt] at *) <;> omega) | (apply_assumption; done)) (by first | assumption | omega | decide | ((try simp +decide only [b01, b10, b11, am_up, and_true, and_false, true_and, false_and, if_true, if_false, nn_eq] at *) <;> (try simp only [sw_or, sw_all, or_false, and_true, i32_lt, i32_le, i32_eq, i32_addw, i32_subw, i32_mulw, Int32.reduceToInt] at *) <;> omega) | (apply_assumption; done)) (fun e268 => ?_) (fun e268 => ?_) (fun e268 => ?_)
    · skip
      refine r_is6 (q := 273) d_law_271 rfl ?_
      refine r_al2 (q := 274) d_law_273 rfl ?_
      refine r_vi0 mo_MO_thrown d_law_274 rfl rfl rfl (q := 277) rfl ?_
      refine sp_MO_thrown ?_
      refine r_il5 (q := 279) d_law_277 rfl ?_
      refine r_ceq (tgt := 284) (q := 282) d_law_279 rfl rfl (fun e279 => ?_) (fun e279 => ?_)
      · skip
        refine r_il5 (q := 286) d_law_284 rfl ?_
        refine r_zne (tgt := 301) (q := 289) d_law_286 rfl rfl (fun e286 => ?_) (fun e286 => ?_)
        · skip
          refine am_go (tgt := 802) d_law_301 rfl ?_
          first | exact am_cut ⟨rfl, rfl, _, _, _, rfl, h⟩ | (rcases cg with ⟨_, rfl⟩ | ⟨_, rfl⟩ <;> first | exact am_cut ⟨rfl, rfl, _, _, _, rfl, h⟩ | (exfalso; ((try unfold cs_nm at *) <;> ((try simp +decide only [b01, b10, b11, am_up, and_true, and_false, true_and, false_and, if_true, if_false, nn_eq] at *) <;> (try simp only [sw_or, sw_all, or_false, and_true, i32_lt, i32_le, i32_eq, i32_addw, i32_subw, i32_mulw, Int32.reduceToInt] at *) <;> omega)))) | (exfalso; ((try unfold cs_nm at *) <;> ((try simp +decide only [b01, b10, b11, am_up, and_true, and_false, true_and, false_and, if_true, if_false, nn_eq] at *) <;> (try simp only [sw_or, sw_all, or_false, and_true, i32_lt, i32_le, i32_eq, i32_addw, i32_subw, i32_mulw, Int32.reduceToInt] at *) <;> omega)))
        · skip
          refine r_al3 (q := 290) d_law_289 rfl ?_
          refine r_ic (v := 0) (q := 291) d_law_290 rfl rfl ?_
          refine am_al (n := 1) (q := 292) d_law_291 rfl (vp_of (by decide) (by decide)) rfl ?_
          refine r_il6 (q := 294) d_law_292 rfl ?_
          refine am_s (q := 295) d_law_294 rfl rfl ?_
          refine am_s (q := 296) d_law_295 rfl rfl ?_
          refine r_zeq (tgt := 301) (q := 299) d_law_296 rfl rfl (fun e296 => ?_) (fun e296 => ?_)
          · skip
            refine am_go (tgt := 802) d_law_301 rfl ?_
            first | exact am_cut ⟨rfl, rfl, _, _, _, rfl, h⟩ | (rcases cg with ⟨_, rfl⟩ | ⟨_, rfl⟩ <;> first | exact am_cut ⟨rfl, rfl, _, _, _, rfl, h⟩ | (exfalso; ((try unfold cs_nm at *) <;> ((try simp +decide only [b01, b10, b11, am_up, and_true, and_false, true_and, false_and, if_true, if_false, nn_eq] at *) <;> (try simp only [sw_or, sw_all, or_false, and_true, i32_lt, i32_le, i32_eq, i32_addw, i32_subw, i32_mulw, Int32.reduceToInt] at *) <;> omega)))) | (exfalso; ((try unfold cs_nm at *) <;> ((try simp +decide only [b01, b10, b11, am_up, and_true, and_false, true_and, false_and, if_true, if_false, nn_eq] at *) <;> (try simp only [sw_or, sw_all, or_false, and_true, i32_lt, i32_le, i32_eq, i32_addw, i32_subw, i32_mulw, Int32.reduceToInt] at *) <;> omega)))
          · skip
            refine r_ic (v := 0) (q := 300) d_law_299 rfl rfl ?_
            first | (exfalso; exact absurd (cmp_of c9) e296) | (exfalso; ((try unfold cs_nm at *) <;> ((try simp +decide only [b01, b10, b11, am_up, and_true, and_false, true_and, false_and, if_true, if_false, nn_eq] at *) <;> (try simp only [sw_or, sw_all, or_false, and_true, i32_lt, i32_le, i32_eq, i32_addw, i32_subw, i32_mulw, Int32.reduceToInt] at *) <;> omega)))
      · skip
        refine r_ic (v := 0) (q := 283) d_law_282 rfl rfl ?_
        first | (exfalso; exact absurd (cmp_of c9) e296) | (exfalso; ((try unfold cs_nm at *) <;> ((try simp +decide only [b01, b10, b11, am_up, and_true, and_false, true_and, false_and, if_true, if_false, nn_eq] at *) <;> (try simp only [sw_or, sw_all, or_false, and_true, i32_lt, i32_le, i32_eq, i32_addw, i32_subw, i32_mulw, Int32.reduceToInt] at *) <;> omega)))
    · skip
      refine r_is6 (q := 273) d_law_271 rfl ?_
      refine r_al2 (q := 274) d_law_273 rfl ?_
      refine r_vi0 mo_MO_thrown d_law_274 rfl rfl rfl (q := 277) rfl ?_
      refine sp_MO_thrown ?_
      refine r_il5 (q := 279) d_law_277 rfl ?_
      refine r_ceq (tgt := 284) (q := 282) d_law_279 rfl rfl (fun e279 => ?_) (fun e279 => ?_)
      · skip
        refine r_il5 (q := 286) d_law_284 rfl ?_
        refine r_zne (tgt := 301) (q := 289) d_law_286 rfl rfl (fun e286 => ?_) (fun e286 => ?_)
        · skip
          refine am_go (tgt := 802) d_law_301 rfl ?_
          first | exact am_cut ⟨rfl, rfl, _, _, _, rfl, h⟩ | (rcases cg with ⟨_, rfl⟩ | ⟨_, rfl⟩ <;> first | exact am_cut ⟨rfl, rfl, _, _, _, rfl, h⟩ | (exfalso; ((try unfold cs_nm at *) <;> ((try simp +decide only [b01, b10, b11, am_up, and_true, and_false, true_and, false_and, if_true, if_false, nn_eq] at *) <;> (try simp only [sw_or, sw_all, or_false, and_true, i32_lt, i32_le, i32_eq, i32_addw, i32_subw, i32_mulw, Int32.reduceToInt] at *) <;> omega)))) | (exfalso; ((try unfold cs_nm at *) <;> ((try simp +decide only [b01, b10, b11, am_up, and_true, and_false, true_and, false_and, if_true, if_false, nn_eq] at *) <;> (try simp only [sw_or, sw_all, or_false, and_true, i32_lt, i32_le, i32_eq, i32_addw, i32_subw, i32_mulw, Int32.reduceToInt] at *) <;> omega)))
        · skip
          refine r_al3 (q := 290) d_law_289 rfl ?_
          refine r_ic (v := 0) (q := 291) d_law_290 rfl rfl ?_
          refine am_al (n := 1) (q := 292) d_law_291 rfl (vp_of (by decide) (by decide)) rfl ?_
          refine r_il6 (q := 294) d_law_292 rfl ?_
          refine am_s (q := 295) d_law_294 rfl rfl ?_
          refine am_s (q := 296) d_law_295 rfl rfl ?_
          refine r_zeq (tgt := 301) (q := 299) d_law_296 rfl rfl (fun e296 => ?_) (fun e296 => ?_)
          · skip
            refine am_go (tgt := 802) d_law_301 rfl ?_
            first | exact am_cut ⟨rfl, rfl, _, _, _, rfl, h⟩ | (rcases cg with ⟨_, rfl⟩ | ⟨_, rfl⟩ <;> first | exact am_cut ⟨rfl, rfl, _, _, _, rfl, h⟩ | (exfalso; ((try unfold cs_nm at *) <;> ((try simp +decide only [b01, b10, b11, am_up, and_true, and_false, true_and, false_and, if_true, if_false, nn_eq] at *) <;> (try simp only [sw_or, sw_all, or_false, and_true, i32_lt, i32_le, i32_eq, i32_addw, i32_subw, i32_mulw, Int32.reduceToInt] at *) <;> omega)))) | (exfalso; ((try unfold cs_nm at *) <;> ((try simp +decide only [b01, b10, b11, am_up, and_true, and_false, true_and, false_and, if_true, if_false, nn_eq] at *) <;> (try simp only [sw_or, sw_all, or_false, and_true, i32_lt, i32_le, i32_eq, i32_addw, i32_subw, i32_mulw, Int32.reduceToInt] at *) <;> omega)))
          · skip
            refine r_ic (v := 0) (q := 300) d_law_299 rfl rfl ?_
            first | (exfalso; exact absurd (cmp_of c9) e296) | (exfalso; ((try unfold cs_nm at *) <;> ((try simp +decide only [b01, b10, b11, am_up, and_true, and_false, true_and, false_and, if_true, if_false, nn_eq] at *) <;> (try simp only [sw_or, sw_all, or_false, and_true, i32_lt, i32_le, i32_eq, i32_addw, i32_subw, i32_mulw, Int32.reduceToInt] at *) <;> omega)))
      · skip
        refine r_ic (v := 0) (q := 283) d_law_282 rfl rfl ?_
        first | (exfalso; exact absurd (cmp_of c9) e296) | (exfalso; ((try unfold cs_nm at *) <;> ((try simp +decide only [b01, b10, b11, am_up, and_true, and_false, true_and, false_and, if_true, if_false, nn_eq] at *) <;> (try simp only [sw_or, sw_all, or_false, and_true, i32_lt, i32_le, i32_eq, i32_addw, i32_subw, i32_mulw, Int32.reduceToInt] at *) <;> omega)))
    · skip
      refine r_is6 (q := 273) d_law_271 rfl ?_
      refine r_al2 (q := 274) d_law_273 rfl ?_
      refine r_vi0 mo_MO_thrown d_law_274 rfl rfl rfl (q := 277) rfl ?_
      refine sp_MO_thrown ?_
      refine r_il5 (q := 279) d_law_277 rfl ?_
      refine r_ceq (tgt := 284) (q := 282) d_law_279 rfl rfl (fun e279 => ?_) (fun e279 => ?_)
      · skip
        refine r_il5 (q := 286) d_law_284 rfl ?_
        refine r_zne (tgt := 301) (q := 289) d_law_286 rfl rfl (fun e286 => ?_) (fun e286 => ?_)
        · skip
          refine am_go (tgt := 802) d_law_301 rfl ?_
          first | exact am_cut ⟨rfl, rfl, _, _, _, rfl, h⟩ | (rcases cg with ⟨_, rfl⟩ | ⟨_, rfl⟩ <;> first | exact am_cut ⟨rfl, rfl, _, _, _, rfl, h⟩ | (exfalso; ((try unfold cs_nm at *) <;> ((try simp +decide only [b01, b10, b11, am_up, and_true, and_false, true_and, false_and, if_true, if_false, nn_eq] at *) <;> (try simp only [sw_or, sw_all, or_false, and_true, i32_lt, i32_le, i32_eq, i32_addw, i32_subw, i32_mulw, Int32.reduceToInt] at *) <;> omega)))) | (exfalso; ((try unfold cs_nm at *) <;> ((try simp +decide only [b01, b10, b11, am_up, and_true, and_false, true_and, false_and, if_true, if_false, nn_eq] at *) <;> (try simp only [sw_or, sw_all, or_false, and_true, i32_lt, i32_le, i32_eq, i32_addw, i32_subw, i32_mulw, Int32.reduceToInt] at *) <;> omega)))
        · skip
          refine r_al3 (q := 290) d_law_289 rfl ?_
          refine r_ic (v := 0) (q := 291) d_law_290 rfl rfl ?_
          refine am_al (n := 1) (q := 292) d_law_291 rfl (vp_of (by decide) (by decide)) rfl ?_
          refine r_il6 (q := 294) d_law_292 rfl ?_
          refine am_s (q := 295) d_law_294 rfl rfl ?_
          refine am_s (q := 296) d_law_295 rfl rfl ?_
          refine r_zeq (tgt := 301) (q := 299) d_law_296 rfl rfl (fun e296 => ?_) (fun e296 => ?_)
          · skip
            refine am_go (tgt := 802) d_law_301 rfl ?_
            first | exact am_cut ⟨rfl, rfl, _, _, _, rfl, h⟩ | (rcases cg with ⟨_, rfl⟩ | ⟨_, rfl⟩ <;> first | exact am_cut ⟨rfl, rfl, _, _, _, rfl, h⟩ | (exfalso; ((try unfold cs_nm at *) <;> ((try simp +decide only [b01, b10, b11, am_up, and_true, and_false, true_and, false_and, if_true, if_false, nn_eq] at *) <;> (try simp only [sw_or, sw_all, or_false, and_true, i32_lt, i32_le, i32_eq, i32_addw, i32_subw, i32_mulw, Int32.reduceToInt] at *) <;> omega)))) | (exfalso; ((try unfold cs_nm at *) <;> ((try simp +decide only [b01, b10, b11, am_up, and_true, and_false, true_and, false_and, if_true, if_false, nn_eq] at *) <;> (try simp only [sw_or, sw_all, or_false, and_true, i32_lt, i32_le, i32_eq, i32_addw, i32_subw, i32_mulw, Int32.reduceToInt] at *) <;> omega)))
          · skip
            refine r_ic (v := 0) (q := 300) d_law_299 rfl rfl ?_
            first | (exfalso; exact absurd (cmp_of c9) e296) | (exfalso; ((try unfold cs_nm at *) <;> ((try simp +decide only [b01, b10, b11, am_up, and_true, and_false, true_and, false_and, if_true, if_false, nn_eq] at *) <;> (try simp only [sw_or, sw_all, or_false, and_true, i32_lt, i32_le, i32_eq, i32_addw, i32_subw, i32_mulw, Int32.reduceToInt] at *) <;> omega)))
      · skip
        refine r_ic (v := 0) (q := 283) d_law_282 rfl rfl ?_
        first | (exfalso; exact absurd (cmp_of c9) e296) | (exfalso; ((try unfold cs_nm at *) <;> ((try simp +decide only [b01, b10, b11, am_up, and_true, and_false, true_and, false_and, if_true, if_false, nn_eq] at *) <;> (try simp only [sw_or, sw_all, or_false, and_true, i32_lt, i32_le, i32_eq, i32_addw, i32_subw, i32_mulw, Int32.reduceToInt] at *) <;> omega)))
  · skip
    refine r_ic (v := 1) (q := 264) d_law_263 rfl rfl ?_
    refine am_go (tgt := 268) d_law_264 rfl ?_
    refine r_vi5 mo_MO_method d_law_268 rfl rfl rfl (q := 271) rfl ?_
    refine sp_MO_method (by first | assumption | omega | decide | ((try simp +decide only [b01, b10, b11, am_up, and_true, and_false, true_and, false_and, if_true, if_false, nn_eq] at *) <;> (try simp only [sw_or, sw_all, or_false, and_true, i32_lt, i32_le, i32_eq, i32_addw, i32_subw, i32_mulw, Int32.reduceToInt] at *) <;> omega) | (apply_assumption; done)) (by first | assumption | omega | decide | ((try simp +decide only [b01, b10, b11, am_up, and_true, and_false, true_and, false_and, if_true, if_false, nn_eq] at *) <;> (try simp only [sw_or, sw_all, or_false, and_true, i32_lt, i32_le, i32_eq, i32_addw, i32_subw, i32_mulw, Int32.reduceToInt] at *) <;> omega) | (apply_assumption; done)) (by first | assumption | omega | decide | ((try simp +decide only [b01, b10, b11, am_up, and_true, and_false, true_and, false_and, if_true, if_false, nn_eq] at *) <;> (try simp only [sw_or, sw_all, or_false, and_true, i32_lt, i32_le, i32_eq, i32_addw, i32_subw, i32_mulw, Int32.reduceToInt] at *) <;> omega) | (apply_assumption; done)) (fun e268 => ?_) (fun e268 => ?_) (fun e268 => ?_)
    · skip
      refine r_is6 (q := 273) d_law_271 rfl ?_
      refine r_al2 (q := 274) d_law_273 rfl ?_
      refine r_vi0 mo_MO_thrown d_law_274 rfl rfl rfl (q := 277) rfl ?_
      refine sp_MO_thrown ?_
      refine r_il5 (q := 279) d_law_277 rfl ?_
      refine r_ceq (tgt := 284) (q := 282) d_law_279 rfl rfl (fun e279 => ?_) (fun e279 => ?_)
      · skip
        refine r_il5 (q := 286) d_law_284 rfl ?_
        refine r_zne (tgt := 301) (q := 289) d_law_286 rfl rfl (fun e286 => ?_) (fun e286 => ?_)
        · skip
          refine am_go (tgt := 802) d_law_301 rfl ?_
          first | exact am_cut ⟨rfl, rfl, _, _, _, rfl, h⟩ | (rcases cg with ⟨_, rfl⟩ | ⟨_, rfl⟩ <;> first | exact am_cut ⟨rfl, rfl, _, _, _, rfl, h⟩ | (exfalso; ((try unfold cs_nm at *) <;> ((try simp +decide only [b01, b10, b11, am_up, and_true, and_false, true_and, false_and, if_true, if_false, nn_eq] at *) <;> (try simp only [sw_or, sw_all, or_false, and_true, i32_lt, i32_le, i32_eq, i32_addw, i32_subw, i32_mulw, Int32.reduceToInt] at *) <;> omega)))) | (exfalso; ((try unfold cs_nm at *) <;> ((try simp +decide only [b01, b10, b11, am_up, and_true, and_false, true_and, false_and, if_true, if_false, nn_eq] at *) <;> (try simp only [sw_or, sw_all, or_false, and_true, i32_lt, i32_le, i32_eq, i32_addw, i32_subw, i32_mulw, Int32.reduceToInt] at *) <;> omega)))
        · skip
          refine r_al3 (q := 290) d_law_289 rfl ?_
          refine r_ic (v := 0) (q := 291) d_law_290 rfl rfl ?_
          refine am_al (n := 1) (q := 292) d_law_291 rfl (vp_of (by decide) (by decide)) rfl ?_
          refine r_il6 (q := 294) d_law_292 rfl ?_
          refine am_s (q := 295) d_law_294 rfl rfl ?_
          refine am_s (q := 296) d_law_295 rfl rfl ?_
          refine r_zeq (tgt := 301) (q := 299) d_law_296 rfl rfl (fun e296 => ?_) (fun e296 => ?_)
          · skip
            refine am_go (tgt := 802) d_law_301 rfl ?_
            first | exact am_cut ⟨rfl, rfl, _, _, _, rfl, h⟩ | (rcases cg with ⟨_, rfl⟩ | ⟨_, rfl⟩ <;> first | exact am_cut ⟨rfl, rfl, _, _, _, rfl, h⟩ | (exfalso; ((try unfold cs_nm at *) <;> ((try simp +decide only [b01, b10, b11, am_up, and_true, and_false, true_and, false_and, if_true, if_false, nn_eq] at *) <;> (try simp only [sw_or, sw_all, or_false, and_true, i32_lt, i32_le, i32_eq, i32_addw, i32_subw, i32_mulw, Int32.reduceToInt] at *) <;> omega)))) | (exfalso; ((try unfold cs_nm at *) <;> ((try simp +decide only [b01, b10, b11, am_up, and_true, and_false, true_and, false_and, if_true, if_false, nn_eq] at *) <;> (try simp only [sw_or, sw_all, or_false, and_true, i32_lt, i32_le, i32_eq, i32_addw, i32_subw, i32_mulw, Int32.reduceToInt] at *) <;> omega)))
          · skip
            refine r_ic (v := 0) (q := 300) d_law_299 rfl rfl ?_
            first | (exfalso; exact absurd (cmp_of c9) e296) | (exfalso; ((try unfold cs_nm at *) <;> ((try simp +decide only [b01, b10, b11, am_up, and_true, and_false, true_and, false_and, if_true, if_false, nn_eq] at *) <;> (try simp only [sw_or, sw_all, or_false, and_true, i32_lt, i32_le, i32_eq, i32_addw, i32_subw, i32_mulw, Int32.reduceToInt] at *) <;> omega)))
      · skip
        refine r_ic (v := 0) (q := 283) d_law_282 rfl rfl ?_
        first | (exfalso; exact absurd (cmp_of c9) e296) | (exfalso; ((try unfold cs_nm at *) <;> ((try simp +decide only [b01, b10, b11, am_up, and_true, and_false, true_and, false_and, if_true, if_false, nn_eq] at *) <;> (try simp only [sw_or, sw_all, or_false, and_true, i32_lt, i32_le, i32_eq, i32_addw, i32_subw, i32_mulw, Int32.reduceToInt] at *) <;> omega)))
    · skip
      refine r_is6 (q := 273) d_law_271 rfl ?_
      refine r_al2 (q := 274) d_law_273 rfl ?_
      refine r_vi0 mo_MO_thrown d_law_274 rfl rfl rfl (q := 277) rfl ?_
      refine sp_MO_thrown ?_
      refine r_il5 (q := 279) d_law_277 rfl ?_
      refine r_ceq (tgt := 284) (q := 282) d_law_279 rfl rfl (fun e279 => ?_) (fun e279 => ?_)
      · skip
        refine r_il5 (q := 286) d_law_284 rfl ?_
        refine r_zne (tgt := 301) (q := 289) d_law_286 rfl rfl (fun e286 => ?_) (fun e286 => ?_)
        · skip
          refine am_go (tgt := 802) d_law_301 rfl ?_
          first | exact am_cut ⟨rfl, rfl, _, _, _, rfl, h⟩ | (rcases cg with ⟨_, rfl⟩ | ⟨_, rfl⟩ <;> first | exact am_cut ⟨rfl, rfl, _, _, _, rfl, h⟩ | (exfalso; ((try unfold cs_nm at *) <;> ((try simp +decide only [b01, b10, b11, am_up, and_true, and_false, true_and, false_and, if_true, if_false, nn_eq] at *) <;> (try simp only [sw_or, sw_all, or_false, and_true, i32_lt, i32_le, i32_eq, i32_addw, i32_subw, i32_mulw, Int32.reduceToInt] at *) <;> omega)))) | (exfalso; ((try unfold cs_nm at *) <;> ((try simp +decide only [b01, b10, b11, am_up, and_true, and_false, true_and, false_and, if_true, if_false, nn_eq] at *) <;> (try simp only [sw_or, sw_all, or_false, and_true, i32_lt, i32_le, i32_eq, i32_addw, i32_subw, i32_mulw, Int32.reduceToInt] at *) <;> omega)))
        · skip
          refine r_al3 (q := 290) d_law_289 rfl ?_
          refine r_ic (v := 0) (q := 291) d_law_290 rfl rfl ?_
          refine am_al (n := 1) (q := 292) d_law_291 rfl (vp_of (by decide) (by decide)) rfl ?_
          refine r_il6 (q := 294) d_law_292 rfl ?_
          refine am_s (q := 295) d_law_294 rfl rfl ?_
          refine am_s (q := 296) d_law_295 rfl rfl ?_
          refine r_zeq (tgt := 301) (q := 299) d_law_296 rfl rfl (fun e296 => ?_) (fun e296 => ?_)
          · skip
            refine am_go (tgt := 802) d_law_301 rfl ?_
            first | exact am_cut ⟨rfl, rfl, _, _, _, rfl, h⟩ | (rcases cg with ⟨_, rfl⟩ | ⟨_, rfl⟩ <;> first | exact am_cut ⟨rfl, rfl, _, _, _, rfl, h⟩ | (exfalso; ((try unfold cs_nm at *) <;> ((try simp +decide only [b01, b10, b11, am_up, and_true, and_false, true_and, false_and, if_true, if_false, nn_eq] at *) <;> (try simp only [sw_or, sw_all, or_false, and_true, i32_lt, i32_le, i32_eq, i32_addw, i32_subw, i32_mulw, Int32.reduceToInt] at *) <;> omega)))) | (exfalso; ((try unfold cs_nm at *) <;> ((try simp +decide only [b01, b10, b11, am_up, and_true, and_false, true_and, false_and, if_true, if_false, nn_eq] at *) <;> (try simp only [sw_or, sw_all, or_false, and_true, i32_lt, i32_le, i32_eq, i32_addw, i32_subw, i32_mulw, Int32.reduceToInt] at *) <;> omega)))
          · skip
            refine r_ic (v := 0) (q := 300) d_law_299 rfl rfl ?_
            first | (exfalso; exact absurd (cmp_of c9) e296) | (exfalso; ((try unfold cs_nm at *) <;> ((try simp +decide only [b01, b10, b11, am_up, and_true, and_false, true_and, false_and, if_true, if_false, nn_eq] at *) <;> (try simp only [sw_or, sw_all, or_false, and_true, i32_lt, i32_le, i32_eq, i32_addw, i32_subw, i32_mulw, Int32.reduceToInt] at *) <;> omega)))
      · skip
        refine r_ic (v := 0) (q := 283) d_law_282 rfl rfl ?_
        first | (exfalso; exact absurd (cmp_of c9) e296) | (exfalso; ((try unfold cs_nm at *) <;> ((try simp +decide only [b01, b10, b11, am_up, and_true, and_false, true_and, false_and, if_true, if_false, nn_eq] at *) <;> (try simp only [sw_or, sw_all, or_false, and_true, i32_lt, i32_le, i32_eq, i32_addw, i32_subw, i32_mulw, Int32.reduceToInt] at *) <;> omega)))
    · skip
      refine r_is6 (q := 273) d_law_271 rfl ?_
      refine r_al2 (q := 274) d_law_273 rfl ?_
      refine r_vi0 mo_MO_thrown d_law_274 rfl rfl rfl (q := 277) rfl ?_
      refine sp_MO_thrown ?_
      refine r_il5 (q := 279) d_law_277 rfl ?_
      refine r_ceq (tgt := 284) (q := 282) d_law_279 rfl rfl (fun e279 => ?_) (fun e279 => ?_)
      · skip
        refine r_il5 (q := 286) d_law_284 rfl ?_
        refine r_zne (tgt := 301) (q := 289) d_law_286 rfl rfl (fun e286 => ?_) (fun e286 => ?_)
        · skip
          refine am_go (tgt := 802) d_law_301 rfl ?_
          first | exact am_cut ⟨rfl, rfl, _, _, _, rfl, h⟩ | (rcases cg with ⟨_, rfl⟩ | ⟨_, rfl⟩ <;> first | exact am_cut ⟨rfl, rfl, _, _, _, rfl, h⟩ | (exfalso; ((try unfold cs_nm at *) <;> ((try simp +decide only [b01, b10, b11, am_up, and_true, and_false, true_and, false_and, if_true, if_false, nn_eq] at *) <;> (try simp only [sw_or, sw_all, or_false, and_true, i32_lt, i32_le, i32_eq, i32_addw, i32_subw, i32_mulw, Int32.reduceToInt] at *) <;> omega)))) | (exfalso; ((try unfold cs_nm at *) <;> ((try simp +decide only [b01, b10, b11, am_up, and_true, and_false, true_and, false_and, if_true, if_false, nn_eq] at *) <;> (try simp only [sw_or, sw_all, or_false, and_true, i32_lt, i32_le, i32_eq, i32_addw, i32_subw, i32_mulw, Int32.reduceToInt] at *) <;> omega)))
        · skip
          refine r_al3 (q := 290) d_law_289 rfl ?_
          refine r_ic (v := 0) (q := 291) d_law_290 rfl rfl ?_
          refine am_al (n := 1) (q := 292) d_law_291 rfl (vp_of (by decide) (by decide)) rfl ?_
          refine r_il6 (q := 294) d_law_292 rfl ?_
          refine am_s (q := 295) d_law_294 rfl rfl ?_
          refine am_s (q := 296) d_law_295 rfl rfl ?_
          refine r_zeq (tgt := 301) (q := 299) d_law_296 rfl rfl (fun e296 => ?_) (fun e296 => ?_)
          · skip
            refine am_go (tgt := 802) d_law_301 rfl ?_
            first | exact am_cut ⟨rfl, rfl, _, _, _, rfl, h⟩ | (rcases cg with ⟨_, rfl⟩ | ⟨_, rfl⟩ <;> first | exact am_cut ⟨rfl, rfl, _, _, _, rfl, h⟩ | (exfalso; ((try unfold cs_nm at *) <;> ((try simp +decide only [b01, b10, b11, am_up, and_true, and_false, true_and, false_and, if_true, if_false, nn_eq] at *) <;> (try simp only [sw_or, sw_all, or_false, and_true, i32_lt, i32_le, i32_eq, i32_addw, i32_subw, i32_mulw, Int32.reduceToInt] at *) <;> omega)))) | (exfalso; ((try unfold cs_nm at *) <;> ((try simp +decide only [b01, b10, b11, am_up, and_true, and_false, true_and, false_and, if_true, if_false, nn_eq] at *) <;> (try simp only [sw_or, sw_all, or_false, and_true, i32_lt, i32_le, i32_eq, i32_addw, i32_subw, i32_mulw, Int32.reduceToInt] at *) <;> omega)))
          · skip
            refine r_ic (v := 0) (q := 300) d_law_299 rfl rfl ?_
            first | (exfalso; exact absurd (cmp_of c9) e296) | (exfalso; ((try unfold cs_nm at *) <;> ((try simp +decide only [b01, b10, b11, am_up, and_true, and_false, true_and, false_and, if_true, if_false, nn_eq] at *) <;> (try simp only [sw_or, sw_all, or_false, and_true, i32_lt, i32_le, i32_eq, i32_addw, i32_subw, i32_mulw, Int32.reduceToInt] at *) <;> omega)))
      · skip
        refine r_ic (v := 0) (q := 283) d_law_282 rfl rfl ?_
        first | (exfalso; exact absurd (cmp_of c9) e296) | (exfalso; ((try unfold cs_nm at *) <;> ((try simp +decide only [b01, b10, b11, am_up, and_true, and_false, true_and, false_and, if_true, if_false, nn_eq] at *) <;> (try simp only [sw_or, sw_all, or_false, and_true, i32_lt, i32_le, i32_eq, i32_addw, i32_subw, i32_mulw, Int32.reduceToInt] at *) <;> omega)))
theorem la_1 {L : Nat} {xs : Nat → Int32} {K : Int32 → am_S → Prop} {i : Int32} {a b : Option am_V} {st : am_S} (i0 : 0 ≤ i.toInt) (i6 : i.toInt + 6 ≤ (L : Int)) (iL : L ≤ 3072) {g : Int32} (cg : ((xs (i + 5).toNatClampNeg) = 0 ∧ g = 0) ∨ (¬ (xs (i + 5).toNatClampNeg) = 0 ∧ g = 1)) (c1 : 0 ≤ (st 323 0).toInt) (c2 : (st 323 0).toInt ≤ 8) (c3 : st 579 0 = st 323 0) (c4 : st 591 0 = st 262 0) (c5 : st 577 0 = st 322 0) (c6 : st 2143 (st 579 0).toNatClampNeg = cs_E st) (h1 : ¬ (cs_nm (xs (i + 2).toNatClampNeg) (xs (i + 3).toNatClampNeg) (xs (i + 4).toNatClampNeg) ∧ 1 ≤ (xs (i + 1).toNatClampNeg) ∧ (xs (i + 1).toNatClampNeg) ≤ st 322 0 - cs_E st) → K i (am_up st 576 0 1)) (h2 : (cs_nm (xs (i + 2).toNatClampNeg) (xs (i + 3).toNatClampNeg) (xs (i + 4).toNatClampNeg) ∧ 1 ≤ (xs (i + 1).toNatClampNeg) ∧ (xs (i + 1).toNatClampNeg) ≤ st 322 0 - cs_E st) ∧ (¬ st 262 0 = 0 ∨ 8 ≤ st 323 0) → K i (am_up st 576 0 2)) (h3 : (cs_nm (xs (i + 2).toNatClampNeg) (xs (i + 3).toNatClampNeg) (xs (i + 4).toNatClampNeg) ∧ 1 ≤ (xs (i + 1).toNatClampNeg) ∧ (xs (i + 1).toNatClampNeg) ≤ st 322 0 - cs_E st) ∧ st 262 0 = 0 ∧ st 323 0 < 8 → K i (am_up (am_up (am_up (am_up (am_up (am_up (am_up (am_up (am_up (am_up (am_up (cs_ad st (st 323 0).toNatClampNeg (cs_E st) (xs (i + 1).toNatClampNeg) (xs (i + 2).toNatClampNeg) (xs (i + 3).toNatClampNeg) (xs (i + 4).toNatClampNeg) g) 323 0 (st 323 0 + 1)) 2167 0 (nI (st 323 0).toNatClampNeg)) 576 0 0) 2144 (st 579 0).toNatClampNeg (xs (i + 1).toNatClampNeg)) 2145 (st 579 0).toNatClampNeg (xs (i + 2).toNatClampNeg)) 2146 (st 579 0).toNatClampNeg (xs (i + 3).toNatClampNeg)) 2147 (st 579 0).toNatClampNeg (xs (i + 4).toNatClampNeg)) 2148 (st 579 0).toNatClampNeg g) 2149 (st 579 0).toNatClampNeg 0) 2143 (st 579 0 + 1).toNatClampNeg (st 2143 (st 579 0).toNatClampNeg + (xs (i + 1).toNatClampNeg))) 579 0 (st 579 0 + 1))) : am_AW code (g_law L xs (lw_P1 L xs K)) lw_k 184 (lw_lv i a b) [] st := by
  have key : am_AW code (g_law L xs (lw_P1 L xs K)) lw_k 224 (lw_lv i a b) [.inr (.inl 167), .inl g, .inl (xs (i + 4).toNatClampNeg), .inl (xs (i + 3).toNatClampNeg), .inl (xs (i + 2).toNatClampNeg), .inl (xs (i + 1).toNatClampNeg), .inr (.inl 123)] st := by
    refine am_cut (Or.inr ⟨wl_method, [.inr (.inl 123), .inl (xs (i + 1).toNatClampNeg), .inl (xs (i + 2).toNatClampNeg), .inl (xs (i + 3).toNatClampNeg), .inl (xs (i + 4).toNatClampNeg), .inl g, .inr (.inl 167)], rfl, rfl, _, _, _, _, _, rfl, mo_FW_method _ _ _ _ (fun o st' => fl_kt) (sp_FW_method c1 c2 (by rcases cg with ⟨_, h⟩ | ⟨_, h⟩ <;> simp [h]) (fun e => ?_) (fun e => ?_) (fun e => ?_))⟩)
    · refine ⟨Or.inl rfl, 1, rfl, ?_⟩
      exact la_1a i0 i6 iL cg (by rw [c3]; exact c1) (by rw [c3]; exact c2) (by rw [c5, c6]; exact e) (h1 e)
    · refine ⟨Or.inr rfl, 2, rfl, ?_⟩
      exact la_1b i0 i6 iL cg (by rw [c3]; exact c1) (by rw [c3]; exact c2) (by rw [c5, c6]; exact e.1) (by have e2 := e.2; rw [c3, c4]; clear h1 h2 h3 e; ((try simp +decide only [b01, b10, b11, am_up, and_true, and_false, true_and, false_and, if_true, if_false, nn_eq] at *) <;> (try simp only [sw_or, sw_all, or_false, and_true, i32_lt, i32_le, i32_eq, i32_addw, i32_subw, i32_mulw, Int32.reduceToInt] at *) <;> omega)) (h2 e)
    · refine ⟨Or.inr (Or.inr rfl), ?_⟩
      obtain ⟨e1, e2, e3⟩ := id e
      refine la_1c (st := (am_up (am_up (cs_ad st (st 323 0).toNatClampNeg (cs_E st) (xs (i + 1).toNatClampNeg) (xs (i + 2).toNatClampNeg) (xs (i + 3).toNatClampNeg) (xs (i + 4).toNatClampNeg) g) 323 0 (st 323 0 + 1)) 2167 0 (nI (st 323 0).toNatClampNeg))) i0 i6 iL cg ?_ ?_ ?_ ?_ ?_ ?_ (h3 e)
      · show 0 ≤ (st 579 0).toInt
        rw [c3]; exact c1
      · show (st 579 0).toInt ≤ 8
        rw [c3]; exact c2
      · show (cs_nm (xs (i + 2).toNatClampNeg) (xs (i + 3).toNatClampNeg) (xs (i + 4).toNatClampNeg) ∧ 1 ≤ (xs (i + 1).toNatClampNeg) ∧ (xs (i + 1).toNatClampNeg) ≤ st 577 0 - st 2143 (st 579 0).toNatClampNeg)
        rw [c5, c6]; exact e1
      · show st 591 0 = 0
        rw [c4]; exact e2
      · show ¬ st 579 0 = 8
        rw [c3]
        clear h1 h2 h3 e e1
        ((try simp +decide only [b01, b10, b11, am_up, and_true, and_false, true_and, false_and, if_true, if_false, nn_eq] at *) <;> (try simp only [sw_or, sw_all, or_false, and_true, i32_lt, i32_le, i32_eq, i32_addw, i32_subw, i32_mulw, Int32.reduceToInt] at *) <;> omega)
      · show nI (st 323 0).toNatClampNeg = st 579 0
        rw [c3]
        clear h1 h2 h3 e e1
        exact nI_back c1
  refine r_al1 (q := 185) d_law_184 rfl ?_
  refine r_al0 (q := 186) d_law_185 rfl ?_
  refine r_il4 (q := 188) d_law_186 rfl ?_
  refine r_ic (v := 1) (q := 189) d_law_188 rfl rfl ?_
  refine r_iadd (q := 190) d_law_189 rfl ?_
  refine am_sl (q := 191) d_law_190 rfl ?_ rfl ?_
  · (refine vp_of ?_ ?_ <;> (((try simp +decide only [b01, b10, b11, am_up, and_true, and_false, true_and, false_and, if_true, if_false, nn_eq] at *) <;> (try simp only [sw_or, sw_all, or_false, and_true, i32_lt, i32_le, i32_eq, i32_addw, i32_subw, i32_mulw, Int32.reduceToInt] at *) <;> omega)))
  refine r_al0 (q := 192) d_law_191 rfl ?_
  refine r_il4 (q := 194) d_law_192 rfl ?_
  refine r_ic (v := 2) (q := 195) d_law_194 rfl rfl ?_
  refine r_iadd (q := 196) d_law_195 rfl ?_
  refine am_sl (q := 197) d_law_196 rfl ?_ rfl ?_
  · (refine vp_of ?_ ?_ <;> (((try simp +decide only [b01, b10, b11, am_up, and_true, and_false, true_and, false_and, if_true, if_false, nn_eq] at *) <;> (try simp only [sw_or, sw_all, or_false, and_true, i32_lt, i32_le, i32_eq, i32_addw, i32_subw, i32_mulw, Int32.reduceToInt] at *) <;> omega)))
  refine r_al0 (q := 198) d_law_197 rfl ?_
  refine r_il4 (q := 200) d_law_198 rfl ?_
  refine r_ic (v := 3) (q := 201) d_law_200 rfl rfl ?_
  refine r_iadd (q := 202) d_law_201 rfl ?_
  refine am_sl (q := 203) d_law_202 rfl ?_ rfl ?_
  · (refine vp_of ?_ ?_ <;> (((try simp +decide only [b01, b10, b11, am_up, and_true, and_false, true_and, false_and, if_true, if_false, nn_eq] at *) <;> (try simp only [sw_or, sw_all, or_false, and_true, i32_lt, i32_le, i32_eq, i32_addw, i32_subw, i32_mulw, Int32.reduceToInt] at *) <;> omega)))
  refine r_al0 (q := 204) d_law_203 rfl ?_
  refine r_il4 (q := 206) d_law_204 rfl ?_
  refine r_ic (v := 4) (q := 207) d_law_206 rfl rfl ?_
  refine r_iadd (q := 208) d_law_207 rfl ?_
  refine am_sl (q := 209) d_law_208 rfl ?_ rfl ?_
  · (refine vp_of ?_ ?_ <;> (((try simp +decide only [b01, b10, b11, am_up, and_true, and_false, true_and, false_and, if_true, if_false, nn_eq] at *) <;> (try simp only [sw_or, sw_all, or_false, and_true, i32_lt, i32_le, i32_eq, i32_addw, i32_subw, i32_mulw, Int32.reduceToInt] at *) <;> omega)))
  refine r_al0 (q := 210) d_law_209 rfl ?_
  refine r_il4 (q := 212) d_law_210 rfl ?_
  refine r_ic (v := 5) (q := 213) d_law_212 rfl rfl ?_
  refine r_iadd (q := 214) d_law_213 rfl ?_
  refine am_sl (q := 215) d_law_214 rfl ?_ rfl ?_
  · (refine vp_of ?_ ?_ <;> (((try simp +decide only [b01, b10, b11, am_up, and_true, and_false, true_and, false_and, if_true, if_false, nn_eq] at *) <;> (try simp only [sw_or, sw_all, or_false, and_true, i32_lt, i32_le, i32_eq, i32_addw, i32_subw, i32_mulw, Int32.reduceToInt] at *) <;> omega)))
  refine r_zeq (tgt := 222) (q := 218) d_law_215 rfl rfl (fun e215 => ?_) (fun e215 => ?_)
  · skip
    refine r_ic (v := 0) (q := 223) d_law_222 rfl rfl ?_
    refine r_al3 (q := 224) d_law_223 rfl ?_
    rcases cg with ⟨_, rfl⟩ | ⟨_, rfl⟩ <;> first | exact key | (exfalso; clear key h1 h2 h3; ((try simp +decide only [b01, b10, b11, am_up, and_true, and_false, true_and, false_and, if_true, if_false, nn_eq] at *) <;> (try simp only [sw_or, sw_all, or_false, and_true, i32_lt, i32_le, i32_eq, i32_addw, i32_subw, i32_mulw, Int32.reduceToInt] at *) <;> omega))
  · skip
    refine r_ic (v := 1) (q := 219) d_law_218 rfl rfl ?_
    refine am_go (tgt := 223) d_law_219 rfl ?_
    refine r_al3 (q := 224) d_law_223 rfl ?_
    rcases cg with ⟨_, rfl⟩ | ⟨_, rfl⟩ <;> first | exact key | (exfalso; clear key h1 h2 h3; ((try simp +decide only [b01, b10, b11, am_up, and_true, and_false, true_and, false_and, if_true, if_false, nn_eq] at *) <;> (try simp only [sw_or, sw_all, or_false, and_true, i32_lt, i32_le, i32_eq, i32_addw, i32_subw, i32_mulw, Int32.reduceToInt] at *) <;> omega))

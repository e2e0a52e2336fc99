/-! What the types promise of a machine: D are the heads of arrays in the heap; T m is the typing of method m. -/
theorem up_comm {A : am_S} {b b' i i' : Nat} {v v' : Int32} (h : ¬ b = b') : am_up (am_up A b i v) b' i' v' = am_up (am_up A b' i' v') b i v := by
  funext c j
  unfold am_up
  by_cases e : c = b
  · have e' : ¬ c = b' := fun w => h (e.symm.trans w)
    simp only [e', false_and, if_false]
  · simp only [e, false_and, if_false]
def rv (D : Nat → Prop) (t v : Int32) : Prop := t = 2 → v = -1 ∨ (0 ≤ v.toInt ∧ D v.toNatClampNeg)
def HP (D : Nat → Prop) (A : am_S) : Prop := hb A ∧ (∀ h, D h → (h : Int) < (A 606 0).toInt ∧ 0 ≤ (A 2161 h).toInt ∧ (h : Int) + 1 + (A 2161 h).toInt ≤ (A 606 0).toInt) ∧ ∀ h h', D h → D h' → h < h' → (h : Int) + 1 + (A 2161 h).toInt ≤ (h' : Int)
def FLo (P : am_S) (D : Nat → Prop) (A : am_S) (f : Nat) (L : Int32) : Prop := ∀ k, k < flo P A f → rv D (ty_at L (nI k)) (A 2162 (fb A f + k))
def FSt (P : am_S) (D : Nat → Prop) (A : am_S) (f : Nat) (R : Int32) : Prop := ∀ k, k < ft A f → rv D (ty_at R (nI k)) (A 2162 (fb A f + flo P A f + k))
def FT (P : am_S) (D : Nat → Prop) (A : am_S) (f : Nat) (L R H : Int32) : Prop := H = nI (ft A f) ∧ FLo P D A f L ∧ FSt P D A f R
def AT (P : am_S) (T : Nat → am_T) (A : am_S) (f q : Nat) : Prop := (A 2164 f).toInt = (q : Int) ∧ q < nl P (fm A f) ∧ ¬ T (fm A f) 2 q = -1
/-- a frame that waits for what it has called -/
def WF (P : am_S) (T : Nat → am_T) (D : Nat → Prop) (A : am_S) (f : Nat) : Prop := ∃ q R H, AT P T A f q ∧ pO P (nb P (fm A f) + q) = 184 ∧ (pN P (nb P (fm A f) + q)).toNatClampNeg = fm A (f + 1) ∧ pops (dues P 184 (pN P (nb P (fm A f) + q))) (T (fm A f) 1 q) (T (fm A f) 2 q) = some (R, H) ∧ FT P D A f (T (fm A f) 0 q) R H
/-- a machine whose top frame stands at q with L, R, H -/
def TX (P : am_S) (T : Nat → am_T) (D : Nat → Prop) (A : am_S) (q : Nat) (L R H : Int32) : Prop := (BV P A ∧ 0 < fn A ∧ HP D A) ∧ (∀ f, f + 1 < fn A → WF P T D A f) ∧ AT P T A (lf A) q ∧ FT P D A (lf A) L R H
def TY (P : am_S) (T : Nat → am_T) (D : Nat → Prop) (A : am_S) : Prop := BV P A ∧ HP D A ∧ (0 < fn A → ∃ q, TX P T D A q (T (fm A (lf A)) 0 q) (T (fm A (lf A)) 1 q) (T (fm A (lf A)) 2 q)) ∧ (A 603 0 = 1 → 0 < fn A)
/-- the program and its typings -/
def PT (P : am_S) (T : Nat → am_T) : Prop := VP P ∧ ∀ m, m < nM P → SHP P m ∧ Typ P m (T m) ∧ WT P m (T m)
theorem rv_mono {D D' : Nat → Prop} {t v : Int32} (h : rv D t v) (hD : ∀ i, D i → D' i) : rv D' t v := fun e => (h e).imp id (fun w => ⟨w.1, hD _ w.2⟩)
theorem rv_lel {D : Nat → Prop} {L L' v : Int32} {k : Nat} (hk : k < 8) (h : lel L L') (hr : rv D (ty_at L (nI k)) v) : rv D (ty_at L' (nI k)) v := by
  intro e
  rcases h k hk with w | w
  · exact hr (w.symm.trans e)
  · rw [w] at e
    exact absurd e (by decide)
theorem rv_hv {D : Nat → Prop} {A : am_S} {v : Int32} (h : HP D A) (hr : rv D 2 v) : hv A v := by
  rcases hr rfl with w | ⟨w1, w2⟩
  · exact Or.inl w
  · have g := h.2.1 _ w2
    have e : (v.toNatClampNeg : Int) = v.toInt := by
      rw [nn_eq]
      omega
    refine Or.inr ⟨w1, ?_, g.2.1, ?_⟩
    · omega
    · omega
def same (P A A' : am_S) (f : Nat) : Prop := A' 2163 f = A 2163 f ∧ A' 2163 (f + 1) = A 2163 (f + 1) ∧ A' 2164 f = A 2164 f ∧ A' 2165 f = A 2165 f ∧ A' 2166 f = A 2166 f ∧ ∀ i, i < en P A f → A' 2162 i = A 2162 i
theorem FT_mono {P A : am_S} {D D' : Nat → Prop} {f : Nat} {L R H : Int32} (hD : ∀ i, D i → D' i) (h : FT P D A f L R H) : FT P D' A f L R H := ⟨h.1, fun k hk => rv_mono (h.2.1 k hk) hD, fun k hk => rv_mono (h.2.2 k hk) hD⟩
theorem FT_cells {P A A' : am_S} {D : Nat → Prop} {f : Nat} {L R H : Int32} (hf : ft A f ≤ fhe P A f) (e3 : A' 2163 f = A 2163 f) (e5 : A' 2165 f = A 2165 f) (e6 : A' 2166 f = A 2166 f) (ec : ∀ i, i < en P A f → A' 2162 i = A 2162 i) (h : FT P D A f L R H) : FT P D A' f L R H := by
  obtain ⟨h1, h2, h3⟩ := h
  have k3 : fm A' f = fm A f := by unfold fm; rw [e3]
  have k6 : fb A' f = fb A f := by unfold fb; rw [e6]
  have k5 : ft A' f = ft A f := by unfold ft; rw [e5]
  have kl : flo P A' f = flo P A f := by unfold flo; rw [k3]
  refine ⟨by rw [k5]; exact h1, ?_, ?_⟩
  · intro k hk
    rw [kl] at hk
    rw [k6, ec _ (by unfold en; omega)]
    exact h2 k hk
  · intro k hk
    rw [k5] at hk
    rw [k6, kl, ec _ (by unfold en; omega)]
    exact h3 k hk
theorem WF_same {P A A' : am_S} {T : Nat → am_T} {D D' : Nat → Prop} {f : Nat} (hD : ∀ i, D i → D' i) (hf : ft A f ≤ fhe P A f) (e : same P A A' f) (h : WF P T D A f) : WF P T D' A' f := by
  obtain ⟨q, R, H, ⟨a1, a2, a3⟩, b, c, d, g⟩ := h
  obtain ⟨e1, e2, e3, e4, e5, e6⟩ := e
  have k3 : fm A' f = fm A f := by unfold fm; rw [e1]
  have k4 : fm A' (f + 1) = fm A (f + 1) := by unfold fm; rw [e2]
  refine ⟨q, R, H, ?_, ?_, ?_, ?_, ?_⟩
  · unfold AT
    rw [k3, e3]
    exact ⟨a1, a2, a3⟩
  · rw [k3]; exact b
  · rw [k3, k4]; exact c
  · rw [k3]; exact d
  · rw [k3]
    exact FT_mono hD (FT_cells hf e1 e4 e5 e6 g)
/-- an act on the top frame alone leaves the frames below -/
theorem low_top {P A A' : am_S} {T : Nat → am_T} {D D' : Nat → Prop} (hB : BV P A) (hn : fn A' = fn A) (hD : ∀ i, D i → D' i) (e3 : A' 2163 = A 2163) (e6 : A' 2166 = A 2166) (e4 : ∀ f, ¬ f = lf A → A' 2164 f = A 2164 f) (e5 : ∀ f, ¬ f = lf A → A' 2165 f = A 2165 f) (ec : ∀ i, i < fb A (lf A) → A' 2162 i = A 2162 i) (h : ∀ f, f + 1 < fn A → WF P T D A f) : ∀ f, f + 1 < fn A' → WF P T D' A' f := by
  intro f hf
  rw [hn] at hf
  have hfl : ¬ f = lf A := by unfold lf; omega
  refine WF_same hD (hB.2.1 f (by omega)).2.2.2.1 ⟨by rw [e3], by rw [e3], e4 f hfl, e5 f hfl, by rw [e6], fun i hi => ec i ?_⟩ (h f hf)
  have := BV_en hB (show f < lf A by unfold lf; omega) (by unfold lf; omega)
  omega
theorem HP_eq {D : Nat → Prop} {A A' : am_S} (e1 : A' 606 = A 606) (e2 : A' 2161 = A 2161) (h : HP D A) : HP D A' := by
  unfold HP hb at *
  rw [e1, e2]
  exact h
theorem top_i {P A : am_S} (hB : BV P A) (hn : 0 < fn A) : flo P A (lf A) ≤ 8 + 80 ∧ fhe P A (lf A) ≤ 80 ∧ sD A ≤ fhe P A (lf A) := by
  have h3 := BV_80 hB (show lf A < fn A by unfold lf; omega)
  unfold en at h3
  exact ⟨by omega, by omega, (top_r hB hn).2.2.2.1⟩
theorem TX_pop {P A : am_S} {T : Nat → am_T} {D : Nat → Prop} {q h : Nat} {L R : Int32} (hh : h < 15) (w : wfR R (h + 1)) (hx : TX P T D A q L R (nI (h + 1))) : sD A = h + 1 ∧ rv D (ty_at R (nI h)) (o_val P A) ∧ TX P T D (o_pop A) q L (ty_with R (nI h) 0) (nI h) := by
  obtain ⟨⟨b1, b2, b3⟩, lo, at', f1, f2, f3⟩ := hx
  obtain ⟨g1, g2, g3⟩ := top_i b1 b2
  have es : sD A = h + 1 := by
    have e : ft A (lf A) = sD A := rfl
    rw [e] at f1
    exact ((nI_i (by omega) (by omega)).mp f1).symm
  obtain ⟨p1, p2, p3, p4⟩ := pop1 b1 b2 (by omega)
  refine ⟨es, ?_, ⟨p1, p2, HP_eq rfl rfl b3⟩, ?_, at', ?_, ?_, ?_⟩
  · have := f3 h (by have e : ft A (lf A) = sD A := rfl; omega)
    have ei : sx P A - 1 = fb A (lf A) + flo P A (lf A) + h := by
      have e : ft A (lf A) = sD A := rfl
      unfold sx
      omega
    unfold o_val
    rw [ei]
    exact this
  · refine low_top b1 rfl (fun _ x => x) rfl rfl (fun _ _ => rfl) (fun f hf => ?_) (fun _ _ => rfl) lo
    rw [pop_t, if_neg hf]
  · have e : ft (o_pop A) (lf (o_pop A)) = sD (o_pop A) := rfl
    rw [e]
    have : sD (o_pop A) = h := by omega
    rw [this]
  · exact f2
  · intro k hk
    have e : ft (o_pop A) (lf (o_pop A)) = sD (o_pop A) := rfl
    rw [e] at hk
    rw [at_w0 (by omega) (by omega), if_neg (by omega)]
    exact f3 k (by have e : ft A (lf A) = sD A := rfl; omega)
theorem TX_push {P A : am_S} {T : Nat → am_T} {D : Nat → Prop} {q h : Nat} {L R t v : Int32} (ht : t = 1 ∨ t = 2) (hh : h < 15) (hr : h < fhe P A (lf A)) (hv : rv D t v) (hx : TX P T D A q L R (nI h)) : TX P T D (o_push P A v) q L (ty_with R (nI h) t) (nI (h + 1)) := by
  obtain ⟨⟨b1, b2, b3⟩, lo, at', f1, f2, f3⟩ := hx
  obtain ⟨g1, g2, g3⟩ := top_i b1 b2
  have et : ft A (lf A) = sD A := rfl
  have es : sD A = h := by
    rw [et] at f1
    exact ((nI_i (by omega) (by omega)).mp f1).symm
  obtain ⟨p1, p2, p3, p4⟩ := push1 (v := v) b1 b2 (by omega)
  have e3 : ∀ b, ¬ b = 2162 ∧ ¬ b = 2165 → o_push P A v b = A b := fun b hb => push_o hb
  have ex : sx P A = fb A (lf A) + flo P A (lf A) + h := by
    unfold sx
    omega
  refine ⟨⟨p1, p2, HP_eq (e3 606 (by decide)) (e3 2161 (by decide)) b3⟩, ?_, ?_, ?_, ?_, ?_⟩
  · refine low_top b1 rfl (fun _ x => x) (e3 2163 (by decide)) (e3 2166 (by decide)) (fun _ _ => by rw [e3 2164 (by decide)]) (fun f hf => ?_) (fun i hi => ?_) lo
    · rw [push_t, if_neg hf]
    · rw [push_c, if_neg (by omega)]
  · exact at'
  · have e : ft (o_push P A v) (lf (o_push P A v)) = sD (o_push P A v) := rfl
    rw [e]
    have : sD (o_push P A v) = h + 1 := by omega
    rw [this]
  · intro k hk
    have hk' : k < flo P A (lf A) := hk
    have e : fb (o_push P A v) (lf (o_push P A v)) = fb A (lf A) := rfl
    rw [e, push_c, if_neg (by omega)]
    exact f2 k hk'
  · intro k hk
    have e : ft (o_push P A v) (lf (o_push P A v)) = sD (o_push P A v) := rfl
    rw [e] at hk
    have e1 : fb (o_push P A v) (lf (o_push P A v)) = fb A (lf A) := rfl
    have e2 : flo P (o_push P A v) (lf (o_push P A v)) = flo P A (lf A) := rfl
    rw [at_w12 ht (by omega) (by omega), e1, e2, push_c, ex]
    by_cases ek : k = h
    · rw [if_pos ek, if_pos (by omega)]
      exact hv
    · rw [if_neg ek, if_neg (by omega)]
      exact f3 k (by omega)
/-- the top frame goes to z, where T says no more than L, R, H -/
theorem TX_set {P A : am_S} {T : Nat → am_T} {D : Nat → Prop} {q : Nat} {z L R H : Int32} (hV : VP P) (hx : TX P T D A q L R H) (ha : Ar (nl P (fm A (lf A))) (T (fm A (lf A))) z.toInt L R H) : TY P T D (o_set A z) := by
  obtain ⟨⟨b1, b2, b3⟩, lo, at', f1, f2, f3⟩ := hx
  obtain ⟨a1, a2, a3, a4, a5, a6⟩ := ha
  have hl : flo P A (lf A) ≤ 8 := by
    have := (hV.2.2 _ ((b1.2.1 (lf A) (by unfold lf; omega)).1.2)).2.1
    unfold flo
    omega
  refine ⟨BV_set b1, HP_eq rfl rfl b3, fun _ => ⟨z.toInt.toNat, ⟨BV_set b1, b2, HP_eq rfl rfl b3⟩, ?_, ⟨?_, ?_, ?_⟩, ?_, ?_, ?_⟩, fun _ => b2⟩
  · refine low_top b1 rfl (fun _ x => x) rfl rfl (fun f hf => ?_) (fun _ _ => rfl) (fun _ _ => rfl) lo
    exact am_up_ne (fun w => hf w.2)
  · have : o_set A z 2164 (lf (o_set A z)) = z := am_up_eq
    rw [this]
    omega
  · have e : fm (o_set A z) (lf (o_set A z)) = fm A (lf A) := rfl
    rw [e]
    omega
  · exact a3
  · have e : fm (o_set A z) (lf (o_set A z)) = fm A (lf A) := rfl
    rw [e, a4]
    exact f1
  · intro k hk
    have hk' : k < flo P A (lf A) := hk
    exact rv_lel (by omega) a6 (f2 k hk')
  · have e : fm (o_set A z) (lf (o_set A z)) = fm A (lf A) := rfl
    rw [e, a5]
    exact f3
theorem TX_go {P A : am_S} {T : Nat → am_T} {D : Nat → Prop} {q : Nat} {z L R H : Int32} (hV : VP P) (hx : TX P T D A q L R H) (ha : Ar (nl P (fm A (lf A))) (T (fm A (lf A))) ((q : Int) + z.toInt) L R H) : TY P T D (o_go A z) := by
  refine TX_set hV hx ?_
  obtain ⟨⟨b1, b2, b3⟩, lo, ⟨t1, t2, t3⟩, -⟩ := hx
  have hl : nl P (fm A (lf A)) ≤ 200 := by
    have h1 := (hV.2.2 _ ((b1.2.1 (lf A) (by unfold lf; omega)).1.2)).1
    have h2 := hV.1
    unfold nl
    omega
  have : (A 2164 (lf A) + z).toInt = (q : Int) + z.toInt := by
    have g1 := ha.1
    have g2 := ha.2.1
    rw [i32_addw, t1]
    omega
  rw [this]
  exact ha
/-- handlers that cover a reached place -/
theorem cov_Ar {P : am_S} {T : Nat → am_T} (hT : PT P T) {m q i : Nat} (hm : m < nM P) (hq : q < nl P m) (hr : ¬ T m 2 q = -1) (hi : i < (P 7 m).toInt.toNat) {p : Int32} (hp : p.toInt = (q : Int)) (hc : P 8 (4 * m + i) ≤ p ∧ p < P 9 (4 * m + i)) : 1 ≤ (P 5 m).toInt ∧ Ar (nl P m) (T m) (P 10 (4 * m + i)).toInt (T m 0 q) 1 1 := by
  refine ((hT.2 m hm).2.1.2 q hq hr).1 i hi ?_
  rw [i32_le, i32_lt] at hc
  unfold cov
  omega
theorem AT_m {P A : am_S} (hB : BV P A) {f : Nat} (hf : f < fn A) : fm A f < nM P := (hB.2.1 f hf).1.2
/-- every frame stands at a reached place, and its locals are as found there -/
def AL (P : am_S) (T : Nat → am_T) (D : Nat → Prop) (A : am_S) : Prop := ∀ f, f < fn A → ∃ q, AT P T A f q ∧ FLo P D A f (T (fm A f) 0 q)
theorem TX_AL {P A : am_S} {T : Nat → am_T} {D : Nat → Prop} {q : Nat} {R H : Int32} (hx : TX P T D A q (T (fm A (lf A)) 0 q) R H) : AL P T D A := by
  intro f hf
  by_cases e : f = lf A
  · rw [e]
    exact ⟨q, hx.2.2.1, hx.2.2.2.2.1⟩
  · obtain ⟨q', R', H', w1, -, -, -, w5⟩ := hx.2.1 f (by unfold lf at e; omega)
    exact ⟨q', w1, w5.2.1⟩
theorem AL_HT {P A : am_S} {T : Nat → am_T} {D : Nat → Prop} (hT : PT P T) (hB : BV P A) (h : AL P T D A) : HT P A := by
  intro f hf i hi hc
  obtain ⟨q, ⟨a1, a2, a3⟩, -⟩ := h f hf
  have w := cov_Ar hT (AT_m hB hf) a2 a3 hi a1 hc
  refine ⟨w.1, fun e => ?_⟩
  have := w.2.1
  rw [e] at this
  exact absurd this (by decide)
theorem HP_stop {D : Nat → Prop} {A : am_S} {w : Int32} (h : HP D A) : HP D (o_stop A w) := HP_eq rfl rfl h
theorem TY_stop {P A : am_S} {T : Nat → am_T} {D : Nat → Prop} {w : Int32} (hw : ¬ w = 1) (h : HP D A) : TY P T D (o_stop A w) := ⟨BV_stop, HP_stop h, fun q => absurd q (by rw [stop_n]; omega), fun q => absurd q hw⟩
theorem low_close {P A : am_S} {T : Nat → am_T} {D : Nat → Prop} (hB : BV P A) (hn : 0 < fn A) (h : ∀ f, f + 1 < fn A → WF P T D A f) : ∀ f, f + 1 < fn (o_close A) → WF P T D (o_close A) f := by
  intro f hf
  rw [(close_n hB hn).1] at hf
  refine WF_same (fun _ x => x) (hB.2.1 f (by omega)).2.2.2.1 ⟨?_, ?_, ?_, ?_, ?_, fun i hi => ?_⟩ (h f (by omega)) <;> rw [close_o (by decide)]
theorem AL_close {P A : am_S} {T : Nat → am_T} {D : Nat → Prop} (hB : BV P A) (hn : 0 < fn A) (h : AL P T D A) : AL P T D (o_close A) := by
  intro f hf
  rw [(close_n hB hn).1] at hf
  have c3 : o_close A 2163 = A 2163 := close_o (by decide)
  have c4 : o_close A 2164 = A 2164 := close_o (by decide)
  have c6 : o_close A 2166 = A 2166 := close_o (by decide)
  have c2 : o_close A 2162 = A 2162 := close_o (by decide)
  have := h f (by omega)
  unfold AT FLo flo fm fb at *
  rw [c3, c4, c6, c2]
  exact this
theorem TY_trap {P : am_S} {T : Nat → am_T} {D : Nat → Prop} {k : Int32} (hT : PT P T) (hk : ¬ k + 2 = 1) : ∀ (n : Nat) (A : am_S), fn A = n → BV P A → HP D A → (∀ f, f + 1 < fn A → WF P T D A f) → AL P T D A → TY P T D (o_trap P n k A) := by
  intro n
  induction n with
  | zero =>
    intro A _ _ h2 _ _
    exact TY_stop hk h2
  | succ n ih =>
    intro A hn hB hH lo al
    have hn0 : 0 < fn A := by omega
    have hu : o_trap P (n + 1) k A = if fhT P (fm A (lf A)) (A 2164 (lf A)) k = -1 then o_trap P n k (o_close A) else o_push P (o_top0 (o_set A (fhT P (fm A (lf A)) (A 2164 (lf A)) k))) k := rfl
    rw [hu]
    by_cases e : fhT P (fm A (lf A)) (A 2164 (lf A)) k = -1
    · rw [if_pos e]
      exact ih _ (by rw [(close_n hB hn0).1]; omega) (BV_close hB hn0) (HP_eq (close_o (by decide)) (close_o (by decide)) hH) (low_close hB hn0 lo) (AL_close hB hn0 al)
    · rw [if_neg e]
      have hlf : lf A < fn A := by unfold lf; omega
      obtain ⟨i, i1, i2, i3⟩ := fhR_ok _ 0 (Nat.zero_add _) e
      have i3' : fhT P (fm A (lf A)) (A 2164 (lf A)) k = P 10 (4 * fm A (lf A) + i) := i3
      rw [i3']
      obtain ⟨q, ⟨a1, a2, a3⟩, a4⟩ := al (lf A) hlf
      obtain ⟨w1, w2⟩ := cov_Ar hT (AT_m hB hlf) a2 a3 i1 a1 i2
      have hx0 : TX P T D (o_top0 A) q (T (fm A (lf A)) 0 q) 0 (nI 0) := by
        refine ⟨⟨BV_top0 hB, hn0, HP_eq rfl rfl hH⟩, ?_, ⟨a1, a2, a3⟩, ?_, a4, ?_⟩
        · refine low_top hB rfl (fun _ x => x) rfl rfl (fun _ _ => rfl) (fun f hf => ?_) (fun _ _ => rfl) lo
          rw [top0_t, if_neg hf]
        · have : ft (o_top0 A) (lf (o_top0 A)) = 0 := sD_top0
          rw [this]
        · intro k hk
          have : ft (o_top0 A) (lf (o_top0 A)) = 0 := sD_top0
          rw [this] at hk
          omega
      have hfe : fhe P (o_top0 A) (lf (o_top0 A)) = (P 5 (fm A (lf A))).toInt.toNat := rfl
      have hx1 := TX_push (v := k) (t := 1) (Or.inl rfl) (by omega) (by rw [hfe]; omega) (fun z => absurd z (by decide)) hx0
      have e1 : ty_with 0 (nI 0) 1 = 1 := by decide
      have e2 : nI (0 + 1) = 1 := by decide
      rw [e1, e2] at hx1
      have := TX_set hT.1 hx1 (z := P 10 (4 * fm A (lf A) + i)) w2
      have ec : o_set (o_push P (o_top0 A) k) (P 10 (4 * fm A (lf A) + i)) = o_push P (o_top0 (o_set A (P 10 (4 * fm A (lf A) + i)))) k := by
        unfold o_set o_push o_top0
        have l1 : lf (am_up (am_up (am_up A 2165 (lf A) 0) 2162 (sx P (am_up A 2165 (lf A) 0)) k) 2165 (lf (am_up A 2165 (lf A) 0)) (am_up A 2165 (lf A) 0 2165 (lf (am_up A 2165 (lf A) 0)) + 1)) = lf A := rfl
        have l2 : lf (am_up A 2165 (lf A) 0) = lf A := rfl
        have l3 : lf (am_up A 2164 (lf A) (P 10 (4 * fm A (lf A) + i))) = lf A := rfl
        have l4 : lf (am_up (am_up A 2164 (lf A) (P 10 (4 * fm A (lf A) + i))) 2165 (lf A) 0) = lf A := rfl
        have l5 : sx P (am_up (am_up A 2164 (lf A) (P 10 (4 * fm A (lf A) + i))) 2165 (lf A) 0) = sx P (am_up A 2165 (lf A) 0) := rfl
        rw [l1, l2, l3, l4, l5, am_up_eq, am_up_eq, up_comm (b := 2165) (b' := 2164) (by decide), up_comm (b := 2162) (b' := 2164) (by decide), up_comm (b := 2165) (b' := 2164) (by decide)]
      rw [← ec]
      exact this
theorem TX_trap {P A : am_S} {T : Nat → am_T} {D : Nat → Prop} {q : Nat} {k R H : Int32} (hT : PT P T) (hk : ¬ k + 2 = 1) (hx : TX P T D A q (T (fm A (lf A)) 0 q) R H) : HT P A ∧ TY P T D (o_trap P (fn A) k A) := by
  have al := TX_AL hx
  exact ⟨AL_HT hT hx.1.1 al, TY_trap hT hk _ A rfl hx.1.1 hx.1.2.2 hx.2.1 al⟩

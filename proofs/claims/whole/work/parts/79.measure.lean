/-! States in good form, sums, and the measure that falls with every change. -/
def WS (P : am_S) (m : Nat) (L R H : Int32) : Prop := wfL L ∧ ∃ h : Nat, (h : Int) ≤ (P 5 m).toInt ∧ H = nI h ∧ wfR R h
def WT (P : am_S) (m : Nat) (T : am_T) : Prop := ∀ p, p < nl P m → ¬ T 2 p = -1 → bg P m p ∧ WS P m (T 0 p) (T 1 p) (T 2 p)
theorem WT_cm {P : am_S} {m p : Nat} {T : am_T} {L R H : Int32} (h : WT P m T) (hs : WS P m L R H) (hb : bg P m p) : WT P m (cm T p L R H) := by
  intro q hq e
  unfold cm at e ⊢
  by_cases a : q = p
  · subst a
    by_cases e2 : T 2 q = -1
    · simp only [if_true, e2]
      exact ⟨hb, hs⟩
    · simp only [if_true, e2, if_false]
      obtain ⟨b1, b2, b3⟩ := h q hq e2
      exact ⟨b1, wfL_com b2, b3⟩
  · simp only [a, if_false] at e ⊢
    exact h q hq e
def sm (f : Nat → Nat) : Nat → Nat
  | 0 => 0
  | n + 1 => sm f n + f n
theorem sm_le {f g : Nat → Nat} {n : Nat} (h : ∀ i, i < n → f i ≤ g i) : sm f n ≤ sm g n := by
  induction n with
  | zero => exact Nat.le_refl _
  | succ n ih =>
    unfold sm
    have := ih (fun i hi => h i (by omega))
    have := h n (by omega)
    omega
theorem sm_lt {f g : Nat → Nat} {n j : Nat} (h : ∀ i, i < n → f i ≤ g i) (hj : j < n) (h2 : f j < g j) : sm f n + 1 ≤ sm g n := by
  induction n with
  | zero => omega
  | succ n ih =>
    unfold sm
    have h3 := h n (by omega)
    by_cases e : j = n
    · subst e
      have := @sm_le f g j (fun i hi => h i (by omega))
      omega
    · have := ih (fun i hi => h i (by omega)) (by omega)
      omega
theorem sm_bd {f : Nat → Nat} {n c : Nat} (h : ∀ i, i < n → f i ≤ c) : sm f n ≤ c * n := by
  induction n with
  | zero => exact Nat.zero_le _
  | succ n ih =>
    unfold sm
    have := ih (fun i hi => h i (by omega))
    have := h n (by omega)
    rw [Nat.mul_succ]
    omega
theorem sm_eq {f g : Nat → Nat} {n : Nat} (h : ∀ i, i < n → f i = g i) : sm f n = sm g n := Nat.le_antisymm (sm_le fun i hi => Nat.le_of_eq (h i hi)) (sm_le fun i hi => Nat.le_of_eq (h i hi).symm)
theorem sm_ch {f g : Nat → Nat} {n j : Nat} (h : ∀ i, i < n → ¬ i = j → f i = g i) (hj : j < n) : sm f n + g j = sm g n + f j := by
  induction n with
  | zero => omega
  | succ n ih =>
    unfold sm
    by_cases e : j = n
    · subst e
      have := @sm_eq f g j (fun i hi => h i (by omega) (by omega))
      omega
    · have h1 := ih (fun i hi => h i (by omega)) (by omega)
      have h2 := h n (by omega) (by omega)
      omega
def cnz (L : Int32) : Nat := sm (fun k => if ty_at L (nI k) = 0 then 0 else 1) 8
theorem cnz_le {L : Int32} : cnz L ≤ 8 := by
  have := @sm_bd (fun k => if ty_at L (nI k) = 0 then 0 else 1) 8 1 (fun i _ => by split <;> omega)
  unfold cnz
  omega
theorem cnz_com {A B : Int32} : cnz (ty_com A B) ≤ cnz A := by
  unfold cnz
  refine sm_le fun k hk => ?_
  rw [at_com hk]
  by_cases e : ty_at A (nI k) = ty_at B (nI k)
  · rw [if_pos e]
    exact Nat.le_refl _
  · rw [if_neg e, if_pos rfl]
    exact Nat.zero_le _
theorem cnz_lt {A B : Int32} (h : ¬ ty_com A B = A) : cnz (ty_com A B) + 1 ≤ cnz A := by
  have : ∃ j, j < 8 ∧ ¬ ty_at (ty_com A B) (nI j) = ty_at A (nI j) := by
    refine Decidable.byContradiction fun q => h (at_ext fun j hj => ?_)
    by_cases e : j < 8
    · exact Decidable.byContradiction fun q2 => q ⟨j, e, q2⟩
    · exact at_com_hi hj (by omega)
  obtain ⟨j, hj, h2⟩ := this
  unfold cnz
  have h3 := @at_com A B j hj
  refine sm_lt (j := j) (fun k hk => ?_) hj ?_
  · rw [at_com hk]
    by_cases e : ty_at A (nI k) = ty_at B (nI k)
    · rw [if_pos e]
      exact Nat.le_refl _
    · rw [if_neg e, if_pos rfl]
      exact Nat.zero_le _
  · rw [h3] at h2 ⊢
    split at h2
    · exact absurd rfl h2
    · rename_i e
      rw [if_neg e, if_pos rfl, if_neg (fun q => h2 q.symm)]
      omega
def wt (T : am_T) (p : Nat) : Nat := if T 2 p = -1 then 9 else cnz (T 0 p)
def mu (N : Nat) (T : am_T) : Nat := sm (wt T) N
theorem mu_le {N : Nat} {T : am_T} : mu N T ≤ 9 * N := by
  refine sm_bd fun i _ => ?_
  unfold wt
  have := @cnz_le (T 0 i)
  split <;> omega
theorem cm_2 {T : am_T} {p : Nat} {L R H : Int32} : cm T p L R H 2 p = if T 2 p = -1 then H else T 2 p := by
  unfold cm
  rw [if_pos rfl]
  rfl
theorem cm_1 {T : am_T} {p : Nat} {L R H : Int32} : cm T p L R H 1 p = if T 2 p = -1 then R else T 1 p := by
  unfold cm
  rw [if_pos rfl]
  rfl
theorem cm_0 {T : am_T} {p : Nat} {L R H : Int32} : cm T p L R H 0 p = if T 2 p = -1 then L else ty_com (T 0 p) L := by
  unfold cm
  rw [if_pos rfl]
  rfl
theorem cm_n {T : am_T} {p q j : Nat} {L R H : Int32} (h : ¬ q = p) : cm T p L R H j q = T j q := by
  unfold cm
  rw [if_neg h]
theorem wt_cm {T : am_T} {p q : Nat} {L R H : Int32} (hH : ¬ H = -1) : wt (cm T p L R H) q ≤ wt T q := by
  unfold wt
  by_cases a : q = p
  · subst a
    rw [cm_2, cm_0]
    by_cases e2 : T 2 q = -1
    · simp only [if_pos e2, if_neg hH]
      have := @cnz_le L
      omega
    · simp only [if_neg e2]
      exact cnz_com
  · rw [cm_n a, cm_n a]
    exact Nat.le_refl _
theorem mu_cm {N : Nat} {T : am_T} {p : Nat} {L R H : Int32} (hH : ¬ H = -1) : mu N (cm T p L R H) ≤ mu N T := sm_le fun _ _ => wt_cm hH
theorem mu_ch {N : Nat} {T : am_T} {p : Nat} {L R H : Int32} (hp : p < N) (hH : ¬ H = -1) (h : T 2 p = -1 ∨ ¬ ty_com (T 0 p) L = T 0 p) : mu N (cm T p L R H) + 1 ≤ mu N T := by
  refine sm_lt (j := p) (fun _ _ => wt_cm hH) hp ?_
  unfold wt
  rw [cm_2, cm_0]
  by_cases e2 : T 2 p = -1
  · simp only [if_pos e2, if_neg hH]
    have := @cnz_le L
    omega
  · have h := h.resolve_left e2
    have := cnz_lt h
    simp only [if_neg e2]
    omega
theorem cm_same {T : am_T} {p : Nat} {L R H : Int32} (h1 : ¬ T 2 p = -1) (h2 : ty_com (T 0 p) L = T 0 p) : cm T p L R H = T := by
  funext j q
  unfold cm
  by_cases a : q = p
  · subst a
    simp only [if_true, h1, if_false]
    split
    · rename_i e
      rw [e, h2]
    · rfl
  · simp only [a, if_false]
theorem wf_h {P : am_S} {m : Nat} {L : Int32} (hL : wfL L) (h : 1 ≤ (P 5 m).toInt) : WS P m L 1 1 := by
  refine ⟨hL, 1, by omega, rfl, fun k a b => ?_, fun k a => ?_⟩
  · have : ∀ k : Fin 16, 1 ≤ k.val → ty_at 1 (nI k.val) = 0 := by decide +kernel
    exact this ⟨k, b⟩ a
  · have e : k = 0 := by omega
    subst e
    exact Or.inl (by decide)
theorem ini_at {n : Nat} (hn : n ≤ 8) : ∀ k, k < 16 → ty_at (ini n) (nI k) = if k < n then 1 else 0 := by
  induction n with
  | zero =>
    intro k hk
    unfold ini
    rw [at_zero hk, if_neg (by omega)]
  | succ n ih =>
    intro k hk
    unfold ini
    rw [at_w12 (Or.inl rfl) (by omega) hk, ih (by omega) k hk]
    by_cases e : k = n
    · rw [if_pos e, if_pos (by omega)]
    · rw [if_neg e]
      by_cases e2 : k < n
      · rw [if_pos e2, if_pos (by omega)]
      · rw [if_neg e2, if_neg (by omega)]
theorem ini_wf {n : Nat} (hn : n ≤ 8) : wfL (ini n) := by
  refine ⟨fun k a b => ?_, fun k a => ?_⟩
  · rw [ini_at hn k b, if_neg (by omega)]
  · rw [ini_at hn k (by omega)]
    split
    · exact Or.inr (Or.inl rfl)
    · exact Or.inl rfl
theorem ini_WS {P : am_S} {m n : Nat} (hn : n ≤ 8) (h : 0 ≤ (P 5 m).toInt) : WS P m (ini n) 0 0 := ⟨ini_wf hn, 0, h, rfl, fun k _ b => at_zero b, fun k a => absurd a (by omega)⟩
theorem ap_WS {P : am_S} {m p : Nat} {L R H R' H' : Int32} (hv : VP P) (hm : m < nM P) (ho : okI P m p) (hs : WS P m L R H) (h : ss P m (pO P (nb P m + p)) (pN P (nb P m + p)) R H = some (R', H')) (h5 : H'.toInt ≤ (P 5 m).toInt) : WS P m (lw (pO P (nb P m + p)) (pN P (nb P m + p)) L) R' H' := by
  obtain ⟨a, k, b, c, d⟩ := hs
  obtain ⟨n, n1, n2⟩ := lwn hv hm ho
  have h3 := hv.2.2 m hm
  unfold VM at h3
  subst c
  obtain ⟨h', e1, e2, e3⟩ := ss_wf (by omega) d h
  refine ⟨by rw [n2]; exact lw_wf n1 a, h', ?_, e2, e3⟩
  rw [e2, nI_t (by omega)] at h5
  exact h5
theorem tg_n {P : am_S} {m p : Nat} (hv : VP P) (hb : bg P m p) (ho : okI P m p) : bg P m (p + (pZ P (nb P m + p)).toInt.toNat) := by
  have := pZ_1 hv ho.1
  exact nx_in hb _ (by omega) (Nat.le_refl _)
theorem least_eq {P : am_S} {m : Nat} {T U : am_T} (wt : WT P m T) (wu : WT P m U) (h1 : le (nl P m) T U) (h2 : le (nl P m) U T) : ∀ p, p < nl P m → T 2 p = U 2 p ∧ (¬ T 2 p = -1 → T 1 p = U 1 p ∧ T 0 p = U 0 p) := by
  intro p hp
  by_cases e : T 2 p = -1
  · refine ⟨?_, fun q => absurd e q⟩
    rw [e]
    by_cases e2 : U 2 p = -1
    · exact e2.symm
    · have := (h2 p hp e2).1
      rw [e] at this
      exact this
  · obtain ⟨a, b, c⟩ := h1 p hp e
    have e2 : ¬ U 2 p = -1 := by rw [a]; exact e
    refine ⟨a.symm, fun _ => ⟨b.symm, lel_anti (wt p hp e).2.1 (wu p hp e2).2.1 c (h2 p hp e2).2.2⟩⟩

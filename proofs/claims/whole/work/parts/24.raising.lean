/-! contracts of the five methods that throw; written by wip/whole/gen/law.py -/
abbrev fx_rm : Room := { frames := 6, cells := 1, slots := 6, locals := 162 }
theorem tx_FW_feed (l : Launch) (htr : l.stackTraces = false) (D : va_G) (dA : Nat → ClassId) (lay : Nat → Nat) : fx_Met l D dA lay y_FW_feed (Cond.code y_FW_feed c_FW_feed 2 ((some .int)) :: fw_T) fx_rm wp_FW_feed := by
  refine fx_met_of htr (by decide) rfl wc_FW_feed fo_FW ?_ (fun _ _ h => by cases h) ?_ rfl (fun _ _ _ _ h => h) (by decide) (by decide) (by decide) (by decide)
  · intro idx n rc w h
    replace h : gc_FW_feed idx = some (n, rc, w) := h
    unfold gc_FW_feed at h
    split at h
    · cases h
      exact ⟨y_CO_addByte, c_CO_addByte, 2, (some .boolean), _, 1, ct_CO_addByte l D dA lay, rfl, rfl, by decide, by decide, wc_CO_addByte, fw_T_in (i := 442) (by decide +kernel) rfl, wi_CO, ⟨by decide, by decide, by decide⟩, ⟨wk_CO_addByte, wl_CO_addByte, rfl, _, _, rfl⟩⟩
    · cases h
  · intro ik ic n h
    replace h : (if ik = 58 ∧ ic = 60 then some 2 else none) = some n := h
    split at h
    · rename_i h9
      obtain ⟨rfl, rfl⟩ := h9
      cases h
      exact Or.inr ⟨rfl, rfl, rfl⟩
    cases h
theorem tx_FW_method (l : Launch) (htr : l.stackTraces = false) (D : va_G) (dA : Nat → ClassId) (lay : Nat → Nat) : fx_Met l D dA lay y_FW_method (Cond.code y_FW_method c_FW_method 6 ((some .int)) :: fw_T) fx_rm wp_FW_method := by
  refine fx_met_of htr (by decide) rfl wc_FW_method fo_FW ?_ (fun _ _ h => by cases h) ?_ rfl (fun _ _ _ _ h => h) (by decide) (by decide) (by decide) (by decide)
  · intro idx n rc w h
    replace h : gc_FW_method idx = some (n, rc, w) := h
    unfold gc_FW_method at h
    split at h
    · cases h
      exact ⟨y_FW_areMethodNumbers, c_FW_areMethodNumbers, 3, (some .boolean), _, 3, ct_FW_areMethodNumbers l D dA lay, rfl, rfl, by decide, by decide, wc_FW_areMethodNumbers, fw_T_in (i := 516) (by decide +kernel) rfl, wi_FW, ⟨by decide, by decide, by decide⟩, ⟨wk_FW_areMethodNumbers, rfl⟩⟩
    · cases h
      exact ⟨y_CO_bytesLeft, c_CO_bytesLeft, 1, (some .int), _, 0, ct_CO_bytesLeft l D dA lay, rfl, rfl, by decide, by decide, wc_CO_bytesLeft, fw_T_in (i := 519) (by decide +kernel) rfl, wi_CO, ⟨by decide, by decide, by decide⟩, ⟨wk_CO_bytesLeft, wl_CO_bytesLeft, rfl, _, _, rfl⟩⟩
    · cases h
      exact ⟨y_CO_addMethod, c_CO_addMethod, 7, (some .int), _, 5, ct_CO_addMethod l D dA lay, rfl, rfl, by decide, by decide, wc_CO_addMethod, fw_T_in (i := 546) (by decide +kernel) rfl, wi_CO, ⟨by decide, by decide, by decide⟩, ⟨wk_CO_addMethod, wl_CO_addMethod, rfl, _, _, rfl⟩⟩
    · cases h
  · intro ik ic n h
    replace h : (if ik = 58 ∧ ic = 60 then some 2 else if ik = 72 ∧ ic = 74 then some 1 else none) = some n := h
    split at h
    · rename_i h9
      obtain ⟨rfl, rfl⟩ := h9
      cases h
      exact Or.inr ⟨rfl, rfl, rfl⟩
    split at h
    · rename_i h9
      obtain ⟨rfl, rfl⟩ := h9
      cases h
      exact Or.inl ⟨rfl, rfl, rfl⟩
    cases h
theorem tx_FW_verify (l : Launch) (htr : l.stackTraces = false) (D : va_G) (dA : Nat → ClassId) (lay : Nat → Nat) : fx_Met l D dA lay y_FW_verify (Cond.code y_FW_verify c_FW_verify 3 ((some .int)) :: fw_T) fx_rm wp_FW_verify := by
  refine fx_met_of htr (by decide) rfl wc_FW_verify fo_FW ?_ (fun _ _ h => by cases h) ?_ rfl (fun _ _ _ _ h => h) (by decide) (by decide) (by decide) (by decide)
  · intro idx n rc w h
    replace h : gc_FW_verify idx = some (n, rc, w) := h
    unfold gc_FW_verify at h
    split at h
    · cases h
      exact ⟨y_SH_holdsFor, c_SH_holdsFor, 2, (some .boolean), _, 1, ct_SH_holdsFor l D dA lay, rfl, rfl, by decide, by decide, wc_SH_holdsFor, fw_T_in (i := 557) (by decide +kernel) rfl, wi_SH, ⟨by decide, by decide, by decide⟩, ⟨wk_SH_holdsFor, wl_SH_holdsFor, rfl, _, _, rfl⟩⟩
    · cases h
      exact ⟨y_FL_holdsFor, c_FL_holdsFor, 4, (some .boolean), _, 1, ct_FL_holdsFor l D dA lay, rfl, rfl, by decide, by decide, wc_FL_holdsFor, fw_T_in (i := 630) (by decide +kernel) rfl, wi_FL, ⟨by decide, by decide, by decide⟩, ⟨wk_FL_holdsFor, wl_FL_holdsFor, rfl, _, _, rfl⟩⟩
    · cases h
      exact ⟨y_FL_countStates, c_FL_countStates, 3, (some .int), _, 0, ct_FL_countStates l D dA lay, rfl, rfl, by decide, by decide, wc_FL_countStates, fw_T_in (i := 716) (by decide +kernel) rfl, wi_FL, ⟨by decide, by decide, by decide⟩, ⟨wk_FL_countStates, wl_FL_countStates, rfl, _, _, rfl⟩⟩
    · cases h
  · intro ik ic n h
    replace h : (if ik = 58 ∧ ic = 60 then some 2 else if ik = 72 ∧ ic = 74 then some 1 else none) = some n := h
    split at h
    · rename_i h9
      obtain ⟨rfl, rfl⟩ := h9
      cases h
      exact Or.inr ⟨rfl, rfl, rfl⟩
    split at h
    · rename_i h9
      obtain ⟨rfl, rfl⟩ := h9
      cases h
      exact Or.inl ⟨rfl, rfl, rfl⟩
    cases h
theorem tx_FW_start (l : Launch) (htr : l.stackTraces = false) (D : va_G) (dA : Nat → ClassId) (lay : Nat → Nat) : fx_Met l D dA lay y_FW_start (Cond.code y_FW_start c_FW_start 2 ((some .boolean)) :: fw_T) fx_rm wp_FW_start := by
  refine fx_met_of htr (by decide) rfl wc_FW_start fo_FW ?_ (fun _ _ h => by cases h) ?_ rfl (fun _ _ _ _ h => h) (by decide) (by decide) (by decide) (by decide)
  · intro idx n rc w h
    replace h : gc_FW_start idx = some (n, rc, w) := h
    unfold gc_FW_start at h
    split at h
    · cases h
      exact ⟨y_CO_hasMethod, c_CO_hasMethod, 2, (some .boolean), _, 1, ct_CO_hasMethod l D dA lay, rfl, rfl, by decide, by decide, wc_CO_hasMethod, fw_T_in (i := 423) (by decide +kernel) rfl, wi_CO, ⟨by decide, by decide, by decide⟩, ⟨wk_CO_hasMethod, wl_CO_hasMethod, rfl, _, _, rfl⟩⟩
    · cases h
      exact ⟨y_MA_begin, c_MA_begin, 4, none, _, 2, ct_MA_begin l D dA lay, rfl, rfl, by decide, by decide, wc_MA_begin, fw_T_in (i := 728) (by decide +kernel) rfl, wi_MA, ⟨by decide, by decide, by decide⟩, ⟨wk_MA_begin, wl_MA_begin, rfl, _, _, rfl⟩⟩
    · cases h
  · intro ik ic n h
    replace h : (if ik = 58 ∧ ic = 60 then some 2 else if ik = 72 ∧ ic = 74 then some 1 else none) = some n := h
    split at h
    · rename_i h9
      obtain ⟨rfl, rfl⟩ := h9
      cases h
      exact Or.inr ⟨rfl, rfl, rfl⟩
    split at h
    · rename_i h9
      obtain ⟨rfl, rfl⟩ := h9
      cases h
      exact Or.inl ⟨rfl, rfl, rfl⟩
    cases h
theorem tx_FW_run (l : Launch) (htr : l.stackTraces = false) (D : va_G) (dA : Nat → ClassId) (lay : Nat → Nat) : fx_Met l D dA lay y_FW_run (Cond.code y_FW_run c_FW_run 3 ((some .int)) :: fw_T) fx_rm wp_FW_run := by
  refine fx_met_of htr (by decide) rfl wc_FW_run fo_FW ?_ (fun _ _ h => by cases h) ?_ rfl (fun _ _ _ _ h => h) (by decide) (by decide) (by decide) (by decide)
  · intro idx n rc w h
    replace h : gc_FW_run idx = some (n, rc, w) := h
    unfold gc_FW_run at h
    split at h
    · cases h
      exact ⟨y_MA_isRunning, c_MA_isRunning, 1, (some .boolean), _, 0, ct_MA_isRunning l D dA lay, rfl, rfl, by decide, by decide, wc_MA_isRunning, fw_T_in (i := 751) (by decide +kernel) rfl, wi_MA, ⟨by decide, by decide, by decide⟩, ⟨wk_MA_isRunning, wl_MA_isRunning, rfl, _, _, rfl⟩⟩
    · cases h
      exact ⟨y_MA_step, c_MA_step, 1, none, _, 0, ct_MA_step l D dA lay, rfl, rfl, by decide, by decide, wc_MA_step, fw_T_in (i := 755) (by decide +kernel) rfl, wi_MA, ⟨by decide, by decide, by decide⟩, ⟨wk_MA_step, wl_MA_step, rfl, _, _, rfl⟩⟩
    · cases h
  · intro ik ic n h
    replace h : (if ik = 72 ∧ ic = 74 then some 1 else none) = some n := h
    split at h
    · rename_i h9
      obtain ⟨rfl, rfl⟩ := h9
      cases h
      exact Or.inl ⟨rfl, rfl, rfl⟩
    cases h

/-! what each method does (wp_), that it is monotone (mo_), its contract (ct_); written by wip/whole/gen/methods.py -/
def g_FR_firstStackCell : am_G := (gf_FR, (fun _ => none), (fun _ _ => none), (fun _ => none), none, fun _ _ _ _ => False)
def wp_FR_firstStackCell : am_Wp := am_wp c_FR_firstStackCell g_FR_firstStackCell 1 ((some .int))
theorem mo_FR_firstStackCell : am_Mo wp_FR_firstStackCell := am_wp_mono (fun idx n rc w h => by cases h)
theorem ct_FR_firstStackCell (l : Launch) (D : va_G) (dA : Nat → ClassId) (lay : Nat → Nat) : fw_Met l D dA lay y_FR_firstStackCell (Cond.code y_FR_firstStackCell c_FR_firstStackCell 1 ((some .int)) :: fw_T) { frames := 0, cells := 0, slots := 0, locals := 0 } wp_FR_firstStackCell := by
  exact fw_met_of (own := R_FR) (by decide) rfl fo_FR (fun idx n rc w h => by cases h) (fun _ _ h => by cases h) (fun _ _ => rfl) rfl (fun _ _ _ _ h => h)
def g_ME_end : am_G := (gf_ME, (fun _ => none), (fun _ _ => none), (fun _ => none), none, fun _ _ _ _ => False)
def wp_ME_end : am_Wp := am_wp c_ME_end g_ME_end 1 ((some .int))
theorem mo_ME_end : am_Mo wp_ME_end := am_wp_mono (fun idx n rc w h => by cases h)
theorem ct_ME_end (l : Launch) (D : va_G) (dA : Nat → ClassId) (lay : Nat → Nat) : fw_Met l D dA lay y_ME_end (Cond.code y_ME_end c_ME_end 1 ((some .int)) :: fw_T) { frames := 0, cells := 0, slots := 0, locals := 0 } wp_ME_end := by
  exact fw_met_of (own := R_ME) (by decide) rfl fo_ME (fun idx n rc w h => by cases h) (fun _ _ h => by cases h) (fun _ _ => rfl) rfl (fun _ _ _ _ h => h)
def g_ME_cellsNeeded : am_G := (gf_ME, (fun _ => none), (fun _ _ => none), (fun _ => none), none, fun _ _ _ _ => False)
def wp_ME_cellsNeeded : am_Wp := am_wp c_ME_cellsNeeded g_ME_cellsNeeded 1 ((some .int))
theorem mo_ME_cellsNeeded : am_Mo wp_ME_cellsNeeded := am_wp_mono (fun idx n rc w h => by cases h)
theorem ct_ME_cellsNeeded (l : Launch) (D : va_G) (dA : Nat → ClassId) (lay : Nat → Nat) : fw_Met l D dA lay y_ME_cellsNeeded (Cond.code y_ME_cellsNeeded c_ME_cellsNeeded 1 ((some .int)) :: fw_T) { frames := 0, cells := 0, slots := 0, locals := 0 } wp_ME_cellsNeeded := by
  exact fw_met_of (own := R_ME) (by decide) rfl fo_ME (fun idx n rc w h => by cases h) (fun _ _ h => by cases h) (fun _ _ => rfl) rfl (fun _ _ _ _ h => h)
def g_HA_covers : am_G := (gf_HA, (fun _ => none), (fun _ _ => none), (fun _ => none), none, fun _ _ _ _ => False)
def wp_HA_covers : am_Wp := am_wp c_HA_covers g_HA_covers 2 ((some .boolean))
theorem mo_HA_covers : am_Mo wp_HA_covers := am_wp_mono (fun idx n rc w h => by cases h)
theorem ct_HA_covers (l : Launch) (D : va_G) (dA : Nat → ClassId) (lay : Nat → Nat) : fw_Met l D dA lay y_HA_covers (Cond.code y_HA_covers c_HA_covers 2 ((some .boolean)) :: fw_T) { frames := 0, cells := 0, slots := 0, locals := 0 } wp_HA_covers := by
  exact fw_met_of (own := R_HA) (by decide) rfl fo_HA (fun idx n rc w h => by cases h) (fun _ _ h => by cases h) (fun _ _ => rfl) rfl (fun _ _ _ _ h => h)
def gc_ME_findTarget (idx : Nat) : Option (Nat × Option Nat × am_Wp) := match idx with
  | 37 => some (2, some 2, wp_HA_covers)
  | _ => none
def g_ME_findTarget : am_G := (gf_ME, gc_ME_findTarget, (fun _ _ => none), (fun _ => none), none, fun _ _ _ _ => False)
def wp_ME_findTarget : am_Wp := am_wp c_ME_findTarget g_ME_findTarget 5 ((some .int))
theorem mo_ME_findTarget : am_Mo wp_ME_findTarget := am_wp_mono (by
  intro idx n rc w h
  replace h : gc_ME_findTarget idx = some (n, rc, w) := h
  unfold gc_ME_findTarget at h
  split at h
  · cases h
    exact mo_HA_covers
  · cases h)
theorem ct_ME_findTarget (l : Launch) (D : va_G) (dA : Nat → ClassId) (lay : Nat → Nat) : fw_Met l D dA lay y_ME_findTarget (Cond.code y_ME_findTarget c_ME_findTarget 5 ((some .int)) :: fw_T) { frames := 1, cells := 0, slots := 0, locals := 27 } wp_ME_findTarget := by
  refine fw_met_of (own := R_ME) (by decide) rfl fo_ME ?_ (fun _ _ h => by cases h) (fun _ _ => rfl) rfl (fun _ _ _ _ h => h)
  intro idx n rc w h
  replace h : gc_ME_findTarget idx = some (n, rc, w) := h
  unfold gc_ME_findTarget at h
  split at h
  · cases h
    exact ⟨y_HA_covers, c_HA_covers, 2, (some .boolean), _, 1, ct_HA_covers l D dA lay, rfl, rfl, by decide, by decide, wc_HA_covers, fw_T_in (i := 777) (by decide +kernel) rfl, wi_HA, ⟨by decide, by decide, by decide⟩, ⟨wk_HA_covers, wl_HA_covers, rfl, _, _, rfl⟩⟩
  · cases h
def g_CO_byteAt : am_G := (gf_CO, (fun _ => none), (fun _ _ => none), (fun _ => none), none, fun _ _ _ _ => False)
def wp_CO_byteAt : am_Wp := am_wp c_CO_byteAt g_CO_byteAt 2 ((some .int))
theorem mo_CO_byteAt : am_Mo wp_CO_byteAt := am_wp_mono (fun idx n rc w h => by cases h)
theorem ct_CO_byteAt (l : Launch) (D : va_G) (dA : Nat → ClassId) (lay : Nat → Nat) : fw_Met l D dA lay y_CO_byteAt (Cond.code y_CO_byteAt c_CO_byteAt 2 ((some .int)) :: fw_T) { frames := 0, cells := 0, slots := 0, locals := 0 } wp_CO_byteAt := by
  exact fw_met_of (own := R_CO) (by decide) rfl fo_CO (fun idx n rc w h => by cases h) (fun _ _ h => by cases h) (fun _ _ => rfl) rfl (fun _ _ _ _ h => h)
def g_OP_isSmallPush : am_G := (gf_OP, (fun _ => none), (fun _ _ => none), (fun _ => none), none, fun _ _ _ _ => False)
def wp_OP_isSmallPush : am_Wp := am_wp c_OP_isSmallPush g_OP_isSmallPush 1 ((some .boolean))
theorem mo_OP_isSmallPush : am_Mo wp_OP_isSmallPush := am_wp_mono (fun idx n rc w h => by cases h)
theorem ct_OP_isSmallPush (l : Launch) (D : va_G) (dA : Nat → ClassId) (lay : Nat → Nat) : fw_Met l D dA lay y_OP_isSmallPush (Cond.code y_OP_isSmallPush c_OP_isSmallPush 1 ((some .boolean)) :: fw_T) { frames := 0, cells := 0, slots := 0, locals := 0 } wp_OP_isSmallPush := by
  exact fw_met_of (own := R_OP) (by decide) rfl fo_OP (fun idx n rc w h => by cases h) (fun _ _ h => by cases h) (fun _ _ => rfl) rfl (fun _ _ _ _ h => h)
def g_IN_keep : am_G := (gf_IN, (fun _ => none), (fun _ _ => none), (fun _ => none), none, fun _ _ _ _ => False)
def wp_IN_keep : am_Wp := am_wp c_IN_keep g_IN_keep 4 (none)
theorem mo_IN_keep : am_Mo wp_IN_keep := am_wp_mono (fun idx n rc w h => by cases h)
theorem ct_IN_keep (l : Launch) (D : va_G) (dA : Nat → ClassId) (lay : Nat → Nat) : fw_Met l D dA lay y_IN_keep (Cond.code y_IN_keep c_IN_keep 4 (none) :: fw_T) { frames := 0, cells := 0, slots := 0, locals := 0 } wp_IN_keep := by
  exact fw_met_of (own := R_IN) (by decide) rfl fo_IN (fun idx n rc w h => by cases h) (fun _ _ h => by cases h) (fun _ _ => rfl) rfl (fun _ _ _ _ h => h)
def gc_IN_readPush (idx : Nat) : Option (Nat × Option Nat × am_Wp) := match idx with
  | 29 => some (1, none, wp_OP_isSmallPush)
  | 33 => some (4, some 3, wp_IN_keep)
  | _ => none
def g_IN_readPush : am_G := (gf_IN, gc_IN_readPush, (fun _ _ => none), (fun _ => none), none, fun _ _ _ _ => False)
def wp_IN_readPush : am_Wp := am_wp c_IN_readPush g_IN_readPush 3 ((some .boolean))
theorem mo_IN_readPush : am_Mo wp_IN_readPush := am_wp_mono (by
  intro idx n rc w h
  replace h : gc_IN_readPush idx = some (n, rc, w) := h
  unfold gc_IN_readPush at h
  split at h
  · cases h
    exact mo_OP_isSmallPush
  · cases h
    exact mo_IN_keep
  · cases h)
theorem ct_IN_readPush (l : Launch) (D : va_G) (dA : Nat → ClassId) (lay : Nat → Nat) : fw_Met l D dA lay y_IN_readPush (Cond.code y_IN_readPush c_IN_readPush 3 ((some .boolean)) :: fw_T) { frames := 1, cells := 0, slots := 0, locals := 27 } wp_IN_readPush := by
  refine fw_met_of (own := R_IN) (by decide) rfl fo_IN ?_ (fun _ _ h => by cases h) (fun _ _ => rfl) rfl (fun _ _ _ _ h => h)
  intro idx n rc w h
  replace h : gc_IN_readPush idx = some (n, rc, w) := h
  unfold gc_IN_readPush at h
  split at h
  · cases h
    exact ⟨y_OP_isSmallPush, c_OP_isSmallPush, 1, (some .boolean), _, 1, ct_OP_isSmallPush l D dA lay, rfl, rfl, by decide, by decide, wc_OP_isSmallPush, fw_T_in (i := 578) (by decide +kernel) rfl, wi_OP, ⟨by decide, by decide, by decide⟩, ⟨wk_OP_isSmallPush, rfl⟩⟩
  · cases h
    exact ⟨y_IN_keep, c_IN_keep, 4, none, _, 3, ct_IN_keep l D dA lay, rfl, rfl, by decide, by decide, wc_IN_keep, fw_T_in (i := 581) (by decide +kernel) rfl, wi_IN, ⟨by decide, by decide, by decide⟩, ⟨wk_IN_keep, wl_IN_keep, rfl, _, _, rfl⟩⟩
  · cases h
def g_OP_isShort : am_G := (gf_OP, (fun _ => none), (fun _ _ => none), (fun _ => none), none, fun _ _ _ _ => False)
def wp_OP_isShort : am_Wp := am_wp c_OP_isShort g_OP_isShort 2 ((some .boolean))
theorem mo_OP_isShort : am_Mo wp_OP_isShort := am_wp_mono (fun idx n rc w h => by cases h)
theorem ct_OP_isShort (l : Launch) (D : va_G) (dA : Nat → ClassId) (lay : Nat → Nat) : fw_Met l D dA lay y_OP_isShort (Cond.code y_OP_isShort c_OP_isShort 2 ((some .boolean)) :: fw_T) { frames := 0, cells := 0, slots := 0, locals := 0 } wp_OP_isShort := by
  exact fw_met_of (own := R_OP) (by decide) rfl fo_OP (fun idx n rc w h => by cases h) (fun _ _ h => by cases h) (fun _ _ => rfl) rfl (fun _ _ _ _ h => h)
def gc_IN_readShort (idx : Nat) : Option (Nat × Option Nat × am_Wp) := match idx with
  | 33 => some (4, some 3, wp_IN_keep)
  | 36 => some (2, none, wp_OP_isShort)
  | _ => none
def g_IN_readShort : am_G := (gf_IN, gc_IN_readShort, (fun _ _ => none), (fun _ => none), none, fun _ _ _ _ => False)
def wp_IN_readShort : am_Wp := am_wp c_IN_readShort g_IN_readShort 4 ((some .boolean))
theorem mo_IN_readShort : am_Mo wp_IN_readShort := am_wp_mono (by
  intro idx n rc w h
  replace h : gc_IN_readShort idx = some (n, rc, w) := h
  unfold gc_IN_readShort at h
  split at h
  · cases h
    exact mo_IN_keep
  · cases h
    exact mo_OP_isShort
  · cases h)
theorem ct_IN_readShort (l : Launch) (D : va_G) (dA : Nat → ClassId) (lay : Nat → Nat) : fw_Met l D dA lay y_IN_readShort (Cond.code y_IN_readShort c_IN_readShort 4 ((some .boolean)) :: fw_T) { frames := 1, cells := 0, slots := 0, locals := 27 } wp_IN_readShort := by
  refine fw_met_of (own := R_IN) (by decide) rfl fo_IN ?_ (fun _ _ h => by cases h) (fun _ _ => rfl) rfl (fun _ _ _ _ h => h)
  intro idx n rc w h
  replace h : gc_IN_readShort idx = some (n, rc, w) := h
  unfold gc_IN_readShort at h
  split at h
  · cases h
    exact ⟨y_IN_keep, c_IN_keep, 4, none, _, 3, ct_IN_keep l D dA lay, rfl, rfl, by decide, by decide, wc_IN_keep, fw_T_in (i := 581) (by decide +kernel) rfl, wi_IN, ⟨by decide, by decide, by decide⟩, ⟨wk_IN_keep, wl_IN_keep, rfl, _, _, rfl⟩⟩
  · cases h
    exact ⟨y_OP_isShort, c_OP_isShort, 2, (some .boolean), _, 2, ct_OP_isShort l D dA lay, rfl, rfl, by decide, by decide, wc_OP_isShort, fw_T_in (i := 589) (by decide +kernel) rfl, wi_OP, ⟨by decide, by decide, by decide⟩, ⟨wk_OP_isShort, rfl⟩⟩
  · cases h
def g_OP_isJump : am_G := (gf_OP, (fun _ => none), (fun _ _ => none), (fun _ => none), none, fun _ _ _ _ => False)
def wp_OP_isJump : am_Wp := am_wp c_OP_isJump g_OP_isJump 1 ((some .boolean))
theorem mo_OP_isJump : am_Mo wp_OP_isJump := am_wp_mono (fun idx n rc w h => by cases h)
theorem ct_OP_isJump (l : Launch) (D : va_G) (dA : Nat → ClassId) (lay : Nat → Nat) : fw_Met l D dA lay y_OP_isJump (Cond.code y_OP_isJump c_OP_isJump 1 ((some .boolean)) :: fw_T) { frames := 0, cells := 0, slots := 0, locals := 0 } wp_OP_isJump := by
  exact fw_met_of (own := R_OP) (by decide) rfl fo_OP (fun idx n rc w h => by cases h) (fun _ _ h => by cases h) (fun _ _ => rfl) rfl (fun _ _ _ _ h => h)
def g_OP_isCalculation : am_G := (gf_OP, (fun _ => none), (fun _ _ => none), (fun _ => none), none, fun _ _ _ _ => False)
def wp_OP_isCalculation : am_Wp := am_wp c_OP_isCalculation g_OP_isCalculation 1 ((some .boolean))
theorem mo_OP_isCalculation : am_Mo wp_OP_isCalculation := am_wp_mono (fun idx n rc w h => by cases h)
theorem ct_OP_isCalculation (l : Launch) (D : va_G) (dA : Nat → ClassId) (lay : Nat → Nat) : fw_Met l D dA lay y_OP_isCalculation (Cond.code y_OP_isCalculation c_OP_isCalculation 1 ((some .boolean)) :: fw_T) { frames := 0, cells := 0, slots := 0, locals := 0 } wp_OP_isCalculation := by
  exact fw_met_of (own := R_OP) (by decide) rfl fo_OP (fun idx n rc w h => by cases h) (fun _ _ h => by cases h) (fun _ _ => rfl) rfl (fun _ _ _ _ h => h)
def gc_OP_sizeOf (idx : Nat) : Option (Nat × Option Nat × am_Wp) := match idx with
  | 9 => some (1, none, wp_OP_isJump)
  | 13 => some (1, none, wp_OP_isCalculation)
  | _ => none
def g_OP_sizeOf : am_G := (gf_OP, gc_OP_sizeOf, (fun _ _ => none), (fun _ => none), none, fun _ _ _ _ => False)
def wp_OP_sizeOf : am_Wp := am_wp c_OP_sizeOf g_OP_sizeOf 1 ((some .int))
theorem mo_OP_sizeOf : am_Mo wp_OP_sizeOf := am_wp_mono (by
  intro idx n rc w h
  replace h : gc_OP_sizeOf idx = some (n, rc, w) := h
  unfold gc_OP_sizeOf at h
  split at h
  · cases h
    exact mo_OP_isJump
  · cases h
    exact mo_OP_isCalculation
  · cases h)
theorem ct_OP_sizeOf (l : Launch) (D : va_G) (dA : Nat → ClassId) (lay : Nat → Nat) : fw_Met l D dA lay y_OP_sizeOf (Cond.code y_OP_sizeOf c_OP_sizeOf 1 ((some .int)) :: fw_T) { frames := 1, cells := 0, slots := 0, locals := 27 } wp_OP_sizeOf := by
  refine fw_met_of (own := R_OP) (by decide) rfl fo_OP ?_ (fun _ _ h => by cases h) (fun _ _ => rfl) rfl (fun _ _ _ _ h => h)
  intro idx n rc w h
  replace h : gc_OP_sizeOf idx = some (n, rc, w) := h
  unfold gc_OP_sizeOf at h
  split at h
  · cases h
    exact ⟨y_OP_isJump, c_OP_isJump, 1, (some .boolean), _, 1, ct_OP_isJump l D dA lay, rfl, rfl, by decide, by decide, wc_OP_isJump, fw_T_in (i := 599) (by decide +kernel) rfl, wi_OP, ⟨by decide, by decide, by decide⟩, ⟨wk_OP_isJump, rfl⟩⟩
  · cases h
    exact ⟨y_OP_isCalculation, c_OP_isCalculation, 1, (some .boolean), _, 1, ct_OP_isCalculation l D dA lay, rfl, rfl, by decide, by decide, wc_OP_isCalculation, fw_T_in (i := 602) (by decide +kernel) rfl, wi_OP, ⟨by decide, by decide, by decide⟩, ⟨wk_OP_isCalculation, rfl⟩⟩
  · cases h
def gc_IN_readLong (idx : Nat) : Option (Nat × Option Nat × am_Wp) := match idx with
  | 33 => some (4, some 3, wp_IN_keep)
  | 39 => some (1, none, wp_OP_sizeOf)
  | _ => none
def g_IN_readLong : am_G := (gf_IN, gc_IN_readLong, (fun _ _ => none), (fun _ => none), none, fun _ _ _ _ => False)
def wp_IN_readLong : am_Wp := am_wp c_IN_readLong g_IN_readLong 6 (none)
theorem mo_IN_readLong : am_Mo wp_IN_readLong := am_wp_mono (by
  intro idx n rc w h
  replace h : gc_IN_readLong idx = some (n, rc, w) := h
  unfold gc_IN_readLong at h
  split at h
  · cases h
    exact mo_IN_keep
  · cases h
    exact mo_OP_sizeOf
  · cases h)
theorem ct_IN_readLong (l : Launch) (D : va_G) (dA : Nat → ClassId) (lay : Nat → Nat) : fw_Met l D dA lay y_IN_readLong (Cond.code y_IN_readLong c_IN_readLong 6 (none) :: fw_T) { frames := 2, cells := 0, slots := 0, locals := 54 } wp_IN_readLong := by
  refine fw_met_of (own := R_IN) (by decide) rfl fo_IN ?_ (fun _ _ h => by cases h) (fun _ _ => rfl) rfl (fun _ _ _ _ h => h)
  intro idx n rc w h
  replace h : gc_IN_readLong idx = some (n, rc, w) := h
  unfold gc_IN_readLong at h
  split at h
  · cases h
    exact ⟨y_IN_keep, c_IN_keep, 4, none, _, 3, ct_IN_keep l D dA lay, rfl, rfl, by decide, by decide, wc_IN_keep, fw_T_in (i := 581) (by decide +kernel) rfl, wi_IN, ⟨by decide, by decide, by decide⟩, ⟨wk_IN_keep, wl_IN_keep, rfl, _, _, rfl⟩⟩
  · cases h
    exact ⟨y_OP_sizeOf, c_OP_sizeOf, 1, (some .int), _, 1, ct_OP_sizeOf l D dA lay, rfl, rfl, by decide, by decide, wc_OP_sizeOf, fw_T_in (i := 596) (by decide +kernel) rfl, wi_OP, ⟨by decide, by decide, by decide⟩, ⟨wk_OP_sizeOf, rfl⟩⟩
  · cases h
def gc_IN_read (idx : Nat) : Option (Nat × Option Nat × am_Wp) := match idx with
  | 7 => some (2, some 5, wp_CO_byteAt)
  | 13 => some (3, some 3, wp_IN_readPush)
  | 21 => some (4, some 3, wp_IN_readShort)
  | 25 => some (4, some 3, wp_IN_readLong)
  | _ => none
def g_IN_read : am_G := (gf_IN, gc_IN_read, (fun _ _ => none), (fun _ => none), none, fun _ _ _ _ => False)
def wp_IN_read : am_Wp := am_wp c_IN_read g_IN_read 5 (none)
theorem mo_IN_read : am_Mo wp_IN_read := am_wp_mono (by
  intro idx n rc w h
  replace h : gc_IN_read idx = some (n, rc, w) := h
  unfold gc_IN_read at h
  split at h
  · cases h
    exact mo_CO_byteAt
  · cases h
    exact mo_IN_readPush
  · cases h
    exact mo_IN_readShort
  · cases h
    exact mo_IN_readLong
  · cases h)
theorem ct_IN_read (l : Launch) (D : va_G) (dA : Nat → ClassId) (lay : Nat → Nat) : fw_Met l D dA lay y_IN_read (Cond.code y_IN_read c_IN_read 5 (none) :: fw_T) { frames := 3, cells := 0, slots := 0, locals := 81 } wp_IN_read := by
  refine fw_met_of (own := R_IN) (by decide) rfl fo_IN ?_ (fun _ _ h => by cases h) (fun _ _ => rfl) rfl (fun _ _ _ _ h => h)
  intro idx n rc w h
  replace h : gc_IN_read idx = some (n, rc, w) := h
  unfold gc_IN_read at h
  split at h
  · cases h
    exact ⟨y_CO_byteAt, c_CO_byteAt, 2, (some .int), _, 1, ct_CO_byteAt l D dA lay, rfl, rfl, by decide, by decide, wc_CO_byteAt, fw_T_in (i := 570) (by decide +kernel) rfl, wi_CO, ⟨by decide, by decide, by decide⟩, ⟨wk_CO_byteAt, wl_CO_byteAt, rfl, _, _, rfl⟩⟩
  · cases h
    exact ⟨y_IN_readPush, c_IN_readPush, 3, (some .boolean), _, 2, ct_IN_readPush l D dA lay, rfl, rfl, by decide, by decide, wc_IN_readPush, fw_T_in (i := 574) (by decide +kernel) rfl, wi_IN, ⟨by decide, by decide, by decide⟩, ⟨wk_IN_readPush, wl_IN_readPush, rfl, _, _, rfl⟩⟩
  · cases h
    exact ⟨y_IN_readShort, c_IN_readShort, 4, (some .boolean), _, 3, ct_IN_readShort l D dA lay, rfl, rfl, by decide, by decide, wc_IN_readShort, fw_T_in (i := 585) (by decide +kernel) rfl, wi_IN, ⟨by decide, by decide, by decide⟩, ⟨wk_IN_readShort, wl_IN_readShort, rfl, _, _, rfl⟩⟩
  · cases h
    exact ⟨y_IN_readLong, c_IN_readLong, 6, none, _, 3, ct_IN_readLong l D dA lay, rfl, rfl, by decide, by decide, wc_IN_readLong, fw_T_in (i := 592) (by decide +kernel) rfl, wi_IN, ⟨by decide, by decide, by decide⟩, ⟨wk_IN_readLong, wl_IN_readLong, rfl, _, _, rfl⟩⟩
  · cases h
def g_CO_addByte : am_G := (gf_CO, (fun _ => none), (fun _ _ => none), (fun _ => none), none, fun _ _ _ _ => False)
def wp_CO_addByte : am_Wp := am_wp c_CO_addByte g_CO_addByte 2 ((some .boolean))
theorem mo_CO_addByte : am_Mo wp_CO_addByte := am_wp_mono (fun idx n rc w h => by cases h)
theorem ct_CO_addByte (l : Launch) (D : va_G) (dA : Nat → ClassId) (lay : Nat → Nat) : fw_Met l D dA lay y_CO_addByte (Cond.code y_CO_addByte c_CO_addByte 2 ((some .boolean)) :: fw_T) { frames := 0, cells := 0, slots := 0, locals := 0 } wp_CO_addByte := by
  exact fw_met_of (own := R_CO) (by decide) rfl fo_CO (fun idx n rc w h => by cases h) (fun _ _ h => by cases h) (fun _ _ => rfl) rfl (fun _ _ _ _ h => h)
def gc_FW_feed (idx : Nat) : Option (Nat × Option Nat × am_Wp) := match idx with
  | 54 => some (2, some 5, wp_CO_addByte)
  | _ => none
def g_FW_feed : am_G := (gf_FW, gc_FW_feed, (fun ik ic => if ik = 58 ∧ ic = 60 then some 2 else none), (fun _ => none), none, fun _ _ _ _ => False)
def wp_FW_feed : am_Wp := am_wp c_FW_feed g_FW_feed 2 ((some .int))
theorem mo_FW_feed : am_Mo wp_FW_feed := am_wp_mono (by
  intro idx n rc w h
  replace h : gc_FW_feed idx = some (n, rc, w) := h
  unfold gc_FW_feed at h
  split at h
  · cases h
    exact mo_CO_addByte
  · cases h)
def g_FW_areMethodNumbers : am_G := (gf_FW, (fun _ => none), (fun _ _ => none), (fun _ => none), none, fun _ _ _ _ => False)
def wp_FW_areMethodNumbers : am_Wp := am_wp c_FW_areMethodNumbers g_FW_areMethodNumbers 3 ((some .boolean))
theorem mo_FW_areMethodNumbers : am_Mo wp_FW_areMethodNumbers := am_wp_mono (fun idx n rc w h => by cases h)
theorem ct_FW_areMethodNumbers (l : Launch) (D : va_G) (dA : Nat → ClassId) (lay : Nat → Nat) : fw_Met l D dA lay y_FW_areMethodNumbers (Cond.code y_FW_areMethodNumbers c_FW_areMethodNumbers 3 ((some .boolean)) :: fw_T) { frames := 0, cells := 0, slots := 0, locals := 0 } wp_FW_areMethodNumbers := by
  exact fw_met_of (own := R_FW) (by decide) rfl fo_FW (fun idx n rc w h => by cases h) (fun _ _ h => by cases h) (fun _ _ => rfl) rfl (fun _ _ _ _ h => h)
def gc_CO_methodsEnd (idx : Nat) : Option (Nat × Option Nat × am_Wp) := match idx with
  | 76 => some (1, some 1, wp_ME_end)
  | _ => none
def g_CO_methodsEnd : am_G := (gf_CO, gc_CO_methodsEnd, (fun _ _ => none), (fun _ => none), none, fun _ _ _ _ => False)
def wp_CO_methodsEnd : am_Wp := am_wp c_CO_methodsEnd g_CO_methodsEnd 1 ((some .int))
theorem mo_CO_methodsEnd : am_Mo wp_CO_methodsEnd := am_wp_mono (by
  intro idx n rc w h
  replace h : gc_CO_methodsEnd idx = some (n, rc, w) := h
  unfold gc_CO_methodsEnd at h
  split at h
  · cases h
    exact mo_ME_end
  · cases h)
theorem ct_CO_methodsEnd (l : Launch) (D : va_G) (dA : Nat → ClassId) (lay : Nat → Nat) : fw_Met l D dA lay y_CO_methodsEnd (Cond.code y_CO_methodsEnd c_CO_methodsEnd 1 ((some .int)) :: fw_T) { frames := 1, cells := 0, slots := 0, locals := 27 } wp_CO_methodsEnd := by
  refine fw_met_of (own := R_CO) (by decide) rfl fo_CO ?_ (fun _ _ h => by cases h) (fun _ _ => rfl) rfl (fun _ _ _ _ h => h)
  intro idx n rc w h
  replace h : gc_CO_methodsEnd idx = some (n, rc, w) := h
  unfold gc_CO_methodsEnd at h
  split at h
  · cases h
    exact ⟨y_ME_end, c_ME_end, 1, (some .int), _, 0, ct_ME_end l D dA lay, rfl, rfl, by decide, by decide, wc_ME_end, fw_T_in (i := 527) (by decide +kernel) rfl, wi_ME, ⟨by decide, by decide, by decide⟩, ⟨wk_ME_end, wl_ME_end, rfl, _, _, rfl⟩⟩
  · cases h
def gc_CO_bytesLeft (idx : Nat) : Option (Nat × Option Nat × am_Wp) := match idx with
  | 29 => some (1, some 5, wp_CO_methodsEnd)
  | _ => none
def g_CO_bytesLeft : am_G := (gf_CO, gc_CO_bytesLeft, (fun _ _ => none), (fun _ => none), none, fun _ _ _ _ => False)
def wp_CO_bytesLeft : am_Wp := am_wp c_CO_bytesLeft g_CO_bytesLeft 1 ((some .int))
theorem mo_CO_bytesLeft : am_Mo wp_CO_bytesLeft := am_wp_mono (by
  intro idx n rc w h
  replace h : gc_CO_bytesLeft idx = some (n, rc, w) := h
  unfold gc_CO_bytesLeft at h
  split at h
  · cases h
    exact mo_CO_methodsEnd
  · cases h)
theorem ct_CO_bytesLeft (l : Launch) (D : va_G) (dA : Nat → ClassId) (lay : Nat → Nat) : fw_Met l D dA lay y_CO_bytesLeft (Cond.code y_CO_bytesLeft c_CO_bytesLeft 1 ((some .int)) :: fw_T) { frames := 2, cells := 0, slots := 0, locals := 54 } wp_CO_bytesLeft := by
  refine fw_met_of (own := R_CO) (by decide) rfl fo_CO ?_ (fun _ _ h => by cases h) (fun _ _ => rfl) rfl (fun _ _ _ _ h => h)
  intro idx n rc w h
  replace h : gc_CO_bytesLeft idx = some (n, rc, w) := h
  unfold gc_CO_bytesLeft at h
  split at h
  · cases h
    exact ⟨y_CO_methodsEnd, c_CO_methodsEnd, 1, (some .int), _, 0, ct_CO_methodsEnd l D dA lay, rfl, rfl, by decide, by decide, wc_CO_methodsEnd, fw_T_in (i := 523) (by decide +kernel) rfl, wi_CO, ⟨by decide, by decide, by decide⟩, ⟨wk_CO_methodsEnd, wl_CO_methodsEnd, rfl, _, _, rfl⟩⟩
  · cases h
def gc_CO_addMethod (idx : Nat) : Option (Nat × Option Nat × am_Wp) := match idx with
  | 29 => some (1, some 5, wp_CO_methodsEnd)
  | _ => none
def g_CO_addMethod : am_G := (gf_CO, gc_CO_addMethod, (fun _ _ => none), (fun _ => none), none, fun _ _ _ _ => False)
def wp_CO_addMethod : am_Wp := am_wp c_CO_addMethod g_CO_addMethod 7 ((some .int))
theorem mo_CO_addMethod : am_Mo wp_CO_addMethod := am_wp_mono (by
  intro idx n rc w h
  replace h : gc_CO_addMethod idx = some (n, rc, w) := h
  unfold gc_CO_addMethod at h
  split at h
  · cases h
    exact mo_CO_methodsEnd
  · cases h)
theorem ct_CO_addMethod (l : Launch) (D : va_G) (dA : Nat → ClassId) (lay : Nat → Nat) : fw_Met l D dA lay y_CO_addMethod (Cond.code y_CO_addMethod c_CO_addMethod 7 ((some .int)) :: fw_T) { frames := 2, cells := 0, slots := 0, locals := 54 } wp_CO_addMethod := by
  refine fw_met_of (own := R_CO) (by decide) rfl fo_CO ?_ (fun _ _ h => by cases h) (fun _ _ => rfl) rfl (fun _ _ _ _ h => h)
  intro idx n rc w h
  replace h : gc_CO_addMethod idx = some (n, rc, w) := h
  unfold gc_CO_addMethod at h
  split at h
  · cases h
    exact ⟨y_CO_methodsEnd, c_CO_methodsEnd, 1, (some .int), _, 0, ct_CO_methodsEnd l D dA lay, rfl, rfl, by decide, by decide, wc_CO_methodsEnd, fw_T_in (i := 523) (by decide +kernel) rfl, wi_CO, ⟨by decide, by decide, by decide⟩, ⟨wk_CO_methodsEnd, wl_CO_methodsEnd, rfl, _, _, rfl⟩⟩
  · cases h
def gc_FW_method (idx : Nat) : Option (Nat × Option Nat × am_Wp) := match idx with
  | 64 => some (3, none, wp_FW_areMethodNumbers)
  | 68 => some (1, some 5, wp_CO_bytesLeft)
  | 78 => some (6, some 5, wp_CO_addMethod)
  | _ => none
def g_FW_method : am_G := (gf_FW, gc_FW_method, (fun ik ic => if ik = 58 ∧ ic = 60 then some 2 else if ik = 72 ∧ ic = 74 then some 1 else none), (fun _ => none), none, fun _ _ _ _ => False)
def wp_FW_method : am_Wp := am_wp c_FW_method g_FW_method 6 ((some .int))
theorem mo_FW_method : am_Mo wp_FW_method := am_wp_mono (by
  intro idx n rc w h
  replace h : gc_FW_method idx = some (n, rc, w) := h
  unfold gc_FW_method at h
  split at h
  · cases h
    exact mo_FW_areMethodNumbers
  · cases h
    exact mo_CO_bytesLeft
  · cases h
    exact mo_CO_addMethod
  · cases h)
def g_CO_addHandler : am_G := (gf_CO, (fun _ => none), (fun _ _ => none), (fun _ => none), none, fun _ _ _ _ => False)
def wp_CO_addHandler : am_Wp := am_wp c_CO_addHandler g_CO_addHandler 7 ((some .boolean))
theorem mo_CO_addHandler : am_Mo wp_CO_addHandler := am_wp_mono (fun idx n rc w h => by cases h)
theorem ct_CO_addHandler (l : Launch) (D : va_G) (dA : Nat → ClassId) (lay : Nat → Nat) : fw_Met l D dA lay y_CO_addHandler (Cond.code y_CO_addHandler c_CO_addHandler 7 ((some .boolean)) :: fw_T) { frames := 0, cells := 0, slots := 0, locals := 0 } wp_CO_addHandler := by
  exact fw_met_of (own := R_CO) (by decide) rfl fo_CO (fun idx n rc w h => by cases h) (fun _ _ h => by cases h) (fun _ _ => rfl) rfl (fun _ _ _ _ h => h)
def gc_FW_handler (idx : Nat) : Option (Nat × Option Nat × am_Wp) := match idx with
  | 82 => some (5, some 5, wp_CO_addHandler)
  | _ => none
def g_FW_handler : am_G := (gf_FW, gc_FW_handler, (fun _ _ => none), (fun _ => none), none, fun _ _ _ _ => False)
def wp_FW_handler : am_Wp := am_wp c_FW_handler g_FW_handler 5 ((some .boolean))
theorem mo_FW_handler : am_Mo wp_FW_handler := am_wp_mono (by
  intro idx n rc w h
  replace h : gc_FW_handler idx = some (n, rc, w) := h
  unfold gc_FW_handler at h
  split at h
  · cases h
    exact mo_CO_addHandler
  · cases h)
theorem ct_FW_handler (l : Launch) (D : va_G) (dA : Nat → ClassId) (lay : Nat → Nat) : fw_Met l D dA lay y_FW_handler (Cond.code y_FW_handler c_FW_handler 5 ((some .boolean)) :: fw_T) { frames := 1, cells := 0, slots := 0, locals := 27 } wp_FW_handler := by
  refine fw_met_of (own := R_FW) (by decide) rfl fo_FW ?_ (fun _ _ h => by cases h) (fun _ _ => rfl) rfl (fun _ _ _ _ h => h)
  intro idx n rc w h
  replace h : gc_FW_handler idx = some (n, rc, w) := h
  unfold gc_FW_handler at h
  split at h
  · cases h
    exact ⟨y_CO_addHandler, c_CO_addHandler, 7, (some .boolean), _, 4, ct_CO_addHandler l D dA lay, rfl, rfl, by decide, by decide, wc_CO_addHandler, fw_T_in (i := 331) (by decide +kernel) rfl, wi_CO, ⟨by decide, by decide, by decide⟩, ⟨wk_CO_addHandler, wl_CO_addHandler, rfl, _, _, rfl⟩⟩
  · cases h
def g_OP_usesLocal : am_G := (gf_OP, (fun _ => none), (fun _ _ => none), (fun _ => none), none, fun _ _ _ _ => False)
def wp_OP_usesLocal : am_Wp := am_wp c_OP_usesLocal g_OP_usesLocal 1 ((some .boolean))
theorem mo_OP_usesLocal : am_Mo wp_OP_usesLocal := am_wp_mono (fun idx n rc w h => by cases h)
theorem ct_OP_usesLocal (l : Launch) (D : va_G) (dA : Nat → ClassId) (lay : Nat → Nat) : fw_Met l D dA lay y_OP_usesLocal (Cond.code y_OP_usesLocal c_OP_usesLocal 1 ((some .boolean)) :: fw_T) { frames := 0, cells := 0, slots := 0, locals := 0 } wp_OP_usesLocal := by
  exact fw_met_of (own := R_OP) (by decide) rfl fo_OP (fun idx n rc w h => by cases h) (fun _ _ h => by cases h) (fun _ _ => rfl) rfl (fun _ _ _ _ h => h)
def g_CO_hasMethod : am_G := (gf_CO, (fun _ => none), (fun _ _ => none), (fun _ => none), none, fun _ _ _ _ => False)
def wp_CO_hasMethod : am_Wp := am_wp c_CO_hasMethod g_CO_hasMethod 2 ((some .boolean))
theorem mo_CO_hasMethod : am_Mo wp_CO_hasMethod := am_wp_mono (fun idx n rc w h => by cases h)
theorem ct_CO_hasMethod (l : Launch) (D : va_G) (dA : Nat → ClassId) (lay : Nat → Nat) : fw_Met l D dA lay y_CO_hasMethod (Cond.code y_CO_hasMethod c_CO_hasMethod 2 ((some .boolean)) :: fw_T) { frames := 0, cells := 0, slots := 0, locals := 0 } wp_CO_hasMethod := by
  exact fw_met_of (own := R_CO) (by decide) rfl fo_CO (fun idx n rc w h => by cases h) (fun _ _ h => by cases h) (fun _ _ => rfl) rfl (fun _ _ _ _ h => h)
def gc_SH_operandsHold (idx : Nat) : Option (Nat × Option Nat × am_Wp) := match idx with
  | 59 => some (1, none, wp_OP_usesLocal)
  | 73 => some (2, some 5, wp_CO_hasMethod)
  | _ => none
def g_SH_operandsHold : am_G := (gf_SH, gc_SH_operandsHold, (fun _ _ => none), (fun _ => none), none, fun _ _ _ _ => False)
def wp_SH_operandsHold : am_Wp := am_wp c_SH_operandsHold g_SH_operandsHold 2 ((some .boolean))
theorem mo_SH_operandsHold : am_Mo wp_SH_operandsHold := am_wp_mono (by
  intro idx n rc w h
  replace h : gc_SH_operandsHold idx = some (n, rc, w) := h
  unfold gc_SH_operandsHold at h
  split at h
  · cases h
    exact mo_OP_usesLocal
  · cases h
    exact mo_CO_hasMethod
  · cases h)
theorem ct_SH_operandsHold (l : Launch) (D : va_G) (dA : Nat → ClassId) (lay : Nat → Nat) : fw_Met l D dA lay y_SH_operandsHold (Cond.code y_SH_operandsHold c_SH_operandsHold 2 ((some .boolean)) :: fw_T) { frames := 1, cells := 0, slots := 0, locals := 27 } wp_SH_operandsHold := by
  refine fw_met_of (own := R_SH) (by decide) rfl fo_SH ?_ (fun _ _ h => by cases h) (fun _ _ => rfl) rfl (fun _ _ _ _ h => h)
  intro idx n rc w h
  replace h : gc_SH_operandsHold idx = some (n, rc, w) := h
  unfold gc_SH_operandsHold at h
  split at h
  · cases h
    exact ⟨y_OP_usesLocal, c_OP_usesLocal, 1, (some .boolean), _, 1, ct_OP_usesLocal l D dA lay, rfl, rfl, by decide, by decide, wc_OP_usesLocal, fw_T_in (i := 609) (by decide +kernel) rfl, wi_OP, ⟨by decide, by decide, by decide⟩, ⟨wk_OP_usesLocal, rfl⟩⟩
  · cases h
    exact ⟨y_CO_hasMethod, c_CO_hasMethod, 2, (some .boolean), _, 1, ct_CO_hasMethod l D dA lay, rfl, rfl, by decide, by decide, wc_CO_hasMethod, fw_T_in (i := 612) (by decide +kernel) rfl, wi_CO, ⟨by decide, by decide, by decide⟩, ⟨wk_CO_hasMethod, wl_CO_hasMethod, rfl, _, _, rfl⟩⟩
  · cases h
def gc_SH_findBeginnings (idx : Nat) : Option (Nat × Option Nat × am_Wp) := match idx with
  | 42 => some (1, some 1, wp_ME_end)
  | 46 => some (3, some 3, wp_IN_read)
  | 53 => some (2, some 6, wp_SH_operandsHold)
  | _ => none
def g_SH_findBeginnings : am_G := (gf_SH, gc_SH_findBeginnings, (fun _ _ => none), (fun _ => none), none, fun _ _ _ _ => False)
def wp_SH_findBeginnings : am_Wp := am_wp c_SH_findBeginnings g_SH_findBeginnings 4 ((some .boolean))
theorem mo_SH_findBeginnings : am_Mo wp_SH_findBeginnings := am_wp_mono (by
  intro idx n rc w h
  replace h : gc_SH_findBeginnings idx = some (n, rc, w) := h
  unfold gc_SH_findBeginnings at h
  split at h
  · cases h
    exact mo_ME_end
  · cases h
    exact mo_IN_read
  · cases h
    exact mo_SH_operandsHold
  · cases h)
theorem ct_SH_findBeginnings (l : Launch) (D : va_G) (dA : Nat → ClassId) (lay : Nat → Nat) : fw_Met l D dA lay y_SH_findBeginnings (Cond.code y_SH_findBeginnings c_SH_findBeginnings 4 ((some .boolean)) :: fw_T) { frames := 4, cells := 0, slots := 0, locals := 108 } wp_SH_findBeginnings := by
  refine fw_met_of (own := R_SH) (by decide) rfl fo_SH ?_ (fun _ _ h => by cases h) (fun _ _ => rfl) rfl (fun _ _ _ _ h => h)
  intro idx n rc w h
  replace h : gc_SH_findBeginnings idx = some (n, rc, w) := h
  unfold gc_SH_findBeginnings at h
  split at h
  · cases h
    exact ⟨y_ME_end, c_ME_end, 1, (some .int), _, 0, ct_ME_end l D dA lay, rfl, rfl, by decide, by decide, wc_ME_end, fw_T_in (i := 565) (by decide +kernel) rfl, wi_ME, ⟨by decide, by decide, by decide⟩, ⟨wk_ME_end, wl_ME_end, rfl, _, _, rfl⟩⟩
  · cases h
    exact ⟨y_IN_read, c_IN_read, 5, none, _, 2, ct_IN_read l D dA lay, rfl, rfl, by decide, by decide, wc_IN_read, fw_T_in (i := 566) (by decide +kernel) rfl, wi_IN, ⟨by decide, by decide, by decide⟩, ⟨wk_IN_read, wl_IN_read, rfl, _, _, rfl⟩⟩
  · cases h
    exact ⟨y_SH_operandsHold, c_SH_operandsHold, 2, (some .boolean), _, 1, ct_SH_operandsHold l D dA lay, rfl, rfl, by decide, by decide, wc_SH_operandsHold, fw_T_in (i := 605) (by decide +kernel) rfl, wi_SH, ⟨by decide, by decide, by decide⟩, ⟨wk_SH_operandsHold, wl_SH_operandsHold, rfl, _, _, rfl⟩⟩
  · cases h
def g_SH_isBeginning : am_G := (gf_SH, (fun _ => none), (fun _ _ => none), (fun _ => none), none, fun _ _ _ _ => False)
def wp_SH_isBeginning : am_Wp := am_wp c_SH_isBeginning g_SH_isBeginning 3 ((some .boolean))
theorem mo_SH_isBeginning : am_Mo wp_SH_isBeginning := am_wp_mono (fun idx n rc w h => by cases h)
theorem ct_SH_isBeginning (l : Launch) (D : va_G) (dA : Nat → ClassId) (lay : Nat → Nat) : fw_Met l D dA lay y_SH_isBeginning (Cond.code y_SH_isBeginning c_SH_isBeginning 3 ((some .boolean)) :: fw_T) { frames := 0, cells := 0, slots := 0, locals := 0 } wp_SH_isBeginning := by
  exact fw_met_of (own := R_SH) (by decide) rfl fo_SH (fun idx n rc w h => by cases h) (fun _ _ h => by cases h) (fun _ _ => rfl) rfl (fun _ _ _ _ h => h)
def gc_SH_jumpsHold (idx : Nat) : Option (Nat × Option Nat × am_Wp) := match idx with
  | 46 => some (3, some 3, wp_IN_read)
  | 79 => some (3, some 6, wp_SH_isBeginning)
  | 83 => some (1, none, wp_OP_isJump)
  | _ => none
def g_SH_jumpsHold : am_G := (gf_SH, gc_SH_jumpsHold, (fun _ _ => none), (fun _ => none), none, fun _ _ _ _ => False)
def wp_SH_jumpsHold : am_Wp := am_wp c_SH_jumpsHold g_SH_jumpsHold 3 ((some .boolean))
theorem mo_SH_jumpsHold : am_Mo wp_SH_jumpsHold := am_wp_mono (by
  intro idx n rc w h
  replace h : gc_SH_jumpsHold idx = some (n, rc, w) := h
  unfold gc_SH_jumpsHold at h
  split at h
  · cases h
    exact mo_IN_read
  · cases h
    exact mo_SH_isBeginning
  · cases h
    exact mo_OP_isJump
  · cases h)
theorem ct_SH_jumpsHold (l : Launch) (D : va_G) (dA : Nat → ClassId) (lay : Nat → Nat) : fw_Met l D dA lay y_SH_jumpsHold (Cond.code y_SH_jumpsHold c_SH_jumpsHold 3 ((some .boolean)) :: fw_T) { frames := 4, cells := 0, slots := 0, locals := 108 } wp_SH_jumpsHold := by
  refine fw_met_of (own := R_SH) (by decide) rfl fo_SH ?_ (fun _ _ h => by cases h) (fun _ _ => rfl) rfl (fun _ _ _ _ h => h)
  intro idx n rc w h
  replace h : gc_SH_jumpsHold idx = some (n, rc, w) := h
  unfold gc_SH_jumpsHold at h
  split at h
  · cases h
    exact ⟨y_IN_read, c_IN_read, 5, none, _, 2, ct_IN_read l D dA lay, rfl, rfl, by decide, by decide, wc_IN_read, fw_T_in (i := 566) (by decide +kernel) rfl, wi_IN, ⟨by decide, by decide, by decide⟩, ⟨wk_IN_read, wl_IN_read, rfl, _, _, rfl⟩⟩
  · cases h
    exact ⟨y_SH_isBeginning, c_SH_isBeginning, 3, (some .boolean), _, 2, ct_SH_isBeginning l D dA lay, rfl, rfl, by decide, by decide, wc_SH_isBeginning, fw_T_in (i := 617) (by decide +kernel) rfl, wi_SH, ⟨by decide, by decide, by decide⟩, ⟨wk_SH_isBeginning, wl_SH_isBeginning, rfl, _, _, rfl⟩⟩
  · cases h
    exact ⟨y_OP_isJump, c_OP_isJump, 1, (some .boolean), _, 1, ct_OP_isJump l D dA lay, rfl, rfl, by decide, by decide, wc_OP_isJump, fw_T_in (i := 621) (by decide +kernel) rfl, wi_OP, ⟨by decide, by decide, by decide⟩, ⟨wk_OP_isJump, rfl⟩⟩
  · cases h
def gc_SH_handlerHolds (idx : Nat) : Option (Nat × Option Nat × am_Wp) := match idx with
  | 79 => some (3, some 6, wp_SH_isBeginning)
  | _ => none
def g_SH_handlerHolds : am_G := (gf_SH, gc_SH_handlerHolds, (fun _ _ => none), (fun _ => none), none, fun _ _ _ _ => False)
def wp_SH_handlerHolds : am_Wp := am_wp c_SH_handlerHolds g_SH_handlerHolds 3 ((some .boolean))
theorem mo_SH_handlerHolds : am_Mo wp_SH_handlerHolds := am_wp_mono (by
  intro idx n rc w h
  replace h : gc_SH_handlerHolds idx = some (n, rc, w) := h
  unfold gc_SH_handlerHolds at h
  split at h
  · cases h
    exact mo_SH_isBeginning
  · cases h)
theorem ct_SH_handlerHolds (l : Launch) (D : va_G) (dA : Nat → ClassId) (lay : Nat → Nat) : fw_Met l D dA lay y_SH_handlerHolds (Cond.code y_SH_handlerHolds c_SH_handlerHolds 3 ((some .boolean)) :: fw_T) { frames := 1, cells := 0, slots := 0, locals := 27 } wp_SH_handlerHolds := by
  refine fw_met_of (own := R_SH) (by decide) rfl fo_SH ?_ (fun _ _ h => by cases h) (fun _ _ => rfl) rfl (fun _ _ _ _ h => h)
  intro idx n rc w h
  replace h : gc_SH_handlerHolds idx = some (n, rc, w) := h
  unfold gc_SH_handlerHolds at h
  split at h
  · cases h
    exact ⟨y_SH_isBeginning, c_SH_isBeginning, 3, (some .boolean), _, 2, ct_SH_isBeginning l D dA lay, rfl, rfl, by decide, by decide, wc_SH_isBeginning, fw_T_in (i := 617) (by decide +kernel) rfl, wi_SH, ⟨by decide, by decide, by decide⟩, ⟨wk_SH_isBeginning, wl_SH_isBeginning, rfl, _, _, rfl⟩⟩
  · cases h
def gc_SH_handlersHold (idx : Nat) : Option (Nat × Option Nat × am_Wp) := match idx with
  | 93 => some (3, some 6, wp_SH_handlerHolds)
  | _ => none
def g_SH_handlersHold : am_G := (gf_SH, gc_SH_handlersHold, (fun _ _ => none), (fun _ => none), none, fun _ _ _ _ => False)
def wp_SH_handlersHold : am_Wp := am_wp c_SH_handlersHold g_SH_handlersHold 3 ((some .boolean))
theorem mo_SH_handlersHold : am_Mo wp_SH_handlersHold := am_wp_mono (by
  intro idx n rc w h
  replace h : gc_SH_handlersHold idx = some (n, rc, w) := h
  unfold gc_SH_handlersHold at h
  split at h
  · cases h
    exact mo_SH_handlerHolds
  · cases h)
theorem ct_SH_handlersHold (l : Launch) (D : va_G) (dA : Nat → ClassId) (lay : Nat → Nat) : fw_Met l D dA lay y_SH_handlersHold (Cond.code y_SH_handlersHold c_SH_handlersHold 3 ((some .boolean)) :: fw_T) { frames := 2, cells := 0, slots := 0, locals := 54 } wp_SH_handlersHold := by
  refine fw_met_of (own := R_SH) (by decide) rfl fo_SH ?_ (fun _ _ h => by cases h) (fun _ _ => rfl) rfl (fun _ _ _ _ h => h)
  intro idx n rc w h
  replace h : gc_SH_handlersHold idx = some (n, rc, w) := h
  unfold gc_SH_handlersHold at h
  split at h
  · cases h
    exact ⟨y_SH_handlerHolds, c_SH_handlerHolds, 3, (some .boolean), _, 2, ct_SH_handlerHolds l D dA lay, rfl, rfl, by decide, by decide, wc_SH_handlerHolds, fw_T_in (i := 626) (by decide +kernel) rfl, wi_SH, ⟨by decide, by decide, by decide⟩, ⟨wk_SH_handlerHolds, wl_SH_handlerHolds, rfl, _, _, rfl⟩⟩
  · cases h
def gc_SH_holdsFor (idx : Nat) : Option (Nat × Option Nat × am_Wp) := match idx with
  | 26 => some (2, some 6, wp_SH_findBeginnings)
  | 30 => some (2, some 6, wp_SH_jumpsHold)
  | 33 => some (2, some 6, wp_SH_handlersHold)
  | _ => none
def g_SH_holdsFor : am_G := (gf_SH, gc_SH_holdsFor, (fun _ _ => none), (fun _ => none), none, fun _ _ _ _ => False)
def wp_SH_holdsFor : am_Wp := am_wp c_SH_holdsFor g_SH_holdsFor 2 ((some .boolean))
theorem mo_SH_holdsFor : am_Mo wp_SH_holdsFor := am_wp_mono (by
  intro idx n rc w h
  replace h : gc_SH_holdsFor idx = some (n, rc, w) := h
  unfold gc_SH_holdsFor at h
  split at h
  · cases h
    exact mo_SH_findBeginnings
  · cases h
    exact mo_SH_jumpsHold
  · cases h
    exact mo_SH_handlersHold
  · cases h)
theorem ct_SH_holdsFor (l : Launch) (D : va_G) (dA : Nat → ClassId) (lay : Nat → Nat) : fw_Met l D dA lay y_SH_holdsFor (Cond.code y_SH_holdsFor c_SH_holdsFor 2 ((some .boolean)) :: fw_T) { frames := 5, cells := 0, slots := 0, locals := 135 } wp_SH_holdsFor := by
  refine fw_met_of (own := R_SH) (by decide) rfl fo_SH ?_ (fun _ _ h => by cases h) (fun _ _ => rfl) rfl (fun _ _ _ _ h => h)
  intro idx n rc w h
  replace h : gc_SH_holdsFor idx = some (n, rc, w) := h
  unfold gc_SH_holdsFor at h
  split at h
  · cases h
    exact ⟨y_SH_findBeginnings, c_SH_findBeginnings, 4, (some .boolean), _, 1, ct_SH_findBeginnings l D dA lay, rfl, rfl, by decide, by decide, wc_SH_findBeginnings, fw_T_in (i := 561) (by decide +kernel) rfl, wi_SH, ⟨by decide, by decide, by decide⟩, ⟨wk_SH_findBeginnings, wl_SH_findBeginnings, rfl, _, _, rfl⟩⟩
  · cases h
    exact ⟨y_SH_jumpsHold, c_SH_jumpsHold, 3, (some .boolean), _, 1, ct_SH_jumpsHold l D dA lay, rfl, rfl, by decide, by decide, wc_SH_jumpsHold, fw_T_in (i := 613) (by decide +kernel) rfl, wi_SH, ⟨by decide, by decide, by decide⟩, ⟨wk_SH_jumpsHold, wl_SH_jumpsHold, rfl, _, _, rfl⟩⟩
  · cases h
    exact ⟨y_SH_handlersHold, c_SH_handlersHold, 3, (some .boolean), _, 1, ct_SH_handlersHold l D dA lay, rfl, rfl, by decide, by decide, wc_SH_handlersHold, fw_T_in (i := 622) (by decide +kernel) rfl, wi_SH, ⟨by decide, by decide, by decide⟩, ⟨wk_SH_handlersHold, wl_SH_handlersHold, rfl, _, _, rfl⟩⟩
  · cases h
def gc_FL_forgetStates (idx : Nat) : Option (Nat × Option Nat × am_Wp) := match idx with
  | 66 => some (1, some 1, wp_ME_end)
  | _ => none
def g_FL_forgetStates : am_G := (gf_FL, gc_FL_forgetStates, (fun _ _ => none), (fun _ => none), none, fun _ _ _ _ => False)
def wp_FL_forgetStates : am_Wp := am_wp c_FL_forgetStates g_FL_forgetStates 3 (none)
theorem mo_FL_forgetStates : am_Mo wp_FL_forgetStates := am_wp_mono (by
  intro idx n rc w h
  replace h : gc_FL_forgetStates idx = some (n, rc, w) := h
  unfold gc_FL_forgetStates at h
  split at h
  · cases h
    exact mo_ME_end
  · cases h)
theorem ct_FL_forgetStates (l : Launch) (D : va_G) (dA : Nat → ClassId) (lay : Nat → Nat) : fw_Met l D dA lay y_FL_forgetStates (Cond.code y_FL_forgetStates c_FL_forgetStates 3 (none) :: fw_T) { frames := 1, cells := 0, slots := 0, locals := 27 } wp_FL_forgetStates := by
  refine fw_met_of (own := R_FL) (by decide) rfl fo_FL ?_ (fun _ _ h => by cases h) (fun _ _ => rfl) rfl (fun _ _ _ _ h => h)
  intro idx n rc w h
  replace h : gc_FL_forgetStates idx = some (n, rc, w) := h
  unfold gc_FL_forgetStates at h
  split at h
  · cases h
    exact ⟨y_ME_end, c_ME_end, 1, (some .int), _, 0, ct_ME_end l D dA lay, rfl, rfl, by decide, by decide, wc_ME_end, fw_T_in (i := 638) (by decide +kernel) rfl, wi_ME, ⟨by decide, by decide, by decide⟩, ⟨wk_ME_end, wl_ME_end, rfl, _, _, rfl⟩⟩
  · cases h
def g_TY_with : am_G := (gf_TY, (fun _ => none), (fun _ _ => none), (fun _ => none), none, fun _ _ _ _ => False)
def wp_TY_with : am_Wp := am_wp c_TY_with g_TY_with 3 ((some .int))
theorem mo_TY_with : am_Mo wp_TY_with := am_wp_mono (fun idx n rc w h => by cases h)
theorem ct_TY_with (l : Launch) (D : va_G) (dA : Nat → ClassId) (lay : Nat → Nat) : fw_Met l D dA lay y_TY_with (Cond.code y_TY_with c_TY_with 3 ((some .int)) :: fw_T) { frames := 0, cells := 0, slots := 0, locals := 0 } wp_TY_with := by
  exact fw_met_of (own := R_TY) (by decide) rfl fo_TY (fun idx n rc w h => by cases h) (fun _ _ h => by cases h) (fun _ _ => rfl) rfl (fun _ _ _ _ h => h)
def gc_FL_argumentTypes (idx : Nat) : Option (Nat × Option Nat × am_Wp) := match idx with
  | 75 => some (3, none, wp_TY_with)
  | _ => none
def g_FL_argumentTypes : am_G := (gf_FL, gc_FL_argumentTypes, (fun _ _ => none), (fun _ => none), none, fun _ _ _ _ => False)
def wp_FL_argumentTypes : am_Wp := am_wp c_FL_argumentTypes g_FL_argumentTypes 3 ((some .int))
theorem mo_FL_argumentTypes : am_Mo wp_FL_argumentTypes := am_wp_mono (by
  intro idx n rc w h
  replace h : gc_FL_argumentTypes idx = some (n, rc, w) := h
  unfold gc_FL_argumentTypes at h
  split at h
  · cases h
    exact mo_TY_with
  · cases h)
theorem ct_FL_argumentTypes (l : Launch) (D : va_G) (dA : Nat → ClassId) (lay : Nat → Nat) : fw_Met l D dA lay y_FL_argumentTypes (Cond.code y_FL_argumentTypes c_FL_argumentTypes 3 ((some .int)) :: fw_T) { frames := 1, cells := 0, slots := 0, locals := 27 } wp_FL_argumentTypes := by
  refine fw_met_of (own := R_FL) (by decide) rfl fo_FL ?_ (fun _ _ h => by cases h) (fun _ _ => rfl) rfl (fun _ _ _ _ h => h)
  intro idx n rc w h
  replace h : gc_FL_argumentTypes idx = some (n, rc, w) := h
  unfold gc_FL_argumentTypes at h
  split at h
  · cases h
    exact ⟨y_TY_with, c_TY_with, 3, (some .int), _, 3, ct_TY_with l D dA lay, rfl, rfl, by decide, by decide, wc_TY_with, fw_T_in (i := 642) (by decide +kernel) rfl, wi_TY, ⟨by decide, by decide, by decide⟩, ⟨wk_TY_with, rfl⟩⟩
  · cases h
def g_FL_awaitVisit : am_G := (gf_FL, (fun _ => none), (fun _ _ => none), (fun _ => none), none, fun _ _ _ _ => False)
def wp_FL_awaitVisit : am_Wp := am_wp c_FL_awaitVisit g_FL_awaitVisit 4 (none)
theorem mo_FL_awaitVisit : am_Mo wp_FL_awaitVisit := am_wp_mono (fun idx n rc w h => by cases h)
theorem ct_FL_awaitVisit (l : Launch) (D : va_G) (dA : Nat → ClassId) (lay : Nat → Nat) : fw_Met l D dA lay y_FL_awaitVisit (Cond.code y_FL_awaitVisit c_FL_awaitVisit 4 (none) :: fw_T) { frames := 0, cells := 0, slots := 0, locals := 0 } wp_FL_awaitVisit := by
  exact fw_met_of (own := R_FL) (by decide) rfl fo_FL (fun idx n rc w h => by cases h) (fun _ _ h => by cases h) (fun _ _ => rfl) rfl (fun _ _ _ _ h => h)
def g_TY_common : am_G := (gf_TY, (fun _ => none), (fun _ _ => none), (fun _ => none), none, fun _ _ _ _ => False)
def wp_TY_common : am_Wp := am_wp c_TY_common g_TY_common 4 ((some .int))
theorem mo_TY_common : am_Mo wp_TY_common := am_wp_mono (fun idx n rc w h => by cases h)
theorem ct_TY_common (l : Launch) (D : va_G) (dA : Nat → ClassId) (lay : Nat → Nat) : fw_Met l D dA lay y_TY_common (Cond.code y_TY_common c_TY_common 4 ((some .int)) :: fw_T) { frames := 0, cells := 0, slots := 0, locals := 0 } wp_TY_common := by
  exact fw_met_of (own := R_TY) (by decide) rfl fo_TY (fun idx n rc w h => by cases h) (fun _ _ h => by cases h) (fun _ _ => rfl) rfl (fun _ _ _ _ h => h)
def gc_FL_comeTo (idx : Nat) : Option (Nat × Option Nat × am_Wp) := match idx with
  | 82 => some (3, some 7, wp_FL_awaitVisit)
  | 86 => some (2, none, wp_TY_common)
  | _ => none
def g_FL_comeTo : am_G := (gf_FL, gc_FL_comeTo, (fun _ _ => none), (fun _ => none), none, fun _ _ _ _ => False)
def wp_FL_comeTo : am_Wp := am_wp c_FL_comeTo g_FL_comeTo 8 ((some .boolean))
theorem mo_FL_comeTo : am_Mo wp_FL_comeTo := am_wp_mono (by
  intro idx n rc w h
  replace h : gc_FL_comeTo idx = some (n, rc, w) := h
  unfold gc_FL_comeTo at h
  split at h
  · cases h
    exact mo_FL_awaitVisit
  · cases h
    exact mo_TY_common
  · cases h)
theorem ct_FL_comeTo (l : Launch) (D : va_G) (dA : Nat → ClassId) (lay : Nat → Nat) : fw_Met l D dA lay y_FL_comeTo (Cond.code y_FL_comeTo c_FL_comeTo 8 ((some .boolean)) :: fw_T) { frames := 1, cells := 0, slots := 0, locals := 27 } wp_FL_comeTo := by
  refine fw_met_of (own := R_FL) (by decide) rfl fo_FL ?_ (fun _ _ h => by cases h) (fun _ _ => rfl) rfl (fun _ _ _ _ h => h)
  intro idx n rc w h
  replace h : gc_FL_comeTo idx = some (n, rc, w) := h
  unfold gc_FL_comeTo at h
  split at h
  · cases h
    exact ⟨y_FL_awaitVisit, c_FL_awaitVisit, 4, none, _, 2, ct_FL_awaitVisit l D dA lay, rfl, rfl, by decide, by decide, wc_FL_awaitVisit, fw_T_in (i := 649) (by decide +kernel) rfl, wi_FL, ⟨by decide, by decide, by decide⟩, ⟨wk_FL_awaitVisit, wl_FL_awaitVisit, rfl, _, _, rfl⟩⟩
  · cases h
    exact ⟨y_TY_common, c_TY_common, 4, (some .int), _, 2, ct_TY_common l D dA lay, rfl, rfl, by decide, by decide, wc_TY_common, fw_T_in (i := 653) (by decide +kernel) rfl, wi_TY, ⟨by decide, by decide, by decide⟩, ⟨wk_TY_common, rfl⟩⟩
  · cases h
def gc_FL_comeToHandlers (idx : Nat) : Option (Nat × Option Nat × am_Wp) := match idx with
  | 49 => some (6, some 7, wp_FL_comeTo)
  | 121 => some (2, some 2, wp_HA_covers)
  | _ => none
def g_FL_comeToHandlers : am_G := (gf_FL, gc_FL_comeToHandlers, (fun _ _ => none), (fun _ => none), none, fun _ _ _ _ => False)
def wp_FL_comeToHandlers : am_Wp := am_wp c_FL_comeToHandlers g_FL_comeToHandlers 5 ((some .boolean))
theorem mo_FL_comeToHandlers : am_Mo wp_FL_comeToHandlers := am_wp_mono (by
  intro idx n rc w h
  replace h : gc_FL_comeToHandlers idx = some (n, rc, w) := h
  unfold gc_FL_comeToHandlers at h
  split at h
  · cases h
    exact mo_FL_comeTo
  · cases h
    exact mo_HA_covers
  · cases h)
theorem ct_FL_comeToHandlers (l : Launch) (D : va_G) (dA : Nat → ClassId) (lay : Nat → Nat) : fw_Met l D dA lay y_FL_comeToHandlers (Cond.code y_FL_comeToHandlers c_FL_comeToHandlers 5 ((some .boolean)) :: fw_T) { frames := 2, cells := 0, slots := 0, locals := 54 } wp_FL_comeToHandlers := by
  refine fw_met_of (own := R_FL) (by decide) rfl fo_FL ?_ (fun _ _ h => by cases h) (fun _ _ => rfl) rfl (fun _ _ _ _ h => h)
  intro idx n rc w h
  replace h : gc_FL_comeToHandlers idx = some (n, rc, w) := h
  unfold gc_FL_comeToHandlers at h
  split at h
  · cases h
    exact ⟨y_FL_comeTo, c_FL_comeTo, 8, (some .boolean), _, 5, ct_FL_comeTo l D dA lay, rfl, rfl, by decide, by decide, wc_FL_comeTo, fw_T_in (i := 645) (by decide +kernel) rfl, wi_FL, ⟨by decide, by decide, by decide⟩, ⟨wk_FL_comeTo, wl_FL_comeTo, rfl, _, _, rfl⟩⟩
  · cases h
    exact ⟨y_HA_covers, c_HA_covers, 2, (some .boolean), _, 1, ct_HA_covers l D dA lay, rfl, rfl, by decide, by decide, wc_HA_covers, fw_T_in (i := 665) (by decide +kernel) rfl, wi_HA, ⟨by decide, by decide, by decide⟩, ⟨wk_HA_covers, wl_HA_covers, rfl, _, _, rfl⟩⟩
  · cases h
def g_TY_at : am_G := (gf_TY, (fun _ => none), (fun _ _ => none), (fun _ => none), none, fun _ _ _ _ => False)
def wp_TY_at : am_Wp := am_wp c_TY_at g_TY_at 2 ((some .int))
theorem mo_TY_at : am_Mo wp_TY_at := am_wp_mono (fun idx n rc w h => by cases h)
theorem ct_TY_at (l : Launch) (D : va_G) (dA : Nat → ClassId) (lay : Nat → Nat) : fw_Met l D dA lay y_TY_at (Cond.code y_TY_at c_TY_at 2 ((some .int)) :: fw_T) { frames := 0, cells := 0, slots := 0, locals := 0 } wp_TY_at := by
  exact fw_met_of (own := R_TY) (by decide) rfl fo_TY (fun idx n rc w h => by cases h) (fun _ _ h => by cases h) (fun _ _ => rfl) rfl (fun _ _ _ _ h => h)
def gc_FL_takeAny (idx : Nat) : Option (Nat × Option Nat × am_Wp) := match idx with
  | 75 => some (3, none, wp_TY_with)
  | 179 => some (2, none, wp_TY_at)
  | _ => none
def g_FL_takeAny : am_G := (gf_FL, gc_FL_takeAny, (fun _ _ => none), (fun _ => none), none, fun _ _ _ _ => False)
def wp_FL_takeAny : am_Wp := am_wp c_FL_takeAny g_FL_takeAny 2 ((some .int))
theorem mo_FL_takeAny : am_Mo wp_FL_takeAny := am_wp_mono (by
  intro idx n rc w h
  replace h : gc_FL_takeAny idx = some (n, rc, w) := h
  unfold gc_FL_takeAny at h
  split at h
  · cases h
    exact mo_TY_with
  · cases h
    exact mo_TY_at
  · cases h)
theorem ct_FL_takeAny (l : Launch) (D : va_G) (dA : Nat → ClassId) (lay : Nat → Nat) : fw_Met l D dA lay y_FL_takeAny (Cond.code y_FL_takeAny c_FL_takeAny 2 ((some .int)) :: fw_T) { frames := 1, cells := 0, slots := 0, locals := 27 } wp_FL_takeAny := by
  refine fw_met_of (own := R_FL) (by decide) rfl fo_FL ?_ (fun _ _ h => by cases h) (fun _ _ => rfl) rfl (fun _ _ _ _ h => h)
  intro idx n rc w h
  replace h : gc_FL_takeAny idx = some (n, rc, w) := h
  unfold gc_FL_takeAny at h
  split at h
  · cases h
    exact ⟨y_TY_with, c_TY_with, 3, (some .int), _, 3, ct_TY_with l D dA lay, rfl, rfl, by decide, by decide, wc_TY_with, fw_T_in (i := 642) (by decide +kernel) rfl, wi_TY, ⟨by decide, by decide, by decide⟩, ⟨wk_TY_with, rfl⟩⟩
  · cases h
    exact ⟨y_TY_at, c_TY_at, 2, (some .int), _, 2, ct_TY_at l D dA lay, rfl, rfl, by decide, by decide, wc_TY_at, fw_T_in (i := 431) (by decide +kernel) rfl, wi_TY, ⟨by decide, by decide, by decide⟩, ⟨wk_TY_at, rfl⟩⟩
  · cases h
def gc_FL_put (idx : Nat) : Option (Nat × Option Nat × am_Wp) := match idx with
  | 75 => some (3, none, wp_TY_with)
  | _ => none
def g_FL_put : am_G := (gf_FL, gc_FL_put, (fun _ _ => none), (fun _ => none), none, fun _ _ _ _ => False)
def wp_FL_put : am_Wp := am_wp c_FL_put g_FL_put 2 (none)
theorem mo_FL_put : am_Mo wp_FL_put := am_wp_mono (by
  intro idx n rc w h
  replace h : gc_FL_put idx = some (n, rc, w) := h
  unfold gc_FL_put at h
  split at h
  · cases h
    exact mo_TY_with
  · cases h)
theorem ct_FL_put (l : Launch) (D : va_G) (dA : Nat → ClassId) (lay : Nat → Nat) : fw_Met l D dA lay y_FL_put (Cond.code y_FL_put c_FL_put 2 (none) :: fw_T) { frames := 1, cells := 0, slots := 0, locals := 27 } wp_FL_put := by
  refine fw_met_of (own := R_FL) (by decide) rfl fo_FL ?_ (fun _ _ h => by cases h) (fun _ _ => rfl) rfl (fun _ _ _ _ h => h)
  intro idx n rc w h
  replace h : gc_FL_put idx = some (n, rc, w) := h
  unfold gc_FL_put at h
  split at h
  · cases h
    exact ⟨y_TY_with, c_TY_with, 3, (some .int), _, 3, ct_TY_with l D dA lay, rfl, rfl, by decide, by decide, wc_TY_with, fw_T_in (i := 642) (by decide +kernel) rfl, wi_TY, ⟨by decide, by decide, by decide⟩, ⟨wk_TY_with, rfl⟩⟩
  · cases h
def gc_FL_applyDup (idx : Nat) : Option (Nat × Option Nat × am_Wp) := match idx with
  | 144 => some (1, some 7, wp_FL_takeAny)
  | 164 => some (2, some 7, wp_FL_put)
  | _ => none
def g_FL_applyDup : am_G := (gf_FL, gc_FL_applyDup, (fun _ _ => none), (fun _ => none), none, fun _ _ _ _ => False)
def wp_FL_applyDup : am_Wp := am_wp c_FL_applyDup g_FL_applyDup 2 ((some .boolean))
theorem mo_FL_applyDup : am_Mo wp_FL_applyDup := am_wp_mono (by
  intro idx n rc w h
  replace h : gc_FL_applyDup idx = some (n, rc, w) := h
  unfold gc_FL_applyDup at h
  split at h
  · cases h
    exact mo_FL_takeAny
  · cases h
    exact mo_FL_put
  · cases h)
theorem ct_FL_applyDup (l : Launch) (D : va_G) (dA : Nat → ClassId) (lay : Nat → Nat) : fw_Met l D dA lay y_FL_applyDup (Cond.code y_FL_applyDup c_FL_applyDup 2 ((some .boolean)) :: fw_T) { frames := 2, cells := 0, slots := 0, locals := 54 } wp_FL_applyDup := by
  refine fw_met_of (own := R_FL) (by decide) rfl fo_FL ?_ (fun _ _ h => by cases h) (fun _ _ => rfl) rfl (fun _ _ _ _ h => h)
  intro idx n rc w h
  replace h : gc_FL_applyDup idx = some (n, rc, w) := h
  unfold gc_FL_applyDup at h
  split at h
  · cases h
    exact ⟨y_FL_takeAny, c_FL_takeAny, 2, (some .int), _, 0, ct_FL_takeAny l D dA lay, rfl, rfl, by decide, by decide, wc_FL_takeAny, fw_T_in (i := 673) (by decide +kernel) rfl, wi_FL, ⟨by decide, by decide, by decide⟩, ⟨wk_FL_takeAny, wl_FL_takeAny, rfl, _, _, rfl⟩⟩
  · cases h
    exact ⟨y_FL_put, c_FL_put, 2, none, _, 1, ct_FL_put l D dA lay, rfl, rfl, by decide, by decide, wc_FL_put, fw_T_in (i := 681) (by decide +kernel) rfl, wi_FL, ⟨by decide, by decide, by decide⟩, ⟨wk_FL_put, wl_FL_put, rfl, _, _, rfl⟩⟩
  · cases h
def gc_FL_applySwap (idx : Nat) : Option (Nat × Option Nat × am_Wp) := match idx with
  | 144 => some (1, some 7, wp_FL_takeAny)
  | 164 => some (2, some 7, wp_FL_put)
  | _ => none
def g_FL_applySwap : am_G := (gf_FL, gc_FL_applySwap, (fun _ _ => none), (fun _ => none), none, fun _ _ _ _ => False)
def wp_FL_applySwap : am_Wp := am_wp c_FL_applySwap g_FL_applySwap 3 ((some .boolean))
theorem mo_FL_applySwap : am_Mo wp_FL_applySwap := am_wp_mono (by
  intro idx n rc w h
  replace h : gc_FL_applySwap idx = some (n, rc, w) := h
  unfold gc_FL_applySwap at h
  split at h
  · cases h
    exact mo_FL_takeAny
  · cases h
    exact mo_FL_put
  · cases h)
theorem ct_FL_applySwap (l : Launch) (D : va_G) (dA : Nat → ClassId) (lay : Nat → Nat) : fw_Met l D dA lay y_FL_applySwap (Cond.code y_FL_applySwap c_FL_applySwap 3 ((some .boolean)) :: fw_T) { frames := 2, cells := 0, slots := 0, locals := 54 } wp_FL_applySwap := by
  refine fw_met_of (own := R_FL) (by decide) rfl fo_FL ?_ (fun _ _ h => by cases h) (fun _ _ => rfl) rfl (fun _ _ _ _ h => h)
  intro idx n rc w h
  replace h : gc_FL_applySwap idx = some (n, rc, w) := h
  unfold gc_FL_applySwap at h
  split at h
  · cases h
    exact ⟨y_FL_takeAny, c_FL_takeAny, 2, (some .int), _, 0, ct_FL_takeAny l D dA lay, rfl, rfl, by decide, by decide, wc_FL_takeAny, fw_T_in (i := 673) (by decide +kernel) rfl, wi_FL, ⟨by decide, by decide, by decide⟩, ⟨wk_FL_takeAny, wl_FL_takeAny, rfl, _, _, rfl⟩⟩
  · cases h
    exact ⟨y_FL_put, c_FL_put, 2, none, _, 1, ct_FL_put l D dA lay, rfl, rfl, by decide, by decide, wc_FL_put, fw_T_in (i := 681) (by decide +kernel) rfl, wi_FL, ⟨by decide, by decide, by decide⟩, ⟨wk_FL_put, wl_FL_put, rfl, _, _, rfl⟩⟩
  · cases h
def gc_FL_applyCall (idx : Nat) : Option (Nat × Option Nat × am_Wp) := match idx with
  | 144 => some (1, some 7, wp_FL_takeAny)
  | 164 => some (2, some 7, wp_FL_put)
  | 168 => some (2, some 5, wp_CO_hasMethod)
  | _ => none
def g_FL_applyCall : am_G := (gf_FL, gc_FL_applyCall, (fun _ _ => none), (fun _ => none), none, fun _ _ _ _ => False)
def wp_FL_applyCall : am_Wp := am_wp c_FL_applyCall g_FL_applyCall 3 ((some .boolean))
theorem mo_FL_applyCall : am_Mo wp_FL_applyCall := am_wp_mono (by
  intro idx n rc w h
  replace h : gc_FL_applyCall idx = some (n, rc, w) := h
  unfold gc_FL_applyCall at h
  split at h
  · cases h
    exact mo_FL_takeAny
  · cases h
    exact mo_FL_put
  · cases h
    exact mo_CO_hasMethod
  · cases h)
theorem ct_FL_applyCall (l : Launch) (D : va_G) (dA : Nat → ClassId) (lay : Nat → Nat) : fw_Met l D dA lay y_FL_applyCall (Cond.code y_FL_applyCall c_FL_applyCall 3 ((some .boolean)) :: fw_T) { frames := 2, cells := 0, slots := 0, locals := 54 } wp_FL_applyCall := by
  refine fw_met_of (own := R_FL) (by decide) rfl fo_FL ?_ (fun _ _ h => by cases h) (fun _ _ => rfl) rfl (fun _ _ _ _ h => h)
  intro idx n rc w h
  replace h : gc_FL_applyCall idx = some (n, rc, w) := h
  unfold gc_FL_applyCall at h
  split at h
  · cases h
    exact ⟨y_FL_takeAny, c_FL_takeAny, 2, (some .int), _, 0, ct_FL_takeAny l D dA lay, rfl, rfl, by decide, by decide, wc_FL_takeAny, fw_T_in (i := 673) (by decide +kernel) rfl, wi_FL, ⟨by decide, by decide, by decide⟩, ⟨wk_FL_takeAny, wl_FL_takeAny, rfl, _, _, rfl⟩⟩
  · cases h
    exact ⟨y_FL_put, c_FL_put, 2, none, _, 1, ct_FL_put l D dA lay, rfl, rfl, by decide, by decide, wc_FL_put, fw_T_in (i := 681) (by decide +kernel) rfl, wi_FL, ⟨by decide, by decide, by decide⟩, ⟨wk_FL_put, wl_FL_put, rfl, _, _, rfl⟩⟩
  · cases h
    exact ⟨y_CO_hasMethod, c_CO_hasMethod, 2, (some .boolean), _, 1, ct_CO_hasMethod l D dA lay, rfl, rfl, by decide, by decide, wc_CO_hasMethod, fw_T_in (i := 693) (by decide +kernel) rfl, wi_CO, ⟨by decide, by decide, by decide⟩, ⟨wk_CO_hasMethod, wl_CO_hasMethod, rfl, _, _, rfl⟩⟩
  · cases h
def g_TY_readFromLocal : am_G := (gf_TY, (fun _ => none), (fun _ _ => none), (fun _ => none), none, fun _ _ _ _ => False)
def wp_TY_readFromLocal : am_Wp := am_wp c_TY_readFromLocal g_TY_readFromLocal 1 ((some .int))
theorem mo_TY_readFromLocal : am_Mo wp_TY_readFromLocal := am_wp_mono (fun idx n rc w h => by cases h)
theorem ct_TY_readFromLocal (l : Launch) (D : va_G) (dA : Nat → ClassId) (lay : Nat → Nat) : fw_Met l D dA lay y_TY_readFromLocal (Cond.code y_TY_readFromLocal c_TY_readFromLocal 1 ((some .int)) :: fw_T) { frames := 0, cells := 0, slots := 0, locals := 0 } wp_TY_readFromLocal := by
  exact fw_met_of (own := R_TY) (by decide) rfl fo_TY (fun idx n rc w h => by cases h) (fun _ _ h => by cases h) (fun _ _ => rfl) rfl (fun _ _ _ _ h => h)
def gc_TY_taken (idx : Nat) : Option (Nat × Option Nat × am_Wp) := match idx with
  | 9 => some (1, none, wp_OP_isCalculation)
  | _ => none
def g_TY_taken : am_G := (gf_TY, gc_TY_taken, (fun _ _ => none), (fun _ => none), none, fun _ _ _ _ => False)
def wp_TY_taken : am_Wp := am_wp c_TY_taken g_TY_taken 1 ((some .int))
theorem mo_TY_taken : am_Mo wp_TY_taken := am_wp_mono (by
  intro idx n rc w h
  replace h : gc_TY_taken idx = some (n, rc, w) := h
  unfold gc_TY_taken at h
  split at h
  · cases h
    exact mo_OP_isCalculation
  · cases h)
theorem ct_TY_taken (l : Launch) (D : va_G) (dA : Nat → ClassId) (lay : Nat → Nat) : fw_Met l D dA lay y_TY_taken (Cond.code y_TY_taken c_TY_taken 1 ((some .int)) :: fw_T) { frames := 1, cells := 0, slots := 0, locals := 27 } wp_TY_taken := by
  refine fw_met_of (own := R_TY) (by decide) rfl fo_TY ?_ (fun _ _ h => by cases h) (fun _ _ => rfl) rfl (fun _ _ _ _ h => h)
  intro idx n rc w h
  replace h : gc_TY_taken idx = some (n, rc, w) := h
  unfold gc_TY_taken at h
  split at h
  · cases h
    exact ⟨y_OP_isCalculation, c_OP_isCalculation, 1, (some .boolean), _, 1, ct_OP_isCalculation l D dA lay, rfl, rfl, by decide, by decide, wc_OP_isCalculation, fw_T_in (i := 704) (by decide +kernel) rfl, wi_OP, ⟨by decide, by decide, by decide⟩, ⟨wk_OP_isCalculation, rfl⟩⟩
  · cases h
def g_TY_writtenToLocal : am_G := (gf_TY, (fun _ => none), (fun _ _ => none), (fun _ => none), none, fun _ _ _ _ => False)
def wp_TY_writtenToLocal : am_Wp := am_wp c_TY_writtenToLocal g_TY_writtenToLocal 1 ((some .int))
theorem mo_TY_writtenToLocal : am_Mo wp_TY_writtenToLocal := am_wp_mono (fun idx n rc w h => by cases h)
theorem ct_TY_writtenToLocal (l : Launch) (D : va_G) (dA : Nat → ClassId) (lay : Nat → Nat) : fw_Met l D dA lay y_TY_writtenToLocal (Cond.code y_TY_writtenToLocal c_TY_writtenToLocal 1 ((some .int)) :: fw_T) { frames := 0, cells := 0, slots := 0, locals := 0 } wp_TY_writtenToLocal := by
  exact fw_met_of (own := R_TY) (by decide) rfl fo_TY (fun idx n rc w h => by cases h) (fun _ _ h => by cases h) (fun _ _ => rfl) rfl (fun _ _ _ _ h => h)
def gc_TY_put (idx : Nat) : Option (Nat × Option Nat × am_Wp) := match idx with
  | 9 => some (1, none, wp_OP_isCalculation)
  | _ => none
def g_TY_put : am_G := (gf_TY, gc_TY_put, (fun _ _ => none), (fun _ => none), none, fun _ _ _ _ => False)
def wp_TY_put : am_Wp := am_wp c_TY_put g_TY_put 1 ((some .int))
theorem mo_TY_put : am_Mo wp_TY_put := am_wp_mono (by
  intro idx n rc w h
  replace h : gc_TY_put idx = some (n, rc, w) := h
  unfold gc_TY_put at h
  split at h
  · cases h
    exact mo_OP_isCalculation
  · cases h)
theorem ct_TY_put (l : Launch) (D : va_G) (dA : Nat → ClassId) (lay : Nat → Nat) : fw_Met l D dA lay y_TY_put (Cond.code y_TY_put c_TY_put 1 ((some .int)) :: fw_T) { frames := 1, cells := 0, slots := 0, locals := 27 } wp_TY_put := by
  refine fw_met_of (own := R_TY) (by decide) rfl fo_TY ?_ (fun _ _ h => by cases h) (fun _ _ => rfl) rfl (fun _ _ _ _ h => h)
  intro idx n rc w h
  replace h : gc_TY_put idx = some (n, rc, w) := h
  unfold gc_TY_put at h
  split at h
  · cases h
    exact ⟨y_OP_isCalculation, c_OP_isCalculation, 1, (some .boolean), _, 1, ct_OP_isCalculation l D dA lay, rfl, rfl, by decide, by decide, wc_OP_isCalculation, fw_T_in (i := 704) (by decide +kernel) rfl, wi_OP, ⟨by decide, by decide, by decide⟩, ⟨wk_OP_isCalculation, rfl⟩⟩
  · cases h
def gc_FL_applyPlain (idx : Nat) : Option (Nat × Option Nat × am_Wp) := match idx with
  | 75 => some (3, none, wp_TY_with)
  | 144 => some (1, some 7, wp_FL_takeAny)
  | 164 => some (2, some 7, wp_FL_put)
  | 175 => some (1, none, wp_TY_readFromLocal)
  | 179 => some (2, none, wp_TY_at)
  | 182 => some (1, none, wp_TY_taken)
  | 185 => some (1, none, wp_TY_writtenToLocal)
  | 188 => some (1, none, wp_TY_put)
  | _ => none
def g_FL_applyPlain : am_G := (gf_FL, gc_FL_applyPlain, (fun _ _ => none), (fun _ => none), none, fun _ _ _ _ => False)
def wp_FL_applyPlain : am_Wp := am_wp c_FL_applyPlain g_FL_applyPlain 5 ((some .boolean))
theorem mo_FL_applyPlain : am_Mo wp_FL_applyPlain := am_wp_mono (by
  intro idx n rc w h
  replace h : gc_FL_applyPlain idx = some (n, rc, w) := h
  unfold gc_FL_applyPlain at h
  split at h
  · cases h
    exact mo_TY_with
  · cases h
    exact mo_FL_takeAny
  · cases h
    exact mo_FL_put
  · cases h
    exact mo_TY_readFromLocal
  · cases h
    exact mo_TY_at
  · cases h
    exact mo_TY_taken
  · cases h
    exact mo_TY_writtenToLocal
  · cases h
    exact mo_TY_put
  · cases h)
theorem ct_FL_applyPlain (l : Launch) (D : va_G) (dA : Nat → ClassId) (lay : Nat → Nat) : fw_Met l D dA lay y_FL_applyPlain (Cond.code y_FL_applyPlain c_FL_applyPlain 5 ((some .boolean)) :: fw_T) { frames := 2, cells := 0, slots := 0, locals := 54 } wp_FL_applyPlain := by
  refine fw_met_of (own := R_FL) (by decide) rfl fo_FL ?_ (fun _ _ h => by cases h) (fun _ _ => rfl) rfl (fun _ _ _ _ h => h)
  intro idx n rc w h
  replace h : gc_FL_applyPlain idx = some (n, rc, w) := h
  unfold gc_FL_applyPlain at h
  split at h
  · cases h
    exact ⟨y_TY_with, c_TY_with, 3, (some .int), _, 3, ct_TY_with l D dA lay, rfl, rfl, by decide, by decide, wc_TY_with, fw_T_in (i := 642) (by decide +kernel) rfl, wi_TY, ⟨by decide, by decide, by decide⟩, ⟨wk_TY_with, rfl⟩⟩
  · cases h
    exact ⟨y_FL_takeAny, c_FL_takeAny, 2, (some .int), _, 0, ct_FL_takeAny l D dA lay, rfl, rfl, by decide, by decide, wc_FL_takeAny, fw_T_in (i := 673) (by decide +kernel) rfl, wi_FL, ⟨by decide, by decide, by decide⟩, ⟨wk_FL_takeAny, wl_FL_takeAny, rfl, _, _, rfl⟩⟩
  · cases h
    exact ⟨y_FL_put, c_FL_put, 2, none, _, 1, ct_FL_put l D dA lay, rfl, rfl, by decide, by decide, wc_FL_put, fw_T_in (i := 681) (by decide +kernel) rfl, wi_FL, ⟨by decide, by decide, by decide⟩, ⟨wk_FL_put, wl_FL_put, rfl, _, _, rfl⟩⟩
  · cases h
    exact ⟨y_TY_readFromLocal, c_TY_readFromLocal, 1, (some .int), _, 1, ct_TY_readFromLocal l D dA lay, rfl, rfl, by decide, by decide, wc_TY_readFromLocal, fw_T_in (i := 698) (by decide +kernel) rfl, wi_TY, ⟨by decide, by decide, by decide⟩, ⟨wk_TY_readFromLocal, rfl⟩⟩
  · cases h
    exact ⟨y_TY_at, c_TY_at, 2, (some .int), _, 2, ct_TY_at l D dA lay, rfl, rfl, by decide, by decide, wc_TY_at, fw_T_in (i := 431) (by decide +kernel) rfl, wi_TY, ⟨by decide, by decide, by decide⟩, ⟨wk_TY_at, rfl⟩⟩
  · cases h
    exact ⟨y_TY_taken, c_TY_taken, 1, (some .int), _, 1, ct_TY_taken l D dA lay, rfl, rfl, by decide, by decide, wc_TY_taken, fw_T_in (i := 701) (by decide +kernel) rfl, wi_TY, ⟨by decide, by decide, by decide⟩, ⟨wk_TY_taken, rfl⟩⟩
  · cases h
    exact ⟨y_TY_writtenToLocal, c_TY_writtenToLocal, 1, (some .int), _, 1, ct_TY_writtenToLocal l D dA lay, rfl, rfl, by decide, by decide, wc_TY_writtenToLocal, fw_T_in (i := 705) (by decide +kernel) rfl, wi_TY, ⟨by decide, by decide, by decide⟩, ⟨wk_TY_writtenToLocal, rfl⟩⟩
  · cases h
    exact ⟨y_TY_put, c_TY_put, 1, (some .int), _, 1, ct_TY_put l D dA lay, rfl, rfl, by decide, by decide, wc_TY_put, fw_T_in (i := 708) (by decide +kernel) rfl, wi_TY, ⟨by decide, by decide, by decide⟩, ⟨wk_TY_put, rfl⟩⟩
  · cases h
def gc_FL_applyInstruction (idx : Nat) : Option (Nat × Option Nat × am_Wp) := match idx with
  | 144 => some (1, some 7, wp_FL_takeAny)
  | 147 => some (1, some 7, wp_FL_applyDup)
  | 151 => some (1, some 7, wp_FL_applySwap)
  | 154 => some (1, some 7, wp_FL_applyCall)
  | 161 => some (1, some 7, wp_FL_applyPlain)
  | _ => none
def g_FL_applyInstruction : am_G := (gf_FL, gc_FL_applyInstruction, (fun _ _ => none), (fun _ => none), none, fun _ _ _ _ => False)
def wp_FL_applyInstruction : am_Wp := am_wp c_FL_applyInstruction g_FL_applyInstruction 2 ((some .boolean))
theorem mo_FL_applyInstruction : am_Mo wp_FL_applyInstruction := am_wp_mono (by
  intro idx n rc w h
  replace h : gc_FL_applyInstruction idx = some (n, rc, w) := h
  unfold gc_FL_applyInstruction at h
  split at h
  · cases h
    exact mo_FL_takeAny
  · cases h
    exact mo_FL_applyDup
  · cases h
    exact mo_FL_applySwap
  · cases h
    exact mo_FL_applyCall
  · cases h
    exact mo_FL_applyPlain
  · cases h)
theorem ct_FL_applyInstruction (l : Launch) (D : va_G) (dA : Nat → ClassId) (lay : Nat → Nat) : fw_Met l D dA lay y_FL_applyInstruction (Cond.code y_FL_applyInstruction c_FL_applyInstruction 2 ((some .boolean)) :: fw_T) { frames := 3, cells := 0, slots := 0, locals := 81 } wp_FL_applyInstruction := by
  refine fw_met_of (own := R_FL) (by decide) rfl fo_FL ?_ (fun _ _ h => by cases h) (fun _ _ => rfl) rfl (fun _ _ _ _ h => h)
  intro idx n rc w h
  replace h : gc_FL_applyInstruction idx = some (n, rc, w) := h
  unfold gc_FL_applyInstruction at h
  split at h
  · cases h
    exact ⟨y_FL_takeAny, c_FL_takeAny, 2, (some .int), _, 0, ct_FL_takeAny l D dA lay, rfl, rfl, by decide, by decide, wc_FL_takeAny, fw_T_in (i := 673) (by decide +kernel) rfl, wi_FL, ⟨by decide, by decide, by decide⟩, ⟨wk_FL_takeAny, wl_FL_takeAny, rfl, _, _, rfl⟩⟩
  · cases h
    exact ⟨y_FL_applyDup, c_FL_applyDup, 2, (some .boolean), _, 0, ct_FL_applyDup l D dA lay, rfl, rfl, by decide, by decide, wc_FL_applyDup, fw_T_in (i := 677) (by decide +kernel) rfl, wi_FL, ⟨by decide, by decide, by decide⟩, ⟨wk_FL_applyDup, wl_FL_applyDup, rfl, _, _, rfl⟩⟩
  · cases h
    exact ⟨y_FL_applySwap, c_FL_applySwap, 3, (some .boolean), _, 0, ct_FL_applySwap l D dA lay, rfl, rfl, by decide, by decide, wc_FL_applySwap, fw_T_in (i := 685) (by decide +kernel) rfl, wi_FL, ⟨by decide, by decide, by decide⟩, ⟨wk_FL_applySwap, wl_FL_applySwap, rfl, _, _, rfl⟩⟩
  · cases h
    exact ⟨y_FL_applyCall, c_FL_applyCall, 3, (some .boolean), _, 0, ct_FL_applyCall l D dA lay, rfl, rfl, by decide, by decide, wc_FL_applyCall, fw_T_in (i := 689) (by decide +kernel) rfl, wi_FL, ⟨by decide, by decide, by decide⟩, ⟨wk_FL_applyCall, wl_FL_applyCall, rfl, _, _, rfl⟩⟩
  · cases h
    exact ⟨y_FL_applyPlain, c_FL_applyPlain, 5, (some .boolean), _, 0, ct_FL_applyPlain l D dA lay, rfl, rfl, by decide, by decide, wc_FL_applyPlain, fw_T_in (i := 694) (by decide +kernel) rfl, wi_FL, ⟨by decide, by decide, by decide⟩, ⟨wk_FL_applyPlain, wl_FL_applyPlain, rfl, _, _, rfl⟩⟩
  · cases h
def gc_FL_comeToFollowers (idx : Nat) : Option (Nat × Option Nat × am_Wp) := match idx with
  | 49 => some (6, some 7, wp_FL_comeTo)
  | 135 => some (1, none, wp_OP_isJump)
  | _ => none
def g_FL_comeToFollowers : am_G := (gf_FL, gc_FL_comeToFollowers, (fun _ _ => none), (fun _ => none), none, fun _ _ _ _ => False)
def wp_FL_comeToFollowers : am_Wp := am_wp c_FL_comeToFollowers g_FL_comeToFollowers 4 ((some .boolean))
theorem mo_FL_comeToFollowers : am_Mo wp_FL_comeToFollowers := am_wp_mono (by
  intro idx n rc w h
  replace h : gc_FL_comeToFollowers idx = some (n, rc, w) := h
  unfold gc_FL_comeToFollowers at h
  split at h
  · cases h
    exact mo_FL_comeTo
  · cases h
    exact mo_OP_isJump
  · cases h)
theorem ct_FL_comeToFollowers (l : Launch) (D : va_G) (dA : Nat → ClassId) (lay : Nat → Nat) : fw_Met l D dA lay y_FL_comeToFollowers (Cond.code y_FL_comeToFollowers c_FL_comeToFollowers 4 ((some .boolean)) :: fw_T) { frames := 2, cells := 0, slots := 0, locals := 54 } wp_FL_comeToFollowers := by
  refine fw_met_of (own := R_FL) (by decide) rfl fo_FL ?_ (fun _ _ h => by cases h) (fun _ _ => rfl) rfl (fun _ _ _ _ h => h)
  intro idx n rc w h
  replace h : gc_FL_comeToFollowers idx = some (n, rc, w) := h
  unfold gc_FL_comeToFollowers at h
  split at h
  · cases h
    exact ⟨y_FL_comeTo, c_FL_comeTo, 8, (some .boolean), _, 5, ct_FL_comeTo l D dA lay, rfl, rfl, by decide, by decide, wc_FL_comeTo, fw_T_in (i := 645) (by decide +kernel) rfl, wi_FL, ⟨by decide, by decide, by decide⟩, ⟨wk_FL_comeTo, wl_FL_comeTo, rfl, _, _, rfl⟩⟩
  · cases h
    exact ⟨y_OP_isJump, c_OP_isJump, 1, (some .boolean), _, 1, ct_OP_isJump l D dA lay, rfl, rfl, by decide, by decide, wc_OP_isJump, fw_T_in (i := 715) (by decide +kernel) rfl, wi_OP, ⟨by decide, by decide, by decide⟩, ⟨wk_OP_isJump, rfl⟩⟩
  · cases h
def gc_FL_visit (idx : Nat) : Option (Nat × Option Nat × am_Wp) := match idx with
  | 99 => some (3, some 3, wp_IN_read)
  | 103 => some (3, some 7, wp_FL_comeToHandlers)
  | 106 => some (2, some 7, wp_FL_applyInstruction)
  | 111 => some (3, some 7, wp_FL_comeToFollowers)
  | _ => none
def g_FL_visit : am_G := (gf_FL, gc_FL_visit, (fun _ _ => none), (fun _ => none), none, fun _ _ _ _ => False)
def wp_FL_visit : am_Wp := am_wp c_FL_visit g_FL_visit 4 ((some .boolean))
theorem mo_FL_visit : am_Mo wp_FL_visit := am_wp_mono (by
  intro idx n rc w h
  replace h : gc_FL_visit idx = some (n, rc, w) := h
  unfold gc_FL_visit at h
  split at h
  · cases h
    exact mo_IN_read
  · cases h
    exact mo_FL_comeToHandlers
  · cases h
    exact mo_FL_applyInstruction
  · cases h
    exact mo_FL_comeToFollowers
  · cases h)
theorem ct_FL_visit (l : Launch) (D : va_G) (dA : Nat → ClassId) (lay : Nat → Nat) : fw_Met l D dA lay y_FL_visit (Cond.code y_FL_visit c_FL_visit 4 ((some .boolean)) :: fw_T) { frames := 4, cells := 0, slots := 0, locals := 108 } wp_FL_visit := by
  refine fw_met_of (own := R_FL) (by decide) rfl fo_FL ?_ (fun _ _ h => by cases h) (fun _ _ => rfl) rfl (fun _ _ _ _ h => h)
  intro idx n rc w h
  replace h : gc_FL_visit idx = some (n, rc, w) := h
  unfold gc_FL_visit at h
  split at h
  · cases h
    exact ⟨y_IN_read, c_IN_read, 5, none, _, 2, ct_IN_read l D dA lay, rfl, rfl, by decide, by decide, wc_IN_read, fw_T_in (i := 660) (by decide +kernel) rfl, wi_IN, ⟨by decide, by decide, by decide⟩, ⟨wk_IN_read, wl_IN_read, rfl, _, _, rfl⟩⟩
  · cases h
    exact ⟨y_FL_comeToHandlers, c_FL_comeToHandlers, 5, (some .boolean), _, 2, ct_FL_comeToHandlers l D dA lay, rfl, rfl, by decide, by decide, wc_FL_comeToHandlers, fw_T_in (i := 661) (by decide +kernel) rfl, wi_FL, ⟨by decide, by decide, by decide⟩, ⟨wk_FL_comeToHandlers, wl_FL_comeToHandlers, rfl, _, _, rfl⟩⟩
  · cases h
    exact ⟨y_FL_applyInstruction, c_FL_applyInstruction, 2, (some .boolean), _, 1, ct_FL_applyInstruction l D dA lay, rfl, rfl, by decide, by decide, wc_FL_applyInstruction, fw_T_in (i := 669) (by decide +kernel) rfl, wi_FL, ⟨by decide, by decide, by decide⟩, ⟨wk_FL_applyInstruction, wl_FL_applyInstruction, rfl, _, _, rfl⟩⟩
  · cases h
    exact ⟨y_FL_comeToFollowers, c_FL_comeToFollowers, 4, (some .boolean), _, 2, ct_FL_comeToFollowers l D dA lay, rfl, rfl, by decide, by decide, wc_FL_comeToFollowers, fw_T_in (i := 711) (by decide +kernel) rfl, wi_FL, ⟨by decide, by decide, by decide⟩, ⟨wk_FL_comeToFollowers, wl_FL_comeToFollowers, rfl, _, _, rfl⟩⟩
  · cases h
def gc_FL_holdsFor (idx : Nat) : Option (Nat × Option Nat × am_Wp) := match idx with
  | 41 => some (2, some 7, wp_FL_forgetStates)
  | 45 => some (1, none, wp_FL_argumentTypes)
  | 49 => some (6, some 7, wp_FL_comeTo)
  | 62 => some (3, some 7, wp_FL_visit)
  | _ => none
def g_FL_holdsFor : am_G := (gf_FL, gc_FL_holdsFor, (fun _ _ => none), (fun _ => none), none, fun _ _ _ _ => False)
def wp_FL_holdsFor : am_Wp := am_wp c_FL_holdsFor g_FL_holdsFor 4 ((some .boolean))
theorem mo_FL_holdsFor : am_Mo wp_FL_holdsFor := am_wp_mono (by
  intro idx n rc w h
  replace h : gc_FL_holdsFor idx = some (n, rc, w) := h
  unfold gc_FL_holdsFor at h
  split at h
  · cases h
    exact mo_FL_forgetStates
  · cases h
    exact mo_FL_argumentTypes
  · cases h
    exact mo_FL_comeTo
  · cases h
    exact mo_FL_visit
  · cases h)
theorem ct_FL_holdsFor (l : Launch) (D : va_G) (dA : Nat → ClassId) (lay : Nat → Nat) : fw_Met l D dA lay y_FL_holdsFor (Cond.code y_FL_holdsFor c_FL_holdsFor 4 ((some .boolean)) :: fw_T) { frames := 5, cells := 0, slots := 0, locals := 135 } wp_FL_holdsFor := by
  refine fw_met_of (own := R_FL) (by decide) rfl fo_FL ?_ (fun _ _ h => by cases h) (fun _ _ => rfl) rfl (fun _ _ _ _ h => h)
  intro idx n rc w h
  replace h : gc_FL_holdsFor idx = some (n, rc, w) := h
  unfold gc_FL_holdsFor at h
  split at h
  · cases h
    exact ⟨y_FL_forgetStates, c_FL_forgetStates, 3, none, _, 1, ct_FL_forgetStates l D dA lay, rfl, rfl, by decide, by decide, wc_FL_forgetStates, fw_T_in (i := 634) (by decide +kernel) rfl, wi_FL, ⟨by decide, by decide, by decide⟩, ⟨wk_FL_forgetStates, wl_FL_forgetStates, rfl, _, _, rfl⟩⟩
  · cases h
    exact ⟨y_FL_argumentTypes, c_FL_argumentTypes, 3, (some .int), _, 1, ct_FL_argumentTypes l D dA lay, rfl, rfl, by decide, by decide, wc_FL_argumentTypes, fw_T_in (i := 639) (by decide +kernel) rfl, wi_FL, ⟨by decide, by decide, by decide⟩, ⟨wk_FL_argumentTypes, rfl⟩⟩
  · cases h
    exact ⟨y_FL_comeTo, c_FL_comeTo, 8, (some .boolean), _, 5, ct_FL_comeTo l D dA lay, rfl, rfl, by decide, by decide, wc_FL_comeTo, fw_T_in (i := 645) (by decide +kernel) rfl, wi_FL, ⟨by decide, by decide, by decide⟩, ⟨wk_FL_comeTo, wl_FL_comeTo, rfl, _, _, rfl⟩⟩
  · cases h
    exact ⟨y_FL_visit, c_FL_visit, 4, (some .boolean), _, 2, ct_FL_visit l D dA lay, rfl, rfl, by decide, by decide, wc_FL_visit, fw_T_in (i := 656) (by decide +kernel) rfl, wi_FL, ⟨by decide, by decide, by decide⟩, ⟨wk_FL_visit, wl_FL_visit, rfl, _, _, rfl⟩⟩
  · cases h
def gc_FL_countStates (idx : Nat) : Option (Nat × Option Nat × am_Wp) := match idx with
  | 190 => some (1, some 5, wp_CO_methodsEnd)
  | _ => none
def g_FL_countStates : am_G := (gf_FL, gc_FL_countStates, (fun _ _ => none), (fun _ => none), none, fun _ _ _ _ => False)
def wp_FL_countStates : am_Wp := am_wp c_FL_countStates g_FL_countStates 3 ((some .int))
theorem mo_FL_countStates : am_Mo wp_FL_countStates := am_wp_mono (by
  intro idx n rc w h
  replace h : gc_FL_countStates idx = some (n, rc, w) := h
  unfold gc_FL_countStates at h
  split at h
  · cases h
    exact mo_CO_methodsEnd
  · cases h)
theorem ct_FL_countStates (l : Launch) (D : va_G) (dA : Nat → ClassId) (lay : Nat → Nat) : fw_Met l D dA lay y_FL_countStates (Cond.code y_FL_countStates c_FL_countStates 3 ((some .int)) :: fw_T) { frames := 2, cells := 0, slots := 0, locals := 54 } wp_FL_countStates := by
  refine fw_met_of (own := R_FL) (by decide) rfl fo_FL ?_ (fun _ _ h => by cases h) (fun _ _ => rfl) rfl (fun _ _ _ _ h => h)
  intro idx n rc w h
  replace h : gc_FL_countStates idx = some (n, rc, w) := h
  unfold gc_FL_countStates at h
  split at h
  · cases h
    exact ⟨y_CO_methodsEnd, c_CO_methodsEnd, 1, (some .int), _, 0, ct_CO_methodsEnd l D dA lay, rfl, rfl, by decide, by decide, wc_CO_methodsEnd, fw_T_in (i := 720) (by decide +kernel) rfl, wi_CO, ⟨by decide, by decide, by decide⟩, ⟨wk_CO_methodsEnd, wl_CO_methodsEnd, rfl, _, _, rfl⟩⟩
  · cases h
def gc_FW_verify (idx : Nat) : Option (Nat × Option Nat × am_Wp) := match idx with
  | 90 => some (2, some 6, wp_SH_holdsFor)
  | 94 => some (2, some 7, wp_FL_holdsFor)
  | 95 => some (1, some 7, wp_FL_countStates)
  | _ => none
def g_FW_verify : am_G := (gf_FW, gc_FW_verify, (fun ik ic => if ik = 58 ∧ ic = 60 then some 2 else if ik = 72 ∧ ic = 74 then some 1 else none), (fun _ => none), none, fun _ _ _ _ => False)
def wp_FW_verify : am_Wp := am_wp c_FW_verify g_FW_verify 3 ((some .int))
theorem mo_FW_verify : am_Mo wp_FW_verify := am_wp_mono (by
  intro idx n rc w h
  replace h : gc_FW_verify idx = some (n, rc, w) := h
  unfold gc_FW_verify at h
  split at h
  · cases h
    exact mo_SH_holdsFor
  · cases h
    exact mo_FL_holdsFor
  · cases h
    exact mo_FL_countStates
  · cases h)
def g_FW_fault : am_G := (gf_FW, (fun _ => none), (fun _ _ => none), (fun _ => none), none, fun _ _ _ _ => False)
def wp_FW_fault : am_Wp := am_wp c_FW_fault g_FW_fault 1 ((some .int))
theorem mo_FW_fault : am_Mo wp_FW_fault := am_wp_mono (fun idx n rc w h => by cases h)
theorem ct_FW_fault (l : Launch) (D : va_G) (dA : Nat → ClassId) (lay : Nat → Nat) : fw_Met l D dA lay y_FW_fault (Cond.code y_FW_fault c_FW_fault 1 ((some .int)) :: fw_T) { frames := 0, cells := 0, slots := 0, locals := 0 } wp_FW_fault := by
  exact fw_met_of (own := R_FW) (by decide) rfl fo_FW (fun idx n rc w h => by cases h) (fun _ _ h => by cases h) (fun _ _ => rfl) rfl (fun _ _ _ _ h => h)
def g_CO_forget : am_G := (gf_CO, (fun _ => none), (fun _ _ => none), (fun _ => none), none, fun _ _ _ _ => False)
def wp_CO_forget : am_Wp := am_wp c_CO_forget g_CO_forget 1 (none)
theorem mo_CO_forget : am_Mo wp_CO_forget := am_wp_mono (fun idx n rc w h => by cases h)
theorem ct_CO_forget (l : Launch) (D : va_G) (dA : Nat → ClassId) (lay : Nat → Nat) : fw_Met l D dA lay y_CO_forget (Cond.code y_CO_forget c_CO_forget 1 (none) :: fw_T) { frames := 0, cells := 0, slots := 0, locals := 0 } wp_CO_forget := by
  exact fw_met_of (own := R_CO) (by decide) rfl fo_CO (fun idx n rc w h => by cases h) (fun _ _ h => by cases h) (fun _ _ => rfl) rfl (fun _ _ _ _ h => h)
def g_MA_end : am_G := (gf_MA, (fun _ => none), (fun _ _ => none), (fun _ => none), none, fun _ _ _ _ => False)
def wp_MA_end : am_Wp := am_wp c_MA_end g_MA_end 2 (none)
theorem mo_MA_end : am_Mo wp_MA_end := am_wp_mono (fun idx n rc w h => by cases h)
theorem ct_MA_end (l : Launch) (D : va_G) (dA : Nat → ClassId) (lay : Nat → Nat) : fw_Met l D dA lay y_MA_end (Cond.code y_MA_end c_MA_end 2 (none) :: fw_T) { frames := 0, cells := 0, slots := 0, locals := 0 } wp_MA_end := by
  exact fw_met_of (own := R_MA) (by decide) rfl fo_MA (fun idx n rc w h => by cases h) (fun _ _ h => by cases h) (fun _ _ => rfl) rfl (fun _ _ _ _ h => h)
def g_MA_emptyStaticsAndHeap : am_G := (gf_MA, (fun _ => none), (fun _ _ => none), (fun _ => none), none, fun _ _ _ _ => False)
def wp_MA_emptyStaticsAndHeap : am_Wp := am_wp c_MA_emptyStaticsAndHeap g_MA_emptyStaticsAndHeap 2 (none)
theorem mo_MA_emptyStaticsAndHeap : am_Mo wp_MA_emptyStaticsAndHeap := am_wp_mono (fun idx n rc w h => by cases h)
theorem ct_MA_emptyStaticsAndHeap (l : Launch) (D : va_G) (dA : Nat → ClassId) (lay : Nat → Nat) : fw_Met l D dA lay y_MA_emptyStaticsAndHeap (Cond.code y_MA_emptyStaticsAndHeap c_MA_emptyStaticsAndHeap 2 (none) :: fw_T) { frames := 0, cells := 0, slots := 0, locals := 0 } wp_MA_emptyStaticsAndHeap := by
  exact fw_met_of (own := R_MA) (by decide) rfl fo_MA (fun idx n rc w h => by cases h) (fun _ _ h => by cases h) (fun _ _ => rfl) rfl (fun _ _ _ _ h => h)
def gc_MA_forget (idx : Nat) : Option (Nat × Option Nat × am_Wp) := match idx with
  | 57 => some (2, some 8, wp_MA_end)
  | 61 => some (1, some 8, wp_MA_emptyStaticsAndHeap)
  | _ => none
def g_MA_forget : am_G := (gf_MA, gc_MA_forget, (fun _ _ => none), (fun _ => none), none, fun _ _ _ _ => False)
def wp_MA_forget : am_Wp := am_wp c_MA_forget g_MA_forget 1 (none)
theorem mo_MA_forget : am_Mo wp_MA_forget := am_wp_mono (by
  intro idx n rc w h
  replace h : gc_MA_forget idx = some (n, rc, w) := h
  unfold gc_MA_forget at h
  split at h
  · cases h
    exact mo_MA_end
  · cases h
    exact mo_MA_emptyStaticsAndHeap
  · cases h)
theorem ct_MA_forget (l : Launch) (D : va_G) (dA : Nat → ClassId) (lay : Nat → Nat) : fw_Met l D dA lay y_MA_forget (Cond.code y_MA_forget c_MA_forget 1 (none) :: fw_T) { frames := 1, cells := 0, slots := 0, locals := 27 } wp_MA_forget := by
  refine fw_met_of (own := R_MA) (by decide) rfl fo_MA ?_ (fun _ _ h => by cases h) (fun _ _ => rfl) rfl (fun _ _ _ _ h => h)
  intro idx n rc w h
  replace h : gc_MA_forget idx = some (n, rc, w) := h
  unfold gc_MA_forget at h
  split at h
  · cases h
    exact ⟨y_MA_end, c_MA_end, 2, none, _, 1, ct_MA_end l D dA lay, rfl, rfl, by decide, by decide, wc_MA_end, fw_T_in (i := 351) (by decide +kernel) rfl, wi_MA, ⟨by decide, by decide, by decide⟩, ⟨wk_MA_end, wl_MA_end, rfl, _, _, rfl⟩⟩
  · cases h
    exact ⟨y_MA_emptyStaticsAndHeap, c_MA_emptyStaticsAndHeap, 2, none, _, 0, ct_MA_emptyStaticsAndHeap l D dA lay, rfl, rfl, by decide, by decide, wc_MA_emptyStaticsAndHeap, fw_T_in (i := 355) (by decide +kernel) rfl, wi_MA, ⟨by decide, by decide, by decide⟩, ⟨wk_MA_emptyStaticsAndHeap, wl_MA_emptyStaticsAndHeap, rfl, _, _, rfl⟩⟩
  · cases h
def gc_FW_clear (idx : Nat) : Option (Nat × Option Nat × am_Wp) := match idx with
  | 98 => some (1, some 5, wp_CO_forget)
  | 101 => some (1, some 8, wp_MA_forget)
  | _ => none
def g_FW_clear : am_G := (gf_FW, gc_FW_clear, (fun _ _ => none), (fun _ => none), none, fun _ _ _ _ => False)
def wp_FW_clear : am_Wp := am_wp c_FW_clear g_FW_clear 1 (none)
theorem mo_FW_clear : am_Mo wp_FW_clear := am_wp_mono (by
  intro idx n rc w h
  replace h : gc_FW_clear idx = some (n, rc, w) := h
  unfold gc_FW_clear at h
  split at h
  · cases h
    exact mo_CO_forget
  · cases h
    exact mo_MA_forget
  · cases h)
theorem ct_FW_clear (l : Launch) (D : va_G) (dA : Nat → ClassId) (lay : Nat → Nat) : fw_Met l D dA lay y_FW_clear (Cond.code y_FW_clear c_FW_clear 1 (none) :: fw_T) { frames := 2, cells := 0, slots := 0, locals := 54 } wp_FW_clear := by
  refine fw_met_of (own := R_FW) (by decide) rfl fo_FW ?_ (fun _ _ h => by cases h) (fun _ _ => rfl) rfl (fun _ _ _ _ h => h)
  intro idx n rc w h
  replace h : gc_FW_clear idx = some (n, rc, w) := h
  unfold gc_FW_clear at h
  split at h
  · cases h
    exact ⟨y_CO_forget, c_CO_forget, 1, none, _, 0, ct_CO_forget l D dA lay, rfl, rfl, by decide, by decide, wc_CO_forget, fw_T_in (i := 343) (by decide +kernel) rfl, wi_CO, ⟨by decide, by decide, by decide⟩, ⟨wk_CO_forget, wl_CO_forget, rfl, _, _, rfl⟩⟩
  · cases h
    exact ⟨y_MA_forget, c_MA_forget, 1, none, _, 0, ct_MA_forget l D dA lay, rfl, rfl, by decide, by decide, wc_MA_forget, fw_T_in (i := 347) (by decide +kernel) rfl, wi_MA, ⟨by decide, by decide, by decide⟩, ⟨wk_MA_forget, wl_MA_forget, rfl, _, _, rfl⟩⟩
  · cases h
def g_FW_argument : am_G := (gf_FW, (fun _ => none), (fun _ _ => none), (fun _ => none), none, fun _ _ _ _ => False)
def wp_FW_argument : am_Wp := am_wp c_FW_argument g_FW_argument 2 ((some .boolean))
theorem mo_FW_argument : am_Mo wp_FW_argument := am_wp_mono (fun idx n rc w h => by cases h)
theorem ct_FW_argument (l : Launch) (D : va_G) (dA : Nat → ClassId) (lay : Nat → Nat) : fw_Met l D dA lay y_FW_argument (Cond.code y_FW_argument c_FW_argument 2 ((some .boolean)) :: fw_T) { frames := 0, cells := 0, slots := 0, locals := 0 } wp_FW_argument := by
  exact fw_met_of (own := R_FW) (by decide) rfl fo_FW (fun idx n rc w h => by cases h) (fun _ _ h => by cases h) (fun _ _ => rfl) rfl (fun _ _ _ _ h => h)
def gc_MA_cellsTaken (idx : Nat) : Option (Nat × Option Nat × am_Wp) := match idx with
  | 85 => some (1, some 1, wp_ME_cellsNeeded)
  | _ => none
def g_MA_cellsTaken : am_G := (gf_MA, gc_MA_cellsTaken, (fun _ _ => none), (fun _ => none), none, fun _ _ _ _ => False)
def wp_MA_cellsTaken : am_Wp := am_wp c_MA_cellsTaken g_MA_cellsTaken 1 ((some .int))
theorem mo_MA_cellsTaken : am_Mo wp_MA_cellsTaken := am_wp_mono (by
  intro idx n rc w h
  replace h : gc_MA_cellsTaken idx = some (n, rc, w) := h
  unfold gc_MA_cellsTaken at h
  split at h
  · cases h
    exact mo_ME_cellsNeeded
  · cases h)
theorem ct_MA_cellsTaken (l : Launch) (D : va_G) (dA : Nat → ClassId) (lay : Nat → Nat) : fw_Met l D dA lay y_MA_cellsTaken (Cond.code y_MA_cellsTaken c_MA_cellsTaken 1 ((some .int)) :: fw_T) { frames := 1, cells := 0, slots := 0, locals := 27 } wp_MA_cellsTaken := by
  refine fw_met_of (own := R_MA) (by decide) rfl fo_MA ?_ (fun _ _ h => by cases h) (fun _ _ => rfl) rfl (fun _ _ _ _ h => h)
  intro idx n rc w h
  replace h : gc_MA_cellsTaken idx = some (n, rc, w) := h
  unfold gc_MA_cellsTaken at h
  split at h
  · cases h
    exact ⟨y_ME_cellsNeeded, c_ME_cellsNeeded, 1, (some .int), _, 0, ct_ME_cellsNeeded l D dA lay, rfl, rfl, by decide, by decide, wc_ME_cellsNeeded, fw_T_in (i := 740) (by decide +kernel) rfl, wi_ME, ⟨by decide, by decide, by decide⟩, ⟨wk_ME_cellsNeeded, wl_ME_cellsNeeded, rfl, _, _, rfl⟩⟩
  · cases h
def gc_MA_openFrame (idx : Nat) : Option (Nat × Option Nat × am_Wp) := match idx with
  | 89 => some (1, some 8, wp_MA_cellsTaken)
  | _ => none
def g_MA_openFrame : am_G := (gf_MA, gc_MA_openFrame, (fun _ _ => none), (fun _ => none), none, fun _ _ _ _ => False)
def wp_MA_openFrame : am_Wp := am_wp c_MA_openFrame g_MA_openFrame 4 (none)
theorem mo_MA_openFrame : am_Mo wp_MA_openFrame := am_wp_mono (by
  intro idx n rc w h
  replace h : gc_MA_openFrame idx = some (n, rc, w) := h
  unfold gc_MA_openFrame at h
  split at h
  · cases h
    exact mo_MA_cellsTaken
  · cases h)
theorem ct_MA_openFrame (l : Launch) (D : va_G) (dA : Nat → ClassId) (lay : Nat → Nat) : fw_Met l D dA lay y_MA_openFrame (Cond.code y_MA_openFrame c_MA_openFrame 4 (none) :: fw_T) { frames := 2, cells := 0, slots := 0, locals := 54 } wp_MA_openFrame := by
  refine fw_met_of (own := R_MA) (by decide) rfl fo_MA ?_ (fun _ _ h => by cases h) (fun _ _ => rfl) rfl (fun _ _ _ _ h => h)
  intro idx n rc w h
  replace h : gc_MA_openFrame idx = some (n, rc, w) := h
  unfold gc_MA_openFrame at h
  split at h
  · cases h
    exact ⟨y_MA_cellsTaken, c_MA_cellsTaken, 1, (some .int), _, 0, ct_MA_cellsTaken l D dA lay, rfl, rfl, by decide, by decide, wc_MA_cellsTaken, fw_T_in (i := 736) (by decide +kernel) rfl, wi_MA, ⟨by decide, by decide, by decide⟩, ⟨wk_MA_cellsTaken, wl_MA_cellsTaken, rfl, _, _, rfl⟩⟩
  · cases h
def gc_MA_begin (idx : Nat) : Option (Nat × Option Nat × am_Wp) := match idx with
  | 57 => some (2, some 8, wp_MA_end)
  | 61 => some (1, some 8, wp_MA_emptyStaticsAndHeap)
  | 67 => some (2, some 8, wp_MA_openFrame)
  | _ => none
def g_MA_begin : am_G := (gf_MA, gc_MA_begin, (fun _ _ => none), (fun _ => none), none, fun _ _ _ _ => False)
def wp_MA_begin : am_Wp := am_wp c_MA_begin g_MA_begin 4 (none)
theorem mo_MA_begin : am_Mo wp_MA_begin := am_wp_mono (by
  intro idx n rc w h
  replace h : gc_MA_begin idx = some (n, rc, w) := h
  unfold gc_MA_begin at h
  split at h
  · cases h
    exact mo_MA_end
  · cases h
    exact mo_MA_emptyStaticsAndHeap
  · cases h
    exact mo_MA_openFrame
  · cases h)
theorem ct_MA_begin (l : Launch) (D : va_G) (dA : Nat → ClassId) (lay : Nat → Nat) : fw_Met l D dA lay y_MA_begin (Cond.code y_MA_begin c_MA_begin 4 (none) :: fw_T) { frames := 3, cells := 0, slots := 0, locals := 81 } wp_MA_begin := by
  refine fw_met_of (own := R_MA) (by decide) rfl fo_MA ?_ (fun _ _ h => by cases h) (fun _ _ => rfl) rfl (fun _ _ _ _ h => h)
  intro idx n rc w h
  replace h : gc_MA_begin idx = some (n, rc, w) := h
  unfold gc_MA_begin at h
  split at h
  · cases h
    exact ⟨y_MA_end, c_MA_end, 2, none, _, 1, ct_MA_end l D dA lay, rfl, rfl, by decide, by decide, wc_MA_end, fw_T_in (i := 351) (by decide +kernel) rfl, wi_MA, ⟨by decide, by decide, by decide⟩, ⟨wk_MA_end, wl_MA_end, rfl, _, _, rfl⟩⟩
  · cases h
    exact ⟨y_MA_emptyStaticsAndHeap, c_MA_emptyStaticsAndHeap, 2, none, _, 0, ct_MA_emptyStaticsAndHeap l D dA lay, rfl, rfl, by decide, by decide, wc_MA_emptyStaticsAndHeap, fw_T_in (i := 355) (by decide +kernel) rfl, wi_MA, ⟨by decide, by decide, by decide⟩, ⟨wk_MA_emptyStaticsAndHeap, wl_MA_emptyStaticsAndHeap, rfl, _, _, rfl⟩⟩
  · cases h
    exact ⟨y_MA_openFrame, c_MA_openFrame, 4, none, _, 1, ct_MA_openFrame l D dA lay, rfl, rfl, by decide, by decide, wc_MA_openFrame, fw_T_in (i := 732) (by decide +kernel) rfl, wi_MA, ⟨by decide, by decide, by decide⟩, ⟨wk_MA_openFrame, wl_MA_openFrame, rfl, _, _, rfl⟩⟩
  · cases h
def gc_FW_start (idx : Nat) : Option (Nat × Option Nat × am_Wp) := match idx with
  | 102 => some (2, some 5, wp_CO_hasMethod)
  | 110 => some (3, some 8, wp_MA_begin)
  | _ => none
def g_FW_start : am_G := (gf_FW, gc_FW_start, (fun ik ic => if ik = 58 ∧ ic = 60 then some 2 else if ik = 72 ∧ ic = 74 then some 1 else none), (fun _ => none), none, fun _ _ _ _ => False)
def wp_FW_start : am_Wp := am_wp c_FW_start g_FW_start 2 ((some .boolean))
theorem mo_FW_start : am_Mo wp_FW_start := am_wp_mono (by
  intro idx n rc w h
  replace h : gc_FW_start idx = some (n, rc, w) := h
  unfold gc_FW_start at h
  split at h
  · cases h
    exact mo_CO_hasMethod
  · cases h
    exact mo_MA_begin
  · cases h)
def g_MA_isRunning : am_G := (gf_MA, (fun _ => none), (fun _ _ => none), (fun _ => none), none, fun _ _ _ _ => False)
def wp_MA_isRunning : am_Wp := am_wp c_MA_isRunning g_MA_isRunning 1 ((some .boolean))
theorem mo_MA_isRunning : am_Mo wp_MA_isRunning := am_wp_mono (fun idx n rc w h => by cases h)
theorem ct_MA_isRunning (l : Launch) (D : va_G) (dA : Nat → ClassId) (lay : Nat → Nat) : fw_Met l D dA lay y_MA_isRunning (Cond.code y_MA_isRunning c_MA_isRunning 1 ((some .boolean)) :: fw_T) { frames := 0, cells := 0, slots := 0, locals := 0 } wp_MA_isRunning := by
  exact fw_met_of (own := R_MA) (by decide) rfl fo_MA (fun idx n rc w h => by cases h) (fun _ _ h => by cases h) (fun _ _ => rfl) rfl (fun _ _ _ _ h => h)
def gc_MA_pop (idx : Nat) : Option (Nat × Option Nat × am_Wp) := match idx with
  | 101 => some (1, some 0, wp_FR_firstStackCell)
  | _ => none
def g_MA_pop : am_G := (gf_MA, gc_MA_pop, (fun _ _ => none), (fun _ => none), none, fun _ _ _ _ => False)
def wp_MA_pop : am_Wp := am_wp c_MA_pop g_MA_pop 1 ((some .int))
theorem mo_MA_pop : am_Mo wp_MA_pop := am_wp_mono (by
  intro idx n rc w h
  replace h : gc_MA_pop idx = some (n, rc, w) := h
  unfold gc_MA_pop at h
  split at h
  · cases h
    exact mo_FR_firstStackCell
  · cases h)
theorem ct_MA_pop (l : Launch) (D : va_G) (dA : Nat → ClassId) (lay : Nat → Nat) : fw_Met l D dA lay y_MA_pop (Cond.code y_MA_pop c_MA_pop 1 ((some .int)) :: fw_T) { frames := 1, cells := 0, slots := 0, locals := 27 } wp_MA_pop := by
  refine fw_met_of (own := R_MA) (by decide) rfl fo_MA ?_ (fun _ _ h => by cases h) (fun _ _ => rfl) rfl (fun _ _ _ _ h => h)
  intro idx n rc w h
  replace h : gc_MA_pop idx = some (n, rc, w) := h
  unfold gc_MA_pop at h
  split at h
  · cases h
    exact ⟨y_FR_firstStackCell, c_FR_firstStackCell, 1, (some .int), _, 0, ct_FR_firstStackCell l D dA lay, rfl, rfl, by decide, by decide, wc_FR_firstStackCell, fw_T_in (i := 399) (by decide +kernel) rfl, wi_FR, ⟨by decide, by decide, by decide⟩, ⟨wk_FR_firstStackCell, wl_FR_firstStackCell, rfl, _, _, rfl⟩⟩
  · cases h
def g_MA_goOn : am_G := (gf_MA, (fun _ => none), (fun _ _ => none), (fun _ => none), none, fun _ _ _ _ => False)
def wp_MA_goOn : am_Wp := am_wp c_MA_goOn g_MA_goOn 1 (none)
theorem mo_MA_goOn : am_Mo wp_MA_goOn := am_wp_mono (fun idx n rc w h => by cases h)
theorem ct_MA_goOn (l : Launch) (D : va_G) (dA : Nat → ClassId) (lay : Nat → Nat) : fw_Met l D dA lay y_MA_goOn (Cond.code y_MA_goOn c_MA_goOn 1 (none) :: fw_T) { frames := 0, cells := 0, slots := 0, locals := 0 } wp_MA_goOn := by
  exact fw_met_of (own := R_MA) (by decide) rfl fo_MA (fun idx n rc w h => by cases h) (fun _ _ h => by cases h) (fun _ _ => rfl) rfl (fun _ _ _ _ h => h)
def gc_MA_push (idx : Nat) : Option (Nat × Option Nat × am_Wp) := match idx with
  | 101 => some (1, some 0, wp_FR_firstStackCell)
  | _ => none
def g_MA_push : am_G := (gf_MA, gc_MA_push, (fun _ _ => none), (fun _ => none), none, fun _ _ _ _ => False)
def wp_MA_push : am_Wp := am_wp c_MA_push g_MA_push 2 (none)
theorem mo_MA_push : am_Mo wp_MA_push := am_wp_mono (by
  intro idx n rc w h
  replace h : gc_MA_push idx = some (n, rc, w) := h
  unfold gc_MA_push at h
  split at h
  · cases h
    exact mo_FR_firstStackCell
  · cases h)
theorem ct_MA_push (l : Launch) (D : va_G) (dA : Nat → ClassId) (lay : Nat → Nat) : fw_Met l D dA lay y_MA_push (Cond.code y_MA_push c_MA_push 2 (none) :: fw_T) { frames := 1, cells := 0, slots := 0, locals := 27 } wp_MA_push := by
  refine fw_met_of (own := R_MA) (by decide) rfl fo_MA ?_ (fun _ _ h => by cases h) (fun _ _ => rfl) rfl (fun _ _ _ _ h => h)
  intro idx n rc w h
  replace h : gc_MA_push idx = some (n, rc, w) := h
  unfold gc_MA_push at h
  split at h
  · cases h
    exact ⟨y_FR_firstStackCell, c_FR_firstStackCell, 1, (some .int), _, 0, ct_FR_firstStackCell l D dA lay, rfl, rfl, by decide, by decide, wc_FR_firstStackCell, fw_T_in (i := 399) (by decide +kernel) rfl, wi_FR, ⟨by decide, by decide, by decide⟩, ⟨wk_FR_firstStackCell, wl_FR_firstStackCell, rfl, _, _, rfl⟩⟩
  · cases h
def g_MA_closeFrame : am_G := (gf_MA, (fun _ => none), (fun _ _ => none), (fun _ => none), none, fun _ _ _ _ => False)
def wp_MA_closeFrame : am_Wp := am_wp c_MA_closeFrame g_MA_closeFrame 1 (none)
theorem mo_MA_closeFrame : am_Mo wp_MA_closeFrame := am_wp_mono (fun idx n rc w h => by cases h)
theorem ct_MA_closeFrame (l : Launch) (D : va_G) (dA : Nat → ClassId) (lay : Nat → Nat) : fw_Met l D dA lay y_MA_closeFrame (Cond.code y_MA_closeFrame c_MA_closeFrame 1 (none) :: fw_T) { frames := 0, cells := 0, slots := 0, locals := 0 } wp_MA_closeFrame := by
  exact fw_met_of (own := R_MA) (by decide) rfl fo_MA (fun idx n rc w h => by cases h) (fun _ _ h => by cases h) (fun _ _ => rfl) rfl (fun _ _ _ _ h => h)
def gc_MA_trap (idx : Nat) : Option (Nat × Option Nat × am_Wp) := match idx with
  | 57 => some (2, some 8, wp_MA_end)
  | 174 => some (2, some 8, wp_MA_push)
  | 206 => some (1, some 8, wp_MA_closeFrame)
  | 213 => some (3, some 1, wp_ME_findTarget)
  | _ => none
def g_MA_trap : am_G := (gf_MA, gc_MA_trap, (fun _ _ => none), (fun _ => none), none, fun _ _ _ _ => False)
def wp_MA_trap : am_Wp := am_wp c_MA_trap g_MA_trap 4 (none)
theorem mo_MA_trap : am_Mo wp_MA_trap := am_wp_mono (by
  intro idx n rc w h
  replace h : gc_MA_trap idx = some (n, rc, w) := h
  unfold gc_MA_trap at h
  split at h
  · cases h
    exact mo_MA_end
  · cases h
    exact mo_MA_push
  · cases h
    exact mo_MA_closeFrame
  · cases h
    exact mo_ME_findTarget
  · cases h)
theorem ct_MA_trap (l : Launch) (D : va_G) (dA : Nat → ClassId) (lay : Nat → Nat) : fw_Met l D dA lay y_MA_trap (Cond.code y_MA_trap c_MA_trap 4 (none) :: fw_T) { frames := 2, cells := 0, slots := 0, locals := 54 } wp_MA_trap := by
  refine fw_met_of (own := R_MA) (by decide) rfl fo_MA ?_ (fun _ _ h => by cases h) (fun _ _ => rfl) rfl (fun _ _ _ _ h => h)
  intro idx n rc w h
  replace h : gc_MA_trap idx = some (n, rc, w) := h
  unfold gc_MA_trap at h
  split at h
  · cases h
    exact ⟨y_MA_end, c_MA_end, 2, none, _, 1, ct_MA_end l D dA lay, rfl, rfl, by decide, by decide, wc_MA_end, fw_T_in (i := 351) (by decide +kernel) rfl, wi_MA, ⟨by decide, by decide, by decide⟩, ⟨wk_MA_end, wl_MA_end, rfl, _, _, rfl⟩⟩
  · cases h
    exact ⟨y_MA_push, c_MA_push, 2, none, _, 1, ct_MA_push l D dA lay, rfl, rfl, by decide, by decide, wc_MA_push, fw_T_in (i := 778) (by decide +kernel) rfl, wi_MA, ⟨by decide, by decide, by decide⟩, ⟨wk_MA_push, wl_MA_push, rfl, _, _, rfl⟩⟩
  · cases h
    exact ⟨y_MA_closeFrame, c_MA_closeFrame, 1, none, _, 0, ct_MA_closeFrame l D dA lay, rfl, rfl, by decide, by decide, wc_MA_closeFrame, fw_T_in (i := 782) (by decide +kernel) rfl, wi_MA, ⟨by decide, by decide, by decide⟩, ⟨wk_MA_closeFrame, wl_MA_closeFrame, rfl, _, _, rfl⟩⟩
  · cases h
    exact ⟨y_ME_findTarget, c_ME_findTarget, 5, (some .int), _, 2, ct_ME_findTarget l D dA lay, rfl, rfl, by decide, by decide, wc_ME_findTarget, fw_T_in (i := 773) (by decide +kernel) rfl, wi_ME, ⟨by decide, by decide, by decide⟩, ⟨wk_ME_findTarget, wl_ME_findTarget, rfl, _, _, rfl⟩⟩
  · cases h
def g_MA_calculate : am_G := (gf_MA, (fun _ => none), (fun _ _ => none), (fun _ => none), none, fun _ _ _ _ => False)
def wp_MA_calculate : am_Wp := am_wp c_MA_calculate g_MA_calculate 3 ((some .int))
theorem mo_MA_calculate : am_Mo wp_MA_calculate := am_wp_mono (fun idx n rc w h => by cases h)
theorem ct_MA_calculate (l : Launch) (D : va_G) (dA : Nat → ClassId) (lay : Nat → Nat) : fw_Met l D dA lay y_MA_calculate (Cond.code y_MA_calculate c_MA_calculate 3 ((some .int)) :: fw_T) { frames := 0, cells := 0, slots := 0, locals := 0 } wp_MA_calculate := by
  exact fw_met_of (own := R_MA) (by decide) rfl fo_MA (fun idx n rc w h => by cases h) (fun _ _ h => by cases h) (fun _ _ => rfl) rfl (fun _ _ _ _ h => h)
def gc_MA_stepCalculation (idx : Nat) : Option (Nat × Option Nat × am_Wp) := match idx with
  | 153 => some (1, some 8, wp_MA_pop)
  | 171 => some (1, some 8, wp_MA_goOn)
  | 174 => some (2, some 8, wp_MA_push)
  | 187 => some (2, some 8, wp_MA_trap)
  | 190 => some (3, none, wp_MA_calculate)
  | _ => none
def g_MA_stepCalculation : am_G := (gf_MA, gc_MA_stepCalculation, (fun _ _ => none), (fun _ => none), none, fun _ _ _ _ => False)
def wp_MA_stepCalculation : am_Wp := am_wp c_MA_stepCalculation g_MA_stepCalculation 3 (none)
theorem mo_MA_stepCalculation : am_Mo wp_MA_stepCalculation := am_wp_mono (by
  intro idx n rc w h
  replace h : gc_MA_stepCalculation idx = some (n, rc, w) := h
  unfold gc_MA_stepCalculation at h
  split at h
  · cases h
    exact mo_MA_pop
  · cases h
    exact mo_MA_goOn
  · cases h
    exact mo_MA_push
  · cases h
    exact mo_MA_trap
  · cases h
    exact mo_MA_calculate
  · cases h)
theorem ct_MA_stepCalculation (l : Launch) (D : va_G) (dA : Nat → ClassId) (lay : Nat → Nat) : fw_Met l D dA lay y_MA_stepCalculation (Cond.code y_MA_stepCalculation c_MA_stepCalculation 3 (none) :: fw_T) { frames := 3, cells := 0, slots := 0, locals := 81 } wp_MA_stepCalculation := by
  refine fw_met_of (own := R_MA) (by decide) rfl fo_MA ?_ (fun _ _ h => by cases h) (fun _ _ => rfl) rfl (fun _ _ _ _ h => h)
  intro idx n rc w h
  replace h : gc_MA_stepCalculation idx = some (n, rc, w) := h
  unfold gc_MA_stepCalculation at h
  split at h
  · cases h
    exact ⟨y_MA_pop, c_MA_pop, 1, (some .int), _, 0, ct_MA_pop l D dA lay, rfl, rfl, by decide, by decide, wc_MA_pop, fw_T_in (i := 765) (by decide +kernel) rfl, wi_MA, ⟨by decide, by decide, by decide⟩, ⟨wk_MA_pop, wl_MA_pop, rfl, _, _, rfl⟩⟩
  · cases h
    exact ⟨y_MA_goOn, c_MA_goOn, 1, none, _, 0, ct_MA_goOn l D dA lay, rfl, rfl, by decide, by decide, wc_MA_goOn, fw_T_in (i := 789) (by decide +kernel) rfl, wi_MA, ⟨by decide, by decide, by decide⟩, ⟨wk_MA_goOn, wl_MA_goOn, rfl, _, _, rfl⟩⟩
  · cases h
    exact ⟨y_MA_push, c_MA_push, 2, none, _, 1, ct_MA_push l D dA lay, rfl, rfl, by decide, by decide, wc_MA_push, fw_T_in (i := 778) (by decide +kernel) rfl, wi_MA, ⟨by decide, by decide, by decide⟩, ⟨wk_MA_push, wl_MA_push, rfl, _, _, rfl⟩⟩
  · cases h
    exact ⟨y_MA_trap, c_MA_trap, 4, none, _, 1, ct_MA_trap l D dA lay, rfl, rfl, by decide, by decide, wc_MA_trap, fw_T_in (i := 769) (by decide +kernel) rfl, wi_MA, ⟨by decide, by decide, by decide⟩, ⟨wk_MA_trap, wl_MA_trap, rfl, _, _, rfl⟩⟩
  · cases h
    exact ⟨y_MA_calculate, c_MA_calculate, 3, (some .int), _, 3, ct_MA_calculate l D dA lay, rfl, rfl, by decide, by decide, wc_MA_calculate, fw_T_in (i := 786) (by decide +kernel) rfl, wi_MA, ⟨by decide, by decide, by decide⟩, ⟨wk_MA_calculate, rfl⟩⟩
  · cases h
def g_MA_isSo : am_G := (gf_MA, (fun _ => none), (fun _ _ => none), (fun _ => none), none, fun _ _ _ _ => False)
def wp_MA_isSo : am_Wp := am_wp c_MA_isSo g_MA_isSo 3 ((some .boolean))
theorem mo_MA_isSo : am_Mo wp_MA_isSo := am_wp_mono (fun idx n rc w h => by cases h)
theorem ct_MA_isSo (l : Launch) (D : va_G) (dA : Nat → ClassId) (lay : Nat → Nat) : fw_Met l D dA lay y_MA_isSo (Cond.code y_MA_isSo c_MA_isSo 3 ((some .boolean)) :: fw_T) { frames := 0, cells := 0, slots := 0, locals := 0 } wp_MA_isSo := by
  exact fw_met_of (own := R_MA) (by decide) rfl fo_MA (fun idx n rc w h => by cases h) (fun _ _ h => by cases h) (fun _ _ => rfl) rfl (fun _ _ _ _ h => h)
def gc_MA_isTaken (idx : Nat) : Option (Nat × Option Nat × am_Wp) := match idx with
  | 153 => some (1, some 8, wp_MA_pop)
  | 194 => some (3, none, wp_MA_isSo)
  | _ => none
def g_MA_isTaken : am_G := (gf_MA, gc_MA_isTaken, (fun _ _ => none), (fun _ => none), none, fun _ _ _ _ => False)
def wp_MA_isTaken : am_Wp := am_wp c_MA_isTaken g_MA_isTaken 3 ((some .boolean))
theorem mo_MA_isTaken : am_Mo wp_MA_isTaken := am_wp_mono (by
  intro idx n rc w h
  replace h : gc_MA_isTaken idx = some (n, rc, w) := h
  unfold gc_MA_isTaken at h
  split at h
  · cases h
    exact mo_MA_pop
  · cases h
    exact mo_MA_isSo
  · cases h)
theorem ct_MA_isTaken (l : Launch) (D : va_G) (dA : Nat → ClassId) (lay : Nat → Nat) : fw_Met l D dA lay y_MA_isTaken (Cond.code y_MA_isTaken c_MA_isTaken 3 ((some .boolean)) :: fw_T) { frames := 2, cells := 0, slots := 0, locals := 54 } wp_MA_isTaken := by
  refine fw_met_of (own := R_MA) (by decide) rfl fo_MA ?_ (fun _ _ h => by cases h) (fun _ _ => rfl) rfl (fun _ _ _ _ h => h)
  intro idx n rc w h
  replace h : gc_MA_isTaken idx = some (n, rc, w) := h
  unfold gc_MA_isTaken at h
  split at h
  · cases h
    exact ⟨y_MA_pop, c_MA_pop, 1, (some .int), _, 0, ct_MA_pop l D dA lay, rfl, rfl, by decide, by decide, wc_MA_pop, fw_T_in (i := 765) (by decide +kernel) rfl, wi_MA, ⟨by decide, by decide, by decide⟩, ⟨wk_MA_pop, wl_MA_pop, rfl, _, _, rfl⟩⟩
  · cases h
    exact ⟨y_MA_isSo, c_MA_isSo, 3, (some .boolean), _, 3, ct_MA_isSo l D dA lay, rfl, rfl, by decide, by decide, wc_MA_isSo, fw_T_in (i := 798) (by decide +kernel) rfl, wi_MA, ⟨by decide, by decide, by decide⟩, ⟨wk_MA_isSo, rfl⟩⟩
  · cases h
def gc_MA_stepLocal (idx : Nat) : Option (Nat × Option Nat × am_Wp) := match idx with
  | 153 => some (1, some 8, wp_MA_pop)
  | 171 => some (1, some 8, wp_MA_goOn)
  | 174 => some (2, some 8, wp_MA_push)
  | _ => none
def g_MA_stepLocal : am_G := (gf_MA, gc_MA_stepLocal, (fun _ _ => none), (fun _ => none), none, fun _ _ _ _ => False)
def wp_MA_stepLocal : am_Wp := am_wp c_MA_stepLocal g_MA_stepLocal 2 (none)
theorem mo_MA_stepLocal : am_Mo wp_MA_stepLocal := am_wp_mono (by
  intro idx n rc w h
  replace h : gc_MA_stepLocal idx = some (n, rc, w) := h
  unfold gc_MA_stepLocal at h
  split at h
  · cases h
    exact mo_MA_pop
  · cases h
    exact mo_MA_goOn
  · cases h
    exact mo_MA_push
  · cases h)
theorem ct_MA_stepLocal (l : Launch) (D : va_G) (dA : Nat → ClassId) (lay : Nat → Nat) : fw_Met l D dA lay y_MA_stepLocal (Cond.code y_MA_stepLocal c_MA_stepLocal 2 (none) :: fw_T) { frames := 2, cells := 0, slots := 0, locals := 54 } wp_MA_stepLocal := by
  refine fw_met_of (own := R_MA) (by decide) rfl fo_MA ?_ (fun _ _ h => by cases h) (fun _ _ => rfl) rfl (fun _ _ _ _ h => h)
  intro idx n rc w h
  replace h : gc_MA_stepLocal idx = some (n, rc, w) := h
  unfold gc_MA_stepLocal at h
  split at h
  · cases h
    exact ⟨y_MA_pop, c_MA_pop, 1, (some .int), _, 0, ct_MA_pop l D dA lay, rfl, rfl, by decide, by decide, wc_MA_pop, fw_T_in (i := 765) (by decide +kernel) rfl, wi_MA, ⟨by decide, by decide, by decide⟩, ⟨wk_MA_pop, wl_MA_pop, rfl, _, _, rfl⟩⟩
  · cases h
    exact ⟨y_MA_goOn, c_MA_goOn, 1, none, _, 0, ct_MA_goOn l D dA lay, rfl, rfl, by decide, by decide, wc_MA_goOn, fw_T_in (i := 789) (by decide +kernel) rfl, wi_MA, ⟨by decide, by decide, by decide⟩, ⟨wk_MA_goOn, wl_MA_goOn, rfl, _, _, rfl⟩⟩
  · cases h
    exact ⟨y_MA_push, c_MA_push, 2, none, _, 1, ct_MA_push l D dA lay, rfl, rfl, by decide, by decide, wc_MA_push, fw_T_in (i := 778) (by decide +kernel) rfl, wi_MA, ⟨by decide, by decide, by decide⟩, ⟨wk_MA_push, wl_MA_push, rfl, _, _, rfl⟩⟩
  · cases h
def g_MA_whatIsWrong : am_G := (gf_MA, (fun _ => none), (fun _ _ => none), (fun _ => none), none, fun _ _ _ _ => False)
def wp_MA_whatIsWrong : am_Wp := am_wp c_MA_whatIsWrong g_MA_whatIsWrong 3 ((some .int))
theorem mo_MA_whatIsWrong : am_Mo wp_MA_whatIsWrong := am_wp_mono (fun idx n rc w h => by cases h)
theorem ct_MA_whatIsWrong (l : Launch) (D : va_G) (dA : Nat → ClassId) (lay : Nat → Nat) : fw_Met l D dA lay y_MA_whatIsWrong (Cond.code y_MA_whatIsWrong c_MA_whatIsWrong 3 ((some .int)) :: fw_T) { frames := 0, cells := 0, slots := 0, locals := 0 } wp_MA_whatIsWrong := by
  exact fw_met_of (own := R_MA) (by decide) rfl fo_MA (fun idx n rc w h => by cases h) (fun _ _ h => by cases h) (fun _ _ => rfl) rfl (fun _ _ _ _ h => h)
def gc_MA_stepArrayLoad (idx : Nat) : Option (Nat × Option Nat × am_Wp) := match idx with
  | 153 => some (1, some 8, wp_MA_pop)
  | 171 => some (1, some 8, wp_MA_goOn)
  | 174 => some (2, some 8, wp_MA_push)
  | 187 => some (2, some 8, wp_MA_trap)
  | 198 => some (3, some 8, wp_MA_whatIsWrong)
  | _ => none
def g_MA_stepArrayLoad : am_G := (gf_MA, gc_MA_stepArrayLoad, (fun _ _ => none), (fun _ => none), none, fun _ _ _ _ => False)
def wp_MA_stepArrayLoad : am_Wp := am_wp c_MA_stepArrayLoad g_MA_stepArrayLoad 4 (none)
theorem mo_MA_stepArrayLoad : am_Mo wp_MA_stepArrayLoad := am_wp_mono (by
  intro idx n rc w h
  replace h : gc_MA_stepArrayLoad idx = some (n, rc, w) := h
  unfold gc_MA_stepArrayLoad at h
  split at h
  · cases h
    exact mo_MA_pop
  · cases h
    exact mo_MA_goOn
  · cases h
    exact mo_MA_push
  · cases h
    exact mo_MA_trap
  · cases h
    exact mo_MA_whatIsWrong
  · cases h)
theorem ct_MA_stepArrayLoad (l : Launch) (D : va_G) (dA : Nat → ClassId) (lay : Nat → Nat) : fw_Met l D dA lay y_MA_stepArrayLoad (Cond.code y_MA_stepArrayLoad c_MA_stepArrayLoad 4 (none) :: fw_T) { frames := 3, cells := 0, slots := 0, locals := 81 } wp_MA_stepArrayLoad := by
  refine fw_met_of (own := R_MA) (by decide) rfl fo_MA ?_ (fun _ _ h => by cases h) (fun _ _ => rfl) rfl (fun _ _ _ _ h => h)
  intro idx n rc w h
  replace h : gc_MA_stepArrayLoad idx = some (n, rc, w) := h
  unfold gc_MA_stepArrayLoad at h
  split at h
  · cases h
    exact ⟨y_MA_pop, c_MA_pop, 1, (some .int), _, 0, ct_MA_pop l D dA lay, rfl, rfl, by decide, by decide, wc_MA_pop, fw_T_in (i := 765) (by decide +kernel) rfl, wi_MA, ⟨by decide, by decide, by decide⟩, ⟨wk_MA_pop, wl_MA_pop, rfl, _, _, rfl⟩⟩
  · cases h
    exact ⟨y_MA_goOn, c_MA_goOn, 1, none, _, 0, ct_MA_goOn l D dA lay, rfl, rfl, by decide, by decide, wc_MA_goOn, fw_T_in (i := 789) (by decide +kernel) rfl, wi_MA, ⟨by decide, by decide, by decide⟩, ⟨wk_MA_goOn, wl_MA_goOn, rfl, _, _, rfl⟩⟩
  · cases h
    exact ⟨y_MA_push, c_MA_push, 2, none, _, 1, ct_MA_push l D dA lay, rfl, rfl, by decide, by decide, wc_MA_push, fw_T_in (i := 778) (by decide +kernel) rfl, wi_MA, ⟨by decide, by decide, by decide⟩, ⟨wk_MA_push, wl_MA_push, rfl, _, _, rfl⟩⟩
  · cases h
    exact ⟨y_MA_trap, c_MA_trap, 4, none, _, 1, ct_MA_trap l D dA lay, rfl, rfl, by decide, by decide, wc_MA_trap, fw_T_in (i := 769) (by decide +kernel) rfl, wi_MA, ⟨by decide, by decide, by decide⟩, ⟨wk_MA_trap, wl_MA_trap, rfl, _, _, rfl⟩⟩
  · cases h
    exact ⟨y_MA_whatIsWrong, c_MA_whatIsWrong, 3, (some .int), _, 2, ct_MA_whatIsWrong l D dA lay, rfl, rfl, by decide, by decide, wc_MA_whatIsWrong, fw_T_in (i := 814) (by decide +kernel) rfl, wi_MA, ⟨by decide, by decide, by decide⟩, ⟨wk_MA_whatIsWrong, wl_MA_whatIsWrong, rfl, _, _, rfl⟩⟩
  · cases h
def gc_MA_stepArrayStore (idx : Nat) : Option (Nat × Option Nat × am_Wp) := match idx with
  | 153 => some (1, some 8, wp_MA_pop)
  | 171 => some (1, some 8, wp_MA_goOn)
  | 187 => some (2, some 8, wp_MA_trap)
  | 198 => some (3, some 8, wp_MA_whatIsWrong)
  | _ => none
def g_MA_stepArrayStore : am_G := (gf_MA, gc_MA_stepArrayStore, (fun _ _ => none), (fun _ => none), none, fun _ _ _ _ => False)
def wp_MA_stepArrayStore : am_Wp := am_wp c_MA_stepArrayStore g_MA_stepArrayStore 5 (none)
theorem mo_MA_stepArrayStore : am_Mo wp_MA_stepArrayStore := am_wp_mono (by
  intro idx n rc w h
  replace h : gc_MA_stepArrayStore idx = some (n, rc, w) := h
  unfold gc_MA_stepArrayStore at h
  split at h
  · cases h
    exact mo_MA_pop
  · cases h
    exact mo_MA_goOn
  · cases h
    exact mo_MA_trap
  · cases h
    exact mo_MA_whatIsWrong
  · cases h)
theorem ct_MA_stepArrayStore (l : Launch) (D : va_G) (dA : Nat → ClassId) (lay : Nat → Nat) : fw_Met l D dA lay y_MA_stepArrayStore (Cond.code y_MA_stepArrayStore c_MA_stepArrayStore 5 (none) :: fw_T) { frames := 3, cells := 0, slots := 0, locals := 81 } wp_MA_stepArrayStore := by
  refine fw_met_of (own := R_MA) (by decide) rfl fo_MA ?_ (fun _ _ h => by cases h) (fun _ _ => rfl) rfl (fun _ _ _ _ h => h)
  intro idx n rc w h
  replace h : gc_MA_stepArrayStore idx = some (n, rc, w) := h
  unfold gc_MA_stepArrayStore at h
  split at h
  · cases h
    exact ⟨y_MA_pop, c_MA_pop, 1, (some .int), _, 0, ct_MA_pop l D dA lay, rfl, rfl, by decide, by decide, wc_MA_pop, fw_T_in (i := 765) (by decide +kernel) rfl, wi_MA, ⟨by decide, by decide, by decide⟩, ⟨wk_MA_pop, wl_MA_pop, rfl, _, _, rfl⟩⟩
  · cases h
    exact ⟨y_MA_goOn, c_MA_goOn, 1, none, _, 0, ct_MA_goOn l D dA lay, rfl, rfl, by decide, by decide, wc_MA_goOn, fw_T_in (i := 789) (by decide +kernel) rfl, wi_MA, ⟨by decide, by decide, by decide⟩, ⟨wk_MA_goOn, wl_MA_goOn, rfl, _, _, rfl⟩⟩
  · cases h
    exact ⟨y_MA_trap, c_MA_trap, 4, none, _, 1, ct_MA_trap l D dA lay, rfl, rfl, by decide, by decide, wc_MA_trap, fw_T_in (i := 769) (by decide +kernel) rfl, wi_MA, ⟨by decide, by decide, by decide⟩, ⟨wk_MA_trap, wl_MA_trap, rfl, _, _, rfl⟩⟩
  · cases h
    exact ⟨y_MA_whatIsWrong, c_MA_whatIsWrong, 3, (some .int), _, 2, ct_MA_whatIsWrong l D dA lay, rfl, rfl, by decide, by decide, wc_MA_whatIsWrong, fw_T_in (i := 814) (by decide +kernel) rfl, wi_MA, ⟨by decide, by decide, by decide⟩, ⟨wk_MA_whatIsWrong, wl_MA_whatIsWrong, rfl, _, _, rfl⟩⟩
  · cases h
def gc_MA_stepNewArray (idx : Nat) : Option (Nat × Option Nat × am_Wp) := match idx with
  | 57 => some (2, some 8, wp_MA_end)
  | 171 => some (1, some 8, wp_MA_goOn)
  | 174 => some (2, some 8, wp_MA_push)
  | 187 => some (2, some 8, wp_MA_trap)
  | _ => none
def g_MA_stepNewArray : am_G := (gf_MA, gc_MA_stepNewArray, (fun _ _ => none), (fun _ => none), none, fun _ _ _ _ => False)
def wp_MA_stepNewArray : am_Wp := am_wp c_MA_stepNewArray g_MA_stepNewArray 4 (none)
theorem mo_MA_stepNewArray : am_Mo wp_MA_stepNewArray := am_wp_mono (by
  intro idx n rc w h
  replace h : gc_MA_stepNewArray idx = some (n, rc, w) := h
  unfold gc_MA_stepNewArray at h
  split at h
  · cases h
    exact mo_MA_end
  · cases h
    exact mo_MA_goOn
  · cases h
    exact mo_MA_push
  · cases h
    exact mo_MA_trap
  · cases h)
theorem ct_MA_stepNewArray (l : Launch) (D : va_G) (dA : Nat → ClassId) (lay : Nat → Nat) : fw_Met l D dA lay y_MA_stepNewArray (Cond.code y_MA_stepNewArray c_MA_stepNewArray 4 (none) :: fw_T) { frames := 3, cells := 0, slots := 0, locals := 81 } wp_MA_stepNewArray := by
  refine fw_met_of (own := R_MA) (by decide) rfl fo_MA ?_ (fun _ _ h => by cases h) (fun _ _ => rfl) rfl (fun _ _ _ _ h => h)
  intro idx n rc w h
  replace h : gc_MA_stepNewArray idx = some (n, rc, w) := h
  unfold gc_MA_stepNewArray at h
  split at h
  · cases h
    exact ⟨y_MA_end, c_MA_end, 2, none, _, 1, ct_MA_end l D dA lay, rfl, rfl, by decide, by decide, wc_MA_end, fw_T_in (i := 351) (by decide +kernel) rfl, wi_MA, ⟨by decide, by decide, by decide⟩, ⟨wk_MA_end, wl_MA_end, rfl, _, _, rfl⟩⟩
  · cases h
    exact ⟨y_MA_goOn, c_MA_goOn, 1, none, _, 0, ct_MA_goOn l D dA lay, rfl, rfl, by decide, by decide, wc_MA_goOn, fw_T_in (i := 789) (by decide +kernel) rfl, wi_MA, ⟨by decide, by decide, by decide⟩, ⟨wk_MA_goOn, wl_MA_goOn, rfl, _, _, rfl⟩⟩
  · cases h
    exact ⟨y_MA_push, c_MA_push, 2, none, _, 1, ct_MA_push l D dA lay, rfl, rfl, by decide, by decide, wc_MA_push, fw_T_in (i := 778) (by decide +kernel) rfl, wi_MA, ⟨by decide, by decide, by decide⟩, ⟨wk_MA_push, wl_MA_push, rfl, _, _, rfl⟩⟩
  · cases h
    exact ⟨y_MA_trap, c_MA_trap, 4, none, _, 1, ct_MA_trap l D dA lay, rfl, rfl, by decide, by decide, wc_MA_trap, fw_T_in (i := 769) (by decide +kernel) rfl, wi_MA, ⟨by decide, by decide, by decide⟩, ⟨wk_MA_trap, wl_MA_trap, rfl, _, _, rfl⟩⟩
  · cases h
def gc_MA_stepLength (idx : Nat) : Option (Nat × Option Nat × am_Wp) := match idx with
  | 171 => some (1, some 8, wp_MA_goOn)
  | 174 => some (2, some 8, wp_MA_push)
  | 187 => some (2, some 8, wp_MA_trap)
  | _ => none
def g_MA_stepLength : am_G := (gf_MA, gc_MA_stepLength, (fun _ _ => none), (fun _ => none), none, fun _ _ _ _ => False)
def wp_MA_stepLength : am_Wp := am_wp c_MA_stepLength g_MA_stepLength 2 (none)
theorem mo_MA_stepLength : am_Mo wp_MA_stepLength := am_wp_mono (by
  intro idx n rc w h
  replace h : gc_MA_stepLength idx = some (n, rc, w) := h
  unfold gc_MA_stepLength at h
  split at h
  · cases h
    exact mo_MA_goOn
  · cases h
    exact mo_MA_push
  · cases h
    exact mo_MA_trap
  · cases h)
theorem ct_MA_stepLength (l : Launch) (D : va_G) (dA : Nat → ClassId) (lay : Nat → Nat) : fw_Met l D dA lay y_MA_stepLength (Cond.code y_MA_stepLength c_MA_stepLength 2 (none) :: fw_T) { frames := 3, cells := 0, slots := 0, locals := 81 } wp_MA_stepLength := by
  refine fw_met_of (own := R_MA) (by decide) rfl fo_MA ?_ (fun _ _ h => by cases h) (fun _ _ => rfl) rfl (fun _ _ _ _ h => h)
  intro idx n rc w h
  replace h : gc_MA_stepLength idx = some (n, rc, w) := h
  unfold gc_MA_stepLength at h
  split at h
  · cases h
    exact ⟨y_MA_goOn, c_MA_goOn, 1, none, _, 0, ct_MA_goOn l D dA lay, rfl, rfl, by decide, by decide, wc_MA_goOn, fw_T_in (i := 789) (by decide +kernel) rfl, wi_MA, ⟨by decide, by decide, by decide⟩, ⟨wk_MA_goOn, wl_MA_goOn, rfl, _, _, rfl⟩⟩
  · cases h
    exact ⟨y_MA_push, c_MA_push, 2, none, _, 1, ct_MA_push l D dA lay, rfl, rfl, by decide, by decide, wc_MA_push, fw_T_in (i := 778) (by decide +kernel) rfl, wi_MA, ⟨by decide, by decide, by decide⟩, ⟨wk_MA_push, wl_MA_push, rfl, _, _, rfl⟩⟩
  · cases h
    exact ⟨y_MA_trap, c_MA_trap, 4, none, _, 1, ct_MA_trap l D dA lay, rfl, rfl, by decide, by decide, wc_MA_trap, fw_T_in (i := 769) (by decide +kernel) rfl, wi_MA, ⟨by decide, by decide, by decide⟩, ⟨wk_MA_trap, wl_MA_trap, rfl, _, _, rfl⟩⟩
  · cases h
def gc_MA_stepCall (idx : Nat) : Option (Nat × Option Nat × am_Wp) := match idx with
  | 57 => some (2, some 8, wp_MA_end)
  | 67 => some (2, some 8, wp_MA_openFrame)
  | 85 => some (1, some 1, wp_ME_cellsNeeded)
  | 89 => some (1, some 8, wp_MA_cellsTaken)
  | 101 => some (1, some 0, wp_FR_firstStackCell)
  | _ => none
def g_MA_stepCall : am_G := (gf_MA, gc_MA_stepCall, (fun _ _ => none), (fun _ => none), none, fun _ _ _ _ => False)
def wp_MA_stepCall : am_Wp := am_wp c_MA_stepCall g_MA_stepCall 4 (none)
theorem mo_MA_stepCall : am_Mo wp_MA_stepCall := am_wp_mono (by
  intro idx n rc w h
  replace h : gc_MA_stepCall idx = some (n, rc, w) := h
  unfold gc_MA_stepCall at h
  split at h
  · cases h
    exact mo_MA_end
  · cases h
    exact mo_MA_openFrame
  · cases h
    exact mo_ME_cellsNeeded
  · cases h
    exact mo_MA_cellsTaken
  · cases h
    exact mo_FR_firstStackCell
  · cases h)
theorem ct_MA_stepCall (l : Launch) (D : va_G) (dA : Nat → ClassId) (lay : Nat → Nat) : fw_Met l D dA lay y_MA_stepCall (Cond.code y_MA_stepCall c_MA_stepCall 4 (none) :: fw_T) { frames := 3, cells := 0, slots := 0, locals := 81 } wp_MA_stepCall := by
  refine fw_met_of (own := R_MA) (by decide) rfl fo_MA ?_ (fun _ _ h => by cases h) (fun _ _ => rfl) rfl (fun _ _ _ _ h => h)
  intro idx n rc w h
  replace h : gc_MA_stepCall idx = some (n, rc, w) := h
  unfold gc_MA_stepCall at h
  split at h
  · cases h
    exact ⟨y_MA_end, c_MA_end, 2, none, _, 1, ct_MA_end l D dA lay, rfl, rfl, by decide, by decide, wc_MA_end, fw_T_in (i := 351) (by decide +kernel) rfl, wi_MA, ⟨by decide, by decide, by decide⟩, ⟨wk_MA_end, wl_MA_end, rfl, _, _, rfl⟩⟩
  · cases h
    exact ⟨y_MA_openFrame, c_MA_openFrame, 4, none, _, 1, ct_MA_openFrame l D dA lay, rfl, rfl, by decide, by decide, wc_MA_openFrame, fw_T_in (i := 732) (by decide +kernel) rfl, wi_MA, ⟨by decide, by decide, by decide⟩, ⟨wk_MA_openFrame, wl_MA_openFrame, rfl, _, _, rfl⟩⟩
  · cases h
    exact ⟨y_ME_cellsNeeded, c_ME_cellsNeeded, 1, (some .int), _, 0, ct_ME_cellsNeeded l D dA lay, rfl, rfl, by decide, by decide, wc_ME_cellsNeeded, fw_T_in (i := 740) (by decide +kernel) rfl, wi_ME, ⟨by decide, by decide, by decide⟩, ⟨wk_ME_cellsNeeded, wl_ME_cellsNeeded, rfl, _, _, rfl⟩⟩
  · cases h
    exact ⟨y_MA_cellsTaken, c_MA_cellsTaken, 1, (some .int), _, 0, ct_MA_cellsTaken l D dA lay, rfl, rfl, by decide, by decide, wc_MA_cellsTaken, fw_T_in (i := 736) (by decide +kernel) rfl, wi_MA, ⟨by decide, by decide, by decide⟩, ⟨wk_MA_cellsTaken, wl_MA_cellsTaken, rfl, _, _, rfl⟩⟩
  · cases h
    exact ⟨y_FR_firstStackCell, c_FR_firstStackCell, 1, (some .int), _, 0, ct_FR_firstStackCell l D dA lay, rfl, rfl, by decide, by decide, wc_FR_firstStackCell, fw_T_in (i := 399) (by decide +kernel) rfl, wi_FR, ⟨by decide, by decide, by decide⟩, ⟨wk_FR_firstStackCell, wl_FR_firstStackCell, rfl, _, _, rfl⟩⟩
  · cases h
def gc_MA_leave (idx : Nat) : Option (Nat × Option Nat × am_Wp) := match idx with
  | 57 => some (2, some 8, wp_MA_end)
  | 174 => some (2, some 8, wp_MA_push)
  | 206 => some (1, some 8, wp_MA_closeFrame)
  | 209 => some (1, none, wp_OP_sizeOf)
  | _ => none
def g_MA_leave : am_G := (gf_MA, gc_MA_leave, (fun _ _ => none), (fun _ => none), none, fun _ _ _ _ => False)
def wp_MA_leave : am_Wp := am_wp c_MA_leave g_MA_leave 3 (none)
theorem mo_MA_leave : am_Mo wp_MA_leave := am_wp_mono (by
  intro idx n rc w h
  replace h : gc_MA_leave idx = some (n, rc, w) := h
  unfold gc_MA_leave at h
  split at h
  · cases h
    exact mo_MA_end
  · cases h
    exact mo_MA_push
  · cases h
    exact mo_MA_closeFrame
  · cases h
    exact mo_OP_sizeOf
  · cases h)
theorem ct_MA_leave (l : Launch) (D : va_G) (dA : Nat → ClassId) (lay : Nat → Nat) : fw_Met l D dA lay y_MA_leave (Cond.code y_MA_leave c_MA_leave 3 (none) :: fw_T) { frames := 2, cells := 0, slots := 0, locals := 54 } wp_MA_leave := by
  refine fw_met_of (own := R_MA) (by decide) rfl fo_MA ?_ (fun _ _ h => by cases h) (fun _ _ => rfl) rfl (fun _ _ _ _ h => h)
  intro idx n rc w h
  replace h : gc_MA_leave idx = some (n, rc, w) := h
  unfold gc_MA_leave at h
  split at h
  · cases h
    exact ⟨y_MA_end, c_MA_end, 2, none, _, 1, ct_MA_end l D dA lay, rfl, rfl, by decide, by decide, wc_MA_end, fw_T_in (i := 351) (by decide +kernel) rfl, wi_MA, ⟨by decide, by decide, by decide⟩, ⟨wk_MA_end, wl_MA_end, rfl, _, _, rfl⟩⟩
  · cases h
    exact ⟨y_MA_push, c_MA_push, 2, none, _, 1, ct_MA_push l D dA lay, rfl, rfl, by decide, by decide, wc_MA_push, fw_T_in (i := 778) (by decide +kernel) rfl, wi_MA, ⟨by decide, by decide, by decide⟩, ⟨wk_MA_push, wl_MA_push, rfl, _, _, rfl⟩⟩
  · cases h
    exact ⟨y_MA_closeFrame, c_MA_closeFrame, 1, none, _, 0, ct_MA_closeFrame l D dA lay, rfl, rfl, by decide, by decide, wc_MA_closeFrame, fw_T_in (i := 782) (by decide +kernel) rfl, wi_MA, ⟨by decide, by decide, by decide⟩, ⟨wk_MA_closeFrame, wl_MA_closeFrame, rfl, _, _, rfl⟩⟩
  · cases h
    exact ⟨y_OP_sizeOf, c_OP_sizeOf, 1, (some .int), _, 1, ct_OP_sizeOf l D dA lay, rfl, rfl, by decide, by decide, wc_OP_sizeOf, fw_T_in (i := 838) (by decide +kernel) rfl, wi_OP, ⟨by decide, by decide, by decide⟩, ⟨wk_OP_sizeOf, rfl⟩⟩
  · cases h
def gc_MA_moveDup (idx : Nat) : Option (Nat × Option Nat × am_Wp) := match idx with
  | 174 => some (2, some 8, wp_MA_push)
  | _ => none
def g_MA_moveDup : am_G := (gf_MA, gc_MA_moveDup, (fun _ _ => none), (fun _ => none), none, fun _ _ _ _ => False)
def wp_MA_moveDup : am_Wp := am_wp c_MA_moveDup g_MA_moveDup 2 (none)
theorem mo_MA_moveDup : am_Mo wp_MA_moveDup := am_wp_mono (by
  intro idx n rc w h
  replace h : gc_MA_moveDup idx = some (n, rc, w) := h
  unfold gc_MA_moveDup at h
  split at h
  · cases h
    exact mo_MA_push
  · cases h)
theorem ct_MA_moveDup (l : Launch) (D : va_G) (dA : Nat → ClassId) (lay : Nat → Nat) : fw_Met l D dA lay y_MA_moveDup (Cond.code y_MA_moveDup c_MA_moveDup 2 (none) :: fw_T) { frames := 2, cells := 0, slots := 0, locals := 54 } wp_MA_moveDup := by
  refine fw_met_of (own := R_MA) (by decide) rfl fo_MA ?_ (fun _ _ h => by cases h) (fun _ _ => rfl) rfl (fun _ _ _ _ h => h)
  intro idx n rc w h
  replace h : gc_MA_moveDup idx = some (n, rc, w) := h
  unfold gc_MA_moveDup at h
  split at h
  · cases h
    exact ⟨y_MA_push, c_MA_push, 2, none, _, 1, ct_MA_push l D dA lay, rfl, rfl, by decide, by decide, wc_MA_push, fw_T_in (i := 778) (by decide +kernel) rfl, wi_MA, ⟨by decide, by decide, by decide⟩, ⟨wk_MA_push, wl_MA_push, rfl, _, _, rfl⟩⟩
  · cases h
def gc_MA_moveSwap (idx : Nat) : Option (Nat × Option Nat × am_Wp) := match idx with
  | 174 => some (2, some 8, wp_MA_push)
  | _ => none
def g_MA_moveSwap : am_G := (gf_MA, gc_MA_moveSwap, (fun _ _ => none), (fun _ => none), none, fun _ _ _ _ => False)
def wp_MA_moveSwap : am_Wp := am_wp c_MA_moveSwap g_MA_moveSwap 3 (none)
theorem mo_MA_moveSwap : am_Mo wp_MA_moveSwap := am_wp_mono (by
  intro idx n rc w h
  replace h : gc_MA_moveSwap idx = some (n, rc, w) := h
  unfold gc_MA_moveSwap at h
  split at h
  · cases h
    exact mo_MA_push
  · cases h)
theorem ct_MA_moveSwap (l : Launch) (D : va_G) (dA : Nat → ClassId) (lay : Nat → Nat) : fw_Met l D dA lay y_MA_moveSwap (Cond.code y_MA_moveSwap c_MA_moveSwap 3 (none) :: fw_T) { frames := 2, cells := 0, slots := 0, locals := 54 } wp_MA_moveSwap := by
  refine fw_met_of (own := R_MA) (by decide) rfl fo_MA ?_ (fun _ _ h => by cases h) (fun _ _ => rfl) rfl (fun _ _ _ _ h => h)
  intro idx n rc w h
  replace h : gc_MA_moveSwap idx = some (n, rc, w) := h
  unfold gc_MA_moveSwap at h
  split at h
  · cases h
    exact ⟨y_MA_push, c_MA_push, 2, none, _, 1, ct_MA_push l D dA lay, rfl, rfl, by decide, by decide, wc_MA_push, fw_T_in (i := 778) (by decide +kernel) rfl, wi_MA, ⟨by decide, by decide, by decide⟩, ⟨wk_MA_push, wl_MA_push, rfl, _, _, rfl⟩⟩
  · cases h
def gc_MA_stepMove (idx : Nat) : Option (Nat × Option Nat × am_Wp) := match idx with
  | 153 => some (1, some 8, wp_MA_pop)
  | 174 => some (2, some 8, wp_MA_push)
  | 177 => some (2, some 8, wp_MA_moveDup)
  | 180 => some (3, some 8, wp_MA_moveSwap)
  | _ => none
def g_MA_stepMove : am_G := (gf_MA, gc_MA_stepMove, (fun _ _ => none), (fun _ => none), none, fun _ _ _ _ => False)
def wp_MA_stepMove : am_Wp := am_wp c_MA_stepMove g_MA_stepMove 1 (none)
theorem mo_MA_stepMove : am_Mo wp_MA_stepMove := am_wp_mono (by
  intro idx n rc w h
  replace h : gc_MA_stepMove idx = some (n, rc, w) := h
  unfold gc_MA_stepMove at h
  split at h
  · cases h
    exact mo_MA_pop
  · cases h
    exact mo_MA_push
  · cases h
    exact mo_MA_moveDup
  · cases h
    exact mo_MA_moveSwap
  · cases h)
theorem ct_MA_stepMove (l : Launch) (D : va_G) (dA : Nat → ClassId) (lay : Nat → Nat) : fw_Met l D dA lay y_MA_stepMove (Cond.code y_MA_stepMove c_MA_stepMove 1 (none) :: fw_T) { frames := 3, cells := 0, slots := 0, locals := 81 } wp_MA_stepMove := by
  refine fw_met_of (own := R_MA) (by decide) rfl fo_MA ?_ (fun _ _ h => by cases h) (fun _ _ => rfl) rfl (fun _ _ _ _ h => h)
  intro idx n rc w h
  replace h : gc_MA_stepMove idx = some (n, rc, w) := h
  unfold gc_MA_stepMove at h
  split at h
  · cases h
    exact ⟨y_MA_pop, c_MA_pop, 1, (some .int), _, 0, ct_MA_pop l D dA lay, rfl, rfl, by decide, by decide, wc_MA_pop, fw_T_in (i := 765) (by decide +kernel) rfl, wi_MA, ⟨by decide, by decide, by decide⟩, ⟨wk_MA_pop, wl_MA_pop, rfl, _, _, rfl⟩⟩
  · cases h
    exact ⟨y_MA_push, c_MA_push, 2, none, _, 1, ct_MA_push l D dA lay, rfl, rfl, by decide, by decide, wc_MA_push, fw_T_in (i := 778) (by decide +kernel) rfl, wi_MA, ⟨by decide, by decide, by decide⟩, ⟨wk_MA_push, wl_MA_push, rfl, _, _, rfl⟩⟩
  · cases h
    exact ⟨y_MA_moveDup, c_MA_moveDup, 2, none, _, 1, ct_MA_moveDup l D dA lay, rfl, rfl, by decide, by decide, wc_MA_moveDup, fw_T_in (i := 843) (by decide +kernel) rfl, wi_MA, ⟨by decide, by decide, by decide⟩, ⟨wk_MA_moveDup, wl_MA_moveDup, rfl, _, _, rfl⟩⟩
  · cases h
    exact ⟨y_MA_moveSwap, c_MA_moveSwap, 3, none, _, 2, ct_MA_moveSwap l D dA lay, rfl, rfl, by decide, by decide, wc_MA_moveSwap, fw_T_in (i := 847) (by decide +kernel) rfl, wi_MA, ⟨by decide, by decide, by decide⟩, ⟨wk_MA_moveSwap, wl_MA_moveSwap, rfl, _, _, rfl⟩⟩
  · cases h
def gc_MA_stepOther (idx : Nat) : Option (Nat × Option Nat × am_Wp) := match idx with
  | 147 => some (1, some 8, wp_MA_stepArrayLoad)
  | 150 => some (1, some 8, wp_MA_stepArrayStore)
  | 153 => some (1, some 8, wp_MA_pop)
  | 156 => some (2, some 8, wp_MA_stepNewArray)
  | 159 => some (2, some 8, wp_MA_stepLength)
  | 162 => some (2, some 8, wp_MA_stepCall)
  | 165 => some (2, some 8, wp_MA_leave)
  | 168 => some (1, some 8, wp_MA_stepMove)
  | 171 => some (1, some 8, wp_MA_goOn)
  | _ => none
def g_MA_stepOther : am_G := (gf_MA, gc_MA_stepOther, (fun _ _ => none), (fun _ => none), none, fun _ _ _ _ => False)
def wp_MA_stepOther : am_Wp := am_wp c_MA_stepOther g_MA_stepOther 1 (none)
theorem mo_MA_stepOther : am_Mo wp_MA_stepOther := am_wp_mono (by
  intro idx n rc w h
  replace h : gc_MA_stepOther idx = some (n, rc, w) := h
  unfold gc_MA_stepOther at h
  split at h
  · cases h
    exact mo_MA_stepArrayLoad
  · cases h
    exact mo_MA_stepArrayStore
  · cases h
    exact mo_MA_pop
  · cases h
    exact mo_MA_stepNewArray
  · cases h
    exact mo_MA_stepLength
  · cases h
    exact mo_MA_stepCall
  · cases h
    exact mo_MA_leave
  · cases h
    exact mo_MA_stepMove
  · cases h
    exact mo_MA_goOn
  · cases h)
theorem ct_MA_stepOther (l : Launch) (D : va_G) (dA : Nat → ClassId) (lay : Nat → Nat) : fw_Met l D dA lay y_MA_stepOther (Cond.code y_MA_stepOther c_MA_stepOther 1 (none) :: fw_T) { frames := 4, cells := 0, slots := 0, locals := 108 } wp_MA_stepOther := by
  refine fw_met_of (own := R_MA) (by decide) rfl fo_MA ?_ (fun _ _ h => by cases h) (fun _ _ => rfl) rfl (fun _ _ _ _ h => h)
  intro idx n rc w h
  replace h : gc_MA_stepOther idx = some (n, rc, w) := h
  unfold gc_MA_stepOther at h
  split at h
  · cases h
    exact ⟨y_MA_stepArrayLoad, c_MA_stepArrayLoad, 4, none, _, 0, ct_MA_stepArrayLoad l D dA lay, rfl, rfl, by decide, by decide, wc_MA_stepArrayLoad, fw_T_in (i := 810) (by decide +kernel) rfl, wi_MA, ⟨by decide, by decide, by decide⟩, ⟨wk_MA_stepArrayLoad, wl_MA_stepArrayLoad, rfl, _, _, rfl⟩⟩
  · cases h
    exact ⟨y_MA_stepArrayStore, c_MA_stepArrayStore, 5, none, _, 0, ct_MA_stepArrayStore l D dA lay, rfl, rfl, by decide, by decide, wc_MA_stepArrayStore, fw_T_in (i := 818) (by decide +kernel) rfl, wi_MA, ⟨by decide, by decide, by decide⟩, ⟨wk_MA_stepArrayStore, wl_MA_stepArrayStore, rfl, _, _, rfl⟩⟩
  · cases h
    exact ⟨y_MA_pop, c_MA_pop, 1, (some .int), _, 0, ct_MA_pop l D dA lay, rfl, rfl, by decide, by decide, wc_MA_pop, fw_T_in (i := 765) (by decide +kernel) rfl, wi_MA, ⟨by decide, by decide, by decide⟩, ⟨wk_MA_pop, wl_MA_pop, rfl, _, _, rfl⟩⟩
  · cases h
    exact ⟨y_MA_stepNewArray, c_MA_stepNewArray, 4, none, _, 1, ct_MA_stepNewArray l D dA lay, rfl, rfl, by decide, by decide, wc_MA_stepNewArray, fw_T_in (i := 822) (by decide +kernel) rfl, wi_MA, ⟨by decide, by decide, by decide⟩, ⟨wk_MA_stepNewArray, wl_MA_stepNewArray, rfl, _, _, rfl⟩⟩
  · cases h
    exact ⟨y_MA_stepLength, c_MA_stepLength, 2, none, _, 1, ct_MA_stepLength l D dA lay, rfl, rfl, by decide, by decide, wc_MA_stepLength, fw_T_in (i := 826) (by decide +kernel) rfl, wi_MA, ⟨by decide, by decide, by decide⟩, ⟨wk_MA_stepLength, wl_MA_stepLength, rfl, _, _, rfl⟩⟩
  · cases h
    exact ⟨y_MA_stepCall, c_MA_stepCall, 4, none, _, 1, ct_MA_stepCall l D dA lay, rfl, rfl, by decide, by decide, wc_MA_stepCall, fw_T_in (i := 830) (by decide +kernel) rfl, wi_MA, ⟨by decide, by decide, by decide⟩, ⟨wk_MA_stepCall, wl_MA_stepCall, rfl, _, _, rfl⟩⟩
  · cases h
    exact ⟨y_MA_leave, c_MA_leave, 3, none, _, 1, ct_MA_leave l D dA lay, rfl, rfl, by decide, by decide, wc_MA_leave, fw_T_in (i := 834) (by decide +kernel) rfl, wi_MA, ⟨by decide, by decide, by decide⟩, ⟨wk_MA_leave, wl_MA_leave, rfl, _, _, rfl⟩⟩
  · cases h
    exact ⟨y_MA_stepMove, c_MA_stepMove, 1, none, _, 0, ct_MA_stepMove l D dA lay, rfl, rfl, by decide, by decide, wc_MA_stepMove, fw_T_in (i := 839) (by decide +kernel) rfl, wi_MA, ⟨by decide, by decide, by decide⟩, ⟨wk_MA_stepMove, wl_MA_stepMove, rfl, _, _, rfl⟩⟩
  · cases h
    exact ⟨y_MA_goOn, c_MA_goOn, 1, none, _, 0, ct_MA_goOn l D dA lay, rfl, rfl, by decide, by decide, wc_MA_goOn, fw_T_in (i := 789) (by decide +kernel) rfl, wi_MA, ⟨by decide, by decide, by decide⟩, ⟨wk_MA_goOn, wl_MA_goOn, rfl, _, _, rfl⟩⟩
  · cases h
def gc_MA_step (idx : Nat) : Option (Nat × Option Nat × am_Wp) := match idx with
  | 113 => some (3, some 3, wp_IN_read)
  | 120 => some (1, none, wp_OP_isCalculation)
  | 126 => some (1, some 8, wp_MA_stepCalculation)
  | 129 => some (1, none, wp_OP_isJump)
  | 132 => some (2, some 8, wp_MA_isTaken)
  | 138 => some (1, none, wp_OP_usesLocal)
  | 141 => some (2, some 8, wp_MA_stepLocal)
  | 144 => some (1, some 8, wp_MA_stepOther)
  | _ => none
def g_MA_step : am_G := (gf_MA, gc_MA_step, (fun _ _ => none), (fun _ => none), none, fun _ _ _ _ => False)
def wp_MA_step : am_Wp := am_wp c_MA_step g_MA_step 1 (none)
theorem mo_MA_step : am_Mo wp_MA_step := am_wp_mono (by
  intro idx n rc w h
  replace h : gc_MA_step idx = some (n, rc, w) := h
  unfold gc_MA_step at h
  split at h
  · cases h
    exact mo_IN_read
  · cases h
    exact mo_OP_isCalculation
  · cases h
    exact mo_MA_stepCalculation
  · cases h
    exact mo_OP_isJump
  · cases h
    exact mo_MA_isTaken
  · cases h
    exact mo_OP_usesLocal
  · cases h
    exact mo_MA_stepLocal
  · cases h
    exact mo_MA_stepOther
  · cases h)
theorem ct_MA_step (l : Launch) (D : va_G) (dA : Nat → ClassId) (lay : Nat → Nat) : fw_Met l D dA lay y_MA_step (Cond.code y_MA_step c_MA_step 1 (none) :: fw_T) { frames := 5, cells := 0, slots := 0, locals := 135 } wp_MA_step := by
  refine fw_met_of (own := R_MA) (by decide) rfl fo_MA ?_ (fun _ _ h => by cases h) (fun _ _ => rfl) rfl (fun _ _ _ _ h => h)
  intro idx n rc w h
  replace h : gc_MA_step idx = some (n, rc, w) := h
  unfold gc_MA_step at h
  split at h
  · cases h
    exact ⟨y_IN_read, c_IN_read, 5, none, _, 2, ct_IN_read l D dA lay, rfl, rfl, by decide, by decide, wc_IN_read, fw_T_in (i := 759) (by decide +kernel) rfl, wi_IN, ⟨by decide, by decide, by decide⟩, ⟨wk_IN_read, wl_IN_read, rfl, _, _, rfl⟩⟩
  · cases h
    exact ⟨y_OP_isCalculation, c_OP_isCalculation, 1, (some .boolean), _, 1, ct_OP_isCalculation l D dA lay, rfl, rfl, by decide, by decide, wc_OP_isCalculation, fw_T_in (i := 760) (by decide +kernel) rfl, wi_OP, ⟨by decide, by decide, by decide⟩, ⟨wk_OP_isCalculation, rfl⟩⟩
  · cases h
    exact ⟨y_MA_stepCalculation, c_MA_stepCalculation, 3, none, _, 0, ct_MA_stepCalculation l D dA lay, rfl, rfl, by decide, by decide, wc_MA_stepCalculation, fw_T_in (i := 761) (by decide +kernel) rfl, wi_MA, ⟨by decide, by decide, by decide⟩, ⟨wk_MA_stepCalculation, wl_MA_stepCalculation, rfl, _, _, rfl⟩⟩
  · cases h
    exact ⟨y_OP_isJump, c_OP_isJump, 1, (some .boolean), _, 1, ct_OP_isJump l D dA lay, rfl, rfl, by decide, by decide, wc_OP_isJump, fw_T_in (i := 793) (by decide +kernel) rfl, wi_OP, ⟨by decide, by decide, by decide⟩, ⟨wk_OP_isJump, rfl⟩⟩
  · cases h
    exact ⟨y_MA_isTaken, c_MA_isTaken, 3, (some .boolean), _, 1, ct_MA_isTaken l D dA lay, rfl, rfl, by decide, by decide, wc_MA_isTaken, fw_T_in (i := 794) (by decide +kernel) rfl, wi_MA, ⟨by decide, by decide, by decide⟩, ⟨wk_MA_isTaken, wl_MA_isTaken, rfl, _, _, rfl⟩⟩
  · cases h
    exact ⟨y_OP_usesLocal, c_OP_usesLocal, 1, (some .boolean), _, 1, ct_OP_usesLocal l D dA lay, rfl, rfl, by decide, by decide, wc_OP_usesLocal, fw_T_in (i := 801) (by decide +kernel) rfl, wi_OP, ⟨by decide, by decide, by decide⟩, ⟨wk_OP_usesLocal, rfl⟩⟩
  · cases h
    exact ⟨y_MA_stepLocal, c_MA_stepLocal, 2, none, _, 1, ct_MA_stepLocal l D dA lay, rfl, rfl, by decide, by decide, wc_MA_stepLocal, fw_T_in (i := 802) (by decide +kernel) rfl, wi_MA, ⟨by decide, by decide, by decide⟩, ⟨wk_MA_stepLocal, wl_MA_stepLocal, rfl, _, _, rfl⟩⟩
  · cases h
    exact ⟨y_MA_stepOther, c_MA_stepOther, 1, none, _, 0, ct_MA_stepOther l D dA lay, rfl, rfl, by decide, by decide, wc_MA_stepOther, fw_T_in (i := 806) (by decide +kernel) rfl, wi_MA, ⟨by decide, by decide, by decide⟩, ⟨wk_MA_stepOther, wl_MA_stepOther, rfl, _, _, rfl⟩⟩
  · cases h
def gc_FW_run (idx : Nat) : Option (Nat × Option Nat × am_Wp) := match idx with
  | 114 => some (1, some 8, wp_MA_isRunning)
  | 118 => some (1, some 8, wp_MA_step)
  | _ => none
def g_FW_run : am_G := (gf_FW, gc_FW_run, (fun ik ic => if ik = 72 ∧ ic = 74 then some 1 else none), (fun _ => none), none, fun _ _ _ _ => False)
def wp_FW_run : am_Wp := am_wp c_FW_run g_FW_run 3 ((some .int))
theorem mo_FW_run : am_Mo wp_FW_run := am_wp_mono (by
  intro idx n rc w h
  replace h : gc_FW_run idx = some (n, rc, w) := h
  unfold gc_FW_run at h
  split at h
  · cases h
    exact mo_MA_isRunning
  · cases h
    exact mo_MA_step
  · cases h)
def g_FW_state : am_G := (gf_FW, (fun _ => none), (fun _ _ => none), (fun _ => none), none, fun _ _ _ _ => False)
def wp_FW_state : am_Wp := am_wp c_FW_state g_FW_state 1 ((some .int))
theorem mo_FW_state : am_Mo wp_FW_state := am_wp_mono (fun idx n rc w h => by cases h)
theorem ct_FW_state (l : Launch) (D : va_G) (dA : Nat → ClassId) (lay : Nat → Nat) : fw_Met l D dA lay y_FW_state (Cond.code y_FW_state c_FW_state 1 ((some .int)) :: fw_T) { frames := 0, cells := 0, slots := 0, locals := 0 } wp_FW_state := by
  exact fw_met_of (own := R_FW) (by decide) rfl fo_FW (fun idx n rc w h => by cases h) (fun _ _ h => by cases h) (fun _ _ => rfl) rfl (fun _ _ _ _ h => h)
def g_FW_result : am_G := (gf_FW, (fun _ => none), (fun _ _ => none), (fun _ => none), none, fun _ _ _ _ => False)
def wp_FW_result : am_Wp := am_wp c_FW_result g_FW_result 1 ((some .int))
theorem mo_FW_result : am_Mo wp_FW_result := am_wp_mono (fun idx n rc w h => by cases h)
theorem ct_FW_result (l : Launch) (D : va_G) (dA : Nat → ClassId) (lay : Nat → Nat) : fw_Met l D dA lay y_FW_result (Cond.code y_FW_result c_FW_result 1 ((some .int)) :: fw_T) { frames := 0, cells := 0, slots := 0, locals := 0 } wp_FW_result := by
  exact fw_met_of (own := R_FW) (by decide) rfl fo_FW (fun idx n rc w h => by cases h) (fun _ _ h => by cases h) (fun _ _ => rfl) rfl (fun _ _ _ _ h => h)
def g_FW_depth : am_G := (gf_FW, (fun _ => none), (fun _ _ => none), (fun _ => none), none, fun _ _ _ _ => False)
def wp_FW_depth : am_Wp := am_wp c_FW_depth g_FW_depth 1 ((some .int))
theorem mo_FW_depth : am_Mo wp_FW_depth := am_wp_mono (fun idx n rc w h => by cases h)
theorem ct_FW_depth (l : Launch) (D : va_G) (dA : Nat → ClassId) (lay : Nat → Nat) : fw_Met l D dA lay y_FW_depth (Cond.code y_FW_depth c_FW_depth 1 ((some .int)) :: fw_T) { frames := 0, cells := 0, slots := 0, locals := 0 } wp_FW_depth := by
  exact fw_met_of (own := R_FW) (by decide) rfl fo_FW (fun idx n rc w h => by cases h) (fun _ _ h => by cases h) (fun _ _ => rfl) rfl (fun _ _ _ _ h => h)
def g_MA_frameBelow : am_G := (gf_MA, (fun _ => none), (fun _ _ => none), (fun _ => none), none, fun _ _ _ _ => False)
def wp_MA_frameBelow : am_Wp := am_wp c_MA_frameBelow g_MA_frameBelow 2 ((some (.object "FrameWalk$Frame")))
theorem mo_MA_frameBelow : am_Mo wp_MA_frameBelow := am_wp_mono (fun idx n rc w h => by cases h)
theorem ct_MA_frameBelow (l : Launch) (D : va_G) (dA : Nat → ClassId) (lay : Nat → Nat) : fw_Met l D dA lay y_MA_frameBelow (Cond.code y_MA_frameBelow c_MA_frameBelow 2 ((some (.object "FrameWalk$Frame"))) :: fw_T) { frames := 0, cells := 0, slots := 0, locals := 0 } wp_MA_frameBelow := by
  exact fw_met_of (own := R_MA) (by decide) rfl fo_MA (fun idx n rc w h => by cases h) (fun _ _ h => by cases h) (fun _ _ => rfl) rfl (fun _ _ _ _ h => h)
def gc_FW_frame (idx : Nat) : Option (Nat × Option Nat × am_Wp) := match idx with
  | 130 => some (2, some 8, wp_MA_frameBelow)
  | _ => none
def g_FW_frame : am_G := (gf_FW, gc_FW_frame, (fun _ _ => none), (fun _ => none), none, fun _ _ _ _ => False)
def wp_FW_frame : am_Wp := am_wp c_FW_frame g_FW_frame 4 ((some .int))
theorem mo_FW_frame : am_Mo wp_FW_frame := am_wp_mono (by
  intro idx n rc w h
  replace h : gc_FW_frame idx = some (n, rc, w) := h
  unfold gc_FW_frame at h
  split at h
  · cases h
    exact mo_MA_frameBelow
  · cases h)
theorem ct_FW_frame (l : Launch) (D : va_G) (dA : Nat → ClassId) (lay : Nat → Nat) : fw_Met l D dA lay y_FW_frame (Cond.code y_FW_frame c_FW_frame 4 ((some .int)) :: fw_T) { frames := 1, cells := 0, slots := 0, locals := 27 } wp_FW_frame := by
  refine fw_met_of (own := R_FW) (by decide) rfl fo_FW ?_ (fun _ _ h => by cases h) (fun _ _ => rfl) rfl (fun _ _ _ _ h => h)
  intro idx n rc w h
  replace h : gc_FW_frame idx = some (n, rc, w) := h
  unfold gc_FW_frame at h
  split at h
  · cases h
    exact ⟨y_MA_frameBelow, c_MA_frameBelow, 2, (some (.object "FrameWalk$Frame")), _, 1, ct_MA_frameBelow l D dA lay, rfl, rfl, by decide, by decide, wc_MA_frameBelow, fw_T_in (i := 379) (by decide +kernel) rfl, wi_MA, ⟨by decide, by decide, by decide⟩, ⟨wk_MA_frameBelow, wl_MA_frameBelow, rfl, _, _, rfl⟩⟩
  · cases h
def g_MA_showLocal : am_G := (gf_MA, (fun _ => none), (fun _ _ => none), (fun _ => none), none, fun _ _ _ _ => False)
def wp_MA_showLocal : am_Wp := am_wp c_MA_showLocal g_MA_showLocal 2 ((some .int))
theorem mo_MA_showLocal : am_Mo wp_MA_showLocal := am_wp_mono (fun idx n rc w h => by cases h)
theorem ct_MA_showLocal (l : Launch) (D : va_G) (dA : Nat → ClassId) (lay : Nat → Nat) : fw_Met l D dA lay y_MA_showLocal (Cond.code y_MA_showLocal c_MA_showLocal 2 ((some .int)) :: fw_T) { frames := 0, cells := 0, slots := 0, locals := 0 } wp_MA_showLocal := by
  exact fw_met_of (own := R_MA) (by decide) rfl fo_MA (fun idx n rc w h => by cases h) (fun _ _ h => by cases h) (fun _ _ => rfl) rfl (fun _ _ _ _ h => h)
def gc_FW_local (idx : Nat) : Option (Nat × Option Nat × am_Wp) := match idx with
  | 149 => some (2, some 8, wp_MA_showLocal)
  | _ => none
def g_FW_local : am_G := (gf_FW, gc_FW_local, (fun _ _ => none), (fun _ => none), none, fun _ _ _ _ => False)
def wp_FW_local : am_Wp := am_wp c_FW_local g_FW_local 2 ((some .int))
theorem mo_FW_local : am_Mo wp_FW_local := am_wp_mono (by
  intro idx n rc w h
  replace h : gc_FW_local idx = some (n, rc, w) := h
  unfold gc_FW_local at h
  split at h
  · cases h
    exact mo_MA_showLocal
  · cases h)
theorem ct_FW_local (l : Launch) (D : va_G) (dA : Nat → ClassId) (lay : Nat → Nat) : fw_Met l D dA lay y_FW_local (Cond.code y_FW_local c_FW_local 2 ((some .int)) :: fw_T) { frames := 1, cells := 0, slots := 0, locals := 27 } wp_FW_local := by
  refine fw_met_of (own := R_FW) (by decide) rfl fo_FW ?_ (fun _ _ h => by cases h) (fun _ _ => rfl) rfl (fun _ _ _ _ h => h)
  intro idx n rc w h
  replace h : gc_FW_local idx = some (n, rc, w) := h
  unfold gc_FW_local at h
  split at h
  · cases h
    exact ⟨y_MA_showLocal, c_MA_showLocal, 2, (some .int), _, 1, ct_MA_showLocal l D dA lay, rfl, rfl, by decide, by decide, wc_MA_showLocal, fw_T_in (i := 387) (by decide +kernel) rfl, wi_MA, ⟨by decide, by decide, by decide⟩, ⟨wk_MA_showLocal, wl_MA_showLocal, rfl, _, _, rfl⟩⟩
  · cases h
def gc_MA_showStack (idx : Nat) : Option (Nat × Option Nat × am_Wp) := match idx with
  | 101 => some (1, some 0, wp_FR_firstStackCell)
  | _ => none
def g_MA_showStack : am_G := (gf_MA, gc_MA_showStack, (fun _ _ => none), (fun _ => none), none, fun _ _ _ _ => False)
def wp_MA_showStack : am_Wp := am_wp c_MA_showStack g_MA_showStack 2 ((some .int))
theorem mo_MA_showStack : am_Mo wp_MA_showStack := am_wp_mono (by
  intro idx n rc w h
  replace h : gc_MA_showStack idx = some (n, rc, w) := h
  unfold gc_MA_showStack at h
  split at h
  · cases h
    exact mo_FR_firstStackCell
  · cases h)
theorem ct_MA_showStack (l : Launch) (D : va_G) (dA : Nat → ClassId) (lay : Nat → Nat) : fw_Met l D dA lay y_MA_showStack (Cond.code y_MA_showStack c_MA_showStack 2 ((some .int)) :: fw_T) { frames := 1, cells := 0, slots := 0, locals := 27 } wp_MA_showStack := by
  refine fw_met_of (own := R_MA) (by decide) rfl fo_MA ?_ (fun _ _ h => by cases h) (fun _ _ => rfl) rfl (fun _ _ _ _ h => h)
  intro idx n rc w h
  replace h : gc_MA_showStack idx = some (n, rc, w) := h
  unfold gc_MA_showStack at h
  split at h
  · cases h
    exact ⟨y_FR_firstStackCell, c_FR_firstStackCell, 1, (some .int), _, 0, ct_FR_firstStackCell l D dA lay, rfl, rfl, by decide, by decide, wc_FR_firstStackCell, fw_T_in (i := 399) (by decide +kernel) rfl, wi_FR, ⟨by decide, by decide, by decide⟩, ⟨wk_FR_firstStackCell, wl_FR_firstStackCell, rfl, _, _, rfl⟩⟩
  · cases h
def gc_FW_stack (idx : Nat) : Option (Nat × Option Nat × am_Wp) := match idx with
  | 153 => some (2, some 8, wp_MA_showStack)
  | _ => none
def g_FW_stack : am_G := (gf_FW, gc_FW_stack, (fun _ _ => none), (fun _ => none), none, fun _ _ _ _ => False)
def wp_FW_stack : am_Wp := am_wp c_FW_stack g_FW_stack 2 ((some .int))
theorem mo_FW_stack : am_Mo wp_FW_stack := am_wp_mono (by
  intro idx n rc w h
  replace h : gc_FW_stack idx = some (n, rc, w) := h
  unfold gc_FW_stack at h
  split at h
  · cases h
    exact mo_MA_showStack
  · cases h)
theorem ct_FW_stack (l : Launch) (D : va_G) (dA : Nat → ClassId) (lay : Nat → Nat) : fw_Met l D dA lay y_FW_stack (Cond.code y_FW_stack c_FW_stack 2 ((some .int)) :: fw_T) { frames := 2, cells := 0, slots := 0, locals := 54 } wp_FW_stack := by
  refine fw_met_of (own := R_FW) (by decide) rfl fo_FW ?_ (fun _ _ h => by cases h) (fun _ _ => rfl) rfl (fun _ _ _ _ h => h)
  intro idx n rc w h
  replace h : gc_FW_stack idx = some (n, rc, w) := h
  unfold gc_FW_stack at h
  split at h
  · cases h
    exact ⟨y_MA_showStack, c_MA_showStack, 2, (some .int), _, 1, ct_MA_showStack l D dA lay, rfl, rfl, by decide, by decide, wc_MA_showStack, fw_T_in (i := 395) (by decide +kernel) rfl, wi_MA, ⟨by decide, by decide, by decide⟩, ⟨wk_MA_showStack, wl_MA_showStack, rfl, _, _, rfl⟩⟩
  · cases h
def g_MA_showStatic : am_G := (gf_MA, (fun _ => none), (fun _ _ => none), (fun _ => none), none, fun _ _ _ _ => False)
def wp_MA_showStatic : am_Wp := am_wp c_MA_showStatic g_MA_showStatic 2 ((some .int))
theorem mo_MA_showStatic : am_Mo wp_MA_showStatic := am_wp_mono (fun idx n rc w h => by cases h)
theorem ct_MA_showStatic (l : Launch) (D : va_G) (dA : Nat → ClassId) (lay : Nat → Nat) : fw_Met l D dA lay y_MA_showStatic (Cond.code y_MA_showStatic c_MA_showStatic 2 ((some .int)) :: fw_T) { frames := 0, cells := 0, slots := 0, locals := 0 } wp_MA_showStatic := by
  exact fw_met_of (own := R_MA) (by decide) rfl fo_MA (fun idx n rc w h => by cases h) (fun _ _ h => by cases h) (fun _ _ => rfl) rfl (fun _ _ _ _ h => h)
def gc_FW_getStatic (idx : Nat) : Option (Nat × Option Nat × am_Wp) := match idx with
  | 156 => some (2, some 8, wp_MA_showStatic)
  | _ => none
def g_FW_getStatic : am_G := (gf_FW, gc_FW_getStatic, (fun _ _ => none), (fun _ => none), none, fun _ _ _ _ => False)
def wp_FW_getStatic : am_Wp := am_wp c_FW_getStatic g_FW_getStatic 2 ((some .int))
theorem mo_FW_getStatic : am_Mo wp_FW_getStatic := am_wp_mono (by
  intro idx n rc w h
  replace h : gc_FW_getStatic idx = some (n, rc, w) := h
  unfold gc_FW_getStatic at h
  split at h
  · cases h
    exact mo_MA_showStatic
  · cases h)
theorem ct_FW_getStatic (l : Launch) (D : va_G) (dA : Nat → ClassId) (lay : Nat → Nat) : fw_Met l D dA lay y_FW_getStatic (Cond.code y_FW_getStatic c_FW_getStatic 2 ((some .int)) :: fw_T) { frames := 1, cells := 0, slots := 0, locals := 27 } wp_FW_getStatic := by
  refine fw_met_of (own := R_FW) (by decide) rfl fo_FW ?_ (fun _ _ h => by cases h) (fun _ _ => rfl) rfl (fun _ _ _ _ h => h)
  intro idx n rc w h
  replace h : gc_FW_getStatic idx = some (n, rc, w) := h
  unfold gc_FW_getStatic at h
  split at h
  · cases h
    exact ⟨y_MA_showStatic, c_MA_showStatic, 2, (some .int), _, 1, ct_MA_showStatic l D dA lay, rfl, rfl, by decide, by decide, wc_MA_showStatic, fw_T_in (i := 407) (by decide +kernel) rfl, wi_MA, ⟨by decide, by decide, by decide⟩, ⟨wk_MA_showStatic, wl_MA_showStatic, rfl, _, _, rfl⟩⟩
  · cases h
def g_MA_showHeap : am_G := (gf_MA, (fun _ => none), (fun _ _ => none), (fun _ => none), none, fun _ _ _ _ => False)
def wp_MA_showHeap : am_Wp := am_wp c_MA_showHeap g_MA_showHeap 2 ((some .int))
theorem mo_MA_showHeap : am_Mo wp_MA_showHeap := am_wp_mono (fun idx n rc w h => by cases h)
theorem ct_MA_showHeap (l : Launch) (D : va_G) (dA : Nat → ClassId) (lay : Nat → Nat) : fw_Met l D dA lay y_MA_showHeap (Cond.code y_MA_showHeap c_MA_showHeap 2 ((some .int)) :: fw_T) { frames := 0, cells := 0, slots := 0, locals := 0 } wp_MA_showHeap := by
  exact fw_met_of (own := R_MA) (by decide) rfl fo_MA (fun idx n rc w h => by cases h) (fun _ _ h => by cases h) (fun _ _ => rfl) rfl (fun _ _ _ _ h => h)
def gc_FW_heap (idx : Nat) : Option (Nat × Option Nat × am_Wp) := match idx with
  | 162 => some (2, some 8, wp_MA_showHeap)
  | _ => none
def g_FW_heap : am_G := (gf_FW, gc_FW_heap, (fun _ _ => none), (fun _ => none), none, fun _ _ _ _ => False)
def wp_FW_heap : am_Wp := am_wp c_FW_heap g_FW_heap 2 ((some .int))
theorem mo_FW_heap : am_Mo wp_FW_heap := am_wp_mono (by
  intro idx n rc w h
  replace h : gc_FW_heap idx = some (n, rc, w) := h
  unfold gc_FW_heap at h
  split at h
  · cases h
    exact mo_MA_showHeap
  · cases h)
theorem ct_FW_heap (l : Launch) (D : va_G) (dA : Nat → ClassId) (lay : Nat → Nat) : fw_Met l D dA lay y_FW_heap (Cond.code y_FW_heap c_FW_heap 2 ((some .int)) :: fw_T) { frames := 1, cells := 0, slots := 0, locals := 27 } wp_FW_heap := by
  refine fw_met_of (own := R_FW) (by decide) rfl fo_FW ?_ (fun _ _ h => by cases h) (fun _ _ => rfl) rfl (fun _ _ _ _ h => h)
  intro idx n rc w h
  replace h : gc_FW_heap idx = some (n, rc, w) := h
  unfold gc_FW_heap at h
  split at h
  · cases h
    exact ⟨y_MA_showHeap, c_MA_showHeap, 2, (some .int), _, 1, ct_MA_showHeap l D dA lay, rfl, rfl, by decide, by decide, wc_MA_showHeap, fw_T_in (i := 415) (by decide +kernel) rfl, wi_MA, ⟨by decide, by decide, by decide⟩, ⟨wk_MA_showHeap, wl_MA_showHeap, rfl, _, _, rfl⟩⟩
  · cases h
def gc_FL_showType (idx : Nat) : Option (Nat × Option Nat × am_Wp) := match idx with
  | 179 => some (2, none, wp_TY_at)
  | _ => none
def g_FL_showType : am_G := (gf_FL, gc_FL_showType, (fun _ _ => none), (fun _ => none), none, fun _ _ _ _ => False)
def wp_FL_showType : am_Wp := am_wp c_FL_showType g_FL_showType 5 ((some .int))
theorem mo_FL_showType : am_Mo wp_FL_showType := am_wp_mono (by
  intro idx n rc w h
  replace h : gc_FL_showType idx = some (n, rc, w) := h
  unfold gc_FL_showType at h
  split at h
  · cases h
    exact mo_TY_at
  · cases h)
theorem ct_FL_showType (l : Launch) (D : va_G) (dA : Nat → ClassId) (lay : Nat → Nat) : fw_Met l D dA lay y_FL_showType (Cond.code y_FL_showType c_FL_showType 5 ((some .int)) :: fw_T) { frames := 1, cells := 0, slots := 0, locals := 27 } wp_FL_showType := by
  refine fw_met_of (own := R_FL) (by decide) rfl fo_FL ?_ (fun _ _ h => by cases h) (fun _ _ => rfl) rfl (fun _ _ _ _ h => h)
  intro idx n rc w h
  replace h : gc_FL_showType idx = some (n, rc, w) := h
  unfold gc_FL_showType at h
  split at h
  · cases h
    exact ⟨y_TY_at, c_TY_at, 2, (some .int), _, 2, ct_TY_at l D dA lay, rfl, rfl, by decide, by decide, wc_TY_at, fw_T_in (i := 431) (by decide +kernel) rfl, wi_TY, ⟨by decide, by decide, by decide⟩, ⟨wk_TY_at, rfl⟩⟩
  · cases h
def gc_FW_type (idx : Nat) : Option (Nat × Option Nat × am_Wp) := match idx with
  | 102 => some (2, some 5, wp_CO_hasMethod)
  | 165 => some (4, some 7, wp_FL_showType)
  | _ => none
def g_FW_type : am_G := (gf_FW, gc_FW_type, (fun _ _ => none), (fun _ => none), none, fun _ _ _ _ => False)
def wp_FW_type : am_Wp := am_wp c_FW_type g_FW_type 4 ((some .int))
theorem mo_FW_type : am_Mo wp_FW_type := am_wp_mono (by
  intro idx n rc w h
  replace h : gc_FW_type idx = some (n, rc, w) := h
  unfold gc_FW_type at h
  split at h
  · cases h
    exact mo_CO_hasMethod
  · cases h
    exact mo_FL_showType
  · cases h)
theorem ct_FW_type (l : Launch) (D : va_G) (dA : Nat → ClassId) (lay : Nat → Nat) : fw_Met l D dA lay y_FW_type (Cond.code y_FW_type c_FW_type 4 ((some .int)) :: fw_T) { frames := 2, cells := 0, slots := 0, locals := 54 } wp_FW_type := by
  refine fw_met_of (own := R_FW) (by decide) rfl fo_FW ?_ (fun _ _ h => by cases h) (fun _ _ => rfl) rfl (fun _ _ _ _ h => h)
  intro idx n rc w h
  replace h : gc_FW_type idx = some (n, rc, w) := h
  unfold gc_FW_type at h
  split at h
  · cases h
    exact ⟨y_CO_hasMethod, c_CO_hasMethod, 2, (some .boolean), _, 1, ct_CO_hasMethod l D dA lay, rfl, rfl, by decide, by decide, wc_CO_hasMethod, fw_T_in (i := 423) (by decide +kernel) rfl, wi_CO, ⟨by decide, by decide, by decide⟩, ⟨wk_CO_hasMethod, wl_CO_hasMethod, rfl, _, _, rfl⟩⟩
  · cases h
    exact ⟨y_FL_showType, c_FL_showType, 5, (some .int), _, 3, ct_FL_showType l D dA lay, rfl, rfl, by decide, by decide, wc_FL_showType, fw_T_in (i := 427) (by decide +kernel) rfl, wi_FL, ⟨by decide, by decide, by decide⟩, ⟨wk_FL_showType, wl_FL_showType, rfl, _, _, rfl⟩⟩
  · cases h
def g_MO_thrown : am_G := (gf_MO, (fun _ => none), (fun _ _ => none), (fun _ => none), none, fun _ _ _ _ => False)
def wp_MO_thrown : am_Wp := am_wp c_MO_thrown g_MO_thrown 1 ((some .int))
theorem mo_MO_thrown : am_Mo wp_MO_thrown := am_wp_mono (fun idx n rc w h => by cases h)
theorem ct_MO_thrown (l : Launch) (D : va_G) (dA : Nat → ClassId) (lay : Nat → Nat) : fw_Met l D dA lay y_MO_thrown (Cond.code y_MO_thrown c_MO_thrown 1 ((some .int)) :: fw_T) { frames := 0, cells := 0, slots := 0, locals := 0 } wp_MO_thrown := by
  exact fw_met_of (own := R_MO) (by decide) rfl fo_MO (fun idx n rc w h => by cases h) (fun _ _ h => by cases h) (fun _ _ => rfl) rfl (fun _ _ _ _ h => h)
def g_MO_in : am_G := (gf_MO, (fun _ => none), (fun _ _ => none), (fun _ => none), none, fun _ _ _ _ => False)
def wp_MO_in : am_Wp := am_wp c_MO_in g_MO_in 3 ((some .boolean))
theorem mo_MO_in : am_Mo wp_MO_in := am_wp_mono (fun idx n rc w h => by cases h)
theorem ct_MO_in (l : Launch) (D : va_G) (dA : Nat → ClassId) (lay : Nat → Nat) : fw_Met l D dA lay y_MO_in (Cond.code y_MO_in c_MO_in 3 ((some .boolean)) :: fw_T) { frames := 0, cells := 0, slots := 0, locals := 0 } wp_MO_in := by
  exact fw_met_of (own := R_MO) (by decide) rfl fo_MO (fun idx n rc w h => by cases h) (fun _ _ h => by cases h) (fun _ _ => rfl) rfl (fun _ _ _ _ h => h)
def g_MO_feed : am_G := (gf_MO, (fun _ => none), (fun _ _ => none), (fun _ => none), none, fun _ _ _ _ => False)
def wp_MO_feed : am_Wp := am_wp c_MO_feed g_MO_feed 2 ((some .int))
theorem mo_MO_feed : am_Mo wp_MO_feed := am_wp_mono (fun idx n rc w h => by cases h)
theorem ct_MO_feed (l : Launch) (D : va_G) (dA : Nat → ClassId) (lay : Nat → Nat) : fw_Met l D dA lay y_MO_feed (Cond.code y_MO_feed c_MO_feed 2 ((some .int)) :: fw_T) { frames := 0, cells := 0, slots := 0, locals := 0 } wp_MO_feed := by
  exact fw_met_of (own := R_MO) (by decide) rfl fo_MO (fun idx n rc w h => by cases h) (fun _ _ h => by cases h) (fun _ _ => rfl) rfl (fun _ _ _ _ h => h)
def gc_MO_method (idx : Nat) : Option (Nat × Option Nat × am_Wp) := match idx with
  | 100 => some (3, none, wp_MO_in)
  | _ => none
def g_MO_method : am_G := (gf_MO, gc_MO_method, (fun _ _ => none), (fun _ => none), none, fun _ _ _ _ => False)
def wp_MO_method : am_Wp := am_wp c_MO_method g_MO_method 8 ((some .int))
theorem mo_MO_method : am_Mo wp_MO_method := am_wp_mono (by
  intro idx n rc w h
  replace h : gc_MO_method idx = some (n, rc, w) := h
  unfold gc_MO_method at h
  split at h
  · cases h
    exact mo_MO_in
  · cases h)
theorem ct_MO_method (l : Launch) (D : va_G) (dA : Nat → ClassId) (lay : Nat → Nat) : fw_Met l D dA lay y_MO_method (Cond.code y_MO_method c_MO_method 8 ((some .int)) :: fw_T) { frames := 1, cells := 0, slots := 0, locals := 27 } wp_MO_method := by
  refine fw_met_of (own := R_MO) (by decide) rfl fo_MO ?_ (fun _ _ h => by cases h) (fun _ _ => rfl) rfl (fun _ _ _ _ h => h)
  intro idx n rc w h
  replace h : gc_MO_method idx = some (n, rc, w) := h
  unfold gc_MO_method at h
  split at h
  · cases h
    exact ⟨y_MO_in, c_MO_in, 3, (some .boolean), _, 3, ct_MO_in l D dA lay, rfl, rfl, by decide, by decide, wc_MO_in, fw_T_in (i := 987) (by decide +kernel) rfl, wi_MO, ⟨by decide, by decide, by decide⟩, ⟨wk_MO_in, rfl⟩⟩
  · cases h
def g_MO_handler : am_G := (gf_MO, (fun _ => none), (fun _ _ => none), (fun _ => none), none, fun _ _ _ _ => False)
def wp_MO_handler : am_Wp := am_wp c_MO_handler g_MO_handler 6 ((some .boolean))
theorem mo_MO_handler : am_Mo wp_MO_handler := am_wp_mono (fun idx n rc w h => by cases h)
theorem ct_MO_handler (l : Launch) (D : va_G) (dA : Nat → ClassId) (lay : Nat → Nat) : fw_Met l D dA lay y_MO_handler (Cond.code y_MO_handler c_MO_handler 6 ((some .boolean)) :: fw_T) { frames := 0, cells := 0, slots := 0, locals := 0 } wp_MO_handler := by
  exact fw_met_of (own := R_MO) (by decide) rfl fo_MO (fun idx n rc w h => by cases h) (fun _ _ h => by cases h) (fun _ _ => rfl) rfl (fun _ _ _ _ h => h)
def g_MO_word : am_G := (gf_MO, (fun _ => none), (fun _ _ => none), (fun idx => if idx = 107 then some 65536 else none), none, fun _ _ _ _ => False)
def wp_MO_word : am_Wp := am_wp c_MO_word g_MO_word 3 ((some .int))
theorem mo_MO_word : am_Mo wp_MO_word := am_wp_mono (fun idx n rc w h => by cases h)
theorem ct_MO_word (l : Launch) (D : va_G) (dA : Nat → ClassId) (lay : Nat → Nat) : fw_Met l D dA lay y_MO_word (Cond.code y_MO_word c_MO_word 3 ((some .int)) :: fw_T) { frames := 0, cells := 0, slots := 0, locals := 0 } wp_MO_word := by
  exact fw_met_of (own := R_MO) (by decide) rfl fo_MO (fun idx n rc w h => by cases h) (fun idx v h => by
    replace h : (if idx = 107 then some 65536 else none) = some v := h
    split at h
    · rename_i h9
      subst h9
      cases h
      exact fw_T_in (i := 1026) (by decide +kernel) rfl
    · cases h) (fun _ _ => rfl) rfl (fun _ _ _ _ h => h)
def g_MO_small : am_G := (gf_MO, (fun _ => none), (fun _ _ => none), (fun _ => none), none, fun _ _ _ _ => False)
def wp_MO_small : am_Wp := am_wp c_MO_small g_MO_small 2 ((some .int))
theorem mo_MO_small : am_Mo wp_MO_small := am_wp_mono (fun idx n rc w h => by cases h)
theorem ct_MO_small (l : Launch) (D : va_G) (dA : Nat → ClassId) (lay : Nat → Nat) : fw_Met l D dA lay y_MO_small (Cond.code y_MO_small c_MO_small 2 ((some .int)) :: fw_T) { frames := 0, cells := 0, slots := 0, locals := 0 } wp_MO_small := by
  exact fw_met_of (own := R_MO) (by decide) rfl fo_MO (fun idx n rc w h => by cases h) (fun _ _ h => by cases h) (fun _ _ => rfl) rfl (fun _ _ _ _ h => h)
def gc_MO_isShort (idx : Nat) : Option (Nat × Option Nat × am_Wp) := match idx with
  | 100 => some (3, none, wp_MO_in)
  | _ => none
def g_MO_isShort : am_G := (gf_MO, gc_MO_isShort, (fun _ _ => none), (fun _ => none), none, fun _ _ _ _ => False)
def wp_MO_isShort : am_Wp := am_wp c_MO_isShort g_MO_isShort 1 ((some .boolean))
theorem mo_MO_isShort : am_Mo wp_MO_isShort := am_wp_mono (by
  intro idx n rc w h
  replace h : gc_MO_isShort idx = some (n, rc, w) := h
  unfold gc_MO_isShort at h
  split at h
  · cases h
    exact mo_MO_in
  · cases h)
theorem ct_MO_isShort (l : Launch) (D : va_G) (dA : Nat → ClassId) (lay : Nat → Nat) : fw_Met l D dA lay y_MO_isShort (Cond.code y_MO_isShort c_MO_isShort 1 ((some .boolean)) :: fw_T) { frames := 1, cells := 0, slots := 0, locals := 27 } wp_MO_isShort := by
  refine fw_met_of (own := R_MO) (by decide) rfl fo_MO ?_ (fun _ _ h => by cases h) (fun _ _ => rfl) rfl (fun _ _ _ _ h => h)
  intro idx n rc w h
  replace h : gc_MO_isShort idx = some (n, rc, w) := h
  unfold gc_MO_isShort at h
  split at h
  · cases h
    exact ⟨y_MO_in, c_MO_in, 3, (some .boolean), _, 3, ct_MO_in l D dA lay, rfl, rfl, by decide, by decide, wc_MO_in, fw_T_in (i := 987) (by decide +kernel) rfl, wi_MO, ⟨by decide, by decide, by decide⟩, ⟨wk_MO_in, rfl⟩⟩
  · cases h
def gc_MO_isJump (idx : Nat) : Option (Nat × Option Nat × am_Wp) := match idx with
  | 100 => some (3, none, wp_MO_in)
  | _ => none
def g_MO_isJump : am_G := (gf_MO, gc_MO_isJump, (fun _ _ => none), (fun _ => none), none, fun _ _ _ _ => False)
def wp_MO_isJump : am_Wp := am_wp c_MO_isJump g_MO_isJump 1 ((some .boolean))
theorem mo_MO_isJump : am_Mo wp_MO_isJump := am_wp_mono (by
  intro idx n rc w h
  replace h : gc_MO_isJump idx = some (n, rc, w) := h
  unfold gc_MO_isJump at h
  split at h
  · cases h
    exact mo_MO_in
  · cases h)
theorem ct_MO_isJump (l : Launch) (D : va_G) (dA : Nat → ClassId) (lay : Nat → Nat) : fw_Met l D dA lay y_MO_isJump (Cond.code y_MO_isJump c_MO_isJump 1 ((some .boolean)) :: fw_T) { frames := 1, cells := 0, slots := 0, locals := 27 } wp_MO_isJump := by
  refine fw_met_of (own := R_MO) (by decide) rfl fo_MO ?_ (fun _ _ h => by cases h) (fun _ _ => rfl) rfl (fun _ _ _ _ h => h)
  intro idx n rc w h
  replace h : gc_MO_isJump idx = some (n, rc, w) := h
  unfold gc_MO_isJump at h
  split at h
  · cases h
    exact ⟨y_MO_in, c_MO_in, 3, (some .boolean), _, 3, ct_MO_in l D dA lay, rfl, rfl, by decide, by decide, wc_MO_in, fw_T_in (i := 987) (by decide +kernel) rfl, wi_MO, ⟨by decide, by decide, by decide⟩, ⟨wk_MO_in, rfl⟩⟩
  · cases h
def g_MO_isSum : am_G := (gf_MO, (fun _ => none), (fun _ _ => none), (fun _ => none), none, fun _ _ _ _ => False)
def wp_MO_isSum : am_Wp := am_wp c_MO_isSum g_MO_isSum 1 ((some .boolean))
theorem mo_MO_isSum : am_Mo wp_MO_isSum := am_wp_mono (fun idx n rc w h => by cases h)
theorem ct_MO_isSum (l : Launch) (D : va_G) (dA : Nat → ClassId) (lay : Nat → Nat) : fw_Met l D dA lay y_MO_isSum (Cond.code y_MO_isSum c_MO_isSum 1 ((some .boolean)) :: fw_T) { frames := 0, cells := 0, slots := 0, locals := 0 } wp_MO_isSum := by
  exact fw_met_of (own := R_MO) (by decide) rfl fo_MO (fun idx n rc w h => by cases h) (fun _ _ h => by cases h) (fun _ _ => rfl) rfl (fun _ _ _ _ h => h)
def gc_MO_wide (idx : Nat) : Option (Nat × Option Nat × am_Wp) := match idx with
  | 100 => some (3, none, wp_MO_in)
  | 108 => some (1, none, wp_MO_isShort)
  | 112 => some (1, none, wp_MO_isSum)
  | 115 => some (1, none, wp_MO_isJump)
  | _ => none
def g_MO_wide : am_G := (gf_MO, gc_MO_wide, (fun _ _ => none), (fun _ => none), none, fun _ _ _ _ => False)
def wp_MO_wide : am_Wp := am_wp c_MO_wide g_MO_wide 1 ((some .int))
theorem mo_MO_wide : am_Mo wp_MO_wide := am_wp_mono (by
  intro idx n rc w h
  replace h : gc_MO_wide idx = some (n, rc, w) := h
  unfold gc_MO_wide at h
  split at h
  · cases h
    exact mo_MO_in
  · cases h
    exact mo_MO_isShort
  · cases h
    exact mo_MO_isSum
  · cases h
    exact mo_MO_isJump
  · cases h)
theorem ct_MO_wide (l : Launch) (D : va_G) (dA : Nat → ClassId) (lay : Nat → Nat) : fw_Met l D dA lay y_MO_wide (Cond.code y_MO_wide c_MO_wide 1 ((some .int)) :: fw_T) { frames := 2, cells := 0, slots := 0, locals := 54 } wp_MO_wide := by
  refine fw_met_of (own := R_MO) (by decide) rfl fo_MO ?_ (fun _ _ h => by cases h) (fun _ _ => rfl) rfl (fun _ _ _ _ h => h)
  intro idx n rc w h
  replace h : gc_MO_wide idx = some (n, rc, w) := h
  unfold gc_MO_wide at h
  split at h
  · cases h
    exact ⟨y_MO_in, c_MO_in, 3, (some .boolean), _, 3, ct_MO_in l D dA lay, rfl, rfl, by decide, by decide, wc_MO_in, fw_T_in (i := 987) (by decide +kernel) rfl, wi_MO, ⟨by decide, by decide, by decide⟩, ⟨wk_MO_in, rfl⟩⟩
  · cases h
    exact ⟨y_MO_isShort, c_MO_isShort, 1, (some .boolean), _, 1, ct_MO_isShort l D dA lay, rfl, rfl, by decide, by decide, wc_MO_isShort, fw_T_in (i := 1009) (by decide +kernel) rfl, wi_MO, ⟨by decide, by decide, by decide⟩, ⟨wk_MO_isShort, rfl⟩⟩
  · cases h
    exact ⟨y_MO_isSum, c_MO_isSum, 1, (some .boolean), _, 1, ct_MO_isSum l D dA lay, rfl, rfl, by decide, by decide, wc_MO_isSum, fw_T_in (i := 1012) (by decide +kernel) rfl, wi_MO, ⟨by decide, by decide, by decide⟩, ⟨wk_MO_isSum, rfl⟩⟩
  · cases h
    exact ⟨y_MO_isJump, c_MO_isJump, 1, (some .boolean), _, 1, ct_MO_isJump l D dA lay, rfl, rfl, by decide, by decide, wc_MO_isJump, fw_T_in (i := 1015) (by decide +kernel) rfl, wi_MO, ⟨by decide, by decide, by decide⟩, ⟨wk_MO_isJump, rfl⟩⟩
  · cases h
def gc_MO_localOf (idx : Nat) : Option (Nat × Option Nat × am_Wp) := match idx with
  | 108 => some (1, none, wp_MO_isShort)
  | _ => none
def g_MO_localOf : am_G := (gf_MO, gc_MO_localOf, (fun _ _ => none), (fun _ => none), none, fun _ _ _ _ => False)
def wp_MO_localOf : am_Wp := am_wp c_MO_localOf g_MO_localOf 3 ((some .int))
theorem mo_MO_localOf : am_Mo wp_MO_localOf := am_wp_mono (by
  intro idx n rc w h
  replace h : gc_MO_localOf idx = some (n, rc, w) := h
  unfold gc_MO_localOf at h
  split at h
  · cases h
    exact mo_MO_isShort
  · cases h)
theorem ct_MO_localOf (l : Launch) (D : va_G) (dA : Nat → ClassId) (lay : Nat → Nat) : fw_Met l D dA lay y_MO_localOf (Cond.code y_MO_localOf c_MO_localOf 3 ((some .int)) :: fw_T) { frames := 2, cells := 0, slots := 0, locals := 54 } wp_MO_localOf := by
  refine fw_met_of (own := R_MO) (by decide) rfl fo_MO ?_ (fun _ _ h => by cases h) (fun _ _ => rfl) rfl (fun _ _ _ _ h => h)
  intro idx n rc w h
  replace h : gc_MO_localOf idx = some (n, rc, w) := h
  unfold gc_MO_localOf at h
  split at h
  · cases h
    exact ⟨y_MO_isShort, c_MO_isShort, 1, (some .boolean), _, 1, ct_MO_isShort l D dA lay, rfl, rfl, by decide, by decide, wc_MO_isShort, fw_T_in (i := 1009) (by decide +kernel) rfl, wi_MO, ⟨by decide, by decide, by decide⟩, ⟨wk_MO_isShort, rfl⟩⟩
  · cases h
def g_MO_isStart : am_G := (gf_MO, (fun _ => none), (fun _ _ => none), (fun _ => none), none, fun _ _ _ _ => False)
def wp_MO_isStart : am_Wp := am_wp c_MO_isStart g_MO_isStart 3 ((some .boolean))
theorem mo_MO_isStart : am_Mo wp_MO_isStart := am_wp_mono (fun idx n rc w h => by cases h)
theorem ct_MO_isStart (l : Launch) (D : va_G) (dA : Nat → ClassId) (lay : Nat → Nat) : fw_Met l D dA lay y_MO_isStart (Cond.code y_MO_isStart c_MO_isStart 3 ((some .boolean)) :: fw_T) { frames := 0, cells := 0, slots := 0, locals := 0 } wp_MO_isStart := by
  exact fw_met_of (own := R_MO) (by decide) rfl fo_MO (fun idx n rc w h => by cases h) (fun _ _ h => by cases h) (fun _ _ => rfl) rfl (fun _ _ _ _ h => h)
def gc_MO_instruction (idx : Nat) : Option (Nat × Option Nat × am_Wp) := match idx with
  | 100 => some (3, none, wp_MO_in)
  | 118 => some (1, none, wp_MO_wide)
  | 122 => some (2, some 9, wp_MO_localOf)
  | 125 => some (2, some 9, wp_MO_word)
  | _ => none
def g_MO_instruction : am_G := (gf_MO, gc_MO_instruction, (fun _ _ => none), (fun _ => none), none, fun _ _ _ _ => False)
def wp_MO_instruction : am_Wp := am_wp c_MO_instruction g_MO_instruction 6 ((some .boolean))
theorem mo_MO_instruction : am_Mo wp_MO_instruction := am_wp_mono (by
  intro idx n rc w h
  replace h : gc_MO_instruction idx = some (n, rc, w) := h
  unfold gc_MO_instruction at h
  split at h
  · cases h
    exact mo_MO_in
  · cases h
    exact mo_MO_wide
  · cases h
    exact mo_MO_localOf
  · cases h
    exact mo_MO_word
  · cases h)
theorem ct_MO_instruction (l : Launch) (D : va_G) (dA : Nat → ClassId) (lay : Nat → Nat) : fw_Met l D dA lay y_MO_instruction (Cond.code y_MO_instruction c_MO_instruction 6 ((some .boolean)) :: fw_T) { frames := 3, cells := 0, slots := 0, locals := 81 } wp_MO_instruction := by
  refine fw_met_of (own := R_MO) (by decide) rfl fo_MO ?_ (fun _ _ h => by cases h) (fun _ _ => rfl) rfl (fun _ _ _ _ h => h)
  intro idx n rc w h
  replace h : gc_MO_instruction idx = some (n, rc, w) := h
  unfold gc_MO_instruction at h
  split at h
  · cases h
    exact ⟨y_MO_in, c_MO_in, 3, (some .boolean), _, 3, ct_MO_in l D dA lay, rfl, rfl, by decide, by decide, wc_MO_in, fw_T_in (i := 987) (by decide +kernel) rfl, wi_MO, ⟨by decide, by decide, by decide⟩, ⟨wk_MO_in, rfl⟩⟩
  · cases h
    exact ⟨y_MO_wide, c_MO_wide, 1, (some .int), _, 1, ct_MO_wide l D dA lay, rfl, rfl, by decide, by decide, wc_MO_wide, fw_T_in (i := 1006) (by decide +kernel) rfl, wi_MO, ⟨by decide, by decide, by decide⟩, ⟨wk_MO_wide, rfl⟩⟩
  · cases h
    exact ⟨y_MO_localOf, c_MO_localOf, 3, (some .int), _, 1, ct_MO_localOf l D dA lay, rfl, rfl, by decide, by decide, wc_MO_localOf, fw_T_in (i := 1018) (by decide +kernel) rfl, wi_MO, ⟨by decide, by decide, by decide⟩, ⟨wk_MO_localOf, wl_MO_localOf, rfl, _, _, rfl⟩⟩
  · cases h
    exact ⟨y_MO_word, c_MO_word, 3, (some .int), _, 1, ct_MO_word l D dA lay, rfl, rfl, by decide, by decide, wc_MO_word, fw_T_in (i := 1022) (by decide +kernel) rfl, wi_MO, ⟨by decide, by decide, by decide⟩, ⟨wk_MO_word, wl_MO_word, rfl, _, _, rfl⟩⟩
  · cases h
def gc_MO_shape (idx : Nat) : Option (Nat × Option Nat × am_Wp) := match idx with
  | 100 => some (3, none, wp_MO_in)
  | 115 => some (1, none, wp_MO_isJump)
  | 118 => some (1, none, wp_MO_wide)
  | 125 => some (2, some 9, wp_MO_word)
  | 128 => some (4, some 9, wp_MO_instruction)
  | 131 => some (3, some 9, wp_MO_isStart)
  | _ => none
def g_MO_shape : am_G := (gf_MO, gc_MO_shape, (fun _ _ => none), (fun _ => none), none, fun _ _ _ _ => False)
def wp_MO_shape : am_Wp := am_wp c_MO_shape g_MO_shape 6 ((some .boolean))
theorem mo_MO_shape : am_Mo wp_MO_shape := am_wp_mono (by
  intro idx n rc w h
  replace h : gc_MO_shape idx = some (n, rc, w) := h
  unfold gc_MO_shape at h
  split at h
  · cases h
    exact mo_MO_in
  · cases h
    exact mo_MO_isJump
  · cases h
    exact mo_MO_wide
  · cases h
    exact mo_MO_word
  · cases h
    exact mo_MO_instruction
  · cases h
    exact mo_MO_isStart
  · cases h)
theorem ct_MO_shape (l : Launch) (D : va_G) (dA : Nat → ClassId) (lay : Nat → Nat) : fw_Met l D dA lay y_MO_shape (Cond.code y_MO_shape c_MO_shape 6 ((some .boolean)) :: fw_T) { frames := 4, cells := 0, slots := 0, locals := 108 } wp_MO_shape := by
  refine fw_met_of (own := R_MO) (by decide) rfl fo_MO ?_ (fun _ _ h => by cases h) (fun _ _ => rfl) rfl (fun _ _ _ _ h => h)
  intro idx n rc w h
  replace h : gc_MO_shape idx = some (n, rc, w) := h
  unfold gc_MO_shape at h
  split at h
  · cases h
    exact ⟨y_MO_in, c_MO_in, 3, (some .boolean), _, 3, ct_MO_in l D dA lay, rfl, rfl, by decide, by decide, wc_MO_in, fw_T_in (i := 987) (by decide +kernel) rfl, wi_MO, ⟨by decide, by decide, by decide⟩, ⟨wk_MO_in, rfl⟩⟩
  · cases h
    exact ⟨y_MO_isJump, c_MO_isJump, 1, (some .boolean), _, 1, ct_MO_isJump l D dA lay, rfl, rfl, by decide, by decide, wc_MO_isJump, fw_T_in (i := 1015) (by decide +kernel) rfl, wi_MO, ⟨by decide, by decide, by decide⟩, ⟨wk_MO_isJump, rfl⟩⟩
  · cases h
    exact ⟨y_MO_wide, c_MO_wide, 1, (some .int), _, 1, ct_MO_wide l D dA lay, rfl, rfl, by decide, by decide, wc_MO_wide, fw_T_in (i := 1006) (by decide +kernel) rfl, wi_MO, ⟨by decide, by decide, by decide⟩, ⟨wk_MO_wide, rfl⟩⟩
  · cases h
    exact ⟨y_MO_word, c_MO_word, 3, (some .int), _, 1, ct_MO_word l D dA lay, rfl, rfl, by decide, by decide, wc_MO_word, fw_T_in (i := 1022) (by decide +kernel) rfl, wi_MO, ⟨by decide, by decide, by decide⟩, ⟨wk_MO_word, wl_MO_word, rfl, _, _, rfl⟩⟩
  · cases h
    exact ⟨y_MO_instruction, c_MO_instruction, 6, (some .boolean), _, 3, ct_MO_instruction l D dA lay, rfl, rfl, by decide, by decide, wc_MO_instruction, fw_T_in (i := 1002) (by decide +kernel) rfl, wi_MO, ⟨by decide, by decide, by decide⟩, ⟨wk_MO_instruction, wl_MO_instruction, rfl, _, _, rfl⟩⟩
  · cases h
    exact ⟨y_MO_isStart, c_MO_isStart, 3, (some .boolean), _, 2, ct_MO_isStart l D dA lay, rfl, rfl, by decide, by decide, wc_MO_isStart, fw_T_in (i := 1027) (by decide +kernel) rfl, wi_MO, ⟨by decide, by decide, by decide⟩, ⟨wk_MO_isStart, wl_MO_isStart, rfl, _, _, rfl⟩⟩
  · cases h
def g_MO_off : am_G := (gf_MO, (fun _ => none), (fun _ _ => none), (fun _ => none), none, fun _ _ _ _ => False)
def wp_MO_off : am_Wp := am_wp c_MO_off g_MO_off 3 ((some .int))
theorem mo_MO_off : am_Mo wp_MO_off := am_wp_mono (fun idx n rc w h => by cases h)
theorem ct_MO_off (l : Launch) (D : va_G) (dA : Nat → ClassId) (lay : Nat → Nat) : fw_Met l D dA lay y_MO_off (Cond.code y_MO_off c_MO_off 3 ((some .int)) :: fw_T) { frames := 0, cells := 0, slots := 0, locals := 0 } wp_MO_off := by
  exact fw_met_of (own := R_MO) (by decide) rfl fo_MO (fun idx n rc w h => by cases h) (fun _ _ h => by cases h) (fun _ _ => rfl) rfl (fun _ _ _ _ h => h)
def g_MO_on : am_G := (gf_MO, (fun _ => none), (fun _ _ => none), (fun _ => none), none, fun _ _ _ _ => False)
def wp_MO_on : am_Wp := am_wp c_MO_on g_MO_on 3 (none)
theorem mo_MO_on : am_Mo wp_MO_on := am_wp_mono (fun idx n rc w h => by cases h)
theorem ct_MO_on (l : Launch) (D : va_G) (dA : Nat → ClassId) (lay : Nat → Nat) : fw_Met l D dA lay y_MO_on (Cond.code y_MO_on c_MO_on 3 (none) :: fw_T) { frames := 0, cells := 0, slots := 0, locals := 0 } wp_MO_on := by
  exact fw_met_of (own := R_MO) (by decide) rfl fo_MO (fun idx n rc w h => by cases h) (fun _ _ h => by cases h) (fun _ _ => rfl) rfl (fun _ _ _ _ h => h)
def g_MO_come : am_G := (gf_MO, (fun _ => none), (fun _ _ => none), (fun _ => none), none, fun _ _ _ _ => False)
def wp_MO_come : am_Wp := am_wp c_MO_come g_MO_come 6 (none)
theorem mo_MO_come : am_Mo wp_MO_come := am_wp_mono (fun idx n rc w h => by cases h)
theorem ct_MO_come (l : Launch) (D : va_G) (dA : Nat → ClassId) (lay : Nat → Nat) : fw_Met l D dA lay y_MO_come (Cond.code y_MO_come c_MO_come 6 (none) :: fw_T) { frames := 0, cells := 0, slots := 0, locals := 0 } wp_MO_come := by
  exact fw_met_of (own := R_MO) (by decide) rfl fo_MO (fun idx n rc w h => by cases h) (fun _ _ h => by cases h) (fun _ _ => rfl) rfl (fun _ _ _ _ h => h)
def gc_MO_toHandlers (idx : Nat) : Option (Nat × Option Nat × am_Wp) := match idx with
  | 144 => some (4, some 9, wp_MO_come)
  | _ => none
def g_MO_toHandlers : am_G := (gf_MO, gc_MO_toHandlers, (fun _ _ => none), (fun _ => none), none, fun _ _ _ _ => False)
def wp_MO_toHandlers : am_Wp := am_wp c_MO_toHandlers g_MO_toHandlers 4 (none)
theorem mo_MO_toHandlers : am_Mo wp_MO_toHandlers := am_wp_mono (by
  intro idx n rc w h
  replace h : gc_MO_toHandlers idx = some (n, rc, w) := h
  unfold gc_MO_toHandlers at h
  split at h
  · cases h
    exact mo_MO_come
  · cases h)
theorem ct_MO_toHandlers (l : Launch) (D : va_G) (dA : Nat → ClassId) (lay : Nat → Nat) : fw_Met l D dA lay y_MO_toHandlers (Cond.code y_MO_toHandlers c_MO_toHandlers 4 (none) :: fw_T) { frames := 1, cells := 0, slots := 0, locals := 27 } wp_MO_toHandlers := by
  refine fw_met_of (own := R_MO) (by decide) rfl fo_MO ?_ (fun _ _ h => by cases h) (fun _ _ => rfl) rfl (fun _ _ _ _ h => h)
  intro idx n rc w h
  replace h : gc_MO_toHandlers idx = some (n, rc, w) := h
  unfold gc_MO_toHandlers at h
  split at h
  · cases h
    exact ⟨y_MO_come, c_MO_come, 6, none, _, 3, ct_MO_come l D dA lay, rfl, rfl, by decide, by decide, wc_MO_come, fw_T_in (i := 1035) (by decide +kernel) rfl, wi_MO, ⟨by decide, by decide, by decide⟩, ⟨wk_MO_come, wl_MO_come, rfl, _, _, rfl⟩⟩
  · cases h
def gc_MO_plain (idx : Nat) : Option (Nat × Option Nat × am_Wp) := match idx with
  | 100 => some (3, none, wp_MO_in)
  | 122 => some (2, some 9, wp_MO_localOf)
  | 148 => some (3, some 9, wp_MO_on)
  | 152 => some (2, some 9, wp_MO_off)
  | _ => none
def g_MO_plain : am_G := (gf_MO, gc_MO_plain, (fun _ _ => none), (fun _ => none), none, fun _ _ _ _ => False)
def wp_MO_plain : am_Wp := am_wp c_MO_plain g_MO_plain 6 ((some .boolean))
theorem mo_MO_plain : am_Mo wp_MO_plain := am_wp_mono (by
  intro idx n rc w h
  replace h : gc_MO_plain idx = some (n, rc, w) := h
  unfold gc_MO_plain at h
  split at h
  · cases h
    exact mo_MO_in
  · cases h
    exact mo_MO_localOf
  · cases h
    exact mo_MO_on
  · cases h
    exact mo_MO_off
  · cases h)
theorem ct_MO_plain (l : Launch) (D : va_G) (dA : Nat → ClassId) (lay : Nat → Nat) : fw_Met l D dA lay y_MO_plain (Cond.code y_MO_plain c_MO_plain 6 ((some .boolean)) :: fw_T) { frames := 3, cells := 0, slots := 0, locals := 81 } wp_MO_plain := by
  refine fw_met_of (own := R_MO) (by decide) rfl fo_MO ?_ (fun _ _ h => by cases h) (fun _ _ => rfl) rfl (fun _ _ _ _ h => h)
  intro idx n rc w h
  replace h : gc_MO_plain idx = some (n, rc, w) := h
  unfold gc_MO_plain at h
  split at h
  · cases h
    exact ⟨y_MO_in, c_MO_in, 3, (some .boolean), _, 3, ct_MO_in l D dA lay, rfl, rfl, by decide, by decide, wc_MO_in, fw_T_in (i := 987) (by decide +kernel) rfl, wi_MO, ⟨by decide, by decide, by decide⟩, ⟨wk_MO_in, rfl⟩⟩
  · cases h
    exact ⟨y_MO_localOf, c_MO_localOf, 3, (some .int), _, 1, ct_MO_localOf l D dA lay, rfl, rfl, by decide, by decide, wc_MO_localOf, fw_T_in (i := 1018) (by decide +kernel) rfl, wi_MO, ⟨by decide, by decide, by decide⟩, ⟨wk_MO_localOf, wl_MO_localOf, rfl, _, _, rfl⟩⟩
  · cases h
    exact ⟨y_MO_on, c_MO_on, 3, none, _, 2, ct_MO_on l D dA lay, rfl, rfl, by decide, by decide, wc_MO_on, fw_T_in (i := 1051) (by decide +kernel) rfl, wi_MO, ⟨by decide, by decide, by decide⟩, ⟨wk_MO_on, wl_MO_on, rfl, _, _, rfl⟩⟩
  · cases h
    exact ⟨y_MO_off, c_MO_off, 3, (some .int), _, 1, ct_MO_off l D dA lay, rfl, rfl, by decide, by decide, wc_MO_off, fw_T_in (i := 1055) (by decide +kernel) rfl, wi_MO, ⟨by decide, by decide, by decide⟩, ⟨wk_MO_off, wl_MO_off, rfl, _, _, rfl⟩⟩
  · cases h
def gc_MO_others (idx : Nat) : Option (Nat × Option Nat × am_Wp) := match idx with
  | 100 => some (3, none, wp_MO_in)
  | 112 => some (1, none, wp_MO_isSum)
  | 125 => some (2, some 9, wp_MO_word)
  | 148 => some (3, some 9, wp_MO_on)
  | 152 => some (2, some 9, wp_MO_off)
  | _ => none
def g_MO_others : am_G := (gf_MO, gc_MO_others, (fun _ _ => none), (fun _ => none), none, fun _ _ _ _ => False)
def wp_MO_others : am_Wp := am_wp c_MO_others g_MO_others 8 (none)
theorem mo_MO_others : am_Mo wp_MO_others := am_wp_mono (by
  intro idx n rc w h
  replace h : gc_MO_others idx = some (n, rc, w) := h
  unfold gc_MO_others at h
  split at h
  · cases h
    exact mo_MO_in
  · cases h
    exact mo_MO_isSum
  · cases h
    exact mo_MO_word
  · cases h
    exact mo_MO_on
  · cases h
    exact mo_MO_off
  · cases h)
theorem ct_MO_others (l : Launch) (D : va_G) (dA : Nat → ClassId) (lay : Nat → Nat) : fw_Met l D dA lay y_MO_others (Cond.code y_MO_others c_MO_others 8 (none) :: fw_T) { frames := 1, cells := 0, slots := 0, locals := 27 } wp_MO_others := by
  refine fw_met_of (own := R_MO) (by decide) rfl fo_MO ?_ (fun _ _ h => by cases h) (fun _ _ => rfl) rfl (fun _ _ _ _ h => h)
  intro idx n rc w h
  replace h : gc_MO_others idx = some (n, rc, w) := h
  unfold gc_MO_others at h
  split at h
  · cases h
    exact ⟨y_MO_in, c_MO_in, 3, (some .boolean), _, 3, ct_MO_in l D dA lay, rfl, rfl, by decide, by decide, wc_MO_in, fw_T_in (i := 987) (by decide +kernel) rfl, wi_MO, ⟨by decide, by decide, by decide⟩, ⟨wk_MO_in, rfl⟩⟩
  · cases h
    exact ⟨y_MO_isSum, c_MO_isSum, 1, (some .boolean), _, 1, ct_MO_isSum l D dA lay, rfl, rfl, by decide, by decide, wc_MO_isSum, fw_T_in (i := 1012) (by decide +kernel) rfl, wi_MO, ⟨by decide, by decide, by decide⟩, ⟨wk_MO_isSum, rfl⟩⟩
  · cases h
    exact ⟨y_MO_word, c_MO_word, 3, (some .int), _, 1, ct_MO_word l D dA lay, rfl, rfl, by decide, by decide, wc_MO_word, fw_T_in (i := 1022) (by decide +kernel) rfl, wi_MO, ⟨by decide, by decide, by decide⟩, ⟨wk_MO_word, wl_MO_word, rfl, _, _, rfl⟩⟩
  · cases h
    exact ⟨y_MO_on, c_MO_on, 3, none, _, 2, ct_MO_on l D dA lay, rfl, rfl, by decide, by decide, wc_MO_on, fw_T_in (i := 1051) (by decide +kernel) rfl, wi_MO, ⟨by decide, by decide, by decide⟩, ⟨wk_MO_on, wl_MO_on, rfl, _, _, rfl⟩⟩
  · cases h
    exact ⟨y_MO_off, c_MO_off, 3, (some .int), _, 1, ct_MO_off l D dA lay, rfl, rfl, by decide, by decide, wc_MO_off, fw_T_in (i := 1055) (by decide +kernel) rfl, wi_MO, ⟨by decide, by decide, by decide⟩, ⟨wk_MO_off, wl_MO_off, rfl, _, _, rfl⟩⟩
  · cases h
def gc_MO_flowFrom (idx : Nat) : Option (Nat × Option Nat × am_Wp) := match idx with
  | 115 => some (1, none, wp_MO_isJump)
  | 118 => some (1, none, wp_MO_wide)
  | 125 => some (2, some 9, wp_MO_word)
  | 144 => some (4, some 9, wp_MO_come)
  | 155 => some (3, some 9, wp_MO_toHandlers)
  | 158 => some (3, some 9, wp_MO_plain)
  | 161 => some (3, some 9, wp_MO_others)
  | _ => none
def g_MO_flowFrom : am_G := (gf_MO, gc_MO_flowFrom, (fun _ _ => none), (fun _ => none), none, fun _ _ _ _ => False)
def wp_MO_flowFrom : am_Wp := am_wp c_MO_flowFrom g_MO_flowFrom 5 (none)
theorem mo_MO_flowFrom : am_Mo wp_MO_flowFrom := am_wp_mono (by
  intro idx n rc w h
  replace h : gc_MO_flowFrom idx = some (n, rc, w) := h
  unfold gc_MO_flowFrom at h
  split at h
  · cases h
    exact mo_MO_isJump
  · cases h
    exact mo_MO_wide
  · cases h
    exact mo_MO_word
  · cases h
    exact mo_MO_come
  · cases h
    exact mo_MO_toHandlers
  · cases h
    exact mo_MO_plain
  · cases h
    exact mo_MO_others
  · cases h)
theorem ct_MO_flowFrom (l : Launch) (D : va_G) (dA : Nat → ClassId) (lay : Nat → Nat) : fw_Met l D dA lay y_MO_flowFrom (Cond.code y_MO_flowFrom c_MO_flowFrom 5 (none) :: fw_T) { frames := 4, cells := 0, slots := 0, locals := 108 } wp_MO_flowFrom := by
  refine fw_met_of (own := R_MO) (by decide) rfl fo_MO ?_ (fun _ _ h => by cases h) (fun _ _ => rfl) rfl (fun _ _ _ _ h => h)
  intro idx n rc w h
  replace h : gc_MO_flowFrom idx = some (n, rc, w) := h
  unfold gc_MO_flowFrom at h
  split at h
  · cases h
    exact ⟨y_MO_isJump, c_MO_isJump, 1, (some .boolean), _, 1, ct_MO_isJump l D dA lay, rfl, rfl, by decide, by decide, wc_MO_isJump, fw_T_in (i := 1015) (by decide +kernel) rfl, wi_MO, ⟨by decide, by decide, by decide⟩, ⟨wk_MO_isJump, rfl⟩⟩
  · cases h
    exact ⟨y_MO_wide, c_MO_wide, 1, (some .int), _, 1, ct_MO_wide l D dA lay, rfl, rfl, by decide, by decide, wc_MO_wide, fw_T_in (i := 1006) (by decide +kernel) rfl, wi_MO, ⟨by decide, by decide, by decide⟩, ⟨wk_MO_wide, rfl⟩⟩
  · cases h
    exact ⟨y_MO_word, c_MO_word, 3, (some .int), _, 1, ct_MO_word l D dA lay, rfl, rfl, by decide, by decide, wc_MO_word, fw_T_in (i := 1022) (by decide +kernel) rfl, wi_MO, ⟨by decide, by decide, by decide⟩, ⟨wk_MO_word, wl_MO_word, rfl, _, _, rfl⟩⟩
  · cases h
    exact ⟨y_MO_come, c_MO_come, 6, none, _, 3, ct_MO_come l D dA lay, rfl, rfl, by decide, by decide, wc_MO_come, fw_T_in (i := 1035) (by decide +kernel) rfl, wi_MO, ⟨by decide, by decide, by decide⟩, ⟨wk_MO_come, wl_MO_come, rfl, _, _, rfl⟩⟩
  · cases h
    exact ⟨y_MO_toHandlers, c_MO_toHandlers, 4, none, _, 2, ct_MO_toHandlers l D dA lay, rfl, rfl, by decide, by decide, wc_MO_toHandlers, fw_T_in (i := 1043) (by decide +kernel) rfl, wi_MO, ⟨by decide, by decide, by decide⟩, ⟨wk_MO_toHandlers, wl_MO_toHandlers, rfl, _, _, rfl⟩⟩
  · cases h
    exact ⟨y_MO_plain, c_MO_plain, 6, (some .boolean), _, 2, ct_MO_plain l D dA lay, rfl, rfl, by decide, by decide, wc_MO_plain, fw_T_in (i := 1047) (by decide +kernel) rfl, wi_MO, ⟨by decide, by decide, by decide⟩, ⟨wk_MO_plain, wl_MO_plain, rfl, _, _, rfl⟩⟩
  · cases h
    exact ⟨y_MO_others, c_MO_others, 8, none, _, 2, ct_MO_others l D dA lay, rfl, rfl, by decide, by decide, wc_MO_others, fw_T_in (i := 1059) (by decide +kernel) rfl, wi_MO, ⟨by decide, by decide, by decide⟩, ⟨wk_MO_others, wl_MO_others, rfl, _, _, rfl⟩⟩
  · cases h
def gc_MO_flow (idx : Nat) : Option (Nat × Option Nat × am_Wp) := match idx with
  | 144 => some (4, some 9, wp_MO_come)
  | 164 => some (3, some 9, wp_MO_flowFrom)
  | _ => none
def g_MO_flow : am_G := (gf_MO, gc_MO_flow, (fun _ _ => none), (fun _ => none), none, fun _ _ _ _ => False)
def wp_MO_flow : am_Wp := am_wp c_MO_flow g_MO_flow 4 ((some .boolean))
theorem mo_MO_flow : am_Mo wp_MO_flow := am_wp_mono (by
  intro idx n rc w h
  replace h : gc_MO_flow idx = some (n, rc, w) := h
  unfold gc_MO_flow at h
  split at h
  · cases h
    exact mo_MO_come
  · cases h
    exact mo_MO_flowFrom
  · cases h)
theorem ct_MO_flow (l : Launch) (D : va_G) (dA : Nat → ClassId) (lay : Nat → Nat) : fw_Met l D dA lay y_MO_flow (Cond.code y_MO_flow c_MO_flow 4 ((some .boolean)) :: fw_T) { frames := 5, cells := 0, slots := 0, locals := 135 } wp_MO_flow := by
  refine fw_met_of (own := R_MO) (by decide) rfl fo_MO ?_ (fun _ _ h => by cases h) (fun _ _ => rfl) rfl (fun _ _ _ _ h => h)
  intro idx n rc w h
  replace h : gc_MO_flow idx = some (n, rc, w) := h
  unfold gc_MO_flow at h
  split at h
  · cases h
    exact ⟨y_MO_come, c_MO_come, 6, none, _, 3, ct_MO_come l D dA lay, rfl, rfl, by decide, by decide, wc_MO_come, fw_T_in (i := 1035) (by decide +kernel) rfl, wi_MO, ⟨by decide, by decide, by decide⟩, ⟨wk_MO_come, wl_MO_come, rfl, _, _, rfl⟩⟩
  · cases h
    exact ⟨y_MO_flowFrom, c_MO_flowFrom, 5, none, _, 2, ct_MO_flowFrom l D dA lay, rfl, rfl, by decide, by decide, wc_MO_flowFrom, fw_T_in (i := 1039) (by decide +kernel) rfl, wi_MO, ⟨by decide, by decide, by decide⟩, ⟨wk_MO_flowFrom, wl_MO_flowFrom, rfl, _, _, rfl⟩⟩
  · cases h
def gc_MO_verify (idx : Nat) : Option (Nat × Option Nat × am_Wp) := match idx with
  | 167 => some (2, some 9, wp_MO_shape)
  | 170 => some (2, some 9, wp_MO_flow)
  | _ => none
def g_MO_verify : am_G := (gf_MO, gc_MO_verify, (fun _ _ => none), (fun _ => none), none, fun _ _ _ _ => False)
def wp_MO_verify : am_Wp := am_wp c_MO_verify g_MO_verify 3 ((some .int))
theorem mo_MO_verify : am_Mo wp_MO_verify := am_wp_mono (by
  intro idx n rc w h
  replace h : gc_MO_verify idx = some (n, rc, w) := h
  unfold gc_MO_verify at h
  split at h
  · cases h
    exact mo_MO_shape
  · cases h
    exact mo_MO_flow
  · cases h)
theorem ct_MO_verify (l : Launch) (D : va_G) (dA : Nat → ClassId) (lay : Nat → Nat) : fw_Met l D dA lay y_MO_verify (Cond.code y_MO_verify c_MO_verify 3 ((some .int)) :: fw_T) { frames := 6, cells := 0, slots := 0, locals := 162 } wp_MO_verify := by
  refine fw_met_of (own := R_MO) (by decide) rfl fo_MO ?_ (fun _ _ h => by cases h) (fun _ _ => rfl) rfl (fun _ _ _ _ h => h)
  intro idx n rc w h
  replace h : gc_MO_verify idx = some (n, rc, w) := h
  unfold gc_MO_verify at h
  split at h
  · cases h
    exact ⟨y_MO_shape, c_MO_shape, 6, (some .boolean), _, 1, ct_MO_shape l D dA lay, rfl, rfl, by decide, by decide, wc_MO_shape, fw_T_in (i := 998) (by decide +kernel) rfl, wi_MO, ⟨by decide, by decide, by decide⟩, ⟨wk_MO_shape, wl_MO_shape, rfl, _, _, rfl⟩⟩
  · cases h
    exact ⟨y_MO_flow, c_MO_flow, 4, (some .boolean), _, 1, ct_MO_flow l D dA lay, rfl, rfl, by decide, by decide, wc_MO_flow, fw_T_in (i := 1031) (by decide +kernel) rfl, wi_MO, ⟨by decide, by decide, by decide⟩, ⟨wk_MO_flow, wl_MO_flow, rfl, _, _, rfl⟩⟩
  · cases h
def g_MO_fault : am_G := (gf_MO, (fun _ => none), (fun _ _ => none), (fun _ => none), none, fun _ _ _ _ => False)
def wp_MO_fault : am_Wp := am_wp c_MO_fault g_MO_fault 1 ((some .int))
theorem mo_MO_fault : am_Mo wp_MO_fault := am_wp_mono (fun idx n rc w h => by cases h)
theorem ct_MO_fault (l : Launch) (D : va_G) (dA : Nat → ClassId) (lay : Nat → Nat) : fw_Met l D dA lay y_MO_fault (Cond.code y_MO_fault c_MO_fault 1 ((some .int)) :: fw_T) { frames := 0, cells := 0, slots := 0, locals := 0 } wp_MO_fault := by
  exact fw_met_of (own := R_MO) (by decide) rfl fo_MO (fun idx n rc w h => by cases h) (fun _ _ h => by cases h) (fun _ _ => rfl) rfl (fun _ _ _ _ h => h)
def g_MO_clear : am_G := (gf_MO, (fun _ => none), (fun _ _ => none), (fun _ => none), none, fun _ _ _ _ => False)
def wp_MO_clear : am_Wp := am_wp c_MO_clear g_MO_clear 2 (none)
theorem mo_MO_clear : am_Mo wp_MO_clear := am_wp_mono (fun idx n rc w h => by cases h)
theorem ct_MO_clear (l : Launch) (D : va_G) (dA : Nat → ClassId) (lay : Nat → Nat) : fw_Met l D dA lay y_MO_clear (Cond.code y_MO_clear c_MO_clear 2 (none) :: fw_T) { frames := 0, cells := 0, slots := 0, locals := 0 } wp_MO_clear := by
  exact fw_met_of (own := R_MO) (by decide) rfl fo_MO (fun idx n rc w h => by cases h) (fun _ _ h => by cases h) (fun _ _ => rfl) rfl (fun _ _ _ _ h => h)
def g_MO_argument : am_G := (gf_MO, (fun _ => none), (fun _ _ => none), (fun _ => none), none, fun _ _ _ _ => False)
def wp_MO_argument : am_Wp := am_wp c_MO_argument g_MO_argument 2 ((some .boolean))
theorem mo_MO_argument : am_Mo wp_MO_argument := am_wp_mono (fun idx n rc w h => by cases h)
theorem ct_MO_argument (l : Launch) (D : va_G) (dA : Nat → ClassId) (lay : Nat → Nat) : fw_Met l D dA lay y_MO_argument (Cond.code y_MO_argument c_MO_argument 2 ((some .boolean)) :: fw_T) { frames := 0, cells := 0, slots := 0, locals := 0 } wp_MO_argument := by
  exact fw_met_of (own := R_MO) (by decide) rfl fo_MO (fun idx n rc w h => by cases h) (fun _ _ h => by cases h) (fun _ _ => rfl) rfl (fun _ _ _ _ h => h)
def g_MO_enter : am_G := (gf_MO, (fun _ => none), (fun _ _ => none), (fun _ => none), none, fun _ _ _ _ => False)
def wp_MO_enter : am_Wp := am_wp c_MO_enter g_MO_enter 4 ((some .boolean))
theorem mo_MO_enter : am_Mo wp_MO_enter := am_wp_mono (fun idx n rc w h => by cases h)
theorem ct_MO_enter (l : Launch) (D : va_G) (dA : Nat → ClassId) (lay : Nat → Nat) : fw_Met l D dA lay y_MO_enter (Cond.code y_MO_enter c_MO_enter 4 ((some .boolean)) :: fw_T) { frames := 0, cells := 0, slots := 0, locals := 0 } wp_MO_enter := by
  exact fw_met_of (own := R_MO) (by decide) rfl fo_MO (fun idx n rc w h => by cases h) (fun _ _ h => by cases h) (fun _ _ => rfl) rfl (fun _ _ _ _ h => h)
def gc_MO_start (idx : Nat) : Option (Nat × Option Nat × am_Wp) := match idx with
  | 100 => some (3, none, wp_MO_in)
  | 191 => some (2, some 9, wp_MO_enter)
  | _ => none
def g_MO_start : am_G := (gf_MO, gc_MO_start, (fun _ _ => none), (fun _ => none), none, fun _ _ _ _ => False)
def wp_MO_start : am_Wp := am_wp c_MO_start g_MO_start 4 ((some .boolean))
theorem mo_MO_start : am_Mo wp_MO_start := am_wp_mono (by
  intro idx n rc w h
  replace h : gc_MO_start idx = some (n, rc, w) := h
  unfold gc_MO_start at h
  split at h
  · cases h
    exact mo_MO_in
  · cases h
    exact mo_MO_enter
  · cases h)
theorem ct_MO_start (l : Launch) (D : va_G) (dA : Nat → ClassId) (lay : Nat → Nat) : fw_Met l D dA lay y_MO_start (Cond.code y_MO_start c_MO_start 4 ((some .boolean)) :: fw_T) { frames := 1, cells := 0, slots := 0, locals := 27 } wp_MO_start := by
  refine fw_met_of (own := R_MO) (by decide) rfl fo_MO ?_ (fun _ _ h => by cases h) (fun _ _ => rfl) rfl (fun _ _ _ _ h => h)
  intro idx n rc w h
  replace h : gc_MO_start idx = some (n, rc, w) := h
  unfold gc_MO_start at h
  split at h
  · cases h
    exact ⟨y_MO_in, c_MO_in, 3, (some .boolean), _, 3, ct_MO_in l D dA lay, rfl, rfl, by decide, by decide, wc_MO_in, fw_T_in (i := 987) (by decide +kernel) rfl, wi_MO, ⟨by decide, by decide, by decide⟩, ⟨wk_MO_in, rfl⟩⟩
  · cases h
    exact ⟨y_MO_enter, c_MO_enter, 4, (some .boolean), _, 1, ct_MO_enter l D dA lay, rfl, rfl, by decide, by decide, wc_MO_enter, fw_T_in (i := 1079) (by decide +kernel) rfl, wi_MO, ⟨by decide, by decide, by decide⟩, ⟨wk_MO_enter, wl_MO_enter, rfl, _, _, rfl⟩⟩
  · cases h
def g_MO_latest : am_G := (gf_MO, (fun _ => none), (fun _ _ => none), (fun _ => none), none, fun _ _ _ _ => False)
def wp_MO_latest : am_Wp := am_wp c_MO_latest g_MO_latest 1 ((some .int))
theorem mo_MO_latest : am_Mo wp_MO_latest := am_wp_mono (fun idx n rc w h => by cases h)
theorem ct_MO_latest (l : Launch) (D : va_G) (dA : Nat → ClassId) (lay : Nat → Nat) : fw_Met l D dA lay y_MO_latest (Cond.code y_MO_latest c_MO_latest 1 ((some .int)) :: fw_T) { frames := 0, cells := 0, slots := 0, locals := 0 } wp_MO_latest := by
  exact fw_met_of (own := R_MO) (by decide) rfl fo_MO (fun idx n rc w h => by cases h) (fun _ _ h => by cases h) (fun _ _ => rfl) rfl (fun _ _ _ _ h => h)
def gc_MO_stackAt (idx : Nat) : Option (Nat × Option Nat × am_Wp) := match idx with
  | 194 => some (1, some 9, wp_MO_latest)
  | _ => none
def g_MO_stackAt : am_G := (gf_MO, gc_MO_stackAt, (fun _ _ => none), (fun _ => none), none, fun _ _ _ _ => False)
def wp_MO_stackAt : am_Wp := am_wp c_MO_stackAt g_MO_stackAt 2 ((some .int))
theorem mo_MO_stackAt : am_Mo wp_MO_stackAt := am_wp_mono (by
  intro idx n rc w h
  replace h : gc_MO_stackAt idx = some (n, rc, w) := h
  unfold gc_MO_stackAt at h
  split at h
  · cases h
    exact mo_MO_latest
  · cases h)
theorem ct_MO_stackAt (l : Launch) (D : va_G) (dA : Nat → ClassId) (lay : Nat → Nat) : fw_Met l D dA lay y_MO_stackAt (Cond.code y_MO_stackAt c_MO_stackAt 2 ((some .int)) :: fw_T) { frames := 1, cells := 0, slots := 0, locals := 27 } wp_MO_stackAt := by
  refine fw_met_of (own := R_MO) (by decide) rfl fo_MO ?_ (fun _ _ h => by cases h) (fun _ _ => rfl) rfl (fun _ _ _ _ h => h)
  intro idx n rc w h
  replace h : gc_MO_stackAt idx = some (n, rc, w) := h
  unfold gc_MO_stackAt at h
  split at h
  · cases h
    exact ⟨y_MO_latest, c_MO_latest, 1, (some .int), _, 0, ct_MO_latest l D dA lay, rfl, rfl, by decide, by decide, wc_MO_latest, fw_T_in (i := 1091) (by decide +kernel) rfl, wi_MO, ⟨by decide, by decide, by decide⟩, ⟨wk_MO_latest, wl_MO_latest, rfl, _, _, rfl⟩⟩
  · cases h
def gc_MO_push (idx : Nat) : Option (Nat × Option Nat × am_Wp) := match idx with
  | 194 => some (1, some 9, wp_MO_latest)
  | 198 => some (1, some 9, wp_MO_stackAt)
  | _ => none
def g_MO_push : am_G := (gf_MO, gc_MO_push, (fun _ _ => none), (fun _ => none), none, fun _ _ _ _ => False)
def wp_MO_push : am_Wp := am_wp c_MO_push g_MO_push 2 (none)
theorem mo_MO_push : am_Mo wp_MO_push := am_wp_mono (by
  intro idx n rc w h
  replace h : gc_MO_push idx = some (n, rc, w) := h
  unfold gc_MO_push at h
  split at h
  · cases h
    exact mo_MO_latest
  · cases h
    exact mo_MO_stackAt
  · cases h)
theorem ct_MO_push (l : Launch) (D : va_G) (dA : Nat → ClassId) (lay : Nat → Nat) : fw_Met l D dA lay y_MO_push (Cond.code y_MO_push c_MO_push 2 (none) :: fw_T) { frames := 2, cells := 0, slots := 0, locals := 54 } wp_MO_push := by
  refine fw_met_of (own := R_MO) (by decide) rfl fo_MO ?_ (fun _ _ h => by cases h) (fun _ _ => rfl) rfl (fun _ _ _ _ h => h)
  intro idx n rc w h
  replace h : gc_MO_push idx = some (n, rc, w) := h
  unfold gc_MO_push at h
  split at h
  · cases h
    exact ⟨y_MO_latest, c_MO_latest, 1, (some .int), _, 0, ct_MO_latest l D dA lay, rfl, rfl, by decide, by decide, wc_MO_latest, fw_T_in (i := 1091) (by decide +kernel) rfl, wi_MO, ⟨by decide, by decide, by decide⟩, ⟨wk_MO_latest, wl_MO_latest, rfl, _, _, rfl⟩⟩
  · cases h
    exact ⟨y_MO_stackAt, c_MO_stackAt, 2, (some .int), _, 0, ct_MO_stackAt l D dA lay, rfl, rfl, by decide, by decide, wc_MO_stackAt, fw_T_in (i := 1099) (by decide +kernel) rfl, wi_MO, ⟨by decide, by decide, by decide⟩, ⟨wk_MO_stackAt, wl_MO_stackAt, rfl, _, _, rfl⟩⟩
  · cases h
def gc_MO_pop (idx : Nat) : Option (Nat × Option Nat × am_Wp) := match idx with
  | 194 => some (1, some 9, wp_MO_latest)
  | 198 => some (1, some 9, wp_MO_stackAt)
  | _ => none
def g_MO_pop : am_G := (gf_MO, gc_MO_pop, (fun _ _ => none), (fun _ => none), none, fun _ _ _ _ => False)
def wp_MO_pop : am_Wp := am_wp c_MO_pop g_MO_pop 1 ((some .int))
theorem mo_MO_pop : am_Mo wp_MO_pop := am_wp_mono (by
  intro idx n rc w h
  replace h : gc_MO_pop idx = some (n, rc, w) := h
  unfold gc_MO_pop at h
  split at h
  · cases h
    exact mo_MO_latest
  · cases h
    exact mo_MO_stackAt
  · cases h)
theorem ct_MO_pop (l : Launch) (D : va_G) (dA : Nat → ClassId) (lay : Nat → Nat) : fw_Met l D dA lay y_MO_pop (Cond.code y_MO_pop c_MO_pop 1 ((some .int)) :: fw_T) { frames := 2, cells := 0, slots := 0, locals := 54 } wp_MO_pop := by
  refine fw_met_of (own := R_MO) (by decide) rfl fo_MO ?_ (fun _ _ h => by cases h) (fun _ _ => rfl) rfl (fun _ _ _ _ h => h)
  intro idx n rc w h
  replace h : gc_MO_pop idx = some (n, rc, w) := h
  unfold gc_MO_pop at h
  split at h
  · cases h
    exact ⟨y_MO_latest, c_MO_latest, 1, (some .int), _, 0, ct_MO_latest l D dA lay, rfl, rfl, by decide, by decide, wc_MO_latest, fw_T_in (i := 1091) (by decide +kernel) rfl, wi_MO, ⟨by decide, by decide, by decide⟩, ⟨wk_MO_latest, wl_MO_latest, rfl, _, _, rfl⟩⟩
  · cases h
    exact ⟨y_MO_stackAt, c_MO_stackAt, 2, (some .int), _, 0, ct_MO_stackAt l D dA lay, rfl, rfl, by decide, by decide, wc_MO_stackAt, fw_T_in (i := 1099) (by decide +kernel) rfl, wi_MO, ⟨by decide, by decide, by decide⟩, ⟨wk_MO_stackAt, wl_MO_stackAt, rfl, _, _, rfl⟩⟩
  · cases h
def g_MO_leave : am_G := (gf_MO, (fun _ => none), (fun _ _ => none), (fun _ => none), none, fun _ _ _ _ => False)
def wp_MO_leave : am_Wp := am_wp c_MO_leave g_MO_leave 1 (none)
theorem mo_MO_leave : am_Mo wp_MO_leave := am_wp_mono (fun idx n rc w h => by cases h)
theorem ct_MO_leave (l : Launch) (D : va_G) (dA : Nat → ClassId) (lay : Nat → Nat) : fw_Met l D dA lay y_MO_leave (Cond.code y_MO_leave c_MO_leave 1 (none) :: fw_T) { frames := 0, cells := 0, slots := 0, locals := 0 } wp_MO_leave := by
  exact fw_met_of (own := R_MO) (by decide) rfl fo_MO (fun idx n rc w h => by cases h) (fun _ _ h => by cases h) (fun _ _ => rfl) rfl (fun _ _ _ _ h => h)
def g_MO_stop : am_G := (gf_MO, (fun _ => none), (fun _ _ => none), (fun _ => none), none, fun _ _ _ _ => False)
def wp_MO_stop : am_Wp := am_wp c_MO_stop g_MO_stop 2 (none)
theorem mo_MO_stop : am_Mo wp_MO_stop := am_wp_mono (fun idx n rc w h => by cases h)
theorem ct_MO_stop (l : Launch) (D : va_G) (dA : Nat → ClassId) (lay : Nat → Nat) : fw_Met l D dA lay y_MO_stop (Cond.code y_MO_stop c_MO_stop 2 (none) :: fw_T) { frames := 0, cells := 0, slots := 0, locals := 0 } wp_MO_stop := by
  exact fw_met_of (own := R_MO) (by decide) rfl fo_MO (fun idx n rc w h => by cases h) (fun _ _ h => by cases h) (fun _ _ => rfl) rfl (fun _ _ _ _ h => h)
def gc_MO_trap (idx : Nat) : Option (Nat × Option Nat × am_Wp) := match idx with
  | 194 => some (1, some 9, wp_MO_latest)
  | 201 => some (2, some 9, wp_MO_push)
  | 205 => some (1, some 9, wp_MO_leave)
  | 208 => some (2, some 9, wp_MO_stop)
  | _ => none
def g_MO_trap : am_G := (gf_MO, gc_MO_trap, (fun _ _ => none), (fun _ => none), none, fun _ _ _ _ => False)
def wp_MO_trap : am_Wp := am_wp c_MO_trap g_MO_trap 6 (none)
theorem mo_MO_trap : am_Mo wp_MO_trap := am_wp_mono (by
  intro idx n rc w h
  replace h : gc_MO_trap idx = some (n, rc, w) := h
  unfold gc_MO_trap at h
  split at h
  · cases h
    exact mo_MO_latest
  · cases h
    exact mo_MO_push
  · cases h
    exact mo_MO_leave
  · cases h
    exact mo_MO_stop
  · cases h)
theorem ct_MO_trap (l : Launch) (D : va_G) (dA : Nat → ClassId) (lay : Nat → Nat) : fw_Met l D dA lay y_MO_trap (Cond.code y_MO_trap c_MO_trap 6 (none) :: fw_T) { frames := 3, cells := 0, slots := 0, locals := 81 } wp_MO_trap := by
  refine fw_met_of (own := R_MO) (by decide) rfl fo_MO ?_ (fun _ _ h => by cases h) (fun _ _ => rfl) rfl (fun _ _ _ _ h => h)
  intro idx n rc w h
  replace h : gc_MO_trap idx = some (n, rc, w) := h
  unfold gc_MO_trap at h
  split at h
  · cases h
    exact ⟨y_MO_latest, c_MO_latest, 1, (some .int), _, 0, ct_MO_latest l D dA lay, rfl, rfl, by decide, by decide, wc_MO_latest, fw_T_in (i := 1091) (by decide +kernel) rfl, wi_MO, ⟨by decide, by decide, by decide⟩, ⟨wk_MO_latest, wl_MO_latest, rfl, _, _, rfl⟩⟩
  · cases h
    exact ⟨y_MO_push, c_MO_push, 2, none, _, 1, ct_MO_push l D dA lay, rfl, rfl, by decide, by decide, wc_MO_push, fw_T_in (i := 1115) (by decide +kernel) rfl, wi_MO, ⟨by decide, by decide, by decide⟩, ⟨wk_MO_push, wl_MO_push, rfl, _, _, rfl⟩⟩
  · cases h
    exact ⟨y_MO_leave, c_MO_leave, 1, none, _, 0, ct_MO_leave l D dA lay, rfl, rfl, by decide, by decide, wc_MO_leave, fw_T_in (i := 1107) (by decide +kernel) rfl, wi_MO, ⟨by decide, by decide, by decide⟩, ⟨wk_MO_leave, wl_MO_leave, rfl, _, _, rfl⟩⟩
  · cases h
    exact ⟨y_MO_stop, c_MO_stop, 2, none, _, 1, ct_MO_stop l D dA lay, rfl, rfl, by decide, by decide, wc_MO_stop, fw_T_in (i := 1111) (by decide +kernel) rfl, wi_MO, ⟨by decide, by decide, by decide⟩, ⟨wk_MO_stop, wl_MO_stop, rfl, _, _, rfl⟩⟩
  · cases h
def gc_MO_end (idx : Nat) : Option (Nat × Option Nat × am_Wp) := match idx with
  | 194 => some (1, some 9, wp_MO_latest)
  | 201 => some (2, some 9, wp_MO_push)
  | 205 => some (1, some 9, wp_MO_leave)
  | 208 => some (2, some 9, wp_MO_stop)
  | _ => none
def g_MO_end : am_G := (gf_MO, gc_MO_end, (fun _ _ => none), (fun _ => none), none, fun _ _ _ _ => False)
def wp_MO_end : am_Wp := am_wp c_MO_end g_MO_end 3 (none)
theorem mo_MO_end : am_Mo wp_MO_end := am_wp_mono (by
  intro idx n rc w h
  replace h : gc_MO_end idx = some (n, rc, w) := h
  unfold gc_MO_end at h
  split at h
  · cases h
    exact mo_MO_latest
  · cases h
    exact mo_MO_push
  · cases h
    exact mo_MO_leave
  · cases h
    exact mo_MO_stop
  · cases h)
theorem ct_MO_end (l : Launch) (D : va_G) (dA : Nat → ClassId) (lay : Nat → Nat) : fw_Met l D dA lay y_MO_end (Cond.code y_MO_end c_MO_end 3 (none) :: fw_T) { frames := 3, cells := 0, slots := 0, locals := 81 } wp_MO_end := by
  refine fw_met_of (own := R_MO) (by decide) rfl fo_MO ?_ (fun _ _ h => by cases h) (fun _ _ => rfl) rfl (fun _ _ _ _ h => h)
  intro idx n rc w h
  replace h : gc_MO_end idx = some (n, rc, w) := h
  unfold gc_MO_end at h
  split at h
  · cases h
    exact ⟨y_MO_latest, c_MO_latest, 1, (some .int), _, 0, ct_MO_latest l D dA lay, rfl, rfl, by decide, by decide, wc_MO_latest, fw_T_in (i := 1091) (by decide +kernel) rfl, wi_MO, ⟨by decide, by decide, by decide⟩, ⟨wk_MO_latest, wl_MO_latest, rfl, _, _, rfl⟩⟩
  · cases h
    exact ⟨y_MO_push, c_MO_push, 2, none, _, 1, ct_MO_push l D dA lay, rfl, rfl, by decide, by decide, wc_MO_push, fw_T_in (i := 1115) (by decide +kernel) rfl, wi_MO, ⟨by decide, by decide, by decide⟩, ⟨wk_MO_push, wl_MO_push, rfl, _, _, rfl⟩⟩
  · cases h
    exact ⟨y_MO_leave, c_MO_leave, 1, none, _, 0, ct_MO_leave l D dA lay, rfl, rfl, by decide, by decide, wc_MO_leave, fw_T_in (i := 1107) (by decide +kernel) rfl, wi_MO, ⟨by decide, by decide, by decide⟩, ⟨wk_MO_leave, wl_MO_leave, rfl, _, _, rfl⟩⟩
  · cases h
    exact ⟨y_MO_stop, c_MO_stop, 2, none, _, 1, ct_MO_stop l D dA lay, rfl, rfl, by decide, by decide, wc_MO_stop, fw_T_in (i := 1111) (by decide +kernel) rfl, wi_MO, ⟨by decide, by decide, by decide⟩, ⟨wk_MO_stop, wl_MO_stop, rfl, _, _, rfl⟩⟩
  · cases h
def gc_MO_call (idx : Nat) : Option (Nat × Option Nat × am_Wp) := match idx with
  | 191 => some (2, some 9, wp_MO_enter)
  | 194 => some (1, some 9, wp_MO_latest)
  | 208 => some (2, some 9, wp_MO_stop)
  | _ => none
def g_MO_call : am_G := (gf_MO, gc_MO_call, (fun _ _ => none), (fun _ => none), none, fun _ _ _ _ => False)
def wp_MO_call : am_Wp := am_wp c_MO_call g_MO_call 6 (none)
theorem mo_MO_call : am_Mo wp_MO_call := am_wp_mono (by
  intro idx n rc w h
  replace h : gc_MO_call idx = some (n, rc, w) := h
  unfold gc_MO_call at h
  split at h
  · cases h
    exact mo_MO_enter
  · cases h
    exact mo_MO_latest
  · cases h
    exact mo_MO_stop
  · cases h)
theorem ct_MO_call (l : Launch) (D : va_G) (dA : Nat → ClassId) (lay : Nat → Nat) : fw_Met l D dA lay y_MO_call (Cond.code y_MO_call c_MO_call 6 (none) :: fw_T) { frames := 1, cells := 0, slots := 0, locals := 27 } wp_MO_call := by
  refine fw_met_of (own := R_MO) (by decide) rfl fo_MO ?_ (fun _ _ h => by cases h) (fun _ _ => rfl) rfl (fun _ _ _ _ h => h)
  intro idx n rc w h
  replace h : gc_MO_call idx = some (n, rc, w) := h
  unfold gc_MO_call at h
  split at h
  · cases h
    exact ⟨y_MO_enter, c_MO_enter, 4, (some .boolean), _, 1, ct_MO_enter l D dA lay, rfl, rfl, by decide, by decide, wc_MO_enter, fw_T_in (i := 1079) (by decide +kernel) rfl, wi_MO, ⟨by decide, by decide, by decide⟩, ⟨wk_MO_enter, wl_MO_enter, rfl, _, _, rfl⟩⟩
  · cases h
    exact ⟨y_MO_latest, c_MO_latest, 1, (some .int), _, 0, ct_MO_latest l D dA lay, rfl, rfl, by decide, by decide, wc_MO_latest, fw_T_in (i := 1091) (by decide +kernel) rfl, wi_MO, ⟨by decide, by decide, by decide⟩, ⟨wk_MO_latest, wl_MO_latest, rfl, _, _, rfl⟩⟩
  · cases h
    exact ⟨y_MO_stop, c_MO_stop, 2, none, _, 1, ct_MO_stop l D dA lay, rfl, rfl, by decide, by decide, wc_MO_stop, fw_T_in (i := 1111) (by decide +kernel) rfl, wi_MO, ⟨by decide, by decide, by decide⟩, ⟨wk_MO_stop, wl_MO_stop, rfl, _, _, rfl⟩⟩
  · cases h
def g_MO_sum : am_G := (gf_MO, (fun _ => none), (fun _ _ => none), (fun _ => none), none, fun _ _ _ _ => False)
def wp_MO_sum : am_Wp := am_wp c_MO_sum g_MO_sum 3 ((some .int))
theorem mo_MO_sum : am_Mo wp_MO_sum := am_wp_mono (fun idx n rc w h => by cases h)
theorem ct_MO_sum (l : Launch) (D : va_G) (dA : Nat → ClassId) (lay : Nat → Nat) : fw_Met l D dA lay y_MO_sum (Cond.code y_MO_sum c_MO_sum 3 ((some .int)) :: fw_T) { frames := 0, cells := 0, slots := 0, locals := 0 } wp_MO_sum := by
  exact fw_met_of (own := R_MO) (by decide) rfl fo_MO (fun idx n rc w h => by cases h) (fun _ _ h => by cases h) (fun _ _ => rfl) rfl (fun _ _ _ _ h => h)
def g_MO_holds : am_G := (gf_MO, (fun _ => none), (fun _ _ => none), (fun _ => none), none, fun _ _ _ _ => False)
def wp_MO_holds : am_Wp := am_wp c_MO_holds g_MO_holds 3 ((some .boolean))
theorem mo_MO_holds : am_Mo wp_MO_holds := am_wp_mono (fun idx n rc w h => by cases h)
theorem ct_MO_holds (l : Launch) (D : va_G) (dA : Nat → ClassId) (lay : Nat → Nat) : fw_Met l D dA lay y_MO_holds (Cond.code y_MO_holds c_MO_holds 3 ((some .boolean)) :: fw_T) { frames := 0, cells := 0, slots := 0, locals := 0 } wp_MO_holds := by
  exact fw_met_of (own := R_MO) (by decide) rfl fo_MO (fun idx n rc w h => by cases h) (fun _ _ h => by cases h) (fun _ _ => rfl) rfl (fun _ _ _ _ h => h)
def gc_MO_jumps (idx : Nat) : Option (Nat × Option Nat × am_Wp) := match idx with
  | 211 => some (1, some 9, wp_MO_pop)
  | 214 => some (3, none, wp_MO_holds)
  | _ => none
def g_MO_jumps : am_G := (gf_MO, gc_MO_jumps, (fun _ _ => none), (fun _ => none), none, fun _ _ _ _ => False)
def wp_MO_jumps : am_Wp := am_wp c_MO_jumps g_MO_jumps 4 ((some .boolean))
theorem mo_MO_jumps : am_Mo wp_MO_jumps := am_wp_mono (by
  intro idx n rc w h
  replace h : gc_MO_jumps idx = some (n, rc, w) := h
  unfold gc_MO_jumps at h
  split at h
  · cases h
    exact mo_MO_pop
  · cases h
    exact mo_MO_holds
  · cases h)
theorem ct_MO_jumps (l : Launch) (D : va_G) (dA : Nat → ClassId) (lay : Nat → Nat) : fw_Met l D dA lay y_MO_jumps (Cond.code y_MO_jumps c_MO_jumps 4 ((some .boolean)) :: fw_T) { frames := 3, cells := 0, slots := 0, locals := 81 } wp_MO_jumps := by
  refine fw_met_of (own := R_MO) (by decide) rfl fo_MO ?_ (fun _ _ h => by cases h) (fun _ _ => rfl) rfl (fun _ _ _ _ h => h)
  intro idx n rc w h
  replace h : gc_MO_jumps idx = some (n, rc, w) := h
  unfold gc_MO_jumps at h
  split at h
  · cases h
    exact ⟨y_MO_pop, c_MO_pop, 1, (some .int), _, 0, ct_MO_pop l D dA lay, rfl, rfl, by decide, by decide, wc_MO_pop, fw_T_in (i := 1095) (by decide +kernel) rfl, wi_MO, ⟨by decide, by decide, by decide⟩, ⟨wk_MO_pop, wl_MO_pop, rfl, _, _, rfl⟩⟩
  · cases h
    exact ⟨y_MO_holds, c_MO_holds, 3, (some .boolean), _, 3, ct_MO_holds l D dA lay, rfl, rfl, by decide, by decide, wc_MO_holds, fw_T_in (i := 1127) (by decide +kernel) rfl, wi_MO, ⟨by decide, by decide, by decide⟩, ⟨wk_MO_holds, rfl⟩⟩
  · cases h
def gc_MO_arrays (idx : Nat) : Option (Nat × Option Nat × am_Wp) := match idx with
  | 100 => some (3, none, wp_MO_in)
  | 201 => some (2, some 9, wp_MO_push)
  | 208 => some (2, some 9, wp_MO_stop)
  | 211 => some (1, some 9, wp_MO_pop)
  | 217 => some (2, some 9, wp_MO_trap)
  | _ => none
def g_MO_arrays : am_G := (gf_MO, gc_MO_arrays, (fun _ _ => none), (fun _ => none), none, fun _ _ _ _ => False)
def wp_MO_arrays : am_Wp := am_wp c_MO_arrays g_MO_arrays 6 ((some .boolean))
theorem mo_MO_arrays : am_Mo wp_MO_arrays := am_wp_mono (by
  intro idx n rc w h
  replace h : gc_MO_arrays idx = some (n, rc, w) := h
  unfold gc_MO_arrays at h
  split at h
  · cases h
    exact mo_MO_in
  · cases h
    exact mo_MO_push
  · cases h
    exact mo_MO_stop
  · cases h
    exact mo_MO_pop
  · cases h
    exact mo_MO_trap
  · cases h)
theorem ct_MO_arrays (l : Launch) (D : va_G) (dA : Nat → ClassId) (lay : Nat → Nat) : fw_Met l D dA lay y_MO_arrays (Cond.code y_MO_arrays c_MO_arrays 6 ((some .boolean)) :: fw_T) { frames := 4, cells := 0, slots := 0, locals := 108 } wp_MO_arrays := by
  refine fw_met_of (own := R_MO) (by decide) rfl fo_MO ?_ (fun _ _ h => by cases h) (fun _ _ => rfl) rfl (fun _ _ _ _ h => h)
  intro idx n rc w h
  replace h : gc_MO_arrays idx = some (n, rc, w) := h
  unfold gc_MO_arrays at h
  split at h
  · cases h
    exact ⟨y_MO_in, c_MO_in, 3, (some .boolean), _, 3, ct_MO_in l D dA lay, rfl, rfl, by decide, by decide, wc_MO_in, fw_T_in (i := 987) (by decide +kernel) rfl, wi_MO, ⟨by decide, by decide, by decide⟩, ⟨wk_MO_in, rfl⟩⟩
  · cases h
    exact ⟨y_MO_push, c_MO_push, 2, none, _, 1, ct_MO_push l D dA lay, rfl, rfl, by decide, by decide, wc_MO_push, fw_T_in (i := 1115) (by decide +kernel) rfl, wi_MO, ⟨by decide, by decide, by decide⟩, ⟨wk_MO_push, wl_MO_push, rfl, _, _, rfl⟩⟩
  · cases h
    exact ⟨y_MO_stop, c_MO_stop, 2, none, _, 1, ct_MO_stop l D dA lay, rfl, rfl, by decide, by decide, wc_MO_stop, fw_T_in (i := 1111) (by decide +kernel) rfl, wi_MO, ⟨by decide, by decide, by decide⟩, ⟨wk_MO_stop, wl_MO_stop, rfl, _, _, rfl⟩⟩
  · cases h
    exact ⟨y_MO_pop, c_MO_pop, 1, (some .int), _, 0, ct_MO_pop l D dA lay, rfl, rfl, by decide, by decide, wc_MO_pop, fw_T_in (i := 1095) (by decide +kernel) rfl, wi_MO, ⟨by decide, by decide, by decide⟩, ⟨wk_MO_pop, wl_MO_pop, rfl, _, _, rfl⟩⟩
  · cases h
    exact ⟨y_MO_trap, c_MO_trap, 6, none, _, 1, ct_MO_trap l D dA lay, rfl, rfl, by decide, by decide, wc_MO_trap, fw_T_in (i := 1134) (by decide +kernel) rfl, wi_MO, ⟨by decide, by decide, by decide⟩, ⟨wk_MO_trap, wl_MO_trap, rfl, _, _, rfl⟩⟩
  · cases h
def gc_MO_moves (idx : Nat) : Option (Nat × Option Nat × am_Wp) := match idx with
  | 122 => some (2, some 9, wp_MO_localOf)
  | 125 => some (2, some 9, wp_MO_word)
  | 194 => some (1, some 9, wp_MO_latest)
  | 201 => some (2, some 9, wp_MO_push)
  | 211 => some (1, some 9, wp_MO_pop)
  | 220 => some (2, some 9, wp_MO_small)
  | _ => none
def g_MO_moves : am_G := (gf_MO, gc_MO_moves, (fun _ _ => none), (fun _ => none), none, fun _ _ _ _ => False)
def wp_MO_moves : am_Wp := am_wp c_MO_moves g_MO_moves 7 ((some .boolean))
theorem mo_MO_moves : am_Mo wp_MO_moves := am_wp_mono (by
  intro idx n rc w h
  replace h : gc_MO_moves idx = some (n, rc, w) := h
  unfold gc_MO_moves at h
  split at h
  · cases h
    exact mo_MO_localOf
  · cases h
    exact mo_MO_word
  · cases h
    exact mo_MO_latest
  · cases h
    exact mo_MO_push
  · cases h
    exact mo_MO_pop
  · cases h
    exact mo_MO_small
  · cases h)
theorem ct_MO_moves (l : Launch) (D : va_G) (dA : Nat → ClassId) (lay : Nat → Nat) : fw_Met l D dA lay y_MO_moves (Cond.code y_MO_moves c_MO_moves 7 ((some .boolean)) :: fw_T) { frames := 3, cells := 0, slots := 0, locals := 81 } wp_MO_moves := by
  refine fw_met_of (own := R_MO) (by decide) rfl fo_MO ?_ (fun _ _ h => by cases h) (fun _ _ => rfl) rfl (fun _ _ _ _ h => h)
  intro idx n rc w h
  replace h : gc_MO_moves idx = some (n, rc, w) := h
  unfold gc_MO_moves at h
  split at h
  · cases h
    exact ⟨y_MO_localOf, c_MO_localOf, 3, (some .int), _, 1, ct_MO_localOf l D dA lay, rfl, rfl, by decide, by decide, wc_MO_localOf, fw_T_in (i := 1018) (by decide +kernel) rfl, wi_MO, ⟨by decide, by decide, by decide⟩, ⟨wk_MO_localOf, wl_MO_localOf, rfl, _, _, rfl⟩⟩
  · cases h
    exact ⟨y_MO_word, c_MO_word, 3, (some .int), _, 1, ct_MO_word l D dA lay, rfl, rfl, by decide, by decide, wc_MO_word, fw_T_in (i := 1022) (by decide +kernel) rfl, wi_MO, ⟨by decide, by decide, by decide⟩, ⟨wk_MO_word, wl_MO_word, rfl, _, _, rfl⟩⟩
  · cases h
    exact ⟨y_MO_latest, c_MO_latest, 1, (some .int), _, 0, ct_MO_latest l D dA lay, rfl, rfl, by decide, by decide, wc_MO_latest, fw_T_in (i := 1091) (by decide +kernel) rfl, wi_MO, ⟨by decide, by decide, by decide⟩, ⟨wk_MO_latest, wl_MO_latest, rfl, _, _, rfl⟩⟩
  · cases h
    exact ⟨y_MO_push, c_MO_push, 2, none, _, 1, ct_MO_push l D dA lay, rfl, rfl, by decide, by decide, wc_MO_push, fw_T_in (i := 1115) (by decide +kernel) rfl, wi_MO, ⟨by decide, by decide, by decide⟩, ⟨wk_MO_push, wl_MO_push, rfl, _, _, rfl⟩⟩
  · cases h
    exact ⟨y_MO_pop, c_MO_pop, 1, (some .int), _, 0, ct_MO_pop l D dA lay, rfl, rfl, by decide, by decide, wc_MO_pop, fw_T_in (i := 1095) (by decide +kernel) rfl, wi_MO, ⟨by decide, by decide, by decide⟩, ⟨wk_MO_pop, wl_MO_pop, rfl, _, _, rfl⟩⟩
  · cases h
    exact ⟨y_MO_small, c_MO_small, 2, (some .int), _, 1, ct_MO_small l D dA lay, rfl, rfl, by decide, by decide, wc_MO_small, fw_T_in (i := 1142) (by decide +kernel) rfl, wi_MO, ⟨by decide, by decide, by decide⟩, ⟨wk_MO_small, wl_MO_small, rfl, _, _, rfl⟩⟩
  · cases h
def gc_MO_step (idx : Nat) : Option (Nat × Option Nat × am_Wp) := match idx with
  | 115 => some (1, none, wp_MO_isJump)
  | 118 => some (1, none, wp_MO_wide)
  | 125 => some (2, some 9, wp_MO_word)
  | 194 => some (1, some 9, wp_MO_latest)
  | 201 => some (2, some 9, wp_MO_push)
  | 211 => some (1, some 9, wp_MO_pop)
  | 217 => some (2, some 9, wp_MO_trap)
  | 223 => some (3, some 9, wp_MO_end)
  | 227 => some (2, some 9, wp_MO_call)
  | 230 => some (2, some 9, wp_MO_jumps)
  | 233 => some (2, some 9, wp_MO_arrays)
  | 236 => some (3, some 9, wp_MO_moves)
  | 239 => some (3, none, wp_MO_sum)
  | _ => none
def g_MO_step : am_G := (gf_MO, gc_MO_step, (fun _ _ => none), (fun _ => none), none, fun _ _ _ _ => False)
def wp_MO_step : am_Wp := am_wp c_MO_step g_MO_step 7 (none)
theorem mo_MO_step : am_Mo wp_MO_step := am_wp_mono (by
  intro idx n rc w h
  replace h : gc_MO_step idx = some (n, rc, w) := h
  unfold gc_MO_step at h
  split at h
  · cases h
    exact mo_MO_isJump
  · cases h
    exact mo_MO_wide
  · cases h
    exact mo_MO_word
  · cases h
    exact mo_MO_latest
  · cases h
    exact mo_MO_push
  · cases h
    exact mo_MO_pop
  · cases h
    exact mo_MO_trap
  · cases h
    exact mo_MO_end
  · cases h
    exact mo_MO_call
  · cases h
    exact mo_MO_jumps
  · cases h
    exact mo_MO_arrays
  · cases h
    exact mo_MO_moves
  · cases h
    exact mo_MO_sum
  · cases h)
theorem ct_MO_step (l : Launch) (D : va_G) (dA : Nat → ClassId) (lay : Nat → Nat) : fw_Met l D dA lay y_MO_step (Cond.code y_MO_step c_MO_step 7 (none) :: fw_T) { frames := 5, cells := 0, slots := 0, locals := 135 } wp_MO_step := by
  refine fw_met_of (own := R_MO) (by decide) rfl fo_MO ?_ (fun _ _ h => by cases h) (fun _ _ => rfl) rfl (fun _ _ _ _ h => h)
  intro idx n rc w h
  replace h : gc_MO_step idx = some (n, rc, w) := h
  unfold gc_MO_step at h
  split at h
  · cases h
    exact ⟨y_MO_isJump, c_MO_isJump, 1, (some .boolean), _, 1, ct_MO_isJump l D dA lay, rfl, rfl, by decide, by decide, wc_MO_isJump, fw_T_in (i := 1015) (by decide +kernel) rfl, wi_MO, ⟨by decide, by decide, by decide⟩, ⟨wk_MO_isJump, rfl⟩⟩
  · cases h
    exact ⟨y_MO_wide, c_MO_wide, 1, (some .int), _, 1, ct_MO_wide l D dA lay, rfl, rfl, by decide, by decide, wc_MO_wide, fw_T_in (i := 1006) (by decide +kernel) rfl, wi_MO, ⟨by decide, by decide, by decide⟩, ⟨wk_MO_wide, rfl⟩⟩
  · cases h
    exact ⟨y_MO_word, c_MO_word, 3, (some .int), _, 1, ct_MO_word l D dA lay, rfl, rfl, by decide, by decide, wc_MO_word, fw_T_in (i := 1022) (by decide +kernel) rfl, wi_MO, ⟨by decide, by decide, by decide⟩, ⟨wk_MO_word, wl_MO_word, rfl, _, _, rfl⟩⟩
  · cases h
    exact ⟨y_MO_latest, c_MO_latest, 1, (some .int), _, 0, ct_MO_latest l D dA lay, rfl, rfl, by decide, by decide, wc_MO_latest, fw_T_in (i := 1091) (by decide +kernel) rfl, wi_MO, ⟨by decide, by decide, by decide⟩, ⟨wk_MO_latest, wl_MO_latest, rfl, _, _, rfl⟩⟩
  · cases h
    exact ⟨y_MO_push, c_MO_push, 2, none, _, 1, ct_MO_push l D dA lay, rfl, rfl, by decide, by decide, wc_MO_push, fw_T_in (i := 1115) (by decide +kernel) rfl, wi_MO, ⟨by decide, by decide, by decide⟩, ⟨wk_MO_push, wl_MO_push, rfl, _, _, rfl⟩⟩
  · cases h
    exact ⟨y_MO_pop, c_MO_pop, 1, (some .int), _, 0, ct_MO_pop l D dA lay, rfl, rfl, by decide, by decide, wc_MO_pop, fw_T_in (i := 1095) (by decide +kernel) rfl, wi_MO, ⟨by decide, by decide, by decide⟩, ⟨wk_MO_pop, wl_MO_pop, rfl, _, _, rfl⟩⟩
  · cases h
    exact ⟨y_MO_trap, c_MO_trap, 6, none, _, 1, ct_MO_trap l D dA lay, rfl, rfl, by decide, by decide, wc_MO_trap, fw_T_in (i := 1134) (by decide +kernel) rfl, wi_MO, ⟨by decide, by decide, by decide⟩, ⟨wk_MO_trap, wl_MO_trap, rfl, _, _, rfl⟩⟩
  · cases h
    exact ⟨y_MO_end, c_MO_end, 3, none, _, 2, ct_MO_end l D dA lay, rfl, rfl, by decide, by decide, wc_MO_end, fw_T_in (i := 1103) (by decide +kernel) rfl, wi_MO, ⟨by decide, by decide, by decide⟩, ⟨wk_MO_end, wl_MO_end, rfl, _, _, rfl⟩⟩
  · cases h
    exact ⟨y_MO_call, c_MO_call, 6, none, _, 1, ct_MO_call l D dA lay, rfl, rfl, by decide, by decide, wc_MO_call, fw_T_in (i := 1119) (by decide +kernel) rfl, wi_MO, ⟨by decide, by decide, by decide⟩, ⟨wk_MO_call, wl_MO_call, rfl, _, _, rfl⟩⟩
  · cases h
    exact ⟨y_MO_jumps, c_MO_jumps, 4, (some .boolean), _, 1, ct_MO_jumps l D dA lay, rfl, rfl, by decide, by decide, wc_MO_jumps, fw_T_in (i := 1123) (by decide +kernel) rfl, wi_MO, ⟨by decide, by decide, by decide⟩, ⟨wk_MO_jumps, wl_MO_jumps, rfl, _, _, rfl⟩⟩
  · cases h
    exact ⟨y_MO_arrays, c_MO_arrays, 6, (some .boolean), _, 1, ct_MO_arrays l D dA lay, rfl, rfl, by decide, by decide, wc_MO_arrays, fw_T_in (i := 1130) (by decide +kernel) rfl, wi_MO, ⟨by decide, by decide, by decide⟩, ⟨wk_MO_arrays, wl_MO_arrays, rfl, _, _, rfl⟩⟩
  · cases h
    exact ⟨y_MO_moves, c_MO_moves, 7, (some .boolean), _, 2, ct_MO_moves l D dA lay, rfl, rfl, by decide, by decide, wc_MO_moves, fw_T_in (i := 1138) (by decide +kernel) rfl, wi_MO, ⟨by decide, by decide, by decide⟩, ⟨wk_MO_moves, wl_MO_moves, rfl, _, _, rfl⟩⟩
  · cases h
    exact ⟨y_MO_sum, c_MO_sum, 3, (some .int), _, 3, ct_MO_sum l D dA lay, rfl, rfl, by decide, by decide, wc_MO_sum, fw_T_in (i := 1146) (by decide +kernel) rfl, wi_MO, ⟨by decide, by decide, by decide⟩, ⟨wk_MO_sum, rfl⟩⟩
  · cases h
def gc_MO_run (idx : Nat) : Option (Nat × Option Nat × am_Wp) := match idx with
  | 100 => some (3, none, wp_MO_in)
  | 243 => some (1, some 9, wp_MO_step)
  | _ => none
def g_MO_run : am_G := (gf_MO, gc_MO_run, (fun _ _ => none), (fun _ => none), none, fun _ _ _ _ => False)
def wp_MO_run : am_Wp := am_wp c_MO_run g_MO_run 3 ((some .int))
theorem mo_MO_run : am_Mo wp_MO_run := am_wp_mono (by
  intro idx n rc w h
  replace h : gc_MO_run idx = some (n, rc, w) := h
  unfold gc_MO_run at h
  split at h
  · cases h
    exact mo_MO_in
  · cases h
    exact mo_MO_step
  · cases h)
theorem ct_MO_run (l : Launch) (D : va_G) (dA : Nat → ClassId) (lay : Nat → Nat) : fw_Met l D dA lay y_MO_run (Cond.code y_MO_run c_MO_run 3 ((some .int)) :: fw_T) { frames := 6, cells := 0, slots := 0, locals := 162 } wp_MO_run := by
  refine fw_met_of (own := R_MO) (by decide) rfl fo_MO ?_ (fun _ _ h => by cases h) (fun _ _ => rfl) rfl (fun _ _ _ _ h => h)
  intro idx n rc w h
  replace h : gc_MO_run idx = some (n, rc, w) := h
  unfold gc_MO_run at h
  split at h
  · cases h
    exact ⟨y_MO_in, c_MO_in, 3, (some .boolean), _, 3, ct_MO_in l D dA lay, rfl, rfl, by decide, by decide, wc_MO_in, fw_T_in (i := 987) (by decide +kernel) rfl, wi_MO, ⟨by decide, by decide, by decide⟩, ⟨wk_MO_in, rfl⟩⟩
  · cases h
    exact ⟨y_MO_step, c_MO_step, 7, none, _, 0, ct_MO_step l D dA lay, rfl, rfl, by decide, by decide, wc_MO_step, fw_T_in (i := 1087) (by decide +kernel) rfl, wi_MO, ⟨by decide, by decide, by decide⟩, ⟨wk_MO_step, wl_MO_step, rfl, _, _, rfl⟩⟩
  · cases h
def g_MO_state : am_G := (gf_MO, (fun _ => none), (fun _ _ => none), (fun _ => none), none, fun _ _ _ _ => False)
def wp_MO_state : am_Wp := am_wp c_MO_state g_MO_state 1 ((some .int))
theorem mo_MO_state : am_Mo wp_MO_state := am_wp_mono (fun idx n rc w h => by cases h)
theorem ct_MO_state (l : Launch) (D : va_G) (dA : Nat → ClassId) (lay : Nat → Nat) : fw_Met l D dA lay y_MO_state (Cond.code y_MO_state c_MO_state 1 ((some .int)) :: fw_T) { frames := 0, cells := 0, slots := 0, locals := 0 } wp_MO_state := by
  exact fw_met_of (own := R_MO) (by decide) rfl fo_MO (fun idx n rc w h => by cases h) (fun _ _ h => by cases h) (fun _ _ => rfl) rfl (fun _ _ _ _ h => h)
def g_MO_result : am_G := (gf_MO, (fun _ => none), (fun _ _ => none), (fun _ => none), none, fun _ _ _ _ => False)
def wp_MO_result : am_Wp := am_wp c_MO_result g_MO_result 1 ((some .int))
theorem mo_MO_result : am_Mo wp_MO_result := am_wp_mono (fun idx n rc w h => by cases h)
theorem ct_MO_result (l : Launch) (D : va_G) (dA : Nat → ClassId) (lay : Nat → Nat) : fw_Met l D dA lay y_MO_result (Cond.code y_MO_result c_MO_result 1 ((some .int)) :: fw_T) { frames := 0, cells := 0, slots := 0, locals := 0 } wp_MO_result := by
  exact fw_met_of (own := R_MO) (by decide) rfl fo_MO (fun idx n rc w h => by cases h) (fun _ _ h => by cases h) (fun _ _ => rfl) rfl (fun _ _ _ _ h => h)
def g_MO_depth : am_G := (gf_MO, (fun _ => none), (fun _ _ => none), (fun _ => none), none, fun _ _ _ _ => False)
def wp_MO_depth : am_Wp := am_wp c_MO_depth g_MO_depth 1 ((some .int))
theorem mo_MO_depth : am_Mo wp_MO_depth := am_wp_mono (fun idx n rc w h => by cases h)
theorem ct_MO_depth (l : Launch) (D : va_G) (dA : Nat → ClassId) (lay : Nat → Nat) : fw_Met l D dA lay y_MO_depth (Cond.code y_MO_depth c_MO_depth 1 ((some .int)) :: fw_T) { frames := 0, cells := 0, slots := 0, locals := 0 } wp_MO_depth := by
  exact fw_met_of (own := R_MO) (by decide) rfl fo_MO (fun idx n rc w h => by cases h) (fun _ _ h => by cases h) (fun _ _ => rfl) rfl (fun _ _ _ _ h => h)
def g_MO_frame : am_G := (gf_MO, (fun _ => none), (fun _ _ => none), (fun _ => none), none, fun _ _ _ _ => False)
def wp_MO_frame : am_Wp := am_wp c_MO_frame g_MO_frame 4 ((some .int))
theorem mo_MO_frame : am_Mo wp_MO_frame := am_wp_mono (fun idx n rc w h => by cases h)
theorem ct_MO_frame (l : Launch) (D : va_G) (dA : Nat → ClassId) (lay : Nat → Nat) : fw_Met l D dA lay y_MO_frame (Cond.code y_MO_frame c_MO_frame 4 ((some .int)) :: fw_T) { frames := 0, cells := 0, slots := 0, locals := 0 } wp_MO_frame := by
  exact fw_met_of (own := R_MO) (by decide) rfl fo_MO (fun idx n rc w h => by cases h) (fun _ _ h => by cases h) (fun _ _ => rfl) rfl (fun _ _ _ _ h => h)
def gc_MO_local (idx : Nat) : Option (Nat × Option Nat × am_Wp) := match idx with
  | 194 => some (1, some 9, wp_MO_latest)
  | _ => none
def g_MO_local : am_G := (gf_MO, gc_MO_local, (fun _ _ => none), (fun _ => none), none, fun _ _ _ _ => False)
def wp_MO_local : am_Wp := am_wp c_MO_local g_MO_local 2 ((some .int))
theorem mo_MO_local : am_Mo wp_MO_local := am_wp_mono (by
  intro idx n rc w h
  replace h : gc_MO_local idx = some (n, rc, w) := h
  unfold gc_MO_local at h
  split at h
  · cases h
    exact mo_MO_latest
  · cases h)
theorem ct_MO_local (l : Launch) (D : va_G) (dA : Nat → ClassId) (lay : Nat → Nat) : fw_Met l D dA lay y_MO_local (Cond.code y_MO_local c_MO_local 2 ((some .int)) :: fw_T) { frames := 1, cells := 0, slots := 0, locals := 27 } wp_MO_local := by
  refine fw_met_of (own := R_MO) (by decide) rfl fo_MO ?_ (fun _ _ h => by cases h) (fun _ _ => rfl) rfl (fun _ _ _ _ h => h)
  intro idx n rc w h
  replace h : gc_MO_local idx = some (n, rc, w) := h
  unfold gc_MO_local at h
  split at h
  · cases h
    exact ⟨y_MO_latest, c_MO_latest, 1, (some .int), _, 0, ct_MO_latest l D dA lay, rfl, rfl, by decide, by decide, wc_MO_latest, fw_T_in (i := 1091) (by decide +kernel) rfl, wi_MO, ⟨by decide, by decide, by decide⟩, ⟨wk_MO_latest, wl_MO_latest, rfl, _, _, rfl⟩⟩
  · cases h
def gc_MO_stack (idx : Nat) : Option (Nat × Option Nat × am_Wp) := match idx with
  | 194 => some (1, some 9, wp_MO_latest)
  | 198 => some (1, some 9, wp_MO_stackAt)
  | _ => none
def g_MO_stack : am_G := (gf_MO, gc_MO_stack, (fun _ _ => none), (fun _ => none), none, fun _ _ _ _ => False)
def wp_MO_stack : am_Wp := am_wp c_MO_stack g_MO_stack 2 ((some .int))
theorem mo_MO_stack : am_Mo wp_MO_stack := am_wp_mono (by
  intro idx n rc w h
  replace h : gc_MO_stack idx = some (n, rc, w) := h
  unfold gc_MO_stack at h
  split at h
  · cases h
    exact mo_MO_latest
  · cases h
    exact mo_MO_stackAt
  · cases h)
theorem ct_MO_stack (l : Launch) (D : va_G) (dA : Nat → ClassId) (lay : Nat → Nat) : fw_Met l D dA lay y_MO_stack (Cond.code y_MO_stack c_MO_stack 2 ((some .int)) :: fw_T) { frames := 2, cells := 0, slots := 0, locals := 54 } wp_MO_stack := by
  refine fw_met_of (own := R_MO) (by decide) rfl fo_MO ?_ (fun _ _ h => by cases h) (fun _ _ => rfl) rfl (fun _ _ _ _ h => h)
  intro idx n rc w h
  replace h : gc_MO_stack idx = some (n, rc, w) := h
  unfold gc_MO_stack at h
  split at h
  · cases h
    exact ⟨y_MO_latest, c_MO_latest, 1, (some .int), _, 0, ct_MO_latest l D dA lay, rfl, rfl, by decide, by decide, wc_MO_latest, fw_T_in (i := 1091) (by decide +kernel) rfl, wi_MO, ⟨by decide, by decide, by decide⟩, ⟨wk_MO_latest, wl_MO_latest, rfl, _, _, rfl⟩⟩
  · cases h
    exact ⟨y_MO_stackAt, c_MO_stackAt, 2, (some .int), _, 0, ct_MO_stackAt l D dA lay, rfl, rfl, by decide, by decide, wc_MO_stackAt, fw_T_in (i := 1099) (by decide +kernel) rfl, wi_MO, ⟨by decide, by decide, by decide⟩, ⟨wk_MO_stackAt, wl_MO_stackAt, rfl, _, _, rfl⟩⟩
  · cases h
def gc_MO_getStatic (idx : Nat) : Option (Nat × Option Nat × am_Wp) := match idx with
  | 100 => some (3, none, wp_MO_in)
  | _ => none
def g_MO_getStatic : am_G := (gf_MO, gc_MO_getStatic, (fun _ _ => none), (fun _ => none), none, fun _ _ _ _ => False)
def wp_MO_getStatic : am_Wp := am_wp c_MO_getStatic g_MO_getStatic 2 ((some .int))
theorem mo_MO_getStatic : am_Mo wp_MO_getStatic := am_wp_mono (by
  intro idx n rc w h
  replace h : gc_MO_getStatic idx = some (n, rc, w) := h
  unfold gc_MO_getStatic at h
  split at h
  · cases h
    exact mo_MO_in
  · cases h)
theorem ct_MO_getStatic (l : Launch) (D : va_G) (dA : Nat → ClassId) (lay : Nat → Nat) : fw_Met l D dA lay y_MO_getStatic (Cond.code y_MO_getStatic c_MO_getStatic 2 ((some .int)) :: fw_T) { frames := 1, cells := 0, slots := 0, locals := 27 } wp_MO_getStatic := by
  refine fw_met_of (own := R_MO) (by decide) rfl fo_MO ?_ (fun _ _ h => by cases h) (fun _ _ => rfl) rfl (fun _ _ _ _ h => h)
  intro idx n rc w h
  replace h : gc_MO_getStatic idx = some (n, rc, w) := h
  unfold gc_MO_getStatic at h
  split at h
  · cases h
    exact ⟨y_MO_in, c_MO_in, 3, (some .boolean), _, 3, ct_MO_in l D dA lay, rfl, rfl, by decide, by decide, wc_MO_in, fw_T_in (i := 987) (by decide +kernel) rfl, wi_MO, ⟨by decide, by decide, by decide⟩, ⟨wk_MO_in, rfl⟩⟩
  · cases h
def gc_MO_heap (idx : Nat) : Option (Nat × Option Nat × am_Wp) := match idx with
  | 100 => some (3, none, wp_MO_in)
  | _ => none
def g_MO_heap : am_G := (gf_MO, gc_MO_heap, (fun _ _ => none), (fun _ => none), none, fun _ _ _ _ => False)
def wp_MO_heap : am_Wp := am_wp c_MO_heap g_MO_heap 2 ((some .int))
theorem mo_MO_heap : am_Mo wp_MO_heap := am_wp_mono (by
  intro idx n rc w h
  replace h : gc_MO_heap idx = some (n, rc, w) := h
  unfold gc_MO_heap at h
  split at h
  · cases h
    exact mo_MO_in
  · cases h)
theorem ct_MO_heap (l : Launch) (D : va_G) (dA : Nat → ClassId) (lay : Nat → Nat) : fw_Met l D dA lay y_MO_heap (Cond.code y_MO_heap c_MO_heap 2 ((some .int)) :: fw_T) { frames := 1, cells := 0, slots := 0, locals := 27 } wp_MO_heap := by
  refine fw_met_of (own := R_MO) (by decide) rfl fo_MO ?_ (fun _ _ h => by cases h) (fun _ _ => rfl) rfl (fun _ _ _ _ h => h)
  intro idx n rc w h
  replace h : gc_MO_heap idx = some (n, rc, w) := h
  unfold gc_MO_heap at h
  split at h
  · cases h
    exact ⟨y_MO_in, c_MO_in, 3, (some .boolean), _, 3, ct_MO_in l D dA lay, rfl, rfl, by decide, by decide, wc_MO_in, fw_T_in (i := 987) (by decide +kernel) rfl, wi_MO, ⟨by decide, by decide, by decide⟩, ⟨wk_MO_in, rfl⟩⟩
  · cases h
def gc_MO_type (idx : Nat) : Option (Nat × Option Nat × am_Wp) := match idx with
  | 100 => some (3, none, wp_MO_in)
  | 131 => some (3, some 9, wp_MO_isStart)
  | _ => none
def g_MO_type : am_G := (gf_MO, gc_MO_type, (fun _ _ => none), (fun _ => none), none, fun _ _ _ _ => False)
def wp_MO_type : am_Wp := am_wp c_MO_type g_MO_type 5 ((some .int))
theorem mo_MO_type : am_Mo wp_MO_type := am_wp_mono (by
  intro idx n rc w h
  replace h : gc_MO_type idx = some (n, rc, w) := h
  unfold gc_MO_type at h
  split at h
  · cases h
    exact mo_MO_in
  · cases h
    exact mo_MO_isStart
  · cases h)
theorem ct_MO_type (l : Launch) (D : va_G) (dA : Nat → ClassId) (lay : Nat → Nat) : fw_Met l D dA lay y_MO_type (Cond.code y_MO_type c_MO_type 5 ((some .int)) :: fw_T) { frames := 1, cells := 0, slots := 0, locals := 27 } wp_MO_type := by
  refine fw_met_of (own := R_MO) (by decide) rfl fo_MO ?_ (fun _ _ h => by cases h) (fun _ _ => rfl) rfl (fun _ _ _ _ h => h)
  intro idx n rc w h
  replace h : gc_MO_type idx = some (n, rc, w) := h
  unfold gc_MO_type at h
  split at h
  · cases h
    exact ⟨y_MO_in, c_MO_in, 3, (some .boolean), _, 3, ct_MO_in l D dA lay, rfl, rfl, by decide, by decide, wc_MO_in, fw_T_in (i := 987) (by decide +kernel) rfl, wi_MO, ⟨by decide, by decide, by decide⟩, ⟨wk_MO_in, rfl⟩⟩
  · cases h
    exact ⟨y_MO_isStart, c_MO_isStart, 3, (some .boolean), _, 2, ct_MO_isStart l D dA lay, rfl, rfl, by decide, by decide, wc_MO_isStart, fw_T_in (i := 1027) (by decide +kernel) rfl, wi_MO, ⟨by decide, by decide, by decide⟩, ⟨wk_MO_isStart, wl_MO_isStart, rfl, _, _, rfl⟩⟩
  · cases h

/-! tables of the constructors: 0 Handler, 1 Instruction, 2 Frame, 3 Method, 4 Code, 5 Shape, 6 Flow, 7 Machine, 8 FrameWalk, 9 FrameWalkModel; 10 the law; written by wip/whole/gen/ctor.py -/
def ck_code (k : Nat) : ByteArray := match k with
  | 0 => c_HA_init
  | 1 => c_IN_init
  | 2 => c_FR_init
  | 3 => c_ME_init
  | 4 => c_CO_init
  | 5 => c_SH_init
  | 6 => c_FL_init
  | 7 => c_MA_init
  | 8 => c_FW_init
  | 9 => c_MO_init
  | _ => code
def ck_own (k : Nat) : String := match k with
  | 0 => R_HA
  | 1 => R_IN
  | 2 => R_FR
  | 3 => R_ME
  | 4 => R_CO
  | 5 => R_SH
  | 6 => R_FL
  | 7 => R_MA
  | 8 => R_FW
  | 9 => R_MO
  | _ => R_LA
def ck_y (k : Nat) : MethodName := match k with
  | 0 => y_HA_init
  | 1 => y_IN_init
  | 2 => y_FR_init
  | 3 => y_ME_init
  | 4 => y_CO_init
  | 5 => y_SH_init
  | 6 => y_FL_init
  | 7 => y_MA_init
  | 8 => y_FW_init
  | 9 => y_MO_init
  | _ => x
def ck_mL (k : Nat) : Nat := match k with
  | 0 => 1
  | 1 => 1
  | 2 => 1
  | 3 => 3
  | 4 => 2
  | 5 => 2
  | 6 => 2
  | 7 => 3
  | 8 => 1
  | 9 => 1
  | _ => 7
def ck_mc (k : Nat) : Nat := match k with
  | 0 => 0
  | 1 => 0
  | 2 => 0
  | 3 => 5
  | 4 => 50
  | 5 => 2
  | 6 => 6
  | 7 => 85
  | 8 => 148
  | 9 => 25
  | _ => 0
def ck_ms (k : Nat) : Nat := match k with
  | 0 => 0
  | 1 => 0
  | 2 => 0
  | 3 => 20
  | 4 => 440
  | 5 => 204
  | 6 => 1004
  | 7 => 612
  | 8 => 2293
  | 9 => 4735
  | _ => 0
def ck_lv (k : Nat) : Nat := match k with
  | 0 => 1
  | 1 => 1
  | 2 => 1
  | 3 => 2
  | 4 => 3
  | 5 => 2
  | 6 => 2
  | 7 => 2
  | 8 => 4
  | 9 => 1
  | _ => 5
def ck_fld (k idx : Nat) : Option (Nat × Nat) := match k with
  | 3 => (match idx with | 17 => some (1, 1) | _ => none)
  | 4 => (match idx with | 15 => some (5, 1) | _ => none)
  | 7 => (match idx with | 28 => some (8, 3) | 33 => some (5, 1) | _ => none)
  | 8 => (match idx with | 10 => some (4, 0) | _ => none)
  | _ => none
def ck_ptf (k idx : Nat) : Option (Nat × Nat) := match k with
  | 3 => (match idx with | 9 => some (1, 0) | 17 => some (1, 1) | _ => none)
  | 4 => (match idx with | 9 => some (5, 0) | 15 => some (5, 1) | _ => none)
  | 5 => (match idx with | 7 => some (6, 0) | 16 => some (6, 1) | 22 => some (6, 2) | _ => none)
  | 6 => (match idx with | 11 => some (7, 0) | 20 => some (7, 1) | 24 => some (7, 2) | 28 => some (7, 3) | 31 => some (7, 4) | 34 => some (7, 5) | 37 => some (7, 6) | _ => none)
  | 7 => (match idx with | 9 => some (8, 0) | 18 => some (8, 1) | 22 => some (8, 2) | 28 => some (8, 3) | 39 => some (0, 0) | 43 => some (8, 6) | 47 => some (8, 4) | 50 => some (8, 5) | 53 => some (8, 9) | _ => none)
  | 8 => (match idx with | 10 => some (4, 0) | 21 => some (4, 1) | 28 => some (4, 2) | 35 => some (4, 3) | 39 => some (4, 4) | 43 => some (4, 5) | 47 => some (4, 6) | 51 => some (4, 7) | _ => none)
  | 9 => (match idx with | 7 => some (9, 2) | 13 => some (9, 4) | 16 => some (9, 5) | 19 => some (9, 6) | 22 => some (9, 7) | 25 => some (9, 8) | 28 => some (9, 9) | 32 => some (9, 10) | 35 => some (9, 11) | 38 => some (9, 12) | 41 => some (9, 13) | 44 => some (9, 14) | 47 => some (9, 16) | 51 => some (9, 17) | 54 => some (9, 18) | 57 => some (9, 19) | 60 => some (9, 20) | 63 => some (9, 21) | 66 => some (9, 26) | 69 => some (9, 29) | 72 => some (9, 31) | 75 => some (9, 33) | 78 => some (9, 35) | 81 => some (9, 36) | 84 => some (9, 37) | 87 => some (9, 38) | _ => none)
  | _ => none
def ck_new (k idx : Nat) : Option Nat := match k with
  | 3 => (match idx with | 15 => some 2 | _ => none)
  | 4 => (match idx with | 13 => some 1 | _ => none)
  | 5 => (match idx with | 13 => some 3 | _ => none)
  | 6 => (match idx with | 17 => some 3 | _ => none)
  | 7 => (match idx with | 15 => some 3 | 26 => some 0 | _ => none)
  | 8 => (match idx with | 7 => some 5 | 16 => some 6 | 25 => some 7 | 32 => some 8 | _ => none)
  | 10 => (match idx with | 8 => some 4 | 33 => some 9 | _ => none)
  | _ => none
def ck_anw (k idx : Nat) : Option Nat := match k with
  | 3 => (match idx with | 15 => some 3 | _ => none)
  | 4 => (match idx with | 13 => some 2 | _ => none)
  | 7 => (match idx with | 26 => some 4 | _ => none)
  | _ => none
def ck_inv (k idx : Nat) : Option (Option (Nat × Nat)) := match k with
  | 0 => (match idx with | 1 => some none | _ => none)
  | 1 => (match idx with | 1 => some none | _ => none)
  | 2 => (match idx with | 1 => some none | _ => none)
  | 3 => (match idx with | 3 => some none | 21 => some (some (0, 0)) | _ => none)
  | 4 => (match idx with | 1 => some none | 19 => some (some (3, 1)) | _ => none)
  | 5 => (match idx with | 1 => some none | 15 => some (some (1, 0)) | _ => none)
  | 6 => (match idx with | 5 => some none | 19 => some (some (1, 0)) | _ => none)
  | 7 => (match idx with | 3 => some none | 17 => some (some (1, 0)) | 32 => some (some (2, 0)) | _ => none)
  | 8 => (match idx with | 1 => some none | 9 => some (some (4, 0)) | 18 => some (some (5, 1)) | 27 => some (some (6, 1)) | 34 => some (some (7, 1)) | _ => none)
  | 9 => (match idx with | 1 => some none | _ => none)
  | 10 => (match idx with | 32 => some (some (8, 0)) | 35 => some (some (9, 0)) | _ => none)
  | _ => none
def ck_ty (k : Nat) : Nat → FieldType := match k with
  | 0 => t_FR
  | 1 => t_ME
  | 2 => t_HA
  | 3 => t_IN
  | 4 => t_FW
  | 5 => t_CO
  | 6 => t_SH
  | 7 => t_FL
  | 8 => t_MA
  | 9 => t_MO
  | _ => t_FR
def ck_def (k : Nat) : List (Int32 ⊕ Option Nat) := match k with
  | 0 => [.inr none, .inl 0, .inl 0, .inl 0]
  | 1 => [.inl 0, .inr none, .inl 0, .inl 0, .inl 0, .inl 0, .inl 0, .inl 0, .inl 0]
  | 2 => [.inl 0, .inl 0, .inl 0, .inl 0]
  | 3 => [.inl 0, .inl 0, .inl 0, .inl 0]
  | 4 => [.inr none, .inr none, .inr none, .inr none, .inr none, .inl 0, .inl 0, .inl 0]
  | 5 => [.inr none, .inr none, .inl 0, .inl 0]
  | 6 => [.inr none, .inr none, .inr none]
  | 7 => [.inr none, .inr none, .inr none, .inr none, .inr none, .inr none, .inr none, .inl 0, .inl 0, .inl 0, .inl 0]
  | 8 => [.inr none, .inr none, .inr none, .inr none, .inr none, .inr none, .inr none, .inl 0, .inl 0, .inl 0, .inl 0]
  | 9 => [.inl 0, .inl 0, .inr none, .inl 0, .inr none, .inr none, .inr none, .inr none, .inr none, .inr none, .inr none, .inr none, .inr none, .inr none, .inr none, .inl 0, .inl 0, .inr none, .inr none, .inr none, .inr none, .inr none, .inl 0, .inl 0, .inl 0, .inl 0, .inr none, .inl 0, .inl 0, .inr none, .inl 0, .inr none, .inl 0, .inr none, .inl 0, .inr none, .inr none, .inr none, .inr none]
  | _ => []
def ck_el (t : Nat) : Nat := match t with
  | 2 => 1
  | 3 => 2
  | _ => 0
def ck_nw : List Cond := [.methodLinkNest "FrameWalk$Method" 21 y_HA_init "FrameWalk", .methodLinkNest "FrameWalk$Shape" 15 y_IN_init "FrameWalk", .methodLinkNest "FrameWalk$Flow" 19 y_IN_init "FrameWalk", .methodLinkNest "FrameWalk$Machine" 17 y_IN_init "FrameWalk", .methodLinkNest "FrameWalk$Machine" 32 y_FR_init "FrameWalk"]
theorem ck_fo {w0 : Cond} : ∀ k idx ci j, ck_fld k idx = some (ci, j) → ∃ (C : String) (T : u_T), fw_cl[ci]? = some (C, T, fw_n ci) ∧ j < fw_n ci ∧ (∀ w ∈ u_ws C T (fw_n ci), w ∈ w0 :: fw_T) ∧ (∀ j, j < fw_n ci → parseFieldDescriptor (T j).2.2.1 = some (ck_ty ci j)) ∧ (∀ a, a < fw_n ci → ∀ b, b < fw_n ci → a ≠ b → (T a).2.1 ≠ (T b).2.1) ∧ Cond.fieldLink (ck_own k) idx (T j).1 (T j).2.1 (T j).2.2.1 ∈ fw_T := by
  intro k idx ci j h
  unfold ck_fld at h
  split at h
  · split at h
    · cases h
      exact ⟨R_ME, T_ME, rfl, by decide, fun w hw => List.mem_cons_of_mem _ (fl_ME w hw), t_ME_ok, n_ME, fw_T_in (i := 72) (by decide +kernel) rfl⟩
    · cases h
  · split at h
    · cases h
      exact ⟨R_CO, T_CO, rfl, by decide, fun w hw => List.mem_cons_of_mem _ (fl_CO w hw), t_CO_ok, n_CO, fw_T_in (i := 126) (by decide +kernel) rfl⟩
    · cases h
  · split at h
    · cases h
      exact ⟨R_MA, T_MA, rfl, by decide, fun w hw => List.mem_cons_of_mem _ (fl_MA w hw), t_MA_ok, n_MA, fw_T_in (i := 267) (by decide +kernel) rfl⟩
    · cases h
      exact ⟨R_CO, T_CO, rfl, by decide, fun w hw => List.mem_cons_of_mem _ (fl_CO w hw), t_CO_ok, n_CO, fw_T_in (i := 127) (by decide +kernel) rfl⟩
    · cases h
  · split at h
    · cases h
      exact ⟨R_FW, T_FW, rfl, by decide, fun w hw => List.mem_cons_of_mem _ (fl_FW w hw), t_FW_ok, n_FW, fw_T_in (i := 302) (by decide +kernel) rfl⟩
    · cases h
  · cases h
theorem ck_po {w0 : Cond} : ∀ k idx ci j, ck_ptf k idx = some (ci, j) → ∃ (C : String) (T : u_T), fw_cl[ci]? = some (C, T, fw_n ci) ∧ j < fw_n ci ∧ (∀ w ∈ u_ws C T (fw_n ci), w ∈ w0 :: fw_T) ∧ (∀ j, j < fw_n ci → parseFieldDescriptor (T j).2.2.1 = some (ck_ty ci j)) ∧ (∀ a, a < fw_n ci → ∀ b, b < fw_n ci → a ≠ b → (T a).2.1 ≠ (T b).2.1) ∧ Cond.fieldLink (ck_own k) idx (T j).1 (T j).2.1 (T j).2.2.1 ∈ fw_T ∧ ((T j).2.2.2 = true → (T j).1 = ck_own k) := by
  intro k idx ci j h
  unfold ck_ptf at h
  split at h
  · split at h
    · cases h
      exact ⟨R_ME, T_ME, rfl, by decide, fun w hw => List.mem_cons_of_mem _ (fl_ME w hw), t_ME_ok, n_ME, fw_T_in (i := 69) (by decide +kernel) rfl, by decide⟩
    · cases h
      exact ⟨R_ME, T_ME, rfl, by decide, fun w hw => List.mem_cons_of_mem _ (fl_ME w hw), t_ME_ok, n_ME, fw_T_in (i := 72) (by decide +kernel) rfl, by decide⟩
    · cases h
  · split at h
    · cases h
      exact ⟨R_CO, T_CO, rfl, by decide, fun w hw => List.mem_cons_of_mem _ (fl_CO w hw), t_CO_ok, n_CO, fw_T_in (i := 125) (by decide +kernel) rfl, by decide⟩
    · cases h
      exact ⟨R_CO, T_CO, rfl, by decide, fun w hw => List.mem_cons_of_mem _ (fl_CO w hw), t_CO_ok, n_CO, fw_T_in (i := 126) (by decide +kernel) rfl, by decide⟩
    · cases h
  · split at h
    · cases h
      exact ⟨R_SH, T_SH, rfl, by decide, fun w hw => List.mem_cons_of_mem _ (fl_SH w hw), t_SH_ok, n_SH, fw_T_in (i := 178) (by decide +kernel) rfl, by decide⟩
    · cases h
      exact ⟨R_SH, T_SH, rfl, by decide, fun w hw => List.mem_cons_of_mem _ (fl_SH w hw), t_SH_ok, n_SH, fw_T_in (i := 179) (by decide +kernel) rfl, by decide⟩
    · cases h
      exact ⟨R_SH, T_SH, rfl, by decide, fun w hw => List.mem_cons_of_mem _ (fl_SH w hw), t_SH_ok, n_SH, fw_T_in (i := 180) (by decide +kernel) rfl, by decide⟩
    · cases h
  · split at h
    · cases h
      exact ⟨R_FL, T_FL, rfl, by decide, fun w hw => List.mem_cons_of_mem _ (fl_FL w hw), t_FL_ok, n_FL, fw_T_in (i := 197) (by decide +kernel) rfl, by decide⟩
    · cases h
      exact ⟨R_FL, T_FL, rfl, by decide, fun w hw => List.mem_cons_of_mem _ (fl_FL w hw), t_FL_ok, n_FL, fw_T_in (i := 198) (by decide +kernel) rfl, by decide⟩
    · cases h
      exact ⟨R_FL, T_FL, rfl, by decide, fun w hw => List.mem_cons_of_mem _ (fl_FL w hw), t_FL_ok, n_FL, fw_T_in (i := 199) (by decide +kernel) rfl, by decide⟩
    · cases h
      exact ⟨R_FL, T_FL, rfl, by decide, fun w hw => List.mem_cons_of_mem _ (fl_FL w hw), t_FL_ok, n_FL, fw_T_in (i := 200) (by decide +kernel) rfl, by decide⟩
    · cases h
      exact ⟨R_FL, T_FL, rfl, by decide, fun w hw => List.mem_cons_of_mem _ (fl_FL w hw), t_FL_ok, n_FL, fw_T_in (i := 201) (by decide +kernel) rfl, by decide⟩
    · cases h
      exact ⟨R_FL, T_FL, rfl, by decide, fun w hw => List.mem_cons_of_mem _ (fl_FL w hw), t_FL_ok, n_FL, fw_T_in (i := 202) (by decide +kernel) rfl, by decide⟩
    · cases h
      exact ⟨R_FL, T_FL, rfl, by decide, fun w hw => List.mem_cons_of_mem _ (fl_FL w hw), t_FL_ok, n_FL, fw_T_in (i := 203) (by decide +kernel) rfl, by decide⟩
    · cases h
  · split at h
    · cases h
      exact ⟨R_MA, T_MA, rfl, by decide, fun w hw => List.mem_cons_of_mem _ (fl_MA w hw), t_MA_ok, n_MA, fw_T_in (i := 264) (by decide +kernel) rfl, by decide⟩
    · cases h
      exact ⟨R_MA, T_MA, rfl, by decide, fun w hw => List.mem_cons_of_mem _ (fl_MA w hw), t_MA_ok, n_MA, fw_T_in (i := 265) (by decide +kernel) rfl, by decide⟩
    · cases h
      exact ⟨R_MA, T_MA, rfl, by decide, fun w hw => List.mem_cons_of_mem _ (fl_MA w hw), t_MA_ok, n_MA, fw_T_in (i := 266) (by decide +kernel) rfl, by decide⟩
    · cases h
      exact ⟨R_MA, T_MA, rfl, by decide, fun w hw => List.mem_cons_of_mem _ (fl_MA w hw), t_MA_ok, n_MA, fw_T_in (i := 267) (by decide +kernel) rfl, by decide⟩
    · cases h
      exact ⟨R_FR, T_FR, rfl, by decide, fun w hw => List.mem_cons_of_mem _ (fl_FR w hw), t_FR_ok, n_FR, fw_T_in (i := 246) (by decide +kernel) rfl, by decide⟩
    · cases h
      exact ⟨R_MA, T_MA, rfl, by decide, fun w hw => List.mem_cons_of_mem _ (fl_MA w hw), t_MA_ok, n_MA, fw_T_in (i := 270) (by decide +kernel) rfl, by decide⟩
    · cases h
      exact ⟨R_MA, T_MA, rfl, by decide, fun w hw => List.mem_cons_of_mem _ (fl_MA w hw), t_MA_ok, n_MA, fw_T_in (i := 268) (by decide +kernel) rfl, by decide⟩
    · cases h
      exact ⟨R_MA, T_MA, rfl, by decide, fun w hw => List.mem_cons_of_mem _ (fl_MA w hw), t_MA_ok, n_MA, fw_T_in (i := 269) (by decide +kernel) rfl, by decide⟩
    · cases h
      exact ⟨R_MA, T_MA, rfl, by decide, fun w hw => List.mem_cons_of_mem _ (fl_MA w hw), t_MA_ok, n_MA, fw_T_in (i := 275) (by decide +kernel) rfl, by decide⟩
    · cases h
  · split at h
    · cases h
      exact ⟨R_FW, T_FW, rfl, by decide, fun w hw => List.mem_cons_of_mem _ (fl_FW w hw), t_FW_ok, n_FW, fw_T_in (i := 302) (by decide +kernel) rfl, by decide⟩
    · cases h
      exact ⟨R_FW, T_FW, rfl, by decide, fun w hw => List.mem_cons_of_mem _ (fl_FW w hw), t_FW_ok, n_FW, fw_T_in (i := 303) (by decide +kernel) rfl, by decide⟩
    · cases h
      exact ⟨R_FW, T_FW, rfl, by decide, fun w hw => List.mem_cons_of_mem _ (fl_FW w hw), t_FW_ok, n_FW, fw_T_in (i := 304) (by decide +kernel) rfl, by decide⟩
    · cases h
      exact ⟨R_FW, T_FW, rfl, by decide, fun w hw => List.mem_cons_of_mem _ (fl_FW w hw), t_FW_ok, n_FW, fw_T_in (i := 305) (by decide +kernel) rfl, by decide⟩
    · cases h
      exact ⟨R_FW, T_FW, rfl, by decide, fun w hw => List.mem_cons_of_mem _ (fl_FW w hw), t_FW_ok, n_FW, fw_T_in (i := 306) (by decide +kernel) rfl, by decide⟩
    · cases h
      exact ⟨R_FW, T_FW, rfl, by decide, fun w hw => List.mem_cons_of_mem _ (fl_FW w hw), t_FW_ok, n_FW, fw_T_in (i := 307) (by decide +kernel) rfl, by decide⟩
    · cases h
      exact ⟨R_FW, T_FW, rfl, by decide, fun w hw => List.mem_cons_of_mem _ (fl_FW w hw), t_FW_ok, n_FW, fw_T_in (i := 308) (by decide +kernel) rfl, by decide⟩
    · cases h
      exact ⟨R_FW, T_FW, rfl, by decide, fun w hw => List.mem_cons_of_mem _ (fl_FW w hw), t_FW_ok, n_FW, fw_T_in (i := 309) (by decide +kernel) rfl, by decide⟩
    · cases h
  · split at h
    · cases h
      exact ⟨R_MO, T_MO, rfl, by decide, fun w hw => List.mem_cons_of_mem _ (fl_MO w hw), t_MO_ok, n_MO, fw_T_in (i := 859) (by decide +kernel) rfl, by decide⟩
    · cases h
      exact ⟨R_MO, T_MO, rfl, by decide, fun w hw => List.mem_cons_of_mem _ (fl_MO w hw), t_MO_ok, n_MO, fw_T_in (i := 861) (by decide +kernel) rfl, by decide⟩
    · cases h
      exact ⟨R_MO, T_MO, rfl, by decide, fun w hw => List.mem_cons_of_mem _ (fl_MO w hw), t_MO_ok, n_MO, fw_T_in (i := 862) (by decide +kernel) rfl, by decide⟩
    · cases h
      exact ⟨R_MO, T_MO, rfl, by decide, fun w hw => List.mem_cons_of_mem _ (fl_MO w hw), t_MO_ok, n_MO, fw_T_in (i := 863) (by decide +kernel) rfl, by decide⟩
    · cases h
      exact ⟨R_MO, T_MO, rfl, by decide, fun w hw => List.mem_cons_of_mem _ (fl_MO w hw), t_MO_ok, n_MO, fw_T_in (i := 864) (by decide +kernel) rfl, by decide⟩
    · cases h
      exact ⟨R_MO, T_MO, rfl, by decide, fun w hw => List.mem_cons_of_mem _ (fl_MO w hw), t_MO_ok, n_MO, fw_T_in (i := 865) (by decide +kernel) rfl, by decide⟩
    · cases h
      exact ⟨R_MO, T_MO, rfl, by decide, fun w hw => List.mem_cons_of_mem _ (fl_MO w hw), t_MO_ok, n_MO, fw_T_in (i := 866) (by decide +kernel) rfl, by decide⟩
    · cases h
      exact ⟨R_MO, T_MO, rfl, by decide, fun w hw => List.mem_cons_of_mem _ (fl_MO w hw), t_MO_ok, n_MO, fw_T_in (i := 867) (by decide +kernel) rfl, by decide⟩
    · cases h
      exact ⟨R_MO, T_MO, rfl, by decide, fun w hw => List.mem_cons_of_mem _ (fl_MO w hw), t_MO_ok, n_MO, fw_T_in (i := 868) (by decide +kernel) rfl, by decide⟩
    · cases h
      exact ⟨R_MO, T_MO, rfl, by decide, fun w hw => List.mem_cons_of_mem _ (fl_MO w hw), t_MO_ok, n_MO, fw_T_in (i := 869) (by decide +kernel) rfl, by decide⟩
    · cases h
      exact ⟨R_MO, T_MO, rfl, by decide, fun w hw => List.mem_cons_of_mem _ (fl_MO w hw), t_MO_ok, n_MO, fw_T_in (i := 870) (by decide +kernel) rfl, by decide⟩
    · cases h
      exact ⟨R_MO, T_MO, rfl, by decide, fun w hw => List.mem_cons_of_mem _ (fl_MO w hw), t_MO_ok, n_MO, fw_T_in (i := 871) (by decide +kernel) rfl, by decide⟩
    · cases h
      exact ⟨R_MO, T_MO, rfl, by decide, fun w hw => List.mem_cons_of_mem _ (fl_MO w hw), t_MO_ok, n_MO, fw_T_in (i := 873) (by decide +kernel) rfl, by decide⟩
    · cases h
      exact ⟨R_MO, T_MO, rfl, by decide, fun w hw => List.mem_cons_of_mem _ (fl_MO w hw), t_MO_ok, n_MO, fw_T_in (i := 874) (by decide +kernel) rfl, by decide⟩
    · cases h
      exact ⟨R_MO, T_MO, rfl, by decide, fun w hw => List.mem_cons_of_mem _ (fl_MO w hw), t_MO_ok, n_MO, fw_T_in (i := 875) (by decide +kernel) rfl, by decide⟩
    · cases h
      exact ⟨R_MO, T_MO, rfl, by decide, fun w hw => List.mem_cons_of_mem _ (fl_MO w hw), t_MO_ok, n_MO, fw_T_in (i := 876) (by decide +kernel) rfl, by decide⟩
    · cases h
      exact ⟨R_MO, T_MO, rfl, by decide, fun w hw => List.mem_cons_of_mem _ (fl_MO w hw), t_MO_ok, n_MO, fw_T_in (i := 877) (by decide +kernel) rfl, by decide⟩
    · cases h
      exact ⟨R_MO, T_MO, rfl, by decide, fun w hw => List.mem_cons_of_mem _ (fl_MO w hw), t_MO_ok, n_MO, fw_T_in (i := 878) (by decide +kernel) rfl, by decide⟩
    · cases h
      exact ⟨R_MO, T_MO, rfl, by decide, fun w hw => List.mem_cons_of_mem _ (fl_MO w hw), t_MO_ok, n_MO, fw_T_in (i := 883) (by decide +kernel) rfl, by decide⟩
    · cases h
      exact ⟨R_MO, T_MO, rfl, by decide, fun w hw => List.mem_cons_of_mem _ (fl_MO w hw), t_MO_ok, n_MO, fw_T_in (i := 886) (by decide +kernel) rfl, by decide⟩
    · cases h
      exact ⟨R_MO, T_MO, rfl, by decide, fun w hw => List.mem_cons_of_mem _ (fl_MO w hw), t_MO_ok, n_MO, fw_T_in (i := 888) (by decide +kernel) rfl, by decide⟩
    · cases h
      exact ⟨R_MO, T_MO, rfl, by decide, fun w hw => List.mem_cons_of_mem _ (fl_MO w hw), t_MO_ok, n_MO, fw_T_in (i := 890) (by decide +kernel) rfl, by decide⟩
    · cases h
      exact ⟨R_MO, T_MO, rfl, by decide, fun w hw => List.mem_cons_of_mem _ (fl_MO w hw), t_MO_ok, n_MO, fw_T_in (i := 892) (by decide +kernel) rfl, by decide⟩
    · cases h
      exact ⟨R_MO, T_MO, rfl, by decide, fun w hw => List.mem_cons_of_mem _ (fl_MO w hw), t_MO_ok, n_MO, fw_T_in (i := 893) (by decide +kernel) rfl, by decide⟩
    · cases h
      exact ⟨R_MO, T_MO, rfl, by decide, fun w hw => List.mem_cons_of_mem _ (fl_MO w hw), t_MO_ok, n_MO, fw_T_in (i := 894) (by decide +kernel) rfl, by decide⟩
    · cases h
      exact ⟨R_MO, T_MO, rfl, by decide, fun w hw => List.mem_cons_of_mem _ (fl_MO w hw), t_MO_ok, n_MO, fw_T_in (i := 895) (by decide +kernel) rfl, by decide⟩
    · cases h
  · cases h
theorem ck_nf {w0 : Cond} : ∀ k idx ci, ck_new k idx = some ci → ∃ (C : String) (T : u_T), fw_cl[ci]? = some (C, T, fw_n ci) ∧ (∀ w ∈ u_ws C T (fw_n ci), w ∈ w0 :: fw_T) ∧ (∀ j, j < fw_n ci → parseFieldDescriptor (T j).2.2.1 = some (ck_ty ci j)) ∧ Cond.classLink (ck_own k) idx C ∈ fw_T ∧ Cond.instantiable C (fw_n ci) ∈ fw_T ∧ Cond.initialized C ∈ fw_T ∧ (∀ j, j < fw_n ci → defaultValue (ck_ty ci j) = match (ck_def ci).getD j (.inl 0) with | .inl x => .int x | .inr _ => .null) ∧ (ck_def ci).length = fw_n ci := by
  intro k idx ci h
  unfold ck_new at h
  split at h
  · split at h
    · cases h
      exact ⟨R_HA, T_HA, rfl, fun w hw => List.mem_cons_of_mem _ (fl_HA w hw), t_HA_ok, fw_T_in (i := 39) (by decide +kernel) rfl, fw_T_in (i := 41) (by decide +kernel) rfl, wi_HA, by decide, rfl⟩
    · cases h
  · split at h
    · cases h
      exact ⟨R_ME, T_ME, rfl, fun w hw => List.mem_cons_of_mem _ (fl_ME w hw), t_ME_ok, fw_T_in (i := 32) (by decide +kernel) rfl, fw_T_in (i := 34) (by decide +kernel) rfl, wi_ME, by decide, rfl⟩
    · cases h
  · split at h
    · cases h
      exact ⟨R_IN, T_IN, rfl, fun w hw => List.mem_cons_of_mem _ (fl_IN w hw), t_IN_ok, fw_T_in (i := 149) (by decide +kernel) rfl, fw_T_in (i := 150) (by decide +kernel) rfl, wi_IN, by decide, rfl⟩
    · cases h
  · split at h
    · cases h
      exact ⟨R_IN, T_IN, rfl, fun w hw => List.mem_cons_of_mem _ (fl_IN w hw), t_IN_ok, fw_T_in (i := 195) (by decide +kernel) rfl, fw_T_in (i := 150) (by decide +kernel) rfl, wi_IN, by decide, rfl⟩
    · cases h
  · split at h
    · cases h
      exact ⟨R_IN, T_IN, rfl, fun w hw => List.mem_cons_of_mem _ (fl_IN w hw), t_IN_ok, fw_T_in (i := 237) (by decide +kernel) rfl, fw_T_in (i := 150) (by decide +kernel) rfl, wi_IN, by decide, rfl⟩
    · cases h
      exact ⟨R_FR, T_FR, rfl, fun w hw => List.mem_cons_of_mem _ (fl_FR w hw), t_FR_ok, fw_T_in (i := 239) (by decide +kernel) rfl, fw_T_in (i := 241) (by decide +kernel) rfl, wi_FR, by decide, rfl⟩
    · cases h
  · split at h
    · cases h
      exact ⟨R_CO, T_CO, rfl, fun w hw => List.mem_cons_of_mem _ (fl_CO w hw), t_CO_ok, fw_T_in (i := 26) (by decide +kernel) rfl, fw_T_in (i := 27) (by decide +kernel) rfl, wi_CO, by decide, rfl⟩
    · cases h
      exact ⟨R_SH, T_SH, rfl, fun w hw => List.mem_cons_of_mem _ (fl_SH w hw), t_SH_ok, fw_T_in (i := 143) (by decide +kernel) rfl, fw_T_in (i := 144) (by decide +kernel) rfl, wi_SH, by decide, rfl⟩
    · cases h
      exact ⟨R_FL, T_FL, rfl, fun w hw => List.mem_cons_of_mem _ (fl_FL w hw), t_FL_ok, fw_T_in (i := 189) (by decide +kernel) rfl, fw_T_in (i := 190) (by decide +kernel) rfl, wi_FL, by decide, rfl⟩
    · cases h
      exact ⟨R_MA, T_MA, rfl, fun w hw => List.mem_cons_of_mem _ (fl_MA w hw), t_MA_ok, fw_T_in (i := 231) (by decide +kernel) rfl, fw_T_in (i := 232) (by decide +kernel) rfl, wi_MA, by decide, rfl⟩
    · cases h
  · split at h
    · cases h
      exact ⟨R_FW, T_FW, rfl, fun w hw => List.mem_cons_of_mem _ (fl_FW w hw), t_FW_ok, fw_T_in (i := 18) (by decide +kernel) rfl, fw_T_in (i := 19) (by decide +kernel) rfl, wi_FW, by decide, rfl⟩
    · cases h
      exact ⟨R_MO, T_MO, rfl, fun w hw => List.mem_cons_of_mem _ (fl_MO w hw), t_MO_ok, fw_T_in (i := 851) (by decide +kernel) rfl, fw_T_in (i := 852) (by decide +kernel) rfl, wi_MO, by decide, rfl⟩
    · cases h
  · cases h
theorem ck_af : ∀ k idx t, ck_anw k idx = some t → (t = 2 ∧ Cond.classLink (ck_own k) idx "FrameWalk$Method" ∈ fw_T) ∨ (t = 3 ∧ Cond.classLink (ck_own k) idx "FrameWalk$Handler" ∈ fw_T) ∨ (t = 4 ∧ Cond.classLink (ck_own k) idx "FrameWalk$Frame" ∈ fw_T) := by
  intro k idx t h
  unfold ck_anw at h
  split at h
  · split at h
    · cases h
      exact Or.inr <| Or.inl ⟨rfl, fw_T_in (i := 39) (by decide +kernel) rfl⟩
    · cases h
  · split at h
    · cases h
      exact Or.inl ⟨rfl, fw_T_in (i := 32) (by decide +kernel) rfl⟩
    · cases h
  · split at h
    · cases h
      exact Or.inr <| Or.inr ⟨rfl, fw_T_in (i := 239) (by decide +kernel) rfl⟩
    · cases h
  · cases h
theorem ck_oi : ∀ k idx, ck_inv k idx = some none → Cond.methodLink (ck_own k) idx Lib.objectInit ∈ fw_T := by
  intro k idx h
  unfold ck_inv at h
  split at h
  · split at h
    · exact fw_T_in (i := 45) (by decide +kernel) rfl
    · cases h
  · split at h
    · exact fw_T_in (i := 154) (by decide +kernel) rfl
    · cases h
  · split at h
    · exact fw_T_in (i := 245) (by decide +kernel) rfl
    · cases h
  · split at h
    · exact fw_T_in (i := 38) (by decide +kernel) rfl
    · cases h
    · cases h
  · split at h
    · exact fw_T_in (i := 31) (by decide +kernel) rfl
    · cases h
    · cases h
  · split at h
    · exact fw_T_in (i := 148) (by decide +kernel) rfl
    · cases h
    · cases h
  · split at h
    · exact fw_T_in (i := 194) (by decide +kernel) rfl
    · cases h
    · cases h
  · split at h
    · exact fw_T_in (i := 236) (by decide +kernel) rfl
    · cases h
    · cases h
    · cases h
  · split at h
    · exact fw_T_in (i := 23) (by decide +kernel) rfl
    · cases h
    · cases h
    · cases h
    · cases h
    · cases h
  · split at h
    · exact fw_T_in (i := 856) (by decide +kernel) rfl
    · cases h
  · split at h
    · cases h
    · cases h
    · cases h
  · cases h
theorem ck_ci : ∀ k idx k2 n, ck_inv k idx = some (some (k2, n)) → k2 < 10 ∧ ck_lv k2 < ck_lv k ∧ (parseMethodDescriptor (ck_y k2).desc).map (fun d => d.parameters.length) = some n ∧ (Cond.methodLink (ck_own k) idx (ck_y k2) ∈ fw_T ∨ Cond.methodLinkNest (ck_own k) idx (ck_y k2) "FrameWalk" ∈ ck_nw) := by
  intro k idx k2 n h
  unfold ck_inv at h
  split at h
  · split at h
    · cases h
    · cases h
  · split at h
    · cases h
    · cases h
  · split at h
    · cases h
    · cases h
  · split at h
    · cases h
    · cases h
      exact ⟨by decide, by decide, by decide, Or.inr (by decide +kernel)⟩
    · cases h
  · split at h
    · cases h
    · cases h
      exact ⟨by decide, by decide, by decide, Or.inl (fw_T_in (i := 35) (by decide +kernel) rfl)⟩
    · cases h
  · split at h
    · cases h
    · cases h
      exact ⟨by decide, by decide, by decide, Or.inr (by decide +kernel)⟩
    · cases h
  · split at h
    · cases h
    · cases h
      exact ⟨by decide, by decide, by decide, Or.inr (by decide +kernel)⟩
    · cases h
  · split at h
    · cases h
    · cases h
      exact ⟨by decide, by decide, by decide, Or.inr (by decide +kernel)⟩
    · cases h
      exact ⟨by decide, by decide, by decide, Or.inr (by decide +kernel)⟩
    · cases h
  · split at h
    · cases h
    · cases h
      exact ⟨by decide, by decide, by decide, Or.inl (fw_T_in (i := 28) (by decide +kernel) rfl)⟩
    · cases h
      exact ⟨by decide, by decide, by decide, Or.inl (fw_T_in (i := 145) (by decide +kernel) rfl)⟩
    · cases h
      exact ⟨by decide, by decide, by decide, Or.inl (fw_T_in (i := 191) (by decide +kernel) rfl)⟩
    · cases h
      exact ⟨by decide, by decide, by decide, Or.inl (fw_T_in (i := 233) (by decide +kernel) rfl)⟩
    · cases h
  · split at h
    · cases h
    · cases h
  · split at h
    · cases h
      exact ⟨by decide, by decide, by decide, Or.inl (fw_T_in (i := 20) (by decide +kernel) rfl)⟩
    · cases h
      exact ⟨by decide, by decide, by decide, Or.inl (fw_T_in (i := 853) (by decide +kernel) rfl)⟩
    · cases h
  · cases h
set_option maxRecDepth 100000 in
theorem ck_kf : ∀ k, k < 10 → plainName (ck_y k).cls = true ∧ (ck_y k).cls = ck_own k ∧ (ck_y k).name = "<init>" ∧ Cond.code (ck_y k) (ck_code k) (ck_mL k) none ∈ fw_T ∧ Cond.instanceMethod (ck_y k) ∈ fw_T ∧ Cond.initialized (ck_y k).cls ∈ fw_T ∧ ((ck_y k).cls ≠ "java/lang/invoke/MethodHandle" ∧ (ck_y k).cls ≠ "java/lang/invoke/VarHandle") ∧ ck_mL k ≤ 8 := by
  intro k hk
  have h10 : k = 0 ∨ k = 1 ∨ k = 2 ∨ k = 3 ∨ k = 4 ∨ k = 5 ∨ k = 6 ∨ k = 7 ∨ k = 8 ∨ k = 9 := by omega
  rcases h10 with rfl | rfl | rfl | rfl | rfl | rfl | rfl | rfl | rfl | rfl
  · exact ⟨by decide, rfl, rfl, fw_T_in (i := 44) rfl rfl, fw_T_in (i := 43) (by decide +kernel) rfl, wi_HA, by decide, by decide⟩
  · exact ⟨by decide, rfl, rfl, fw_T_in (i := 153) rfl rfl, fw_T_in (i := 152) (by decide +kernel) rfl, wi_IN, by decide, by decide⟩
  · exact ⟨by decide, rfl, rfl, fw_T_in (i := 244) rfl rfl, fw_T_in (i := 243) (by decide +kernel) rfl, wi_FR, by decide, by decide⟩
  · exact ⟨by decide, rfl, rfl, fw_T_in (i := 37) rfl rfl, fw_T_in (i := 36) (by decide +kernel) rfl, wi_ME, by decide, by decide⟩
  · exact ⟨by decide, rfl, rfl, fw_T_in (i := 30) rfl rfl, fw_T_in (i := 29) (by decide +kernel) rfl, wi_CO, by decide, by decide⟩
  · exact ⟨by decide, rfl, rfl, fw_T_in (i := 147) rfl rfl, fw_T_in (i := 146) (by decide +kernel) rfl, wi_SH, by decide, by decide⟩
  · exact ⟨by decide, rfl, rfl, fw_T_in (i := 193) rfl rfl, fw_T_in (i := 192) (by decide +kernel) rfl, wi_FL, by decide, by decide⟩
  · exact ⟨by decide, rfl, rfl, fw_T_in (i := 235) rfl rfl, fw_T_in (i := 234) (by decide +kernel) rfl, wi_MA, by decide, by decide⟩
  · exact ⟨by decide, rfl, rfl, fw_T_in (i := 22) rfl rfl, fw_T_in (i := 21) (by decide +kernel) rfl, wi_FW, by decide, by decide⟩
  · exact ⟨by decide, rfl, rfl, fw_T_in (i := 855) rfl rfl, fw_T_in (i := 854) (by decide +kernel) rfl, wi_MO, by decide, by decide⟩

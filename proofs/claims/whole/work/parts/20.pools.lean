/-! the pools: fields as each class names them; written by wip/whole/gen/methods.py -/
theorem fw_T_list {ws : List Cond} (ps : List Nat) (hp : ws = ps.filterMap (fun i => tables_1[i]?)) (hg : ws.all goodWord = true) : ∀ w ∈ ws, w ∈ fw_T := by
  intro w hw
  have hg := List.all_eq_true.mp hg w hw
  rw [hp] at hw
  obtain ⟨i, -, hi⟩ := List.mem_filterMap.mp hw
  exact fw_T_in hi hg
theorem fl_FR : ∀ w ∈ u_ws R_FR T_FR 4, w ∈ fw_T := fw_T_list [255, 257, 259, 261] (by decide +kernel) (by decide +kernel)
theorem k_FR : ∀ j, j < 4 → (fw_kd 0 j < 4 → (T_FR j).2.2.2 = false) ∧ (fw_kd 0 j = 0 → t_FR j = .int) ∧ (fw_kd 0 j = 1 → t_FR j = .boolean) ∧ (fw_kd 0 j = 2 → t_FR j = .object "FrameWalk$Method") ∧ (fw_kd 0 j = 3 → t_FR j = .object "FrameWalk$Frame") := by decide +kernel
theorem fo_of_FR {own : String} {idx j : Nat} {w0 : Cond} (hj : j < 4) (hl : Cond.fieldLink own idx (T_FR j).1 (T_FR j).2.1 (T_FR j).2.2.1 ∈ fw_T) : am_Fo own (w0 :: fw_T) idx 0 j := ⟨R_FR, T_FR, t_FR, rfl, hj, fun w hw => List.mem_cons_of_mem _ (fl_FR w hw), t_FR_ok, n_FR, List.mem_cons_of_mem _ hl, (k_FR j hj).1, (k_FR j hj).2.1, (k_FR j hj).2.2.1, fun h => ⟨_, (k_FR j hj).2.2.2.1 h⟩, fun h => ⟨_, (k_FR j hj).2.2.2.2 h⟩⟩
theorem fl_ME : ∀ w ∈ u_ws R_ME T_ME 9, w ∈ fw_T := fw_T_list [106, 108, 110, 112, 114, 116, 118, 120, 122] (by decide +kernel) (by decide +kernel)
theorem k_ME : ∀ j, j < 9 → (fw_kd 1 j < 4 → (T_ME j).2.2.2 = false) ∧ (fw_kd 1 j = 0 → t_ME j = .int) ∧ (fw_kd 1 j = 1 → t_ME j = .boolean) ∧ (fw_kd 1 j = 2 → t_ME j = .object "FrameWalk$Method") ∧ (fw_kd 1 j = 3 → t_ME j = .object "FrameWalk$Frame") := by decide +kernel
theorem fo_of_ME {own : String} {idx j : Nat} {w0 : Cond} (hj : j < 9) (hl : Cond.fieldLink own idx (T_ME j).1 (T_ME j).2.1 (T_ME j).2.2.1 ∈ fw_T) : am_Fo own (w0 :: fw_T) idx 1 j := ⟨R_ME, T_ME, t_ME, rfl, hj, fun w hw => List.mem_cons_of_mem _ (fl_ME w hw), t_ME_ok, n_ME, List.mem_cons_of_mem _ hl, (k_ME j hj).1, (k_ME j hj).2.1, (k_ME j hj).2.2.1, fun h => ⟨_, (k_ME j hj).2.2.2.1 h⟩, fun h => ⟨_, (k_ME j hj).2.2.2.2 h⟩⟩
theorem fl_HA : ∀ w ∈ u_ws R_HA T_HA 4, w ∈ fw_T := fw_T_list [59, 61, 63, 65] (by decide +kernel) (by decide +kernel)
theorem k_HA : ∀ j, j < 4 → (fw_kd 2 j < 4 → (T_HA j).2.2.2 = false) ∧ (fw_kd 2 j = 0 → t_HA j = .int) ∧ (fw_kd 2 j = 1 → t_HA j = .boolean) ∧ (fw_kd 2 j = 2 → t_HA j = .object "FrameWalk$Method") ∧ (fw_kd 2 j = 3 → t_HA j = .object "FrameWalk$Frame") := by decide +kernel
theorem fo_of_HA {own : String} {idx j : Nat} {w0 : Cond} (hj : j < 4) (hl : Cond.fieldLink own idx (T_HA j).1 (T_HA j).2.1 (T_HA j).2.2.1 ∈ fw_T) : am_Fo own (w0 :: fw_T) idx 2 j := ⟨R_HA, T_HA, t_HA, rfl, hj, fun w hw => List.mem_cons_of_mem _ (fl_HA w hw), t_HA_ok, n_HA, List.mem_cons_of_mem _ hl, (k_HA j hj).1, (k_HA j hj).2.1, (k_HA j hj).2.2.1, fun h => ⟨_, (k_HA j hj).2.2.2.1 h⟩, fun h => ⟨_, (k_HA j hj).2.2.2.2 h⟩⟩
theorem fl_IN : ∀ w ∈ u_ws R_IN T_IN 4, w ∈ fw_T := fw_T_list [169, 171, 173, 175] (by decide +kernel) (by decide +kernel)
theorem k_IN : ∀ j, j < 4 → (fw_kd 3 j < 4 → (T_IN j).2.2.2 = false) ∧ (fw_kd 3 j = 0 → t_IN j = .int) ∧ (fw_kd 3 j = 1 → t_IN j = .boolean) ∧ (fw_kd 3 j = 2 → t_IN j = .object "FrameWalk$Method") ∧ (fw_kd 3 j = 3 → t_IN j = .object "FrameWalk$Frame") := by decide +kernel
theorem fo_of_IN {own : String} {idx j : Nat} {w0 : Cond} (hj : j < 4) (hl : Cond.fieldLink own idx (T_IN j).1 (T_IN j).2.1 (T_IN j).2.2.1 ∈ fw_T) : am_Fo own (w0 :: fw_T) idx 3 j := ⟨R_IN, T_IN, t_IN, rfl, hj, fun w hw => List.mem_cons_of_mem _ (fl_IN w hw), t_IN_ok, n_IN, List.mem_cons_of_mem _ hl, (k_IN j hj).1, (k_IN j hj).2.1, (k_IN j hj).2.2.1, fun h => ⟨_, (k_IN j hj).2.2.2.1 h⟩, fun h => ⟨_, (k_IN j hj).2.2.2.2 h⟩⟩
theorem fl_FW : ∀ w ∈ u_ws R_FW T_FW 8, w ∈ fw_T := fw_T_list [310, 312, 314, 316, 318, 320, 322, 324] (by decide +kernel) (by decide +kernel)
theorem k_FW : ∀ j, j < 8 → (fw_kd 4 j < 4 → (T_FW j).2.2.2 = false) ∧ (fw_kd 4 j = 0 → t_FW j = .int) ∧ (fw_kd 4 j = 1 → t_FW j = .boolean) ∧ (fw_kd 4 j = 2 → t_FW j = .object "FrameWalk$Method") ∧ (fw_kd 4 j = 3 → t_FW j = .object "FrameWalk$Frame") := by decide +kernel
theorem fo_of_FW {own : String} {idx j : Nat} {w0 : Cond} (hj : j < 8) (hl : Cond.fieldLink own idx (T_FW j).1 (T_FW j).2.1 (T_FW j).2.2.1 ∈ fw_T) : am_Fo own (w0 :: fw_T) idx 4 j := ⟨R_FW, T_FW, t_FW, rfl, hj, fun w hw => List.mem_cons_of_mem _ (fl_FW w hw), t_FW_ok, n_FW, List.mem_cons_of_mem _ hl, (k_FW j hj).1, (k_FW j hj).2.1, (k_FW j hj).2.2.1, fun h => ⟨_, (k_FW j hj).2.2.2.1 h⟩, fun h => ⟨_, (k_FW j hj).2.2.2.2 h⟩⟩
theorem fl_CO : ∀ w ∈ u_ws R_CO T_CO 4, w ∈ fw_T := fw_T_list [134, 136, 138, 140] (by decide +kernel) (by decide +kernel)
theorem k_CO : ∀ j, j < 4 → (fw_kd 5 j < 4 → (T_CO j).2.2.2 = false) ∧ (fw_kd 5 j = 0 → t_CO j = .int) ∧ (fw_kd 5 j = 1 → t_CO j = .boolean) ∧ (fw_kd 5 j = 2 → t_CO j = .object "FrameWalk$Method") ∧ (fw_kd 5 j = 3 → t_CO j = .object "FrameWalk$Frame") := by decide +kernel
theorem fo_of_CO {own : String} {idx j : Nat} {w0 : Cond} (hj : j < 4) (hl : Cond.fieldLink own idx (T_CO j).1 (T_CO j).2.1 (T_CO j).2.2.1 ∈ fw_T) : am_Fo own (w0 :: fw_T) idx 5 j := ⟨R_CO, T_CO, t_CO, rfl, hj, fun w hw => List.mem_cons_of_mem _ (fl_CO w hw), t_CO_ok, n_CO, List.mem_cons_of_mem _ hl, (k_CO j hj).1, (k_CO j hj).2.1, (k_CO j hj).2.2.1, fun h => ⟨_, (k_CO j hj).2.2.2.1 h⟩, fun h => ⟨_, (k_CO j hj).2.2.2.2 h⟩⟩
theorem fl_SH : ∀ w ∈ u_ws R_SH T_SH 3, w ∈ fw_T := fw_T_list [181, 183, 185] (by decide +kernel) (by decide +kernel)
theorem k_SH : ∀ j, j < 3 → (fw_kd 6 j < 4 → (T_SH j).2.2.2 = false) ∧ (fw_kd 6 j = 0 → t_SH j = .int) ∧ (fw_kd 6 j = 1 → t_SH j = .boolean) ∧ (fw_kd 6 j = 2 → t_SH j = .object "FrameWalk$Method") ∧ (fw_kd 6 j = 3 → t_SH j = .object "FrameWalk$Frame") := by decide +kernel
theorem fo_of_SH {own : String} {idx j : Nat} {w0 : Cond} (hj : j < 3) (hl : Cond.fieldLink own idx (T_SH j).1 (T_SH j).2.1 (T_SH j).2.2.1 ∈ fw_T) : am_Fo own (w0 :: fw_T) idx 6 j := ⟨R_SH, T_SH, t_SH, rfl, hj, fun w hw => List.mem_cons_of_mem _ (fl_SH w hw), t_SH_ok, n_SH, List.mem_cons_of_mem _ hl, (k_SH j hj).1, (k_SH j hj).2.1, (k_SH j hj).2.2.1, fun h => ⟨_, (k_SH j hj).2.2.2.1 h⟩, fun h => ⟨_, (k_SH j hj).2.2.2.2 h⟩⟩
theorem fl_FL : ∀ w ∈ u_ws R_FL T_FL 11, w ∈ fw_T := fw_T_list [208, 210, 212, 214, 216, 218, 220, 222, 224, 226, 228] (by decide +kernel) (by decide +kernel)
theorem k_FL : ∀ j, j < 11 → (fw_kd 7 j < 4 → (T_FL j).2.2.2 = false) ∧ (fw_kd 7 j = 0 → t_FL j = .int) ∧ (fw_kd 7 j = 1 → t_FL j = .boolean) ∧ (fw_kd 7 j = 2 → t_FL j = .object "FrameWalk$Method") ∧ (fw_kd 7 j = 3 → t_FL j = .object "FrameWalk$Frame") := by decide +kernel
theorem fo_of_FL {own : String} {idx j : Nat} {w0 : Cond} (hj : j < 11) (hl : Cond.fieldLink own idx (T_FL j).1 (T_FL j).2.1 (T_FL j).2.2.1 ∈ fw_T) : am_Fo own (w0 :: fw_T) idx 7 j := ⟨R_FL, T_FL, t_FL, rfl, hj, fun w hw => List.mem_cons_of_mem _ (fl_FL w hw), t_FL_ok, n_FL, List.mem_cons_of_mem _ hl, (k_FL j hj).1, (k_FL j hj).2.1, (k_FL j hj).2.2.1, fun h => ⟨_, (k_FL j hj).2.2.2.1 h⟩, fun h => ⟨_, (k_FL j hj).2.2.2.2 h⟩⟩
theorem fl_MA : ∀ w ∈ u_ws R_MA T_MA 11, w ∈ fw_T := fw_T_list [279, 281, 283, 285, 287, 289, 291, 293, 295, 297, 299] (by decide +kernel) (by decide +kernel)
theorem k_MA : ∀ j, j < 11 → (fw_kd 8 j < 4 → (T_MA j).2.2.2 = false) ∧ (fw_kd 8 j = 0 → t_MA j = .int) ∧ (fw_kd 8 j = 1 → t_MA j = .boolean) ∧ (fw_kd 8 j = 2 → t_MA j = .object "FrameWalk$Method") ∧ (fw_kd 8 j = 3 → t_MA j = .object "FrameWalk$Frame") := by decide +kernel
theorem fo_of_MA {own : String} {idx j : Nat} {w0 : Cond} (hj : j < 11) (hl : Cond.fieldLink own idx (T_MA j).1 (T_MA j).2.1 (T_MA j).2.2.1 ∈ fw_T) : am_Fo own (w0 :: fw_T) idx 8 j := ⟨R_MA, T_MA, t_MA, rfl, hj, fun w hw => List.mem_cons_of_mem _ (fl_MA w hw), t_MA_ok, n_MA, List.mem_cons_of_mem _ hl, (k_MA j hj).1, (k_MA j hj).2.1, (k_MA j hj).2.2.1, fun h => ⟨_, (k_MA j hj).2.2.2.1 h⟩, fun h => ⟨_, (k_MA j hj).2.2.2.2 h⟩⟩
theorem fl_MO : ∀ w ∈ u_ws R_MO T_MO 39, w ∈ fw_T := fw_T_list [896, 898, 900, 902, 904, 906, 908, 910, 912, 914, 916, 918, 920, 922, 924, 926, 928, 930, 932, 934, 936, 938, 940, 942, 944, 946, 948, 950, 952, 954, 956, 958, 960, 962, 964, 966, 968, 970, 972] (by decide +kernel) (by decide +kernel)
theorem k_MO : ∀ j, j < 39 → (fw_kd 9 j < 4 → (T_MO j).2.2.2 = false) ∧ (fw_kd 9 j = 0 → t_MO j = .int) ∧ (fw_kd 9 j = 1 → t_MO j = .boolean) ∧ (fw_kd 9 j = 2 → t_MO j = .object "FrameWalk$Method") ∧ (fw_kd 9 j = 3 → t_MO j = .object "FrameWalk$Frame") := by decide +kernel
theorem fo_of_MO {own : String} {idx j : Nat} {w0 : Cond} (hj : j < 39) (hl : Cond.fieldLink own idx (T_MO j).1 (T_MO j).2.1 (T_MO j).2.2.1 ∈ fw_T) : am_Fo own (w0 :: fw_T) idx 9 j := ⟨R_MO, T_MO, t_MO, rfl, hj, fun w hw => List.mem_cons_of_mem _ (fl_MO w hw), t_MO_ok, n_MO, List.mem_cons_of_mem _ hl, (k_MO j hj).1, (k_MO j hj).2.1, (k_MO j hj).2.2.1, fun h => ⟨_, (k_MO j hj).2.2.2.1 h⟩, fun h => ⟨_, (k_MO j hj).2.2.2.2 h⟩⟩
def gf_FR (idx : Nat) : Option (Nat × Nat) := match idx with
  | 7 => some (0, 2)
  | 13 => some (0, 0)
  | 17 => some (1, 6)
  | _ => none
theorem fo_FR {w0 : Cond} : ∀ idx ci j, gf_FR idx = some (ci, j) → am_Fo R_FR (w0 :: fw_T) idx ci j := by
  intro idx ci j h
  unfold gf_FR at h
  split at h
  · cases h
    exact fo_of_FR (by decide) (fw_T_in (i := 251) (by decide +kernel) rfl)
  · cases h
    exact fo_of_FR (by decide) (fw_T_in (i := 247) (by decide +kernel) rfl)
  · cases h
    exact fo_of_ME (by decide) (fw_T_in (i := 93) (by decide +kernel) rfl)
  · cases h
def gf_ME (idx : Nat) : Option (Nat × Nat) := match idx with
  | 9 => some (1, 0)
  | 17 => some (1, 1)
  | 22 => some (1, 3)
  | 25 => some (1, 4)
  | 28 => some (1, 6)
  | 31 => some (1, 7)
  | 34 => some (1, 2)
  | 41 => some (2, 3)
  | 44 => some (2, 2)
  | _ => none
theorem fo_ME {w0 : Cond} : ∀ idx ci j, gf_ME idx = some (ci, j) → am_Fo R_ME (w0 :: fw_T) idx ci j := by
  intro idx ci j h
  unfold gf_ME at h
  split at h
  · cases h
    exact fo_of_ME (by decide) (fw_T_in (i := 69) (by decide +kernel) rfl)
  · cases h
    exact fo_of_ME (by decide) (fw_T_in (i := 72) (by decide +kernel) rfl)
  · cases h
    exact fo_of_ME (by decide) (fw_T_in (i := 80) (by decide +kernel) rfl)
  · cases h
    exact fo_of_ME (by decide) (fw_T_in (i := 85) (by decide +kernel) rfl)
  · cases h
    exact fo_of_ME (by decide) (fw_T_in (i := 94) (by decide +kernel) rfl)
  · cases h
    exact fo_of_ME (by decide) (fw_T_in (i := 99) (by decide +kernel) rfl)
  · cases h
    exact fo_of_ME (by decide) (fw_T_in (i := 76) (by decide +kernel) rfl)
  · cases h
    exact fo_of_HA (by decide) (fw_T_in (i := 56) (by decide +kernel) rfl)
  · cases h
    exact fo_of_HA (by decide) (fw_T_in (i := 52) (by decide +kernel) rfl)
  · cases h
def gf_HA (idx : Nat) : Option (Nat × Nat) := match idx with
  | 7 => some (2, 0)
  | 13 => some (2, 1)
  | _ => none
theorem fo_HA {w0 : Cond} : ∀ idx ci j, gf_HA idx = some (ci, j) → am_Fo R_HA (w0 :: fw_T) idx ci j := by
  intro idx ci j h
  unfold gf_HA at h
  split at h
  · cases h
    exact fo_of_HA (by decide) (fw_T_in (i := 46) (by decide +kernel) rfl)
  · cases h
    exact fo_of_HA (by decide) (fw_T_in (i := 49) (by decide +kernel) rfl)
  · cases h
def gf_IN (idx : Nat) : Option (Nat × Nat) := match idx with
  | 42 => some (3, 2)
  | 46 => some (3, 0)
  | 49 => some (3, 1)
  | 52 => some (3, 3)
  | _ => none
theorem fo_IN {w0 : Cond} : ∀ idx ci j, gf_IN idx = some (ci, j) → am_Fo R_IN (w0 :: fw_T) idx ci j := by
  intro idx ci j h
  unfold gf_IN at h
  split at h
  · cases h
    exact fo_of_IN (by decide) (fw_T_in (i := 163) (by decide +kernel) rfl)
  · cases h
    exact fo_of_IN (by decide) (fw_T_in (i := 156) (by decide +kernel) rfl)
  · cases h
    exact fo_of_IN (by decide) (fw_T_in (i := 160) (by decide +kernel) rfl)
  · cases h
    exact fo_of_IN (by decide) (fw_T_in (i := 166) (by decide +kernel) rfl)
  · cases h
def gf_FW (idx : Nat) : Option (Nat × Nat) := match idx with
  | 10 => some (4, 0)
  | 21 => some (4, 1)
  | 28 => some (4, 2)
  | 35 => some (4, 3)
  | 39 => some (4, 4)
  | 43 => some (4, 5)
  | 47 => some (4, 6)
  | 51 => some (4, 7)
  | 61 => some (5, 2)
  | 75 => some (5, 3)
  | 86 => some (5, 1)
  | 105 => some (1, 5)
  | 121 => some (8, 9)
  | 124 => some (8, 10)
  | 127 => some (8, 7)
  | 134 => some (0, 0)
  | 140 => some (1, 0)
  | 143 => some (0, 1)
  | 146 => some (0, 3)
  | 159 => some (8, 8)
  | _ => none
theorem fo_FW {w0 : Cond} : ∀ idx ci j, gf_FW idx = some (ci, j) → am_Fo R_FW (w0 :: fw_T) idx ci j := by
  intro idx ci j h
  unfold gf_FW at h
  split at h
  · cases h
    exact fo_of_FW (by decide) (fw_T_in (i := 302) (by decide +kernel) rfl)
  · cases h
    exact fo_of_FW (by decide) (fw_T_in (i := 303) (by decide +kernel) rfl)
  · cases h
    exact fo_of_FW (by decide) (fw_T_in (i := 304) (by decide +kernel) rfl)
  · cases h
    exact fo_of_FW (by decide) (fw_T_in (i := 305) (by decide +kernel) rfl)
  · cases h
    exact fo_of_FW (by decide) (fw_T_in (i := 306) (by decide +kernel) rfl)
  · cases h
    exact fo_of_FW (by decide) (fw_T_in (i := 307) (by decide +kernel) rfl)
  · cases h
    exact fo_of_FW (by decide) (fw_T_in (i := 308) (by decide +kernel) rfl)
  · cases h
    exact fo_of_FW (by decide) (fw_T_in (i := 309) (by decide +kernel) rfl)
  · cases h
    exact fo_of_CO (by decide) (fw_T_in (i := 131) (by decide +kernel) rfl)
  · cases h
    exact fo_of_CO (by decide) (fw_T_in (i := 133) (by decide +kernel) rfl)
  · cases h
    exact fo_of_CO (by decide) (fw_T_in (i := 128) (by decide +kernel) rfl)
  · cases h
    exact fo_of_ME (by decide) (fw_T_in (i := 92) (by decide +kernel) rfl)
  · cases h
    exact fo_of_MA (by decide) (fw_T_in (i := 276) (by decide +kernel) rfl)
  · cases h
    exact fo_of_MA (by decide) (fw_T_in (i := 278) (by decide +kernel) rfl)
  · cases h
    exact fo_of_MA (by decide) (fw_T_in (i := 272) (by decide +kernel) rfl)
  · cases h
    exact fo_of_FR (by decide) (fw_T_in (i := 248) (by decide +kernel) rfl)
  · cases h
    exact fo_of_ME (by decide) (fw_T_in (i := 71) (by decide +kernel) rfl)
  · cases h
    exact fo_of_FR (by decide) (fw_T_in (i := 250) (by decide +kernel) rfl)
  · cases h
    exact fo_of_FR (by decide) (fw_T_in (i := 254) (by decide +kernel) rfl)
  · cases h
    exact fo_of_MA (by decide) (fw_T_in (i := 274) (by decide +kernel) rfl)
  · cases h
def gf_CO (idx : Nat) : Option (Nat × Nat) := match idx with
  | 9 => some (5, 0)
  | 15 => some (5, 1)
  | 22 => some (5, 2)
  | 26 => some (5, 3)
  | 33 => some (1, 3)
  | 36 => some (1, 4)
  | 39 => some (1, 5)
  | 42 => some (1, 6)
  | 45 => some (1, 7)
  | 48 => some (1, 8)
  | 52 => some (1, 2)
  | 55 => some (1, 0)
  | 58 => some (1, 1)
  | 62 => some (2, 0)
  | 67 => some (2, 1)
  | 70 => some (2, 2)
  | 73 => some (2, 3)
  | _ => none
theorem fo_CO {w0 : Cond} : ∀ idx ci j, gf_CO idx = some (ci, j) → am_Fo R_CO (w0 :: fw_T) idx ci j := by
  intro idx ci j h
  unfold gf_CO at h
  split at h
  · cases h
    exact fo_of_CO (by decide) (fw_T_in (i := 125) (by decide +kernel) rfl)
  · cases h
    exact fo_of_CO (by decide) (fw_T_in (i := 126) (by decide +kernel) rfl)
  · cases h
    exact fo_of_CO (by decide) (fw_T_in (i := 130) (by decide +kernel) rfl)
  · cases h
    exact fo_of_CO (by decide) (fw_T_in (i := 132) (by decide +kernel) rfl)
  · cases h
    exact fo_of_ME (by decide) (fw_T_in (i := 83) (by decide +kernel) rfl)
  · cases h
    exact fo_of_ME (by decide) (fw_T_in (i := 86) (by decide +kernel) rfl)
  · cases h
    exact fo_of_ME (by decide) (fw_T_in (i := 90) (by decide +kernel) rfl)
  · cases h
    exact fo_of_ME (by decide) (fw_T_in (i := 96) (by decide +kernel) rfl)
  · cases h
    exact fo_of_ME (by decide) (fw_T_in (i := 100) (by decide +kernel) rfl)
  · cases h
    exact fo_of_ME (by decide) (fw_T_in (i := 103) (by decide +kernel) rfl)
  · cases h
    exact fo_of_ME (by decide) (fw_T_in (i := 77) (by decide +kernel) rfl)
  · cases h
    exact fo_of_ME (by decide) (fw_T_in (i := 70) (by decide +kernel) rfl)
  · cases h
    exact fo_of_ME (by decide) (fw_T_in (i := 73) (by decide +kernel) rfl)
  · cases h
    exact fo_of_HA (by decide) (fw_T_in (i := 47) (by decide +kernel) rfl)
  · cases h
    exact fo_of_HA (by decide) (fw_T_in (i := 50) (by decide +kernel) rfl)
  · cases h
    exact fo_of_HA (by decide) (fw_T_in (i := 53) (by decide +kernel) rfl)
  · cases h
    exact fo_of_HA (by decide) (fw_T_in (i := 57) (by decide +kernel) rfl)
  · cases h
def gf_SH (idx : Nat) : Option (Nat × Nat) := match idx with
  | 7 => some (6, 0)
  | 16 => some (6, 1)
  | 22 => some (6, 2)
  | 36 => some (1, 3)
  | 50 => some (3, 3)
  | 56 => some (3, 0)
  | 65 => some (3, 1)
  | 68 => some (1, 6)
  | 76 => some (1, 4)
  | 86 => some (1, 2)
  | 89 => some (1, 1)
  | 97 => some (2, 0)
  | 102 => some (2, 1)
  | 105 => some (2, 2)
  | 108 => some (2, 3)
  | _ => none
theorem fo_SH {w0 : Cond} : ∀ idx ci j, gf_SH idx = some (ci, j) → am_Fo R_SH (w0 :: fw_T) idx ci j := by
  intro idx ci j h
  unfold gf_SH at h
  split at h
  · cases h
    exact fo_of_SH (by decide) (fw_T_in (i := 178) (by decide +kernel) rfl)
  · cases h
    exact fo_of_SH (by decide) (fw_T_in (i := 179) (by decide +kernel) rfl)
  · cases h
    exact fo_of_SH (by decide) (fw_T_in (i := 180) (by decide +kernel) rfl)
  · cases h
    exact fo_of_ME (by decide) (fw_T_in (i := 82) (by decide +kernel) rfl)
  · cases h
    exact fo_of_IN (by decide) (fw_T_in (i := 165) (by decide +kernel) rfl)
  · cases h
    exact fo_of_IN (by decide) (fw_T_in (i := 155) (by decide +kernel) rfl)
  · cases h
    exact fo_of_IN (by decide) (fw_T_in (i := 159) (by decide +kernel) rfl)
  · cases h
    exact fo_of_ME (by decide) (fw_T_in (i := 95) (by decide +kernel) rfl)
  · cases h
    exact fo_of_ME (by decide) (fw_T_in (i := 87) (by decide +kernel) rfl)
  · cases h
    exact fo_of_ME (by decide) (fw_T_in (i := 78) (by decide +kernel) rfl)
  · cases h
    exact fo_of_ME (by decide) (fw_T_in (i := 74) (by decide +kernel) rfl)
  · cases h
    exact fo_of_HA (by decide) (fw_T_in (i := 48) (by decide +kernel) rfl)
  · cases h
    exact fo_of_HA (by decide) (fw_T_in (i := 51) (by decide +kernel) rfl)
  · cases h
    exact fo_of_HA (by decide) (fw_T_in (i := 54) (by decide +kernel) rfl)
  · cases h
    exact fo_of_HA (by decide) (fw_T_in (i := 58) (by decide +kernel) rfl)
  · cases h
def gf_FL (idx : Nat) : Option (Nat × Nat) := match idx with
  | 11 => some (7, 0)
  | 20 => some (7, 1)
  | 24 => some (7, 2)
  | 28 => some (7, 3)
  | 31 => some (7, 4)
  | 34 => some (7, 5)
  | 37 => some (7, 6)
  | 53 => some (7, 7)
  | 57 => some (1, 3)
  | 70 => some (1, 5)
  | 79 => some (1, 4)
  | 90 => some (7, 8)
  | 93 => some (7, 9)
  | 96 => some (7, 10)
  | 110 => some (1, 7)
  | 114 => some (1, 2)
  | 117 => some (1, 1)
  | 127 => some (2, 2)
  | 130 => some (3, 0)
  | 138 => some (3, 1)
  | 141 => some (3, 3)
  | 157 => some (1, 8)
  | 171 => some (5, 1)
  | 193 => some (1, 6)
  | _ => none
theorem fo_FL {w0 : Cond} : ∀ idx ci j, gf_FL idx = some (ci, j) → am_Fo R_FL (w0 :: fw_T) idx ci j := by
  intro idx ci j h
  unfold gf_FL at h
  split at h
  · cases h
    exact fo_of_FL (by decide) (fw_T_in (i := 197) (by decide +kernel) rfl)
  · cases h
    exact fo_of_FL (by decide) (fw_T_in (i := 198) (by decide +kernel) rfl)
  · cases h
    exact fo_of_FL (by decide) (fw_T_in (i := 199) (by decide +kernel) rfl)
  · cases h
    exact fo_of_FL (by decide) (fw_T_in (i := 200) (by decide +kernel) rfl)
  · cases h
    exact fo_of_FL (by decide) (fw_T_in (i := 201) (by decide +kernel) rfl)
  · cases h
    exact fo_of_FL (by decide) (fw_T_in (i := 202) (by decide +kernel) rfl)
  · cases h
    exact fo_of_FL (by decide) (fw_T_in (i := 203) (by decide +kernel) rfl)
  · cases h
    exact fo_of_FL (by decide) (fw_T_in (i := 204) (by decide +kernel) rfl)
  · cases h
    exact fo_of_ME (by decide) (fw_T_in (i := 81) (by decide +kernel) rfl)
  · cases h
    exact fo_of_ME (by decide) (fw_T_in (i := 89) (by decide +kernel) rfl)
  · cases h
    exact fo_of_ME (by decide) (fw_T_in (i := 88) (by decide +kernel) rfl)
  · cases h
    exact fo_of_FL (by decide) (fw_T_in (i := 205) (by decide +kernel) rfl)
  · cases h
    exact fo_of_FL (by decide) (fw_T_in (i := 206) (by decide +kernel) rfl)
  · cases h
    exact fo_of_FL (by decide) (fw_T_in (i := 207) (by decide +kernel) rfl)
  · cases h
    exact fo_of_ME (by decide) (fw_T_in (i := 101) (by decide +kernel) rfl)
  · cases h
    exact fo_of_ME (by decide) (fw_T_in (i := 79) (by decide +kernel) rfl)
  · cases h
    exact fo_of_ME (by decide) (fw_T_in (i := 75) (by decide +kernel) rfl)
  · cases h
    exact fo_of_HA (by decide) (fw_T_in (i := 55) (by decide +kernel) rfl)
  · cases h
    exact fo_of_IN (by decide) (fw_T_in (i := 157) (by decide +kernel) rfl)
  · cases h
    exact fo_of_IN (by decide) (fw_T_in (i := 161) (by decide +kernel) rfl)
  · cases h
    exact fo_of_IN (by decide) (fw_T_in (i := 167) (by decide +kernel) rfl)
  · cases h
    exact fo_of_ME (by decide) (fw_T_in (i := 104) (by decide +kernel) rfl)
  · cases h
    exact fo_of_CO (by decide) (fw_T_in (i := 129) (by decide +kernel) rfl)
  · cases h
    exact fo_of_ME (by decide) (fw_T_in (i := 98) (by decide +kernel) rfl)
  · cases h
def gf_MA (idx : Nat) : Option (Nat × Nat) := match idx with
  | 9 => some (8, 0)
  | 18 => some (8, 1)
  | 22 => some (8, 2)
  | 28 => some (8, 3)
  | 33 => some (5, 1)
  | 39 => some (0, 0)
  | 43 => some (8, 6)
  | 47 => some (8, 4)
  | 50 => some (8, 5)
  | 53 => some (8, 9)
  | 64 => some (8, 8)
  | 71 => some (1, 5)
  | 76 => some (0, 2)
  | 79 => some (8, 10)
  | 82 => some (8, 7)
  | 92 => some (0, 1)
  | 95 => some (0, 3)
  | 98 => some (1, 6)
  | 104 => some (1, 7)
  | 107 => some (3, 3)
  | 110 => some (1, 3)
  | 117 => some (3, 0)
  | 135 => some (3, 1)
  | 184 => some (3, 2)
  | 202 => some (1, 8)
  | _ => none
theorem fo_MA {w0 : Cond} : ∀ idx ci j, gf_MA idx = some (ci, j) → am_Fo R_MA (w0 :: fw_T) idx ci j := by
  intro idx ci j h
  unfold gf_MA at h
  split at h
  · cases h
    exact fo_of_MA (by decide) (fw_T_in (i := 264) (by decide +kernel) rfl)
  · cases h
    exact fo_of_MA (by decide) (fw_T_in (i := 265) (by decide +kernel) rfl)
  · cases h
    exact fo_of_MA (by decide) (fw_T_in (i := 266) (by decide +kernel) rfl)
  · cases h
    exact fo_of_MA (by decide) (fw_T_in (i := 267) (by decide +kernel) rfl)
  · cases h
    exact fo_of_CO (by decide) (fw_T_in (i := 127) (by decide +kernel) rfl)
  · cases h
    exact fo_of_FR (by decide) (fw_T_in (i := 246) (by decide +kernel) rfl)
  · cases h
    exact fo_of_MA (by decide) (fw_T_in (i := 270) (by decide +kernel) rfl)
  · cases h
    exact fo_of_MA (by decide) (fw_T_in (i := 268) (by decide +kernel) rfl)
  · cases h
    exact fo_of_MA (by decide) (fw_T_in (i := 269) (by decide +kernel) rfl)
  · cases h
    exact fo_of_MA (by decide) (fw_T_in (i := 275) (by decide +kernel) rfl)
  · cases h
    exact fo_of_MA (by decide) (fw_T_in (i := 273) (by decide +kernel) rfl)
  · cases h
    exact fo_of_ME (by decide) (fw_T_in (i := 91) (by decide +kernel) rfl)
  · cases h
    exact fo_of_FR (by decide) (fw_T_in (i := 252) (by decide +kernel) rfl)
  · cases h
    exact fo_of_MA (by decide) (fw_T_in (i := 277) (by decide +kernel) rfl)
  · cases h
    exact fo_of_MA (by decide) (fw_T_in (i := 271) (by decide +kernel) rfl)
  · cases h
    exact fo_of_FR (by decide) (fw_T_in (i := 249) (by decide +kernel) rfl)
  · cases h
    exact fo_of_FR (by decide) (fw_T_in (i := 253) (by decide +kernel) rfl)
  · cases h
    exact fo_of_ME (by decide) (fw_T_in (i := 97) (by decide +kernel) rfl)
  · cases h
    exact fo_of_ME (by decide) (fw_T_in (i := 102) (by decide +kernel) rfl)
  · cases h
    exact fo_of_IN (by decide) (fw_T_in (i := 168) (by decide +kernel) rfl)
  · cases h
    exact fo_of_ME (by decide) (fw_T_in (i := 84) (by decide +kernel) rfl)
  · cases h
    exact fo_of_IN (by decide) (fw_T_in (i := 158) (by decide +kernel) rfl)
  · cases h
    exact fo_of_IN (by decide) (fw_T_in (i := 162) (by decide +kernel) rfl)
  · cases h
    exact fo_of_IN (by decide) (fw_T_in (i := 164) (by decide +kernel) rfl)
  · cases h
    exact fo_of_ME (by decide) (fw_T_in (i := 105) (by decide +kernel) rfl)
  · cases h
def gf_MO (idx : Nat) : Option (Nat × Nat) := match idx with
  | 7 => some (9, 2)
  | 13 => some (9, 4)
  | 16 => some (9, 5)
  | 19 => some (9, 6)
  | 22 => some (9, 7)
  | 25 => some (9, 8)
  | 28 => some (9, 9)
  | 32 => some (9, 10)
  | 35 => some (9, 11)
  | 38 => some (9, 12)
  | 41 => some (9, 13)
  | 44 => some (9, 14)
  | 47 => some (9, 16)
  | 51 => some (9, 17)
  | 54 => some (9, 18)
  | 57 => some (9, 19)
  | 60 => some (9, 20)
  | 63 => some (9, 21)
  | 66 => some (9, 26)
  | 69 => some (9, 29)
  | 72 => some (9, 31)
  | 75 => some (9, 33)
  | 78 => some (9, 35)
  | 81 => some (9, 36)
  | 84 => some (9, 37)
  | 87 => some (9, 38)
  | 90 => some (9, 0)
  | 93 => some (9, 1)
  | 96 => some (9, 15)
  | 104 => some (9, 3)
  | 135 => some (9, 22)
  | 138 => some (9, 23)
  | 141 => some (9, 24)
  | 173 => some (9, 25)
  | 176 => some (9, 27)
  | 179 => some (9, 28)
  | 182 => some (9, 34)
  | 185 => some (9, 30)
  | 188 => some (9, 32)
  | _ => none
theorem fo_MO {w0 : Cond} : ∀ idx ci j, gf_MO idx = some (ci, j) → am_Fo R_MO (w0 :: fw_T) idx ci j := by
  intro idx ci j h
  unfold gf_MO at h
  split at h
  · cases h
    exact fo_of_MO (by decide) (fw_T_in (i := 859) (by decide +kernel) rfl)
  · cases h
    exact fo_of_MO (by decide) (fw_T_in (i := 861) (by decide +kernel) rfl)
  · cases h
    exact fo_of_MO (by decide) (fw_T_in (i := 862) (by decide +kernel) rfl)
  · cases h
    exact fo_of_MO (by decide) (fw_T_in (i := 863) (by decide +kernel) rfl)
  · cases h
    exact fo_of_MO (by decide) (fw_T_in (i := 864) (by decide +kernel) rfl)
  · cases h
    exact fo_of_MO (by decide) (fw_T_in (i := 865) (by decide +kernel) rfl)
  · cases h
    exact fo_of_MO (by decide) (fw_T_in (i := 866) (by decide +kernel) rfl)
  · cases h
    exact fo_of_MO (by decide) (fw_T_in (i := 867) (by decide +kernel) rfl)
  · cases h
    exact fo_of_MO (by decide) (fw_T_in (i := 868) (by decide +kernel) rfl)
  · cases h
    exact fo_of_MO (by decide) (fw_T_in (i := 869) (by decide +kernel) rfl)
  · cases h
    exact fo_of_MO (by decide) (fw_T_in (i := 870) (by decide +kernel) rfl)
  · cases h
    exact fo_of_MO (by decide) (fw_T_in (i := 871) (by decide +kernel) rfl)
  · cases h
    exact fo_of_MO (by decide) (fw_T_in (i := 873) (by decide +kernel) rfl)
  · cases h
    exact fo_of_MO (by decide) (fw_T_in (i := 874) (by decide +kernel) rfl)
  · cases h
    exact fo_of_MO (by decide) (fw_T_in (i := 875) (by decide +kernel) rfl)
  · cases h
    exact fo_of_MO (by decide) (fw_T_in (i := 876) (by decide +kernel) rfl)
  · cases h
    exact fo_of_MO (by decide) (fw_T_in (i := 877) (by decide +kernel) rfl)
  · cases h
    exact fo_of_MO (by decide) (fw_T_in (i := 878) (by decide +kernel) rfl)
  · cases h
    exact fo_of_MO (by decide) (fw_T_in (i := 883) (by decide +kernel) rfl)
  · cases h
    exact fo_of_MO (by decide) (fw_T_in (i := 886) (by decide +kernel) rfl)
  · cases h
    exact fo_of_MO (by decide) (fw_T_in (i := 888) (by decide +kernel) rfl)
  · cases h
    exact fo_of_MO (by decide) (fw_T_in (i := 890) (by decide +kernel) rfl)
  · cases h
    exact fo_of_MO (by decide) (fw_T_in (i := 892) (by decide +kernel) rfl)
  · cases h
    exact fo_of_MO (by decide) (fw_T_in (i := 893) (by decide +kernel) rfl)
  · cases h
    exact fo_of_MO (by decide) (fw_T_in (i := 894) (by decide +kernel) rfl)
  · cases h
    exact fo_of_MO (by decide) (fw_T_in (i := 895) (by decide +kernel) rfl)
  · cases h
    exact fo_of_MO (by decide) (fw_T_in (i := 857) (by decide +kernel) rfl)
  · cases h
    exact fo_of_MO (by decide) (fw_T_in (i := 858) (by decide +kernel) rfl)
  · cases h
    exact fo_of_MO (by decide) (fw_T_in (i := 872) (by decide +kernel) rfl)
  · cases h
    exact fo_of_MO (by decide) (fw_T_in (i := 860) (by decide +kernel) rfl)
  · cases h
    exact fo_of_MO (by decide) (fw_T_in (i := 879) (by decide +kernel) rfl)
  · cases h
    exact fo_of_MO (by decide) (fw_T_in (i := 880) (by decide +kernel) rfl)
  · cases h
    exact fo_of_MO (by decide) (fw_T_in (i := 881) (by decide +kernel) rfl)
  · cases h
    exact fo_of_MO (by decide) (fw_T_in (i := 882) (by decide +kernel) rfl)
  · cases h
    exact fo_of_MO (by decide) (fw_T_in (i := 884) (by decide +kernel) rfl)
  · cases h
    exact fo_of_MO (by decide) (fw_T_in (i := 885) (by decide +kernel) rfl)
  · cases h
    exact fo_of_MO (by decide) (fw_T_in (i := 891) (by decide +kernel) rfl)
  · cases h
    exact fo_of_MO (by decide) (fw_T_in (i := 887) (by decide +kernel) rfl)
  · cases h
    exact fo_of_MO (by decide) (fw_T_in (i := 889) (by decide +kernel) rfl)
  · cases h
def gf_OP (idx : Nat) : Option (Nat × Nat) := none
theorem fo_OP {w0 : Cond} : ∀ idx ci j, gf_OP idx = some (ci, j) → am_Fo R_OP (w0 :: fw_T) idx ci j := fun idx ci j h => by cases h
def gf_TY (idx : Nat) : Option (Nat × Nat) := none
theorem fo_TY {w0 : Cond} : ∀ idx ci j, gf_TY idx = some (ci, j) → am_Fo R_TY (w0 :: fw_T) idx ci j := fun idx ci j h => by cases h

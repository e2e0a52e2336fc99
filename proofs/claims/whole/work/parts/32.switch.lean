/-! The two switches: one row for each, with the values in groups by their targets. -/
def sw_or (x : Int) : List Int → Prop
  | [] => False
  | v :: r => x = v ∨ sw_or x r
def sw_all (P : List Int → Nat → Prop) : List (List Int × Nat) → Prop
  | [] => True
  | q :: r => P q.1 q.2 ∧ sw_all P r
theorem sw_or_iff {x : Int} {L : List Int} : sw_or x L ↔ x ∈ L := by
  induction L with
  | nil => simp [sw_or]
  | cons v r ih => simp [sw_or, ih]
theorem sw_all_iff {P : List Int → Nat → Prop} {vs : List (List Int × Nat)} : sw_all P vs ↔ ∀ q ∈ vs, P q.1 q.2 := by
  induction vs with
  | nil => simp [sw_all]
  | cons v r ih => simp [sw_all, ih]
def sw_ct (pc : Nat) (dflt lo hi : Int) (offs : Array Int) (vs : List (List Int × Nat)) (tgt : Nat) : Bool :=
  ((pc : Int) + dflt == (tgt : Int)) && vs.all (fun q => q.1.all (fun v => decide (lo ≤ v) && decide (v ≤ hi) && offs[(v - lo).toNat]? == some ((q.2 : Int) - pc))) && (List.range offs.size).all (fun i => offs[i]? == some dflt || vs.any (fun q => q.1.contains (lo + (i : Int)))) && (hi - lo + 1 == (offs.size : Int))
def sw_cl (pc : Nat) (dflt : Int) (ps : Array (Int × Int)) (vs : List (List Int × Nat)) (tgt : Nat) : Bool :=
  ((pc : Int) + dflt == (tgt : Int)) && vs.all (fun q => q.1.all (fun v => ps.toList.find? (fun z => z.1 == v) == some (v, (q.2 : Int) - pc))) && ps.toList.all (fun z => vs.any (fun q => q.1.contains z.1)) && (ps.toList.zip (ps.toList.drop 1)).all (fun (a, next) => a.1 < next.1)
section SW
variable {cc : ByteArray} {G : am_G} {k : am_P} {pc : Nat} {lv : am_L} {st : am_S} {x : Int32} {r : List am_V} {len : Nat} {dflt lo hi : Int}
theorem r_tsw {offs : Array Int} (vs : List (List Int × Nat)) {tgt : Nat} (hd : decode cc pc = .ok (.tableswitch dflt lo hi offs, len)) (hck : sw_ct pc dflt lo hi offs vs tgt = true) (h1 : sw_all (fun L t => sw_or x.toInt L → am_AW cc G k t lv r st) vs) (h2 : sw_all (fun L _ => ¬ sw_or x.toInt L) vs → am_AW cc G k tgt lv r st) : am_AW cc G k pc lv (.inl x :: r) st := by
  unfold sw_ct at hck
  simp only [Bool.and_eq_true, beq_iff_eq, List.all_eq_true, decide_eq_true_eq, List.mem_range, Bool.or_eq_true, List.any_eq_true, List.contains_iff_mem] at hck
  obtain ⟨⟨⟨c1, c2⟩, c3⟩, c4⟩ := hck
  rw [sw_all_iff] at h1
  by_cases hm : ∃ q ∈ vs, x.toInt ∈ q.1
  · obtain ⟨q, hq, hx⟩ := hm
    obtain ⟨⟨a1, a2⟩, a3⟩ := c2 q hq _ hx
    exact am_tI hd (by omega) (by omega) a3 (by omega) (h1 q hq (sw_or_iff.mpr hx))
  · have h2' := h2 (sw_all_iff.mpr fun q hq hx => hm ⟨q, hq, sw_or_iff.mp hx⟩)
    by_cases ho : x.toInt < lo ∨ hi < x.toInt
    · exact am_tO hd ho c1 h2'
    · have e1 : lo + (((x.toInt - lo).toNat : Nat) : Int) = x.toInt := by omega
      rcases c3 (x.toInt - lo).toNat (by omega) with a | ⟨q, hq, hx⟩
      · exact am_tI hd (by omega) (by omega) a c1 h2'
      · rw [e1] at hx
        exact absurd ⟨q, hq, hx⟩ hm
theorem r_lsw {ps : Array (Int × Int)} (vs : List (List Int × Nat)) {tgt : Nat} (hd : decode cc pc = .ok (.lookupswitch dflt ps, len)) (hck : sw_cl pc dflt ps vs tgt = true) (h1 : sw_all (fun L t => sw_or x.toInt L → am_AW cc G k t lv r st) vs) (h2 : sw_all (fun L _ => ¬ sw_or x.toInt L) vs → am_AW cc G k tgt lv r st) : am_AW cc G k pc lv (.inl x :: r) st := by
  unfold sw_cl at hck
  rw [Bool.and_eq_true, Bool.and_eq_true, Bool.and_eq_true] at hck
  obtain ⟨⟨⟨c1, c2⟩, c3⟩, c4⟩ := hck
  simp only [beq_iff_eq, List.all_eq_true, List.any_eq_true, List.contains_iff_mem] at c1 c2 c3
  rw [sw_all_iff] at h1
  by_cases hm : ∃ q ∈ vs, x.toInt ∈ q.1
  · obtain ⟨q, hq, hx⟩ := hm
    exact am_lk hd c4 (Op.lookupswitch.offset_some (c2 q hq _ hx)) (by omega) (h1 q hq (sw_or_iff.mpr hx))
  · have h2' := h2 (sw_all_iff.mpr fun q hq hx => hm ⟨q, hq, sw_or_iff.mp hx⟩)
    refine am_lk hd c4 (Op.lookupswitch.offset_none (List.find?_eq_none.mpr fun z hz hzx => ?_)) c1 h2'
    obtain ⟨q, hq, hq2⟩ := c3 z hz
    have : z.1 = x.toInt := by simpa using hzx
    exact hm ⟨q, hq, this ▸ hq2⟩
end SW

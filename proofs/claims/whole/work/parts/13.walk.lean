/-! The walk: the least predicate closed under the instructions. -/
/-- the receiver is an object of its class -/
def am_rc (rc : Option Nat) (as : List am_V) : Prop := match rc with
  | none => True
  | some ci => ∃ (o : Nat) (as' : List am_V) (i : Nat), as = .inr (.inl o) :: as' ∧ fw_ki o = some (ci, i)
def am_Cl (cc : ByteArray) (G : am_G) (k : am_P) (I : am_K) : Prop :=
  (∀ (pc : Nat) (ins : Instr) (lv : am_L) (stk : List am_V) (lv' : am_L) (stk' : List am_V) (st : am_S) (q : Nat), decode cc pc = .ok (ins, am_ln ins) → am_ex ins lv stk = some (lv', stk') → pc + am_ln ins = q → I q lv' stk' st → I pc lv stk st) ∧
  (∀ (pc : Nat) (ins : Instr) (lv : am_L) (stk : List am_V) (cs : Prop × Prop) (stk' : List am_V) (off : Int) (tgt q : Nat) (st : am_S), decode cc pc = .ok (ins, 3) → am_br ins stk = some (cs, stk', off) → (pc : Int) + off = (tgt : Int) → pc + 3 = q → (cs.1 → I tgt lv stk' st) → (cs.2 → I q lv stk' st) → I pc lv stk st) ∧
  (∀ (pc : Nat) (off : Int) (lv : am_L) (stk : List am_V) (tgt : Nat) (st : am_S), decode cc pc = .ok (.goto off, 3) → (pc : Int) + off = (tgt : Int) → I tgt lv stk st → I pc lv stk st) ∧
  (∀ (pc len : Nat) (dflt lo hi : Int) (offs : Array Int) (lv : am_L) (x : Int32) (r : List am_V) (tgt : Nat) (st : am_S), decode cc pc = .ok (.tableswitch dflt lo hi offs, len) → (x.toInt < lo ∨ hi < x.toInt) → (pc : Int) + dflt = (tgt : Int) → I tgt lv r st → I pc lv (.inl x :: r) st) ∧
  (∀ (pc len : Nat) (dflt lo hi : Int) (offs : Array Int) (lv : am_L) (x : Int32) (r : List am_V) (off : Int) (tgt : Nat) (st : am_S), decode cc pc = .ok (.tableswitch dflt lo hi offs, len) → ¬ x.toInt < lo → ¬ hi < x.toInt → offs[(x.toInt - lo).toNat]? = some off → (pc : Int) + off = (tgt : Int) → I tgt lv r st → I pc lv (.inl x :: r) st) ∧
  (∀ (pc len : Nat) (dflt : Int) (ps : Array (Int × Int)) (lv : am_L) (x : Int32) (r : List am_V) (off : Int) (tgt : Nat) (st : am_S), decode cc pc = .ok (.lookupswitch dflt ps, len) → (ps.toList.zip (ps.toList.drop 1)).all (fun (a, next) => a.1 < next.1) = true → Op.lookupswitch.offset ps.toList dflt x.toInt = off → (pc : Int) + off = (tgt : Int) → I tgt lv r st → I pc lv (.inl x :: r) st) ∧
  (∀ (pc : Nat) (ins : Instr) (lv : am_L) (x y z : Int32) (r : List am_V) (st : am_S) (q : Nat), decode cc pc = .ok (ins, 1) → am_dv ins x y = some z → ¬ y = 0 → pc + 1 = q → I q lv (.inl z :: r) st → I pc lv (.inl y :: .inl x :: r) st) ∧
  (∀ (pc idx ci j : Nat) (lv : am_L) (o : Nat) (r : List am_V) (fs : List am_V) (v : am_V) (st : am_S) (q : Nat), decode cc pc = .ok (.getfield idx, 3) → G.1 idx = some (ci, j) → fw_ob st o = some (ci, fs) → fs[j]? = some v → pc + 3 = q → I q lv (v :: r) st → I pc lv (.inr (.inl o) :: r) st) ∧
  (∀ (pc idx ci j : Nat) (lv : am_L) (o : Nat) (r : List am_V) (v : am_V) (st st' : am_S) (q : Nat), decode cc pc = .ok (.putfield idx, 3) → G.1 idx = some (ci, j) → fw_wr st o ci j v = some st' → pc + 3 = q → I q lv r st' → I pc lv (v :: .inr (.inl o) :: r) st) ∧
  (∀ (pc : Nat) (ins : Instr) (lv : am_L) (o n : Nat) (i : Int32) (r : List am_V) (v : am_V) (st : am_S) (q : Nat), decode cc pc = .ok (ins, 1) → fw_al ins st o i = some (n, v) → vp_in i n → pc + 1 = q → I q lv (v :: r) st → I pc lv (.inl i :: .inr (.inl o) :: r) st) ∧
  (∀ (pc : Nat) (ins : Instr) (lv : am_L) (o n : Nat) (i : Int32) (r : List am_V) (v : am_V) (st st' : am_S) (q : Nat), decode cc pc = .ok (ins, 1) → fw_as ins st o i v = some (n, st') → vp_in i n → pc + 1 = q → I q lv r st' → I pc lv (v :: .inl i :: .inr (.inl o) :: r) st) ∧
  (∀ (pc : Nat) (lv : am_L) (o t n : Nat) (r : List am_V) (st : am_S) (q : Nat), decode cc pc = .ok (.arraylength, 1) → fw_ar o = some (t, n) → pc + 1 = q → I q lv (.inl (nI n) :: r) st → I pc lv (.inr (.inl o) :: r) st) ∧
  (∀ (pc : Nat) (ins : Instr) (idx n : Nat) (rc : Option Nat) (w : am_Wp) (lv : am_L) (stk as r : List am_V) (st : am_S) (q : Nat), decode cc pc = .ok (ins, 3) → am_iv ins rc = some idx → G.2.1 idx = some (n, rc, w) → stk = as.reverse ++ r → as.length = n → am_rc rc as → am_rm r = true → pc + 3 = q → w as st (fun o st' => match o with | .inl ro => I q lv (ro.toList ++ r) st' | .inr _ => False) → I pc lv stk st) ∧
  (∀ (pc : Nat) (ins : Instr) (lv : am_L) (stk : List am_V) (ro : Option am_V) (st : am_S), decode cc pc = .ok (ins, 1) → am_rt ins stk = some ro → k (.inl ro) st → I pc lv stk st) ∧
  (∀ (pc ik ic n : Nat) (lv : am_L) (st : am_S), decode cc pc = .ok (.new ik, 3) → decode cc (pc + 3) = .ok (.dup, 1) → decode cc (pc + 4) = .ok (.invokespecial ic, 3) → decode cc (pc + 7) = .ok (.athrow, 1) → G.2.2.1 ik ic = some n → k (.inr n) st → I pc lv [] st) ∧
  (∀ (pc idx : Nat) (lv : am_L) (r : List am_V) (v : Int32) (st : am_S) (q : Nat), decode cc pc = .ok (.ldc idx, 2) → G.2.2.2.1 idx = some v → pc + 2 = q → I q lv (.inl v :: r) st → I pc lv r st) ∧
  (∀ (pc L : Nat) (xs : Nat → Int32) (lv : am_L) (i : Int32) (r : List am_V) (st : am_S) (q : Nat), decode cc pc = .ok (.iaload, 1) → G.2.2.2.2.1 = some (L, xs) → vp_in i L → pc + 1 = q → I q lv (.inl (xs i.toNatClampNeg) :: r) st → I pc lv (.inl i :: .inr (.inl 176) :: r) st) ∧
  (∀ (pc L : Nat) (xs : Nat → Int32) (lv : am_L) (r : List am_V) (st : am_S) (q : Nat), decode cc pc = .ok (.arraylength, 1) → G.2.2.2.2.1 = some (L, xs) → pc + 1 = q → I q lv (.inl (nI L) :: r) st → I pc lv (.inr (.inl 176) :: r) st) ∧
  (∀ (pc : Nat) (lv : am_L) (stk : List am_V) (st : am_S), G.2.2.2.2.2 pc lv stk st → I pc lv stk st)
def am_AW (cc : ByteArray) (G : am_G) (k : am_P) (pc : Nat) (lv : am_L) (stk : List am_V) (st : am_S) : Prop := ∀ I : am_K, am_Cl cc G k I → I pc lv stk st
section AW
variable {cc : ByteArray} {G : am_G} {k : am_P} {pc : Nat} {lv : am_L} {st : am_S}
theorem am_s {ins : Instr} {stk : List am_V} {lv' : am_L} {stk' : List am_V} {q : Nat} (hd : decode cc pc = .ok (ins, am_ln ins)) (hx : am_ex ins lv stk = some (lv', stk')) (hq : pc + am_ln ins = q) (h : am_AW cc G k q lv' stk' st) : am_AW cc G k pc lv stk st :=
  fun I hI => hI.1 pc ins lv stk lv' stk' st q hd hx hq (h I hI)
theorem am_b {ins : Instr} {stk : List am_V} {cs : Prop × Prop} {stk' : List am_V} {off : Int} {tgt q : Nat} (hd : decode cc pc = .ok (ins, 3)) (hx : am_br ins stk = some (cs, stk', off)) (ht : (pc : Int) + off = (tgt : Int)) (hq : pc + 3 = q) (h1 : cs.1 → am_AW cc G k tgt lv stk' st) (h2 : cs.2 → am_AW cc G k q lv stk' st) : am_AW cc G k pc lv stk st :=
  fun I hI => hI.2.1 pc ins lv stk cs stk' off tgt q st hd hx ht hq (fun z => h1 z I hI) (fun z => h2 z I hI)
theorem am_go {off : Int} {stk : List am_V} {tgt : Nat} (hd : decode cc pc = .ok (.goto off, 3)) (ht : (pc : Int) + off = (tgt : Int)) (h : am_AW cc G k tgt lv stk st) : am_AW cc G k pc lv stk st :=
  fun I hI => hI.2.2.1 pc off lv stk tgt st hd ht (h I hI)
theorem am_tO {len : Nat} {dflt lo hi : Int} {offs : Array Int} {x : Int32} {r : List am_V} {tgt : Nat} (hd : decode cc pc = .ok (.tableswitch dflt lo hi offs, len)) (hx : x.toInt < lo ∨ hi < x.toInt) (ht : (pc : Int) + dflt = (tgt : Int)) (h : am_AW cc G k tgt lv r st) : am_AW cc G k pc lv (.inl x :: r) st :=
  fun I hI => hI.2.2.2.1 pc len dflt lo hi offs lv x r tgt st hd hx ht (h I hI)
theorem am_tI {len : Nat} {dflt lo hi : Int} {offs : Array Int} {x : Int32} {r : List am_V} {off : Int} {tgt : Nat} (hd : decode cc pc = .ok (.tableswitch dflt lo hi offs, len)) (h1 : ¬ x.toInt < lo) (h2 : ¬ hi < x.toInt) (ho : offs[(x.toInt - lo).toNat]? = some off) (ht : (pc : Int) + off = (tgt : Int)) (h : am_AW cc G k tgt lv r st) : am_AW cc G k pc lv (.inl x :: r) st :=
  fun I hI => hI.2.2.2.2.1 pc len dflt lo hi offs lv x r off tgt st hd h1 h2 ho ht (h I hI)
theorem am_lk {len : Nat} {dflt : Int} {ps : Array (Int × Int)} {x : Int32} {r : List am_V} {off : Int} {tgt : Nat} (hd : decode cc pc = .ok (.lookupswitch dflt ps, len)) (hp : (ps.toList.zip (ps.toList.drop 1)).all (fun (a, next) => a.1 < next.1) = true) (ho : Op.lookupswitch.offset ps.toList dflt x.toInt = off) (ht : (pc : Int) + off = (tgt : Int)) (h : am_AW cc G k tgt lv r st) : am_AW cc G k pc lv (.inl x :: r) st :=
  fun I hI => hI.2.2.2.2.2.1 pc len dflt ps lv x r off tgt st hd hp ho ht (h I hI)
theorem am_di {ins : Instr} {x y z : Int32} {r : List am_V} {q : Nat} (hd : decode cc pc = .ok (ins, 1)) (hz : am_dv ins x y = some z) (hy : ¬ y = 0) (hq : pc + 1 = q) (h : am_AW cc G k q lv (.inl z :: r) st) : am_AW cc G k pc lv (.inl y :: .inl x :: r) st :=
  fun I hI => hI.2.2.2.2.2.2.1 pc ins lv x y z r st q hd hz hy hq (h I hI)
theorem am_gt {idx ci j o : Nat} {r fs : List am_V} {v : am_V} {q : Nat} (hd : decode cc pc = .ok (.getfield idx, 3)) (hG : G.1 idx = some (ci, j)) (ho : fw_ob st o = some (ci, fs)) (hv : fs[j]? = some v) (hq : pc + 3 = q) (h : am_AW cc G k q lv (v :: r) st) : am_AW cc G k pc lv (.inr (.inl o) :: r) st :=
  fun I hI => hI.2.2.2.2.2.2.2.1 pc idx ci j lv o r fs v st q hd hG ho hv hq (h I hI)
theorem am_pt {idx ci j o : Nat} {r : List am_V} {v : am_V} {st' : am_S} {q : Nat} (hd : decode cc pc = .ok (.putfield idx, 3)) (hG : G.1 idx = some (ci, j)) (hw : fw_wr st o ci j v = some st') (hq : pc + 3 = q) (h : am_AW cc G k q lv r st') : am_AW cc G k pc lv (v :: .inr (.inl o) :: r) st :=
  fun I hI => hI.2.2.2.2.2.2.2.2.1 pc idx ci j lv o r v st st' q hd hG hw hq (h I hI)
theorem am_al {ins : Instr} {o n : Nat} {i : Int32} {r : List am_V} {v : am_V} {q : Nat} (hd : decode cc pc = .ok (ins, 1)) (ha : fw_al ins st o i = some (n, v)) (hi : vp_in i n) (hq : pc + 1 = q) (h : am_AW cc G k q lv (v :: r) st) : am_AW cc G k pc lv (.inl i :: .inr (.inl o) :: r) st :=
  fun I hI => hI.2.2.2.2.2.2.2.2.2.1 pc ins lv o n i r v st q hd ha hi hq (h I hI)
theorem am_as {ins : Instr} {o n : Nat} {i : Int32} {r : List am_V} {v : am_V} {st' : am_S} {q : Nat} (hd : decode cc pc = .ok (ins, 1)) (ha : fw_as ins st o i v = some (n, st')) (hi : vp_in i n) (hq : pc + 1 = q) (h : am_AW cc G k q lv r st') : am_AW cc G k pc lv (v :: .inl i :: .inr (.inl o) :: r) st :=
  fun I hI => hI.2.2.2.2.2.2.2.2.2.2.1 pc ins lv o n i r v st st' q hd ha hi hq (h I hI)
theorem am_ln' {o t n : Nat} {r : List am_V} {q : Nat} (hd : decode cc pc = .ok (.arraylength, 1)) (ha : fw_ar o = some (t, n)) (hq : pc + 1 = q) (h : am_AW cc G k q lv (.inl (nI n) :: r) st) : am_AW cc G k pc lv (.inr (.inl o) :: r) st :=
  fun I hI => hI.2.2.2.2.2.2.2.2.2.2.2.1 pc lv o t n r st q hd ha hq (h I hI)
theorem am_r {ins : Instr} {stk : List am_V} {ro : Option am_V} (hd : decode cc pc = .ok (ins, 1)) (hx : am_rt ins stk = some ro) (h : k (.inl ro) st) : am_AW cc G k pc lv stk st :=
  fun I hI => hI.2.2.2.2.2.2.2.2.2.2.2.2.2.1 pc ins lv stk ro st hd hx h
theorem am_th {ik ic n : Nat} (d0 : decode cc pc = .ok (.new ik, 3)) (d3 : decode cc (pc + 3) = .ok (.dup, 1)) (d4 : decode cc (pc + 4) = .ok (.invokespecial ic, 3)) (d7 : decode cc (pc + 7) = .ok (.athrow, 1)) (hG : G.2.2.1 ik ic = some n) (h : k (.inr n) st) : am_AW cc G k pc lv [] st :=
  fun I hI => hI.2.2.2.2.2.2.2.2.2.2.2.2.2.2.1 pc ik ic n lv st d0 d3 d4 d7 hG h
theorem am_k {idx : Nat} {r : List am_V} {v : Int32} {q : Nat} (hd : decode cc pc = .ok (.ldc idx, 2)) (hG : G.2.2.2.1 idx = some v) (hq : pc + 2 = q) (h : am_AW cc G k q lv (.inl v :: r) st) : am_AW cc G k pc lv r st :=
  fun I hI => hI.2.2.2.2.2.2.2.2.2.2.2.2.2.2.2.1 pc idx lv r v st q hd hG hq (h I hI)
theorem am_sl {L : Nat} {xs : Nat → Int32} {i : Int32} {r : List am_V} {q : Nat} (hd : decode cc pc = .ok (.iaload, 1)) (hG : G.2.2.2.2.1 = some (L, xs)) (hi : vp_in i L) (hq : pc + 1 = q) (h : am_AW cc G k q lv (.inl (xs i.toNatClampNeg) :: r) st) : am_AW cc G k pc lv (.inl i :: .inr (.inl 176) :: r) st :=
  fun I hI => hI.2.2.2.2.2.2.2.2.2.2.2.2.2.2.2.2.1 pc L xs lv i r st q hd hG hi hq (h I hI)
theorem am_sn {L : Nat} {xs : Nat → Int32} {r : List am_V} {q : Nat} (hd : decode cc pc = .ok (.arraylength, 1)) (hG : G.2.2.2.2.1 = some (L, xs)) (hq : pc + 1 = q) (h : am_AW cc G k q lv (.inl (nI L) :: r) st) : am_AW cc G k pc lv (.inr (.inl 176) :: r) st :=
  fun I hI => hI.2.2.2.2.2.2.2.2.2.2.2.2.2.2.2.2.2.1 pc L xs lv r st q hd hG hq (h I hI)
theorem am_cut {stk : List am_V} (h : G.2.2.2.2.2 pc lv stk st) : am_AW cc G k pc lv stk st :=
  fun I hI => hI.2.2.2.2.2.2.2.2.2.2.2.2.2.2.2.2.2.2 pc lv stk st h
end AW
/-- a transformer that takes a weaker end where it takes a stronger one -/
def am_Mo (w : am_Wp) : Prop := ∀ (as : List am_V) (st : am_S) (k k' : am_P), (∀ o st', k o st' → k' o st') → w as st k → w as st k'
theorem am_c {cc : ByteArray} {G : am_G} {k : am_P} {pc : Nat} {lv : am_L} {st : am_S} {ins : Instr} {idx n : Nat} {rc : Option Nat} {w : am_Wp} {as r : List am_V} {q : Nat} (hM : am_Mo w) (hd : decode cc pc = .ok (ins, 3)) (hi : am_iv ins rc = some idx) (hG : G.2.1 idx = some (n, rc, w)) (hn : as.length = n) (hc : am_rc rc as) (hr : am_rm r = true) (hq : pc + 3 = q)
    (h : w as st (fun o st' => match o with | .inl ro => am_AW cc G k q lv (ro.toList ++ r) st' | .inr _ => False)) : am_AW cc G k pc lv (as.reverse ++ r) st := by
  intro I hI
  refine hI.2.2.2.2.2.2.2.2.2.2.2.2.1 pc ins idx n rc w lv (as.reverse ++ r) as r st q hd hi hG rfl hn hc hr hq (hM as st _ _ ?_ h)
  intro o st' ho
  cases o with
  | inl ro => exact ho I hI
  | inr n => exact ho
theorem am_AW.mono {cc : ByteArray} {G : am_G} (hG : ∀ idx n rc w, G.2.1 idx = some (n, rc, w) → am_Mo w) {k k' : am_P} (hk : ∀ o st', k o st' → k' o st') {pc : Nat} {lv : am_L} {stk : List am_V} {st : am_S} (h : am_AW cc G k pc lv stk st) : am_AW cc G k' pc lv stk st := by
  refine h (fun pc lv stk st => am_AW cc G k' pc lv stk st) ⟨?_, ?_, ?_, ?_, ?_, ?_, ?_, ?_, ?_, ?_, ?_, ?_, ?_, ?_, ?_, ?_, ?_, ?_, ?_⟩
  · intro pc ins lv stk lv' stk' st q hd hx hq h
    exact am_s hd hx hq h
  · intro pc ins lv stk cs stk' off tgt q st hd hx ht hq h1 h2
    exact am_b hd hx ht hq h1 h2
  · intro pc off lv stk tgt st hd ht h
    exact am_go hd ht h
  · intro pc len dflt lo hi offs lv x r tgt st hd hx ht h
    exact am_tO hd hx ht h
  · intro pc len dflt lo hi offs lv x r off tgt st hd h1 h2 ho ht h
    exact am_tI hd h1 h2 ho ht h
  · intro pc len dflt ps lv x r off tgt st hd hp ho ht h
    exact am_lk hd hp ho ht h
  · intro pc ins lv x y z r st q hd hz hy hq h
    exact am_di hd hz hy hq h
  · intro pc idx ci j lv o r fs v st q hd hG ho hv hq h
    exact am_gt hd hG ho hv hq h
  · intro pc idx ci j lv o r v st st' q hd hG hw hq h
    exact am_pt hd hG hw hq h
  · intro pc ins lv o n i r v st q hd ha hi hq h
    exact am_al hd ha hi hq h
  · intro pc ins lv o n i r v st st' q hd ha hi hq h
    exact am_as hd ha hi hq h
  · intro pc lv o t n r st q hd ha hq h
    exact am_ln' hd ha hq h
  · intro pc ins idx n rc w lv stk as r st q hd hi hg hs hn hc hr hq h
    subst hs
    exact am_c (hG idx n rc w hg) hd hi hg hn hc hr hq h
  · intro pc ins lv stk ro st hd hx h
    exact am_r hd hx (hk _ _ h)
  · intro pc ik ic n lv st d0 d3 d4 d7 hg h
    exact am_th d0 d3 d4 d7 hg (hk _ _ h)
  · intro pc idx lv r v st q hd hg hq h
    exact am_k hd hg hq h
  · intro pc L xs lv i r st q hd hg hi hq h
    exact am_sl hd hg hi hq h
  · intro pc L xs lv r st q hd hg hq h
    exact am_sn hd hg hq h
  · intro pc lv stk st h
    exact am_cut h
-- ends by their kinds
def am_ki (f : Int32 → am_S → Prop) : am_P := fun o st => match o with
  | .inl (some (.inl x)) => f x st
  | _ => False
def am_kv (f : am_S → Prop) : am_P := fun o st => match o with
  | .inl none => f st
  | _ => False
def am_kr (f : Nat → am_S → Prop) : am_P := fun o st => match o with
  | .inl (some (.inr (.inl o))) => f o st
  | _ => False
section AC
variable {cc : ByteArray} {G : am_G} {k : am_P} {pc : Nat} {lv : am_L} {st : am_S} {ins : Instr} {idx n : Nat} {rc : Option Nat} {w : am_Wp} {r : List am_V} {q : Nat}
theorem am_ci (as : List am_V) {stk : List am_V} (hM : am_Mo w) (hd : decode cc pc = .ok (ins, 3)) (hi : am_iv ins rc = some idx) (hG : G.2.1 idx = some (n, rc, w)) (hn : as.length = n) (hs : as.reverse ++ r = stk) (hc : am_rc rc as) (hr : am_rm r = true) (hq : pc + 3 = q)
    (h : w as st (am_ki (fun x st' => am_AW cc G k q lv (.inl x :: r) st'))) : am_AW cc G k pc lv stk st := by
  subst hs
  refine am_c hM hd hi hG hn hc hr hq (hM as st _ _ ?_ h)
  intro o st' ho
  rcases o with (_ | x | y) | n
  · exact False.elim ho
  · exact ho
  · exact False.elim ho
  · exact ho
theorem am_cv (as : List am_V) {stk : List am_V} (hM : am_Mo w) (hd : decode cc pc = .ok (ins, 3)) (hi : am_iv ins rc = some idx) (hG : G.2.1 idx = some (n, rc, w)) (hn : as.length = n) (hs : as.reverse ++ r = stk) (hc : am_rc rc as) (hr : am_rm r = true) (hq : pc + 3 = q)
    (h : w as st (am_kv (fun st' => am_AW cc G k q lv r st'))) : am_AW cc G k pc lv stk st := by
  subst hs
  refine am_c hM hd hi hG hn hc hr hq (hM as st _ _ ?_ h)
  intro o st' ho
  rcases o with (_ | x) | n
  · exact ho
  · exact False.elim ho
  · exact ho
theorem am_cr (as : List am_V) {stk : List am_V} (hM : am_Mo w) (hd : decode cc pc = .ok (ins, 3)) (hi : am_iv ins rc = some idx) (hG : G.2.1 idx = some (n, rc, w)) (hn : as.length = n) (hs : as.reverse ++ r = stk) (hc : am_rc rc as) (hr : am_rm r = true) (hq : pc + 3 = q)
    (h : w as st (am_kr (fun x st' => am_AW cc G k q lv (.inr (.inl x) :: r) st'))) : am_AW cc G k pc lv stk st := by
  subst hs
  refine am_c hM hd hi hG hn hc hr hq (hM as st _ _ ?_ h)
  intro o st' ho
  rcases o with (_ | x | y | z) | n
  · exact False.elim ho
  · exact False.elim ho
  · exact ho
  · exact False.elim ho
  · exact ho
end AC

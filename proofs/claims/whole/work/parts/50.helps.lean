/-! The law's helpers, seen from a spec of the method that each of them calls. -/
theorem fl_kt {tab : Nat → Option Int32} {k : am_P} {o : (Option am_V) ⊕ Nat} {st : am_S} (h : am_kt (fun v st' => (v = 0 ∨ v = 1 ∨ tab 0 = none) ∧ k (.inl (some (.inl 0))) (am_up st' 2167 0 v)) (fun n st' => (n = 1 ∨ n = 2) ∧ ∃ a, tab n = some a ∧ k (.inl (some (.inl a))) st') o st) : fl_post tab k o st := by
  rcases o with (_ | x | y) | n
  · exact h
  · exact h
  · exact h
  · exact h
theorem cmp_of {x y : Int32} (h : x = y) : lg_cmp x.toInt64 y.toInt64 = 0 := by
  subst h
  unfold lg_cmp
  simp
theorem nI_back {x : Int32} (h : 0 ≤ x.toInt) : nI x.toNatClampNeg = x := by
  have h1 := (i32_rg x).2
  rw [i32_eq]
  unfold nI
  rw [Int32.toInt_ofNat_of_lt (by rw [nn_eq]; omega), nn_eq]
  omega

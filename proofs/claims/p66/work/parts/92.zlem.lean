/-! little lemmas for THE CLASS's reader -/
theorem FF.u4 {x q k : Nat} {bs l : List Nat} {I I1 : mI} {v : Int32} (h : FF x bs l I I1) (hq : q < 2) (h4 : 4 ∈ bs) (h5 : 5 ∈ bs) : FF x bs l I (up2 I1 (x + 4 + q) k v) := by
  rcases (by omega : q = 0 ∨ q = 1) with rfl | rfl
  · exact h.ua (o := 4) h4 (by decide)
  · exact h.ua (o := 5) h5 (by decide)
theorem min_nI {a b : Nat} (ha : a < 2 ^ 31) (hb : b < 2 ^ 31) : (if nI b < nI a then nI b else nI a) = nI (min a b) := by
  by_cases h : b < a
  · rw [if_pos ((nI_ltI hb ha).mpr h), Nat.min_eq_right (by omega)]
  · rw [if_neg (fun q => h ((nI_ltI hb ha).mp q)), Nat.min_eq_left (by omega)]
theorem dig_sub {v d : Nat} (h1 : 48 ≤ d) : nI (10 * v + d) - 48 = nI (10 * v + (d - 48)) := (pk_sub (a := 10 * v + d) (b := 48) (by omega)).trans (congrArg nI (by omega))

/-! a little lemma for images -/
theorem RC.ima {x q k a : Nat} {I : mI} {s : PSt} {v : Int32} (h : RC x I s) (hq : q < 2) (hk : k < 64) (ha : 83 + 64 * q + k = a) : RC x (up2 I (x + 4 + q) k v) (s.rw (upd s.row a v)) := by
  subst ha
  exact h.im hq hk

/-! DECODED CODE: tables, each checked once -/
def dk (c : ByteArray) (t : List (Nat × Instr × Nat)) : Bool := t.all (fun q => decide (decode c q.1 = .ok q.2))
theorem dk_at {c : ByteArray} {t : List (Nat × Instr × Nat)} (h : dk c t = true) (i : Nat) {pc : Nat} {x : Instr} {len : Nat} (hi : t[i]? = some (pc, x, len)) : decode c pc = .ok (x, len) := by
  have h1 := List.all_eq_true.mp h _ (List.mem_of_getElem? hi)
  exact of_decide_eq_true h1

/-! what a check lets through, by number -/
theorem sl_ok {s : Int32} (h : inI s 0 1 = true) : ∃ j, j < 2 ∧ s = nI j := (sl_n s).elim id (fun q => absurd (q.symm.trans h) (by decide))
theorem rg_ok {v : Int32} {a b : Nat} (ha : a < 2 ^ 31) (hb : b < 2 ^ 31) (h : inI v (nI a) (nI b) = true) : ∃ j, a ≤ j ∧ j ≤ b ∧ v = nI j := (rg_c v a b ha hb).elim id (fun q => absurd (q.symm.trans h) (by decide))
theorem vs_ok {v : Int32} (h : inI v 1 255 = true) : ∃ j, j < 256 ∧ v = nI j := by
  obtain ⟨j, _, h2, e⟩ := rg_ok (a := 1) (b := 255) (by decide) (by decide) h
  exact ⟨j, by omega, e⟩
theorem in_ok {i : Int32} {k : Nat} (hk : k < 2 ^ 31) (h : inb i k = true) : ∃ j, j < k ∧ i = nI j := (inb_c i k hk).elim id (fun q => absurd (q.symm.trans h) (by decide))
theorem ar_ok {a : Int32} (h : inI a 0 2 = true) : a = 0 ∨ a = 1 ∨ a = 2 := by
  rcases ar_c a with q | q | q | q
  · exact Or.inl q
  · exact Or.inr (Or.inl q)
  · exact Or.inr (Or.inr q)
  · exact absurd (q.symm.trans h) (by decide)
theorem cRcv_0 {s v : Int32} (h1 : inI s 0 1 = true) (h2 : inI v 1 255 = true) : cRcv s v = 0 := if_pos ⟨h1, h2⟩
theorem cRcv_1 {s v : Int32} (h : inI s 0 1 = false ∨ inI v 1 255 = false) : cRcv s v = 1 := if_neg (fun q => by rcases h with h | h <;> rw [h] at q <;> simp at q)
theorem cDam_1 {s i k : Int32} {n : Nat} (h : inI s 0 1 = false ∨ inI k 0 65535 = false) : cDam s i k n = 1 := if_neg (fun q => by rcases h with h | h <;> rw [h] at q <;> simp at q)
theorem cDam_2 {s i k : Int32} {n : Nat} (h1 : inI s 0 1 = true) (h2 : inI k 0 65535 = true) (h : inb i n = false) : cDam s i k n = 2 := (if_pos ⟨h1, h2⟩).trans (if_neg (by rw [h]; decide))
theorem cDam_ok {s i k : Int32} {n : Nat} (h1 : inI s 0 1 = true) (h2 : inI k 0 65535 = true) (h : inb i n = true) : cDam s i k n = 0 := (if_pos ⟨h1, h2⟩).trans (if_pos h)
theorem cWear_1 {σ : sT} {a p : Int32} (h : inI a 0 2 = false) : cWear σ a p = 1 := if_neg (by rw [h]; decide)
theorem cWear_2 {σ : sT} {a p : Int32} (h1 : inI a 0 2 = true) (h : inb p (pgN σ a) = false) : cWear σ a p = 2 := (if_pos h1).trans (if_neg (by rw [h]; decide))
theorem cWear_0 {σ : sT} {a p : Int32} (h1 : inI a 0 2 = true) (h : inb p (pgN σ a) = true) : cWear σ a p = 0 := (if_pos h1).trans (if_pos h)

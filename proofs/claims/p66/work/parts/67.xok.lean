/-! what a check lets through, by number -/
theorem sl_ok {s : Int32} (h : inI s 0 1 = true) : ∃ j, j < 2 ∧ s = nI j := (sl_n s).elim id (fun q => absurd (q.symm.trans h) (by decide))
theorem rg_ok {v : Int32} {a b : Nat} (ha : a < 2 ^ 31) (hb : b < 2 ^ 31) (h : inI v (nI a) (nI b) = true) : ∃ j, a ≤ j ∧ j ≤ b ∧ v = nI j := (rg_c v a b ha hb).elim id (fun q => absurd (q.symm.trans h) (by decide))
theorem vs_ok {v : Int32} (h : inI v 1 255 = true) : ∃ j, j < 256 ∧ v = nI j := by
  obtain ⟨j, _, h2, e⟩ := rg_ok (a := 1) (b := 255) (by decide) (by decide) h
  exact ⟨j, by omega, e⟩
theorem in_ok {i : Int32} {k : Nat} (hk : k < 2 ^ 31) (h : inb i k = true) : ∃ j, j < k ∧ i = nI j := (inb_c i k hk).elim id (fun q => absurd (q.symm.trans h) (by decide))
theorem ar_ok {a : Int32} (h : inI a 0 2 = true) : a = 0 ∨ a = 1 ∨ a = 2 := by
  rcases ar_c a with q | q | q | q
  · exact Or.inl q
  · exact Or.inr (Or.inl q)
  · exact Or.inr (Or.inr q)
  · exact absurd (q.symm.trans h) (by decide)
theorem cRcv_0 {s v : Int32} (h1 : inI s 0 1 = true) (h2 : inI v 1 255 = true) : cRcv s v = 0 := if_pos ⟨h1, h2⟩
theorem cRcv_1 {s v : Int32} (h : inI s 0 1 = false ∨ inI v 1 255 = false) : cRcv s v = 1 := if_neg (fun q => by rcases h with h | h <;> rw [h] at q <;> simp at q)
theorem cDam_1 {s i k : Int32} {n : Nat} (h : inI s 0 1 = false ∨ inI k 0 65535 = false) : cDam s i k n = 1 := if_neg (fun q => by rcases h with h | h <;> rw [h] at q <;> simp at q)
theorem cDam_2 {s i k : Int32} {n : Nat} (h1 : inI s 0 1 = true) (h2 : inI k 0 65535 = true) (h : inb i n = false) : cDam s i k n = 2 := (if_pos ⟨h1, h2⟩).trans (if_neg (by rw [h]; decide))
theorem cDam_ok {s i k : Int32} {n : Nat} (h1 : inI s 0 1 = true) (h2 : inI k 0 65535 = true) (h : inb i n = true) : cDam s i k n = 0 := (if_pos ⟨h1, h2⟩).trans (if_pos h)
theorem cWear_1 {σ : sT} {a p : Int32} (h : inI a 0 2 = false) : cWear σ a p = 1 := if_neg (by rw [h]; decide)
theorem cWear_2 {σ : sT} {a p : Int32} (h1 : inI a 0 2 = true) (h : inb p (pgN σ a) = false) : cWear σ a p = 2 := (if_pos h1).trans (if_neg (by rw [h]; decide))
theorem cWear_0 {σ : sT} {a p : Int32} (h1 : inI a 0 2 = true) (h : inb p (pgN σ a) = true) : cWear σ a p = 0 := (if_pos h1).trans (if_pos h)
theorem lc_wx {N s k : Nat} (hs : s < 3) (hk : 275 + 16 * s + k < 309 ∧ k < 16) : Loc N (8 + s) k (275 + 16 * s + k) := by
  rcases (by omega : s < 2 ∨ s = 2) with h | rfl
  · exact lc_w h hk.2
  · exact lc_w2 (by omega)
theorem Loc.t {N N' k : Nat} {q a : Nat} (h : Loc N' q k a) (hq : ¬ (q = 18 ∧ 3 + N ≤ k)) : Loc N q k a := by
  unfold Loc at h ⊢
  rcases h with h | h | h | h | h | h | h | h
  · exact Or.inl h
  · exact Or.inr (Or.inl h)
  · exact Or.inr (Or.inr (Or.inl h))
  · exact Or.inr (Or.inr (Or.inr (Or.inl h)))
  · exact Or.inr (Or.inr (Or.inr (Or.inr (Or.inl h))))
  · exact Or.inr (Or.inr (Or.inr (Or.inr (Or.inr (Or.inl h)))))
  · exact Or.inr (Or.inr (Or.inr (Or.inr (Or.inr (Or.inr (Or.inl h))))))
  · exact Or.inr (Or.inr (Or.inr (Or.inr (Or.inr (Or.inr (Or.inr ⟨h.1, h.2.1, Nat.lt_of_not_le (fun g => hq ⟨h.1, g⟩), h.2.2.2⟩))))))
theorem Loc.t18 {N k a : Nat} (h : Loc N 18 k a) : a = 16 + k ∧ k < 3 + N := by
  unfold Loc at h
  omega
theorem Loc.n18 {N k q a : Nat} (h : Loc N q k a) (hq : q ≠ 18) : a < 19 ∨ 83 ≤ a := by
  unfold Loc at h
  omega
theorem RelD.stg {d : Nat} {I : mI} {σ : sT} {T N : Nat} {w : Int32} (h : RelD d I σ T N) (h61 : nS σ + 1 ≤ 61) : RelD d (up2 (up2 I (d + 18) (3 + nS σ) w) d 5 (nI (nS σ + 1))) (upd (upd σ (19 + nS σ) w) 4 (nI (nS σ + 1))) T (max N (nS σ + 1)) := by
  have hN := h.2.2.2.1
  have hN2 := h.2.2.2.2.1
  have h1 : RelD d (up2 I (d + 18) (3 + nS σ) w) (upd σ (19 + nS σ) w) T (max N (nS σ + 1)) := by
    refine ⟨fun q k a hq => ?_, ?_, ?_, ?_, by omega, h.2.2.2.2.2⟩
    · by_cases e : q = 18 ∧ k = 3 + nS σ
      · obtain ⟨rfl, rfl⟩ := e
        rw [up2_s, (Loc.t18 hq).1, show 16 + (3 + nS σ) = 19 + nS σ by omega, upd_s]
      · have hq' : Loc N q k a := Loc.t hq (fun g => by
          obtain ⟨rfl, g2⟩ := g
          have := (Loc.t18 hq).2
          omega)
        rw [up2_n (by omega), upd_n, h.1 _ _ _ hq']
        by_cases e2 : q = 18
        · subst e2
          have := (Loc.t18 hq).1
          omega
        · have := Loc.n18 hq' e2
          omega
    · rw [up2_n (by omega), nW_of (upd_n (by omega)), nP_of (upd_n (by omega))]; exact h.2.1
    · exact h.2.2.1.of (fun o h1 h2 => up2_off (by omega)) (upd_n (by omega)) (fun k hk => upd_n (by omega))
    · rw [show nS (upd σ (19 + nS σ) w) = nS σ from by unfold nS; rw [upd_n (by omega)]]; omega
  exact h1.set (o := 0) (k := 5) (a := 4) lc_0_5 (by decide) (by decide) (fun _ => by rw [tn_nI (by omega)]; omega)

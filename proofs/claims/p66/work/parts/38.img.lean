/-! THE CLASS: images, in numbers -/
theorem fPg_1 {s : Nat} {thr : Bool} {pay : sT} {c p : Nat} {σ : sT} (h : thr = false) : fPg s thr pay c p σ = fErP s p σ := if_pos (by rw [h]; rfl)
theorem fPg_2 {s : Nat} {thr : Bool} {pay : sT} {c p : Nat} {σ : sT} (h2 : spentB σ s p pay c = true) : fPg s thr pay c p σ = fErP s p σ := if_pos (by rw [h2, Bool.or_true])
theorem fPg_3 {s : Nat} {thr : Bool} {pay : sT} {c p : Nat} {σ : sT} (h : thr = true) (h2 : spentB σ s p pay c = false) : fPg s thr pay c p σ = (true, σ) := if_neg (by rw [h, h2]; decide)
theorem fPw_y' {s : Nat} {pay : sT} {k : Nat} {σ : sT} (h : σ (83 + 64 * s + (3 + k)) = pay (3 + k)) : fPw s pay k σ = (true, σ) := fPw_y (by rw [Nat.add_assoc]; exact h)
theorem fPw_n' {s : Nat} {pay : sT} {k : Nat} {σ : sT} (h : ¬ σ (83 + 64 * s + (3 + k)) = pay (3 + k)) : fPw s pay k σ = fWr (83 + 64 * s + (3 + k)) (pay (3 + k)) σ := by
  rw [fPw_n (by rw [Nat.add_assoc]; exact h), Nat.add_assoc]
theorem nmax {a b : Nat} (ha : a < 2 ^ 31) (hb : b < 2 ^ 31) : (if nI a < nI b then nI b else nI a) = nI (max a b) := by
  by_cases h : a < b
  · rw [if_pos ((nI_ltI ha hb).mpr h), Nat.max_eq_right (by omega)]
  · rw [if_neg (fun q => h ((nI_ltI ha hb).mp q)), Nat.max_eq_left (by omega)]
theorem nmin {a b : Nat} (ha : a < 2 ^ 31) (hb : b < 2 ^ 31) : (if nI b < nI a then nI b else nI a) = nI (min a b) := by
  by_cases h : b < a
  · rw [if_pos ((nI_ltI hb ha).mpr h), Nat.min_eq_right (by omega)]
  · rw [if_neg (fun q => h ((nI_ltI hb ha).mp q)), Nat.min_eq_left (by omega)]
theorem told_N {σ : sT} {s : Nat} (h : Inv σ) (hs : s < 2) : toldB σ s = decide (1 ≤ tn (σ (83 + 64 * s)) ∧ tn (σ (83 + 64 * s)) ≤ 255 ∧ 1 ≤ tn (σ (83 + 64 * s + 1)) ∧ tn (σ (83 + 64 * s + 1)) ≤ nW σ - 3) := by
  have hb := h.bd
  obtain ⟨e0, h0⟩ := wd_tn (h.2.2.2.1 (83 + 64 * s) (by omega) (by omega))
  obtain ⟨e1, h1⟩ := wd_tn (h.2.2.2.1 (83 + 64 * s + 1) (by omega) (by omega))
  unfold toldB inI
  generalize tn (σ (83 + 64 * s)) = a at e0 h0 ⊢
  generalize tn (σ (83 + 64 * s + 1)) = b at e1 h1 ⊢
  rw [e0, e1, show (1 : Int32) = nI 1 from rfl, show (255 : Int32) = nI 255 from rfl, Bool.eq_iff_iff]
  simp only [Bool.and_eq_true, decide_eq_true_eq]
  rw [nI_leI (by decide) (by omega), nI_leI (by omega) (by decide), nI_leI (by decide) (by omega), nI_leI (by omega) (by omega)]
  omega
theorem sumF_wd {row : sT} {a c : Nat} {v : Nat} (hv : v < 256) (hc : c ≤ 61) (hw : ∀ j, j < c → wd (row (a + 3 + j))) : wd (sumF row a (nI v) c) := by
  rw [← sumF_sh, sumF_n hv hc (fun j hj => by show wd (row (a + (3 + j))); rw [← Nat.add_assoc]; exact hw j hj)]
  exact ⟨_, Nat.mod_lt _ (by decide), rfl⟩
theorem nwd {x : Int32} (h : wd x) : ¬ x = -1 := by
  obtain ⟨a, ha, rfl⟩ := h
  exact nI_nm1 (by omega)
theorem whole_i {σ : sT} {s : Nat} (h : Inv σ) (hs : s < 2) : wholeB σ s = decide (sumS σ s = σ (83 + 64 * s + 2)) := by
  unfold wholeB sumS
  by_cases q : toldB σ s = true
  · rw [if_pos q, q, Bool.true_and]
    exact decide_eq_decide.mpr ⟨Eq.symm, Eq.symm⟩
  · rw [if_neg q, Bool.eq_false_iff.mpr q, Bool.false_and, decide_eq_false (fun e => nwd (h.2.2.2.1 (83 + 64 * s + 2) (by omega) (by omega)) e.symm)]

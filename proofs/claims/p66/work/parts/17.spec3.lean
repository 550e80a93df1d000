theorem page_16 {W P p : Nat} (h1 : W ≤ 64) (h2 : 4 ≤ P) (hp : p < W / P) : p < 16 := by
  have h3 : W / P ≤ W / 4 := Nat.div_le_div_left h2 (by decide)
  omega
theorem page_le {W P p : Nat} (h2 : 4 ≤ P) (hp : p < W / P) : P * p + P ≤ W := by
  have h1 : P * (W / P) ≤ W := Nat.mul_div_le W P
  have h3 : P * (p + 1) ≤ P * (W / P) := Nat.mul_le_mul_left P hp
  rw [Nat.mul_add, Nat.mul_one] at h3
  omega
def wornB (σ : sT) (s p : Nat) : Bool := decide (0 < σ 5) && decide (σ 5 ≤ σ (275 + 16 * s + p))
def sErP (σ : sT) (s p : Nat) : sT := sEr σ (83 + 64 * s + nP σ * p) (nP σ) (275 + 16 * s + p) (if wornB σ s p = true then 65534 else 65535)
def sErJ (σ : sT) (p : Nat) : sT := sEr σ (211 + 32 * p) (nJ σ) (307 + p) 65535
theorem Inv.erp {σ : sT} {s p : Nat} (h : Inv σ) (hs : s < 2) (hp : p < nW σ / nP σ) : Inv (sErP σ s p) := h.er (by omega) (by omega) (by split; exact ⟨65534, by decide, rfl⟩; exact wd_0)
theorem Inv.erj {σ : sT} {p : Nat} (h : Inv σ) (hp : p < 2) : Inv (sErJ σ p) := h.er (by omega) (by omega) wd_0
theorem ffree_s {σ : sT} {p k : Nat} (h : 0 < k) (h2 : σ (211 + 32 * p + k - 1) = 65535) : ffree σ p k = ffree σ p (k - 1) := by
  obtain ⟨j, rfl⟩ : ∃ j, k = j + 1 := ⟨k - 1, by omega⟩
  rw [show 211 + 32 * p + (j + 1) - 1 = 211 + 32 * p + j by omega] at h2
  rw [ffree, if_pos h2]
  rfl
theorem ffree_e {σ : sT} {p k : Nat} (h2 : ¬ σ (211 + 32 * p + k - 1) = 65535) : ffree σ p k = k := by
  match k with
  | 0 => rfl
  | j + 1 =>
    rw [show 211 + 32 * p + (j + 1) - 1 = 211 + 32 * p + j by omega] at h2
    rw [ffree, if_neg h2]
theorem ffree_0 {σ : sT} {p k : Nat} (h2 : k ≤ 0) : ffree σ p k = k := by
  have : k = 0 := by omega
  subst this
  rfl

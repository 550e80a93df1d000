/-! THE CLASS: flash and log, in numbers -/
theorem pw_pos {σ : sT} (h : Inv σ) (h1 : ¬ σ 6 = -1) (h0 : ¬ σ 6 = 0) : ¬ σ 6 ≤ 0 := by
  intro q
  have h2 := h.2.2.2.2.2.1
  have h3 := Int32.le_iff_toInt_le.mp q
  have e0 : (0 : Int32).toInt = 0 := by decide
  have e1 : (-1 : Int32).toInt = -1 := by decide
  have n1 : (σ 6).toInt ≠ -1 := fun q => h1 (Int32.toInt_inj.mp (by rw [q, e1]))
  have n0 : (σ 6).toInt ≠ 0 := fun q => h0 (Int32.toInt_inj.mp (by rw [q, e0]))
  omega
def snN (w : Nat → Nat) (s0 : Nat) : Nat → Nat
  | 0 => s0
  | k + 1 => snN w s0 k + (k + 1) * w k
theorem snN_le {w : Nat → Nat} {s0 : Nat} : ∀ {k : Nat}, k ≤ 61 → (∀ j, j < k → w j < 65536) → snN w s0 k ≤ s0 + k * 3997635
  | 0, _, _ => by simp [snN]
  | k + 1, hk, hw => by
    have ih := snN_le (w := w) (s0 := s0) (k := k) (by omega) (fun j hj => hw j (by omega))
    have h1 : (k + 1) * w k ≤ 61 * 65535 := Nat.mul_le_mul (by omega) (by have := hw k (by omega); omega)
    show snN w s0 k + (k + 1) * w k ≤ s0 + (k + 1) * 3997635
    generalize (k + 1) * w k = z at h1 ⊢
    omega
theorem sumI_n {row : sT} {v s0 : Nat} : ∀ {c : Nat}, c ≤ 61 → (∀ j, j < c → wd (row (3 + j))) → s0 < 65536 → sumI row 0 (nI s0) c % 65536 = nI (snN (fun j => tn (row (3 + j))) s0 c % 65536) ∧ ∃ q, q < 65536 ∧ sumI row 0 (nI s0) c = nI q
  | 0, _, _, h0 => by
    refine ⟨?_, s0, h0, rfl⟩
    show nI s0 % nI 65536 = _
    rw [n_mod (by omega) (by decide) (by decide)]
    rfl
  | c + 1, hc, hw, h0 => by
    obtain ⟨ih1, q, hq, ih2⟩ := sumI_n (row := row) (v := v) (s0 := s0) (c := c) (by omega) (fun j hj => hw j (by omega)) h0
    obtain ⟨e, ha⟩ := wd_tn (hw c (by omega))
    have hm : (c + 1) * tn (row (3 + c)) ≤ 61 * 65535 := Nat.mul_le_mul (by omega) (by omega)
    have e1 : sumI row 0 (nI s0) (c + 1) = nI ((q + (c + 1) * tn (row (3 + c))) % 65536) := by
      show (sumI row 0 (nI s0) c + nI (c + 1) * row (0 + 3 + c)) % 65536 = _
      rw [show 0 + 3 + c = 3 + c by omega, ih2, e, pk_mul, nI_add, show (65536 : Int32) = nI 65536 from rfl, n_mod (by omega) (by decide) (by decide), tn_nI (by omega)]
    rw [ih2, show (65536 : Int32) = nI 65536 from rfl, n_mod (by omega) (by decide) (by decide)] at ih1
    have ih3 : q % 65536 = snN (fun j => tn (row (3 + j))) s0 c % 65536 := by
      have h1 : snN (fun j => tn (row (3 + j))) s0 c % 65536 < 65536 := Nat.mod_lt _ (by decide)
      exact (nI_eq (by omega) (by omega)).mp ih1
    refine ⟨?_, _, Nat.mod_lt _ (by decide), e1⟩
    rw [e1, show (65536 : Int32) = nI 65536 from rfl, n_mod (by omega) (by decide) (by decide)]
    congr 1
    show _ = (snN (fun j => tn (row (3 + j))) s0 c + (c + 1) * tn (row (3 + c))) % 65536
    omega
theorem sumF_n {row : sT} {v c : Nat} (hv : v < 256) (hc : c ≤ 61) (hw : ∀ j, j < c → wd (row (3 + j))) : sumF row 0 (nI v) c = nI (snN (fun j => tn (row (3 + j))) (v + 3 * c) c % 65536) := by
  unfold sumF
  rw [nI_add]
  exact (sumI_n (v := v) hc hw (by omega)).1
theorem sumF_sh {σ : sT} {a c : Nat} {v : Int32} : sumF (fun j => σ (a + j)) 0 v c = sumF σ a v c := sumF_congr (fun k _ => by show σ (a + (0 + 3 + k)) = σ (a + 3 + k); rw [show a + (0 + 3 + k) = a + 3 + k by omega])
theorem anyB_i {g : Nat → Bool} : ∀ {c : Nat}, anyB g c = true ↔ ∃ k, k < c ∧ g k = true
  | 0 => ⟨fun h => absurd (show false = true from h) (by decide), fun ⟨k, h, _⟩ => absurd h (by omega)⟩
  | c + 1 => by
    unfold anyB
    rw [Bool.or_eq_true, anyB_i]
    refine ⟨fun h => h.elim (fun ⟨k, h1, h2⟩ => ⟨k, by omega, h2⟩) (fun h => ⟨c, by omega, h⟩), fun ⟨k, h1, h2⟩ => ?_⟩
    by_cases e : k = c
    · subst e; exact Or.inr h2
    · exact Or.inl ⟨k, by omega, h2⟩
theorem div_in {i P p : Nat} (hP : 0 < P) : i / P = p ↔ P * p ≤ i ∧ i < P * p + P := by
  refine ⟨fun h => ?_, fun h => ?_⟩
  · subst h
    refine ⟨Nat.mul_div_le i P, ?_⟩
    have := Nat.lt_mul_div_succ i hP
    rw [Nat.mul_add, Nat.mul_one] at this
    exact this
  · apply Nat.div_eq_of_lt_le
    · rw [Nat.mul_comm]; exact h.1
    · rw [Nat.add_mul, Nat.one_mul, Nat.mul_comm]; exact h.2
/-- a page must be erased: some word of the payload in it wants it -/
theorem spent_y {σ : sT} {s p c i : Nat} {pay : sT} (hP : 0 < nP σ) (h3 : 3 ≤ i) (h1 : nP σ * p ≤ i) (h2 : i < nP σ * p + nP σ) (hc : i < 3 + c) (hb : ¬ σ (83 + 64 * s + i) &&& pay i = pay i) : spentB σ s p pay c = true := by
  unfold spentB
  rw [Bool.or_eq_true]
  refine Or.inr (anyB_i.mpr ⟨i - 3, by omega, ?_⟩)
  unfold spG
  rw [show 3 + (i - 3) = i by omega, show 83 + 64 * s + 3 + (i - 3) = 83 + 64 * s + i by omega, (div_in hP).mpr ⟨h1, h2⟩, decide_eq_true rfl, decide_eq_false hb]
  rfl
theorem spent_n {σ : sT} {s p c : Nat} {pay : sT} (hP : 0 < nP σ) (h : ∀ i, 3 ≤ i → nP σ * p ≤ i → i < nP σ * p + nP σ → i < 3 + c → σ (83 + 64 * s + i) &&& pay i = pay i) : spentB σ s p pay c = decide (p = 0) := by
  unfold spentB
  have e : anyB (spG σ s p pay) c = false := by
    rw [Bool.eq_false_iff]
    intro q
    obtain ⟨k, hk, hg⟩ := anyB_i.mp q
    unfold spG at hg
    simp only [Bool.and_eq_true, Bool.not_eq_true', decide_eq_true_eq, decide_eq_false_iff_not] at hg
    obtain ⟨q1, q2⟩ := (div_in hP).mp hg.1
    exact hg.2 (by
      have := h (3 + k) (by omega) q1 q2 (by omega)
      rw [show 83 + 64 * s + (3 + k) = 83 + 64 * s + 3 + k by omega] at this
      exact this)
  rw [e, Bool.or_false]
theorem pg_of {σ σ' : sT} (h0 : σ' 0 = σ 0) (h1 : σ' 1 = σ 1) : nI (nW σ' / nP σ') = nI (nW σ / nP σ) := by rw [nW_of h0, nP_of h1]

/-! WHAT THE JOURNAL, THE WEAR AND THE IMAGES SHOW -/
theorem rec_ffb {σ : sT} {p k : Nat} (h : σ (211 + 32 * p + k) = 65535) : recB σ p k = false := by
  unfold recB
  rw [h, show rightI 65535 = false by decide]
  simp
theorem cs_le {σ : sT} {p : Nat} : ∀ {k : Nat}, cntN σ p k + splN σ p k ≤ k - 1
  | 0 => Nat.le_refl _
  | k + 1 => by
    have ih := cs_le (σ := σ) (p := p) (k := k)
    unfold cntN splN
    by_cases h0 : k = 0
    · subst h0
      rw [if_neg (by simp [recB]), if_pos (Or.inl rfl)]
      exact ih
    · by_cases hr : recB σ p k = true
      · rw [if_pos hr, if_pos (Or.inr (Or.inr hr))]
        omega
      · rw [if_neg hr]
        split <;> omega
theorem cs_free {σ : sT} {p : Nat} : ∀ {k : Nat}, 1 ≤ ffree σ p k → cntN σ p k + splN σ p k + 1 ≤ ffree σ p k
  | 0, h => absurd h (by unfold ffree; omega)
  | k + 1, h => by
    unfold ffree at h ⊢
    split at h
    · rename_i e
      rw [if_pos e]
      have ih := cs_free (σ := σ) (p := p) (k := k) h
      unfold cntN splN
      rw [if_neg (by rw [rec_ffb e]; decide), if_pos (Or.inr (Or.inl e))]
      exact ih
    · rename_i e
      rw [if_neg e]
      have := cs_le (σ := σ) (p := p) (k := k + 1)
      omega
theorem act_hdb {σ : sT} {p : Nat} (hp : p < 2) (h : activeI σ = nI p) : headB σ p = true := by
  unfold activeI at h
  split at h
  · rename_i h0
    split at h
    · rename_i h1
      match p, hp with
      | 0, _ => exact h0
      | 1, _ => exact h1
    · match p, hp with
      | 0, _ => exact h0
      | 1, _ => exact absurd h (by decide)
  · split at h
    · rename_i h1
      match p, hp with
      | 0, _ => exact absurd h (by decide)
      | 1, _ => exact h1
    · exact absurd h.symm (nI_nm1 (by omega))
theorem page_sum {σ : sT} {p : Nat} (h : Inv σ) (hp : p < 2) (ha : activeI σ = nI p) : cntN σ p (nJ σ) + splN σ p (nJ σ) + (nJ σ - ffree σ p (nJ σ)) + 1 ≤ nJ σ := by
  have hb := h.bd
  have h1 := free_pos (σ := σ) (p := p) (k := nJ σ) (act_hdb hp ha) (by omega)
  have h2 := cs_free h1
  have h3 := ffree_le σ p (nJ σ)
  omega
def posR (σ : sT) (k : Nat) : Nat := tn (recAt σ (nI k))
theorem rec_at {σ : sT} {p k : Nat} (h : Inv σ) (hp : p < 2) (ha : activeI σ = nI p) (hk : k < cntN σ p (nJ σ)) : recAt σ (nI k) = nI (posR σ k) ∧ 1 ≤ posR σ k ∧ posR σ k < 32 ∧ k = cntN σ p (posR σ k) ∧ recB σ p (posR σ k) = true := by
  have hb := h.bd
  have hc := cntN_le σ p (nJ σ)
  have h0 := (recAt_i h (show k < 2 ^ 31 by omega) hp ha).mpr hk
  obtain ⟨p', q, hp', ha', h1, h2, h3, h4, h5, h6⟩ := recAt_n h h0
  have e : p' = p := (nI_eq (by omega) (by omega)).mp (ha'.symm.trans ha)
  subst e
  have eq : posR σ k = q := by unfold posR; rw [h4, tn_nI (by omega)]
  have hq := cntN_le σ p' q
  rw [eq]
  exact ⟨h4, h1, h3, (nI_eq (by omega) (by omega)).mp h6, h5⟩
theorem rec_up {σ : sT} {p k : Nat} (h : Inv σ) (hp : p < 2) (ha : activeI σ = nI p) (hk : k + 1 < cntN σ p (nJ σ)) : posR σ k < posR σ (k + 1) := by
  obtain ⟨-, -, -, h1, -⟩ := rec_at h hp ha (show k < cntN σ p (nJ σ) by omega)
  obtain ⟨-, -, -, h2, -⟩ := rec_at h hp ha hk
  rcases Nat.lt_or_ge (posR σ k) (posR σ (k + 1)) with q | q
  · exact q
  · have := cntN_mono (σ := σ) (p := p) q
    omega
theorem kind_15 {σ : sT} {p k : Nat} (h : recB σ p k = true) : 1 ≤ kindI (σ (211 + 32 * p + k)) ∧ kindI (σ (211 + 32 * p + k)) ≤ 5 := by
  simp only [recB, rightI, inI, Bool.and_eq_true, Bool.not_eq_true', decide_eq_true_eq, decide_eq_false_iff_not] at h
  obtain ⟨-, ⟨⟨h1, h2⟩, -⟩, h3⟩ := h
  refine ⟨h1, ?_⟩
  rw [Int32.le_iff_toInt_le] at h2 ⊢
  have e6 : (6 : Int32).toInt = 6 := by decide
  have e5 : (5 : Int32).toInt = 5 := by decide
  have : ¬ (kindI (σ (211 + 32 * p + k))).toInt = 6 := fun q => h3 (Int32.toInt_inj.mp (q.trans e6.symm))
  omega
/-- the records of the active page, as the calls show them -/
theorem rec_calls {σ : sT} {p k : Nat} (h : Inv σ) (hp : p < 2) (ha : activeI σ = nI p) (hk : k < cntN σ p (nJ σ)) : a_rec σ (nI k) 2 = nI (posR σ k) ∧ 1 ≤ a_rec σ (nI k) 0 ∧ a_rec σ (nI k) 0 ≤ 5 := by
  obtain ⟨h1, h2, h3, h4, h5⟩ := rec_at h hp ha hk
  have hn : ¬ recAt σ (nI k) = -1 := by rw [h1]; exact nI_nm1 (by omega)
  have k15 := kind_15 h5
  unfold a_rec
  rw [if_neg hn, if_neg (by decide), if_neg (by decide), if_neg hn, if_pos rfl, ha, tn_nI (by omega), h1, tn_nI (by omega)]
  exact ⟨rfl, k15⟩
/-! wear -/
theorem mwPg_k {σ : sT} {a : Nat} {x : Int32 × Int32} : ∀ {p : Nat}, (mwPg σ a p x = x ∨ ∃ q, q < p ∧ mwPg σ a p x = (nI (100 * a + q), σ (275 + 16 * a + q))) ∧ x.2 ≤ (mwPg σ a p x).2 ∧ ∀ q, q < p → σ (275 + 16 * a + q) ≤ (mwPg σ a p x).2
  | 0 => ⟨Or.inl rfl, Int32.le_refl _, fun q h => absurd h (Nat.not_lt_zero _)⟩
  | p + 1 => by
    obtain ⟨h1, h2, h3⟩ := mwPg_k (σ := σ) (a := a) (x := x) (p := p)
    by_cases e : (mwPg σ a p x).2 < σ (275 + 16 * a + p)
    · have e2 : mwPg σ a (p + 1) x = (nI (100 * a + p), σ (275 + 16 * a + p)) := if_pos e
      rw [e2]
      refine ⟨Or.inr ⟨p, Nat.lt_succ_self _, rfl⟩, Int32.le_trans h2 (Int32.le_of_lt e), fun q hq => ?_⟩
      by_cases g : q = p
      · subst g; exact Int32.le_refl _
      · exact Int32.le_trans (h3 q (by omega)) (Int32.le_of_lt e)
    · have e2 : mwPg σ a (p + 1) x = mwPg σ a p x := if_neg e
      rw [e2]
      refine ⟨h1.imp id (fun ⟨q, g1, g2⟩ => ⟨q, by omega, g2⟩), h2, fun q hq => ?_⟩
      by_cases g : q = p
      · subst g; exact Int32.not_lt.mp e
      · exact h3 q (by omega)

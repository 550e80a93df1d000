theorem mw_most {σ : sT} {E : Nat} (h : Inv σ) (hE : E < 2 ^ 31) (hw : WB E σ) : ∃ a p, a < 3 ∧ p < pgN σ (nI a) ∧ (mwAr σ 3).1 = nI (100 * a + p) ∧ ∀ b q, b < 3 → q < pgN σ (nI b) → σ (275 + 16 * b + q) ≤ σ (275 + 16 * a + p) := by
  have hb := h.bd
  have hpos : ∀ n, 0 < pgN σ (nI n) := fun n => by
    by_cases e : nI n = 2
    · rw [e]; exact (by rw [pgN_2]; decide : 0 < pgN σ 2)
    · rw [pgN_n e]; exact Nat.div_pos (Nat.le_of_dvd (by omega) (Nat.dvd_of_mod_eq_zero hb.2.2.2.2.1)) (by omega)
  have hge : ∀ p, p < pgN σ (nI 0) → ¬ σ (275 + 16 * 0 + p) ≤ -1 := fun p hp => by
    have h16 := pgN_16 h (nI 0)
    obtain ⟨m, hm, e⟩ := hw (275 + 16 * 0 + p) (by omega) (by omega)
    rw [e, Int32.le_iff_toInt_le, nI_toInt (by omega)]
    have : (-1 : Int32).toInt = -1 := by decide
    omega
  have key : ∀ n, n ≤ 3 → 0 < n → ∃ a p, a < n ∧ p < pgN σ (nI a) ∧ mwAr σ n = (nI (100 * a + p), σ (275 + 16 * a + p)) ∧ ∀ b q, b < n → q < pgN σ (nI b) → σ (275 + 16 * b + q) ≤ (mwAr σ n).2 := by
    intro n
    induction n with
    | zero => intro _ h0; exact absurd h0 (Nat.lt_irrefl _)
    | succ n ih =>
      intro hn _
      obtain ⟨k1, k2, k3⟩ := mwPg_k (σ := σ) (a := n) (x := mwAr σ n) (p := pgN σ (nI n))
      have e : mwAr σ (n + 1) = mwPg σ n (pgN σ (nI n)) (mwAr σ n) := rfl
      rw [← e] at k1 k2 k3
      rcases Nat.eq_zero_or_pos n with h0 | h0
      · subst h0
        rcases k1 with k1 | ⟨q, hq, k1⟩
        · have g := k3 0 (hpos 0)
          rw [k1] at g
          exact absurd g (hge 0 (hpos 0))
        · refine ⟨0, q, by decide, hq, k1, fun b q2 hb hq2 => ?_⟩
          obtain rfl : b = 0 := by omega
          exact k3 q2 hq2
      · obtain ⟨a, p, ha, hp, e1, e2⟩ := ih (by omega) h0
        rcases k1 with k1 | ⟨q, hq, k1⟩
        · refine ⟨a, p, by omega, hp, k1.trans e1, fun b q2 hb hq2 => ?_⟩
          by_cases g : b = n
          · subst g; exact k3 q2 hq2
          · exact Int32.le_trans (e2 b q2 (by omega) hq2) k2
        · refine ⟨n, q, Nat.lt_succ_self _, hq, k1, fun b q2 hb hq2 => ?_⟩
          by_cases g : b = n
          · subst g; exact k3 q2 hq2
          · exact Int32.le_trans (e2 b q2 (by omega) hq2) k2
  obtain ⟨a, p, ha, hp, e1, e2⟩ := key 3 (Nat.le_refl _) (by decide)
  refine ⟨a, p, ha, hp, by rw [e1], fun b q hb hq => ?_⟩
  have := e2 b q hb hq
  rw [e1] at this
  exact this
/-! images -/
theorem sum01 {f : Nat → Int32} (h : ∀ k, f k = 0 ∨ f k = 1) (h0 : f 0 = 1) : ∀ {n : Nat}, 1 ≤ n → ∃ m, 1 ≤ m ∧ m ≤ n ∧ sumL f 0 n = nI m
  | 0, hn => absurd hn (by decide)
  | 1, _ => ⟨1, by decide, by decide, by rw [sumL_s (Nat.zero_le _), sumL_0, h0]; decide⟩
  | n + 2, _ => by
    obtain ⟨m, h1, h2, h3⟩ := sum01 h h0 (n := n + 1) (by omega)
    rw [sumL_s (Nat.zero_le _), h3]
    rcases h (n + 1) with e | e
    · exact ⟨m, h1, by omega, by rw [e]; exact Int32.add_zero _⟩
    · exact ⟨m + 1, by omega, by omega, by rw [e, nI_1]⟩
theorem dw_in {σ : sT} {s : Nat} (h : Inv σ) (hw : wholeB σ s = true) : σ (83 + 64 * s + 2) = sumS σ s ∧ 1 ≤ a_dw σ s ∧ a_dw σ s ≤ σ (83 + 64 * s + 1) := by
  have hb := h.bd
  have h1 := toldB_n hb.2.1 (wholeB_n hw)
  have h2 : σ (83 + 64 * s + 2) = sumS σ s := by
    simp only [wholeB, Bool.and_eq_true, decide_eq_true_eq] at hw
    exact hw.2
  obtain ⟨m, g1, g2, g3⟩ := sum01 (f := dwF σ s) (fun k => by unfold dwF; split; exact Or.inl rfl; exact Or.inr rfl) (by unfold dwF; rw [if_neg (by simp [anyB])]) (n := tn (σ (83 + 64 * s + 1))) h1.2.1
  refine ⟨h2, ?_⟩
  unfold a_dw
  rw [if_pos hw, g3, h1.1]
  exact ⟨(nI_leI (a := 1) (by decide) (by omega)).mpr g1, (nI_leI (by omega) (by omega)).mpr g2⟩

/-! a device as a text tells it -/
def FlaN (d : Nat) (I : mI) (σ : sT) : Prop := (∀ o k a, Loc 0 o k a → 1 ≤ o → o ≤ 10 → I (d + o) k = σ a) ∧ I (d + 1) 4 = nI (nW σ / nP σ)
theorem newS_lo {S : PSt} {k : Nat} (hk : k < 211) : newS S k = S.row k := by
  unfold newS
  rw [if_neg (by omega), if_neg (by omega), if_neg (by omega), if_pos (by omega)]
theorem newS_hi {S : PSt} {k : Nat} (h1 : 214 ≤ k) (h2 : k < 309) : newS S k = S.row k := by
  unfold newS
  rw [if_neg (by omega), if_neg (by omega), if_neg (by omega), if_pos h2]
theorem newS_0 {S : PSt} {k : Nat} (hG : GS S) (h1 : 275 ≤ k) (h2 : k < 309) : newS S k = 0 := (newS_hi (by omega) h2).trans (hG.2.1.2.2.2.2.2 k h1 h2)
theorem newS_j {S : PSt} {k : Nat} (hG : GS S) (h1 : 214 ≤ k) (h2 : k < 275) : newS S k = 65535 := (newS_hi h1 (by omega)).trans (hG.2.1.2.2.2.2.1 k (by omega) h2)
theorem newS_c {S : PSt} {k : Nat} (hG : GS S) (h1 : 4 ≤ k) (h2 : k < 83) (h5 : k ≠ 5) : newS S k = row0 k := (newS_lo (by omega)).trans (hG.2.1.2.2.1 k h1 h2 h5)
theorem newS_WP {S : PSt} (hG : GS S) : ∃ W P, S.row 0 = nI W ∧ 8 ≤ W ∧ W ≤ 64 ∧ S.row 1 = nI P ∧ 4 ≤ P ∧ P ≤ 16 ∧ nW (newS S) = W ∧ nP (newS S) = P := by
  obtain ⟨W, P, J, e0, w1, w2, e1, p1, p2, _⟩ := hG.1
  refine ⟨W, P, e0, w1, w2, e1, p1, p2, ?_, ?_⟩
  · unfold nW; rw [newS_lo (by decide), e0, tn_nI (by omega)]
  · unfold nP; rw [newS_lo (by decide), e1, tn_nI (by omega)]
theorem row0_e {k : Nat} (h : k < 83) (h3 : k ≠ 3) (h6 : k ≠ 6) (h8 : k ≠ 8) : row0 k = 0 := by
  unfold row0
  rw [if_neg (by omega), if_neg h3, if_neg h6, if_neg h8]
/-- the whole device -/
theorem RelD.new {d : Nat} {I : mI} {S : PSt} (hG : GS S) (hF : FlaN d I (newS S)) (h5 : I d 5 = 0) (h6 : I d 6 = S.row 3) (h7 : I d 7 = 0) (h8 : I d 8 = -1) (ht : I (d + 11) 4 = 0) (hc : ∀ k, k < 8 → I (d + 15) k = 0) : RelD d I (newS S) 0 0 := by
  have n4 : nS (newS S) = 0 := by
    unfold nS
    rw [newS_c hG (by decide) (by decide) (by decide), row0_e (by decide) (by decide) (by decide) (by decide)]
    rfl
  have n10 : nL (newS S) = 0 := by
    unfold nL
    rw [newS_c hG (by decide) (by decide) (by decide), row0_e (by decide) (by decide) (by decide) (by decide)]
    rfl
  refine ⟨fun o k a hl => ?_, hF.2, ⟨ht, by rw [n10]; rfl, fun r c hr => by rw [n10] at hr; omega⟩, by omega, by decide, by decide⟩
  by_cases q : 1 ≤ o ∧ o ≤ 10
  · exact hF.1 o k a hl q.1 q.2
  · unfold Loc at hl
    rcases hl with ⟨rfl, _⟩ | ⟨rfl, hl⟩ | hl | hl | hl | hl | ⟨rfl, hk, rfl⟩ | hl
    · omega
    · rcases hl with ⟨rfl, rfl⟩ | ⟨rfl, rfl⟩ | ⟨rfl, rfl⟩ | ⟨rfl, rfl⟩
      · rw [newS_c hG (by decide) (by decide) (by decide)]; exact h5
      · rw [newS_lo (by decide)]; exact h6
      · rw [newS_c hG (by decide) (by decide) (by decide)]; exact h7
      · rw [newS_c hG (by decide) (by decide) (by decide)]; exact h8
    · omega
    · omega
    · omega
    · omega
    · rw [newS_c hG (by omega) (by omega) (by omega), row0_e (by omega) (by omega) (by omega) (by omega)]
      exact hc k hk
    · omega

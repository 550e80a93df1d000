/-! THE CLASS: its actions, in numbers -/
theorem fApp_g {σ σz : sT} {k : Nat} {v : Int32} {b : Bool} {τ : sT} (h : fApp k v σ = fPut k v σz) (h2 : fPut k v σz = (b, τ)) : fApp k v σ = (b, τ) := h.trans h2
theorem sOff_id {σ : sT} (h : σ 8 = -1) : sOff σ = upd σ 7 0 := by
  funext k
  unfold sOff
  by_cases e : k = 8
  · subst e
    rw [upd_s, upd_n (by decide), h]
  · rw [upd_n e]
theorem run_good {σ : sT} (h : Inv σ) : goodB σ = (!decide (σ 8 = -1) && decide (told σ 1 = σ 8)) := by
  unfold goodB
  by_cases q : σ 7 = 1
  · obtain ⟨r, hr, er⟩ := h.2.2.1.run q
    rw [decide_eq_true q, decide_eq_false (p := σ 8 = -1) (by rw [er]; exact nI_nm1 (by omega))]
    rfl
  · have := h.2.2.1.not q
    rw [decide_eq_false q, decide_eq_true this]
    rfl
theorem run_7 {σ : sT} (h : Inv σ) (q : ¬ σ 8 = -1) : σ 7 = 1 := by
  by_cases h7 : σ 7 = 1
  · exact h7
  · exact absurd (h.2.2.1.not h7) q
theorem opu_4 {v : Int32} {thr : Bool} {s : Nat} {σ : sT} {j : Nat} (hj : j < 83) (h6 : j ≠ 6) (h9 : j ≠ 9) (hk : Kp j) : (opU v thr s σ).2 j = σ j :=
  sq_P (P := fun τ => τ j = σ j) (img_ne hj h6 h9) (fun _ => (fApp_ne hk).trans (img_ne hj h6 h9))
theorem con_floor {σ : sT} {r : Nat} (h : Inv σ) (hr : r < 2) (ok : (fApp 2 (nI r) σ).1 = true) : told (fApp 2 (nI r) σ).2 0 = told σ 0 := by
  rw [told_app h (okR_slot (by decide) (by decide) hr) ok 0 (by decide) (by decide), takeI_0 (by decide)]
theorem slot01 {s : Nat} (hs : s < 2) : (nI s : Int32) = 0 ∨ (nI s : Int32) = 1 := by
  match s, hs with
  | 0, _ => exact Or.inl rfl
  | 1, _ => exact Or.inr rfl
theorem img_hi {s : Nat} {thr : Bool} {pay : sT} {c k : Nat} {v : Int32} {σ : sT} (hs : s < 2) (hw : nW σ ≤ 64) (hc : c ≤ 61) (hP : 4 ≤ nP σ) (h : 211 ≤ k) (h2 : k < 275) : (fImg s thr pay c v σ).2 k = σ k := by
  have e1 : (itK (fPg s thr pay c) (nW σ / nP σ) σ).2 k = σ k ∧ nW (itK (fPg s thr pay c) (nW σ / nP σ) σ).2 = nW σ ∧ nP (itK (fPg s thr pay c) (nW σ / nP σ) σ).2 = nP σ :=
    itK_P (f := fPg s thr pay c) (P := fun τ => τ k = σ k ∧ nW τ = nW σ ∧ nP τ = nP σ) (n := nW σ / nP σ) ⟨rfl, rfl, rfl⟩ (fun j hj τ ⟨a, b, d⟩ => by
      have hpp := page_le hP hj
      refine ⟨?_, (nW_of (fPg_ne (by decide) (by decide) (by decide))).trans b, (nP_of (fPg_ne (by decide) (by decide) (by decide))).trans d⟩
      rw [← a]
      unfold fPg
      split
      · show sErP τ s j k = _
        unfold sErP
        rw [d]
        exact sEr_out (by omega) (by omega) (by omega) (by omega)
      · rfl)
  have e2 := itK_P (f := fPw s pay) (P := fun τ => τ k = σ k) (n := c) e1.1 (fun j hj τ a => by
    rw [← a]
    unfold fPw
    split
    · rfl
    · exact sWr_ne (by omega) (by omega) (by omega))
  have w : ∀ (τ : sT) (j : Nat) (x : Int32), j < 211 → τ k = σ k → (fWr j x τ).2 k = σ k := fun τ j x hj a => (sWr_ne (by omega) (by omega) (by omega)).trans a
  unfold fImg fHd sq
  split
  · split
    · split
      · split
        · exact w _ _ _ (by omega) (w _ _ _ (by omega) (w _ _ _ (by omega) e2))
        · exact w _ _ _ (by omega) (w _ _ _ (by omega) e2)
      · exact w _ _ _ (by omega) e2
    · exact e2
  · exact e1.1
theorem free_c {σ σ' : sT} {p : Nat} : ∀ {k : Nat}, (∀ j, j < k → σ' (211 + 32 * p + j) = σ (211 + 32 * p + j)) → ffree σ' p k = ffree σ p k ∧ cntN σ' p k = cntN σ p k ∧ splN σ' p k = splN σ p k
  | 0, _ => ⟨rfl, rfl, rfl⟩
  | k + 1, h => by
    obtain ⟨i1, i2, i3⟩ := free_c (σ := σ) (σ' := σ') (p := p) (k := k) (fun j hj => h j (by omega))
    have e := h k (by omega)
    have er : recB σ' p k = recB σ p k := by unfold recB; rw [e]
    unfold ffree cntN splN
    rw [e, er, i1, i2, i3]
    exact ⟨rfl, rfl, rfl⟩
theorem told_j {σ σ' : sT} (h : ∀ k, 211 ≤ k → k < 275 → σ' k = σ k) (h2 : σ' 2 = σ 2) (hJ : nJ σ ≤ 32) : told σ' = told σ ∧ activeI σ' = activeI σ := by
  have ha : activeI σ' = activeI σ := act_c (h _ (by decide) (by decide)) (h _ (by decide) (by decide))
  refine ⟨?_, ha⟩
  unfold told
  rw [ha, nJ_of h2]
  split
  · rfl
  · have := act_lt σ
    exact tell_congr (fun j a b => h _ (by omega) (by omega))
theorem LedR.sig {d : Nat} {I : mI} {σ σ' : sT} (hl : LedR d I σ) (h : ∀ k, 211 ≤ k → k < 275 → σ' k = σ k) (h2 : σ' 2 = σ 2) (hJ : nJ σ ≤ 32) : LedR d I σ' := by
  obtain ⟨et, ea⟩ := told_j h h2 hJ
  obtain ⟨a1, a2, a3, a4⟩ := hl
  refine ⟨by rw [ea]; exact a1, fun q => a2 (by rw [← ea]; exact q), fun p hp q => ?_, by rw [et]; exact a4⟩
  obtain ⟨b1, b2, b3, b4⟩ := a3 p hp (by rw [← ea]; exact q)
  obtain ⟨c1, c2, c3⟩ := free_c (σ := σ) (σ' := σ') (p := p) (k := nJ σ) (fun j hj => h _ (by omega) (by omega))
  have eg : genI σ' p = genI σ p := by unfold genI; rw [h _ (by omega) (by omega)]
  rw [nJ_of h2, eg, c1, c2, c3]
  exact ⟨b1, b2, b3, b4⟩
theorem LedR.img {d : Nat} {I : mI} {σ : sT} {s : Nat} {thr : Bool} {pay : sT} {c : Nat} {v : Int32} (hl : LedR d I σ) (h : Inv σ) (hs : s < 2) (hc : c ≤ 61) : LedR d I (fImg s thr pay c v σ).2 := by
  have hb := h.bd
  exact hl.sig (fun k a b => img_hi hs hb.2.1 hc hb.2.2.1 a b) (img_ne (by decide) (by decide) (by decide)) hb.2.2.2.2.2.2.1

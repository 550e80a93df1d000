/-! THE CLASS: its actions, in numbers -/
theorem fApp_g {σ σz : sT} {k : Nat} {v : Int32} {b : Bool} {τ : sT} (h : fApp k v σ = fPut k v σz) (h2 : fPut k v σz = (b, τ)) : fApp k v σ = (b, τ) := h.trans h2
theorem sOff_id {σ : sT} (h : σ 8 = -1) : sOff σ = upd σ 7 0 := by
  funext k
  unfold sOff
  by_cases e : k = 8
  · subst e
    rw [upd_s, upd_n (by decide), h]
  · rw [upd_n e]
theorem run_good {σ : sT} (h : Inv σ) : goodB σ = (!decide (σ 8 = -1) && decide (told σ 1 = σ 8)) := by
  unfold goodB
  by_cases q : σ 7 = 1
  · obtain ⟨r, hr, er⟩ := h.2.2.1.run q
    rw [decide_eq_true q, decide_eq_false (p := σ 8 = -1) (by rw [er]; exact nI_nm1 (by omega))]
    rfl
  · have := h.2.2.1.not q
    rw [decide_eq_false q, decide_eq_true this]
    rfl
theorem run_7 {σ : sT} (h : Inv σ) (q : ¬ σ 8 = -1) : σ 7 = 1 := by
  by_cases h7 : σ 7 = 1
  · exact h7
  · exact absurd (h.2.2.1.not h7) q
theorem opu_4 {v : Int32} {thr : Bool} {s : Nat} {σ : sT} {j : Nat} (hj : j < 83) (h6 : j ≠ 6) (h9 : j ≠ 9) (hk : Kp j) : (opU v thr s σ).2 j = σ j :=
  sq_P (P := fun τ => τ j = σ j) (img_ne hj h6 h9) (fun _ => (fApp_ne hk).trans (img_ne hj h6 h9))
theorem con_floor {σ : sT} {r : Nat} (h : Inv σ) (hr : r < 2) (ok : (fApp 2 (nI r) σ).1 = true) : told (fApp 2 (nI r) σ).2 0 = told σ 0 := by
  rw [told_app h (okR_slot (by decide) (by decide) hr) ok 0 (by decide) (by decide), takeI_0 (by decide)]
theorem slot01 {s : Nat} (hs : s < 2) : (nI s : Int32) = 0 ∨ (nI s : Int32) = 1 := by
  match s, hs with
  | 0, _ => exact Or.inl rfl
  | 1, _ => exact Or.inr rfl

/-! a boot behind a cut, as the class has it -/
def a_bac (v : Int32) (thr : Bool) (c : Int32) (σ : sT) : Int32 := if errU v σ = 0 then (fAft v thr c (-1) σ).1 else errU v σ
theorem bac_err0 {v c : Int32} {thr : Bool} {σ : sT} (h : ¬ errU v σ = 0) : fUpd v thr (upd σ 6 c) = (errU v σ, upd σ 6 c) := by
  rw [fUpd_e (by rw [errU_6]; exact h), errU_6]
theorem bac_cut {v c : Int32} {thr : Bool} {σ : sT} (hI : Inv σ) (hc : (-1 : Int) ≤ c.toInt) (e : (fUpd v thr (upd σ 6 c)).1 = -4) : errU v σ = 0 ∧ fAft v thr c (-1) σ = fBoot (upd (fUpd v thr (upd σ 6 c)).2 6 (-1)) := by
  have h0 : errU v σ = 0 := by
    rcases errU_c v σ with h | h | h
    · exact h
    · rw [bac_err0 (by rw [h]; decide)] at e; rw [h] at e; exact absurd e (show ¬ (-3 : Int32) = -4 by decide)
    · rw [bac_err0 (by rw [h]; decide)] at e; rw [h] at e; exact absurd e (show ¬ (-5 : Int32) = -4 by decide)
  exact ⟨h0, (aft_y e).trans (bt_m (hI.p6 hc).upda)⟩
theorem bac_full {v c : Int32} {thr : Bool} {σ : sT} (e : ¬ (fUpd v thr (upd σ 6 c)).1 = -4) (e2 : 0 ≤ (fUpd v thr (upd σ 6 c)).1) : errU v σ = 0 ∧ (fAft v thr c (-1) σ).1 = -2 := by
  have h0 : errU v σ = 0 := by
    rcases errU_c v σ with h | h | h
    · exact h
    · rw [bac_err0 (by rw [h]; decide)] at e2; rw [h] at e2; exact absurd e2 (show ¬ (0 : Int32) ≤ -3 by decide)
    · rw [bac_err0 (by rw [h]; decide)] at e2; rw [h] at e2; exact absurd e2 (show ¬ (0 : Int32) ≤ -5 by decide)
  exact ⟨h0, by rw [aft_n e]⟩
theorem bac_err {v c : Int32} {thr : Bool} {σ : sT} (hI : Inv σ) (hc : (-1 : Int) ≤ c.toInt) (e : ¬ (fUpd v thr (upd σ 6 c)).1 = -4) (e2 : (fUpd v thr (upd σ 6 c)).1 < 0) : ¬ errU v σ = 0 ∧ errU v σ = (fUpd v thr (upd σ 6 c)).1 := by
  have h0 : ¬ errU v σ = 0 := fun h => by
    rcases upd_o (thr := thr) (hI.p6 hc) (errU_6.trans h) with ⟨q, _⟩ | ⟨_, d, _, hd, q, _⟩
    · exact e q
    · rw [q] at e2; exact nI_npos (by omega) e2
  exact ⟨h0, by rw [bac_err0 h0]⟩
theorem bac_0 {v c x : Int32} {thr : Bool} {σ : sT} (e : a_bac v thr c σ = x) (h3 : ¬ x = -3) (h5 : ¬ x = -5) : errU v σ = 0 ∧ (fAft v thr c (-1) σ).1 = x := by
  unfold a_bac at e
  split at e
  · rename_i h
    exact ⟨h, e⟩
  · rename_i h
    rcases errU_c v σ with q | q | q
    · exact absurd q h
    · exact absurd (e.symm.trans q) h3
    · exact absurd (e.symm.trans q) h5
theorem bac_n {v c x : Int32} {thr : Bool} {σ : sT} (hI : Inv σ) (hc : (-1 : Int) ≤ c.toInt) (e : a_bac v thr c σ = x) (h1 : x < -1) (h2 : ¬ x = -2) : ¬ errU v σ = 0 ∧ errU v σ = x := by
  unfold a_bac at e
  split at e
  · exfalso
    rcases aft_c (v := v) (thr := thr) hI hc m1_i with ⟨q, _⟩ | ⟨_, q | q | q⟩
    · exact h2 (e.symm.trans q)
    · rw [← e, q] at h1; exact absurd h1 (by decide)
    · rw [← e, q] at h1; exact absurd h1 (by decide)
    · rw [← e, q] at h1; exact absurd h1 (by decide)
  · rename_i h
    exact ⟨h, e⟩
theorem ge_ne {x y : Int32} (h : -1 ≤ x) (hy : y < -1) : ¬ x = y := fun e => by
  subst e
  exact Int32.not_lt.mpr h hy

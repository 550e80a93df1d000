/-! THE LAW'S TEXT: the state behind it -/
section LTS
variable {T : tT} {n t v w l : Nat}
theorem lt_ok (h : LTx T n t v w l) : TxOk T n := by
  have hn := h.hn
  have lv := dg_le v
  have lw := dg_le w
  have a0 : ∀ j, j < 20 → 0 < lt0 j ∧ lt0 j < 256 := by decide
  have a1 : ∀ j, j < 9 → 0 < lt1 j ∧ lt1 j < 256 := by decide
  have a2 : ∀ j, j < 3 → 0 < lt2 j ∧ lt2 j < 256 := by decide
  have a3 : ∀ j, j < 13 → 0 < lt3 j ∧ lt3 j < 256 := by decide
  have ht := h.ht
  have hl := h.hl
  refine ⟨by omega, fun k hk => ?_, h.tz⟩
  rcases (by omega : k < 20 ∨ k = 20 ∨ (21 ≤ k ∧ k < 30) ∨ (30 ≤ k ∧ k < 30 + dg v) ∨ (30 + dg v ≤ k ∧ k < 33 + dg v) ∨ (33 + dg v ≤ k ∧ k < 33 + dg v + dg w) ∨ (33 + dg v + dg w ≤ k ∧ k < 46 + dg v + dg w) ∨ k = 46 + dg v + dg w) with g | g | g | g | g | g | g | g
  · rw [h.t0 k g]; exact a0 k g
  · rw [g, h.tt]; omega
  · have := h.t1 (k - 21) (by omega)
    rw [show 21 + (k - 21) = k by omega] at this
    rw [this]; exact a1 _ (by omega)
  · have := h.tv (k - 30) (by omega)
    rw [show 30 + (k - 30) = k by omega] at this
    rw [this]
    have := Nat.mod_lt (v / dgp (dg v - 1 - (k - 30))) (show 0 < 10 by decide)
    omega
  · have := h.t2 (k - (30 + dg v)) (by omega)
    rw [show 30 + dg v + (k - (30 + dg v)) = k by omega] at this
    rw [this]; exact a2 _ (by omega)
  · have := h.tw (k - (33 + dg v)) (by omega)
    rw [show 33 + dg v + (k - (33 + dg v)) = k by omega] at this
    rw [this]
    have := Nat.mod_lt (w / dgp (dg w - 1 - (k - (33 + dg v)))) (show 0 < 10 by decide)
    omega
  · have := h.t3 (k - (33 + dg v + dg w)) (by omega)
    rw [show 33 + dg v + dg w + (k - (33 + dg v + dg w)) = k by omega] at this
    rw [this]; exact a3 _ (by omega)
  · rw [g, h.tl]; omega
theorem s5_lo {t v w l k : Nat} (hk : k < 211) : newS (S5 t v w l) k = (S5 t v w l).row k := by
  unfold newS
  rw [if_neg (by omega), if_neg (by omega), if_neg (by omega), if_pos (by omega)]
theorem s5_83 : newS (S5 t v w l) 83 = nI v := by
  rw [s5_lo (by decide)]
  rfl
theorem s5_84 : newS (S5 t v w l) 84 = nI 2 := by
  rw [s5_lo (by decide)]
  rfl
theorem s5_86 : newS (S5 t v w l) 86 = nI 7 := by
  rw [s5_lo (by decide)]
  rfl
theorem s5_87 : newS (S5 t v w l) 87 = nI w := by
  rw [s5_lo (by decide)]
  rfl
theorem s5_0 : newS (S5 t v w l) 0 = nI 16 := by
  rw [s5_lo (by decide)]
  rfl
theorem s5_147 : newS (S5 t v w l) 147 = 65535 := by
  rw [s5_lo (by decide)]
  rfl
theorem s5_85 : newS (S5 t v w l) 85 = sumF (newS (S5 t v w l)) 83 (nI v) 2 := by
  have e : newS (S5 t v w l) 85 = sumF (upd (upd (upd (upd ((SI.cl 0).st 3 t).row 83 (nI v)) 86 (nI 7)) 87 (nI w)) 84 (nI 2)) 83 (nI v) 2 := by
    rw [s5_lo (by decide)]
    rfl
  rw [e]
  refine sumF_congr (fun k hk => ?_)
  rcases (by omega : k = 0 ∨ k = 1) with rfl | rfl
  · exact Eq.trans rfl s5_86.symm
  · exact Eq.trans rfl s5_87.symm
theorem s5_w0 (h : 1 ≤ v ∧ v ≤ 255) : wholeB (newS (S5 t v w l)) 0 = true := by
  have ht : toldB (newS (S5 t v w l)) 0 = true := by
    unfold toldB
    show (inI (newS (S5 t v w l) 83) 1 255 && inI (newS (S5 t v w l) 84) 1 (nI (nW (newS (S5 t v w l)) - 3))) = true
    have e : nW (newS (S5 t v w l)) = 16 := by unfold nW; rw [s5_0]; exact tn_nI (by decide)
    rw [s5_83, s5_84, e, show (1 : Int32) = nI 1 from rfl, show (255 : Int32) = nI 255 from rfl, inI_m (by omega) (by decide) (by decide)]
    rw [decide_eq_true h]
    decide
  unfold wholeB
  rw [ht]
  show decide (newS (S5 t v w l) 85 = sumS (newS (S5 t v w l)) 0) = true
  refine decide_eq_true ?_
  unfold sumS
  rw [if_pos ht]
  show newS (S5 t v w l) 85 = sumF (newS (S5 t v w l)) 83 (newS (S5 t v w l) 83) (tn (newS (S5 t v w l) 84))
  rw [s5_83, s5_84, tn_nI (by decide)]
  exact s5_85
theorem s5_w1 : wholeB (newS (S5 t v w l)) 1 = false := by
  have ht : toldB (newS (S5 t v w l)) 1 = false := by
    unfold toldB
    show (inI (newS (S5 t v w l) 147) 1 255 && _) = false
    rw [s5_147, show inI (65535 : Int32) 1 255 = false by decide]
    rfl
  unfold wholeB
  rw [ht]
  rfl
theorem lt_load (h : LTx T n t v w l) (σ : sT) : loadA T n = 1 ∧ St 0 (loadT T n σ) := by
  have hp := lt_parse h
  have hk : (parseO T n).k = 0 := by rw [hp]; rfl
  have hG := parse_ok (lt_ok h) hk
  have hs : (parseO T n).st = S5 t v w l := by rw [hp]; rfl
  rw [hs] at hG
  refine ⟨?_, ?_⟩
  · unfold loadA
    rw [if_pos hk, hs, s5_w0 h.hv, s5_w1]
    rfl
  · unfold loadT
    rw [if_pos hk, hs]
    refine ⟨newS_inv hG, ⟨s5_0, ?_, ?_⟩, ⟨0, Nat.le_refl _, fun _ => 0, fun k hk => ?_, rfl, ?_⟩, fun k h1 h2 => ⟨0, Nat.le_refl _, ?_⟩⟩
    · rw [s5_lo (by decide)]; rfl
    · rw [s5_lo (by decide)]; rfl
    · rw [s5_lo (by omega)]
      exact (hG.2.1.2.2.1 (11 + k) (by omega) (by omega) (by omega)).trans (by
        rcases (by omega : k = 0 ∨ k = 1 ∨ k = 2 ∨ k = 3 ∨ k = 4 ∨ k = 5 ∨ k = 6 ∨ k = 7) with rfl | rfl | rfl | rfl | rfl | rfl | rfl | rfl <;> rfl)
    · rw [s5_lo (by decide)]
      exact (hG.2.1.2.2.1 10 (by decide) (by decide) (by decide)).trans rfl
    · have e := hG.2.1.2.2.2.2.2 k h1 h2
      unfold newS
      rw [if_neg (by omega), if_neg (by omega), if_neg (by omega), if_pos (by omega), e]
      rfl
end LTS

/-! writing an image, in numbers -/
def itK (f : Nat → opT) : Nat → opT
  | 0 => fId
  | k + 1 => sq (itK f k) (f k)
theorem itK_s {f : Nat → opT} {k : Nat} {σ σ1 : sT} (h : itK f k σ = (true, σ1)) : itK f (k + 1) σ = f k σ1 := sq_e h
theorem itK_stop {f : Nat → opT} {k : Nat} {σ σ1 : sT} (h : itK f k σ = (false, σ1)) : ∀ {n : Nat}, k ≤ n → itK f n σ = (false, σ1)
  | 0, hn => by
    obtain rfl : k = 0 := by omega
    exact h
  | n + 1, hn => by
    by_cases e : k = n + 1
    · subst e; exact h
    · exact sq_n (itK_stop h (n := n) (by omega))
theorem itK_P {f : Nat → opT} {P : sT → Prop} {σ : sT} (h0 : P σ) : ∀ {n : Nat}, (∀ k, k < n → ∀ σ, P σ → P (f k σ).2) → P (itK f n σ).2
  | 0, _ => h0
  | n + 1, h => by
    have ih := itK_P h0 (n := n) (fun k hk => h k (by omega))
    show P (sq _ _ σ).2
    unfold sq
    split
    · exact h n (by omega) _ ih
    · exact ih
def anyB (g : Nat → Bool) : Nat → Bool
  | 0 => false
  | k + 1 => anyB g k || g k
def spG (σ : sT) (s p : Nat) (pay : sT) (k : Nat) : Bool := decide ((3 + k) / nP σ = p) && !decide (σ (83 + 64 * s + 3 + k) &&& pay (3 + k) = pay (3 + k))
def spentB (σ : sT) (s p : Nat) (pay : sT) (c : Nat) : Bool := decide (p = 0) || anyB (spG σ s p pay) c
def fPg (s : Nat) (thr : Bool) (pay : sT) (c p : Nat) : opT := fun σ => if (!thr || spentB σ s p pay c) = true then fErP s p σ else (true, σ)
def fPw (s : Nat) (pay : sT) (k : Nat) : opT := fun σ => if σ (83 + 64 * s + 3 + k) = pay (3 + k) then (true, σ) else fWr (83 + 64 * s + 3 + k) (pay (3 + k)) σ
def fHd (s c : Nat) (x v : Int32) : opT := sq (fWr (83 + 64 * s + 1) (nI c)) (sq (fWr (83 + 64 * s + 2) x) (fWr (83 + 64 * s) v))
def fImg (s : Nat) (thr : Bool) (pay : sT) (c : Nat) (v : Int32) : opT := fun σ => sq (itK (fPg s thr pay c) (nW σ / nP σ)) (sq (itK (fPw s pay) c) (fHd s c (sumF pay 0 v c) v)) σ
theorem sErP_ne {σ : sT} {s p k : Nat} (h : k < 83) (h6 : k ≠ 6) (h9 : k ≠ 9) : sErP σ s p k = σ k := sEr_out (by omega) (by omega) h6 h9
theorem fPg_ne {s : Nat} {thr : Bool} {pay : sT} {c p k : Nat} {σ : sT} (h : k < 83) (h6 : k ≠ 6) (h9 : k ≠ 9) : (fPg s thr pay c p σ).2 k = σ k := by
  unfold fPg
  split
  · exact sErP_ne h h6 h9
  · rfl
theorem fPg_t {s : Nat} {pay : sT} {c p : Nat} {σ : sT} : fPg s false pay c p σ = fErP s p σ := if_pos rfl
theorem fPg_y {s : Nat} {pay : sT} {c p : Nat} {σ : sT} (h : spentB σ s p pay c = true) : fPg s true pay c p σ = fErP s p σ := if_pos (by rw [h]; rfl)
theorem fPg_n {s : Nat} {pay : sT} {c p : Nat} {σ : sT} (h : spentB σ s p pay c = false) : fPg s true pay c p σ = (true, σ) := if_neg (by rw [h]; decide)
theorem fErP_e {σ : sT} {s p : Nat} {b : Bool} (h : sHas σ = b) : fErP s p σ = (b, sErP σ s p) := by subst h; rfl
theorem fPw_y {s : Nat} {pay : sT} {k : Nat} {σ : sT} (h : σ (83 + 64 * s + 3 + k) = pay (3 + k)) : fPw s pay k σ = (true, σ) := if_pos h
theorem fPw_n {s : Nat} {pay : sT} {k : Nat} {σ : sT} (h : ¬ σ (83 + 64 * s + 3 + k) = pay (3 + k)) : fPw s pay k σ = fWr (83 + 64 * s + 3 + k) (pay (3 + k)) σ := if_neg h
theorem fPw_ne {s : Nat} {pay : sT} {k j : Nat} {σ : sT} (h : j < 83) (h6 : j ≠ 6) (h9 : j ≠ 9) : (fPw s pay k σ).2 j = σ j := by
  unfold fPw
  split
  · rfl
  · exact sWr_ne (by omega) h6 h9
theorem Inv.pg {s : Nat} {thr : Bool} {pay : sT} {c p : Nat} {σ : sT} (h : Inv σ) (hs : s < 2) (hp : p < nW σ / nP σ) : Inv (fPg s thr pay c p σ).2 := by
  unfold fPg
  split
  · exact h.erp hs hp
  · exact h
theorem Inv.pw {s : Nat} {pay : sT} {k : Nat} {σ : sT} (h : Inv σ) (hs : s < 2) (hk : k < 61) : Inv (fPw s pay k σ).2 := by
  unfold fPw
  split
  · exact h
  · exact h.wr (by omega) (by omega)
theorem Inv.pgs {s : Nat} {thr : Bool} {pay : sT} {c n : Nat} {σ : sT} (h : Inv σ) (hs : s < 2) (hn : n ≤ nW σ / nP σ) : Inv (itK (fPg s thr pay c) n σ).2 := by
  have := itK_P (f := fPg s thr pay c) (P := fun τ => Inv τ ∧ nW τ = nW σ ∧ nP τ = nP σ) (n := n) ⟨h, rfl, rfl⟩ (fun k hk τ ⟨a, b, c⟩ => ⟨a.pg hs (by rw [b, c]; omega), (nW_of (fPg_ne (by decide) (by decide) (by decide))).trans b, (nP_of (fPg_ne (by decide) (by decide) (by decide))).trans c⟩)
  exact this.1
theorem Inv.pws {s : Nat} {pay : sT} {n : Nat} {σ : sT} (h : Inv σ) (hs : s < 2) (hn : n ≤ 61) : Inv (itK (fPw s pay) n σ).2 :=
  itK_P (f := fPw s pay) (P := Inv) h (fun k hk τ a => a.pw hs (by omega))
theorem Inv.hd {s c : Nat} {x v : Int32} {σ : sT} (h : Inv σ) (hs : s < 2) : Inv (fHd s c x v σ).2 := by
  have h1 : Inv (fWr (83 + 64 * s + 1) (nI c) σ).2 := h.wr (by omega) (by omega)
  have h2 : Inv (fWr (83 + 64 * s + 2) x (fWr (83 + 64 * s + 1) (nI c) σ).2).2 := h1.wr (by omega) (by omega)
  unfold fHd sq
  split
  · split
    · exact h2.wr (by omega) (by omega)
    · exact h2
  · exact h1
theorem Inv.img {s : Nat} {thr : Bool} {pay : sT} {c : Nat} {v : Int32} {σ : sT} (h : Inv σ) (hs : s < 2) (hc : c ≤ 61) : Inv (fImg s thr pay c v σ).2 := by
  have h1 := h.pgs (thr := thr) (pay := pay) (c := c) hs (Nat.le_refl _)
  have h2 := h1.pws (pay := pay) hs hc
  unfold fImg sq
  split
  · split
    · exact h2.hd hs
    · exact h2
  · exact h1
theorem Inv.z4 {σ : sT} {k : Nat} (h : Inv σ) (hk : k + 3 ≤ nW σ) : Inv (upd σ 4 (nI k)) := by
  have hb := h.bd
  refine ⟨?_, h.2.1.up (by decide), h.2.2.1, fun j a b => by rw [upd_n (by omega)]; exact h.2.2.2.1 j a b, h.2.2.2.2⟩
  have h1 := h.1
  unfold IvS nW nP nJ nS at h1 ⊢
  rw [upd_n (by decide), upd_n (by decide), upd_n (by decide), upd_s]
  refine ⟨h1.1, h1.2.1, h1.2.2.1, h1.2.2.2.1, h1.2.2.2.2.1, h1.2.2.2.2.2.1, h1.2.2.2.2.2.2.1, h1.2.2.2.2.2.2.2.1, h1.2.2.2.2.2.2.2.2.1, h1.2.2.2.2.2.2.2.2.2.1, ?_, ?_⟩
  · rw [tn_nI (by omega)]
  · rw [tn_nI (by omega)]
    exact hk
/-! updates, in numbers -/
def errU (v : Int32) (σ : sT) : Int32 := if (σ 7 = 1 ∧ told σ 1 = σ 8) ∧ ¬ σ 4 = 0 then (if v < told σ 0 then -5 else 0) else -3
def payS (σ : sT) : sT := fun j => σ (16 + j)
def opU (v : Int32) (thr : Bool) (s : Nat) (σ : sT) : Bool × sT := sq (fImg s thr (payS σ) (nS σ) v) (fApp 3 (nI s)) σ
def endU (σ : sT) (r : Bool × sT) : Int32 × sT := if r.1 = true then (r.2 9 - σ 9, upd r.2 4 0) else (-4, sCut r.2)
def fUpd (v : Int32) (thr : Bool) (σ : sT) : Int32 × sT := if errU v σ = 0 then endU σ (opU v thr (1 - tn (σ 8)) σ) else (errU v σ, σ)
theorem errU_0 {v : Int32} {σ : sT} (h : errU v σ = 0) : σ 7 = 1 ∧ told σ 1 = σ 8 ∧ ¬ σ 4 = 0 ∧ told σ 0 ≤ v := by
  unfold errU at h
  split at h
  · rename_i h1
    split at h
    · exact absurd h (by decide)
    · rename_i h2
      exact ⟨h1.1.1, h1.1.2, h1.2, Int32.not_lt.mp h2⟩
  · exact absurd h (by decide)
theorem IvR.run {σ : sT} (h : IvR σ) (h7 : σ 7 = 1) : ∃ r : Nat, r < 2 ∧ σ 8 = nI r := by
  rcases h with ⟨a, b⟩ | ⟨a, b⟩ | ⟨a, b⟩
  · rw [a] at h7; exact absurd h7 (by decide)
  · rcases b with b | b
    · exact ⟨0, by decide, b⟩
    · exact ⟨1, by decide, b⟩
  · rw [a] at h7; exact absurd h7 (by decide)
theorem IvR.not {σ : sT} (h : IvR σ) (h7 : ¬ σ 7 = 1) : σ 8 = -1 := by
  rcases h with ⟨a, b⟩ | ⟨a, b⟩ | ⟨a, b⟩
  · exact b
  · exact absurd a h7
  · exact b
theorem Kp_0 : Kp 0 := by unfold Kp; omega
theorem img_ne {s : Nat} {thr : Bool} {pay : sT} {c k : Nat} {v : Int32} {σ : sT} (h : k < 83) (h6 : k ≠ 6) (h9 : k ≠ 9) : (fImg s thr pay c v σ).2 k = σ k := by
  have e1 := itK_P (f := fPg s thr pay c) (P := fun τ => τ k = σ k) (n := nW σ / nP σ) rfl (fun _ _ τ a => (fPg_ne h h6 h9).trans a)
  have e2 := itK_P (f := fPw s pay) (P := fun τ => τ k = σ k) (n := c) e1 (fun _ _ τ a => (fPw_ne h h6 h9).trans a)
  have w : ∀ (τ : sT) (j : Nat) (x : Int32), 83 ≤ j → τ k = σ k → (fWr j x τ).2 k = σ k := fun τ j x hj a => (sWr_ne (by omega) h6 h9).trans a
  unfold fImg fHd sq
  split
  · split
    · split
      · split
        · exact w _ _ _ (by omega) (w _ _ _ (by omega) (w _ _ _ (by omega) e2))
        · exact w _ _ _ (by omega) (w _ _ _ (by omega) e2)
      · exact w _ _ _ (by omega) e2
    · exact e2
  · exact e1
theorem sq_P {f g : opT} {P : sT → Prop} {σ : sT} (h1 : P (f σ).2) (h2 : (f σ).1 = true → P (g (f σ).2).2) : P (sq f g σ).2 := by
  unfold sq
  split
  · rename_i h; exact h2 h
  · exact h1
theorem Inv.opu {v : Int32} {thr : Bool} {s : Nat} {σ : sT} (h : Inv σ) (hs : s < 2) : Inv (opU v thr s σ).2 := by
  have hb := h.bd
  exact sq_P (h.img hs (by omega)) (fun _ => (h.img hs (by omega)).app)
theorem nW_opu {v : Int32} {thr : Bool} {s : Nat} {σ : sT} : nW (opU v thr s σ).2 = nW σ :=
  sq_P (P := fun τ => nW τ = nW σ) (nW_of (img_ne (by decide) (by decide) (by decide))) (fun _ => (nW_of (fApp_ne Kp_0)).trans (nW_of (img_ne (by decide) (by decide) (by decide))))
theorem Inv.endu {v : Int32} {thr : Bool} {s : Nat} {σ : sT} (h : Inv σ) (hs : s < 2) : Inv (endU σ (opU v thr s σ)).2 := by
  have hb := h.bd
  unfold endU
  split
  · exact (h.opu hs).z4 (k := 0) (by rw [nW_opu]; omega)
  · exact (h.opu hs).cut
theorem Inv.upda {v : Int32} {thr : Bool} {σ : sT} (h : Inv σ) : Inv (fUpd v thr σ).2 := by
  unfold fUpd
  split
  · exact h.endu (by omega)
  · exact h
/-! the other actions -/
def fMir (σ : sT) : Int32 × sT :=
  if (σ 7 = 1 ∧ told σ 1 = σ 8) ∧ wholeB σ (tn (σ 8)) = true then
    (let r := sq (fImg (1 - tn (σ 8)) false (fun j => σ (83 + 64 * tn (σ 8) + j)) (tn (σ (83 + 64 * tn (σ 8) + 1))) (σ (83 + 64 * tn (σ 8)))) (fApp 2 (σ 8)) σ
     if r.1 = true then (r.2 9 - σ 9, r.2) else (-4, sCut r.2))
  else (-3, σ)
def fMvj (σ : sT) : Int32 × sT := if σ 7 = 0 ∨ activeI σ = -1 then (-3, σ) else if (fMove σ).1 = true then (activeI (fMove σ).2, (fMove σ).2) else (-4, sCut (fMove σ).2)
def opC (v : Int32) (s : Nat) (σ : sT) : Bool × sT := sq (fApp 2 (nI s)) (if told σ 0 < v then fApp 1 v else fId) σ
def fCon (σ : sT) : Int32 × sT :=
  if σ 7 = 1 ∧ told σ 2 = σ 8 then (let r := opC (σ (83 + 64 * tn (σ 8))) (tn (σ 8)) σ
    if r.1 = true then (told r.2 0, r.2) else (-4, sCut r.2)) else (-3, σ)
def fRcv (s : Nat) (v : Int32) (σ : sT) : Int32 × sT :=
  if σ 7 = 2 ∧ ¬ σ 4 = 0 then (if v < told σ 0 then (-5, σ) else
    (let r := sq (fImg s false (payS σ) (nS σ) v) (fApp 2 (nI s)) σ
     if r.1 = true then (r.2 9 - σ 9, upd (upd r.2 4 0) 7 0) else (-4, sCut r.2))) else (-3, σ)

/-! updates, mirrors, confirmations: their ends -/
def goodB (σ : sT) : Bool := decide (σ 7 = 1) && decide (told σ 1 = σ 8)
theorem goodB_t {σ : sT} (h : goodB σ = true) : σ 7 = 1 ∧ told σ 1 = σ 8 := by simpa [goodB] using h
theorem goodB_i {σ : sT} : (σ 7 = 1 ∧ told σ 1 = σ 8) = (goodB σ = true) := by simp [goodB]
theorem endU_f {σ τ : sT} {r : Bool × sT} (h : r = (false, τ)) : endU σ r = (-4, sCut τ) := by subst h; rfl
theorem endU_t {σ τ : sT} {r : Bool × sT} (h : r = (true, τ)) : endU σ r = (τ 9 - σ 9, upd τ 4 0) := by subst h; rfl
theorem fUpd_0 {v : Int32} {thr : Bool} {σ : sT} {r : Nat} (h : errU v σ = 0) (hr : r < 2) (er : σ 8 = nI r) : fUpd v thr σ = endU σ (opU v thr (1 - r) σ) := by
  unfold fUpd
  rw [if_pos h, er, tn_nI (by omega)]
theorem fUpd_e {v : Int32} {thr : Bool} {σ : sT} (h : ¬ errU v σ = 0) : fUpd v thr σ = (errU v σ, σ) := if_neg h
theorem fMir_n {σ : sT} (h : ¬ (goodB σ = true ∧ wholeB σ (tn (σ 8)) = true)) : fMir σ = (-3, σ) := by
  unfold fMir
  rw [if_neg (by rw [goodB_i]; exact h)]
theorem fMir_y {σ : sT} {r : Nat} (h : goodB σ = true) (hr : r < 2) (er : σ 8 = nI r) (hw : wholeB σ r = true) : fMir σ = (let q := sq (fImg (1 - r) false (fun j => σ (83 + 64 * r + j)) (tn (σ (83 + 64 * r + 1))) (σ (83 + 64 * r))) (fApp 2 (nI r)) σ
     if q.1 = true then (q.2 9 - σ 9, q.2) else (-4, sCut q.2)) := by
  unfold fMir
  rw [if_pos ⟨goodB_t h, by rw [er, tn_nI (by omega)]; exact hw⟩, er, tn_nI (by omega)]
theorem let_t {q : Bool × sT} {τ σ : sT} (h : q = (true, τ)) : (if q.1 = true then (q.2 9 - σ 9, q.2) else (-4, sCut q.2)) = (τ 9 - σ 9, τ) := by subst h; rfl
theorem let_f {q : Bool × sT} {τ : sT} {a : Int32 × sT} (h : q = (false, τ)) : (if q.1 = true then a else (-4, sCut q.2)) = (-4, sCut τ) := by subst h; rfl
theorem wholeB_n {σ : sT} {s : Nat} (h : wholeB σ s = true) : toldB σ s = true := by
  simp only [wholeB, Bool.and_eq_true] at h
  exact h.1
theorem fMvj_n {σ : sT} (h : σ 7 = 0 ∨ activeI σ = -1) : fMvj σ = (-3, σ) := if_pos h
theorem fMvj_t {σ τ : sT} {p : Nat} (h7 : ¬ σ 7 = 0) (hp : p < 2) (ha : activeI σ = nI p) (h : fMoveP p σ = (true, τ)) : fMvj σ = (activeI τ, τ) := by
  have e : fMove σ = (true, τ) := by unfold fMove; rw [ha, tn_nI (by omega)]; exact h
  unfold fMvj
  rw [if_neg (fun q => q.elim h7 (by rw [ha]; exact nI_nm1 (by omega))), e]
  rfl
theorem fMvj_f {σ τ : sT} {p : Nat} (h7 : ¬ σ 7 = 0) (hp : p < 2) (ha : activeI σ = nI p) (h : fMoveP p σ = (false, τ)) : fMvj σ = (-4, sCut τ) := by
  have e : fMove σ = (false, τ) := by unfold fMove; rw [ha, tn_nI (by omega)]; exact h
  unfold fMvj
  rw [if_neg (fun q => q.elim h7 (by rw [ha]; exact nI_nm1 (by omega))), e]
  rfl
theorem fCon_n {σ : sT} (h : ¬ (σ 7 = 1 ∧ told σ 2 = σ 8)) : fCon σ = (-3, σ) := if_neg h
theorem fCon_y {σ : sT} {r : Nat} (h : σ 7 = 1 ∧ told σ 2 = σ 8) (hr : r < 2) (er : σ 8 = nI r) : fCon σ = (let q := opC (σ (83 + 64 * r)) r σ
    if q.1 = true then (told q.2 0, q.2) else (-4, sCut q.2)) := by
  unfold fCon
  rw [if_pos h, er, tn_nI (by omega)]
theorem letc_t {q : Bool × sT} {τ : sT} (h : q = (true, τ)) : (if q.1 = true then (told q.2 0, q.2) else (-4, sCut q.2)) = (told τ 0, τ) := by subst h; rfl
theorem Inv.opc {v : Int32} {r : Nat} {σ : sT} (h : Inv σ) : Inv (opC v r σ).2 := by
  unfold opC
  refine sq_P h.app (fun _ => ?_)
  split
  · exact h.app.app
  · exact h.app
theorem Inv.con {σ : sT} (h : Inv σ) : Inv (fCon σ).2 := by
  unfold fCon
  split
  · dsimp only
    split
    · exact h.opc
    · exact h.opc.cut
  · exact h
theorem Inv.mir {σ : sT} (h : Inv σ) : Inv (fMir σ).2 := by
  have hb := h.bd
  unfold fMir
  split
  · rename_i h1
    obtain ⟨r, hr, er⟩ := h.2.2.1.run h1.1.1
    have h2 := h1.2
    rw [er, tn_nI (by omega)] at h2 ⊢
    have hn := toldB_n hb.2.1 (wholeB_n h2)
    have h3 : Inv (sq (fImg (1 - r) false (fun j => σ (83 + 64 * r + j)) (tn (σ (83 + 64 * r + 1))) (σ (83 + 64 * r))) (fApp 2 (nI r)) σ).2 := sq_P (h.img (by omega) (by omega)) (fun _ => (h.img (by omega) (by omega)).app)
    dsimp only
    split
    · exact h3
    · exact h3.cut
  · exact h
theorem Inv.mvj {σ : sT} (h : Inv σ) : Inv (fMvj σ).2 := by
  unfold fMvj
  split
  · exact h
  · split
    · exact h.mvp (act_lt σ)
    · exact (h.mvp (act_lt σ)).cut
theorem Inv.rcv {s : Nat} {v : Int32} {σ : sT} (h : Inv σ) (hs : s < 2) : Inv (fRcv s v σ).2 := by
  have hb := h.bd
  unfold fRcv
  split
  · rename_i h1
    split
    · exact h
    · have h3 : Inv (sq (fImg s false (payS σ) (nS σ) v) (fApp 2 (nI s)) σ).2 := sq_P (h.img hs (by omega)) (fun _ => (h.img hs (by omega)).app)
      have e8 : (sq (fImg s false (payS σ) (nS σ) v) (fApp 2 (nI s)) σ).2 8 = σ 8 := sq_P (P := fun τ => τ 8 = σ 8) (img_ne (by decide) (by decide) (by decide)) (fun _ => (fApp_ne Kp_8).trans (img_ne (by decide) (by decide) (by decide)))
      have e0 : nW (sq (fImg s false (payS σ) (nS σ) v) (fApp 2 (nI s)) σ).2 = nW σ := sq_P (P := fun τ => nW τ = nW σ) (nW_of (img_ne (by decide) (by decide) (by decide))) (fun _ => (nW_of (fApp_ne Kp_0)).trans (nW_of (img_ne (by decide) (by decide) (by decide))))
      dsimp only
      split
      · have h4 := h3.z4 (k := 0) (by rw [e0]; omega)
        have e8' : σ 8 = -1 := h.2.2.1.not (by rw [h1.1]; decide)
        refine h4.ch rfl rfl rfl rfl rfl rfl h4.2.2.2.2.2.1 (Or.inl ⟨rfl, ?_⟩) (h4.2.1.up (by decide)) (fun j h2 h3 => by
          show wd (upd _ 7 0 j)
          rw [upd_n (by omega)]; exact h4.2.2.2.1 j h2 h3)
        exact e8.trans e8'
      · exact h3.cut
  · exact h
theorem fRcv_n {s : Nat} {v : Int32} {σ : sT} (h : ¬ (σ 7 = 2 ∧ ¬ σ 4 = 0)) : fRcv s v σ = (-3, σ) := if_neg h
theorem fRcv_o {s : Nat} {v : Int32} {σ : sT} (h : σ 7 = 2 ∧ ¬ σ 4 = 0) (h2 : v < told σ 0) : fRcv s v σ = (-5, σ) := by
  unfold fRcv
  rw [if_pos h, if_pos h2]
theorem fRcv_y {s : Nat} {v : Int32} {σ : sT} (h : σ 7 = 2 ∧ ¬ σ 4 = 0) (h2 : ¬ v < told σ 0) : fRcv s v σ = (let r := sq (fImg s false (payS σ) (nS σ) v) (fApp 2 (nI s)) σ
     if r.1 = true then (r.2 9 - σ 9, upd (upd r.2 4 0) 7 0) else (-4, sCut r.2)) := by
  unfold fRcv
  rw [if_pos h, if_neg h2]
theorem letr_t {q : Bool × sT} {τ σ : sT} (h : q = (true, τ)) : (if q.1 = true then (q.2 9 - σ 9, upd (upd q.2 4 0) 7 0) else (-4, sCut q.2)) = (τ 9 - σ 9, upd (upd τ 4 0) 7 0) := by subst h; rfl

/-! POWER: records, images, updates -/
theorem pi_app {σ : sT} {k : Nat} {v : Int32} : PI 13 (fApp k v) σ := pi_sq (f := fPrep) (B1 := 2) (B2 := 11) pi_prep (fun _ => pi_sq (f := fFull) (B1 := 10) (B2 := 1) pi_full (fun _ => pi_put))
theorem nW_6 {σ : sT} {x : Int32} : nW (upd σ 6 x) = nW σ := by unfold nW; rw [upd_n (by decide)]
theorem nP_6 {σ : sT} {x : Int32} : nP (upd σ 6 x) = nP σ := by unfold nP; rw [upd_n (by decide)]
theorem nS_6 {σ : sT} {x : Int32} : nS (upd σ 6 x) = nS σ := by unfold nS; rw [upd_n (by decide)]
theorem worn_6 {σ : sT} {s p : Nat} {x : Int32} : wornB (upd σ 6 x) s p = wornB σ s p := by unfold wornB; rw [upd_n (by decide), upd_n (by omega)]
theorem pi_erp {σ : sT} {s p : Nat} : PI 1 (fErP s p) σ := by
  refine pi_dep (G := fun τ => (sHas τ, sEr τ (83 + 64 * s + nP σ * p) (nP σ) (275 + 16 * s + p) (if wornB σ s p = true then 65534 else 65535))) rfl (fun x => ?_) (pi_er (by omega) (by omega))
  show (sHas (upd σ 6 x), sEr (upd σ 6 x) (83 + 64 * s + nP (upd σ 6 x) * p) (nP (upd σ 6 x)) (275 + 16 * s + p) (if wornB (upd σ 6 x) s p = true then 65534 else 65535)) = _
  rw [nP_6, worn_6]
theorem any_c {f g : Nat → Bool} : ∀ {n : Nat}, (∀ k, k < n → f k = g k) → anyB f n = anyB g n
  | 0, _ => rfl
  | n + 1, h => by
    unfold anyB
    rw [any_c (fun k hk => h k (by omega)), h n (by omega)]
theorem spent_6 {σ : sT} {s p c : Nat} {pay : sT} {x : Int32} : spentB (upd σ 6 x) s p pay c = spentB σ s p pay c := by
  unfold spentB
  rw [any_c (g := spG σ s p pay) (fun k _ => by unfold spG; rw [nP_6, upd_n (by omega)])]
theorem pi_pg {σ : sT} {s p c : Nat} {thr : Bool} {pay : sT} : PI 1 (fPg s thr pay c p) σ := by
  by_cases h : (!thr || spentB σ s p pay c) = true
  · exact pi_dep (G := fErP s p) (if_pos h) (fun x => if_pos (by rw [spent_6]; exact h)) pi_erp
  · exact pi_mo (pi_dep (G := fId) (if_neg h) (fun x => if_neg (by rw [spent_6]; exact h)) pi_id) (by decide)
theorem pi_pw {σ : sT} {s k : Nat} {pay : sT} : PI 1 (fPw s pay k) σ := by
  by_cases h : σ (83 + 64 * s + 3 + k) = pay (3 + k)
  · exact pi_mo (pi_dep (G := fId) (if_pos h) (fun x => if_pos (by rw [upd_n (by omega)]; exact h)) pi_id) (by decide)
  · exact pi_dep (G := fWr (83 + 64 * s + 3 + k) (pay (3 + k))) (if_neg h) (fun x => if_neg (by rw [upd_n (by omega)]; exact h)) (pi_wr (by omega) (by omega))
theorem pi_hd {σ : sT} {s c : Nat} {x v : Int32} : PI 3 (fHd s c x v) σ := pi_sq (f := fWr _ _) (B1 := 1) (B2 := 2) (pi_wr (by omega) (by omega)) (fun _ => pi_sq (f := fWr _ _) (B1 := 1) (B2 := 1) (pi_wr (by omega) (by omega)) (fun _ => pi_wr (by omega) (by omega)))
theorem pi_img {σ : sT} {s c : Nat} {thr : Bool} {pay : sT} {v : Int32} (h : Inv σ) (hc : c ≤ 61) : PI 80 (fImg s thr pay c v) σ := by
  have h16 := pgN_16 h 0
  rw [pgN_n (by decide)] at h16
  refine pi_dep (G := sq (itK (fPg s thr pay c) (nW σ / nP σ)) (sq (itK (fPw s pay) c) (fHd s c (sumF pay 0 v c) v))) rfl (fun x => ?_) ?_
  · show sq (itK _ (nW (upd σ 6 x) / nP (upd σ 6 x))) _ _ = _
    rw [nW_6, nP_6]
  · exact pi_mo (pi_sq (pi_it (B := 1) (fun k _ τ => pi_pg)) (fun _ => pi_sq (pi_it (B := 1) (fun k _ τ => pi_pw)) (fun _ => pi_hd))) (by omega)
theorem pay_6 {σ : sT} {x : Int32} : payS (upd σ 6 x) = payS σ := funext fun j => upd_n (by omega)
theorem pi_opu {σ : sT} {s : Nat} {thr : Bool} {v : Int32} (h : Inv σ) : PI 93 (opU v thr s) σ := by
  have hb := h.bd
  refine pi_dep (G := sq (fImg s thr (payS σ) (nS σ) v) (fApp 3 (nI s))) rfl (fun x => ?_) (pi_sq (B1 := 80) (B2 := 13) (pi_img h (by omega)) (fun _ => pi_app))
  show sq (fImg s thr (payS (upd σ 6 x)) (nS (upd σ 6 x)) v) _ _ = _
  rw [pay_6, nS_6]
/-- what an update takes, and which cuts it feels -/
theorem upd_cut {v : Int32} {thr : Bool} {σ : sT} (h : Inv σ) (he : errU v σ = 0) : ∃ c, 0 < c ∧ c ≤ 93 ∧ (fUpd v thr (upd σ 6 (-1))).1 = nI c ∧ (fUpd v thr (upd σ 6 (-1))).2 9 = σ 9 + nI c ∧ (fUpd v thr (upd σ 6 (-1))).2 4 = 0 ∧ ∀ k, k < 2 ^ 31 → (c ≤ k → (fUpd v thr (upd σ 6 (nI k))).1 = nI c) ∧ (k < c → (fUpd v thr (upd σ 6 (nI k))).1 = -4) := by
  have hI := h.pm
  have e8 : ∀ x, (upd σ 6 x) 8 = σ 8 := fun x => upd_n (by decide)
  have e9 : ∀ x, (upd σ 6 x) 9 = σ 9 := fun x => upd_n (by decide)
  have eU : ∀ x, fUpd v thr (upd σ 6 x) = endU (upd σ 6 x) (opU v thr (1 - tn (σ 8)) (upd σ 6 x)) := fun x => by
    rw [← e8 x]
    exact if_pos (errU_6.trans he)
  obtain ⟨c, a1, a2, a3, a4, a5⟩ := pi_opu (s := 1 - tn (σ 8)) (thr := thr) (v := v) hI upd_s
  obtain ⟨c', b1, b2, b3, _⟩ := op_opu (v := v) (thr := thr) (s := 1 - tn (σ 8)) hI
  have hc : c = c' := by
    have q : σ 9 + nI c = σ 9 + nI c' := by rw [← e9 (-1), ← a4, b3]
    have q2 : nI c = nI c' := by
      have := congrArg (fun z => z - σ 9) q
      simp only [Int32.add_comm (σ 9), Int32.add_sub_cancel] at this
      exact this
    exact (nI_eq (by omega) (by omega)).mp q2
  subst hc
  have eV : (fUpd v thr (upd σ 6 (-1))).2 = upd (opU v thr (1 - tn (σ 8)) (upd σ 6 (-1))).2 4 0 := by rw [eU, endU_t (pr_e a2)]
  refine ⟨c, by have := b2 a2; omega, a1, ?_, ?_, ?_, fun k hk => ⟨fun q => ?_, fun q => ?_⟩⟩
  · rw [eU, endU_t (pr_e a2)]
    exact cnt_sub a4
  · rw [eV, upd_n (by decide), a4, e9]
  · rw [eV]
    exact upd_s
  · have q1 := (a5 k hk).1 q
    rw [upd_u] at q1
    rw [eU, q1]
    show (upd (opU v thr (1 - tn (σ 8)) (upd σ 6 (-1))).2 6 (nI (k - c)) 9 - (upd σ 6 (nI k)) 9) = nI c
    rw [upd_n (by decide), e9]
    exact cnt_sub (a4.trans (by rw [e9]))
  · have q1 := (a5 k hk).2 q
    rw [upd_u] at q1
    rw [eU, endU_f (pr_e q1)]

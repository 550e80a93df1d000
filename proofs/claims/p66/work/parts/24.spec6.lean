/-! moving the journal: what holds between the records -/
def MV (m p : Nat) (σ : sT) (I : mI) (pre : List Int32) (Iz : mI) (σ1 : sT) : Prop :=
  RelW (Iz (m + 1)) σ1 ∧ Inv σ1 ∧ Iz m 23 = 0 ∧ (∀ j, j < 5 → Iz m (18 + j) = told σ j) ∧ Iz m 24 = nI (211 + 32 * (1 - p) + 1 + pre.length) ∧ fWl (211 + 32 * (1 - p) + 1) pre (sErJ σ (1 - p)) = (true, σ1) ∧ FF m [1] [18, 19, 20, 21, 22, 23, 24] I Iz
theorem mv_len {τ : sT} {pre rest : List Int32} (h : recs τ = pre ++ rest) : pre.length + rest.length ≤ 8 := by
  have := recs_len τ
  rw [h, List.length_append] at this
  exact this
theorem fWl_one (b : Nat) (w : Int32) (σ : sT) : fWl b [w] σ = (sHas σ, sWr σ b w) := by
  show sq (fWr b w) fId σ = _
  unfold sq
  by_cases h : sHas σ = true
  · rw [if_pos (show (fWr b w σ).1 = true from h), h]
    rfl
  · rw [if_neg (show ¬ (fWr b w σ).1 = true from h)]
    rfl
theorem MV.step {m p : Nat} {σ σ1 : sT} {I Iz I' : mI} {pre : List Int32} {w : Int32} (h : MV m p σ I pre Iz σ1) (hp : p < 2) (hl : pre.length < 8) (ok : sHas σ1 = true)
    (hR : RelW (I' (m + 1)) (sWr σ1 (211 + 32 * (1 - p) + 1 + pre.length) w)) (hF : FF m [1] [23, 24] Iz I') (hC : I' m 23 = 0) (hQ : I' m 24 = nI (211 + 32 * (1 - p) + 1 + pre.length + 1)) :
    MV m p σ I (pre ++ [w]) I' (sWr σ1 (211 + 32 * (1 - p) + 1 + pre.length) w) := by
  obtain ⟨a1, a2, a3, a4, a5, a6, a7⟩ := h
  refine ⟨hR, a2.wr (by omega) (by omega), hC, fun j hj => ?_, ?_, ?_, a7.tr (hF.mo (by decide) (by decide))⟩
  · rw [hF.2 (18 + j) (by simp; omega)]; exact a4 j hj
  · rw [hQ, List.length_append]; rfl
  · rw [fWl_app σ, sq_t (by rw [a6]), a6, fWl_one, ok]
theorem MV.stop {m p : Nat} {σ σ1 : sT} {I Iz : mI} {pre rest : List Int32} {w : Int32} (h : MV m p σ I pre Iz σ1) (hs : sHas σ = true) (hr : recs (told σ) = pre ++ w :: rest) (ok : sHas σ1 = false) :
    fMoveP p σ = (false, sWr σ1 (211 + 32 * (1 - p) + 1 + pre.length) w) := by
  have e : fWl (211 + 32 * (1 - p) + 1) (recs (told σ)) (sErJ σ (1 - p)) = (false, sWr σ1 (211 + 32 * (1 - p) + 1 + pre.length) w) := by
    rw [hr, fWl_app σ, sq_t (by rw [h.2.2.2.2.2.1]), h.2.2.2.2.2.1]
    have e1 : (fWr (211 + 32 * (1 - p) + 1 + pre.length) w σ1).1 = false := ok
    show fWl _ (w :: rest) σ1 = _
    rw [fWl, sq_f e1]
    exact Prod.ext ok rfl
  unfold fMoveP
  rw [sq_t (show (fErJ (1 - p) σ).1 = true from hs)]
  show sq (fWl _ _) _ (sErJ σ (1 - p)) = _
  rw [sq_f (by rw [e]), e]
theorem MV.done {m p : Nat} {σ σ1 : sT} {I Iz : mI} {pre : List Int32} (h : MV m p σ I pre Iz σ1) (hs : sHas σ = true) (hr : recs (told σ) = pre) :
    fMoveP p σ = sq (fWr (211 + 32 * (1 - p)) (wordI 6 ((genI σ p + 1) % 256))) (fNote 5 (nI (1 - p))) σ1 := by
  unfold fMoveP
  rw [sq_t (show (fErJ (1 - p) σ).1 = true from hs)]
  show sq (fWl _ _) _ (sErJ σ (1 - p)) = _
  rw [hr, sq_t (by rw [h.2.2.2.2.2.1]), h.2.2.2.2.2.1]
def rcS (τ : sT) : Nat → List Int32
  | 0 => rc3 τ 0 ++ (rc3 τ 1 ++ rc4 τ)
  | 1 => rc3 τ 1 ++ rc4 τ
  | _ => rc4 τ
theorem rcS_s {τ : sT} {s : Nat} (h : s < 2) : rcS τ s = rc3 τ s ++ rcS τ (s + 1) := by
  match s, h with
  | 0, _ => rfl
  | 1, _ => rfl
theorem tellK_3 {σ : sT} {p : Nat} : ∀ {k : Nat}, k < 1000 → ∃ t, t ≤ k ∧ tellK σ p k 3 = nI t
  | 0, _ => ⟨0, Nat.le_refl 0, by simp [tellK, tau0]; rfl⟩
  | k + 1, hk => by
    obtain ⟨t, ht, e⟩ := tellK_3 (σ := σ) (p := p) (k := k) (by omega)
    unfold tellK
    split
    · rename_i hr
      rcases recB_k hr with h | h | h | h | h <;> rw [h]
      · exact ⟨t, by omega, by simp [takeI, upd, e]⟩
      · by_cases h2 : tellK σ p k 2 = valI (σ (211 + 32 * p + k))
        · exact ⟨0, Nat.zero_le _, by simp [takeI, h2]; rfl⟩
        · exact ⟨t, by omega, by simp [takeI, h2, e]⟩
      · exact ⟨0, Nat.zero_le _, by simp [takeI]; rfl⟩
      · by_cases h2 : tellK σ p k 2 = valI (σ (211 + 32 * p + k))
        · exact ⟨t + 1, by omega, by simp [takeI, upd, h2, e]; exact nI_add t 1⟩
        · exact ⟨t, by omega, by simp [takeI, upd, h2, e]⟩
      · by_cases h2 : tellK σ p k 2 = valI (σ (211 + 32 * p + k))
        · exact ⟨0, Nat.zero_le _, by simp [takeI, h2]; rfl⟩
        · exact ⟨t, by omega, by simp [takeI, h2, e]⟩
    · exact ⟨t, by omega, e⟩
theorem told_3 {σ : sT} (h : nJ σ ≤ 32) : ∃ t, t ≤ 32 ∧ told σ 3 = nI t := by
  unfold told
  split
  · exact ⟨0, Nat.zero_le _, by simp [tau0]; rfl⟩
  · obtain ⟨t, ht, e⟩ := tellK_3 (σ := σ) (p := tn (activeI σ)) (k := nJ σ) (by omega)
    exact ⟨t, by omega, e⟩
theorem min_tr {τ : sT} (h : ∃ t, t ≤ 32 ∧ τ 3 = nI t) : (if τ 3 < 3 then τ 3 else 3) = nI (trN τ) := by
  obtain ⟨t, ht, e⟩ := h
  unfold trN
  rw [e, tn_nI (by omega)]
  have h3 : (3 : Int32) = nI 3 := rfl
  rw [h3]
  by_cases h : t < 3
  · rw [if_pos ((nI_ltI (by omega) (by decide)).mpr h), Nat.min_eq_right (by omega)]
  · rw [if_neg (fun q => h ((nI_ltI (by omega) (by decide)).mp q)), Nat.min_eq_left (by omega)]
/-! appending a record -/
def Kp (k : Nat) : Prop := k ≠ 6 ∧ k ≠ 9 ∧ (k < 10 ∨ 19 ≤ k) ∧ k < 211
theorem Kp.a {k : Nat} (h : Kp k) : k ≠ 6 ∧ k ≠ 9 ∧ k ≠ 10 ∧ k < 211 ∧ (∀ e, e < 8 → k ≠ 11 + e) := by
  obtain ⟨h1, h2, h3, h4⟩ := h
  exact ⟨h1, h2, by omega, h4, fun e he => by omega⟩
theorem fNote_ne {e k : Nat} {x : Int32} {σ : sT} (h : Kp k) (he : e < 8) : (fNote e x σ).2 k = σ k := sNote_ne (by have := h.a; omega) h.a.2.2.1 (h.a.2.2.2.2 e he)
theorem fFormat_ne {k : Nat} {σ : sT} (h : Kp k) : (fFormat σ).2 k = σ k := by
  obtain ⟨h1, h2, h3, h4, h5⟩ := h.a
  unfold fFormat sq
  split
  · split
    · rw [fNote_ne h (by decide)]
      show sWr (sErJ σ 0) _ _ _ = _
      rw [sWr_ne (by omega) h1 h2, sErJ_ne h4 h1 h2]
    · show sWr (sErJ σ 0) _ _ _ = _
      rw [sWr_ne (by omega) h1 h2, sErJ_ne h4 h1 h2]
  · exact sErJ_ne h4 h1 h2
theorem fMoveP_ne {k p : Nat} {σ : sT} (h : Kp k) : (fMoveP p σ).2 k = σ k := by
  obtain ⟨h1, h2, h3, h4, h5⟩ := h.a
  have e1 : (fErJ (1 - p) σ).2 k = σ k := sErJ_ne h4 h1 h2
  have e2 : (fWl (211 + 32 * (1 - p) + 1) (recs (told σ)) (fErJ (1 - p) σ).2).2 k = σ k := by rw [fWl_ne h1 h2 (by omega), e1]
  have e3 : ∀ v, (fWr (211 + 32 * (1 - p)) v (fWl (211 + 32 * (1 - p) + 1) (recs (told σ)) (fErJ (1 - p) σ).2).2).2 k = σ k := fun v => by
    show sWr _ _ _ _ = _
    rw [sWr_ne (by omega) h1 h2, e2]
  unfold fMoveP sq
  split
  · split
    · split
      · rw [fNote_ne h (by decide), e3]
      · exact e3 _
    · exact e2
  · exact e1
theorem fRec_ne {k j : Nat} {v : Int32} {σ : sT} (h : Kp j) : (fRec k v σ).2 j = σ j := by
  unfold fRec
  split
  · exact fNote_ne h (by decide)
  · split
    · exact fNote_ne h (by decide)
    · split
      · exact fNote_ne h (by decide)
      · rfl
theorem fRec_1 {k : Nat} {v : Int32} {σ : sT} : (fRec k v σ).1 = true := by
  unfold fRec
  repeat' split
  all_goals rfl
theorem Inv.rec {k : Nat} {v : Int32} {σ : sT} (h : Inv σ) : Inv (fRec k v σ).2 := by
  unfold fRec
  split
  · exact h.note (by decide)
  · split
    · exact h.note (by decide)
    · split
      · exact h.note (by decide)
      · exact h
theorem act_lt (σ : sT) : tn (activeI σ) < 2 := by
  unfold activeI
  split <;> (try split) <;> (try split) <;> decide
theorem fPut_ne {k j : Nat} {v : Int32} {σ : sT} (h : Kp j) : (fPut k v σ).2 j = σ j := by
  obtain ⟨h1, h2, h3, h4, h5⟩ := h.a
  have e1 : (fWr (211 + 32 * tn (activeI σ) + ffree σ (tn (activeI σ)) (nJ σ)) (wordI (nI k) v) σ).2 j = σ j := sWr_ne (by omega) h1 h2
  unfold fPut sq
  split
  · rw [fRec_ne h, e1]
  · exact e1
theorem fPrep_ne {j : Nat} {σ : sT} (h : Kp j) : (fPrep σ).2 j = σ j := by
  unfold fPrep
  split
  · exact fFormat_ne h
  · rfl
theorem fFull_ne {j : Nat} {σ : sT} (h : Kp j) : (fFull σ).2 j = σ j := by
  unfold fFull
  split
  · exact fMoveP_ne h
  · rfl
theorem fApp_ne {k j : Nat} {v : Int32} {σ : sT} (h : Kp j) : (fApp k v σ).2 j = σ j := by
  unfold fApp
  simp only [sq]
  split
  · split
    · rw [fPut_ne h, fFull_ne h, fPrep_ne h]
    · rw [fFull_ne h, fPrep_ne h]
  · exact fPrep_ne h
theorem Kp_2 : Kp 2 := by unfold Kp; omega
theorem nJ_prep {σ : sT} : nJ (fPrep σ).2 = nJ σ := nJ_of (fPrep_ne Kp_2)
theorem nJ_full {σ : sT} : nJ (fFull σ).2 = nJ σ := nJ_of (fFull_ne Kp_2)
theorem nJ_mvp {p : Nat} {σ : sT} : nJ (fMoveP p σ).2 = nJ σ := nJ_of (fMoveP_ne Kp_2)
theorem Inv.prep {σ : sT} (h : Inv σ) : Inv (fPrep σ).2 := by
  unfold fPrep
  split
  · exact h.fmt
  · exact h
theorem prep_act {σ : sT} (h : Inv σ) (ok : (fPrep σ).1 = true) : ¬ activeI (fPrep σ).2 = -1 := by
  unfold fPrep at ok ⊢
  split
  · rename_i h1
    rw [if_pos h1] at ok
    exact act_head (Or.inl (fmt_head h ok))
  · rename_i h1
    exact h1
theorem act_tn {σ : sT} (h : ¬ activeI σ = -1) : activeI σ = nI (tn (activeI σ)) := by
  obtain ⟨p, hp, e⟩ := act_n rfl h
  rw [e, tn_nI (by omega)]
theorem Inv.full {σ : sT} (h : Inv σ) : Inv (fFull σ).2 := by
  unfold fFull
  split
  · exact h.mvp (act_lt σ)
  · exact h
theorem full_act {σ : sT} (h : Inv σ) (ha : ¬ activeI σ = -1) (ok : (fFull σ).1 = true) : ¬ activeI (fFull σ).2 = -1 ∧ ffree (fFull σ).2 (tn (activeI (fFull σ).2)) (nJ σ) < nJ σ := by
  have hb := h.bd
  unfold fFull at ok ⊢
  split
  · rename_i h1
    rw [if_pos h1] at ok
    obtain ⟨a1, a2⟩ := move_end h (act_lt σ) (act_tn ha) ok
    show ¬ activeI (fMoveP _ σ).2 = -1 ∧ ffree (fMoveP _ σ).2 (tn (activeI (fMoveP _ σ).2)) _ < _
    rw [a1, tn_nI (by omega)]
    exact ⟨nI_nm1 (by omega), by omega⟩
  · rename_i h1
    have := ffree_le σ (tn (activeI σ)) (nJ σ)
    exact ⟨ha, by show ffree σ (tn (activeI σ)) (nJ σ) < nJ σ; omega⟩
theorem Inv.put {k : Nat} {v : Int32} {σ : sT} (h : Inv σ) (hf : ffree σ (tn (activeI σ)) (nJ σ) < nJ σ) : Inv (fPut k v σ).2 := by
  have hb := h.bd
  have := act_lt σ
  have h1 : Inv (fWr (211 + 32 * tn (activeI σ) + ffree σ (tn (activeI σ)) (nJ σ)) (wordI (nI k) v) σ).2 := h.wr (by omega) (by omega)
  unfold fPut sq
  split
  · exact h1.rec
  · exact h1
theorem Inv.app {k : Nat} {v : Int32} {σ : sT} (h : Inv σ) : Inv (fApp k v σ).2 := by
  unfold fApp
  simp only [sq]
  split
  · rename_i h1
    split
    · rename_i h2
      have := full_act h.prep (prep_act h h1) h2
      exact h.prep.full.put (by rw [nJ_full]; exact this.2)
    · exact h.prep.full
  · exact h.prep
theorem fPrep_t {σ : sT} (h : activeI σ = -1) : fPrep σ = fFormat σ := if_pos h
theorem fPrep_f {σ : sT} (h : ¬ activeI σ = -1) : fPrep σ = (true, σ) := if_neg h
theorem fFull_t {σ : sT} {p : Nat} (hp : p < 2) (h : activeI σ = nI p) (h2 : ffree σ p (nJ σ) = nJ σ) : fFull σ = fMoveP p σ := by
  unfold fFull fMove
  rw [h, tn_nI (by omega), if_pos h2]
theorem fFull_f {σ : sT} {p : Nat} (hp : p < 2) (h : activeI σ = nI p) (h2 : ¬ ffree σ p (nJ σ) = nJ σ) : fFull σ = (true, σ) := by
  unfold fFull fMove
  rw [h, tn_nI (by omega), if_neg h2]
theorem fPut_p {σ : sT} {p k : Nat} {v : Int32} (hp : p < 2) (h : activeI σ = nI p) : fPut k v σ = sq (fWr (211 + 32 * p + ffree σ p (nJ σ)) (wordI (nI k) v)) (fRec k v) σ := by
  unfold fPut
  rw [h, tn_nI (by omega)]
theorem sq_e {f g : opT} {σ σ1 : sT} (h : f σ = (true, σ1)) : sq f g σ = g σ1 := by rw [sq_t (by rw [h]), h]
theorem sq_n {f g : opT} {σ σ1 : sT} (h : f σ = (false, σ1)) : sq f g σ = (false, σ1) := by rw [sq_f (by rw [h]), h]

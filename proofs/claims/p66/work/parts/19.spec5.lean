theorem pk_m1' (q : Nat) : nI (q + 1) - 1 = nI q := nI_pred q
theorem nI_nm1 {p : Nat} (h : p < 2 ^ 31) : ¬ nI p = -1 := by
  intro e
  have h1 := nI_toInt h
  rw [e] at h1
  have h2 : (-1 : Int32).toInt = -1 := by decide
  omega
theorem and_ff {x : Int32} (h : wd x) : (65535 : Int32) &&& x = x := by
  obtain ⟨a, ha, rfl⟩ := h
  rw [Int32.and_comm]
  exact (pk_andN (n := a) (by omega) 16 (by decide)).trans (by rw [Nat.mod_eq_of_lt ha])
set_option maxRecDepth 100000 in
theorem head_w : ∀ g, g < 256 → rightI (wordI 6 (nI g)) = true ∧ kindI (wordI 6 (nI g)) = 6 ∧ valI (wordI 6 (nI g)) = nI g ∧ tn (wordI 6 (nI g)) < 65536 ∧ wordI 6 (nI g) = nI (tn (wordI 6 (nI g))) := by decide +kernel
set_option maxRecDepth 100000 in
theorem gen_up : ∀ g, g < 256 → (nI g + 1) % 256 = nI ((g + 1) % 256) ∧ inI ((nI ((g + 1) % 256) - nI g + 256) % 256) 1 127 = true ∧ inI ((nI g - nI ((g + 1) % 256) + 256) % 256) 1 127 = false := by decide +kernel
theorem n_div {a d : Nat} (ha : a < 2 ^ 31) (h0 : 0 < d) (hd : d < 2 ^ 31) : nI a / nI d = nI (a / d) := pk_div ha h0 hd
theorem n_mod {a d : Nat} (ha : a < 2 ^ 31) (h0 : 0 < d) (hd : d < 2 ^ 31) : nI a % nI d = nI (a % d) := by
  rw [← pk_rem ha h0 hd]
  exact (irem_eq_mod _ _).symm
theorem val_n {a : Nat} (h : a < 65536) : valI (nI a) = nI (a / 16 % 256) := by
  unfold valI
  rw [show (16 : Int32) = nI 16 from rfl, show (256 : Int32) = nI 256 from rfl, n_div (by omega) (by decide) (by decide), n_mod (by omega) (by decide) (by decide)]
theorem kind_n {a : Nat} (h : a < 65536) : kindI (nI a) = nI (a / 4096) := by
  unfold kindI
  rw [show (4096 : Int32) = nI 4096 from rfl, n_div (by omega) (by decide) (by decide)]
theorem wd_head {g : Nat} (h : g < 256) : wd (wordI 6 (nI g)) := ⟨_, (head_w g h).2.2.2.1, (head_w g h).2.2.2.2⟩
theorem sFill_in {σ : sT} {a c k : Nat} {v : Int32} (h1 : a ≤ k) (h2 : k < a + c) : sFill σ a c v k = v := if_pos ⟨h1, h2⟩
theorem sFill_out {σ : sT} {a c k : Nat} {v : Int32} (h : k < a ∨ a + c ≤ k) : sFill σ a c v k = σ k := if_neg (by omega)
theorem sErJ_in {σ : sT} {p k : Nat} (h : sHas σ = true) (hJ : nJ σ ≤ 32) (hp : p < 2) (hk : k < nJ σ) : sErJ σ p (211 + 32 * p + k) = 65535 := by
  unfold sErJ sEr
  rw [upd_n (by omega), if_pos h, sFill_in (by omega) (by omega)]
theorem sEr_out {σ : sT} {a c r k : Nat} {v : Int32} (h : k < a ∨ a + c ≤ k) (hr : k ≠ r) (h6 : k ≠ 6) (h9 : k ≠ 9) : sEr σ a c r v k = σ k := by
  unfold sEr
  rw [upd_n hr, sFill_out (by split <;> omega), sTake_ne h6 h9]
theorem sErJ_out {σ : sT} {p k : Nat} (h : k < 211 + 32 * p ∨ 211 + 32 * p + nJ σ ≤ k) (hr : k < 275) (hp : p < 2) (h6 : k ≠ 6) (h9 : k ≠ 9) : sErJ σ p k = σ k := sEr_out h (by omega) h6 h9
theorem sWr_at {σ : sT} {k : Nat} {v : Int32} (h : sHas σ = true) : sWr σ k v k = σ k &&& v := by
  unfold sWr
  rw [upd_s, h]
  rfl
theorem sWr_ne {σ : sT} {k j : Nat} {v : Int32} (h : j ≠ k) (h6 : j ≠ 6) (h9 : j ≠ 9) : sWr σ k v j = σ j := by
  unfold sWr
  rw [upd_n h, sTake_ne h6 h9]
theorem nJ_of {σ σ' : sT} (h : σ' 2 = σ 2) : nJ σ' = nJ σ := by unfold nJ; rw [h]
theorem nW_of {σ σ' : sT} (h : σ' 0 = σ 0) : nW σ' = nW σ := by unfold nW; rw [h]
theorem nP_of {σ σ' : sT} (h : σ' 1 = σ 1) : nP σ' = nP σ := by unfold nP; rw [h]
theorem fWl_ne {j : Nat} (h6 : j ≠ 6) (h9 : j ≠ 9) : ∀ {l : List Int32} {b : Nat} {σ : sT}, (j < b ∨ b + l.length ≤ j) → (fWl b l σ).2 j = σ j := by
  intro l
  induction l with
  | nil => intro b σ _; rfl
  | cons w ws ih =>
    intro b σ h
    simp only [List.length_cons] at h
    unfold fWl sq fWr
    dsimp only
    split
    · rw [ih (by omega), sWr_ne (by omega) h6 h9]
    · exact sWr_ne (by omega) h6 h9
theorem ffree_lt {σ : sT} {p c : Nat} : ∀ {k : Nat}, c ≤ k → (∀ j, c ≤ j → j < k → σ (211 + 32 * p + j) = 65535) → ffree σ p k ≤ c
  | 0, h, _ => Nat.zero_le _
  | k + 1, h, hj => by
    unfold ffree
    by_cases hc : c = k + 1
    · split
      · have := ffree_le σ p k; omega
      · omega
    · rw [if_pos (hj k (by omega) (by omega))]
      exact ffree_lt (by omega) (fun j h1 h2 => hj j h1 (by omega))
theorem sErJ_ne {σ : sT} {p k : Nat} (h : k < 211) (h6 : k ≠ 6) (h9 : k ≠ 9) : sErJ σ p k = σ k := sEr_out (by omega) (by omega) h6 h9
/-- behind the formatting there is an active page -/
theorem fmt_head {σ : sT} (h : Inv σ) (ok : (fFormat σ).1 = true) : headB (fFormat σ).2 0 = true := by
  have hb := h.bd
  unfold fFormat at ok ⊢
  by_cases h1 : (fErJ 0 σ).1 = true
  · rw [sq_t h1] at ok ⊢
    have h1' : sHas σ = true := h1
    by_cases h2 : (fWr 211 (wordI 6 0) (fErJ 0 σ).2).1 = true
    · rw [sq_t h2]
      have h2' : sHas (sErJ σ 0) = true := h2
      have e : (fNote 6 0 (fWr 211 (wordI 6 0) (fErJ 0 σ).2).2).2 211 = wordI 6 (nI 0) := by
        show sNote (sWr (sErJ σ 0) 211 (wordI 6 0)) 6 0 211 = _
        rw [sNote_ne (by decide) (by decide) (by decide), sWr_at h2']
        have := sErJ_in (p := 0) (k := 0) h1' hb.2.2.2.2.2.2.1 (by decide) (by omega)
        rw [show (211 : Nat) = 211 + 32 * 0 + 0 from rfl, this]
        exact and_ff (wd_head (g := 0) (by decide))
      unfold headB
      rw [show 211 + 32 * 0 = 211 from rfl, e]
      obtain ⟨a1, a2, -⟩ := head_w 0 (by decide)
      rw [a1, a2]
      rfl
    · rw [sq_f (by simpa using h2)] at ok
      exact absurd ok h2
  · rw [sq_f (by simpa using h1)] at ok
    exact absurd ok h1
theorem act_head {σ : sT} (h : headB σ 0 = true ∨ headB σ 1 = true) : ¬ activeI σ = -1 := by
  unfold activeI
  rcases h with h | h
  · rw [if_pos h]
    split <;> (try split) <;> decide
  · rw [if_pos h]
    split <;> (try split) <;> decide
theorem head_act {σ : sT} {p : Nat} (h : activeI σ = nI p) (hp : p < 2) : headB σ p = true := by
  unfold activeI at h
  match p, hp with
  | 0, _ =>
    by_cases h0 : headB σ 0 = true
    · exact h0
    · rw [if_neg h0] at h
      split at h <;> exact absurd h (by decide)
  | 1, _ =>
    by_cases h1 : headB σ 1 = true
    · exact h1
    · rw [if_neg h1, if_neg h1] at h
      split at h <;> exact absurd h (by decide)
  | p + 2, hp => omega
set_option maxHeartbeats 1000000 in
/-- behind a move: the other page is the active one, and has room -/
theorem move_end {σ : sT} {p : Nat} (h : Inv σ) (hp : p < 2) (ha : activeI σ = nI p) (ok : (fMoveP p σ).1 = true) : activeI (fMoveP p σ).2 = nI (1 - p) ∧ ffree (fMoveP p σ).2 (1 - p) (nJ σ) ≤ 9 := by
  have hb := h.bd
  have hl := recs_len (told σ)
  unfold fMoveP at ok ⊢
  by_cases h1 : (fErJ (1 - p) σ).1 = true
  · rw [sq_t h1] at ok ⊢
    have h1' : sHas σ = true := h1
    by_cases h2 : (fWl (211 + 32 * (1 - p) + 1) (recs (told σ)) (fErJ (1 - p) σ).2).1 = true
    · rw [sq_t h2] at ok ⊢
      by_cases h3 : (fWr (211 + 32 * (1 - p)) (wordI 6 ((genI σ p + 1) % 256)) (fWl (211 + 32 * (1 - p) + 1) (recs (told σ)) (fErJ (1 - p) σ).2).2).1 = true
      · rw [sq_t h3]
        generalize hτ : fWl (211 + 32 * (1 - p) + 1) (recs (told σ)) (fErJ (1 - p) σ).2 = W at h2 h3 ⊢
        have hW : ∀ j, j ≠ 6 → j ≠ 9 → (j < 211 + 32 * (1 - p) + 1 ∨ 211 + 32 * (1 - p) + 1 + (recs (told σ)).length ≤ j) → W.2 j = sErJ σ (1 - p) j := fun j a b c => by
          rw [← hτ]
          exact fWl_ne a b c
        have h3' : sHas W.2 = true := h3
        obtain ⟨a, ha1, ha2⟩ := h.2.2.2.1 (211 + 32 * p) (by omega) (by omega)
        have hg : genI σ p = nI (a / 16 % 256) := by
          unfold genI
          rw [ha2]
          exact val_n ha1
        have hg2 : a / 16 % 256 < 256 := Nat.mod_lt _ (by decide)
        generalize a / 16 % 256 = g at hg hg2
        obtain ⟨u1, u2, u3⟩ := gen_up g hg2
        rw [hg, u1]
        have hg3 : (g + 1) % 256 < 256 := Nat.mod_lt _ (by decide)
        have e0 : ∀ j, j < 275 → j ≠ 10 → j ≠ 16 → j ≠ 6 → j ≠ 9 → j ≠ 211 + 32 * (1 - p) → (fNote 5 (nI (1 - p)) (fWr (211 + 32 * (1 - p)) (wordI 6 (nI ((g + 1) % 256))) W.2).2).2 j = W.2 j := by
          intro j b1 b2 b3 b4 b5 b6
          show sNote (sWr W.2 (211 + 32 * (1 - p)) _) 5 _ j = _
          rw [sNote_ne (by omega) b2 (by omega), sWr_ne b6 b4 b5]
        have e1 : (fNote 5 (nI (1 - p)) (fWr (211 + 32 * (1 - p)) (wordI 6 (nI ((g + 1) % 256))) W.2).2).2 (211 + 32 * (1 - p)) = wordI 6 (nI ((g + 1) % 256)) := by
          show sNote (sWr W.2 (211 + 32 * (1 - p)) _) 5 _ (211 + 32 * (1 - p)) = _
          rw [sNote_ne (by omega) (by omega) (by omega), sWr_at h3', hW _ (by omega) (by omega) (by omega)]
          have := sErJ_in (p := 1 - p) (k := 0) h1' hb.2.2.2.2.2.2.1 (by omega) (by omega)
          rw [show 211 + 32 * (1 - p) + 0 = 211 + 32 * (1 - p) from rfl] at this
          rw [this]
          exact and_ff (wd_head hg3)
        generalize (fNote 5 (nI (1 - p)) (fWr (211 + 32 * (1 - p)) (wordI 6 (nI ((g + 1) % 256))) W.2).2).2 = σ' at e0 e1 ⊢
        have e2 : σ' (211 + 32 * p) = σ (211 + 32 * p) := by
          rw [e0 _ (by omega) (by omega) (by omega) (by omega) (by omega) (by omega), hW _ (by omega) (by omega) (by omega), sErJ_out (by omega) (by omega) (by omega) (by omega) (by omega)]
        obtain ⟨b1, b2, b3, -⟩ := head_w _ hg3
        have hh1 : headB σ' (1 - p) = true := by
          unfold headB
          rw [e1, b1, b2]
          rfl
        have hh2 : headB σ' p = true := by
          unfold headB
          rw [e2]
          exact head_act ha hp
        have hg1 : genI σ' (1 - p) = nI ((g + 1) % 256) := by
          unfold genI
          rw [e1, b3]
        have hg0 : genI σ' p = nI g := by
          unfold genI
          rw [e2]
          exact hg
        refine ⟨?_, ?_⟩
        · unfold activeI
          rcases (show p = 0 ∨ p = 1 by omega) with e9 | e9
          · subst e9
            have z1 : headB σ' 1 = true := hh1
            have z2 : genI σ' 1 = nI ((g + 1) % 256) := hg1
            rw [if_pos hh2, if_pos z1, z2, hg0, u2]
            rfl
          · subst e9
            have z1 : headB σ' 0 = true := hh1
            have z2 : genI σ' 0 = nI ((g + 1) % 256) := hg1
            rw [if_pos z1, if_pos hh2, z2, hg0, u3]
            rfl
        · refine ffree_lt (by omega) (fun j c1 c2 => ?_)
          rw [e0 _ (by omega) (by omega) (by omega) (by omega) (by omega) (by omega), hW _ (by omega) (by omega) (by omega)]
          exact sErJ_in h1' hb.2.2.2.2.2.2.1 (by omega) c2
      · rw [sq_f (by simpa using h3)] at ok
        exact absurd ok h3
    · rw [sq_f (by simpa using h2)] at ok
      exact absurd ok h2
  · rw [sq_f (by simpa using h1)] at ok
    exact absurd ok h1
theorem Inv.mvp {σ : sT} {p : Nat} (h : Inv σ) (hp : p < 2) : Inv (fMoveP p σ).2 := by
  have hl := recs_len (told σ)
  have h1 : Inv (fErJ (1 - p) σ).2 := h.erj (by omega)
  have h2 : Inv (fWl (211 + 32 * (1 - p) + 1) (recs (told σ)) (fErJ (1 - p) σ).2).2 := h1.wl (by omega) (by omega)
  unfold fMoveP
  unfold sq
  split
  · split
    · split
      · exact (h2.wr (by omega) (by omega)).note (by decide)
      · exact h2.wr (by omega) (by omega)
    · exact h2
  · exact h1

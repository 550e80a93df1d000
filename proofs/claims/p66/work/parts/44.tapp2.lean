/-! behind a move -/
theorem wl_at : ∀ {l : List Int32} {b i : Nat} {σ : sT}, (fWl b l σ).1 = true → i < l.length → 10 ≤ b → (fWl b l σ).2 (b + i) = σ (b + i) &&& l.getD i 0
  | [], _, _, _, _, h, _ => absurd h (by simp)
  | w :: ws, b, i, σ, ok, h, hb => by
    have h1 : sHas σ = true := by
      by_cases q : sHas σ = true
      · exact q
      · have : fWl b (w :: ws) σ = (false, sWr σ b w) := sq_n (fWr_e (Bool.eq_false_iff.mpr q))
        rw [this] at ok
        exact absurd (show false = true from ok) (by decide)
    have e : fWl b (w :: ws) σ = fWl (b + 1) ws (sWr σ b w) := sq_e (fWr_e h1)
    rw [e] at ok ⊢
    match i with
    | 0 =>
      rw [fWl_ne (by omega) (by omega) (by omega)]
      exact sWr_at h1
    | i + 1 =>
      rw [show b + (i + 1) = b + 1 + i by omega, wl_at ok (by simpa using h) (by omega), sWr_ne (by omega) (by omega) (by omega)]
      rfl
theorem rp_len (τ : sT) : (rp τ).length = (recs τ).length := by rw [rp_recs, List.length_map]
theorem rp_ok {τ : sT} {t : Nat} (ho : TauOk τ t) : ∀ x, x ∈ rp τ → okR x.1 x.2 := by
  intro x hx
  obtain ⟨⟨f, hf, e0⟩, s1, s2, _, _⟩ := ho
  unfold rp rpA at hx
  simp only [List.mem_append] at hx
  have hs : ∀ v : Int32, slotV v → ¬ v = -1 → ∃ s : Nat, s < 2 ∧ v = nI s := fun v => told_s
  rcases hx with h | (h | h | h | h) | h
  · split at h
    · simp only [List.mem_cons, List.not_mem_nil, or_false] at h
      subst h
      exact Or.inl ⟨rfl, f, hf, e0⟩
    · simp at h
  · split at h
    · simp at h
    · rename_i q
      simp only [List.mem_cons, List.not_mem_nil, or_false] at h
      subst h
      exact Or.inr ⟨(show 2 ≤ 2 by decide), (show 2 < 6 by decide), hs _ s1 q⟩
  · split at h
    · simp only [List.mem_cons, List.not_mem_nil, or_false] at h
      subst h
      exact Or.inr ⟨by decide, by decide, 0, by decide, rfl⟩
    · simp at h
  · split at h
    · simp only [List.mem_cons, List.not_mem_nil, or_false] at h
      subst h
      exact Or.inr ⟨by decide, by decide, 1, by decide, rfl⟩
    · simp at h
  · split at h
    · simp at h
    · rename_i q
      simp only [List.mem_cons, List.not_mem_nil, or_false] at h
      subst h
      exact Or.inr ⟨(show 2 ≤ 3 by decide), (show 3 < 6 by decide), hs _ s2 q⟩
  · split at h
    · simp at h
    · rename_i q
      obtain ⟨_, rfl⟩ := List.mem_replicate.mp h
      exact Or.inr ⟨(show 2 ≤ 4 by decide), (show 4 < 6 by decide), hs _ s2 q⟩
theorem sq_ok {f g : opT} {σ : sT} (h : (sq f g σ).1 = true) : (f σ).1 = true ∧ (g (f σ).2).1 = true := by
  by_cases q : (f σ).1 = true
  · rw [sq_t q] at h
    exact ⟨q, h⟩
  · rw [sq_f (Bool.eq_false_iff.mpr q)] at h
    exact absurd h q
theorem told_move {σ : sT} {p : Nat} (h : Inv σ) (hp : p < 2) (ha : activeI σ = nI p) (ok : (fMoveP p σ).1 = true) : ∀ j, j < 5 → j ≠ 3 → told (fMoveP p σ).2 j = told σ j := by
  have hb := h.bd
  obtain ⟨a1, a2⟩ := move_end h hp ha ok
  have hl := recs_len (told σ)
  have hto := told_ok h
  have hlr := rp_len (told σ)
  have hJ : nJ (fMoveP p σ).2 = nJ σ := nJ_mvp
  have hok : (fErJ (1 - p) σ).1 = true ∧ (fWl (211 + 32 * (1 - p) + 1) (recs (told σ)) (sErJ σ (1 - p))).1 = true ∧ (fWr (211 + 32 * (1 - p)) (wordI 6 ((genI σ p + 1) % 256)) (fWl (211 + 32 * (1 - p) + 1) (recs (told σ)) (sErJ σ (1 - p))).2).1 = true := by
    obtain ⟨o1, o2⟩ := sq_ok ok
    obtain ⟨o3, o4⟩ := sq_ok o2
    obtain ⟨o5, _⟩ := sq_ok o4
    exact ⟨o1, o3, o5⟩
  obtain ⟨o1, o2, o3⟩ := hok
  have e : (fMoveP p σ).2 = sNote (sWr (fWl (211 + 32 * (1 - p) + 1) (recs (told σ)) (sErJ σ (1 - p))).2 (211 + 32 * (1 - p)) (wordI 6 ((genI σ p + 1) % 256))) 5 (nI (1 - p)) := by
    unfold fMoveP
    rw [sq_e (f := fErJ (1 - p)) (pr_e o1)]
    show (sq _ _ (sErJ σ (1 - p))).2 = _
    rw [sq_e (f := fWl _ _) (pr_e o2), sq_e (f := fWr _ _) (pr_e o3)]
    rfl
  have hc : ∀ i, i < nJ σ → 0 < i → (fMoveP p σ).2 (211 + 32 * (1 - p) + i) = (fWl (211 + 32 * (1 - p) + 1) (recs (told σ)) (sErJ σ (1 - p))).2 (211 + 32 * (1 - p) + i) := fun i hi h0 => by
    rw [e, sNote_ne (by omega) (by omega) (by omega), sWr_ne (by omega) (by omega) (by omega)]
  have hs : sHas σ = true := o1
  have hff : ∀ i, i < nJ σ → sErJ σ (1 - p) (211 + 32 * (1 - p) + i) = 65535 := fun i hi => sErJ_in hs hb.2.2.2.2.2.2.1 (by omega) hi
  have hw : ∀ i, i < (recs (told σ)).length → (fMoveP p σ).2 (211 + 32 * (1 - p) + 1 + i) = (recs (told σ)).getD i 0 ∧ wd ((recs (told σ)).getD i 0) := fun i hi => by
    have hwd : wd ((recs (told σ)).getD i 0) := by
      rw [rp_recs, List.getD_eq_getElem?_getD, List.getElem?_map, List.getElem?_eq_getElem (by rw [hlr]; exact hi)]
      exact (rp_ok hto _ (List.getElem_mem _)).w.2.2.2.1
    refine ⟨?_, hwd⟩
    rw [Nat.add_assoc, hc _ (by omega) (by omega), ← Nat.add_assoc, wl_at o2 hi (by omega), Nat.add_assoc, hff _ (by omega)]
    exact and_ff hwd
  have h1 : tellK (fMoveP p σ).2 (1 - p) 1 = tau0 := by
    show (if recB _ (1 - p) 0 = true then _ else _) = _
    rw [if_neg (by simp [recB])]
    rfl
  have h2 : tellK (fMoveP p σ).2 (1 - p) (1 + (rp (told σ)).length) = foldT tau0 (rp (told σ)) := by
    rw [tell_list (by decide) (fun i x hx => ?_), h1]
    have hi : i < (rp (told σ)).length := (List.getElem?_eq_some_iff.mp hx).1
    refine ⟨rp_ok hto x (List.mem_of_getElem? hx), ?_⟩
    rw [(hw i (by omega)).1, rp_recs, List.getD_eq_getElem?_getD, List.getElem?_map, hx]
    rfl
  have h3 : tellK (fMoveP p σ).2 (1 - p) (nJ σ) = foldT tau0 (rp (told σ)) := by
    rw [← h2]
    refine tell_ff (by omega) (fun j b1 b2 => ?_)
    rw [hc j b2 (by omega), fWl_ne (by omega) (by omega) (by omega)]
    exact hff j b2
  intro j hj hj3
  rw [told_p (by omega) a1, hJ, h3]
  exact rp_fold hto (told_C h) j hj hj3
theorem told_fmt {σ : sT} (h : Inv σ) (hn : activeI σ = -1) (ok : (fFormat σ).1 = true) : told (fFormat σ).2 = told σ := by
  have hb := h.bd
  have ha := act_0 h hn ok
  have hf := free_fmt h ok
  have hJ : nJ (fFormat σ).2 = nJ σ := nJ_of (fFormat_ne Kp_2)
  rw [told_p (by decide) ha, hJ, tell_ff (c := 1) (by omega) (fun j a b => free_ff (k := nJ σ) (by omega) b)]
  have : tellK (fFormat σ).2 0 1 = tau0 := by
    show (if recB _ 0 0 = true then _ else _) = _
    rw [if_neg (by simp [recB])]
    rfl
  rw [this]
  unfold told
  rw [if_pos hn]
theorem okR_slot {k s : Nat} (h1 : 2 ≤ k) (h2 : k < 6) (hs : s < 2) : okR k (nI s) := Or.inr ⟨h1, h2, s, hs, rfl⟩
/-- behind a record appended: what it tells -/
theorem told_app {σ : sT} {k : Nat} {v : Int32} (h : Inv σ) (hr : okR k v) (ok : (fApp k v σ).1 = true) : ∀ j, j < 5 → j ≠ 3 → told (fApp k v σ).2 j = takeI (told σ) (nI k) v j := by
  unfold fApp at ok ⊢
  obtain ⟨o1, o2⟩ := sq_ok ok
  obtain ⟨o3, o4⟩ := sq_ok o2
  rw [sq_t o1, sq_t o3]
  have hi1 := h.prep
  have n1 := prep_act h o1
  have t1 : told (fPrep σ).2 = told σ := by
    unfold fPrep at o1 ⊢
    split
    · rename_i q
      rw [if_pos q] at o1
      exact told_fmt h q o1
    · rfl
  have hi2 := hi1.full
  obtain ⟨n2, f2⟩ := full_act hi1 n1 o3
  have t2 : ∀ j, j < 5 → j ≠ 3 → told (fFull (fPrep σ).2).2 j = told σ j := by
    intro j hj h3
    rw [← t1]
    obtain ⟨p, hp, e⟩ := act_n rfl n1
    by_cases q : ffree (fPrep σ).2 p (nJ (fPrep σ).2) = nJ (fPrep σ).2
    · rw [fFull_t hp e q] at o3 ⊢
      exact told_move hi1 hp e o3 j hj h3
    · rw [fFull_f hp e q]
  obtain ⟨p, hp, e⟩ := act_n rfl n2
  rw [e, tn_nI (by omega)] at f2
  have hJ : nJ (fFull (fPrep σ).2).2 = nJ (fPrep σ).2 := nJ_full
  have := told_put hi2 hp e (by rw [hJ]; exact f2) hr o4
  intro j hj h3
  rw [this.1]
  exact takeI_c t2 j hj h3
theorem app_act {σ : sT} {k : Nat} {v : Int32} (h : Inv σ) (hr : okR k v) (ok : (fApp k v σ).1 = true) : ¬ activeI (fApp k v σ).2 = -1 := by
  unfold fApp at ok ⊢
  obtain ⟨o1, o2⟩ := sq_ok ok
  obtain ⟨o3, o4⟩ := sq_ok o2
  rw [sq_t o1, sq_t o3]
  obtain ⟨n2, f2⟩ := full_act h.prep (prep_act h o1) o3
  obtain ⟨p, hp, e⟩ := act_n rfl n2
  rw [e, tn_nI (by omega)] at f2
  have hJ : nJ (fFull (fPrep σ).2).2 = nJ (fPrep σ).2 := nJ_full
  rw [(told_put h.prep.full hp e (by rw [hJ]; exact f2) hr o4).2]
  exact nI_nm1 (by omega)

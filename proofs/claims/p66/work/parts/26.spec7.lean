/-! appending, booting, in numbers -/
theorem fRec_3 {v : Int32} : fRec 3 v = fNote 2 v := if_pos rfl
theorem fRec_2 {v : Int32} : fRec 2 v = fNote 3 v := by unfold fRec; rw [if_neg (by decide), if_pos rfl]
theorem fRec_5 {v : Int32} : fRec 5 v = fNote 4 v := by unfold fRec; rw [if_neg (by decide), if_neg (by decide), if_pos rfl]
theorem fRec_o {k : Nat} {v : Int32} (h3 : ¬ k = 3) (h2 : ¬ k = 2) (h5 : ¬ k = 5) : fRec k v = fId := by unfold fRec; rw [if_neg h3, if_neg h2, if_neg h5]
theorem fNote_e {e : Nat} {x : Int32} {σ : sT} : fNote e x σ = (true, sNote σ e x) := rfl
theorem fWr_e {σ : sT} {k : Nat} {v : Int32} {b : Bool} (h : sHas σ = b) : fWr k v σ = (b, sWr σ k v) := by subst h; rfl
theorem fErJ_e {σ : sT} {p : Nat} {b : Bool} (h : sHas σ = b) : fErJ p σ = (b, sErJ σ p) := by subst h; rfl
theorem pr_e {f : opT} {σ : sT} {b : Bool} (h : (f σ).1 = b) : f σ = (b, (f σ).2) := by subst h; rfl
theorem free_fmt {σ : sT} (h : Inv σ) (ok : (fFormat σ).1 = true) : ffree (fFormat σ).2 0 (nJ σ) ≤ 1 := by
  have hb := h.bd
  unfold fFormat at ok ⊢
  by_cases h1 : (fErJ 0 σ).1 = true
  · rw [sq_t h1] at ok ⊢
    have h1' : sHas σ = true := h1
    by_cases h2 : (fWr 211 (wordI 6 0) (fErJ 0 σ).2).1 = true
    · rw [sq_t h2]
      refine ffree_lt (by omega) (fun j c1 c2 => ?_)
      show sNote (sWr (sErJ σ 0) 211 (wordI 6 0)) 6 0 (211 + 32 * 0 + j) = _
      rw [sNote_ne (by omega) (by omega) (by omega), sWr_ne (by omega) (by omega) (by omega)]
      exact sErJ_in (p := 0) h1' hb.2.2.2.2.2.2.1 (by decide) c2
    · rw [sq_f (by simpa using h2)] at ok
      exact absurd ok h2
  · rw [sq_f (by simpa using h1)] at ok
    exact absurd ok h1
theorem act_0 {σ : sT} (h : Inv σ) (hn : activeI σ = -1) (ok : (fFormat σ).1 = true) : activeI (fFormat σ).2 = nI 0 := by
  have h0 := fmt_head h ok
  have h1 : headB σ 1 = false := by
    unfold activeI at hn
    split at hn
    · split at hn
      · split at hn <;> exact absurd hn (by decide)
      · exact absurd hn (by decide)
    · split at hn
      · exact absurd hn (by decide)
      · rename_i h; simpa using h
  have h2 : headB (fFormat σ).2 1 = false := by
    have hb := h.bd
    have e : (fFormat σ).2 243 = σ 243 := by
      unfold fFormat sq
      split
      · split
        · show sNote (sWr (sErJ σ 0) 211 (wordI 6 0)) 6 0 243 = _
          rw [sNote_ne (by decide) (by decide) (by decide), sWr_ne (by decide) (by decide) (by decide), sErJ_out (by omega) (by decide) (by decide) (by decide) (by decide)]
        · show sWr (sErJ σ 0) 211 (wordI 6 0) 243 = _
          rw [sWr_ne (by decide) (by decide) (by decide), sErJ_out (by omega) (by decide) (by decide) (by decide) (by decide)]
      · show sErJ σ 0 243 = _
        rw [sErJ_out (by omega) (by decide) (by decide) (by decide) (by decide)]
    unfold headB at h1 ⊢
    rw [show 211 + 32 * 1 = 243 from rfl] at h1 ⊢
    rw [e]
    exact h1
  unfold activeI
  rw [if_pos h0, if_neg (by rw [h2]; decide)]
  rfl
/-- what is told of slots: one of them, or none -/
theorem val_le {x : Int32} (h : wd x) (h2 : rightI x = true) (hk : kindI x = 2 ∨ kindI x = 3 ∨ kindI x = 4 ∨ kindI x = 5) : ∃ s : Nat, s < 2 ∧ valI x = nI s := by
  obtain ⟨a, ha, rfl⟩ := h
  have e := val_n ha
  have h3 : valI (nI a) ≤ 1 := by
    simp only [rightI, Bool.and_eq_true, Bool.or_eq_true, Bool.not_eq_true', decide_eq_true_eq] at h2
    rcases h2.2.2 with h | h
    · rcases hk with hk | hk | hk | hk <;> rw [hk] at h <;> exact absurd h (by decide)
    · exact h
  rw [e] at h3 ⊢
  have := (nI_leI (b := 1) (by omega) (by decide)).mp h3
  exact ⟨_, by omega, rfl⟩
def slotV (x : Int32) : Prop := x = -1 ∨ ∃ s : Nat, s < 2 ∧ x = nI s
def bads (x : Int32) : Prop := ∃ a : Nat, a < 4 ∧ x = nI a
theorem bads_or {x : Int32} (h : bads x) {s : Nat} (hs : s < 2) : bads (x ||| (1 <<< (nI s &&& 31))) := by
  obtain ⟨a, ha, rfl⟩ := h
  match a, ha, s, hs with
  | 0, _, 0, _ => exact ⟨1, by decide, by decide⟩
  | 1, _, 0, _ => exact ⟨1, by decide, by decide⟩
  | 2, _, 0, _ => exact ⟨3, by decide, by decide⟩
  | 3, _, 0, _ => exact ⟨3, by decide, by decide⟩
  | 0, _, 1, _ => exact ⟨2, by decide, by decide⟩
  | 1, _, 1, _ => exact ⟨3, by decide, by decide⟩
  | 2, _, 1, _ => exact ⟨2, by decide, by decide⟩
  | 3, _, 1, _ => exact ⟨3, by decide, by decide⟩
theorem bads_an {x : Int32} (h : bads x) {s : Nat} (hs : s < 2) : bads (x &&& ((1 <<< (nI s &&& 31)) ^^^ (-1))) := by
  obtain ⟨a, ha, rfl⟩ := h
  match a, ha, s, hs with
  | 0, _, 0, _ => exact ⟨0, by decide, by decide⟩
  | 1, _, 0, _ => exact ⟨0, by decide, by decide⟩
  | 2, _, 0, _ => exact ⟨2, by decide, by decide⟩
  | 3, _, 0, _ => exact ⟨2, by decide, by decide⟩
  | 0, _, 1, _ => exact ⟨0, by decide, by decide⟩
  | 1, _, 1, _ => exact ⟨1, by decide, by decide⟩
  | 2, _, 1, _ => exact ⟨0, by decide, by decide⟩
  | 3, _, 1, _ => exact ⟨1, by decide, by decide⟩
/-- a state told, as it can be -/
def TauOk (τ : sT) (t : Nat) : Prop := (∃ f : Nat, f < 256 ∧ τ 0 = nI f) ∧ slotV (τ 1) ∧ slotV (τ 2) ∧ (∃ a, a ≤ t ∧ τ 3 = nI a) ∧ bads (τ 4)
theorem tau0_ok : TauOk tau0 0 := ⟨⟨0, by decide, rfl⟩, Or.inl rfl, Or.inl rfl, ⟨0, Nat.le_refl _, rfl⟩, ⟨0, by decide, rfl⟩⟩
theorem rec_val {x : Int32} (h : wd x) : ∃ f : Nat, f < 256 ∧ valI x = nI f := by
  obtain ⟨a, ha, rfl⟩ := h
  exact ⟨a / 16 % 256, Nat.mod_lt _ (by decide), val_n ha⟩
theorem tellK_ok {σ : sT} {p : Nat} (hw : ∀ k, k < 32 → wd (σ (211 + 32 * p + k))) : ∀ {k : Nat}, k ≤ 32 → TauOk (tellK σ p k) k
  | 0, _ => tau0_ok
  | k + 1, hk => by
    obtain ⟨⟨f, hf, e0⟩, s1, s2, ⟨t, ht, e3⟩, b4⟩ := tellK_ok (σ := σ) (p := p) hw (k := k) (by omega)
    unfold tellK
    split
    · rename_i hr
      have hx := hw k (by omega)
      have hri : rightI (σ (211 + 32 * p + k)) = true := by
        simp only [recB, Bool.and_eq_true] at hr
        exact hr.2.1
      obtain ⟨g, hg, eg⟩ := rec_val hx
      have hv := val_le hx hri
      generalize valI (σ (211 + 32 * p + k)) = v at eg hv
      rcases recB_k hr with h | h | h | h | h <;> rw [h] <;> rw [h] at hv
      · refine ⟨?_, s1, s2, ⟨t, by omega, by simp [takeI, upd, e3]⟩, by simpa [takeI, upd] using b4⟩
        show ∃ f : Nat, f < 256 ∧ (if tellK σ p k 0 < v then v else tellK σ p k 0) = nI f
        split
        · exact ⟨g, hg, eg⟩
        · exact ⟨f, hf, e0⟩
      · obtain ⟨s, hs, es⟩ := hv (Or.inl rfl)
        refine ⟨⟨f, hf, e0⟩, Or.inr ⟨s, hs, es⟩, ?_, ?_, ?_⟩
        · show slotV (if (2 : Int32) = 3 then v else if tellK σ p k 2 = v then -1 else tellK σ p k 2)
          rw [if_neg (by decide)]
          split
          · exact Or.inl rfl
          · exact s2
        · show ∃ a, a ≤ k + 1 ∧ (if (2 : Int32) = 3 ∨ tellK σ p k 2 = v then (0 : Int32) else tellK σ p k 3) = nI a
          split
          · exact ⟨0, Nat.zero_le _, rfl⟩
          · exact ⟨t, by omega, e3⟩
        · show bads (if (2 : Int32) = 5 then tellK σ p k 4 ||| (1 <<< (v &&& 31)) else tellK σ p k 4 &&& ((1 <<< (v &&& 31)) ^^^ (-1)))
          rw [if_neg (by decide), es]
          exact bads_an b4 hs
      · obtain ⟨s, hs, es⟩ := hv (Or.inr (Or.inl rfl))
        refine ⟨⟨f, hf, e0⟩, ?_, Or.inr ⟨s, hs, es⟩, ?_, ?_⟩
        · show slotV (if (3 : Int32) = 2 then v else if (3 : Int32) = 5 ∧ tellK σ p k 1 = v then -1 else tellK σ p k 1)
          rw [if_neg (by decide), if_neg (fun q => absurd q.1 (by decide))]
          exact s1
        · show ∃ a, a ≤ k + 1 ∧ (if (3 : Int32) = 3 ∨ tellK σ p k 2 = v then (0 : Int32) else tellK σ p k 3) = nI a
          rw [if_pos (Or.inl rfl)]
          exact ⟨0, Nat.zero_le _, rfl⟩
        · show bads (if (3 : Int32) = 5 then tellK σ p k 4 ||| (1 <<< (v &&& 31)) else tellK σ p k 4 &&& ((1 <<< (v &&& 31)) ^^^ (-1)))
          rw [if_neg (by decide), es]
          exact bads_an b4 hs
      · refine ⟨⟨f, hf, e0⟩, s1, s2, ?_, by simpa [takeI, upd] using b4⟩
        show ∃ a, a ≤ k + 1 ∧ tellK σ p k 3 + (if tellK σ p k 2 = v then 1 else 0) = nI a
        split
        · exact ⟨t + 1, by omega, by rw [e3]; exact nI_add t 1⟩
        · exact ⟨t, by omega, by rw [e3]; exact nI_add t 0⟩
      · obtain ⟨s, hs, es⟩ := hv (Or.inr (Or.inr (Or.inr rfl)))
        refine ⟨⟨f, hf, e0⟩, ?_, ?_, ?_, ?_⟩
        · show slotV (if (5 : Int32) = 2 then v else if (5 : Int32) = 5 ∧ tellK σ p k 1 = v then -1 else tellK σ p k 1)
          rw [if_neg (by decide)]
          split
          · exact Or.inl rfl
          · exact s1
        · show slotV (if (5 : Int32) = 3 then v else if tellK σ p k 2 = v then -1 else tellK σ p k 2)
          rw [if_neg (by decide)]
          split
          · exact Or.inl rfl
          · exact s2
        · show ∃ a, a ≤ k + 1 ∧ (if (5 : Int32) = 3 ∨ tellK σ p k 2 = v then (0 : Int32) else tellK σ p k 3) = nI a
          split
          · exact ⟨0, Nat.zero_le _, rfl⟩
          · exact ⟨t, by omega, e3⟩
        · show bads (if (5 : Int32) = 5 then tellK σ p k 4 ||| (1 <<< (v &&& 31)) else tellK σ p k 4 &&& ((1 <<< (v &&& 31)) ^^^ (-1)))
          rw [if_pos rfl, es]
          exact bads_or b4 hs
    · exact ⟨⟨f, hf, e0⟩, s1, s2, ⟨t, by omega, e3⟩, b4⟩
theorem told_ok {σ : sT} (h : Inv σ) : TauOk (told σ) 32 := by
  have hb := h.bd
  unfold told
  split
  · exact ⟨tau0_ok.1, tau0_ok.2.1, tau0_ok.2.2.1, ⟨0, by decide, rfl⟩, tau0_ok.2.2.2.2⟩
  · obtain ⟨a1, a2, a3, ⟨t, ht, e⟩, a5⟩ := tellK_ok (σ := σ) (p := tn (activeI σ)) (fun k hk => h.2.2.2.1 _ (by omega) (by have := act_lt σ; omega)) (k := nJ σ) (by omega)
    exact ⟨a1, a2, a3, ⟨t, by omega, e⟩, a5⟩
theorem told_s {v : Int32} (h : slotV v) (h2 : ¬ v = -1) : ∃ s : Nat, s < 2 ∧ v = nI s := h.elim (fun q => absurd q h2) id
/-! booting -/
def mayB (σ : sT) : Bool := canB σ (tn (told σ 2)) && decide (told σ 3 < σ 3)
def fTry (σ : sT) : Int32 × sT :=
  if told σ 2 = -1 then (-1, σ) else if mayB σ = true then (if (fApp 4 (told σ 2) σ).1 = true then (told σ 2, sRun (fApp 4 (told σ 2) σ).2 (told σ 2)) else (-4, sCut (fApp 4 (told σ 2) σ).2))
  else (if (fApp 5 (told σ 2) σ).1 = true then (-1, (fApp 5 (told σ 2) σ).2) else (-4, sCut (fApp 5 (told σ 2) σ).2))
def fRest (σ : sT) : Int32 × sT :=
  if ¬ told σ 1 = -1 ∧ canB σ (tn (told σ 1)) = true then (told σ 1, sRun σ (told σ 1)) else if canB σ 0 = true then (0, sRun σ 0) else if canB σ 1 = true then (1, sRun σ 1) else (-1, sWait σ)
def fTR (σ : sT) : Int32 × sT := if (fTry σ).1 = -1 then fRest (fTry σ).2 else fTry σ
def fBoot (σ : sT) : Int32 × sT := if (fPrep (sOff σ)).1 = true then fTR (fPrep (sOff σ)).2 else (-4, sCut (fPrep (sOff σ)).2)
theorem fTry_n {σ : sT} (h : told σ 2 = -1) : fTry σ = (-1, σ) := if_pos h
theorem fTry_m {σ : sT} {s : Nat} (hs : s < 2) (h : told σ 2 = nI s) (hm : mayB σ = true) : fTry σ = if (fApp 4 (nI s) σ).1 = true then (nI s, sRun (fApp 4 (nI s) σ).2 (nI s)) else (-4, sCut (fApp 4 (nI s) σ).2) := by
  unfold fTry
  rw [if_neg (by rw [h]; exact nI_nm1 (by omega)), if_pos hm, h]
theorem fTry_b {σ : sT} {s : Nat} (hs : s < 2) (h : told σ 2 = nI s) (hm : mayB σ = false) : fTry σ = if (fApp 5 (nI s) σ).1 = true then (-1, (fApp 5 (nI s) σ).2) else (-4, sCut (fApp 5 (nI s) σ).2) := by
  unfold fTry
  rw [if_neg (by rw [h]; exact nI_nm1 (by omega)), if_neg (fun q => Bool.noConfusion (hm.symm.trans q)), h]
theorem Inv.try {σ : sT} (h : Inv σ) : Inv (fTry σ).2 := by
  by_cases h2 : told σ 2 = -1
  · rw [fTry_n h2]; exact h
  · obtain ⟨s, hs, es⟩ := told_s (told_ok h).2.2.1 h2
    by_cases hm : mayB σ = true
    · rw [fTry_m hs es hm]
      split
      · exact h.app.run hs
      · exact h.app.cut
    · rw [fTry_b hs es (by simpa using hm)]
      split
      · exact h.app
      · exact h.app.cut
theorem Kp_8 : Kp 8 := by unfold Kp; omega
theorem try_8 {σ : sT} (h : Inv σ) (h1 : (fTry σ).1 = -1) : (fTry σ).2 8 = σ 8 := by
  by_cases h2 : told σ 2 = -1
  · rw [fTry_n h2]
  · obtain ⟨s, hs, es⟩ := told_s (told_ok h).2.2.1 h2
    by_cases hm : mayB σ = true
    · rw [fTry_m hs es hm] at h1
      split at h1
      · exact absurd h1 (nI_nm1 (by omega))
      · exact absurd (show (-4 : Int32) = -1 from h1) (by decide)
    · rw [fTry_b hs es (by simpa using hm)] at h1 ⊢
      split
      · exact fApp_ne Kp_8
      · rename_i h3
        rw [if_neg h3] at h1
        exact absurd (show (-4 : Int32) = -1 from h1) (by decide)
theorem Inv.rest {σ : sT} (h : Inv σ) (h8 : σ 8 = -1) : Inv (fRest σ).2 := by
  unfold fRest
  split
  · rename_i h1
    obtain ⟨s, hs, es⟩ := told_s (told_ok (σ := σ) h).2.1 h1.1
    rw [es]
    exact h.run hs
  · split
    · exact h.run (s := 0) (by decide)
    · split
      · exact h.run (s := 1) (by decide)
      · exact h.wait h8
theorem Inv.boot {σ : sT} (h : Inv σ) : Inv (fBoot σ).2 := by
  unfold fBoot
  split
  · unfold fTR
    split
    · rename_i h1 h2
      exact h.off.prep.try.rest (by rw [try_8 h.off.prep h2, fPrep_ne Kp_8]; rfl)
    · exact h.off.prep.try
  · exact h.off.prep.cut

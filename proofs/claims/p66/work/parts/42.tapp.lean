/-! what is told behind a record that was appended -/
set_option maxRecDepth 100000 in
theorem rec_w1 : ∀ f, f < 256 → rightI (wordI 1 (nI f)) = true ∧ kindI (wordI 1 (nI f)) = 1 ∧ valI (wordI 1 (nI f)) = nI f ∧ tn (wordI 1 (nI f)) < 65536 ∧ wordI 1 (nI f) = nI (tn (wordI 1 (nI f))) := by decide +kernel
theorem rec_w2 : ∀ k, k < 6 → 2 ≤ k → ∀ s, s < 2 → rightI (wordI (nI k) (nI s)) = true ∧ kindI (wordI (nI k) (nI s)) = nI k ∧ valI (wordI (nI k) (nI s)) = nI s ∧ tn (wordI (nI k) (nI s)) < 65536 ∧ wordI (nI k) (nI s) = nI (tn (wordI (nI k) (nI s))) := by decide +kernel
/-- a record as one can be appended -/
def okR (k : Nat) (v : Int32) : Prop := (k = 1 ∧ ∃ f : Nat, f < 256 ∧ v = nI f) ∨ (2 ≤ k ∧ k < 6 ∧ ∃ s : Nat, s < 2 ∧ v = nI s)
theorem okR.w {k : Nat} {v : Int32} (h : okR k v) : rightI (wordI (nI k) v) = true ∧ kindI (wordI (nI k) v) = nI k ∧ valI (wordI (nI k) v) = v ∧ wd (wordI (nI k) v) ∧ ¬ nI k = 6 := by
  rcases h with ⟨rfl, f, hf, rfl⟩ | ⟨h1, h2, s, hs, rfl⟩
  · obtain ⟨a1, a2, a3, a4, a5⟩ := rec_w1 f hf
    exact ⟨a1, a2, a3, ⟨_, a4, a5⟩, by decide⟩
  · obtain ⟨a1, a2, a3, a4, a5⟩ := rec_w2 k h2 h1 s hs
    refine ⟨a1, a2, a3, ⟨_, a4, a5⟩, ?_⟩
    intro q
    have := (nI_eq (b := 6) (by omega) (by decide)).mp q
    omega
theorem okR.rec {k p j : Nat} {v : Int32} {σ : sT} (h : okR k v) (hj : 0 < j) (e : σ (211 + 32 * p + j) = wordI (nI k) v) : recB σ p j = true ∧ kindI (σ (211 + 32 * p + j)) = nI k ∧ valI (σ (211 + 32 * p + j)) = v := by
  obtain ⟨a1, a2, a3, _, a5⟩ := h.w
  unfold recB
  rw [e, a1, a2, decide_eq_true hj, decide_eq_false a5]
  exact ⟨rfl, rfl, a3⟩
theorem tell_ff {σ : sT} {p c : Nat} : ∀ {k : Nat}, c ≤ k → (∀ j, c ≤ j → j < k → σ (211 + 32 * p + j) = 65535) → tellK σ p k = tellK σ p c
  | 0, h, _ => by
    obtain rfl : c = 0 := by omega
    rfl
  | k + 1, h, hj => by
    by_cases e : c = k + 1
    · rw [e]
    · rw [tellK, if_neg (by rw [rec_ff (hj k (by omega) (by omega))]; decide)]
      exact tell_ff (by omega) (fun j a b => hj j a (by omega))
theorem tell_congr {σ σ' : sT} {p : Nat} : ∀ {k : Nat}, (∀ j, 0 < j → j < k → σ' (211 + 32 * p + j) = σ (211 + 32 * p + j)) → tellK σ' p k = tellK σ p k
  | 0, _ => rfl
  | k + 1, h => by
    have ih := tell_congr (σ := σ) (σ' := σ') (p := p) (k := k) (fun j a b => h j a (by omega))
    by_cases h0 : k = 0
    · subst h0
      have r0 : ∀ τ : sT, recB τ p 0 = false := fun τ => by simp [recB]
      have e1 : tellK σ p (0 + 1) = tellK σ p 0 := if_neg (by rw [r0]; decide)
      have e2 : tellK σ' p (0 + 1) = tellK σ' p 0 := if_neg (by rw [r0]; decide)
      rw [e1, e2]
      exact ih
    · have e := h k (by omega) (by omega)
      have er : recB σ' p k = recB σ p k := by unfold recB; rw [e]
      rw [tellK, tellK, er, e, ih]
/-- records one behind another -/
def foldT (τ : sT) : List (Nat × Int32) → sT
  | [] => τ
  | x :: xs => foldT (takeI τ (nI x.1) x.2) xs
theorem tell_list {σ : sT} {p : Nat} : ∀ {l : List (Nat × Int32)} {c : Nat}, 0 < c → (∀ i (x : Nat × Int32), l[i]? = some x → okR x.1 x.2 ∧ σ (211 + 32 * p + c + i) = wordI (nI x.1) x.2) → tellK σ p (c + l.length) = foldT (tellK σ p c) l
  | [], c, _, _ => rfl
  | x :: xs, c, hc, h => by
    obtain ⟨h0, e0⟩ := h 0 x rfl
    obtain ⟨b1, b2, b3⟩ := h0.rec (p := p) (j := c) hc (by simpa using e0)
    have e : tellK σ p (c + 1) = takeI (tellK σ p c) (nI x.1) x.2 := by
      rw [tellK, if_pos b1, b2, b3]
    have ih := tell_list (σ := σ) (p := p) (l := xs) (c := c + 1) (by omega) (fun i y hy => by
      have := h (i + 1) y (by simpa using hy)
      exact ⟨this.1, by rw [show 211 + 32 * p + (c + 1) + i = 211 + 32 * p + c + (i + 1) by omega]; exact this.2⟩)
    rw [List.length_cons, show c + (xs.length + 1) = c + 1 + xs.length by omega, ih, e]
    rfl
theorem takeI_c {τ τ' : sT} {k v : Int32} (h : ∀ j, j < 5 → j ≠ 3 → τ j = τ' j) : ∀ j, j < 5 → j ≠ 3 → takeI τ k v j = takeI τ' k v j := by
  intro j hj h3
  have t0 := h 0 (by decide) (by decide)
  have t1 := h 1 (by decide) (by decide)
  have t2 := h 2 (by decide) (by decide)
  have t4 := h 4 (by decide) (by decide)
  unfold takeI
  split
  · match j, hj with
    | 0, _ => simp [upd, t0]
    | 1, _ => simp [upd, t1]
    | 2, _ => simp [upd, t2]
    | 3, _ => exact absurd rfl h3
    | 4, _ => simp [upd, t4]
    | j + 5, h => omega
  · split
    · match j, hj with
      | 0, _ => simp [upd, t0]
      | 1, _ => simp [upd, t1]
      | 2, _ => simp [upd, t2]
      | 3, _ => exact absurd rfl h3
      | 4, _ => simp [upd, t4]
      | j + 5, h => omega
    · match j, hj with
      | 0, _ => exact t0
      | 1, _ => simp only [t1]
      | 2, _ => simp only [t2]
      | 3, _ => exact absurd rfl h3
      | 4, _ => simp only [t4]
      | j + 5, h => omega
theorem fRec_lo {k j : Nat} {v : Int32} {σ : sT} (h : 211 ≤ j) (h2 : j < 275) : (fRec k v σ).2 j = σ j := by
  unfold fRec
  split
  · exact sNote_ne (by omega) (by omega) (by omega)
  · split
    · exact sNote_ne (by omega) (by omega) (by omega)
    · split
      · exact sNote_ne (by omega) (by omega) (by omega)
      · rfl
theorem free_ff {σ : sT} {p : Nat} : ∀ {k j : Nat}, ffree σ p k ≤ j → j < k → σ (211 + 32 * p + j) = 65535
  | 0, j, _, h => absurd h (by omega)
  | k + 1, j, h1, h2 => by
    unfold ffree at h1
    split at h1
    · rename_i e
      by_cases q : j = k
      · subst q; exact e
      · exact free_ff h1 (by omega)
    · omega
theorem headB_c {σ σ' : sT} {p : Nat} (e : σ' (211 + 32 * p) = σ (211 + 32 * p)) : headB σ' p = headB σ p := by unfold headB; rw [e]
theorem act_c {σ σ' : sT} (e0 : σ' 211 = σ 211) (e1 : σ' 243 = σ 243) : activeI σ' = activeI σ := by
  have a0 : headB σ' 0 = headB σ 0 := headB_c e0
  have a1 : headB σ' 1 = headB σ 1 := headB_c e1
  have g0 : genI σ' 0 = genI σ 0 := by unfold genI; rw [show 211 + 32 * 0 = 211 from rfl, e0]
  have g1 : genI σ' 1 = genI σ 1 := by unfold genI; rw [show 211 + 32 * 1 = 243 from rfl, e1]
  unfold activeI
  rw [a0, a1, g0, g1]
theorem told_p {σ : sT} {p : Nat} (hp : p < 2) (h : activeI σ = nI p) : told σ = tellK σ p (nJ σ) := by
  unfold told
  rw [if_neg (by rw [h]; exact nI_nm1 (by omega)), h, tn_nI (by omega)]
theorem free_pos {σ : sT} {p k : Nat} (h : headB σ p = true) (hk : 0 < k) : 1 ≤ ffree σ p k := by
  have h1 := free_1 h
  induction k with
  | zero => omega
  | succ k ih =>
    by_cases q : k = 0
    · subst q; exact Nat.le_of_eq (free_1 h).symm
    · have := ih (by omega)
      unfold ffree
      split
      · exact this
      · omega
/-- behind a record written to the first free word -/
theorem told_put {σ : sT} {p k : Nat} {v : Int32} (h : Inv σ) (hp : p < 2) (ha : activeI σ = nI p) (hf : ffree σ p (nJ σ) < nJ σ) (hr : okR k v) (ok : (fPut k v σ).1 = true) : told (fPut k v σ).2 = takeI (told σ) (nI k) v ∧ activeI (fPut k v σ).2 = nI p := by
  have hb := h.bd
  have hs : sHas σ = true := by
    rw [fPut_p hp ha] at ok
    by_cases q : sHas σ = true
    · exact q
    · rw [sq_n (fWr_e (Bool.eq_false_iff.mpr q))] at ok
      exact absurd (show false = true from ok) (by decide)
  have e := fPut_e (k := k) (v := v) hp ha hs rfl
  rw [if_pos rfl] at e
  rw [e]
  dsimp only
  have h1 := free_pos (head_act ha hp) (show 0 < nJ σ by omega)
  generalize hq : ffree σ p (nJ σ) = q at hf h1 ⊢
  have hc : ∀ j, 211 ≤ j → j < 275 → j ≠ 211 + 32 * p + q → (fRec k v (sWr σ (211 + 32 * p + q) (wordI (nI k) v))).2 j = σ j := fun j a b c => by
    rw [fRec_lo a b, sWr_ne c (by omega) (by omega)]
  have hw : (fRec k v (sWr σ (211 + 32 * p + q) (wordI (nI k) v))).2 (211 + 32 * p + q) = wordI (nI k) v := by
    rw [fRec_lo (by omega) (by omega), sWr_at hs, free_ff (σ := σ) (p := p) (k := nJ σ) (by rw [hq]; exact Nat.le_refl _) hf]
    exact and_ff hr.w.2.2.2.1
  have hJ : nJ (fRec k v (sWr σ (211 + 32 * p + q) (wordI (nI k) v))).2 = nJ σ := (nJ_of (fRec_ne Kp_2)).trans (nJ_of (sWr_ne (by omega) (by decide) (by decide)))
  generalize (fRec k v (sWr σ (211 + 32 * p + q) (wordI (nI k) v))).2 = σ' at hc hw hJ ⊢
  have hact : activeI σ' = nI p := by
    rw [← ha]
    exact act_c (hc _ (by omega) (by omega) (by omega)) (hc _ (by omega) (by omega) (by omega))
  refine ⟨?_, hact⟩
  rw [told_p hp hact, told_p hp ha, hJ]
  obtain ⟨b1, b2, b3⟩ := hr.rec (σ := σ') (p := p) (j := q) (by omega) hw
  have e1 : tellK σ' p (nJ σ) = tellK σ' p (q + 1) := tell_ff (by omega) (fun j a b => by
    rw [hc _ (by omega) (by omega) (by omega)]
    exact free_ff (by omega) b)
  have e2 : tellK σ p (nJ σ) = tellK σ p q := tell_ff (by omega) (fun j a b => free_ff (by omega) b)
  have e3 : tellK σ' p q = tellK σ p q := tell_congr (fun j a b => hc _ (by omega) (by omega) (by omega))
  rw [e1, e2, tellK, if_pos b1, b2, b3, e3]
/-- what the states told obey: no slot is good or new, and bad -/
def TauC (τ : sT) : Prop := (∀ s, s < 2 → τ 1 = nI s → badB τ s = false) ∧ (∀ s, s < 2 → τ 2 = nI s → badB τ s = false)
theorem one_bad {b : Int32} (h : bads b) {s t : Nat} (hs : s < 2) (ht : t < 2) : (((b &&& ((1 <<< (nI s &&& 31)) ^^^ (-1))) >>> (nI t &&& 31)) &&& 1 = 0) ↔ (t = s ∨ (b >>> (nI t &&& 31)) &&& 1 = 0) := by
  obtain ⟨a, ha, rfl⟩ := h
  match a, ha, s, hs, t, ht with
  | 0, _, 0, _, 0, _ => decide
  | 1, _, 0, _, 0, _ => decide
  | 2, _, 0, _, 0, _ => decide
  | 3, _, 0, _, 0, _ => decide
  | 0, _, 1, _, 0, _ => decide
  | 1, _, 1, _, 0, _ => decide
  | 2, _, 1, _, 0, _ => decide
  | 3, _, 1, _, 0, _ => decide
  | 0, _, 0, _, 1, _ => decide
  | 1, _, 0, _, 1, _ => decide
  | 2, _, 0, _, 1, _ => decide
  | 3, _, 0, _, 1, _ => decide
  | 0, _, 1, _, 1, _ => decide
  | 1, _, 1, _, 1, _ => decide
  | 2, _, 1, _, 1, _ => decide
  | 3, _, 1, _, 1, _ => decide
theorem or_bad {b : Int32} (h : bads b) {s t : Nat} (hs : s < 2) (ht : t < 2) : (((b ||| (1 <<< (nI s &&& 31))) >>> (nI t &&& 31)) &&& 1 = 0) ↔ (¬ t = s ∧ (b >>> (nI t &&& 31)) &&& 1 = 0) := by
  obtain ⟨a, ha, rfl⟩ := h
  match a, ha, s, hs, t, ht with
  | 0, _, 0, _, 0, _ => decide
  | 1, _, 0, _, 0, _ => decide
  | 2, _, 0, _, 0, _ => decide
  | 3, _, 0, _, 0, _ => decide
  | 0, _, 1, _, 0, _ => decide
  | 1, _, 1, _, 0, _ => decide
  | 2, _, 1, _, 0, _ => decide
  | 3, _, 1, _, 0, _ => decide
  | 0, _, 0, _, 1, _ => decide
  | 1, _, 0, _, 1, _ => decide
  | 2, _, 0, _, 1, _ => decide
  | 3, _, 0, _, 1, _ => decide
  | 0, _, 1, _, 1, _ => decide
  | 1, _, 1, _, 1, _ => decide
  | 2, _, 1, _, 1, _ => decide
  | 3, _, 1, _, 1, _ => decide

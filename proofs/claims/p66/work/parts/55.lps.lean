/-! LOOPS over the flash and the journal, in numbers -/
def sumL (f : Nat → Int32) (a : Nat) : Nat → Int32
  | 0 => 0
  | k + 1 => if k < a then 0 else sumL f a k + f k
theorem sumL_0 {f : Nat → Int32} : ∀ {a : Nat}, sumL f a a = 0
  | 0 => rfl
  | _ + 1 => if_pos (Nat.lt_succ_self _)
theorem sumL_s {f : Nat → Int32} {a k : Nat} (h : a ≤ k) : sumL f a (k + 1) = sumL f a k + f k := if_neg (by omega)
def orL (f : Nat → Int32) : Nat → Int32
  | 0 => 0
  | k + 1 => orL f k ||| f k
def fstI (P : Nat → Bool) (e : Int32) : Nat → Nat → Int32
  | 0, _ => e
  | t + 1, k => if P k = true then nI k else fstI P e t (k + 1)
theorem fst_y {P : Nat → Bool} {e : Int32} {n k : Nat} (h : k < n) (hp : P k = true) : fstI P e (n - k) k = nI k := by
  rw [show n - k = (n - (k + 1)) + 1 by omega, fstI, if_pos hp]
theorem fst_n {P : Nat → Bool} {e : Int32} {n k : Nat} (h : k < n) (hp : P k = false) : fstI P e (n - k) k = fstI P e (n - (k + 1)) (k + 1) := by
  rw [show n - k = (n - (k + 1)) + 1 by omega, fstI, if_neg (by rw [hp]; decide)]
theorem fst_e {P : Nat → Bool} {e : Int32} {n k : Nat} (h : ¬ k < n) : fstI P e (n - k) k = e := by
  rw [show n - k = 0 by omega]; rfl
theorem fst_o {P : Nat → Bool} {e : Int32} : ∀ {t k : Nat}, (∃ j, k ≤ j ∧ j < k + t ∧ P j = true ∧ fstI P e t k = nI j) ∨ ((∀ j, k ≤ j → j < k + t → P j = false) ∧ fstI P e t k = e)
  | 0, k => Or.inr ⟨fun j h1 h2 => absurd h2 (by omega), rfl⟩
  | t + 1, k => by
    by_cases hp : P k = true
    · exact Or.inl ⟨k, Nat.le_refl _, by omega, hp, if_pos hp⟩
    · have e1 : fstI P e (t + 1) k = fstI P e t (k + 1) := if_neg hp
      rcases fst_o (P := P) (e := e) (t := t) (k := k + 1) with ⟨j, h1, h2, h3, h4⟩ | ⟨h1, h2⟩
      · exact Or.inl ⟨j, by omega, by omega, h3, e1.trans h4⟩
      · refine Or.inr ⟨fun j h3 h4 => ?_, e1.trans h2⟩
        by_cases e2 : j = k
        · subst e2; exact Bool.eq_false_iff.mpr hp
        · exact h1 j (by omega) (by omega)
theorem sl_n (s : Int32) : (∃ j, j < 2 ∧ s = nI j) ∨ inI s 0 1 = false := by
  rcases sl_c s with rfl | rfl | h
  · exact Or.inl ⟨0, by decide, rfl⟩
  · exact Or.inl ⟨1, by decide, rfl⟩
  · exact Or.inr h
theorem sl_i {j : Nat} (h : j < 2) : inI (nI j) 0 1 = true := rg_t (a := 0) (b := 1) (Nat.zero_le _) (by omega) (by decide)
theorem nI_ne2 {j : Nat} (h : j < 2) : ¬ nI j = 2 := fun e => by have := (nI_eq (a := j) (b := 2) (by omega) (by decide)).mp e; omega
def bitP (p : Nat) : Int32 := 1 <<< (nI p &&& 31)
def wornF (σ : sT) (s p : Nat) : Int32 := if 0 < σ 5 ∧ σ 5 < σ (275 + 16 * s + p) then bitP p else 0
def a_worn (σ : sT) (s : Nat) : Int32 := orL (wornF σ s) (nW σ / nP σ)
def verP (σ : sT) (s k : Nat) : Bool := !decide (σ (19 + k) = σ (83 + 64 * s + 3 + k))
def verE (σ : sT) (s : Nat) : Int32 := if σ 4 = σ (83 + 64 * s + 1) then -1 else σ 4
def a_ver (σ : sT) (s : Nat) : Int32 := fstI (verP σ s) (verE σ s) (nS σ - 0) 0
def mwPg (σ : sT) (a : Nat) : Nat → Int32 × Int32 → Int32 × Int32
  | 0, x => x
  | p + 1, x => if (mwPg σ a p x).2 < σ (275 + 16 * a + p) then (nI (100 * a + p), σ (275 + 16 * a + p)) else mwPg σ a p x
def mwAr (σ : sT) : Nat → Int32 × Int32
  | 0 => (0, -1)
  | a + 1 => mwPg σ a (pgN σ (nI a)) (mwAr σ a)
theorem mw_y {σ : sT} {a p : Nat} {x y : Int32 × Int32} (hx : mwPg σ a p x = y) (h : y.2 < σ (275 + 16 * a + p)) : mwPg σ a (p + 1) x = (nI (100 * a + p), σ (275 + 16 * a + p)) := by subst hx; exact if_pos h
theorem mw_n {σ : sT} {a p : Nat} {x y : Int32 × Int32} (hx : mwPg σ a p x = y) (h : ¬ y.2 < σ (275 + 16 * a + p)) : mwPg σ a (p + 1) x = y := by subst hx; exact if_neg h
theorem pg_bd {σ : sT} (h : Inv σ) {a p : Nat} (ha : a < 3) (hp : p < pgN σ (nI a)) : 275 + 16 * a + p < 309 := by
  have h16 := pgN_16 h (nI a)
  by_cases e : a = 2
  · subst e
    have := pgN_2 (σ := σ)
    have h2 : p < pgN σ 2 := hp
    omega
  · omega
def dwF (σ : sT) (s k : Nat) : Int32 := if anyB (fun i => decide (σ (83 + 64 * s + 3 + i) = σ (83 + 64 * s + 3 + k))) k = true then 0 else 1
def a_dw (σ : sT) (s : Nat) : Int32 := if wholeB σ s = true then sumL (dwF σ s) 0 (tn (σ (83 + 64 * s + 1))) else 0
def dfF (σ : sT) (k : Nat) : Int32 := if σ (83 + 64 * 0 + k) = σ (83 + 64 * 1 + k) then 0 else 1
def a_df (σ : sT) : Int32 := sumL (dfF σ) 0 (nW σ)
def zbF (σ : sT) (s k : Nat) : Int32 := 16 - onesI (σ (83 + 64 * s + k)) 16
def a_zb (σ : sT) (s : Nat) : Int32 := sumL (zbF σ s) 0 (nW σ)
def raP (σ : sT) (p : Nat) (i : Int32) (k : Nat) : Bool := recB σ p k && decide (i = nI (cntN σ p k))
def recAt (σ : sT) (i : Int32) : Int32 := if activeI σ = -1 then -1 else fstI (raP σ (tn (activeI σ)) i) (-1) (nJ σ - 1) 1
def a_cnt (σ : sT) : Int32 := if activeI σ = -1 then 0 else nI (cntN σ (tn (activeI σ)) (nJ σ))
def a_rec (σ : sT) (i w : Int32) : Int32 := if recAt σ i = -1 then -1 else if w = 0 then kindI (σ (211 + 32 * tn (activeI σ) + tn (recAt σ i))) else if w = 1 then valI (σ (211 + 32 * tn (activeI σ) + tn (recAt σ i))) else recAt σ i
def a_spl (σ : sT) : Int32 := if activeI σ = -1 then 0 else nI (splN σ (tn (activeI σ)) (nJ σ))
def tpF (σ : sT) (s p : Nat) : Int32 := if spentB σ s p (payS σ) (nS σ) = true then bitP p else 0
def a_tp (σ : sT) : Int32 := if σ 7 = 1 ∧ ¬ σ 4 = 0 then orL (tpF σ (1 - tn (σ 8))) (nW σ / nP σ) else 0
theorem sub_0 {x y : Int32} : x - y = 0 ↔ x = y := by
  constructor
  · intro h
    have := congrArg (· + y) h
    simpa [Int32.sub_add_cancel] using this
  · rintro rfl
    exact Int32.sub_self x
theorem ra_dec {i : Int32} {c : Nat} : i - nI c + -1 = i - nI (c + 1) := by
  rw [← nI_add c 1, show nI 1 = (1 : Int32) from rfl, Int32.sub_eq_add_neg, Int32.sub_eq_add_neg, Int32.neg_add, Int32.add_assoc, Int32.sub_eq_add_neg]
theorem recAt_p {σ : sT} {p : Nat} {i : Int32} (hp : p < 2) (h : activeI σ = nI p) : recAt σ i = fstI (raP σ p i) (-1) (nJ σ - 1) 1 := by
  unfold recAt
  rw [if_neg (by rw [h]; exact nI_nm1 (by omega)), h, tn_nI (by omega)]
theorem recAt_n {σ : sT} {i : Int32} (h : Inv σ) (hn : ¬ recAt σ i = -1) : ∃ p k, p < 2 ∧ activeI σ = nI p ∧ 1 ≤ k ∧ k < nJ σ ∧ k < 32 ∧ recAt σ i = nI k ∧ recB σ p k = true ∧ i = nI (cntN σ p k) := by
  have hb := h.bd
  by_cases ha : activeI σ = -1
  · exact absurd (if_pos ha) hn
  · obtain ⟨p, hp, e⟩ := act_n rfl ha
    have e1 := recAt_p (i := i) hp e
    rcases fst_o (P := raP σ p i) (e := -1) (t := nJ σ - 1) (k := 1) with ⟨j, h1, h2, h3, h4⟩ | ⟨_, h2⟩
    · simp only [raP, Bool.and_eq_true, decide_eq_true_eq] at h3
      exact ⟨p, j, hp, e, h1, by omega, by omega, e1.trans h4, h3.1, h3.2⟩
    · exact absurd (e1.trans h2) hn
theorem cntN_mono {σ : sT} {p : Nat} : ∀ {j k : Nat}, j ≤ k → cntN σ p j ≤ cntN σ p k
  | j, 0, h => by rw [show j = 0 by omega]; exact Nat.le_refl _
  | j, k + 1, h => by
    by_cases e : j = k + 1
    · subst e; exact Nat.le_refl _
    · have h1 := cntN_mono (σ := σ) (p := p) (j := j) (k := k) (by omega)
      have h2 : cntN σ p k ≤ cntN σ p (k + 1) := by rw [cntN]; split <;> omega
      omega
theorem cntN_1 {σ : sT} {p : Nat} : cntN σ p 1 = 0 := by
  rw [cntN, if_neg (by simp [recB]), cntN]
theorem cntN_at {σ : sT} {p n : Nat} : ∀ {J : Nat}, n < cntN σ p J → ∃ k, 1 ≤ k ∧ k < J ∧ recB σ p k = true ∧ cntN σ p k = n
  | 0, h => absurd h (Nat.not_lt_zero _)
  | J + 1, h => by
    by_cases e : n < cntN σ p J
    · obtain ⟨k, h1, h2, h3⟩ := cntN_at e
      exact ⟨k, h1, by omega, h3⟩
    · rw [cntN] at h
      split at h
      · rename_i hr
        refine ⟨J, ?_, Nat.lt_succ_self _, hr, by omega⟩
        rcases Nat.eq_zero_or_pos J with rfl | q
        · simp [recB] at hr
        · exact q
      · exact absurd h e
theorem recAt_i {σ : sT} {p n : Nat} (h : Inv σ) (hn : n < 2 ^ 31) (hp : p < 2) (ha : activeI σ = nI p) : ¬ recAt σ (nI n) = -1 ↔ n < cntN σ p (nJ σ) := by
  have hb := h.bd
  have hc := cntN_le σ p (nJ σ)
  constructor
  · intro hq
    obtain ⟨p', k, hp', ha', h1, h2, h3, h4, h5, h6⟩ := recAt_n h hq
    have e : p' = p := (nI_eq (by omega) (by omega)).mp (ha'.symm.trans ha)
    subst e
    have hk := cntN_le σ p' k
    have e2 : n = cntN σ p' k := (nI_eq hn (by omega)).mp h6
    have h7 : cntN σ p' (k + 1) ≤ cntN σ p' (nJ σ) := cntN_mono (by omega)
    rw [cntN, if_pos h5] at h7
    omega
  · intro hq e
    obtain ⟨k, h1, h2, h3, h4⟩ := cntN_at hq
    have hk := cntN_le σ p k
    have e1 := recAt_p (i := nI n) hp ha
    rcases fst_o (P := raP σ p (nI n)) (e := -1) (t := nJ σ - 1) (k := 1) with ⟨j, g1, g2, g3, g4⟩ | ⟨g1, _⟩
    · rw [e1, g4] at e
      exact absurd e (nI_nm1 (by omega))
    · have := g1 k h1 (by omega)
      simp only [raP, h3, Bool.true_and, decide_eq_false_iff_not] at this
      exact this (by rw [h4])
theorem recAt_lt {σ : sT} {n : Nat} (h : Inv σ) (hn : n < 2 ^ 31) (hq : ¬ recAt σ (nI n) = -1) : n < 32 := by
  have hb := h.bd
  obtain ⟨p, k, hp, ha, _⟩ := recAt_n h hq
  have h1 := (recAt_i h hn hp ha).mp hq
  have h2 := cntN_le σ p (nJ σ)
  omega
theorem cnt_end {σ : sT} {n : Nat} (h : Inv σ) (hn : n < 2 ^ 31) (hq : recAt σ (nI n) = -1) (hj : ∀ j, j < n → ¬ recAt σ (nI j) = -1) : a_cnt σ = nI n := by
  have hb := h.bd
  unfold a_cnt
  by_cases ha : activeI σ = -1
  · rw [if_pos ha]
    match n, hj with
    | 0, _ => rfl
    | n + 1, hj => exact absurd (if_pos ha) (hj n (Nat.lt_succ_self _))
  · obtain ⟨p, hp, e⟩ := act_n rfl ha
    rw [if_neg ha, e, tn_nI (by omega)]
    have h1 : ¬ n < cntN σ p (nJ σ) := fun q => (recAt_i h hn hp e).mpr q hq
    have h2 := cntN_le σ p (nJ σ)
    congr 1
    rcases Nat.lt_or_ge (cntN σ p (nJ σ)) n with q | q
    · exact absurd ((recAt_i h (by omega) hp e).mp (hj _ q)) (Nat.lt_irrefl _)
    · omega
/-- snapshots of the reference -/
def SnR (m : Nat) (I : mI) (sn : Nat → Option sT) : Prop := ∀ k, k < 2 → (sn k = none → I (m + 6) k = 0) ∧ ∀ τ, sn k = some τ → I (m + 6) k = 1 ∧ RelW (I (m + 4 + k)) τ
theorem SnR.of {m : Nat} {I I' : mI} {sn : Nat → Option sT} (h : SnR m I sn) (h4 : I' (m + 4) = I (m + 4)) (h5 : I' (m + 5) = I (m + 5)) (h6 : I' (m + 6) = I (m + 6)) : SnR m I' sn := by
  intro k hk
  rw [h6]
  have : I' (m + 4 + k) = I (m + 4 + k) := by
    match k, hk with
    | 0, _ => exact h4
    | 1, _ => exact h5
    | k + 2, hk => omega
  rw [this]
  exact h k hk
def svS (s : Int32) (σ : sT) (sn : Nat → Option sT) : Nat → Option sT := if inI s 0 1 = true then fun k => if k = tn s then some σ else sn k else sn
def rsA (s : Int32) (sn : Nat → Option sT) : Int32 := match sn (tn s) with | none => -1 | some τ => τ 9
def rsT (s : Int32) (σ : sT) (sn : Nat → Option sT) : sT := if inI s 0 1 = true then (sn (tn s)).getD σ else σ
theorem RelW.cp {w w' σ : sT} (h : RelW w σ) (hL : nL σ ≤ 40) (e : ∀ k, k < 429 → w' k = w k) : RelW w' σ :=
  ⟨fun k hk => (e k (by omega)).trans (h.1 k hk), fun r c hr hc => (e _ (by omega)).trans (h.2 r c hr hc)⟩

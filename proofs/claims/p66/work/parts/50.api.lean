/-! THE CALLS, in numbers: the code of what is thrown, the answer, the state behind -/
def cIn (v a b : Int32) : Int32 := if inI v a b = true then 0 else 1
theorem cIn_t {v a b : Int32} (h : inI v a b = true) : cIn v a b = 0 := if_pos h
theorem cIn_f {v a b : Int32} (h : inI v a b = false) : cIn v a b = 1 := if_neg (by rw [h]; decide)
/-- an index below k -/
def inb (i : Int32) (k : Nat) : Bool := decide (0 ≤ i) && decide (i < nI k)
theorem inb_c (i : Int32) (k : Nat) (hk : k < 2 ^ 31) : (∃ j, j < k ∧ i = nI j) ∨ inb i k = false := by
  by_cases h : inb i k = true
  · unfold inb at h
    simp only [Bool.and_eq_true, decide_eq_true_eq] at h
    obtain ⟨j, hj, rfl⟩ := nI_of (x := i) (fun q => Int32.not_lt.mpr h.1 q)
    exact Or.inl ⟨j, (nI_ltI hj hk).mp h.2, rfl⟩
  · exact Or.inr (Bool.eq_false_iff.mpr h)
theorem inb_t {j k : Nat} (h : j < k) (hk : k < 2 ^ 31) : inb (nI j) k = true := by
  unfold inb
  rw [decide_eq_true (show (0 : Int32) ≤ nI j from (nI_leI (a := 0) (by decide) (by omega)).mpr (Nat.zero_le _)), decide_eq_true ((nI_ltI (by omega) hk).mpr h)]
  rfl
theorem inb_inI {i : Int32} {k : Nat} (hk : k < 2 ^ 31) : inI i 0 (nI k - 1) = inb i k := by
  unfold inI inb
  have e : (nI k - 1).toInt = (k : Int) - 1 := by
    rw [Int32.toInt_sub, nI_toInt hk]
    show ((k : Int) - 1).bmod (2 ^ 32) = _
    rw [Int.bmod_eq_of_le (by omega) (by omega)]
  congr 1
  rw [decide_eq_decide, Int32.le_iff_toInt_le, Int32.lt_iff_toInt_lt, e, nI_toInt hk]
  omega
theorem inb_no {i : Int32} {k : Nat} (h : inb i k = false) : i < 0 ∨ nI k ≤ i := by
  unfold inb at h
  rw [Bool.and_eq_false_iff] at h
  rcases h with h | h
  · exact Or.inl (Int32.not_le.mp (of_decide_eq_false h))
  · exact Or.inr (Int32.not_lt.mp (of_decide_eq_false h))
theorem sl_c (s : Int32) : s = 0 ∨ s = 1 ∨ inI s 0 1 = false := by
  by_cases h : inI s 0 1 = true
  · simp only [inI, Bool.and_eq_true, decide_eq_true_eq] at h
    obtain ⟨j, hj, rfl⟩ := nI_of (x := s) (fun q => Int32.not_lt.mpr h.1 q)
    have := (nI_leI (b := 1) hj (by decide)).mp h.2
    match j, this with
    | 0, _ => exact Or.inl rfl
    | 1, _ => exact Or.inr (Or.inl rfl)
    | j + 2, h => omega
  · exact Or.inr (Or.inr (Bool.eq_false_iff.mpr h))
theorem ar_c (s : Int32) : s = 0 ∨ s = 1 ∨ s = 2 ∨ inI s 0 2 = false := by
  by_cases h : inI s 0 2 = true
  · simp only [inI, Bool.and_eq_true, decide_eq_true_eq] at h
    obtain ⟨j, hj, rfl⟩ := nI_of (x := s) (fun q => Int32.not_lt.mpr h.1 q)
    have := (nI_leI (b := 2) hj (by decide)).mp h.2
    match j, this with
    | 0, _ => exact Or.inl rfl
    | 1, _ => exact Or.inr (Or.inl rfl)
    | 2, _ => exact Or.inr (Or.inr (Or.inl rfl))
    | j + 3, h => omega
  · exact Or.inr (Or.inr (Or.inr (Bool.eq_false_iff.mpr h)))
theorem rg_c (v : Int32) (a b : Nat) (ha : a < 2 ^ 31) (hb : b < 2 ^ 31) : (∃ j, a ≤ j ∧ j ≤ b ∧ v = nI j) ∨ inI v (nI a) (nI b) = false := by
  by_cases h : inI v (nI a) (nI b) = true
  · simp only [inI, Bool.and_eq_true, decide_eq_true_eq] at h
    have h0 : (0 : Int32) ≤ nI a := (nI_leI (a := 0) (by decide) ha).mpr (Nat.zero_le _)
    obtain ⟨j, hj, rfl⟩ := nI_of (x := v) (fun q => Int32.not_lt.mpr (Int32.le_trans h0 h.1) q)
    exact Or.inl ⟨j, (nI_leI ha hj).mp h.1, (nI_leI hj hb).mp h.2, rfl⟩
  · exact Or.inr (Bool.eq_false_iff.mpr h)
theorem st_c (w : Int32) : w = 0 ∨ w = 1 ∨ w = 2 ∨ w = 3 ∨ w = 4 ∨ w = 5 ∨ inI w 0 5 = false := by
  rcases rg_c w 0 5 (by decide) (by decide) with ⟨j, _, h, rfl⟩ | h
  · match j, h with
    | 0, _ => exact Or.inl rfl
    | 1, _ => exact Or.inr (Or.inl rfl)
    | 2, _ => exact Or.inr (Or.inr (Or.inl rfl))
    | 3, _ => exact Or.inr (Or.inr (Or.inr (Or.inl rfl)))
    | 4, _ => exact Or.inr (Or.inr (Or.inr (Or.inr (Or.inl rfl))))
    | 5, _ => exact Or.inr (Or.inr (Or.inr (Or.inr (Or.inr (Or.inl rfl)))))
    | j + 6, h => omega
  · exact Or.inr (Or.inr (Or.inr (Or.inr (Or.inr (Or.inr h)))))
theorem tl_c (w : Int32) : w = 0 ∨ w = 1 ∨ w = 2 ∨ w = 3 ∨ w = 4 ∨ inI w 0 4 = false := by
  rcases rg_c w 0 4 (by decide) (by decide) with ⟨j, _, h, rfl⟩ | h
  · match j, h with
    | 0, _ => exact Or.inl rfl
    | 1, _ => exact Or.inr (Or.inl rfl)
    | 2, _ => exact Or.inr (Or.inr (Or.inl rfl))
    | 3, _ => exact Or.inr (Or.inr (Or.inr (Or.inl rfl)))
    | 4, _ => exact Or.inr (Or.inr (Or.inr (Or.inr (Or.inl rfl))))
    | j + 5, h => omega
  · exact Or.inr (Or.inr (Or.inr (Or.inr (Or.inr h))))
def a_stage (σ : sT) (_w : Int32) : Int32 := if nS σ + 3 = nW σ then -2 else nI (nS σ + 1)
def t_stage (σ : sT) (w : Int32) : sT := if inI w 0 65535 = true then (if nS σ + 3 = nW σ then σ else upd (upd σ (19 + nS σ) w) 4 (nI (nS σ + 1))) else σ
def a_staged (σ : sT) (i : Int32) : Int32 := if inb i (nS σ) = true then σ (19 + tn i) else -1
def setAt (w : Int32) : Nat := tn w
def t_power (σ : sT) (p : Int32) : sT := if inI p (-1) 100000 = true then upd σ 6 p else σ
def t_upd (v : Int32) (thr : Bool) (σ : sT) : sT := if inI v 1 255 = true then (fUpd v thr σ).2 else σ
def cRcv (s v : Int32) : Int32 := if inI s 0 1 = true ∧ inI v 1 255 = true then 0 else 1
def t_rcv (s v : Int32) (σ : sT) : sT := if cRcv s v = 0 then (fRcv (tn s) v σ).2 else σ
def a_word (σ : sT) (s i : Int32) : Int32 := if inb i (nW σ) = true then σ (83 + 64 * tn s + tn i) else -1
def a_jword (σ : sT) (p i : Int32) : Int32 := if inb i (nJ σ) = true then σ (211 + 32 * tn p + tn i) else -1
def pgN (σ : sT) (a : Int32) : Nat := if a = 2 then 2 else nW σ / nP σ
def cWear (σ : sT) (a p : Int32) : Int32 := if inI a 0 2 = true then (if inb p (pgN σ a) = true then 0 else 2) else 1
def a_wear (σ : sT) (a p : Int32) : Int32 := σ (275 + 16 * tn a + tn p)
def cDam (s i k : Int32) (n : Nat) : Int32 := if inI s 0 1 = true ∧ inI k 0 65535 = true then (if inb i n = true then 0 else 2) else 1
def a_gen (σ : sT) : Int32 := if activeI σ = -1 then -1 else genI σ (tn (activeI σ))
def freeN (σ : sT) : Nat := nJ σ - ffree σ (tn (activeI σ)) (nJ σ)
def a_free (σ : sT) : Int32 := if activeI σ = -1 then 0 else nI (freeN σ)
def a_left (σ : sT) : Int32 := if activeI σ = -1 then nI (nJ σ - 1) else nI (freeN σ)
def a_entry (σ : sT) (i w : Int32) : Int32 := if inb i (nL σ) = true then σ (1000 + 3 * (nL σ - 1 - tn i) + tn w) else -1
def onesI (x : Int32) : Nat → Int32
  | 0 => 0
  | k + 1 => onesI x k + ((x >>> (nI k &&& 31)) &&& 1)
def a_dam (σ : sT) (a : Nat) (k : Int32) : Int32 := onesI (σ a &&& k) 16
def t_dam (σ : sT) (a : Nat) (k : Int32) : sT := upd σ a (σ a &&& (k ^^^ (-1)))
def t_dams (σ : sT) (s i k : Int32) : sT := if cDam s i k (nW σ) = 0 then t_dam σ (83 + 64 * tn s + tn i) k else σ
def t_damj (σ : sT) (s i k : Int32) : sT := if cDam s i k (nJ σ) = 0 then t_dam σ (211 + 32 * tn s + tn i) k else σ
theorem wmap {w σ : sT} {j c : Nat} (h : RelW w σ) (hj : j < nL σ) (hc : c < 3) : w (309 + 3 * j + c) = σ (1000 + 3 * (nL σ - 1 - j) + c) := by
  have := h.2 (nL σ - 1 - j) c (by omega) hc
  rw [show 309 + 3 * (nL σ - 1 - (nL σ - 1 - j)) + c = 309 + 3 * j + c by omega] at this
  exact this
theorem a_gen_y {σ : sT} {p : Nat} (hp : p < 2) (h : activeI σ = nI p) : a_gen σ = genI σ p := by
  unfold a_gen
  rw [if_neg (by rw [h]; exact nI_nm1 (by omega)), h, tn_nI (by omega)]
theorem a_free_y {σ : sT} {p : Nat} (hp : p < 2) (h : activeI σ = nI p) : a_free σ = nI (nJ σ - ffree σ p (nJ σ)) := by
  unfold a_free freeN
  rw [if_neg (by rw [h]; exact nI_nm1 (by omega)), h, tn_nI (by omega)]
theorem a_left_y {σ : sT} {p : Nat} (hp : p < 2) (h : activeI σ = nI p) : a_left σ = nI (nJ σ - ffree σ p (nJ σ)) := by
  unfold a_left freeN
  rw [if_neg (by rw [h]; exact nI_nm1 (by omega)), h, tn_nI (by omega)]
theorem told_of {σ : sT} {w : Int32} {f : Nat → Int32} (h : ∀ j, j < 5 → f j = told σ j) : f 0 = told σ 0 ∧ f 1 = told σ 1 ∧ f 2 = told σ 2 ∧ f 3 = told σ 3 ∧ f 4 = told σ 4 := ⟨h 0 (by decide), h 1 (by decide), h 2 (by decide), h 3 (by decide), h 4 (by decide)⟩
theorem rg_t {j a b : Nat} (h1 : a ≤ j) (h2 : j ≤ b) (hb : b < 2 ^ 31) : inI (nI j) (nI a) (nI b) = true := by
  unfold inI
  rw [decide_eq_true ((nI_leI (a := a) (b := j) (by omega) (by omega)).mpr h1), decide_eq_true ((nI_leI (a := j) (b := b) (by omega) hb).mpr h2)]
  rfl
theorem pgN_2 {σ : sT} : pgN σ 2 = 2 := if_pos rfl
theorem pgN_n {σ : sT} {a : Int32} (h : ¬ a = 2) : pgN σ a = nW σ / nP σ := if_neg h
theorem pgN_16 {σ : sT} (h : Inv σ) (a : Int32) : pgN σ a ≤ 16 := by
  have hb := h.bd
  unfold pgN
  split
  · decide
  · have h3 : nW σ / nP σ ≤ nW σ / 4 := Nat.div_le_div_left hb.2.2.1 (by decide)
    omega
theorem cDam_0 {s i k : Int32} {n : Nat} (hn : n < 2 ^ 31) (h : cDam s i k n = 0) : ∃ p, p < 2 ∧ s = nI p ∧ ∃ j, j < n ∧ i = nI j ∧ inI k 0 65535 = true := by
  unfold cDam at h
  split at h
  · rename_i h1
    split at h
    · rename_i h2
      rcases sl_c s with rfl | rfl | hs
      · rcases inb_c i n hn with ⟨j, hj, rfl⟩ | hi
        · exact ⟨0, by decide, rfl, j, hj, rfl, h1.2⟩
        · rw [hi] at h2; exact absurd h2 (by decide)
      · rcases inb_c i n hn with ⟨j, hj, rfl⟩ | hi
        · exact ⟨1, by decide, rfl, j, hj, rfl, h1.2⟩
        · rw [hi] at h2; exact absurd h2 (by decide)
      · rw [hs] at h1; exact absurd h1.1 (by decide)
    · exact absurd h (by decide)
  · exact absurd h (by decide)

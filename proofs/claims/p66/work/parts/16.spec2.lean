/-! images and the journal, in numbers -/
def ArG (n : Nat) (sh : mS) (ar len : Nat) : Prop := ar < n ∧ sh ar = .inr (0, len)
theorem ArG.l0 {n : Nat} {sh : mS} {ar len : Nat} (h : ArG n sh ar len) : ar < n := h.1
theorem ArG.s0 {n : Nat} {sh : mS} {ar len : Nat} (h : ArG n sh ar len) : sh ar = .inr (0, len) := h.2
def sumI (row : sT) (a : Nat) (s0 : Int32) : Nat → Int32
  | 0 => s0
  | k + 1 => (sumI row a s0 k + nI (k + 1) * row (a + 3 + k)) % 65536
def sumF (row : sT) (a : Nat) (v : Int32) (c : Nat) : Int32 := sumI row a (v + nI (3 * c)) c % 65536
theorem sumI_congr {r1 r2 : sT} {a b : Nat} {s0 : Int32} : ∀ {c : Nat}, (∀ k, k < c → r1 (a + 3 + k) = r2 (b + 3 + k)) → sumI r1 a s0 c = sumI r2 b s0 c
  | 0, _ => rfl
  | c + 1, h => by
    unfold sumI
    rw [sumI_congr (fun k hk => h k (by omega)), h c (by omega)]
theorem sumF_congr {r1 r2 : sT} {a b : Nat} {v : Int32} {c : Nat} (h : ∀ k, k < c → r1 (a + 3 + k) = r2 (b + 3 + k)) : sumF r1 a v c = sumF r2 b v c := by
  unfold sumF
  rw [sumI_congr h]
def toldB (σ : sT) (s : Nat) : Bool := inI (σ (83 + 64 * s)) 1 255 && inI (σ (83 + 64 * s + 1)) 1 (nI (nW σ - 3))
def sumS (σ : sT) (s : Nat) : Int32 := if toldB σ s = true then sumF σ (83 + 64 * s) (σ (83 + 64 * s)) (tn (σ (83 + 64 * s + 1))) else -1
def wholeB (σ : sT) (s : Nat) : Bool := toldB σ s && decide (σ (83 + 64 * s + 2) = sumS σ s)
theorem inI_n {x : Int32} {b : Nat} (hb : b < 2 ^ 31) (h : inI x 1 (nI b) = true) : x = nI (tn x) ∧ 1 ≤ tn x ∧ tn x ≤ b := by
  simp only [inI, Bool.and_eq_true, decide_eq_true_eq] at h
  obtain ⟨j, hj, rfl⟩ := nI_of (x := x) (fun q => by
    have h1 := Int32.le_iff_toInt_le.mp h.1
    have h2 := Int32.lt_iff_toInt_lt.mp q
    have e1 : (1 : Int32).toInt = 1 := by decide
    have e0 : (0 : Int32).toInt = 0 := by decide
    omega)
  rw [tn_nI hj]
  exact ⟨rfl, (nI_leI (a := 1) (by decide) hj).mp h.1, (nI_leI hj hb).mp h.2⟩
theorem toldB_n {σ : sT} {s : Nat} (hb : nW σ ≤ 64) (h : toldB σ s = true) : σ (83 + 64 * s + 1) = nI (tn (σ (83 + 64 * s + 1))) ∧ 1 ≤ tn (σ (83 + 64 * s + 1)) ∧ tn (σ (83 + 64 * s + 1)) ≤ nW σ - 3 := by
  simp only [toldB, Bool.and_eq_true] at h
  exact inI_n (by omega) h.2
def headB (σ : sT) (p : Nat) : Bool := rightI (σ (211 + 32 * p)) && decide (kindI (σ (211 + 32 * p)) = 6)
def genI (σ : sT) (p : Nat) : Int32 := valI (σ (211 + 32 * p))
def activeI (σ : sT) : Int32 := if headB σ 0 = true then (if headB σ 1 = true then (if inI ((genI σ 1 - genI σ 0 + 256) % 256) 1 127 = true then 1 else 0) else 0) else if headB σ 1 = true then 1 else -1
theorem act_n {σ : sT} {v : Int32} (e : activeI σ = v) (h : ¬ v = -1) : ∃ p : Nat, p < 2 ∧ v = nI p := by
  subst e
  unfold activeI at h ⊢
  split <;> (try split) <;> (try split) <;> first | exact ⟨0, by decide, rfl⟩ | exact ⟨1, by decide, rfl⟩ | (simp_all; done)
def recB (σ : sT) (p k : Nat) : Bool := decide (0 < k) && (rightI (σ (211 + 32 * p + k)) && !decide (kindI (σ (211 + 32 * p + k)) = 6))
def ffree (σ : sT) (p : Nat) : Nat → Nat
  | 0 => 0
  | k + 1 => if σ (211 + 32 * p + k) = 65535 then ffree σ p k else k + 1
theorem ffree_le (σ : sT) (p : Nat) : ∀ k, ffree σ p k ≤ k
  | 0 => Nat.le_refl 0
  | k + 1 => by
    have := ffree_le σ p k
    unfold ffree
    split <;> omega
def tau0 : sT := fun j => if j = 1 ∨ j = 2 then -1 else 0
def takeI (τ : sT) (k v : Int32) : sT :=
  if k = 1 then upd τ 0 (if τ 0 < v then v else τ 0)
  else if k = 4 then upd τ 3 (τ 3 + if τ 2 = v then 1 else 0)
  else fun j => match j with
    | 1 => if k = 2 then v else if k = 5 ∧ τ 1 = v then -1 else τ 1
    | 2 => if k = 3 then v else if τ 2 = v then -1 else τ 2
    | 3 => if k = 3 ∨ τ 2 = v then 0 else τ 3
    | 4 => if k = 5 then τ 4 ||| (1 <<< (v &&& 31)) else τ 4 &&& ((1 <<< (v &&& 31)) ^^^ (-1))
    | j => τ j
def tellK (σ : sT) (p : Nat) : Nat → sT
  | 0 => tau0
  | k + 1 => if recB σ p k = true then takeI (tellK σ p k) (kindI (σ (211 + 32 * p + k))) (valI (σ (211 + 32 * p + k))) else tellK σ p k
def told (σ : sT) : sT := if activeI σ = -1 then tau0 else tellK σ (tn (activeI σ)) (nJ σ)
theorem inI_6 {x : Int32} (h : inI x 1 6 = true) (h6 : ¬ x = 6) : x = 1 ∨ x = 2 ∨ x = 3 ∨ x = 4 ∨ x = 5 := by
  obtain ⟨e, h1, h2⟩ := inI_n (b := 6) (by decide) h
  generalize tn x = a at e h1 h2
  subst e
  match a, h1, h2 with
  | 1, _, _ => exact Or.inl rfl
  | 2, _, _ => exact Or.inr (Or.inl rfl)
  | 3, _, _ => exact Or.inr (Or.inr (Or.inl rfl))
  | 4, _, _ => exact Or.inr (Or.inr (Or.inr (Or.inl rfl)))
  | 5, _, _ => exact Or.inr (Or.inr (Or.inr (Or.inr rfl)))
  | 6, _, _ => exact absurd rfl h6
  | a + 7, _, h => omega
theorem recB_k {σ : sT} {p k : Nat} (h : recB σ p k = true) : kindI (σ (211 + 32 * p + k)) = 1 ∨ kindI (σ (211 + 32 * p + k)) = 2 ∨ kindI (σ (211 + 32 * p + k)) = 3 ∨ kindI (σ (211 + 32 * p + k)) = 4 ∨ kindI (σ (211 + 32 * p + k)) = 5 := by
  simp only [recB, rightI, Bool.and_eq_true, Bool.not_eq_true', decide_eq_false_iff_not] at h
  exact inI_6 h.2.1.1 h.2.2
def canB (σ : sT) (s : Nat) : Bool := wholeB σ s && (decide (told σ 0 ≤ σ (83 + 64 * s)) && decide ((told σ 4 >>> (nI s &&& 31)) &&& 1 = 0))

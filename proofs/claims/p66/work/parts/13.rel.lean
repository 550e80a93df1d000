/-! THE STATE in numbers, the reference's row, what a call of it may write -/
def nW (σ : sT) : Nat := tn (σ 0)
def nP (σ : sT) : Nat := tn (σ 1)
def nJ (σ : sT) : Nat := tn (σ 2)
def nS (σ : sT) : Nat := tn (σ 4)
def nL (σ : sT) : Nat := tn (σ 10)
def RelW (w σ : sT) : Prop := (∀ k, k < 309 → w k = σ k) ∧ ∀ r c, r < nL σ → c < 3 → w (309 + 3 * (nL σ - 1 - r) + c) = σ (1000 + 3 * r + c)
def wd (x : Int32) : Prop := ∃ a : Nat, a < 65536 ∧ x = nI a
def IvS (σ : sT) : Prop := σ 0 = nI (nW σ) ∧ 8 ≤ nW σ ∧ nW σ ≤ 64 ∧ σ 1 = nI (nP σ) ∧ 4 ≤ nP σ ∧ nP σ ≤ 16 ∧ nW σ % nP σ = 0 ∧ σ 2 = nI (nJ σ) ∧ 12 ≤ nJ σ ∧ nJ σ ≤ 32 ∧ σ 4 = nI (nS σ) ∧ nS σ + 3 ≤ nW σ
def IvL (σ : sT) : Prop := σ 10 = nI (nL σ) ∧ nL σ ≤ 40
def IvR (σ : sT) : Prop := (σ 7 = 0 ∧ σ 8 = -1) ∨ (σ 7 = 1 ∧ (σ 8 = 0 ∨ σ 8 = 1)) ∨ (σ 7 = 2 ∧ σ 8 = -1)
def IvC (σ : sT) : Prop := ∀ k, 19 ≤ k → k < 275 → wd (σ k)
def IvT (σ : sT) : Prop := (σ 3 = 1 ∨ σ 3 = 2 ∨ σ 3 = 3) ∧ (-1 : Int) ≤ (σ 6).toInt ∧ 0 ≤ (σ 5).toInt
def Inv (σ : sT) : Prop := IvS σ ∧ IvL σ ∧ IvR σ ∧ IvC σ ∧ IvT σ
theorem Inv.w0 {σ : sT} (h : Inv σ) : σ 0 = nI (nW σ) := h.1.1
theorem Inv.w1 {σ : sT} (h : Inv σ) : σ 1 = nI (nP σ) := h.1.2.2.2.1
theorem Inv.w2 {σ : sT} (h : Inv σ) : σ 2 = nI (nJ σ) := h.1.2.2.2.2.2.2.2.1
theorem Inv.w4 {σ : sT} (h : Inv σ) : σ 4 = nI (nS σ) := h.1.2.2.2.2.2.2.2.2.2.2.1
theorem Inv.w10 {σ : sT} (h : Inv σ) : σ 10 = nI (nL σ) := h.2.1.1
theorem Inv.bd {σ : sT} (h : Inv σ) : 8 ≤ nW σ ∧ nW σ ≤ 64 ∧ 4 ≤ nP σ ∧ nP σ ≤ 16 ∧ nW σ % nP σ = 0 ∧ 12 ≤ nJ σ ∧ nJ σ ≤ 32 ∧ nS σ + 3 ≤ nW σ ∧ nL σ ≤ 40 :=
  ⟨h.1.2.1, h.1.2.2.1, h.1.2.2.2.2.1, h.1.2.2.2.2.2.1, h.1.2.2.2.2.2.2.1, h.1.2.2.2.2.2.2.2.2.1, h.1.2.2.2.2.2.2.2.2.2.1, h.1.2.2.2.2.2.2.2.2.2.2.2, h.2.1.2⟩
/-- which cells of the reference, by their offsets, and which fields of its object may differ -/
def FF (m : Nat) (bs l : List Nat) (I I' : mI) : Prop := (∀ b, b ≠ m → (∀ o, o ∈ bs → b ≠ m + o) → I' b = I b) ∧ ∀ j, j ∉ l → I' m j = I m j
theorem FF.rf {m : Nat} {bs l : List Nat} {I : mI} : FF m bs l I I := ⟨fun _ _ _ => rfl, fun _ _ => rfl⟩
theorem FF.tr {m : Nat} {bs l : List Nat} {I I1 I2 : mI} (h : FF m bs l I I1) (h2 : FF m bs l I1 I2) : FF m bs l I I2 := ⟨fun b h3 h4 => (h2.1 b h3 h4).trans (h.1 b h3 h4), fun j hj => (h2.2 j hj).trans (h.2 j hj)⟩
theorem FF.mo {m : Nat} {bs l bs' l' : List Nat} {I I1 : mI} (h : FF m bs l I I1) (h1 : ∀ o, o ∈ bs → o ∈ bs') (h2 : ∀ o, o ∈ l → o ∈ l') : FF m bs' l' I I1 := ⟨fun b h3 h4 => h.1 b h3 (fun o ho => h4 o (h1 o ho)), fun j hj => h.2 j (fun q => hj (h2 j q))⟩
theorem FF.uf {m j : Nat} {bs l : List Nat} {I I1 : mI} {v : Int32} (h : FF m bs l I I1) (hj : j ∈ l) : FF m bs l I (up2 I1 m j v) := ⟨fun b h3 h4 => (up2_off h3).trans (h.1 b h3 h4), fun i hi => (up2_k (fun q => hi (by rw [q]; exact hj))).trans (h.2 i hi)⟩
theorem FF.ua {m o k : Nat} {bs l : List Nat} {I I1 : mI} {v : Int32} (h : FF m bs l I I1) (ho : o ∈ bs) (h0 : 0 < o) : FF m bs l I (up2 I1 (m + o) k v) := ⟨fun b h3 h4 => (up2_off (h4 o ho)).trans (h.1 b h3 h4), fun i hi => (up2_a (by omega)).trans (h.2 i hi)⟩
theorem RelW.up {w σ : sT} {k : Nat} {v : Int32} (h : RelW w σ) (hk : k < 309) (h10 : k ≠ 10) : RelW (upd w k v) (upd σ k v) := by
  have e : nL (upd σ k v) = nL σ := by simp [nL, upd, Ne.symm h10]
  refine ⟨fun j hj => ?_, fun r c hr hc => ?_⟩
  · by_cases hjk : j = k
    · simp [upd, hjk]
    · simp [upd, hjk, h.1 j hj]
  · rw [e] at hr ⊢
    have := h.2 r c hr hc
    simp only [upd]
    rw [if_neg (by omega), if_neg (by omega)]
    exact this
def sNote (σ : sT) (e : Nat) (x : Int32) : sT := fun k => if k = 10 then nI (min (nL σ + 1) 40) else if k = 11 + e then σ (11 + e) + 1 else if 1000 ≤ k then (if k = 1000 then nI e else if k = 1001 then x else if k = 1002 then σ 9 else σ (k - 3)) else σ k
def sTake (σ : sT) : sT := if σ 6 = 0 then upd σ 9 (σ 9 + 1) else if σ 6 ≤ 0 then upd σ 9 (σ 9 + 1) else upd (upd σ 9 (σ 9 + 1)) 6 (σ 6 - 1)
def sHas (σ : sT) : Bool := decide (¬ σ 6 = 0)
def sOff (σ : sT) : sT := upd (upd σ 7 0) 8 (-1)
def sCut (σ : sT) : sT := sNote (sOff σ) 1 0
/-- a write: the state behind it, whether there was power for it -/
def sWr (σ : sT) (k : Nat) (v : Int32) : sT := upd (sTake σ) k (σ k &&& (if sHas σ then v else v ||| 65280))
def sFill (σ : sT) (a c : Nat) (v : Int32) : sT := fun k => if a ≤ k ∧ k < a + c then v else σ k
/-- an erasure of c words from a on, with the wear at r -/
def sEr (σ : sT) (a c r : Nat) (v : Int32) : sT := upd (sFill (sTake σ) a (if sHas σ then c else c / 2) v) r (σ r + 1)
theorem nL_note {σ : sT} {e : Nat} {x : Int32} (h : nL σ ≤ 40) : nL (sNote σ e x) = min (nL σ + 1) 40 := by
  show tn (nI _) = _
  exact tn_nI (by omega)
/-- rows moved down by one entry, from 309 on, up to k -/
def shf (I : mI) (a k : Nat) : mI := fun b j => if b = a ∧ 309 ≤ j ∧ j < k then I b (j + 3) else I b j
theorem shf_0 (I : mI) (a : Nat) : shf I a 309 = I := by
  funext b j
  simp only [shf]
  rw [if_neg (by omega)]
theorem shf_s {I : mI} {a k : Nat} (h : 309 ≤ k) : up2 (shf I a k) a k (shf I a k a (k + 3)) = shf I a (k + 1) := by
  funext b j
  simp only [shf, up2]
  by_cases h1 : b = a
  · subst h1
    by_cases h2 : j = k
    · subst h2
      simp only [true_and, and_self, if_true]
      rw [if_neg (by omega), if_pos (by omega)]
    · rw [if_neg (by omega)]
      by_cases h3 : 309 ≤ j ∧ j < k
      · rw [if_pos (by omega), if_pos (by omega)]
      · rw [if_neg (by omega), if_neg (by omega)]
  · simp [h1]
theorem shf_fr {m k : Nat} {bs l : List Nat} {I I1 : mI} (h : FF m (1 :: bs) l I I1) : FF m (1 :: bs) l I (shf I1 (m + 1) k) := by
  refine ⟨fun b h3 h4 => ?_, fun j hj => ?_⟩
  · have hb : b ≠ m + 1 := h4 1 List.mem_cons_self
    rw [← h.1 b h3 h4]
    funext j
    simp [shf, hb]
  · rw [← h.2 j hj]
    simp [shf]
theorem note_end {w σ : sT} {e : Nat} {x : Int32} (hR : RelW w σ) (hL : IvL σ) (h : nL σ < 40) (he : e < 8) : RelW (upd (upd (upd (upd (upd w (11 + e) (σ (11 + e) + 1)) (309 + 3 * nL σ) (nI e)) (309 + 3 * nL σ + 1) x) (309 + 3 * nL σ + 2) (σ 9)) 10 (nI (nL σ + 1))) (sNote σ e x) := by
  have hn := nL_note (e := e) (x := x) hL.2
  rw [Nat.min_eq_left (by omega)] at hn
  refine ⟨fun k hk => ?_, fun r c hr hc => ?_⟩
  · simp only [sNote, upd]
    by_cases h1 : k = 10
    · rw [if_pos h1, if_pos h1, Nat.min_eq_left (by omega)]
    · rw [if_neg h1, if_neg h1, if_neg (by omega), if_neg (by omega), if_neg (by omega)]
      by_cases h2 : k = 11 + e
      · rw [if_pos h2, if_pos h2]
      · rw [if_neg h2, if_neg h2, if_neg (by omega)]
        exact hR.1 k hk
  · rw [hn] at hr ⊢
    simp only [sNote, upd]
    rw [if_neg (by omega)]
    by_cases hr0 : r = 0
    · subst hr0
      rw [if_neg (show ¬ 1000 + 3 * 0 + c = 10 by omega), if_neg (show ¬ 1000 + 3 * 0 + c = 11 + e by omega), if_pos (show 1000 ≤ 1000 + 3 * 0 + c by omega)]
      match c, hc with
      | 0, _ => rw [if_neg (by omega), if_neg (by omega), if_pos (by omega), if_pos (by omega)]
      | 1, _ => rw [if_neg (by omega), if_pos (by omega), if_neg (by omega), if_pos (by omega)]
      | 2, _ => rw [if_pos (by omega), if_neg (by omega), if_neg (by omega), if_pos (by omega)]
      | c + 3, hc => omega
    · rw [if_neg (by omega), if_neg (by omega), if_neg (by omega), if_neg (by omega), if_neg (by omega), if_neg (by omega), if_pos (by omega), if_neg (by omega), if_neg (by omega), if_neg (by omega)]
      have := hR.2 (r - 1) c (by omega) hc
      rw [show 309 + 3 * (nL σ + 1 - 1 - r) + c = 309 + 3 * (nL σ - 1 - (r - 1)) + c by omega, this]
      congr 1
      omega
theorem note_end40 {w1 w σ : sT} {e : Nat} {x : Int32} (hR : RelW w σ) (hL : IvL σ) (h : nL σ = 40) (he : e < 8) (hz : w1 = fun j => if 309 ≤ j ∧ j < 426 then w (j + 3) else if j = 11 + e then σ (11 + e) + 1 else w j) : RelW (upd (upd (upd (upd (upd w1 10 (nI 39)) 426 (nI e)) 427 x) 428 (σ 9)) 10 (nI 40)) (sNote σ e x) := by
  have hn := nL_note (e := e) (x := x) hL.2
  rw [Nat.min_eq_right (by omega)] at hn
  refine ⟨fun k hk => ?_, fun r c hr hc => ?_⟩
  · simp only [sNote, upd]
    by_cases h1 : k = 10
    · rw [if_pos h1, if_pos h1, Nat.min_eq_right (by omega)]
    · rw [if_neg h1, if_neg h1, if_neg (by omega), if_neg (by omega), if_neg (by omega), if_neg h1, hz]
      simp only
      rw [if_neg (by omega)]
      by_cases h2 : k = 11 + e
      · rw [if_pos h2, if_pos h2]
      · rw [if_neg h2, if_neg h2, if_neg (by omega)]
        exact hR.1 k hk
  · rw [hn] at hr ⊢
    simp only [sNote, upd]
    rw [if_neg (by omega)]
    by_cases hr0 : r = 0
    · subst hr0
      rw [if_neg (show ¬ 1000 + 3 * 0 + c = 10 by omega), if_neg (show ¬ 1000 + 3 * 0 + c = 11 + e by omega), if_pos (show 1000 ≤ 1000 + 3 * 0 + c by omega)]
      match c, hc with
      | 0, _ => rw [if_neg (by omega), if_neg (by omega), if_pos (by omega), if_pos (by omega)]
      | 1, _ => rw [if_neg (by omega), if_pos (by omega), if_neg (by omega), if_pos (by omega)]
      | 2, _ => rw [if_pos (by omega), if_neg (by omega), if_neg (by omega), if_pos (by omega)]
      | c + 3, hc => omega
    · rw [if_neg (by omega), if_neg (by omega), if_neg (by omega), if_neg (by omega), if_neg (by omega), if_neg (by omega), if_pos (by omega), if_neg (by omega), if_neg (by omega), if_neg (by omega), hz]
      simp only
      rw [if_pos (by omega)]
      have := hR.2 (r - 1) c (by omega) hc
      rw [show 309 + 3 * (40 - 1 - r) + c + 3 = 309 + 3 * (nL σ - 1 - (r - 1)) + c by omega, this]
      congr 1
      omega
theorem shf_end {I : mI} {m e k : Nat} {σ : sT} (he : e < 8) (j : Nat) (hk : k = 426) : shf (up2 I (m + 1) (11 + e) (σ (11 + e) + 1)) (m + 1) k (m + 1) j = if 309 ≤ j ∧ j < 426 then I (m + 1) (j + 3) else if j = 11 + e then σ (11 + e) + 1 else I (m + 1) j := by
  subst hk
  simp only [shf, up2, true_and]
  by_cases h : 309 ≤ j ∧ j < 426
  · rw [if_pos h, if_pos h]
    by_cases h2 : j + 3 = 11 + e
    · omega
    · rw [if_neg h2]
  · rw [if_neg h, if_neg h]

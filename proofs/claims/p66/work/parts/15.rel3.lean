/-! rows filled; the operations' words -/
def fl1 (I : mI) (a lo k : Nat) (v : Int32) : mI := fun b j => if b = a ∧ lo ≤ j ∧ j < lo + k then v else I b j
theorem fl1_0 (I : mI) (a lo : Nat) (v : Int32) : fl1 I a lo 0 v = I := by
  funext b j
  simp only [fl1]
  rw [if_neg (by omega)]
theorem fl1_s (I : mI) (a lo k : Nat) (v : Int32) : up2 (fl1 I a lo k v) a (lo + k) v = fl1 I a lo (k + 1) v := by
  funext b j
  simp only [fl1, up2]
  by_cases h : b = a ∧ j = lo + k
  · rw [if_pos h, if_pos (by omega)]
  · rw [if_neg h]
    by_cases h2 : b = a ∧ lo ≤ j ∧ j < lo + k
    · rw [if_pos h2, if_pos (by omega)]
    · rw [if_neg h2, if_neg (by omega)]
theorem fl1_row (I : mI) (a lo k : Nat) (v : Int32) : (fl1 I a lo k v) a = sFill (I a) lo k v := by
  funext j
  simp [fl1, sFill]
theorem fl1_off {I : mI} {a lo k c : Nat} {v : Int32} (h : c ≠ a) : (fl1 I a lo k v) c = I c := by
  funext j
  simp [fl1, h]
theorem RelW.fill {w σ : sT} {a c : Nat} {v : Int32} (h : RelW w σ) (h1 : 10 < a) (h2 : a + c ≤ 309) : RelW (sFill w a c v) (sFill σ a c v) := by
  have e : nL (sFill σ a c v) = nL σ := by
    unfold nL sFill
    rw [if_neg (by omega)]
  refine ⟨fun j hj => ?_, fun r q hr hq => ?_⟩
  · unfold sFill
    split
    · rfl
    · exact h.1 j hj
  · rw [e] at hr ⊢
    unfold sFill
    rw [if_neg (by omega), if_neg (by omega)]
    exact h.2 r q hr hq
theorem FF.fl {m o lo k : Nat} {bs l : List Nat} {I I1 : mI} {v : Int32} (h : FF m bs l I I1) (ho : o ∈ bs) (h0 : 0 < o) : FF m bs l I (fl1 I1 (m + o) lo k v) :=
  ⟨fun b h3 h4 => (fl1_off (h4 o ho)).trans (h.1 b h3 h4), fun i hi => by
    rw [fl1_off (by omega)]
    exact h.2 i hi⟩
theorem sHas_t {σ : sT} (h : ¬ σ 6 = 0) : sHas σ = true := by simp [sHas, h]
theorem sHas_f {σ : sT} (h : σ 6 = 0) : sHas σ = false := by simp [sHas, h]
theorem sTake_z {σ : sT} (h : σ 6 = 0) : sTake σ = upd σ 9 (σ 9 + 1) := by simp [sTake, h]
theorem sTake_n {σ : sT} (h : ¬ σ 6 = 0) (h2 : σ 6 ≤ 0) : sTake σ = upd σ 9 (σ 9 + 1) := by simp [sTake, h2]
theorem sTake_p {σ : sT} (h : ¬ σ 6 = 0) (h2 : ¬ σ 6 ≤ 0) : sTake σ = upd (upd σ 9 (σ 9 + 1)) 6 (σ 6 - 1) := by
  unfold sTake
  rw [if_neg h, if_neg h2]
theorem sWr_t {σ : sT} {k : Nat} {v : Int32} (h : sHas σ = true) (h6 : k ≠ 6) (h9 : k ≠ 9) : sWr σ k v = upd (sTake σ) k (sTake σ k &&& v) := by
  unfold sWr
  rw [h, sTake_ne h6 h9]
  rfl
theorem sWr_f {σ : sT} {k : Nat} {v : Int32} (h : sHas σ = false) (h6 : k ≠ 6) (h9 : k ≠ 9) : sWr σ k v = upd (sTake σ) k (sTake σ k &&& (v ||| 65280)) := by
  unfold sWr
  rw [h, sTake_ne h6 h9]
  rfl
theorem sEr_b {σ : sT} {b : Bool} {a c r : Nat} {v : Int32} (h : sHas σ = b) (hr : a + c ≤ r) (h6 : r ≠ 6) (h9 : r ≠ 9) : sEr σ a c r v = upd (sFill (sTake σ) a (if b then c else c / 2) v) r (sFill (sTake σ) a (if b then c else c / 2) v r + 1) := by
  subst h
  unfold sEr
  congr 2
  unfold sFill
  rw [if_neg, sTake_ne h6 h9]
  split <;> omega
theorem sStop_t {b : Bool} {σ : sT} (h : b = true) : sStop b σ = σ := by subst h; rfl
theorem sStop_f {b : Bool} {σ : sT} (h : b = false) : sStop b σ = sCut σ := by subst h; rfl

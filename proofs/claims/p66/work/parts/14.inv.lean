/-! what the operations keep -/
def sStop : Bool → sT → sT
  | true, σ => σ
  | false, σ => sCut σ
def ic : Bool → Int32
  | true => 0
  | false => 1
theorem upd_s {f : sT} {k : Nat} {x : Int32} : upd f k x k = x := by simp [upd]
theorem upd_n {f : sT} {k j : Nat} {x : Int32} (h : j ≠ k) : upd f k x j = f j := by simp [upd, h]
theorem wd_0 : wd 65535 := ⟨65535, by decide, rfl⟩
theorem wd_and {x y : Int32} (h : wd x) : wd (x &&& y) := by
  obtain ⟨a, ha, rfl⟩ := h
  have e : nI a &&& y = nI (a &&& y.toBitVec.toNat) := by
    apply Int32.toBitVec_inj.mp
    rw [Int32.toBitVec_and]
    apply BitVec.eq_of_toNat_eq
    have h1 : (nI a).toBitVec.toNat = a := pk_tn (by omega)
    rw [BitVec.toNat_and, h1, pk_tn]
    exact Nat.lt_of_le_of_lt Nat.and_le_left (by omega)
  exact ⟨_, Nat.lt_of_le_of_lt Nat.and_le_left ha, e⟩
theorem wd_and' {x y : Int32} (h : wd y) : wd (x &&& y) := by
  rw [Int32.and_comm]
  exact wd_and h
theorem IvL.up {σ : sT} {k : Nat} {v : Int32} (h : IvL σ) (hk : k ≠ 10) : IvL (upd σ k v) := by
  have e : upd σ k v 10 = σ 10 := upd_n (Ne.symm hk)
  unfold IvL nL
  rw [e]
  exact h
theorem IvL.note {σ : sT} {e : Nat} {x : Int32} (h : IvL σ) : IvL (sNote σ e x) := by
  have hn := nL_note (e := e) (x := x) h.2
  refine ⟨?_, by rw [hn]; omega⟩
  rw [hn]
  rfl
theorem Inv.ch {σ σ' : sT} (h : Inv σ) (h0 : σ' 0 = σ 0) (h1 : σ' 1 = σ 1) (h2 : σ' 2 = σ 2) (h3 : σ' 3 = σ 3) (h4 : σ' 4 = σ 4) (h5 : σ' 5 = σ 5) (h6 : (-1 : Int) ≤ (σ' 6).toInt) (h7 : IvR σ') (h10 : IvL σ') (hc : ∀ k, 19 ≤ k → k < 275 → wd (σ' k)) : Inv σ' := by
  refine ⟨?_, h10, h7, hc, ?_⟩
  · have := h.1
    unfold IvS nW nP nJ nS at this ⊢
    rw [h0, h1, h2, h4]
    exact this
  · have := h.2.2.2.2
    unfold IvT at this ⊢
    rw [h3, h5]
    exact ⟨this.1, h6, this.2.2⟩
theorem sTake_ne {σ : sT} {k : Nat} (h6 : k ≠ 6) (h9 : k ≠ 9) : sTake σ k = σ k := by
  unfold sTake
  split
  · exact upd_n h9
  · split
    · exact upd_n h9
    · rw [upd_n h6, upd_n h9]
theorem IvL_of {σ σ' : sT} (h : IvL σ) (e : σ' 10 = σ 10) : IvL σ' := by
  unfold IvL nL
  rw [e]
  exact h
theorem IvR_of {σ σ' : sT} (h : IvR σ) (e : σ' 7 = σ 7) (e8 : σ' 8 = σ 8) : IvR σ' := by
  unfold IvR
  rw [e, e8]
  exact h
theorem fb_subI' {x : Int32} (h : 0 < x.toInt) : (x - 1).toInt = x.toInt - 1 := by
  have h2 := Int32.toInt_lt x
  rw [Int32.toInt_sub]
  show (x.toInt - 1).bmod (2 ^ 32) = _
  have h3 : x.toInt < 2 ^ 31 := h2
  rw [Int.bmod_eq_of_le (by omega) (by omega)]
theorem sTake_6 {σ : sT} (h : (-1 : Int) ≤ (σ 6).toInt) : (-1 : Int) ≤ (sTake σ 6).toInt := by
  unfold sTake
  split
  · rw [upd_n (by decide)]; exact h
  · split
    · rw [upd_n (by decide)]; exact h
    · rename_i h1 h2
      rw [upd_s]
      have h3 : 0 < (σ 6).toInt := by
        have := Int32.not_le.mp h2
        exact Int32.lt_iff_toInt_lt.mp this
      have := fb_subI' h3
      omega
theorem Inv.take {σ : sT} (h : Inv σ) : Inv (sTake σ) :=
  h.ch (sTake_ne (by decide) (by decide)) (sTake_ne (by decide) (by decide)) (sTake_ne (by decide) (by decide)) (sTake_ne (by decide) (by decide)) (sTake_ne (by decide) (by decide)) (sTake_ne (by decide) (by decide)) (sTake_6 h.2.2.2.2.2.1) (IvR_of h.2.2.1 (sTake_ne (by decide) (by decide)) (sTake_ne (by decide) (by decide))) (IvL_of h.2.1 (sTake_ne (by decide) (by decide))) (fun k h1 h2 => by rw [sTake_ne (by omega) (by omega)]; exact h.2.2.2.1 k h1 h2)
theorem Inv.cell {σ : sT} {k : Nat} {v : Int32} (h : Inv σ) (h1 : 19 ≤ k) (hv : wd v) : Inv (upd σ k v) :=
  h.ch (upd_n (by omega)) (upd_n (by omega)) (upd_n (by omega)) (upd_n (by omega)) (upd_n (by omega)) (upd_n (by omega)) (by rw [upd_n (by omega)]; exact h.2.2.2.2.2.1) (IvR_of h.2.2.1 (upd_n (by omega)) (upd_n (by omega))) (h.2.1.up (by omega)) (fun j h2 h3 => by
    by_cases e : j = k
    · rw [e, upd_s]; exact hv
    · rw [upd_n e]; exact h.2.2.2.1 j h2 h3)
theorem Inv.hi {σ : sT} {k : Nat} {v : Int32} (h : Inv σ) (h1 : 275 ≤ k) : Inv (upd σ k v) :=
  h.ch (upd_n (by omega)) (upd_n (by omega)) (upd_n (by omega)) (upd_n (by omega)) (upd_n (by omega)) (upd_n (by omega)) (by rw [upd_n (by omega)]; exact h.2.2.2.2.2.1) (IvR_of h.2.2.1 (upd_n (by omega)) (upd_n (by omega))) (h.2.1.up (by omega)) (fun j h2 h3 => by
    rw [upd_n (by omega)]; exact h.2.2.2.1 j h2 h3)
theorem Inv.fill {σ : sT} {a c : Nat} {v : Int32} (h : Inv σ) (h1 : 19 ≤ a) (hv : wd v) : Inv (sFill σ a c v) := by
  have e : ∀ k, k < 19 → sFill σ a c v k = σ k := fun k hk => if_neg (by omega)
  exact h.ch (e _ (by decide)) (e _ (by decide)) (e _ (by decide)) (e _ (by decide)) (e _ (by decide)) (e _ (by decide)) (by rw [e _ (by decide)]; exact h.2.2.2.2.2.1) (IvR_of h.2.2.1 (e _ (by decide)) (e _ (by decide))) (IvL_of h.2.1 (e _ (by decide))) (fun j h2 h3 => by
    unfold sFill
    split
    · exact hv
    · exact h.2.2.2.1 j h2 h3)
theorem Inv.off {σ : sT} (h : Inv σ) : Inv (sOff σ) :=
  h.ch rfl rfl rfl rfl rfl rfl h.2.2.2.2.2.1 (Or.inl ⟨rfl, rfl⟩) ((h.2.1.up (by decide)).up (by decide)) (fun j h2 h3 => by
    unfold sOff
    rw [upd_n (by omega), upd_n (by omega)]; exact h.2.2.2.1 j h2 h3)
theorem sNote_ne {σ : sT} {e k : Nat} {x : Int32} (h : k < 1000) (h10 : k ≠ 10) (he : k ≠ 11 + e) : sNote σ e x k = σ k := by
  unfold sNote
  rw [if_neg h10, if_neg he, if_neg (by omega)]
theorem Inv.note {σ : sT} {e : Nat} {x : Int32} (h : Inv σ) (he : e < 8) : Inv (sNote σ e x) := by
  have n : ∀ k, k < 10 → sNote σ e x k = σ k := fun k hk => sNote_ne (by omega) (by omega) (by omega)
  exact h.ch (n _ (by decide)) (n _ (by decide)) (n _ (by decide)) (n _ (by decide)) (n _ (by decide)) (n _ (by decide)) (by rw [n _ (by decide)]; exact h.2.2.2.2.2.1) (IvR_of h.2.2.1 (n _ (by decide)) (n _ (by decide))) h.2.1.note (fun j h2 h3 => by
    rw [sNote_ne (by omega) (by omega) (by omega)]; exact h.2.2.2.1 j h2 h3)
theorem Inv.cut {σ : sT} (h : Inv σ) : Inv (sCut σ) := h.off.note (by decide)
theorem Inv.wr {σ : sT} {k : Nat} {v : Int32} (h : Inv σ) (h1 : 19 ≤ k) (h2 : k < 275) : Inv (sWr σ k v) := h.take.cell h1 (wd_and (h.2.2.2.1 k h1 h2))
theorem Inv.er {σ : sT} {a c r : Nat} {v : Int32} (h : Inv σ) (h1 : 19 ≤ a) (h2 : 275 ≤ r) (hv : wd v) : Inv (sEr σ a c r v) := (h.take.fill h1 hv).hi h2
theorem Inv.stop {σ : sT} {b : Bool} (h : Inv σ) : Inv (sStop b σ) := by
  cases b
  · exact h.cut
  · exact h

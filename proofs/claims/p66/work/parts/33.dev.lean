/-! THE CLASS: a device's cells and the state in numbers -/
def Loc (N o k a : Nat) : Prop :=
  (o = 1 ∧ ((k = 2 ∧ a = 0) ∨ (k = 3 ∧ a = 1) ∨ (k = 5 ∧ a = 2) ∨ (k = 6 ∧ a = 5) ∨ (k = 7 ∧ a = 6) ∨ (k = 8 ∧ a = 9))) ∨
  (o = 0 ∧ ((k = 5 ∧ a = 4) ∨ (k = 6 ∧ a = 3) ∨ (k = 7 ∧ a = 7) ∨ (k = 8 ∧ a = 8))) ∨
  (3 ≤ o ∧ o < 5 ∧ k < 64 ∧ a + 64 * 3 = 83 + 64 * o + k) ∨ (5 ≤ o ∧ o < 7 ∧ k < 32 ∧ a + 32 * 5 = 211 + 32 * o + k) ∨
  (8 ≤ o ∧ o < 10 ∧ k < 16 ∧ a + 16 * 8 = 275 + 16 * o + k) ∨ (o = 10 ∧ k < 2 ∧ a = 307 + k) ∨
  (o = 15 ∧ k < 8 ∧ a = 11 + k) ∨ (o = 18 ∧ 3 ≤ k ∧ k < 3 + N ∧ a = 16 + k)
theorem Loc.inj {N o k a o' k' : Nat} (h : Loc N o k a) (h' : Loc N o' k' a) (hN : N ≤ 61) : o = o' ∧ k = k' := by
  unfold Loc at h h'
  omega
theorem Loc.fn {N o k a a' : Nat} (h : Loc N o k a) (h' : Loc N o k a') : a = a' := by
  unfold Loc at h h'
  omega
theorem Loc.bd {N o k a : Nat} (h : Loc N o k a) (hN : N ≤ 61) : a < 309 ∧ o < 19 ∧ a ≠ 10 := by
  unfold Loc at h
  omega
/-- the log: a ring of 40 with T events so far -/
def LogD (d : Nat) (I : mI) (σ : sT) (T : Nat) : Prop := I (d + 11) 4 = nI T ∧ nL σ = min T 40 ∧ ∀ r c, r < nL σ → c < 3 → I (d + 12 + c) ((T - 1 - r) % 40) = σ (1000 + 3 * r + c)
def RelD (d : Nat) (I : mI) (σ : sT) (T N : Nat) : Prop := (∀ o k a, Loc N o k a → I (d + o) k = σ a) ∧ I (d + 1) 4 = nI (nW σ / nP σ) ∧ LogD d I σ T ∧ nS σ ≤ N ∧ N ≤ 61 ∧ T < 1000000
/-- which cells may differ -/
def FD (d : Nat) (os : List Nat) (I I' : mI) : Prop := ∀ b, (∀ o, o ∈ os → b ≠ d + o) → I' b = I b
theorem FD.rf {d : Nat} {os : List Nat} {I : mI} : FD d os I I := fun _ _ => rfl
theorem FD.tr {d : Nat} {os : List Nat} {I I1 I2 : mI} (h : FD d os I I1) (h2 : FD d os I1 I2) : FD d os I I2 := fun b hb => (h2 b hb).trans (h b hb)
theorem FD.mo {d : Nat} {os os' : List Nat} {I I1 : mI} (h : FD d os I I1) (hs : ∀ o, o ∈ os → o ∈ os') : FD d os' I I1 := fun b hb => h b (fun o ho => hb o (hs o ho))
theorem FD.up {d o k : Nat} {os : List Nat} {I I1 : mI} {v : Int32} (h : FD d os I I1) (ho : o ∈ os) : FD d os I (up2 I1 (d + o) k v) := fun b hb => (up2_off (hb o ho)).trans (h b hb)
theorem FD.up0 {d k : Nat} {os : List Nat} {I I1 : mI} {v : Int32} (h : FD d os I I1) (ho : 0 ∈ os) : FD d os I (up2 I1 d k v) := fun b hb => (up2_off (hb 0 ho)).trans (h b hb)
theorem FD.upr {d q r k : Nat} {os : List Nat} {I I1 : mI} {v : Int32} (h : FD d os I I1) (ho : q + r ∈ os) : FD d os I (up2 I1 (d + q + r) k v) := fun b hb => (up2_off (by have := hb _ ho; omega)).trans (h b hb)
theorem FD.fl {d o lo k : Nat} {os : List Nat} {I I1 : mI} {v : Int32} (h : FD d os I I1) (ho : o ∈ os) : FD d os I (fl1 I1 (d + o) lo k v) := fun b hb => (fl1_off (hb o ho)).trans (h b hb)
theorem FD.flr {d q r lo k : Nat} {os : List Nat} {I I1 : mI} {v : Int32} (h : FD d os I I1) (ho : q + r ∈ os) : FD d os I (fl1 I1 (d + q + r) lo k v) := fun b hb => (fl1_off (by have := hb _ ho; omega)).trans (h b hb)
theorem RelD.at3 {d : Nat} {I : mI} {σ : sT} {T N q r k a : Nat} (h : RelD d I σ T N) (hl : Loc N (q + r) k a) : I (d + q + r) k = σ a := by
  rw [Nat.add_assoc]
  exact h.1 _ _ _ hl
theorem LogD.of {d : Nat} {I I' : mI} {σ σ' : sT} {T : Nat} (h : LogD d I σ T) (hI : ∀ o, 11 ≤ o → o < 15 → I' (d + o) = I (d + o)) (h10 : σ' 10 = σ 10) (hk : ∀ k, 1000 ≤ k → σ' k = σ k) : LogD d I' σ' T := by
  have e : nL σ' = nL σ := by unfold nL; rw [h10]
  refine ⟨by rw [hI 11 (by decide) (by decide)]; exact h.1, by rw [e]; exact h.2.1, fun r c hr hc => ?_⟩
  rw [e] at hr
  rw [hk _ (by omega), show d + 12 + c = d + (12 + c) by omega, hI (12 + c) (by omega) (by omega), ← Nat.add_assoc]
  exact h.2.2 r c hr hc
/-- one cell changes -/
theorem RelD.set {d : Nat} {I : mI} {σ : sT} {T N o k a : Nat} {v : Int32} (h : RelD d I σ T N) (hl : Loc N o k a) (h0 : a ≠ 0) (h1 : a ≠ 1) (h4 : a = 4 → tn v ≤ N) : RelD d (up2 I (d + o) k v) (upd σ a v) T N := by
  obtain ⟨a1, a2, a3, a4, a5, a6⟩ := h
  have hb := hl.bd a5
  refine ⟨fun o' k' a' hl' => ?_, ?_, ?_, ?_, a5, a6⟩
  · by_cases e : o' = o ∧ k' = k
    · obtain ⟨rfl, rfl⟩ := e
      rw [hl.fn hl', up2_s, upd_s]
    · rw [up2_n (by omega), upd_n (fun q => e (by subst q; exact hl'.inj hl a5))]
      exact a1 _ _ _ hl'
  · rw [up2_n (by unfold Loc at hl; omega), nW_of (upd_n (Ne.symm h0)), nP_of (upd_n (Ne.symm h1))]
    exact a2
  · refine a3.of (fun q h1 h2 => up2_off (by unfold Loc at hl; omega)) (upd_n (Ne.symm hb.2.2)) (fun k hk => upd_n (by omega))
  · by_cases e : a = 4
    · subst e
      unfold nS
      rw [upd_s]
      exact h4 rfl
    · unfold nS
      rw [upd_n (Ne.symm e)]
      exact a4
theorem RelD.set3 {d : Nat} {I : mI} {σ : sT} {T N q r k a : Nat} {v : Int32} (h : RelD d I σ T N) (hl : Loc N (q + r) k a) (h0 : a ≠ 0) (h1 : a ≠ 1) (h4 : a ≠ 4) : RelD d (up2 I (d + q + r) k v) (upd σ a v) T N := by
  rw [Nat.add_assoc]
  exact h.set hl h0 h1 (fun q => absurd q h4)
/-- a cell that is none of the state's -/
theorem RelD.skip {d : Nat} {I I' : mI} {σ : sT} {T N : Nat} (h : RelD d I σ T N) (hf : FD d [16, 17] I I') : RelD d I' σ T N := by
  obtain ⟨a1, a2, a3, a4, a5, a6⟩ := h
  refine ⟨fun o k a hl => ?_, ?_, a3.of (fun o h1 h2 => hf _ (by simp; omega)) rfl (fun _ _ => rfl), a4, a5, a6⟩
  · rw [hf _ (by unfold Loc at hl; simp; omega)]
    exact a1 _ _ _ hl
  · rw [hf _ (by simp)]
    exact a2
theorem RelD.fill {d : Nat} {I : mI} {σ : sT} {T N o lo c a : Nat} {v : Int32} (h : RelD d I σ T N) (hl : ∀ j, j < c → Loc N o (lo + j) (a + j)) (ho : (3 ≤ o ∧ o < 7)) : RelD d (fl1 I (d + o) lo c v) (sFill σ a c v) T N := by
  obtain ⟨a1, a2, a3, a4, a5, a6⟩ := h
  have ha : ∀ j, j < c → 83 ≤ a + j := fun j hj => by
    have := hl j hj
    unfold Loc at this
    omega
  have hs : ∀ k, k < 83 → sFill σ a c v k = σ k := fun k hk => sFill_out (by
    by_cases hc : c = 0
    · omega
    · have := ha 0 (by omega)
      omega)
  have hs2 : ∀ k, 1000 ≤ k → sFill σ a c v k = σ k := fun k hk => sFill_out (by
    by_cases hc : c = 0
    · omega
    · have := (hl (c - 1) (by omega)).bd a5
      omega)
  refine ⟨fun o' k' a' hl' => ?_, ?_, ?_, ?_, a5, a6⟩
  · by_cases e : o' = o ∧ lo ≤ k' ∧ k' < lo + c
    · obtain ⟨rfl, e1, e2⟩ := e
      have h3 := hl (k' - lo) (by omega)
      rw [show lo + (k' - lo) = k' by omega] at h3
      have h4 := h3.fn hl'
      rw [sFill_in (by omega) (by omega)]
      exact if_pos ⟨rfl, e1, e2⟩
    · rw [show fl1 I (d + o) lo c v (d + o') k' = I (d + o') k' from if_neg (by omega), sFill_out]
      · exact a1 _ _ _ hl'
      · by_cases q : a ≤ a' ∧ a' < a + c
        · exfalso
          have h3 := hl (a' - a) (by omega)
          rw [show a + (a' - a) = a' by omega] at h3
          have := hl'.inj h3 a5
          omega
        · omega
  · rw [fl1_off (by omega), nW_of (hs 0 (by decide)), nP_of (hs 1 (by decide))]
    exact a2
  · exact a3.of (fun q h1 h2 => fl1_off (by omega)) (hs 10 (by decide)) hs2
  · unfold nS
    rw [hs 4 (by decide)]
    exact a4
theorem RelD.fill3 {d : Nat} {I : mI} {σ : sT} {T N q r lo c a : Nat} {v : Int32} (h : RelD d I σ T N) (hl : ∀ j, j < c → Loc N (q + r) (lo + j) (a + j)) (ho : (3 ≤ q + r ∧ q + r < 7)) : RelD d (fl1 I (d + q + r) lo c v) (sFill σ a c v) T N := by
  rw [Nat.add_assoc]
  exact h.fill hl ho
/-- an event -/
theorem RelD.note {d : Nat} {I : mI} {σ : sT} {T N e : Nat} {x : Int32} (h : RelD d I σ T N) (he : e < 8) (hT : T + 1 < 1000000) :
    RelD d (up2 (up2 (up2 (up2 (up2 I (d + 12) (T % 40) (nI e)) (d + 13) (T % 40) x) (d + 14) (T % 40) (σ 9)) (d + 15) e (σ (11 + e) + 1)) (d + 11) 4 (nI (T + 1))) (sNote σ e x) (T + 1) N := by
  obtain ⟨a1, a2, a3, a4, a5, a6⟩ := h
  have hL : nL σ ≤ 40 := by rw [a3.2.1]; omega
  have n : ∀ k, k < 10 → sNote σ e x k = σ k := fun k hk => sNote_ne (by omega) (by omega) (by omega)
  refine ⟨fun o k a hl => ?_, ?_, ⟨up2_s, ?_, fun r c hr hc => ?_⟩, ?_, a5, hT⟩
  · by_cases q : o = 15 ∧ k = e
    · obtain ⟨rfl, rfl⟩ := q
      have ha : a = 11 + k := by unfold Loc at hl; omega
      subst ha
      rw [up2_a (by omega), up2_s]
      show _ = if 11 + k = 10 then _ else if 11 + k = 11 + k then _ else _
      rw [if_neg (by omega), if_pos rfl]
    · have hb := hl.bd a5
      have hae : a ≠ 11 + e := by unfold Loc at hl; omega
      rw [sNote_ne (by omega) hb.2.2 hae, up2_n (by unfold Loc at hl; omega), up2_n (by unfold Loc at hl; omega), up2_n (by unfold Loc at hl; omega), up2_n (by unfold Loc at hl; omega), up2_n (by unfold Loc at hl; omega)]
      exact a1 _ _ _ hl
  · rw [up2_a (by omega), up2_a (by omega), up2_a (by omega), up2_a (by omega), up2_a (by omega), nW_of (n 0 (by decide)), nP_of (n 1 (by decide))]
    exact a2
  · rw [nL_note hL, a3.2.1]
    omega
  · rw [nL_note hL] at hr
    rw [up2_a (by omega), up2_a (by omega)]
    simp only [sNote]
    rw [if_neg (by omega), if_neg (by omega), if_pos (by omega)]
    by_cases hr0 : r = 0
    · subst hr0
      match c, hc with
      | 0, _ => rw [if_pos (by omega), up2_a (by omega), up2_a (by omega)]; exact up2_s
      | 1, _ => rw [if_neg (by omega), if_pos (by omega), up2_a (by omega)]; exact up2_s
      | 2, _ => rw [if_neg (by omega), if_neg (by omega), if_pos (by omega)]; exact up2_s
      | c + 3, hc => omega
    · have h3 := a3.2.2 (r - 1) c (by omega) hc
      have hT2 := a3.2.1
      have e1 : (T + 1 - 1 - r) % 40 ≠ T % 40 := by omega
      rw [if_neg (by omega), if_neg (by omega), if_neg (by omega), up2_n (by omega), up2_n (by omega), up2_n (by omega), show T + 1 - 1 - r = T - 1 - (r - 1) by omega, h3]
      congr 1
      omega
  · unfold nS
    rw [n 4 (by decide)]
    exact a4
theorem RelD.note' {d : Nat} {I : mI} {σ : sT} {T N e : Nat} {x : Int32} (h : RelD d I σ T N) (he : e < 8) (hT : T + 1 < 1000000) : nI T % 40 = nI (T % 40) := n_mod (by omega) (by decide) (by decide)

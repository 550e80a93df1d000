/-! THE LAW'S CALLS: snapshots, texts -/
theorem FF.sub {m : Nat} {bs bs' l l' : List Nat} {I I' : mI} (h : FF m bs l I I') (h1 : ∀ o, o ∈ bs → o ∈ bs') (h2 : ∀ j, j ∈ l → j ∈ l') : FF m bs' l' I I' := ⟨fun b h0 ho => h.1 b h0 (fun o q => ho o (h1 o q)), fun j hj => h.2 j (fun q => hj (h2 j q))⟩
theorem svS_no {σ : sT} {sn : Nat → Option sT} {s : Int32} (h : ¬ cIn s 0 1 = 0) : svS s σ sn = sn := if_neg (cIn_no h)
theorem rsT_no {σ : sT} {sn : Nat → Option sT} {s : Int32} (h : ¬ cIn s 0 1 = 0) : rsT s σ sn = σ := if_neg (cIn_no h)
theorem Inv.rst {σ : sT} {sn : Nat → Option sT} {s : Int32} (h : Inv σ) (hS : ∀ k τ, k < 2 → sn k = some τ → Inv τ) : Inv (rsT s σ sn) := by
  unfold rsT
  split
  · next c =>
    cases q : sn (tn s) with
    | none => exact h
    | some τ => exact hS _ τ (tn_01 c) q
  · exact h
theorem svS_inv {σ : sT} {sn : Nat → Option sT} {s : Int32} (h : Inv σ) (hS : ∀ k τ, k < 2 → sn k = some τ → Inv τ) : ∀ k τ, k < 2 → svS s σ sn k = some τ → Inv τ := by
  intro k τ hk e
  unfold svS at e
  split at e
  · have e : (if k = tn s then some σ else sn k) = some τ := e
    split at e
    · cases e; exact h
    · exact hS k τ hk e
  · exact hS k τ hk e
theorem WQ.sav {ans : Int32} {T0 o B : Nat} {s : Int32} {σ : sT} {sn : Nat → Option sT} {I I2 : mI} {J J2 : mJ} {fz : Int32 → Int64} {k : Int32} (h : (k = 0 ∧ ∃ r J1, (cIn s 0 1 = 0 ∧ ans = r ∧ J = J1 ∧ RelN 7 I2 σ T0 ∧ SnD 103 65 84 I2 (svS s σ sn) B ∧ FB 65 104 I I2) ∧ J2 = up2 J1 o 0 (fz r)) ∨ (k = cIn s 0 1 ∧ ¬ cIn s 0 1 = 0 ∧ I = I2 ∧ J = J2)) (h0 : RelN 7 I σ T0) (hS : SnD 103 65 84 I sn B) : k = cIn s 0 1 ∧ RelN 7 I2 σ T0 ∧ SnD 103 65 84 I2 (svS s σ sn) B ∧ FB 65 104 I I2 ∧ (cIn s 0 1 = 0 → J2 o 0 = fz ans) := by
  rcases h with ⟨rfl, r, J1, ⟨h1, rfl, rfl, hN, hD, hF⟩, rfl⟩ | ⟨rfl, hc, rfl, rfl⟩
  · exact ⟨h1.symm, hN, hD, hF, fun _ => up2_s⟩
  · exact ⟨rfl, h0, by rw [svS_no hc]; exact hS, FB.rf, fun q => absurd q hc⟩
theorem LSt.sv {B B' T0 : Nat} {I I1 I2 : mI} {σ : sT} {T : tT} {nn : Nat} {sn : Nat → Option sT} {s : Int32} (h : LSt B I σ T nn sn) (hB : B ≤ B') (hT : T0 ≤ B) (hN : RelN 7 I1 σ T0) (hD : SnD 103 65 84 I1 (svS s σ sn) B) (hF : FB 65 104 I I1) (hR : RelW (I2 (104 + 1)) σ) (hS : SnR 104 I2 (svS s σ sn)) (hG : FF 104 [4, 5, 6] [6] I1 I2) : LSt B' I2 σ T nn (svS s σ sn) := by
  obtain ⟨hI, -, -, hTR, hTC, -, -, hSI, hle⟩ := h
  have g : ∀ b, b ≠ 104 → b ≠ 108 → b ≠ 109 → b ≠ 110 → I2 b = I1 b := fun b h0 h1 h2 h8 => hG.1 b h0 (fun o ho => by simp at ho; omega)
  have f : ∀ b, b ≠ 104 → b ≠ 108 → b ≠ 109 → b ≠ 110 → (b < 65 ∨ 104 ≤ b) → I2 b = I b := fun b h0 h1 h2 h8 h9 => (g b h0 h1 h2 h8).trans (hF b h9)
  refine ⟨hI, hR, (hN.fr (fun b _ _ => g b (by omega) (by omega) (by omega) (by omega))).le (by omega), ⟨hTR.1, ?_, fun k hk => ?_⟩, ⟨hTC.1, ?_, fun k hk => ?_⟩, hS, hD.of hB (g _ (by omega) (by omega) (by omega) (by omega)) (fun b _ _ => g b (by omega) (by omega) (by omega) (by omega)) (fun b _ _ => g b (by omega) (by omega) (by omega) (by omega)), svS_inv hI hSI, ?_⟩
  · exact (hG.2 10 (by simp)).trans ((congrFun (hF 104 (by omega)) 10).trans hTR.2.1)
  · exact (congrFun (f (104 + 7) (by omega) (by omega) (by omega) (by omega) (by omega)) k).trans (hTR.2.2 k hk)
  · exact (congrFun (f 1 (by omega) (by omega) (by omega) (by omega) (by omega)) 2).trans hTC.2.1
  · exact (congrFun (f (1 + 1) (by omega) (by omega) (by omega) (by omega) (by omega)) k).trans (hTC.2.2 k hk)
  · exact (hG.2 15 (by simp)).trans ((congrFun (hF 104 (by omega)) 15).trans (hle.trans (congrFun (f 1 (by omega) (by omega) (by omega) (by omega) (by omega)) 6).symm))
theorem TR.ofC {I I1 : mI} {T : tT} {nn : Nat} (h : TR 104 I T nn) (hF : FF 1 [1] [2] I I1) : TR 104 I1 T nn := ⟨h.1, (congrFun (hF.1 104 (by omega) (fun o ho => by simp at ho; omega)) 10).trans h.2.1, fun k hk => (congrFun (hF.1 (104 + 7) (by omega) (fun o ho => by simp at ho; omega)) k).trans (h.2.2 k hk)⟩
theorem LSt.ap {B B' : Nat} {I I1 I2 : mI} {σ : sT} {T T' : tT} {nn nn' : Nat} {sn : Nat → Option sT} (h : LSt B I σ T nn sn) (hB : B ≤ B') (hF : FF 1 [1] [2] I I1) (hC : TC 1 I1 T' nn') (hG : FF 104 [7] [6, 10] I1 I2) (hR : TR 104 I2 T' nn') : LSt B' I2 σ T' nn' sn := by
  obtain ⟨hI, hW, hN, -, -, hSR, hSD, hSI, hle⟩ := h
  have g : ∀ b, b ≠ 104 → b ≠ 111 → I2 b = I1 b := fun b h0 h1 => hG.1 b h0 (fun o ho => by simp at ho; omega)
  have f : ∀ b, b ≠ 104 → b ≠ 111 → b ≠ 1 → b ≠ 2 → I2 b = I b := fun b h0 h1 h2 h3 => (g b h0 h1).trans (hF.1 b h2 (fun o ho => by simp at ho; omega))
  refine ⟨hI, by rw [f (104 + 1) (by omega) (by omega) (by omega) (by omega)]; exact hW, (hN.fr (fun b _ _ => f b (by omega) (by omega) (by omega) (by omega))).le hB, hR, ⟨hC.1, (congrFun (g 1 (by omega) (by omega)) 2).trans hC.2.1, fun k hk => (congrFun (g (1 + 1) (by omega) (by omega)) k).trans (hC.2.2 k hk)⟩, hSR.of (f _ (by omega) (by omega) (by omega) (by omega)) (f _ (by omega) (by omega) (by omega) (by omega)) (f _ (by omega) (by omega) (by omega) (by omega)), hSD.of hB (f _ (by omega) (by omega) (by omega) (by omega)) (fun b _ _ => f b (by omega) (by omega) (by omega) (by omega)) (fun b _ _ => f b (by omega) (by omega) (by omega) (by omega)), hSI, ?_⟩
  have e1 : I2 104 15 = I 104 15 := (hG.2 15 (by simp)).trans (congrFun (hF.1 104 (by omega) (fun o ho => by simp at ho; omega)) 15)
  have e2 : I2 1 6 = I 1 6 := (congrFun (g 1 (by omega) (by omega)) 6).trans (hF.2 6 (by simp))
  rw [e1, e2]
  exact hle
theorem TxOk_0 : TxOk (fun _ => 0) 0 := ⟨by decide, fun k hk => absurd hk (Nat.not_lt_zero k), fun _ _ => rfl⟩
theorem loadT_inv {σ : sT} {T : tT} {nn : Nat} (h : Inv σ) (hT : TxOk T nn) : Inv (loadT T nn σ) := by
  unfold loadT
  split
  · next c => exact newS_inv (parse_ok hT c)
  · exact h
theorem LSt.ld {B B' T0 : Nat} {I I1 I2 : mI} {σ : sT} {T : tT} {nn : Nat} {sn : Nat → Option sT} {kk : Int32} (h : LSt B I σ T nn sn) (hB : B ≤ B') (hT : T0 ≤ B) (hN : RelN 7 I1 (loadT T nn σ) T0) (h2 : I1 1 2 = nI 0) (h6 : I1 1 6 = kk) (hF : ∀ b, (b < 1 ∨ (1 + 6 ≤ b ∧ b < 7) ∨ 7 + 19 ≤ b) → I1 b = I b) (hR : RelW (I2 (104 + 1)) (loadT T nn σ)) (hG : FF 104 [1, 3] [6, 7, 8, 10, 11, 12, 13, 14, 15, 16, 17] I1 I2) (h10 : I2 104 10 = nI 0) (h15 : I2 104 15 = kk) : LSt B' I2 (loadT T nn σ) (fun _ => 0) 0 sn := by
  obtain ⟨hI, -, -, hTR, -, hSR, hSD, hSI, -⟩ := h
  have g : ∀ b, b ≠ 104 → b ≠ 105 → b ≠ 107 → I2 b = I1 b := fun b h0 h1 h2 => hG.1 b h0 (fun o ho => by simp at ho; omega)
  have f : ∀ b, b ≠ 104 → b ≠ 105 → b ≠ 107 → 26 ≤ b → I2 b = I b := fun b h0 h1 h2 h3 => (g b h0 h1 h2).trans (hF b (by omega))
  exact ⟨loadT_inv hI hTR.1, hR, (hN.fr (fun b _ _ => g b (by omega) (by omega) (by omega))).le (by omega), ⟨TxOk_0, h10, fun k hk => absurd hk (Nat.not_lt_zero k)⟩, ⟨TxOk_0, (congrFun (g 1 (by omega) (by omega) (by omega)) 2).trans h2, fun k hk => absurd hk (Nat.not_lt_zero k)⟩, hSR.of (f _ (by omega) (by omega) (by omega) (by omega)) (f _ (by omega) (by omega) (by omega) (by omega)) (f _ (by omega) (by omega) (by omega) (by omega)), hSD.of hB (f _ (by omega) (by omega) (by omega) (by omega)) (fun b _ _ => f b (by omega) (by omega) (by omega) (by omega)) (fun b _ _ => f b (by omega) (by omega) (by omega) (by omega)), hSI, h15.trans (h6.symm.trans (congrFun (g 1 (by omega) (by omega) (by omega)) 6).symm)⟩
abbrev LG (L : Nat) (xs : Nat → Int32) (sh : mS) (G : mG) (kc ks pc : Nat) (ls : List (Nat × Value)) (st : List Value) (I : mI) (J : mJ) : Prop := Gj (gL L xs) gZ RL cL_law 7 16 768 601024 7293034 0 114 sh G kc ks pc ls st I J
abbrev lawLs (q : Nat) : List (Nat × Value) := [(4, .int (nI (4 * q))), (3, .ref 113), (2, .ref 104), (1, .ref 0), (0, .ref 1300)]

/-! THE LAW: from its entry to its loop -/
def shL : List ((Nat × Nat) ⊕ (Nat × Nat)) := [.inl (9, 6), .inl (8, 8), .inr (1, 900), .inl (7, 9), .inr (4, 2), .inr (0, 64), .inr (0, 64), .inl (3, 9), .inl (4, 9), .inr (4, 4), .inr (0, 64), .inr (0, 64), .inr (0, 64), .inr (0, 64), .inr (4, 3), .inr (0, 16), .inr (0, 16), .inr (0, 16), .inl (6, 5), .inr (0, 40), .inr (0, 40), .inr (0, 40), .inr (0, 8), .inl (5, 10), .inr (0, 8), .inr (0, 64), .inl (3, 9), .inl (4, 9), .inr (4, 4), .inr (0, 64), .inr (0, 64), .inr (0, 64), .inr (0, 64), .inr (4, 3), .inr (0, 16), .inr (0, 16), .inr (0, 16), .inl (6, 5), .inr (0, 40), .inr (0, 40), .inr (0, 40), .inr (0, 8), .inl (5, 10), .inr (0, 8), .inr (0, 64), .inl (3, 9), .inl (4, 9), .inr (4, 4), .inr (0, 64), .inr (0, 64), .inr (0, 64), .inr (0, 64), .inr (4, 3), .inr (0, 16), .inr (0, 16), .inr (0, 16), .inl (6, 5), .inr (0, 40), .inr (0, 40), .inr (0, 40), .inr (0, 8), .inl (5, 10), .inr (0, 8), .inr (0, 64), .inr (5, 2), .inl (3, 9), .inl (4, 9), .inr (4, 4), .inr (0, 64), .inr (0, 64), .inr (0, 64), .inr (0, 64), .inr (4, 3), .inr (0, 16), .inr (0, 16), .inr (0, 16), .inl (6, 5), .inr (0, 40), .inr (0, 40), .inr (0, 40), .inr (0, 8), .inl (5, 10), .inr (0, 8), .inr (0, 64), .inl (3, 9), .inl (4, 9), .inr (4, 4), .inr (0, 64), .inr (0, 64), .inr (0, 64), .inr (0, 64), .inr (4, 3), .inr (0, 16), .inr (0, 16), .inr (0, 16), .inl (6, 5), .inr (0, 40), .inr (0, 40), .inr (0, 40), .inr (0, 8), .inl (5, 10), .inr (0, 8), .inr (0, 64), .inr (2, 2), .inl (10, 28), .inr (0, 429), .inr (0, 429), .inr (0, 429), .inr (0, 429), .inr (0, 429), .inr (2, 2), .inr (0, 900), .inr (0, 67), .inr (3, 1)]
def shF : mS := fun id => shL.getD id (.inr (0, 0))
theorem shF_7 : ShD shF (0 + 7) := ⟨rfl, rfl, rfl, rfl, rfl, rfl, rfl, rfl, rfl, rfl, rfl, rfl, rfl, rfl, rfl, rfl, rfl, rfl, rfl⟩
theorem shF_26 : ShD shF (0 + 26) := ⟨rfl, rfl, rfl, rfl, rfl, rfl, rfl, rfl, rfl, rfl, rfl, rfl, rfl, rfl, rfl, rfl, rfl, rfl, rfl⟩
theorem shF_45 : ShD shF (0 + 45) := ⟨rfl, rfl, rfl, rfl, rfl, rfl, rfl, rfl, rfl, rfl, rfl, rfl, rfl, rfl, rfl, rfl, rfl, rfl, rfl⟩
theorem shF_65 : ShD shF (0 + 65) := ⟨rfl, rfl, rfl, rfl, rfl, rfl, rfl, rfl, rfl, rfl, rfl, rfl, rfl, rfl, rfl, rfl, rfl, rfl, rfl⟩
theorem shF_84 : ShD shF (0 + 84) := ⟨rfl, rfl, rfl, rfl, rfl, rfl, rfl, rfl, rfl, rfl, rfl, rfl, rfl, rfl, rfl, rfl, rfl, rfl, rfl⟩
theorem okVb {n a : Nat} (h : 1000 ≤ a) : okV n (.ref a) := Or.inr h
set_option maxRecDepth 8000 in
set_option maxHeartbeats 4000000 in
theorem law_begins {L : Nat} {xs : Nat → Int32} {G : mG} {I : mI} {J : mJ} (hL : L ≤ 2048) (hz : Zo 0 I J G) : Gj (gL L xs) gZ RL cL_law 7 16 768 601024 7293034 0 0 shF G 601024 7293034 0 [(0, .ref 1300)] [] I J := by
  have hz1 := hz.up (m := 1) (by omega)
  refine g_new hz (by omega) (by omega) (rfl : shF 0 = .inl (9, 6)) rfl lay_X6 tyX6_ok ql2_L_8 qin_X6 qn_TwinBoot dv_X6 (by exact okN) (by exact (okCl (okVb (by omega)) okNl)) (kc' := 601023) (ks' := 7293028) (by decide) (by decide) (dk_at ktL_law_0 0 rfl) (b := 3) rfl ?_
  refine gc_p (p_dup (dk_at ktL_law_0 1 rfl) rfl (b := 4) rfl) ?_
  refine g_callI (ci := 0) (N := 0) (d := 0) (C := RX6) (T := TX6) (As' := []) (rest := [.ref 0]) (s_X6_init (x := 0) (by decide) rfl rfl rfl rfl rfl rfl rfl shF_7 shF_26 shF_45 shF_65 shF_84 rfl rfl hz1) (by omega) cw_L_122 qi_X6_init rfl (dk_at ktL_law_0 2 rfl) rfl rfl (Nat.le_of_ble_eq_true rfl) ⟨by decide, by decide, by decide, by decide⟩ (by exact (okC (okVr (by omega)) okN)) (by exact (okCl (okVb (by omega)) okNl)) (b := 7) rfl (fun G1 I1 J1 hq1 hz2 => ?_)
  obtain ⟨rfl, -, ht1, hD1, hv1, -, hG1⟩ := hq1
  refine gc_p (p_astore_n (ls' := [(1, .ref 0), (0, .ref 1300)]) (dk_at ktL_law_0 3 rfl) rfl (by decide) rfl (b := 8) rfl) ?_
  have hz3 := hz2.up (m := 105) (by omega)
  have h104 := (hz2.1 104 (by omega) (by omega)).1
  refine g_new (n := 104) hz2 (by omega) (by omega) (rfl : shF 104 = .inl (10, 28)) rfl lay_X7 tyX7_ok ql2_L_123 qin_X7 qn_TwinBootModel dv_X7 (by exact okN) (by exact (okCl (okVr (by omega)) (okCl (okVb (by omega)) okNl))) (kc' := 600919) (ks' := 7289229) (by decide) (by decide) (dk_at ktL_law_0 4 rfl) (b := 11) rfl ?_
  refine gc_p (p_dup (dk_at ktL_law_0 5 rfl) rfl (b := 12) rfl) ?_
  refine g_callI (ci := 0) (N := 0) (d := 104) (C := RX7) (T := TX7) (As' := []) (rest := [.ref 104]) (s_X7_init (m := 104) (by decide) rfl rfl rfl rfl rfl rfl rfl rfl rfl hz3 h104) (by omega) cw_L_125 qi_X7_init rfl (dk_at ktL_law_0 6 rfl) rfl rfl (Nat.le_of_ble_eq_true rfl) ⟨by decide, by decide, by decide, by decide⟩ (by exact (okC (okVr (by omega)) okN)) (by exact (okCl (okVr (by omega)) (okCl (okVb (by omega)) okNl))) (b := 15) rfl (fun G2 I2 J2 hq2 hz4 => ?_)
  obtain ⟨rfl, hb2, h2, hw2, hs2, hf2, hM2⟩ := hq2
  refine gc_p (p_astore_n (ls' := [(2, .ref 104), (1, .ref 0), (0, .ref 1300)]) (dk_at ktL_law_0 7 rfl) rfl (by decide) rfl (b := 16) rfl) ?_
  refine gc_p (p_iconst (v := nI 1) (dk_at ktL_law_0 8 rfl) (by decide) (b := 17) rfl) ?_
  have hz5 := hz4.up (m := 114) (by omega)
  refine g_newi (n := 113) (atype := .long) (t := 3) (len := 1) hz4 (by omega) (by omega) rfl (by decide) (Or.inr (Or.inr (Or.inr ⟨rfl, rfl⟩))) qac_long (by exact okN) (by exact (okCl (okVr (by omega)) (okCl (okVr (by omega)) (okCl (okVb (by omega)) okNl)))) (kc' := 600910) (ks' := 7286114) (by decide) (by decide) (dk_at ktL_law_0 9 rfl) (b := 19) rfl ?_
  refine gc_p (p_astore_n (ls' := [(3, .ref 113), (2, .ref 104), (1, .ref 0), (0, .ref 1300)]) (dk_at ktL_law_0 10 rfl) rfl (by decide) rfl (b := 20) rfl) ?_
  refine gc_p (p_iconst (v := nI (4 * 0)) (dk_at ktL_law_0 11 rfl) (by decide) (b := 21) rfl) ?_
  refine gc_p (p_istore (ls' := lawLs 0) (dk_at ktL_law_0 12 rfl) (by decide) rfl (b := 23) rfl) ?_
  refine gc_weak (kc' := 3 * 512) (ks' := 18 * 512) (by decide) (by decide) ?_
  have mono : ∀ {t : Nat}, TxtG (0 + 104) shF G1 t → t + 6 ≤ 104 → TxtG 114 shF G2 t := fun h hb => h.mono (by omega) (fun id _ _ => hf2 id (by omega))
  have monoD : ∀ {t : Nat}, DevG (0 + 104) shF G1 t → DevG 114 shF G2 t := fun h => h.mono (by omega) (fun id _ _ => hf2 id (by have := h.1; omega))
  obtain ⟨b1, b2, b3, b4, b5, b6, b7, b8, b9, b10, r1, r2, r3, r4, r5, r6, r7, r8⟩ := hG1
  have f0 : G2 0 = G1 0 := hf2 0 (by omega)
  have f64 : G2 64 = G1 64 := hf2 64 (by omega)
  have hB : BootH 114 shF G2 0 1 7 26 45 64 65 84 103 := ⟨⟨by decide, rfl⟩, mono b3 (by omega), monoD b4, monoD b5, monoD b6, ⟨by decide, rfl⟩, monoD b8, monoD b9, ⟨by decide, rfl⟩, ⟨by rw [f0]; exact r1, by rw [f0]; exact r2, by rw [f0]; exact r3, by rw [f0]; exact r4, by rw [f0]; exact r5, by rw [f0]; exact r6, by rw [f64]; exact r7, by rw [f64]; exact r8⟩, by omega⟩
  have hM : ModG 114 shF G2 104 := ⟨by decide, hM2.2⟩
  refine law_loop hL hB hM rfl 512 0 0 I2 _ (newS SI) (fun _ => 0) 0 (fun _ => none) (by omega) (by omega) (by omega) ⟨newS_inv GS_SI, newS_rel GS_SI hw2, RelN.of (hD1.fr (fun b _ hb => hb2 b (by omega))) (Nat.le_refl 0), ⟨TxOk_0, h2 10 (by decide), fun k hk => absurd hk (Nat.not_lt_zero k)⟩, ⟨TxOk_0, (congrFun (hb2 1 (by omega)) 2).trans (ht1 2), fun k hk => absurd hk (Nat.not_lt_zero k)⟩, fun k _ => ⟨fun _ => hs2 k, fun τ q => by cases q⟩, ⟨⟨fun _ => (congrFun (hb2 103 (by omega)) 0).trans (hv1 0), fun τ q => by cases q⟩, fun _ => (congrFun (hb2 103 (by omega)) 1).trans (hv1 1), fun τ q => by cases q⟩, fun k τ _ q => (by cases q), (h2 15 (by decide)).trans ((congrFun (hb2 1 (by omega)) 6).trans (ht1 6)).symm⟩

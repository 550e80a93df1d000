/-! THE CLASS: predictions over many cuts -/
set_option maxRecDepth 4000 in
set_option maxHeartbeats 4000000 in
theorem s_X6_cutsToNew {n : Nat} {sh : mS} {G : mG} {I : mI} {J : mJ} {bx bt o d bf bg b0 b1 bv : Nat} {σ : sT} {T N : Nat} (hB : BootH n sh G bx bt o d bf bg b0 b1 bv) (hR : RelD o I σ T N) (hI : Inv σ) (hT : T + 10 < 1000000) (v : Int32) : Sp yX6_cutsToNew cX6_cutsToNew 5 (some FieldType.int) 8 330 1 6 [.ref bx, .int v] n sh G I J (Qi (fun r_ I_ J_ => cIn v 1 255 = 0 ∧ a_cn v σ = r_ ∧ J = J_ ∧ FB d bg I I_)) (eX (cIn v 1 255) I J) := by
  have ho := hB.hD
  have hd := hB.hT
  have hord := hB.ord
  have hb := hI.bd
  have hNs := hR.2.2.2.1
  have hN61 := hR.2.2.2.2.1
  have hTm := hR.2.2.2.2.2
  refine Sp.of (by decide) (ls := [(0, .ref bx), (1, .int v)]) (fun _ => rfl) (fun _ => Nat.le_of_ble_eq_true rfl) ?_
  refine rc_p (p_iload_n 1 (dk_at ktX6_cutsToNew_0 0 rfl) rfl rfl (b := 1) rfl) ?_
  refine r_vSX (As := [.int v]) (rest := []) (s_X6_requireVersion v) cw_X6_117 qs_X6_requireVersion (dk_at ktX6_cutsToNew_0 1 rfl) rfl rfl (Nat.le_of_ble_eq_true rfl) (by decide) (b := 4) rfl (fun _ _ _ h => ⟨Or.inl ⟨h.1, cIn_f h.2.1⟩, h.2.2⟩) (fun I1 J2 hq3 => ?_)
  obtain ⟨ok4, rfl, rfl⟩ := hq3
  obtain ⟨q, hq, rfl⟩ := vs_ok ok4
  have cut8 : ∀ (t c : Nat) (x : Int32) (Iz : mI), FB d bg I Iz → 1002 - c < t → c ≤ 1001 → (c = 0 ∨ errU (nI q) σ = 0) → (errU (nI q) σ = 0 → a_cn (nI q) σ = cnS (nI q) σ (1001 - c) c x) → Rc RX6 cX6_cutsToNew 5 (some FieldType.int) 8 330 1 6 n sh G (Qi (fun r_ I_ J_ => cIn (nI q) 1 255 = 0 ∧ a_cn (nI q) σ = r_ ∧ J = J_ ∧ FB d bg I I_)) (eX (cIn (nI q) 1 255) I J) (1 - 1) (6 - 6) 8 [(2, .int x), (3, .int (nI c)), (0, .ref bx), (1, .int (nI q))] [] Iz J := by
    intro t
    induction t
    · intro c x Iz _ h; omega
    rename_i t ih
    intro c x Iz hFz ht h1 h0 hx
    refine rc_p (p_iload_n 1 (dk_at ktX6_cutsToNew_0 6 rfl) rfl rfl (b := 9) rfl) ?_
    refine rc_p (p_sipush (v := 1000) (dk_at ktX6_cutsToNew_0 7 rfl) (by decide) (b := 12) rfl) ?_
    refine r_icmp_gt (dk_at ktX6_cutsToNew_0 8 rfl) (b := 67) (by decide) (b2 := 15) rfl (fun c12 => ?_) (fun c12 => ?_)
    · have c12 : 1000 < c := (nI_ltI (a := 1000) (b := c) (by omega) (by omega)).mp c12
      refine rc_p (p_iload_n 0 (dk_at ktX6_cutsToNew_0 35 rfl) rfl rfl (b := 68) rfl) ?_
      refine r_iret (dk_at ktX6_cutsToNew_0 36 rfl) rfl rfl ⟨_, rfl, ?_⟩
      refine ⟨cIn_t ok4, ?_, rfl, hFz⟩
      have he := h0.resolve_left (by omega)
      rw [hx he, show c = 1001 by omega]; rfl
    · have c12 : ¬ 1000 < c := fun h => c12 ((nI_ltI (a := 1000) (b := c) (by omega) (by omega)).mpr h)
      refine rc_p (p_aload_n 2 (dk_at ktX6_cutsToNew_0 9 rfl) rfl rfl (b := 16) rfl) ?_
      refine rc_p (p_iload_n 3 (dk_at ktX6_cutsToNew_0 10 rfl) rfl rfl (b := 17) rfl) ?_
      refine rc_p (p_iload_n 1 (dk_at ktX6_cutsToNew_0 11 rfl) rfl rfl (b := 18) rfl) ?_
      refine rc_p (p_iconst (v := 0) (dk_at ktX6_cutsToNew_0 12 rfl) (by decide) (b := 19) rfl) ?_
      refine r_iV (As' := [.int (nI q), .int (nI c), .int 0]) (rest := []) (s_X6_bootAfterCut hB (hR.fr (fun b g1 g2 => hFz b (by omega))) hI (by omega) q (by omega) (nI c) false (n_i (by omega))) cw_X6_219 qi_X6_bootAfterCut qv_X6_bootAfterCut rfl hB.l0 hB.s0 (dk_at ktX6_cutsToNew_0 13 rfl) rfl rfl (Nat.le_of_ble_eq_true rfl) (by decide) (b := 22) rfl (fun v8 I5 J6 q7 => ?_)
      obtain ⟨eb9, rfl, hF10, hN11⟩ := q7
      refine rc_p (p_istore (ls' := [(4, .int v8), (2, .int x), (3, .int (nI c)), (0, .ref bx), (1, .int (nI q))]) (dk_at ktX6_cutsToNew_0 14 rfl) (by decide) rfl (b := 24) rfl) ?_
      refine rc_p (p_iload 0 (dk_at ktX6_cutsToNew_0 15 rfl) rfl (b := 26) rfl) ?_
      refine rc_p (p_iconst (v := (-1)) (dk_at ktX6_cutsToNew_0 16 rfl) (by decide) (b := 27) rfl) ?_
      refine r_icmp_ge (dk_at ktX6_cutsToNew_0 17 rfl) (b := 44) (by decide) (b2 := 30) rfl (fun c27 => ?_) (fun c27 => ?_)
      · skip
        refine rc_p (p_iload 0 (dk_at ktX6_cutsToNew_0 25 rfl) rfl (b := 46) rfl) ?_
        refine rc_p (p_iconst (v := 1) (dk_at ktX6_cutsToNew_0 26 rfl) (by decide) (b := 47) rfl) ?_
        refine rc_p (p_aload_n 3 (dk_at ktX6_cutsToNew_0 27 rfl) rfl rfl (b := 48) rfl) ?_
        refine r_geta fl_X6_27 rfl hB.l0 hB.s0 (dk_at ktX6_cutsToNew_0 28 rfl) hB.g0_1 (b := 51) rfl ?_
        refine r_geti fl_X6_108 rfl ho.l0 ho.s0 (dk_at ktX6_cutsToNew_0 29 rfl) (v := (σ 8)) ((congrFun ((FB.tr hFz hF10) _ (by omega)) 8).trans (hR.1 0 8 8 lc_0_8)) (b := 54) rfl ?_
        refine rc_p (p_isub (v := (1 - (σ 8))) (dk_at ktX6_cutsToNew_0 30 rfl) rfl (b := 55) rfl) ?_
        refine r_icmp_ne (dk_at ktX6_cutsToNew_0 31 rfl) (b := 61) (by decide) (b2 := 58) rfl (fun c55 => ?_) (fun c55 => ?_)
        · skip
          refine rc_p (p_iinc (j := 2) (v := (nI (c + 1))) (ls' := [(3, .int (nI (c + 1))), (4, .int v8), (2, .int x), (0, .ref bx), (1, .int (nI q))]) (dk_at ktX6_cutsToNew_0 33 rfl) rfl (nI_add c 1) (by decide) rfl (b := 64) rfl) ?_
          refine rc_p (p_goto (b := 8) (dk_at ktX6_cutsToNew_0 34 rfl) (by decide)) ?_
          refine rc_sub [2, 0, 3, 4] (ls' := [(2, .int x), (3, .int (nI (c + 1))), (0, .ref bx), (1, .int (nI q))]) rfl ?_
          have h0 := bac_0 eb9 (ge_ne c27 (by decide)) (ge_ne c27 (by decide))
          exact ih (c + 1) (x) I5 (FB.tr hFz hF10) (by omega) (by omega) (Or.inr h0.1) (fun he => (hx he).trans (cnS_g (by omega) (fun g => ge_ne c27 (by decide) (h0.2.symm.trans g)) (if_neg (fun g => c55 (h0.2.symm.trans g))).symm))
        · skip
          refine rc_p (p_iinc (j := 1) (v := (x + 1)) (ls' := [(2, .int (x + 1)), (4, .int v8), (3, .int (nI c)), (0, .ref bx), (1, .int (nI q))]) (dk_at ktX6_cutsToNew_0 32 rfl) rfl rfl (by decide) rfl (b := 61) rfl) ?_
          refine rc_p (p_iinc (j := 2) (v := (nI (c + 1))) (ls' := [(3, .int (nI (c + 1))), (2, .int (x + 1)), (4, .int v8), (0, .ref bx), (1, .int (nI q))]) (dk_at ktX6_cutsToNew_0 33 rfl) rfl (nI_add c 1) (by decide) rfl (b := 64) rfl) ?_
          refine rc_p (p_goto (b := 8) (dk_at ktX6_cutsToNew_0 34 rfl) (by decide)) ?_
          refine rc_sub [1, 0, 3, 4] (ls' := [(2, .int (x + 1)), (3, .int (nI (c + 1))), (0, .ref bx), (1, .int (nI q))]) rfl ?_
          have h0 := bac_0 eb9 (ge_ne c27 (by decide)) (ge_ne c27 (by decide))
          exact ih (c + 1) (x + 1) I5 (FB.tr hFz hF10) (by omega) (by omega) (Or.inr h0.1) (fun he => (hx he).trans (cnS_g (by omega) (fun g => ge_ne c27 (by decide) (h0.2.symm.trans g)) (if_pos (h0.2.trans c55)).symm))
      · skip
        refine rc_p (p_iload 0 (dk_at ktX6_cutsToNew_0 18 rfl) rfl (b := 32) rfl) ?_
        refine rc_p (p_bipush (v := (-2)) (dk_at ktX6_cutsToNew_0 19 rfl) (by decide) (b := 34) rfl) ?_
        refine r_icmp_ne (dk_at ktX6_cutsToNew_0 20 rfl) (b := 41) (by decide) (b2 := 37) rfl (fun c34 => ?_) (fun c34 => ?_)
        · skip
          refine rc_p (p_iload 0 (dk_at ktX6_cutsToNew_0 23 rfl) rfl (b := 43) rfl) ?_
          refine r_iret (dk_at ktX6_cutsToNew_0 24 rfl) rfl rfl ⟨_, rfl, ?_⟩
          refine ⟨cIn_t ok4, ?_, rfl, (FB.tr hFz hF10)⟩
          have h0 := bac_n hI (n_i (by omega)) eb9 (Int32.not_le.mp c27) c34
          unfold a_cn; rw [if_neg h0.1, h0.2]
        · skip
          refine rc_p (p_iload_n 1 (dk_at ktX6_cutsToNew_0 21 rfl) rfl rfl (b := 38) rfl) ?_
          refine rc_p (p_goto (b := 43) (dk_at ktX6_cutsToNew_0 22 rfl) (by decide)) ?_
          refine r_iret (dk_at ktX6_cutsToNew_0 24 rfl) rfl rfl ⟨_, rfl, ?_⟩
          refine ⟨cIn_t ok4, ?_, rfl, (FB.tr hFz hF10)⟩
          have h0 := bac_0 (eb9.trans c34) (by decide) (by decide)
          exact (hx h0.1).trans (cnS_e (by omega) h0.2)
  refine rc_p (p_iconst (v := 0) (dk_at ktX6_cutsToNew_0 2 rfl) (by decide) (b := 5) rfl) ?_
  refine rc_p (p_istore_n (ls' := [(2, .int 0), (0, .ref bx), (1, .int (nI q))]) (dk_at ktX6_cutsToNew_0 3 rfl) rfl (by decide) rfl (b := 6) rfl) ?_
  refine rc_p (p_iconst (v := 0) (dk_at ktX6_cutsToNew_0 4 rfl) (by decide) (b := 7) rfl) ?_
  refine rc_p (p_istore_n (ls' := [(3, .int 0), (2, .int 0), (0, .ref bx), (1, .int (nI q))]) (dk_at ktX6_cutsToNew_0 5 rfl) rfl (by decide) rfl (b := 8) rfl) ?_
  refine rc_sub [1, 0, 2, 3] (ls' := [(2, .int 0), (3, .int 0), (0, .ref bx), (1, .int (nI q))]) rfl ?_
  exact cut8 2000 0 0 I FB.rf (by omega) (by omega) (Or.inl rfl) (fun he => if_pos he)
set_option maxRecDepth 4000 in
set_option maxHeartbeats 4000000 in
theorem s_X6_longestOldRun {n : Nat} {sh : mS} {G : mG} {I : mI} {J : mJ} {bx bt o d bf bg b0 b1 bv : Nat} {σ : sT} {T N : Nat} (hB : BootH n sh G bx bt o d bf bg b0 b1 bv) (hR : RelD o I σ T N) (hI : Inv σ) (hT : T + 10 < 1000000) (v : Int32) : Sp yX6_longestOldRun cX6_longestOldRun 6 (some FieldType.int) 8 330 1 6 [.ref bx, .int v] n sh G I J (Qi (fun r_ I_ J_ => cIn v 1 255 = 0 ∧ a_lo v σ = r_ ∧ J = J_ ∧ FB d bg I I_)) (eX (cIn v 1 255) I J) := by
  have ho := hB.hD
  have hd := hB.hT
  have hord := hB.ord
  have hb := hI.bd
  have hNs := hR.2.2.2.1
  have hN61 := hR.2.2.2.2.1
  have hTm := hR.2.2.2.2.2
  refine Sp.of (by decide) (ls := [(0, .ref bx), (1, .int v)]) (fun _ => rfl) (fun _ => Nat.le_of_ble_eq_true rfl) ?_
  refine rc_p (p_iload_n 1 (dk_at ktX6_longestOldRun_0 0 rfl) rfl rfl (b := 1) rfl) ?_
  refine r_vSX (As := [.int v]) (rest := []) (s_X6_requireVersion v) cw_X6_117 qs_X6_requireVersion (dk_at ktX6_longestOldRun_0 1 rfl) rfl rfl (Nat.le_of_ble_eq_true rfl) (by decide) (b := 4) rfl (fun _ _ _ h => ⟨Or.inl ⟨h.1, cIn_f h.2.1⟩, h.2.2⟩) (fun I1 J2 hq3 => ?_)
  obtain ⟨ok4, rfl, rfl⟩ := hq3
  obtain ⟨q, hq, rfl⟩ := vs_ok ok4
  have cut11 : ∀ (t c r k : Nat) (Iz : mI), FB d bg I Iz → 1002 - c < t → c ≤ 1001 → r ≤ c → k ≤ c → (c = 0 ∨ errU (nI q) σ = 0) → (errU (nI q) σ = 0 → a_lo (nI q) σ = nI (loS (nI q) σ (1001 - c) c r k)) → Rc RX6 cX6_longestOldRun 6 (some FieldType.int) 8 330 1 6 n sh G (Qi (fun r_ I_ J_ => cIn (nI q) 1 255 = 0 ∧ a_lo (nI q) σ = r_ ∧ J = J_ ∧ FB d bg I I_)) (eX (cIn (nI q) 1 255) I J) (1 - 1) (6 - 6) 11 [(2, .int (nI k)), (3, .int (nI r)), (4, .int (nI c)), (0, .ref bx), (1, .int (nI q))] [] Iz J := by
    intro t
    induction t
    · intro c r k Iz _ h; omega
    rename_i t ih
    intro c r k Iz hFz ht h1 hrc hkc h0 hx
    refine rc_p (p_iload 2 (dk_at ktX6_longestOldRun_0 8 rfl) rfl (b := 13) rfl) ?_
    refine rc_p (p_sipush (v := 1000) (dk_at ktX6_longestOldRun_0 9 rfl) (by decide) (b := 16) rfl) ?_
    refine r_icmp_gt (dk_at ktX6_longestOldRun_0 10 rfl) (b := 81) (by decide) (b2 := 19) rfl (fun c16 => ?_) (fun c16 => ?_)
    · have c16 : 1000 < c := (nI_ltI (a := 1000) (b := c) (by omega) (by omega)).mp c16
      refine rc_p (p_iload_n 0 (dk_at ktX6_longestOldRun_0 44 rfl) rfl rfl (b := 82) rfl) ?_
      refine r_iret (dk_at ktX6_longestOldRun_0 45 rfl) rfl rfl ⟨_, rfl, ?_⟩
      refine ⟨cIn_t ok4, ?_, rfl, hFz⟩
      have he := h0.resolve_left (by omega)
      rw [hx he, show c = 1001 by omega]; rfl
    · have c16 : ¬ 1000 < c := fun h => c16 ((nI_ltI (a := 1000) (b := c) (by omega) (by omega)).mpr h)
      refine rc_p (p_aload_n 3 (dk_at ktX6_longestOldRun_0 11 rfl) rfl rfl (b := 20) rfl) ?_
      refine rc_p (p_iload_n 4 (dk_at ktX6_longestOldRun_0 12 rfl) rfl rfl (b := 21) rfl) ?_
      refine rc_p (p_iload 2 (dk_at ktX6_longestOldRun_0 13 rfl) rfl (b := 23) rfl) ?_
      refine rc_p (p_iconst (v := 0) (dk_at ktX6_longestOldRun_0 14 rfl) (by decide) (b := 24) rfl) ?_
      refine r_iV (As' := [.int (nI q), .int (nI c), .int 0]) (rest := []) (s_X6_bootAfterCut hB (hR.fr (fun b g1 g2 => hFz b (by omega))) hI (by omega) q (by omega) (nI c) false (n_i (by omega))) cw_X6_219 qi_X6_bootAfterCut qv_X6_bootAfterCut rfl hB.l0 hB.s0 (dk_at ktX6_longestOldRun_0 15 rfl) rfl rfl (Nat.le_of_ble_eq_true rfl) (by decide) (b := 27) rfl (fun v8 I5 J6 q7 => ?_)
      obtain ⟨eb9, rfl, hF10, hN11⟩ := q7
      refine rc_p (p_istore (ls' := [(5, .int v8), (2, .int (nI k)), (3, .int (nI r)), (4, .int (nI c)), (0, .ref bx), (1, .int (nI q))]) (dk_at ktX6_longestOldRun_0 16 rfl) (by decide) rfl (b := 29) rfl) ?_
      refine rc_p (p_iload 0 (dk_at ktX6_longestOldRun_0 17 rfl) rfl (b := 31) rfl) ?_
      refine rc_p (p_iconst (v := (-1)) (dk_at ktX6_longestOldRun_0 18 rfl) (by decide) (b := 32) rfl) ?_
      refine r_icmp_ge (dk_at ktX6_longestOldRun_0 19 rfl) (b := 49) (by decide) (b2 := 35) rfl (fun c32 => ?_) (fun c32 => ?_)
      · skip
        refine rc_p (p_iload 0 (dk_at ktX6_longestOldRun_0 27 rfl) rfl (b := 51) rfl) ?_
        refine rc_p (p_aload_n 4 (dk_at ktX6_longestOldRun_0 28 rfl) rfl rfl (b := 52) rfl) ?_
        refine r_geta fl_X6_27 rfl hB.l0 hB.s0 (dk_at ktX6_longestOldRun_0 29 rfl) hB.g0_1 (b := 55) rfl ?_
        refine r_geti fl_X6_108 rfl ho.l0 ho.s0 (dk_at ktX6_longestOldRun_0 30 rfl) (v := (σ 8)) ((congrFun ((FB.tr hFz hF10) _ (by omega)) 8).trans (hR.1 0 8 8 lc_0_8)) (b := 58) rfl ?_
        refine r_icmp_ne (dk_at ktX6_longestOldRun_0 31 rfl) (b := 67) (by decide) (b2 := 61) rfl (fun c58 => ?_) (fun c58 => ?_)
        · skip
          refine rc_p (p_iconst (v := 0) (dk_at ktX6_longestOldRun_0 36 rfl) (by decide) (b := 68) rfl) ?_
          refine rc_p (p_istore_n (ls' := [(3, .int 0), (5, .int v8), (2, .int (nI k)), (4, .int (nI c)), (0, .ref bx), (1, .int (nI q))]) (dk_at ktX6_longestOldRun_0 37 rfl) rfl (by decide) rfl (b := 69) rfl) ?_
          refine rc_p (p_iload_n 2 (dk_at ktX6_longestOldRun_0 38 rfl) rfl rfl (b := 70) rfl) ?_
          refine rc_p (p_iload_n 0 (dk_at ktX6_longestOldRun_0 39 rfl) rfl rfl (b := 71) rfl) ?_
          refine r_mmax (v := (if (nI k) < 0 then 0 else (nI k))) qm_X6_226 qmax_s qmath_n qmax_c (dk_at ktX6_longestOldRun_0 40 rfl) ⟨by decide, Nat.le_of_ble_eq_true rfl⟩ rfl (b := 74) rfl ?_
          refine r_val (y := nI k) ((max_nI (a := k) (b := 0) (by omega) (by decide)).trans (congrArg nI (Nat.max_eq_left (Nat.zero_le _)))) ?_
          refine rc_p (p_istore_n (ls' := [(2, .int (nI k)), (3, .int 0), (5, .int v8), (4, .int (nI c)), (0, .ref bx), (1, .int (nI q))]) (dk_at ktX6_longestOldRun_0 41 rfl) rfl (by decide) rfl (b := 75) rfl) ?_
          refine rc_p (p_iinc (j := 3) (v := (nI (c + 1))) (ls' := [(4, .int (nI (c + 1))), (2, .int (nI k)), (3, .int 0), (5, .int v8), (0, .ref bx), (1, .int (nI q))]) (dk_at ktX6_longestOldRun_0 42 rfl) rfl (nI_add c 1) (by decide) rfl (b := 78) rfl) ?_
          refine rc_p (p_goto (b := 11) (dk_at ktX6_longestOldRun_0 43 rfl) (by decide)) ?_
          refine rc_sub [1, 2, 0, 4, 5] (ls' := [(2, .int (nI k)), (3, .int 0), (4, .int (nI (c + 1))), (0, .ref bx), (1, .int (nI q))]) rfl ?_
          have h0 := bac_0 eb9 (ge_ne c32 (by decide)) (ge_ne c32 (by decide))
          have hy : loR (nI q) σ c r = 0 := if_neg (fun g => c58 (h0.2.symm.trans g))
          have hL := loS_g (v := nI q) (σ := σ) (c := c) (r := r) (m := k) (by omega) (fun g => ge_ne c32 (by decide) (h0.2.symm.trans g))
          rw [hy, Nat.max_eq_left (Nat.zero_le _)] at hL
          exact ih (c + 1) (0) (k) I5 (FB.tr hFz hF10) (by omega) (by omega) (by omega) (by omega) (Or.inr h0.1) (fun he => (hx he).trans (congrArg nI hL))
        · skip
          refine rc_p (p_iload_n 2 (dk_at ktX6_longestOldRun_0 32 rfl) rfl rfl (b := 62) rfl) ?_
          refine rc_p (p_iconst (v := 1) (dk_at ktX6_longestOldRun_0 33 rfl) (by decide) (b := 63) rfl) ?_
          refine rc_p (p_iadd (v := (nI (r + 1))) (dk_at ktX6_longestOldRun_0 34 rfl) (nI_add r 1) (b := 64) rfl) ?_
          refine rc_p (p_goto (b := 68) (dk_at ktX6_longestOldRun_0 35 rfl) (by decide)) ?_
          refine rc_p (p_istore_n (ls' := [(3, .int (nI (r + 1))), (5, .int v8), (2, .int (nI k)), (4, .int (nI c)), (0, .ref bx), (1, .int (nI q))]) (dk_at ktX6_longestOldRun_0 37 rfl) rfl (by decide) rfl (b := 69) rfl) ?_
          refine rc_p (p_iload_n 2 (dk_at ktX6_longestOldRun_0 38 rfl) rfl rfl (b := 70) rfl) ?_
          refine rc_p (p_iload_n 0 (dk_at ktX6_longestOldRun_0 39 rfl) rfl rfl (b := 71) rfl) ?_
          refine r_mmax (v := (if (nI k) < (nI (r + 1)) then (nI (r + 1)) else (nI k))) qm_X6_226 qmax_s qmath_n qmax_c (dk_at ktX6_longestOldRun_0 40 rfl) ⟨by decide, Nat.le_of_ble_eq_true rfl⟩ rfl (b := 74) rfl ?_
          refine r_val (y := nI (max k (r + 1))) (max_nI (by omega) (by omega)) ?_
          refine rc_p (p_istore_n (ls' := [(2, .int (nI (max k (r + 1)))), (3, .int (nI (r + 1))), (5, .int v8), (4, .int (nI c)), (0, .ref bx), (1, .int (nI q))]) (dk_at ktX6_longestOldRun_0 41 rfl) rfl (by decide) rfl (b := 75) rfl) ?_
          refine rc_p (p_iinc (j := 3) (v := (nI (c + 1))) (ls' := [(4, .int (nI (c + 1))), (2, .int (nI (max k (r + 1)))), (3, .int (nI (r + 1))), (5, .int v8), (0, .ref bx), (1, .int (nI q))]) (dk_at ktX6_longestOldRun_0 42 rfl) rfl (nI_add c 1) (by decide) rfl (b := 78) rfl) ?_
          refine rc_p (p_goto (b := 11) (dk_at ktX6_longestOldRun_0 43 rfl) (by decide)) ?_
          refine rc_sub [1, 2, 0, 4, 5] (ls' := [(2, .int (nI (max k (r + 1)))), (3, .int (nI (r + 1))), (4, .int (nI (c + 1))), (0, .ref bx), (1, .int (nI q))]) rfl ?_
          have h0 := bac_0 eb9 (ge_ne c32 (by decide)) (ge_ne c32 (by decide))
          have hy : loR (nI q) σ c r = r + 1 := if_pos (h0.2.trans c58)
          have hL := loS_g (v := nI q) (σ := σ) (c := c) (r := r) (m := k) (by omega) (fun g => ge_ne c32 (by decide) (h0.2.symm.trans g))
          rw [hy] at hL
          exact ih (c + 1) (r + 1) (max k (r + 1)) I5 (FB.tr hFz hF10) (by omega) (by omega) (by omega) (by omega) (Or.inr h0.1) (fun he => (hx he).trans (congrArg nI hL))
      · skip
        refine rc_p (p_iload 0 (dk_at ktX6_longestOldRun_0 20 rfl) rfl (b := 37) rfl) ?_
        refine rc_p (p_bipush (v := (-2)) (dk_at ktX6_longestOldRun_0 21 rfl) (by decide) (b := 39) rfl) ?_
        refine r_icmp_ne (dk_at ktX6_longestOldRun_0 22 rfl) (b := 46) (by decide) (b2 := 42) rfl (fun c39 => ?_) (fun c39 => ?_)
        · skip
          refine rc_p (p_iload 0 (dk_at ktX6_longestOldRun_0 25 rfl) rfl (b := 48) rfl) ?_
          refine r_iret (dk_at ktX6_longestOldRun_0 26 rfl) rfl rfl ⟨_, rfl, ?_⟩
          refine ⟨cIn_t ok4, ?_, rfl, (FB.tr hFz hF10)⟩
          have h0 := bac_n hI (n_i (by omega)) eb9 (Int32.not_le.mp c32) c39
          unfold a_lo; rw [if_neg h0.1, h0.2]
        · skip
          refine rc_p (p_iload_n 1 (dk_at ktX6_longestOldRun_0 23 rfl) rfl rfl (b := 43) rfl) ?_
          refine rc_p (p_goto (b := 48) (dk_at ktX6_longestOldRun_0 24 rfl) (by decide)) ?_
          refine r_iret (dk_at ktX6_longestOldRun_0 26 rfl) rfl rfl ⟨_, rfl, ?_⟩
          refine ⟨cIn_t ok4, ?_, rfl, (FB.tr hFz hF10)⟩
          have h0 := bac_0 (eb9.trans c39) (by decide) (by decide)
          exact (hx h0.1).trans (congrArg nI (loS_e (by omega) h0.2))
  refine rc_p (p_iconst (v := 0) (dk_at ktX6_longestOldRun_0 2 rfl) (by decide) (b := 5) rfl) ?_
  refine rc_p (p_istore_n (ls' := [(2, .int 0), (0, .ref bx), (1, .int (nI q))]) (dk_at ktX6_longestOldRun_0 3 rfl) rfl (by decide) rfl (b := 6) rfl) ?_
  refine rc_p (p_iconst (v := 0) (dk_at ktX6_longestOldRun_0 4 rfl) (by decide) (b := 7) rfl) ?_
  refine rc_p (p_istore_n (ls' := [(3, .int 0), (2, .int 0), (0, .ref bx), (1, .int (nI q))]) (dk_at ktX6_longestOldRun_0 5 rfl) rfl (by decide) rfl (b := 8) rfl) ?_
  refine rc_p (p_iconst (v := 0) (dk_at ktX6_longestOldRun_0 6 rfl) (by decide) (b := 9) rfl) ?_
  refine rc_p (p_istore (ls' := [(4, .int 0), (3, .int 0), (2, .int 0), (0, .ref bx), (1, .int (nI q))]) (dk_at ktX6_longestOldRun_0 7 rfl) (by decide) rfl (b := 11) rfl) ?_
  refine rc_sub [2, 1, 0, 3, 4] (ls' := [(2, .int 0), (3, .int 0), (4, .int 0), (0, .ref bx), (1, .int (nI q))]) rfl ?_
  exact cut11 2000 0 0 0 I FB.rf (by omega) (by omega) (by omega) (by omega) (Or.inl rfl) (fun he => if_pos he)

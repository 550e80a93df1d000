/-! THE CLASS: predictions over cuts -/
set_option maxRecDepth 4000 in
set_option maxHeartbeats 4000000 in
theorem s_X6_bootAfterCut {n : Nat} {sh : mS} {G : mG} {I : mI} {J : mJ} {bx bt o d bf bg b0 b1 bv : Nat} {σ : sT} {T N : Nat} (hB : BootH n sh G bx bt o d bf bg b0 b1 bv) (hR : RelD o I σ T N) (hI : Inv σ) (hT : T + 10 < 1000000) (v : Nat) (hv : v < 256) (c : Int32) (thr : Bool) (hc : (-1 : Int) ≤ c.toInt) : Sp yX6_bootAfterCut cX6_bootAfterCut 5 (some FieldType.int) 7 238 0 0 [.ref bx, .int (nI v), .int c, .int (bi thr)] n sh G I J (Qi (fun r_ I_ J_ => a_bac (nI v) thr c σ = r_ ∧ J = J_ ∧ FB d bg I I_ ∧ ((fUpd (nI v) thr (upd σ 6 c)).1 = -4 → RelN d I_ (fAft (nI v) thr c (-1) σ).2 (T + 10)))) (nX) := by
  have ho := hB.hD
  have hd := hB.hT
  have hord := hB.ord
  have hb := hI.bd
  have hNs := hR.2.2.2.1
  have hN61 := hR.2.2.2.2.1
  have hTm := hR.2.2.2.2.2
  refine Sp.of (by decide) (ls := [(0, .ref bx), (1, .int (nI v)), (2, .int c), (3, .int (bi thr))]) (fun _ => rfl) (fun _ => Nat.le_of_ble_eq_true rfl) ?_
  refine rc_p (p_aload_n 0 (dk_at ktX6_bootAfterCut_0 0 rfl) rfl rfl (b := 1) rfl) ?_
  refine rc_p (p_iload_n 2 (dk_at ktX6_bootAfterCut_0 1 rfl) rfl rfl (b := 2) rfl) ?_
  refine r_vV (As' := [.int c]) (rest := []) (s_X6_prepareTrial hB hR hI c) cw_X6_213 qi_X6_prepareTrial qv_X6_prepareTrial rfl hB.l0 hB.s0 (dk_at ktX6_bootAfterCut_0 2 rfl) rfl rfl (Nat.le_of_ble_eq_true rfl) (by decide) (b := 5) rfl (fun I1 J2 q3 => ?_)
  obtain ⟨rfl, hR5, hF6⟩ := q3
  refine rc_p (p_aload_n 0 (dk_at ktX6_bootAfterCut_0 3 rfl) rfl rfl (b := 6) rfl) ?_
  refine r_geta fl_X6_31 rfl hB.l0 hB.s0 (dk_at ktX6_bootAfterCut_0 4 rfl) hB.g0_2 (b := 9) rfl ?_
  refine rc_p (p_iload_n 1 (dk_at ktX6_bootAfterCut_0 5 rfl) rfl rfl (b := 10) rfl) ?_
  refine rc_p (p_iload_n 3 (dk_at ktX6_bootAfterCut_0 6 rfl) rfl rfl (b := 11) rfl) ?_
  refine r_iV (As' := [.int (nI v), .int (bi thr)]) (rest := []) (s_X0_updateOther hd (σ := (upd σ 6 c)) hR5 (Inv.p6 hI hc) (by omega) v (by omega) thr) cw_X6_121 qi_X0_updateOther qv_X0_updateOther rfl hd.l0 hd.s0 (dk_at ktX6_bootAfterCut_0 7 rfl) rfl rfl (Nat.le_of_ble_eq_true rfl) (by decide) (b := 14) rfl (fun v10 I7 J8 q9 => ?_)
  obtain ⟨eq15, rfl, ⟨T11, hT12, hR13⟩, hF14⟩ := q9
  refine rc_p (p_istore (ls' := [(4, .int v10), (0, .ref bx), (1, .int (nI v)), (2, .int c), (3, .int (bi thr))]) (dk_at ktX6_bootAfterCut_0 8 rfl) (by decide) rfl (b := 16) rfl) ?_
  refine rc_p (p_aload_n 1 (dk_at ktX6_bootAfterCut_0 9 rfl) rfl rfl (b := 17) rfl) ?_
  refine r_geta fl_X6_31 rfl hB.l0 hB.s0 (dk_at ktX6_bootAfterCut_0 10 rfl) hB.g0_2 (b := 20) rfl ?_
  refine r_geta fl_X6_57 rfl hd.l0 hd.s0 (dk_at ktX6_bootAfterCut_0 11 rfl) hd.g0_0 (b := 23) rfl ?_
  refine rc_p (p_iconst (v := (-1)) (dk_at ktX6_bootAfterCut_0 12 rfl) (by decide) (b := 24) rfl) ?_
  refine r_puti fl_X6_102 fw_X1_7 rfl (hd.lt 1 (by decide)) hd.s1 rfl rfl (dk_at ktX6_bootAfterCut_0 13 rfl) (b := 27) rfl ?_
  refine rc_p (p_iload 0 (dk_at ktX6_bootAfterCut_0 14 rfl) rfl (b := 29) rfl) ?_
  refine rc_p (p_bipush (v := (-4)) (dk_at ktX6_bootAfterCut_0 15 rfl) (by decide) (b := 31) rfl) ?_
  refine r_icmp_ne (dk_at ktX6_bootAfterCut_0 16 rfl) (b := 42) (by decide) (b2 := 34) rfl (fun c31 => ?_) (fun c31 => ?_)
  · skip
    refine rc_p (p_iload 0 (dk_at ktX6_bootAfterCut_0 21 rfl) rfl (b := 44) rfl) ?_
    refine r_if_ge (dk_at ktX6_bootAfterCut_0 22 rfl) (b := 52) (by decide) (b2 := 47) rfl (fun c44 => ?_) (fun c44 => ?_)
    · skip
      refine rc_p (p_bipush (v := (-2)) (dk_at ktX6_bootAfterCut_0 25 rfl) (by decide) (b := 54) rfl) ?_
      refine r_iret (dk_at ktX6_bootAfterCut_0 26 rfl) rfl rfl ⟨_, rfl, ?_⟩
      have e0 := bac_full (v := nI v) (thr := thr) (c := c) (σ := σ) (fun g => c31 (eq15.symm.trans g)) (by rw [eq15]; exact c44)
      refine ⟨?_, rfl, (FB.tr (FB.tr (FB.tr FB.rf hF6) (FD.fb hF14 (by decide) (by omega))) (fun b hb => up2_off (by omega))), fun g => absurd g (fun g => c31 (eq15.symm.trans g))⟩
      unfold a_bac; rw [if_pos e0.1, e0.2]
    · skip
      refine rc_p (p_iload 0 (dk_at ktX6_bootAfterCut_0 23 rfl) rfl (b := 49) rfl) ?_
      refine rc_p (p_goto (b := 54) (dk_at ktX6_bootAfterCut_0 24 rfl) (by decide)) ?_
      refine r_iret (dk_at ktX6_bootAfterCut_0 26 rfl) rfl rfl ⟨_, rfl, ?_⟩
      have e0 := bac_err (thr := thr) hI hc (fun g => c31 (eq15.symm.trans g)) (by rw [eq15]; exact Int32.not_le.mp c44)
      refine ⟨?_, rfl, (FB.tr (FB.tr (FB.tr FB.rf hF6) (FD.fb hF14 (by decide) (by omega))) (fun b hb => up2_off (by omega))), fun g => absurd g (fun g => c31 (eq15.symm.trans g))⟩
      unfold a_bac; rw [if_neg e0.1, e0.2]; exact eq15
  · skip
    refine rc_p (p_aload_n 1 (dk_at ktX6_bootAfterCut_0 17 rfl) rfl rfl (b := 35) rfl) ?_
    refine r_geta fl_X6_31 rfl hB.l0 hB.s0 (dk_at ktX6_bootAfterCut_0 18 rfl) hB.g0_2 (b := 38) rfl ?_
    refine r_iV (As' := []) (rest := []) (s_X0_startUp hd (σ := (upd ((fUpd (nI v) thr (upd σ 6 c)).2) 6 (-1))) (hR13.set (o := 1) (k := 7) (a := 6) lc_1_7 (by omega) (by omega) (fun q => absurd q (by omega))) (Inv.pm (Inv.upda (Inv.p6 hI hc))) (by omega)) cw_X6_105 qi_X0_startUp qv_X0_startUp rfl hd.l0 hd.s0 (dk_at ktX6_bootAfterCut_0 19 rfl) rfl rfl (Nat.le_of_ble_eq_true rfl) (by decide) (b := 41) rfl (fun v19 I16 J17 q18 => ?_)
    obtain ⟨eq24, rfl, ⟨T20, hT21, hR22⟩, hF23⟩ := q18
    refine r_iret (dk_at ktX6_bootAfterCut_0 20 rfl) rfl rfl ⟨_, rfl, ?_⟩
    have e0 := bac_cut hI hc (eq15.trans c31)
    refine ⟨?_, rfl, (FB.tr (FB.tr (FB.tr (FB.tr FB.rf hF6) (FD.fb hF14 (by decide) (by omega))) (fun b hb => up2_off (by omega))) (FD.fb hF23 (by decide) (by omega))), fun _ => ?_⟩
    · unfold a_bac; rw [if_pos e0.1, e0.2]; exact eq24
    · rw [e0.2]; exact RelN.of hR22 (by omega)
set_option maxRecDepth 4000 in
set_option maxHeartbeats 4000000 in
theorem s_X6_unsafeCut {n : Nat} {sh : mS} {G : mG} {I : mI} {J : mJ} {bx bt o d bf bg b0 b1 bv : Nat} {σ : sT} {T N : Nat} (hB : BootH n sh G bx bt o d bf bg b0 b1 bv) (hR : RelD o I σ T N) (hI : Inv σ) (hT : T + 10 < 1000000) (v : Nat) (hv : v < 256) (thr : Bool) : Sp yX6_unsafeCut cX6_unsafeCut 5 (some FieldType.int) 8 262 0 0 [.ref bx, .int (nI v), .int (bi thr)] n sh G I J (Qi (fun r_ I_ J_ => a_fu (nI v) thr σ = r_ ∧ J = J_ ∧ FB d bg I I_)) (nX) := by
  have ho := hB.hD
  have hd := hB.hT
  have hord := hB.ord
  have hb := hI.bd
  have hNs := hR.2.2.2.1
  have hN61 := hR.2.2.2.2.1
  have hTm := hR.2.2.2.2.2
  refine Sp.of (by decide) (ls := [(0, .ref bx), (1, .int (nI v)), (2, .int (bi thr))]) (fun _ => rfl) (fun _ => Nat.le_of_ble_eq_true rfl) ?_
  have cut2 : ∀ (t c : Nat) (Iz : mI), FB d bg I Iz → 1002 - c < t → c ≤ 1001 → (c = 0 ∨ errU (nI v) σ = 0) → (errU (nI v) σ = 0 → a_fu (nI v) thr σ = fuS (nI v) thr σ (1001 - c) c) → Rc RX6 cX6_unsafeCut 5 (some FieldType.int) 8 262 0 0 n sh G (Qi (fun r_ I_ J_ => a_fu (nI v) thr σ = r_ ∧ J = J_ ∧ FB d bg I I_)) (nX) 0 0 2 [(3, .int (nI c)), (0, .ref bx), (1, .int (nI v)), (2, .int (bi thr))] [] Iz J := by
    intro t
    induction t
    · intro c Iz _ h; omega
    rename_i t ih
    intro c Iz hFz ht h1 h0 hx
    refine rc_p (p_iload_n 0 (dk_at ktX6_unsafeCut_0 2 rfl) rfl rfl (b := 3) rfl) ?_
    refine rc_p (p_sipush (v := 1000) (dk_at ktX6_unsafeCut_0 3 rfl) (by decide) (b := 6) rfl) ?_
    refine r_icmp_gt (dk_at ktX6_unsafeCut_0 4 rfl) (b := 55) (by decide) (b2 := 9) rfl (fun c6 => ?_) (fun c6 => ?_)
    · have c6 : 1000 < c := (nI_ltI (a := 1000) (b := c) (by omega) (by omega)).mp c6
      refine rc_p (p_iconst (v := (-1)) (dk_at ktX6_unsafeCut_0 30 rfl) (by decide) (b := 56) rfl) ?_
      refine r_iret (dk_at ktX6_unsafeCut_0 31 rfl) rfl rfl ⟨_, rfl, ?_⟩
      refine ⟨?_, rfl, hFz⟩
      have he := h0.resolve_left (by omega)
      rw [hx he, show c = 1001 by omega]; rfl
    · have c6 : ¬ 1000 < c := fun h => c6 ((nI_ltI (a := 1000) (b := c) (by omega) (by omega)).mpr h)
      refine rc_p (p_aload_n 1 (dk_at ktX6_unsafeCut_0 5 rfl) rfl rfl (b := 10) rfl) ?_
      refine rc_p (p_iload_n 2 (dk_at ktX6_unsafeCut_0 6 rfl) rfl rfl (b := 11) rfl) ?_
      refine rc_p (p_iload_n 0 (dk_at ktX6_unsafeCut_0 7 rfl) rfl rfl (b := 12) rfl) ?_
      refine rc_p (p_iload_n 3 (dk_at ktX6_unsafeCut_0 8 rfl) rfl rfl (b := 13) rfl) ?_
      refine r_iV (As' := [.int (nI v), .int (nI c), .int (bi thr)]) (rest := []) (s_X6_bootAfterCut hB (hR.fr (fun b g1 g2 => hFz b (by omega))) hI (by omega) v (by omega) (nI c) thr (n_i (by omega))) cw_X6_219 qi_X6_bootAfterCut qv_X6_bootAfterCut rfl hB.l0 hB.s0 (dk_at ktX6_unsafeCut_0 9 rfl) rfl rfl (Nat.le_of_ble_eq_true rfl) (by decide) (b := 16) rfl (fun v4 I1 J2 q3 => ?_)
      obtain ⟨eb5, rfl, hF6, hN7⟩ := q3
      refine rc_p (p_istore (ls' := [(4, .int v4), (3, .int (nI c)), (0, .ref bx), (1, .int (nI v)), (2, .int (bi thr))]) (dk_at ktX6_unsafeCut_0 10 rfl) (by decide) rfl (b := 18) rfl) ?_
      refine rc_p (p_iload 0 (dk_at ktX6_unsafeCut_0 11 rfl) rfl (b := 20) rfl) ?_
      refine rc_p (p_iconst (v := (-1)) (dk_at ktX6_unsafeCut_0 12 rfl) (by decide) (b := 21) rfl) ?_
      refine r_icmp_ne (dk_at ktX6_unsafeCut_0 13 rfl) (b := 26) (by decide) (b2 := 24) rfl (fun c21 => ?_) (fun c21 => ?_)
      · skip
        refine rc_p (p_iload 0 (dk_at ktX6_unsafeCut_0 16 rfl) rfl (b := 28) rfl) ?_
        refine rc_p (p_iconst (v := (-1)) (dk_at ktX6_unsafeCut_0 17 rfl) (by decide) (b := 29) rfl) ?_
        refine r_icmp_ge (dk_at ktX6_unsafeCut_0 18 rfl) (b := 49) (by decide) (b2 := 32) rfl (fun c29 => ?_) (fun c29 => ?_)
        · skip
          refine rc_p (p_iinc (j := 1) (v := (nI (c + 1))) (ls' := [(3, .int (nI (c + 1))), (4, .int v4), (0, .ref bx), (1, .int (nI v)), (2, .int (bi thr))]) (dk_at ktX6_unsafeCut_0 28 rfl) rfl (nI_add c 1) (by decide) rfl (b := 52) rfl) ?_
          refine rc_p (p_goto (b := 2) (dk_at ktX6_unsafeCut_0 29 rfl) (by decide)) ?_
          refine rc_sub [0, 2, 3, 4] (ls' := [(3, .int (nI (c + 1))), (0, .ref bx), (1, .int (nI v)), (2, .int (bi thr))]) rfl ?_
          have h0 := bac_0 eb5 (ge_ne c29 (by decide)) (ge_ne c29 (by decide))
          exact ih (c + 1) I1 (FB.tr hFz hF6) (by omega) (by omega) (Or.inr h0.1) (fun he => (hx he).trans (fuS_g (by omega) (fun g => c21 (h0.2.symm.trans g)) (fun g => ge_ne c29 (by decide) (h0.2.symm.trans g))))
        · skip
          refine rc_p (p_iload 0 (dk_at ktX6_unsafeCut_0 19 rfl) rfl (b := 34) rfl) ?_
          refine rc_p (p_bipush (v := (-2)) (dk_at ktX6_unsafeCut_0 20 rfl) (by decide) (b := 36) rfl) ?_
          refine r_icmp_ne (dk_at ktX6_unsafeCut_0 21 rfl) (b := 43) (by decide) (b2 := 39) rfl (fun c36 => ?_) (fun c36 => ?_)
          · skip
            refine rc_p (p_iload 0 (dk_at ktX6_unsafeCut_0 24 rfl) rfl (b := 45) rfl) ?_
            refine rc_p (p_bipush (v := 100) (dk_at ktX6_unsafeCut_0 25 rfl) (by decide) (b := 47) rfl) ?_
            refine rc_p (p_isub (v := (v4 - 100)) (dk_at ktX6_unsafeCut_0 26 rfl) rfl (b := 48) rfl) ?_
            refine r_iret (dk_at ktX6_unsafeCut_0 27 rfl) rfl rfl ⟨_, rfl, ?_⟩
            refine ⟨?_, rfl, (FB.tr hFz hF6)⟩
            have h0 := bac_n hI (n_i (by omega)) eb5 (Int32.not_le.mp c29) c36
            unfold a_fu; rw [if_neg h0.1, h0.2]
          · skip
            refine rc_p (p_iconst (v := (-1)) (dk_at ktX6_unsafeCut_0 22 rfl) (by decide) (b := 40) rfl) ?_
            refine rc_p (p_goto (b := 48) (dk_at ktX6_unsafeCut_0 23 rfl) (by decide)) ?_
            refine r_iret (dk_at ktX6_unsafeCut_0 27 rfl) rfl rfl ⟨_, rfl, ?_⟩
            refine ⟨?_, rfl, (FB.tr hFz hF6)⟩
            have h0 := bac_0 (eb5.trans c36) (by decide) (by decide)
            exact (hx h0.1).trans (fuS_e (by omega) h0.2)
      · skip
        refine rc_p (p_iload_n 1 (dk_at ktX6_unsafeCut_0 14 rfl) rfl rfl (b := 25) rfl) ?_
        refine r_iret (dk_at ktX6_unsafeCut_0 15 rfl) rfl rfl ⟨_, rfl, ?_⟩
        refine ⟨?_, rfl, (FB.tr hFz hF6)⟩
        have h0 := bac_0 (eb5.trans c21) (by decide) (by decide)
        exact (hx h0.1).trans (fuS_h (by omega) h0.2)
  refine rc_p (p_iconst (v := 0) (dk_at ktX6_unsafeCut_0 0 rfl) (by decide) (b := 1) rfl) ?_
  refine rc_p (p_istore_n (ls' := [(3, .int 0), (0, .ref bx), (1, .int (nI v)), (2, .int (bi thr))]) (dk_at ktX6_unsafeCut_0 1 rfl) rfl (by decide) rfl (b := 2) rfl) ?_
  exact cut2 2000 0 I FB.rf (by omega) (by omega) (Or.inl rfl) (fun he => if_pos he)
set_option maxRecDepth 4000 in
set_option maxHeartbeats 4000000 in
theorem s_X6_firstUnsafeCut {n : Nat} {sh : mS} {G : mG} {I : mI} {J : mJ} {bx bt o d bf bg b0 b1 bv : Nat} {σ : sT} {T N : Nat} (hB : BootH n sh G bx bt o d bf bg b0 b1 bv) (hR : RelD o I σ T N) (hI : Inv σ) (hT : T + 10 < 1000000) (v : Int32) : Sp yX6_firstUnsafeCut cX6_firstUnsafeCut 2 (some FieldType.int) 9 330 1 6 [.ref bx, .int v] n sh G I J (Qi (fun r_ I_ J_ => cIn v 1 255 = 0 ∧ a_fu v false σ = r_ ∧ J = J_ ∧ FB d bg I I_)) (eX (cIn v 1 255) I J) := by
  have ho := hB.hD
  have hd := hB.hT
  have hord := hB.ord
  have hb := hI.bd
  have hNs := hR.2.2.2.1
  have hN61 := hR.2.2.2.2.1
  have hTm := hR.2.2.2.2.2
  refine Sp.of (by decide) (ls := [(0, .ref bx), (1, .int v)]) (fun _ => rfl) (fun _ => Nat.le_of_ble_eq_true rfl) ?_
  refine rc_p (p_iload_n 1 (dk_at ktX6_firstUnsafeCut_0 0 rfl) rfl rfl (b := 1) rfl) ?_
  refine r_vSX (As := [.int v]) (rest := []) (s_X6_requireVersion v) cw_X6_117 qs_X6_requireVersion (dk_at ktX6_firstUnsafeCut_0 1 rfl) rfl rfl (Nat.le_of_ble_eq_true rfl) (by decide) (b := 4) rfl (fun _ _ _ h => ⟨Or.inl ⟨h.1, cIn_f h.2.1⟩, h.2.2⟩) (fun I1 J2 hq3 => ?_)
  obtain ⟨ok4, rfl, rfl⟩ := hq3
  obtain ⟨r, hr, rfl⟩ := vs_ok ok4
  refine rc_p (p_aload_n 0 (dk_at ktX6_firstUnsafeCut_0 2 rfl) rfl rfl (b := 5) rfl) ?_
  refine rc_p (p_iload_n 1 (dk_at ktX6_firstUnsafeCut_0 3 rfl) rfl rfl (b := 6) rfl) ?_
  refine rc_p (p_iconst (v := 0) (dk_at ktX6_firstUnsafeCut_0 4 rfl) (by decide) (b := 7) rfl) ?_
  refine r_iV (As' := [.int (nI r), .int 0]) (rest := []) (s_X6_unsafeCut hB hR hI (by omega) r (by omega) false) cw_X6_223 qi_X6_unsafeCut qv_X6_unsafeCut rfl hB.l0 hB.s0 (dk_at ktX6_firstUnsafeCut_0 5 rfl) rfl rfl (Nat.le_of_ble_eq_true rfl) (by decide) (b := 10) rfl (fun v8 I5 J6 q7 => ?_)
  obtain ⟨eb9, rfl, hF10⟩ := q7
  refine r_iret (dk_at ktX6_firstUnsafeCut_0 6 rfl) rfl rfl ⟨_, rfl, ?_⟩
  exact ⟨cIn_t ok4, eb9, rfl, (FB.tr FB.rf hF10)⟩
set_option maxRecDepth 4000 in
set_option maxHeartbeats 4000000 in
theorem s_X6_firstUnsafeThriftyCut {n : Nat} {sh : mS} {G : mG} {I : mI} {J : mJ} {bx bt o d bf bg b0 b1 bv : Nat} {σ : sT} {T N : Nat} (hB : BootH n sh G bx bt o d bf bg b0 b1 bv) (hR : RelD o I σ T N) (hI : Inv σ) (hT : T + 10 < 1000000) (v : Int32) : Sp yX6_firstUnsafeThriftyCut cX6_firstUnsafeThriftyCut 2 (some FieldType.int) 9 330 1 6 [.ref bx, .int v] n sh G I J (Qi (fun r_ I_ J_ => cIn v 1 255 = 0 ∧ a_fu v true σ = r_ ∧ J = J_ ∧ FB d bg I I_)) (eX (cIn v 1 255) I J) := by
  have ho := hB.hD
  have hd := hB.hT
  have hord := hB.ord
  have hb := hI.bd
  have hNs := hR.2.2.2.1
  have hN61 := hR.2.2.2.2.1
  have hTm := hR.2.2.2.2.2
  refine Sp.of (by decide) (ls := [(0, .ref bx), (1, .int v)]) (fun _ => rfl) (fun _ => Nat.le_of_ble_eq_true rfl) ?_
  refine rc_p (p_iload_n 1 (dk_at ktX6_firstUnsafeThriftyCut_0 0 rfl) rfl rfl (b := 1) rfl) ?_
  refine r_vSX (As := [.int v]) (rest := []) (s_X6_requireVersion v) cw_X6_117 qs_X6_requireVersion (dk_at ktX6_firstUnsafeThriftyCut_0 1 rfl) rfl rfl (Nat.le_of_ble_eq_true rfl) (by decide) (b := 4) rfl (fun _ _ _ h => ⟨Or.inl ⟨h.1, cIn_f h.2.1⟩, h.2.2⟩) (fun I1 J2 hq3 => ?_)
  obtain ⟨ok4, rfl, rfl⟩ := hq3
  obtain ⟨r, hr, rfl⟩ := vs_ok ok4
  refine rc_p (p_aload_n 0 (dk_at ktX6_firstUnsafeThriftyCut_0 2 rfl) rfl rfl (b := 5) rfl) ?_
  refine rc_p (p_iload_n 1 (dk_at ktX6_firstUnsafeThriftyCut_0 3 rfl) rfl rfl (b := 6) rfl) ?_
  refine rc_p (p_iconst (v := 1) (dk_at ktX6_firstUnsafeThriftyCut_0 4 rfl) (by decide) (b := 7) rfl) ?_
  refine r_iV (As' := [.int (nI r), .int 1]) (rest := []) (s_X6_unsafeCut hB hR hI (by omega) r (by omega) true) cw_X6_223 qi_X6_unsafeCut qv_X6_unsafeCut rfl hB.l0 hB.s0 (dk_at ktX6_firstUnsafeThriftyCut_0 5 rfl) rfl rfl (Nat.le_of_ble_eq_true rfl) (by decide) (b := 10) rfl (fun v8 I5 J6 q7 => ?_)
  obtain ⟨eb9, rfl, hF10⟩ := q7
  refine r_iret (dk_at ktX6_firstUnsafeThriftyCut_0 6 rfl) rfl rfl ⟨_, rfl, ?_⟩
  exact ⟨cIn_t ok4, eb9, rfl, (FB.tr FB.rf hF10)⟩
set_option maxRecDepth 4000 in
set_option maxHeartbeats 4000000 in
theorem s_X6_slotAfterCut {n : Nat} {sh : mS} {G : mG} {I : mI} {J : mJ} {bx bt o d bf bg b0 b1 bv : Nat} {σ : sT} {T N : Nat} (hB : BootH n sh G bx bt o d bf bg b0 b1 bv) (hR : RelD o I σ T N) (hI : Inv σ) (hT : T + 10 < 1000000) (v c : Int32) : Sp yX6_slotAfterCut cX6_slotAfterCut 3 (some FieldType.int) 8 330 2 12 [.ref bx, .int v, .int c] n sh G I J (Qi (fun r_ I_ J_ => cSac v c = 0 ∧ a_sac v c (-1) σ = r_ ∧ J = J_ ∧ FB d bg I I_)) (eX (cSac v c) I J) := by
  have ho := hB.hD
  have hd := hB.hT
  have hord := hB.ord
  have hb := hI.bd
  have hNs := hR.2.2.2.1
  have hN61 := hR.2.2.2.2.1
  have hTm := hR.2.2.2.2.2
  refine Sp.of (by decide) (ls := [(0, .ref bx), (1, .int v), (2, .int c)]) (fun _ => rfl) (fun _ => Nat.le_of_ble_eq_true rfl) ?_
  refine rc_p (p_iload_n 1 (dk_at ktX6_slotAfterCut_0 0 rfl) rfl rfl (b := 1) rfl) ?_
  refine r_vSX (As := [.int v]) (rest := []) (s_X6_requireVersion v) cw_X6_117 qs_X6_requireVersion (dk_at ktX6_slotAfterCut_0 1 rfl) rfl rfl (Nat.le_of_ble_eq_true rfl) (by decide) (b := 4) rfl (fun _ _ _ h => ⟨Or.inl ⟨h.1, if_neg (fun g => by rw [h.2.1] at g; exact absurd g.1 (by decide))⟩, h.2.2⟩) (fun I1 J2 hq3 => ?_)
  obtain ⟨ok4, rfl, rfl⟩ := hq3
  obtain ⟨r, hr, rfl⟩ := vs_ok ok4
  refine rc_p (p_iload_n 2 (dk_at ktX6_slotAfterCut_0 2 rfl) rfl rfl (b := 5) rfl) ?_
  refine r_vSX (As := [.int c]) (rest := []) (s_X6_requireCut c) cw_X6_216 qs_X6_requireCut (dk_at ktX6_slotAfterCut_0 3 rfl) rfl rfl (Nat.le_of_ble_eq_true rfl) (by decide) (b := 8) rfl (fun _ _ _ h => ⟨Or.inl ⟨h.1, if_neg (fun g => by rw [h.2.1] at g; exact absurd g.2 (by decide))⟩, h.2.2⟩) (fun I5 J6 hq7 => ?_)
  obtain ⟨ok8, rfl, rfl⟩ := hq7
  refine rc_p (p_aload_n 0 (dk_at ktX6_slotAfterCut_0 4 rfl) rfl rfl (b := 9) rfl) ?_
  refine rc_p (p_iload_n 1 (dk_at ktX6_slotAfterCut_0 5 rfl) rfl rfl (b := 10) rfl) ?_
  refine rc_p (p_iload_n 2 (dk_at ktX6_slotAfterCut_0 6 rfl) rfl rfl (b := 11) rfl) ?_
  refine rc_p (p_iconst (v := 0) (dk_at ktX6_slotAfterCut_0 7 rfl) (by decide) (b := 12) rfl) ?_
  refine r_iV (As' := [.int (nI r), .int c, .int 0]) (rest := []) (s_X6_bootAfterCut hB hR hI (by omega) r (by omega) c false (in_i (b := 1000) ok8)) cw_X6_219 qi_X6_bootAfterCut qv_X6_bootAfterCut rfl hB.l0 hB.s0 (dk_at ktX6_slotAfterCut_0 8 rfl) rfl rfl (Nat.le_of_ble_eq_true rfl) (by decide) (b := 15) rfl (fun v12 I9 J10 q11 => ?_)
  obtain ⟨eb13, rfl, hF14, hN15⟩ := q11
  refine r_iret (dk_at ktX6_slotAfterCut_0 9 rfl) rfl rfl ⟨_, rfl, ?_⟩
  exact ⟨if_pos ⟨ok4, ok8⟩, eb13, rfl, (FB.tr FB.rf hF14)⟩

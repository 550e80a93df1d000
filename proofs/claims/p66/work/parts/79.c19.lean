/-! THE CLASS: predictions of boots -/
set_option maxRecDepth 4000 in
set_option maxHeartbeats 4000000 in
theorem s_X6_firstBootCut {n : Nat} {sh : mS} {G : mG} {I : mI} {J : mJ} {bx bt o d bf bg b0 b1 bv : Nat} {σ : sT} {T N : Nat} (hB : BootH n sh G bx bt o d bf bg b0 b1 bv) (hR : RelD o I σ T N) (hI : Inv σ) (hT : T + 12 < 1000000) : Sp yX6_firstBootCut cX6_firstBootCut 3 (some FieldType.int) 7 236 0 0 [.ref bx] n sh G I J (Qi (fun r_ I_ J_ => a_fb σ = r_ ∧ J = J_ ∧ FB d bg I I_)) (nX) := by
  have ho := hB.hD
  have hd := hB.hT
  have hord := hB.ord
  have hb := hI.bd
  have hNs := hR.2.2.2.1
  have hN61 := hR.2.2.2.2.1
  have hTm := hR.2.2.2.2.2
  refine Sp.of (by decide) (ls := [(0, .ref bx)]) (fun _ => rfl) (fun _ => Nat.le_of_ble_eq_true rfl) ?_
  have cut15 : ∀ (y : Int32), (fBoot (upd σ 6 (-1))).1 = y → ∀ (t c : Nat) (Iz : mI), FB d bg I Iz → 1002 - c < t → c ≤ 1001 → a_fb σ = fbS σ (1001 - c) c → Rc RX6 cX6_firstBootCut 3 (some FieldType.int) 7 236 0 0 n sh G (Qi (fun r_ I_ J_ => a_fb σ = r_ ∧ J = J_ ∧ FB d bg I I_)) (nX) 0 0 15 [(1, .int y), (2, .int (nI c)), (0, .ref bx)] [] Iz J := by
    intro y hy t
    induction t
    · intro c Iz _ h; omega
    rename_i t ih
    intro c Iz hFz ht h1 hx
    refine rc_p (p_iload_n 1 (dk_at ktX6_firstBootCut_0 9 rfl) rfl rfl (b := 16) rfl) ?_
    refine rc_p (p_sipush (v := 1000) (dk_at ktX6_firstBootCut_0 10 rfl) (by decide) (b := 19) rfl) ?_
    refine r_icmp_gt (dk_at ktX6_firstBootCut_0 11 rfl) (b := 71) (by decide) (b2 := 22) rfl (fun c19 => ?_) (fun c19 => ?_)
    · have c19 : 1000 < c := (nI_ltI (a := 1000) (b := c) (by omega) (by omega)).mp c19
      refine rc_p (p_iconst (v := (-1)) (dk_at ktX6_firstBootCut_0 36 rfl) (by decide) (b := 72) rfl) ?_
      refine r_iret (dk_at ktX6_firstBootCut_0 37 rfl) rfl rfl ⟨_, rfl, ?_⟩
      refine ⟨?_, rfl, hFz⟩
      rw [hx, show c = 1001 by omega]; rfl
    · have c19 : ¬ 1000 < c := fun h => c19 ((nI_ltI (a := 1000) (b := c) (by omega) (by omega)).mpr h)
      refine rc_p (p_aload_n 2 (dk_at ktX6_firstBootCut_0 12 rfl) rfl rfl (b := 23) rfl) ?_
      refine rc_p (p_iload_n 1 (dk_at ktX6_firstBootCut_0 13 rfl) rfl rfl (b := 24) rfl) ?_
      refine r_vV (As' := [.int (nI c)]) (rest := []) (s_X6_prepareTrial hB (hR.fr (fun b g1 g2 => hFz b (by omega))) hI (nI c)) cw_X6_213 qi_X6_prepareTrial qv_X6_prepareTrial rfl hB.l0 hB.s0 (dk_at ktX6_firstBootCut_0 14 rfl) rfl rfl (Nat.le_of_ble_eq_true rfl) (by decide) (b := 27) rfl (fun I1 J2 q3 => ?_)
      obtain ⟨rfl, hR5, hF6⟩ := q3
      refine rc_p (p_aload_n 2 (dk_at ktX6_firstBootCut_0 15 rfl) rfl rfl (b := 28) rfl) ?_
      refine r_geta fl_X6_31 rfl hB.l0 hB.s0 (dk_at ktX6_firstBootCut_0 16 rfl) hB.g0_2 (b := 31) rfl ?_
      refine r_iV (As' := []) (rest := []) (s_X0_startUp hd (σ := (upd σ 6 (nI c))) hR5 (Inv.pn hI (by omega)) (by omega)) cw_X6_105 qi_X0_startUp qv_X0_startUp rfl hd.l0 hd.s0 (dk_at ktX6_firstBootCut_0 17 rfl) rfl rfl (Nat.le_of_ble_eq_true rfl) (by decide) (b := 34) rfl (fun v10 I7 J8 q9 => ?_)
      obtain ⟨eq15, rfl, ⟨T11, hT12, hR13⟩, hF14⟩ := q9
      refine rc_p (p_bipush (v := (-4)) (dk_at ktX6_firstBootCut_0 18 rfl) (by decide) (b := 36) rfl) ?_
      refine r_icmp_eq (dk_at ktX6_firstBootCut_0 19 rfl) (b := 41) (by decide) (b2 := 39) rfl (fun c36 => ?_) (fun c36 => ?_)
      · skip
        refine rc_p (p_aload_n 2 (dk_at ktX6_firstBootCut_0 22 rfl) rfl rfl (b := 42) rfl) ?_
        refine r_geta fl_X6_31 rfl hB.l0 hB.s0 (dk_at ktX6_firstBootCut_0 23 rfl) hB.g0_2 (b := 45) rfl ?_
        refine r_geta fl_X6_57 rfl hd.l0 hd.s0 (dk_at ktX6_firstBootCut_0 24 rfl) hd.g0_0 (b := 48) rfl ?_
        refine rc_p (p_iconst (v := (-1)) (dk_at ktX6_firstBootCut_0 25 rfl) (by decide) (b := 49) rfl) ?_
        refine r_puti fl_X6_102 fw_X1_7 rfl (hd.lt 1 (by decide)) hd.s1 rfl rfl (dk_at ktX6_firstBootCut_0 26 rfl) (b := 52) rfl ?_
        refine rc_p (p_aload_n 2 (dk_at ktX6_firstBootCut_0 27 rfl) rfl rfl (b := 53) rfl) ?_
        refine r_geta fl_X6_31 rfl hB.l0 hB.s0 (dk_at ktX6_firstBootCut_0 28 rfl) hB.g0_2 (b := 56) rfl ?_
        refine r_iV (As' := []) (rest := []) (s_X0_startUp hd (σ := (upd ((fBoot (upd σ 6 (nI c))).2) 6 (-1))) (hR13.set (o := 1) (k := 7) (a := 6) lc_1_7 (by omega) (by omega) (fun q => absurd q (by omega))) (Inv.pm (Inv.boot (Inv.pn hI (by omega)))) (by omega)) cw_X6_105 qi_X0_startUp qv_X0_startUp rfl hd.l0 hd.s0 (dk_at ktX6_firstBootCut_0 29 rfl) rfl rfl (Nat.le_of_ble_eq_true rfl) (by decide) (b := 59) rfl (fun v19 I16 J17 q18 => ?_)
        obtain ⟨eq24, rfl, ⟨T20, hT21, hR22⟩, hF23⟩ := q18
        refine rc_p (p_iload_n 0 (dk_at ktX6_firstBootCut_0 30 rfl) rfl rfl (b := 60) rfl) ?_
        refine r_icmp_eq (dk_at ktX6_firstBootCut_0 31 rfl) (b := 65) (by decide) (b2 := 63) rfl (fun c60 => ?_) (fun c60 => ?_)
        · skip
          refine rc_p (p_iinc (j := 1) (v := (nI (c + 1))) (ls' := [(2, .int (nI (c + 1))), (1, .int y), (0, .ref bx)]) (dk_at ktX6_firstBootCut_0 34 rfl) rfl (nI_add c 1) (by decide) rfl (b := 68) rfl) ?_
          refine rc_p (p_goto (b := 15) (dk_at ktX6_firstBootCut_0 35 rfl) (by decide)) ?_
          refine rc_sub [1, 0, 2] (ls' := [(1, .int y), (2, .int (nI (c + 1))), (0, .ref bx)]) rfl ?_
          exact ih (c + 1) I16 (FB.tr (FB.tr (FB.tr (FB.tr hFz hF6) (FD.fb hF14 (by decide) (by omega))) (fun b hb => up2_off (by omega))) (FD.fb hF23 (by decide) (by omega))) (by omega) (by omega) (hx.trans (fbS_g (by omega) (eq15.trans c36) (eq24.trans (c60.trans hy.symm))))
        · skip
          refine rc_p (p_iload_n 1 (dk_at ktX6_firstBootCut_0 32 rfl) rfl rfl (b := 64) rfl) ?_
          refine r_iret (dk_at ktX6_firstBootCut_0 33 rfl) rfl rfl ⟨_, rfl, ?_⟩
          refine ⟨?_, rfl, (FB.tr (FB.tr (FB.tr (FB.tr hFz hF6) (FD.fb hF14 (by decide) (by omega))) (fun b hb => up2_off (by omega))) (FD.fb hF23 (by decide) (by omega)))⟩
          exact hx.trans (fbS_h (by omega) (eq15.trans c36) (fun g => c60 (eq24.symm.trans (g.trans hy))))
      · skip
        refine rc_p (p_iconst (v := (-1)) (dk_at ktX6_firstBootCut_0 20 rfl) (by decide) (b := 40) rfl) ?_
        refine r_iret (dk_at ktX6_firstBootCut_0 21 rfl) rfl rfl ⟨_, rfl, ?_⟩
        refine ⟨?_, rfl, (FB.tr (FB.tr hFz hF6) (FD.fb hF14 (by decide) (by omega)))⟩
        exact hx.trans (fbS_e (by omega) (fun g => c36 (eq15.symm.trans g)))
  refine rc_p (p_aload_n 0 (dk_at ktX6_firstBootCut_0 0 rfl) rfl rfl (b := 1) rfl) ?_
  refine rc_p (p_iconst (v := (-1)) (dk_at ktX6_firstBootCut_0 1 rfl) (by decide) (b := 2) rfl) ?_
  refine r_vV (As' := [.int (-1)]) (rest := []) (s_X6_prepareTrial hB hR hI (-1)) cw_X6_213 qi_X6_prepareTrial qv_X6_prepareTrial rfl hB.l0 hB.s0 (dk_at ktX6_firstBootCut_0 2 rfl) rfl rfl (Nat.le_of_ble_eq_true rfl) (by decide) (b := 5) rfl (fun I25 J26 q27 => ?_)
  obtain ⟨rfl, hR29, hF30⟩ := q27
  refine rc_p (p_aload_n 0 (dk_at ktX6_firstBootCut_0 3 rfl) rfl rfl (b := 6) rfl) ?_
  refine r_geta fl_X6_31 rfl hB.l0 hB.s0 (dk_at ktX6_firstBootCut_0 4 rfl) hB.g0_2 (b := 9) rfl ?_
  refine r_iV (As' := []) (rest := []) (s_X0_startUp hd (σ := (upd σ 6 (-1))) hR29 (Inv.pm hI) (by omega)) cw_X6_105 qi_X0_startUp qv_X0_startUp rfl hd.l0 hd.s0 (dk_at ktX6_firstBootCut_0 5 rfl) rfl rfl (Nat.le_of_ble_eq_true rfl) (by decide) (b := 12) rfl (fun v34 I31 J32 q33 => ?_)
  obtain ⟨eq39, rfl, ⟨T35, hT36, hR37⟩, hF38⟩ := q33
  refine rc_p (p_istore_n (ls' := [(1, .int v34), (0, .ref bx)]) (dk_at ktX6_firstBootCut_0 6 rfl) rfl (by decide) rfl (b := 13) rfl) ?_
  refine rc_p (p_iconst (v := 0) (dk_at ktX6_firstBootCut_0 7 rfl) (by decide) (b := 14) rfl) ?_
  refine rc_p (p_istore_n (ls' := [(2, .int 0), (1, .int v34), (0, .ref bx)]) (dk_at ktX6_firstBootCut_0 8 rfl) rfl (by decide) rfl (b := 15) rfl) ?_
  refine rc_sub [1, 0, 2] (ls' := [(1, .int v34), (2, .int 0), (0, .ref bx)]) rfl ?_
  exact cut15 v34 eq39 2000 0 I31 (FB.tr (FB.tr FB.rf hF30) (FD.fb hF38 (by decide) (by omega))) (by omega) (by omega) rfl
set_option maxRecDepth 4000 in
set_option maxHeartbeats 4000000 in
theorem s_X6_bootsToRollback {n : Nat} {sh : mS} {G : mG} {I : mI} {J : mJ} {bx bt o d bf bg b0 b1 bv : Nat} {σ : sT} {T N : Nat} (hB : BootH n sh G bx bt o d bf bg b0 b1 bv) (hR : RelD o I σ T N) (hI : Inv σ) (hT : T + 66 < 1000000) : Sp yX6_bootsToRollback cX6_bootsToRollback 4 (some FieldType.int) 7 236 0 0 [.ref bx] n sh G I J (Qi (fun r_ I_ J_ => a_br σ = r_ ∧ J = J_ ∧ FB d bg I I_)) (nX) := by
  have ho := hB.hD
  have hd := hB.hT
  have hord := hB.ord
  have hb := hI.bd
  have hNs := hR.2.2.2.1
  have hN61 := hR.2.2.2.2.1
  have hTm := hR.2.2.2.2.2
  refine Sp.of (by decide) (ls := [(0, .ref bx)]) (fun _ => rfl) (fun _ => Nat.le_of_ble_eq_true rfl) ?_
  have cut15 : ∀ (t k : Nat) (f : Int32) (Iz : mI) (τ : sT) (Tz : Nat), FB d bg I Iz → RelD d Iz τ Tz N → Inv τ → 12 - k < t → k ≤ 11 → Tz + 6 ≤ T + 6 * k → a_br σ = brS (11 - k) k f τ → Rc RX6 cX6_bootsToRollback 4 (some FieldType.int) 7 236 0 0 n sh G (Qi (fun r_ I_ J_ => a_br σ = r_ ∧ J = J_ ∧ FB d bg I I_)) (nX) 0 0 15 [(1, .int f), (2, .int (nI k)), (0, .ref bx)] [] Iz J := by
    intro t
    induction t
    · intro k f Iz τ Tz _ _ _ h; omega
    rename_i t ih
    intro k f Iz τ Tz hFz hRz hIz ht h1 hTz hx
    refine rc_p (p_iload_n 1 (dk_at ktX6_bootsToRollback_0 9 rfl) rfl rfl (b := 16) rfl) ?_
    refine rc_p (p_bipush (v := 10) (dk_at ktX6_bootsToRollback_0 10 rfl) (by decide) (b := 18) rfl) ?_
    refine r_icmp_gt (dk_at ktX6_bootsToRollback_0 11 rfl) (b := 56) (by decide) (b2 := 21) rfl (fun c18 => ?_) (fun c18 => ?_)
    · have c18 : 10 < k := (nI_ltI (a := 10) (b := k) (by omega) (by omega)).mp c18
      refine rc_p (p_iconst (v := (-1)) (dk_at ktX6_bootsToRollback_0 33 rfl) (by decide) (b := 57) rfl) ?_
      refine r_iret (dk_at ktX6_bootsToRollback_0 34 rfl) rfl rfl ⟨_, rfl, ?_⟩
      refine ⟨?_, rfl, hFz⟩
      rw [hx, show k = 11 by omega]; rfl
    · have c18 : ¬ 10 < k := fun h => c18 ((nI_ltI (a := 10) (b := k) (by omega) (by omega)).mpr h)
      refine rc_p (p_aload_n 2 (dk_at ktX6_bootsToRollback_0 12 rfl) rfl rfl (b := 22) rfl) ?_
      refine r_geta fl_X6_31 rfl hB.l0 hB.s0 (dk_at ktX6_bootsToRollback_0 13 rfl) hB.g0_2 (b := 25) rfl ?_
      refine r_iV (As' := []) (rest := []) (s_X0_startUp hd (σ := τ) hRz hIz (by omega)) cw_X6_105 qi_X0_startUp qv_X0_startUp rfl hd.l0 hd.s0 (dk_at ktX6_bootsToRollback_0 14 rfl) rfl rfl (Nat.le_of_ble_eq_true rfl) (by decide) (b := 28) rfl (fun v4 I1 J2 q3 => ?_)
      obtain ⟨eq9, rfl, ⟨T5, hT6, hR7⟩, hF8⟩ := q3
      refine rc_p (p_istore_n (ls' := [(3, .int v4), (1, .int f), (2, .int (nI k)), (0, .ref bx)]) (dk_at ktX6_bootsToRollback_0 15 rfl) rfl (by decide) rfl (b := 29) rfl) ?_
      refine rc_p (p_iload_n 0 (dk_at ktX6_bootsToRollback_0 16 rfl) rfl rfl (b := 30) rfl) ?_
      refine rc_p (p_iconst (v := (-1)) (dk_at ktX6_bootsToRollback_0 17 rfl) (by decide) (b := 31) rfl) ?_
      refine r_icmp_ne (dk_at ktX6_bootsToRollback_0 18 rfl) (b := 36) (by decide) (b2 := 34) rfl (fun c31 => ?_) (fun c31 => ?_)
      · skip
        refine rc_p (p_iload_n 1 (dk_at ktX6_bootsToRollback_0 21 rfl) rfl rfl (b := 37) rfl) ?_
        refine rc_p (p_iconst (v := (-1)) (dk_at ktX6_bootsToRollback_0 22 rfl) (by decide) (b := 38) rfl) ?_
        refine r_icmp_ne (dk_at ktX6_bootsToRollback_0 23 rfl) (b := 43) (by decide) (b2 := 41) rfl (fun c38 => ?_) (fun c38 => ?_)
        · skip
          refine rc_p (p_iload_n 0 (dk_at ktX6_bootsToRollback_0 26 rfl) rfl rfl (b := 44) rfl) ?_
          refine rc_p (p_iload_n 1 (dk_at ktX6_bootsToRollback_0 27 rfl) rfl rfl (b := 45) rfl) ?_
          refine r_icmp_eq (dk_at ktX6_bootsToRollback_0 28 rfl) (b := 50) (by decide) (b2 := 48) rfl (fun c45 => ?_) (fun c45 => ?_)
          · skip
            refine rc_p (p_iinc (j := 2) (v := (nI (k + 1))) (ls' := [(2, .int (nI (k + 1))), (3, .int v4), (1, .int f), (0, .ref bx)]) (dk_at ktX6_bootsToRollback_0 31 rfl) rfl (nI_add k 1) (by decide) rfl (b := 53) rfl) ?_
            refine rc_p (p_goto (b := 15) (dk_at ktX6_bootsToRollback_0 32 rfl) (by decide)) ?_
            refine rc_sub [2, 0, 3] (ls' := [(1, .int f), (2, .int (nI (k + 1))), (0, .ref bx)]) rfl ?_
            exact ih (k + 1) f I1 _ T5 (FB.tr hFz (FD.fb hF8 (by decide) (by omega))) hR7 hIz.boot (by omega) (by omega) (by omega) (hx.trans (brS_g (by omega) (fun g => c31 (eq9.symm.trans g)) (if_neg c38) (eq9.trans c45)))
          · skip
            refine rc_p (p_iload_n 2 (dk_at ktX6_bootsToRollback_0 29 rfl) rfl rfl (b := 49) rfl) ?_
            refine r_iret (dk_at ktX6_bootsToRollback_0 30 rfl) rfl rfl ⟨_, rfl, ?_⟩
            refine ⟨?_, rfl, (FB.tr hFz (FD.fb hF8 (by decide) (by omega)))⟩
            exact hx.trans (brS_h (by omega) (fun g => c31 (eq9.symm.trans g)) (if_neg c38) (fun g => c45 (eq9.symm.trans g)))
        · skip
          refine rc_p (p_iload_n 0 (dk_at ktX6_bootsToRollback_0 24 rfl) rfl rfl (b := 42) rfl) ?_
          refine rc_p (p_istore_n (ls' := [(1, .int v4), (3, .int v4), (2, .int (nI k)), (0, .ref bx)]) (dk_at ktX6_bootsToRollback_0 25 rfl) rfl (by decide) rfl (b := 43) rfl) ?_
          refine rc_p (p_iload_n 1 (dk_at ktX6_bootsToRollback_0 26 rfl) rfl rfl (b := 44) rfl) ?_
          refine rc_p (p_iload_n 0 (dk_at ktX6_bootsToRollback_0 27 rfl) rfl rfl (b := 45) rfl) ?_
          refine r_icmp_eq (dk_at ktX6_bootsToRollback_0 28 rfl) (b := 50) (by decide) (b2 := 48) rfl (fun c45 => ?_) (fun c45 => ?_)
          · skip
            refine rc_p (p_iinc (j := 2) (v := (nI (k + 1))) (ls' := [(2, .int (nI (k + 1))), (1, .int v4), (3, .int v4), (0, .ref bx)]) (dk_at ktX6_bootsToRollback_0 31 rfl) rfl (nI_add k 1) (by decide) rfl (b := 53) rfl) ?_
            refine rc_p (p_goto (b := 15) (dk_at ktX6_bootsToRollback_0 32 rfl) (by decide)) ?_
            refine rc_sub [1, 0, 3] (ls' := [(1, .int v4), (2, .int (nI (k + 1))), (0, .ref bx)]) rfl ?_
            exact ih (k + 1) v4 I1 _ T5 (FB.tr hFz (FD.fb hF8 (by decide) (by omega))) hR7 hIz.boot (by omega) (by omega) (by omega) (hx.trans (brS_g (by omega) (fun g => c31 (eq9.symm.trans g)) (by unfold brF; rw [if_pos c38]; exact eq9) eq9))
          · skip
            exact absurd rfl c45
      · skip
        refine rc_p (p_iconst (v := (-1)) (dk_at ktX6_bootsToRollback_0 19 rfl) (by decide) (b := 35) rfl) ?_
        refine r_iret (dk_at ktX6_bootsToRollback_0 20 rfl) rfl rfl ⟨_, rfl, ?_⟩
        refine ⟨?_, rfl, (FB.tr hFz (FD.fb hF8 (by decide) (by omega)))⟩
        exact hx.trans (brS_e (by omega) (eq9.trans c31))
  refine rc_p (p_aload_n 0 (dk_at ktX6_bootsToRollback_0 0 rfl) rfl rfl (b := 1) rfl) ?_
  refine rc_p (p_iconst (v := (-1)) (dk_at ktX6_bootsToRollback_0 1 rfl) (by decide) (b := 2) rfl) ?_
  refine r_vV (As' := [.int (-1)]) (rest := []) (s_X6_prepareTrial hB hR hI (-1)) cw_X6_213 qi_X6_prepareTrial qv_X6_prepareTrial rfl hB.l0 hB.s0 (dk_at ktX6_bootsToRollback_0 2 rfl) rfl rfl (Nat.le_of_ble_eq_true rfl) (by decide) (b := 5) rfl (fun I10 J11 q12 => ?_)
  obtain ⟨rfl, hR14, hF15⟩ := q12
  refine rc_p (p_aload_n 0 (dk_at ktX6_bootsToRollback_0 3 rfl) rfl rfl (b := 6) rfl) ?_
  refine r_geta fl_X6_27 rfl hB.l0 hB.s0 (dk_at ktX6_bootsToRollback_0 4 rfl) hB.g0_1 (b := 9) rfl ?_
  refine r_geti fl_X6_108 rfl ho.l0 ho.s0 (dk_at ktX6_bootsToRollback_0 5 rfl) (v := (σ 8)) ((congrFun ((FB.tr FB.rf hF15) _ (by omega)) 8).trans (hR.1 0 8 8 lc_0_8)) (b := 12) rfl ?_
  refine rc_p (p_istore_n (ls' := [(1, .int (σ 8)), (0, .ref bx)]) (dk_at ktX6_bootsToRollback_0 6 rfl) rfl (by decide) rfl (b := 13) rfl) ?_
  refine rc_p (p_iconst (v := 1) (dk_at ktX6_bootsToRollback_0 7 rfl) (by decide) (b := 14) rfl) ?_
  refine rc_p (p_istore_n (ls' := [(2, .int 1), (1, .int (σ 8)), (0, .ref bx)]) (dk_at ktX6_bootsToRollback_0 8 rfl) rfl (by decide) rfl (b := 15) rfl) ?_
  refine rc_sub [1, 0, 2] (ls' := [(1, .int (σ 8)), (2, .int 1), (0, .ref bx)]) rfl ?_
  exact cut15 2000 1 (σ 8) I10 (upd σ 6 (-1)) T (FB.tr FB.rf hF15) hR14 hI.pm (by omega) (by omega) (by omega) rfl

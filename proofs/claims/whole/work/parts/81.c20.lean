/-! THE CLASS: two cuts, what is told behind a cut, updates one after another -/
set_option maxRecDepth 4000 in
set_option maxHeartbeats 4000000 in
theorem s_X6_slotAfterTwoCuts {n : Nat} {sh : mS} {G : mG} {I : mI} {J : mJ} {bx bt o d bf bg b0 b1 bv : Nat} {σ : sT} {T N : Nat} (hB : BootH n sh G bx bt o d bf bg b0 b1 bv) (hR : RelD o I σ T N) (hI : Inv σ) (hT : T + 16 < 1000000) (v c z : Int32) : Sp yX6_slotAfterTwoCuts cX6_slotAfterTwoCuts 5 (some FieldType.int) 11 528 3 18 [.ref bx, .int v, .int c, .int z] n sh G I J (Qi (fun r_ I_ J_ => cTwo v c z = 0 ∧ a_sac v c z σ = r_ ∧ J = J_ ∧ FB d bg I I_)) (eX (cTwo v c z) I J) := by
  have ho := hB.hD
  have hd := hB.hT
  have hord := hB.ord
  have hb := hI.bd
  have hNs := hR.2.2.2.1
  have hN61 := hR.2.2.2.2.1
  have hTm := hR.2.2.2.2.2
  refine Sp.of (by decide) (ls := [(0, .ref bx), (1, .int v), (2, .int c), (3, .int z)]) (fun _ => rfl) (fun _ => Nat.le_of_ble_eq_true rfl) ?_
  refine rc_p (p_iload_n 1 (dk_at ktX6_slotAfterTwoCuts_0 0 rfl) rfl rfl (b := 1) rfl) ?_
  refine r_vSX (As := [.int v]) (rest := []) (s_X6_requireVersion v) cw_X6_117 qs_X6_requireVersion (dk_at ktX6_slotAfterTwoCuts_0 1 rfl) rfl rfl (Nat.le_of_ble_eq_true rfl) (by decide) (b := 4) rfl (fun _ _ _ h => ⟨Or.inl ⟨h.1, if_neg (fun g => by rw [h.2.1] at g; exact absurd g.1 (by decide))⟩, h.2.2⟩) (fun I1 J2 hq3 => ?_)
  obtain ⟨ok4, rfl, rfl⟩ := hq3
  obtain ⟨r, hr, rfl⟩ := vs_ok ok4
  refine rc_p (p_iload_n 2 (dk_at ktX6_slotAfterTwoCuts_0 2 rfl) rfl rfl (b := 5) rfl) ?_
  refine r_vSX (As := [.int c]) (rest := []) (s_X6_requireCut c) cw_X6_216 qs_X6_requireCut (dk_at ktX6_slotAfterTwoCuts_0 3 rfl) rfl rfl (Nat.le_of_ble_eq_true rfl) (by decide) (b := 8) rfl (fun _ _ _ h => ⟨Or.inl ⟨h.1, if_neg (fun g => by rw [h.2.1] at g; exact absurd g.2.1 (by decide))⟩, h.2.2⟩) (fun I5 J6 hq7 => ?_)
  obtain ⟨ok8, rfl, rfl⟩ := hq7
  refine rc_p (p_iload_n 3 (dk_at ktX6_slotAfterTwoCuts_0 4 rfl) rfl rfl (b := 9) rfl) ?_
  refine r_vSX (As := [.int z]) (rest := []) (s_X6_requireCut z) cw_X6_216 qs_X6_requireCut (dk_at ktX6_slotAfterTwoCuts_0 5 rfl) rfl rfl (Nat.le_of_ble_eq_true rfl) (by decide) (b := 12) rfl (fun _ _ _ h => ⟨Or.inl ⟨h.1, if_neg (fun g => by rw [h.2.1] at g; exact absurd g.2.2 (by decide))⟩, h.2.2⟩) (fun I9 J10 hq11 => ?_)
  obtain ⟨ok12, rfl, rfl⟩ := hq11
  refine rc_p (p_aload_n 0 (dk_at ktX6_slotAfterTwoCuts_0 6 rfl) rfl rfl (b := 13) rfl) ?_
  refine rc_p (p_iload_n 2 (dk_at ktX6_slotAfterTwoCuts_0 7 rfl) rfl rfl (b := 14) rfl) ?_
  refine r_vV (As' := [.int c]) (rest := []) (s_X6_prepareTrial hB hR hI c) cw_X6_213 qi_X6_prepareTrial qv_X6_prepareTrial rfl hB.l0 hB.s0 (dk_at ktX6_slotAfterTwoCuts_0 8 rfl) rfl rfl (Nat.le_of_ble_eq_true rfl) (by decide) (b := 17) rfl (fun I13 J14 q15 => ?_)
  obtain ⟨rfl, hR17, hF18⟩ := q15
  refine rc_p (p_aload_n 0 (dk_at ktX6_slotAfterTwoCuts_0 9 rfl) rfl rfl (b := 18) rfl) ?_
  refine r_geta fl_X6_31 rfl hB.l0 hB.s0 (dk_at ktX6_slotAfterTwoCuts_0 10 rfl) hB.g0_2 (b := 21) rfl ?_
  refine rc_p (p_iload_n 1 (dk_at ktX6_slotAfterTwoCuts_0 11 rfl) rfl rfl (b := 22) rfl) ?_
  refine rc_p (p_iconst (v := 0) (dk_at ktX6_slotAfterTwoCuts_0 12 rfl) (by decide) (b := 23) rfl) ?_
  refine r_iV (As' := [.int (nI r), .int 0]) (rest := []) (s_X0_updateOther hd (σ := (upd σ 6 c)) hR17 (Inv.p6 hI (in_i (b := 1000) ok8)) (by omega) r (by omega) false) cw_X6_121 qi_X0_updateOther qv_X0_updateOther rfl hd.l0 hd.s0 (dk_at ktX6_slotAfterTwoCuts_0 13 rfl) rfl rfl (Nat.le_of_ble_eq_true rfl) (by decide) (b := 26) rfl (fun v22 I19 J20 q21 => ?_)
  obtain ⟨eq27, rfl, ⟨T23, hT24, hR25⟩, hF26⟩ := q21
  refine rc_p (p_istore (ls' := [(4, .int v22), (0, .ref bx), (1, .int (nI r)), (2, .int c), (3, .int z)]) (dk_at ktX6_slotAfterTwoCuts_0 14 rfl) (by decide) rfl (b := 28) rfl) ?_
  refine rc_p (p_iload 0 (dk_at ktX6_slotAfterTwoCuts_0 15 rfl) rfl (b := 30) rfl) ?_
  refine rc_p (p_bipush (v := (-4)) (dk_at ktX6_slotAfterTwoCuts_0 16 rfl) (by decide) (b := 32) rfl) ?_
  refine r_icmp_ne (dk_at ktX6_slotAfterTwoCuts_0 17 rfl) (b := 41) (by decide) (b2 := 35) rfl (fun c32 => ?_) (fun c32 => ?_)
  · skip
    refine rc_p (p_iload 0 (dk_at ktX6_slotAfterTwoCuts_0 22 rfl) rfl (b := 43) rfl) ?_
    refine r_if_ge (dk_at ktX6_slotAfterTwoCuts_0 23 rfl) (b := 51) (by decide) (b2 := 46) rfl (fun c43 => ?_) (fun c43 => ?_)
    · skip
      refine rc_p (p_bipush (v := (-2)) (dk_at ktX6_slotAfterTwoCuts_0 26 rfl) (by decide) (b := 53) rfl) ?_
      refine r_iret (dk_at ktX6_slotAfterTwoCuts_0 27 rfl) rfl rfl ⟨_, rfl, ?_⟩
      refine ⟨if_pos ⟨ok4, ok8, ok12⟩, ?_, rfl, (FB.tr (FB.tr FB.rf hF18) (FD.fb hF26 (by decide) (by omega)))⟩
      have e0 := bac_full (v := nI r) (thr := false) (c := c) (σ := σ) (fun g => c32 (eq27.symm.trans g)) (by rw [eq27]; exact c43)
      unfold a_sac; rw [if_pos e0.1, aft_n (fun g => c32 (eq27.symm.trans g))]
    · skip
      refine rc_p (p_iload 0 (dk_at ktX6_slotAfterTwoCuts_0 24 rfl) rfl (b := 48) rfl) ?_
      refine rc_p (p_goto (b := 53) (dk_at ktX6_slotAfterTwoCuts_0 25 rfl) (by decide)) ?_
      refine r_iret (dk_at ktX6_slotAfterTwoCuts_0 27 rfl) rfl rfl ⟨_, rfl, ?_⟩
      refine ⟨if_pos ⟨ok4, ok8, ok12⟩, ?_, rfl, (FB.tr (FB.tr FB.rf hF18) (FD.fb hF26 (by decide) (by omega)))⟩
      have e0 := bac_err (thr := false) hI (in_i (b := 1000) ok8) (fun g => c32 (eq27.symm.trans g)) (by rw [eq27]; exact Int32.not_le.mp c43)
      unfold a_sac; rw [if_neg e0.1, e0.2]; exact eq27
  · skip
    refine rc_p (p_aload_n 1 (dk_at ktX6_slotAfterTwoCuts_0 18 rfl) rfl rfl (b := 36) rfl) ?_
    refine rc_p (p_iload_n 4 (dk_at ktX6_slotAfterTwoCuts_0 19 rfl) rfl rfl (b := 37) rfl) ?_
    refine r_iV (As' := [.int z]) (rest := []) (s_X6_bootTwice hB hR25 (Inv.upda (Inv.p6 hI (in_i (b := 1000) ok8))) (by omega) z (in_i (b := 1000) ok12)) cw_X6_235 qi_X6_bootTwice qv_X6_bootTwice rfl hB.l0 hB.s0 (dk_at ktX6_slotAfterTwoCuts_0 20 rfl) rfl rfl (Nat.le_of_ble_eq_true rfl) (by decide) (b := 40) rfl (fun v31 I28 J29 q30 => ?_)
    obtain ⟨eb32, rfl, hF33⟩ := q30
    refine r_iret (dk_at ktX6_slotAfterTwoCuts_0 21 rfl) rfl rfl ⟨_, rfl, ?_⟩
    refine ⟨if_pos ⟨ok4, ok8, ok12⟩, ?_, rfl, (FB.tr (FB.tr (FB.tr FB.rf hF18) (FD.fb hF26 (by decide) (by omega))) (hF33.mo (Nat.le_refl _) (by omega)))⟩
    have e0 := bac_cut hI (in_i (b := 1000) ok8) (eq27.trans c32)
    unfold a_sac; rw [if_pos e0.1, aft_y (eq27.trans c32)]; exact eb32
set_option maxRecDepth 4000 in
set_option maxHeartbeats 4000000 in
theorem s_X6_toldAfterCut {n : Nat} {sh : mS} {G : mG} {I : mI} {J : mJ} {bx bt o d bf bg b0 b1 bv : Nat} {σ : sT} {T N : Nat} (hB : BootH n sh G bx bt o d bf bg b0 b1 bv) (hR : RelD o I σ T N) (hI : Inv σ) (hT : T + 10 < 1000000) (v c w : Int32) : Sp yX6_toldAfterCut cX6_toldAfterCut 5 (some FieldType.int) 12 576 3 18 [.ref bx, .int v, .int c, .int w] n sh G I J (Qi (fun r_ I_ J_ => cTac v c w = 0 ∧ a_tac v c w σ = r_ ∧ J = J_ ∧ FB d bg I I_)) (eX (cTac v c w) I J) := by
  have ho := hB.hD
  have hd := hB.hT
  have hord := hB.ord
  have hb := hI.bd
  have hNs := hR.2.2.2.1
  have hN61 := hR.2.2.2.2.1
  have hTm := hR.2.2.2.2.2
  refine Sp.of (by decide) (ls := [(0, .ref bx), (1, .int v), (2, .int c), (3, .int w)]) (fun _ => rfl) (fun _ => Nat.le_of_ble_eq_true rfl) ?_
  refine rc_p (p_iload_n 1 (dk_at ktX6_toldAfterCut_0 0 rfl) rfl rfl (b := 1) rfl) ?_
  refine r_vSX (As := [.int v]) (rest := []) (s_X6_requireVersion v) cw_X6_117 qs_X6_requireVersion (dk_at ktX6_toldAfterCut_0 1 rfl) rfl rfl (Nat.le_of_ble_eq_true rfl) (by decide) (b := 4) rfl (fun _ _ _ h => ⟨Or.inl ⟨h.1, if_neg (fun g => by rw [h.2.1] at g; exact absurd g.1 (by decide))⟩, h.2.2⟩) (fun I1 J2 hq3 => ?_)
  obtain ⟨ok4, rfl, rfl⟩ := hq3
  obtain ⟨r, hr, rfl⟩ := vs_ok ok4
  refine rc_p (p_iload_n 2 (dk_at ktX6_toldAfterCut_0 2 rfl) rfl rfl (b := 5) rfl) ?_
  refine r_vSX (As := [.int c]) (rest := []) (s_X6_requireCut c) cw_X6_216 qs_X6_requireCut (dk_at ktX6_toldAfterCut_0 3 rfl) rfl rfl (Nat.le_of_ble_eq_true rfl) (by decide) (b := 8) rfl (fun _ _ _ h => ⟨Or.inl ⟨h.1, if_neg (fun g => by rw [h.2.1] at g; exact absurd g.2.1 (by decide))⟩, h.2.2⟩) (fun I5 J6 hq7 => ?_)
  obtain ⟨ok8, rfl, rfl⟩ := hq7
  refine rc_p (p_iload_n 3 (dk_at ktX6_toldAfterCut_0 4 rfl) rfl rfl (b := 9) rfl) ?_
  refine rc_p (p_iconst (v := 0) (dk_at ktX6_toldAfterCut_0 5 rfl) (by decide) (b := 10) rfl) ?_
  refine rc_p (p_iconst (v := 4) (dk_at ktX6_toldAfterCut_0 6 rfl) (by decide) (b := 11) rfl) ?_
  refine r_vSX (As := [.int w, .int 0, .int 4]) (rest := []) (s_X6_requireRange w 0 4) cw_X6_71 qs_X6_requireRange (dk_at ktX6_toldAfterCut_0 7 rfl) rfl rfl (Nat.le_of_ble_eq_true rfl) (by decide) (b := 14) rfl (fun _ _ _ h => ⟨Or.inl ⟨h.1, if_neg (fun g => by rw [h.2.1] at g; exact absurd g.2.2 (by decide))⟩, h.2.2⟩) (fun I9 J10 hq11 => ?_)
  obtain ⟨ok12, rfl, rfl⟩ := hq11
  obtain ⟨j, _, hj, rfl⟩ := rg_ok (a := 0) (b := 4) (by decide) (by decide) ok12
  refine rc_p (p_aload_n 0 (dk_at ktX6_toldAfterCut_0 8 rfl) rfl rfl (b := 15) rfl) ?_
  refine rc_p (p_iload_n 1 (dk_at ktX6_toldAfterCut_0 9 rfl) rfl rfl (b := 16) rfl) ?_
  refine rc_p (p_iload_n 2 (dk_at ktX6_toldAfterCut_0 10 rfl) rfl rfl (b := 17) rfl) ?_
  refine rc_p (p_iconst (v := 0) (dk_at ktX6_toldAfterCut_0 11 rfl) (by decide) (b := 18) rfl) ?_
  refine r_iV (As' := [.int (nI r), .int c, .int 0]) (rest := []) (s_X6_bootAfterCut hB hR hI (by omega) r (by omega) c false (in_i (b := 1000) ok8)) cw_X6_219 qi_X6_bootAfterCut qv_X6_bootAfterCut rfl hB.l0 hB.s0 (dk_at ktX6_toldAfterCut_0 12 rfl) rfl rfl (Nat.le_of_ble_eq_true rfl) (by decide) (b := 21) rfl (fun v16 I13 J14 q15 => ?_)
  obtain ⟨eb17, rfl, hF18, hN19⟩ := q15
  refine rc_p (p_istore (ls' := [(4, .int v16), (0, .ref bx), (1, .int (nI r)), (2, .int c), (3, .int (nI j))]) (dk_at ktX6_toldAfterCut_0 13 rfl) (by decide) rfl (b := 23) rfl) ?_
  refine rc_p (p_iload 0 (dk_at ktX6_toldAfterCut_0 14 rfl) rfl (b := 25) rfl) ?_
  refine rc_p (p_iconst (v := (-1)) (dk_at ktX6_toldAfterCut_0 15 rfl) (by decide) (b := 26) rfl) ?_
  refine r_icmp_ge (dk_at ktX6_toldAfterCut_0 16 rfl) (b := 35) (by decide) (b2 := 29) rfl (fun c26 => ?_) (fun c26 => ?_)
  · skip
    obtain ⟨he0, hu, hI1⟩ := bac_up hI (in_i (b := 1000) ok8) eb17 c26
    obtain ⟨T1, N1, hT1, hR1⟩ := hN19 hu
    refine rc_p (p_aload_n 1 (dk_at ktX6_toldAfterCut_0 21 rfl) rfl rfl (b := 36) rfl) ?_
    refine r_geta fl_X6_31 rfl hB.l0 hB.s0 (dk_at ktX6_toldAfterCut_0 22 rfl) hB.g0_2 (b := 39) rfl ?_
    refine r_geta fl_X6_242 rfl hd.l0 hd.s0 (dk_at ktX6_toldAfterCut_0 23 rfl) hd.g0_2 (b := 42) rfl ?_
    refine rc_p (p_aload_n 1 (dk_at ktX6_toldAfterCut_0 24 rfl) rfl rfl (b := 43) rfl) ?_
    refine r_geta fl_X6_31 rfl hB.l0 hB.s0 (dk_at ktX6_toldAfterCut_0 25 rfl) hB.g0_2 (b := 46) rfl ?_
    refine r_geta fl_X6_57 rfl hd.l0 hd.s0 (dk_at ktX6_toldAfterCut_0 26 rfl) hd.g0_0 (b := 49) rfl ?_
    refine r_vV (As' := [.ref (d + 1)]) (rest := []) (s_X2_readFrom hd (σ := (fAft (nI r) false c (-1) σ).2) hR1 hI1) cw_X6_246 qi_X2_readFrom qv_X2_readFrom rfl (hd.lt 16 (by decide)) hd.s16 (dk_at ktX6_toldAfterCut_0 27 rfl) rfl rfl (Nat.le_of_ble_eq_true rfl) (by decide) (b := 52) rfl (fun I20 J21 q22 => ?_)
    obtain ⟨rfl, hR24, hL26, hF25⟩ := q22
    refine rc_p (p_aload_n 1 (dk_at ktX6_toldAfterCut_0 28 rfl) rfl rfl (b := 53) rfl) ?_
    refine r_geta fl_X6_31 rfl hB.l0 hB.s0 (dk_at ktX6_toldAfterCut_0 29 rfl) hB.g0_2 (b := 56) rfl ?_
    refine r_geta fl_X6_242 rfl hd.l0 hd.s0 (dk_at ktX6_toldAfterCut_0 30 rfl) hd.g0_2 (b := 59) rfl ?_
    refine rc_p (p_iload_n 4 (dk_at ktX6_toldAfterCut_0 31 rfl) rfl rfl (b := 60) rfl) ?_
    refine r_iV (As' := [.int (nI j)]) (rest := []) (s_X2_part hd (σ := (fAft (nI r) false c (-1) σ).2) hR24 hI1 hL26 j (by omega)) cw_X6_210 qi_X2_part qv_X2_part rfl (hd.lt 16 (by decide)) hd.s16 (dk_at ktX6_toldAfterCut_0 32 rfl) rfl rfl (Nat.le_of_ble_eq_true rfl) (by decide) (b := 63) rfl (fun v30 I27 J28 q29 => ?_)
    obtain ⟨rfl, rfl, rfl⟩ := q29
    refine r_iret (dk_at ktX6_toldAfterCut_0 33 rfl) rfl rfl ⟨_, rfl, ?_⟩
    refine ⟨if_pos ⟨ok4, ok8, ok12⟩, ?_, rfl, (FB.tr (FB.tr FB.rf hF18) (FD.fb hF25 (by decide) (by omega)))⟩
    unfold a_tac; rw [if_pos he0, if_pos hu, tn_nI (by omega)]
  · skip
    refine rc_p (p_iload 0 (dk_at ktX6_toldAfterCut_0 17 rfl) rfl (b := 31) rfl) ?_
    refine rc_p (p_bipush (v := 100) (dk_at ktX6_toldAfterCut_0 18 rfl) (by decide) (b := 33) rfl) ?_
    refine rc_p (p_isub (v := (v16 - 100)) (dk_at ktX6_toldAfterCut_0 19 rfl) rfl (b := 34) rfl) ?_
    refine r_iret (dk_at ktX6_toldAfterCut_0 20 rfl) rfl rfl ⟨_, rfl, ?_⟩
    refine ⟨if_pos ⟨ok4, ok8, ok12⟩, ?_, rfl, (FB.tr FB.rf hF18)⟩
    exact tac_n hI (in_i (b := 1000) ok8) eb17 (Int32.not_le.mp c26)
set_option maxRecDepth 4000 in
set_option maxHeartbeats 4000000 in
theorem s_X6_firstUnsafePair {n : Nat} {sh : mS} {G : mG} {I : mI} {J : mJ} {bx bt o d bf bg b0 b1 bv : Nat} {σ : sT} {T N : Nat} (hB : BootH n sh G bx bt o d bf bg b0 b1 bv) (hR : RelD o I σ T N) (hI : Inv σ) (hT : T + 16 < 1000000) (v : Int32) : Sp yX6_firstUnsafePair cX6_firstUnsafePair 5 (some FieldType.int) 12 576 1 6 [.ref bx, .int v] n sh G I J (Qi (fun r_ I_ J_ => cIn v 1 255 = 0 ∧ a_fp v σ = r_ ∧ J = J_ ∧ FB d bg I I_)) (eX (cIn v 1 255) I J) := by
  have ho := hB.hD
  have hd := hB.hT
  have hord := hB.ord
  have hb := hI.bd
  have hNs := hR.2.2.2.1
  have hN61 := hR.2.2.2.2.1
  have hTm := hR.2.2.2.2.2
  refine Sp.of (by decide) (ls := [(0, .ref bx), (1, .int v)]) (fun _ => rfl) (fun _ => Nat.le_of_ble_eq_true rfl) ?_
  refine rc_p (p_iload_n 1 (dk_at ktX6_firstUnsafePair_0 0 rfl) rfl rfl (b := 1) rfl) ?_
  refine r_vSX (As := [.int v]) (rest := []) (s_X6_requireVersion v) cw_X6_117 qs_X6_requireVersion (dk_at ktX6_firstUnsafePair_0 1 rfl) rfl rfl (Nat.le_of_ble_eq_true rfl) (by decide) (b := 4) rfl (fun _ _ _ h => ⟨Or.inl ⟨h.1, cIn_f h.2.1⟩, h.2.2⟩) (fun I1 J2 hq3 => ?_)
  obtain ⟨ok4, rfl, rfl⟩ := hq3
  obtain ⟨q, hq, rfl⟩ := vs_ok ok4
  have cut61 : ∀ (c : Nat), c ≤ 1000 → (fUpd (nI q) false (upd σ 6 (nI c))).1 = -4 → a_fp (nI q) σ = fpS (nI q) σ (1001 - c) c → (∀ (Iz : mI), FB d bg I Iz → fpX (nI q) σ c = -1 → Rc RX6 cX6_firstUnsafePair 5 (some FieldType.int) 12 576 1 6 n sh G (Qi (fun r_ I_ J_ => cIn (nI q) 1 255 = 0 ∧ a_fp (nI q) σ = r_ ∧ J = J_ ∧ FB d bg I I_)) (eX (cIn (nI q) 1 255) I J) (1 - 1) (6 - 6) 6 [(2, .int (nI (c + 1))), (0, .ref bx), (1, .int (nI q))] [] Iz J) → ∀ (t b : Nat) (Iz : mI) (Tz Nz : Nat), FB d bg I Iz → RelD bf Iz (fUpd (nI q) false (upd σ 6 (nI c))).2 Tz Nz → Tz ≤ T + 4 → 13 - b < t → b ≤ 12 → fpX (nI q) σ c = fstI (fpP (nI q) σ c) (-1) (12 - b) b → Rc RX6 cX6_firstUnsafePair 5 (some FieldType.int) 12 576 1 6 n sh G (Qi (fun r_ I_ J_ => cIn (nI q) 1 255 = 0 ∧ a_fp (nI q) σ = r_ ∧ J = J_ ∧ FB d bg I I_)) (eX (cIn (nI q) 1 255) I J) (1 - 1) (6 - 6) 61 [(2, .int (nI c)), (4, .int (nI b)), (0, .ref bx), (1, .int (nI q))] [] Iz J := by
    intro c hc hU hA hK t
    induction t
    · intro b Iz Tz Nz _ _ _ h; omega
    rename_i t ih2
    intro b Iz Tz Nz hFz hRy hTz ht h1 hx
    refine rc_p (p_iload 1 (dk_at ktX6_firstUnsafePair_0 34 rfl) rfl (b := 63) rfl) ?_
    refine rc_p (p_bipush (v := 11) (dk_at ktX6_firstUnsafePair_0 35 rfl) (by decide) (b := 65) rfl) ?_
    refine r_icmp_gt (dk_at ktX6_firstUnsafePair_0 36 rfl) (b := 103) (by decide) (b2 := 68) rfl (fun c65 => ?_) (fun c65 => ?_)
    · have c65 : 11 < b := (nI_ltI (a := 11) (b := b) (by omega) (by omega)).mp c65
      refine rc_p (p_iinc (j := 0) (v := (nI (c + 1))) (ls' := [(2, .int (nI (c + 1))), (4, .int (nI b)), (0, .ref bx), (1, .int (nI q))]) (dk_at ktX6_firstUnsafePair_0 55 rfl) rfl (nI_add c 1) (by decide) rfl (b := 106) rfl) ?_
      refine rc_p (p_goto (b := 6) (dk_at ktX6_firstUnsafePair_0 56 rfl) (by decide)) ?_
      refine rc_sub [0, 2, 3] (ls' := [(2, .int (nI (c + 1))), (0, .ref bx), (1, .int (nI q))]) rfl ?_
      exact hK Iz hFz (hx.trans (fst_e (by omega)))
    · have c65 : ¬ 11 < b := fun h => c65 ((nI_ltI (a := 11) (b := b) (by omega) (by omega)).mpr h)
      refine rc_p (p_aload_n 2 (dk_at ktX6_firstUnsafePair_0 37 rfl) rfl rfl (b := 69) rfl) ?_
      refine r_geta fl_X6_31 rfl hB.l0 hB.s0 (dk_at ktX6_firstUnsafePair_0 38 rfl) hB.g0_2 (b := 72) rfl ?_
      refine rc_p (p_aload_n 2 (dk_at ktX6_firstUnsafePair_0 39 rfl) rfl rfl (b := 73) rfl) ?_
      refine r_geta fl_X6_34 rfl hB.l0 hB.s0 (dk_at ktX6_firstUnsafePair_0 40 rfl) hB.g0_3 (b := 76) rfl ?_
      refine r_vV (As' := [.ref bf]) (rest := []) (s_X0_copyFrom (d := d) (o := bf) hd hB.hA (by omega) hRy) cw_X6_238 qi_X0_copyFrom qv_X0_copyFrom rfl hd.l0 hd.s0 (dk_at ktX6_firstUnsafePair_0 41 rfl) rfl rfl (Nat.le_of_ble_eq_true rfl) (by decide) (b := 79) rfl (fun I5 J6 q7 => ?_)
      obtain ⟨rfl, hR9, hF10⟩ := q7
      refine rc_p (p_aload_n 2 (dk_at ktX6_firstUnsafePair_0 42 rfl) rfl rfl (b := 80) rfl) ?_
      refine rc_p (p_iload 1 (dk_at ktX6_firstUnsafePair_0 43 rfl) rfl (b := 82) rfl) ?_
      refine r_iV (As' := [.int (nI b)]) (rest := []) (s_X6_bootTwice hB hR9 (Inv.upda (Inv.pn hI (by omega))) (by omega) (nI b) (n_i (by omega))) cw_X6_235 qi_X6_bootTwice qv_X6_bootTwice rfl hB.l0 hB.s0 (dk_at ktX6_firstUnsafePair_0 44 rfl) rfl rfl (Nat.le_of_ble_eq_true rfl) (by decide) (b := 85) rfl (fun v14 I11 J12 q13 => ?_)
      obtain ⟨eb15, rfl, hF16⟩ := q13
      refine rc_p (p_iconst (v := (-1)) (dk_at ktX6_firstUnsafePair_0 45 rfl) (by decide) (b := 86) rfl) ?_
      refine r_icmp_ne (dk_at ktX6_firstUnsafePair_0 46 rfl) (b := 97) (by decide) (b2 := 89) rfl (fun c86 => ?_) (fun c86 => ?_)
      · skip
        refine rc_p (p_iinc (j := 1) (v := (nI (b + 1))) (ls' := [(4, .int (nI (b + 1))), (2, .int (nI c)), (0, .ref bx), (1, .int (nI q))]) (dk_at ktX6_firstUnsafePair_0 53 rfl) rfl (nI_add b 1) (by decide) rfl (b := 100) rfl) ?_
        refine rc_p (p_goto (b := 61) (dk_at ktX6_firstUnsafePair_0 54 rfl) (by decide)) ?_
        refine rc_sub [1, 0, 2, 3] (ls' := [(2, .int (nI c)), (4, .int (nI (b + 1))), (0, .ref bx), (1, .int (nI q))]) rfl ?_
        exact ih2 (b + 1) I11 Tz Nz (FB.tr (FB.tr hFz (FB.mo (d := d) (g := d + 19) hF10 (Nat.le_refl _) (by omega))) (hF16.mo (Nat.le_refl _) (by omega))) (hRy.fr (fun b1 g1 g2 => (hF16 b1 (by omega)).trans (hF10 b1 (by omega)))) (by omega) (by omega) (by omega) (hx.trans (fst_n (by omega) (decide_eq_false (fun g => c86 ((by rw [aft_y hU] at g; exact eb15.symm.trans g))))))
      · skip
        refine rc_p (p_bipush (v := 100) (dk_at ktX6_firstUnsafePair_0 47 rfl) (by decide) (b := 91) rfl) ?_
        refine rc_p (p_iload_n 0 (dk_at ktX6_firstUnsafePair_0 48 rfl) rfl rfl (b := 92) rfl) ?_
        refine rc_p (p_imul (v := (nI (100 * c))) (dk_at ktX6_firstUnsafePair_0 49 rfl) (pk_mul 100 c) (b := 93) rfl) ?_
        refine rc_p (p_iload 1 (dk_at ktX6_firstUnsafePair_0 50 rfl) rfl (b := 95) rfl) ?_
        refine rc_p (p_iadd (v := (nI (100 * c + b))) (dk_at ktX6_firstUnsafePair_0 51 rfl) (nI_add (100 * c) b) (b := 96) rfl) ?_
        refine r_iret (dk_at ktX6_firstUnsafePair_0 52 rfl) rfl rfl ⟨_, rfl, ?_⟩
        refine ⟨cIn_t ok4, ?_, rfl, (FB.tr (FB.tr hFz (FB.mo (d := d) (g := d + 19) hF10 (Nat.le_refl _) (by omega))) (hF16.mo (Nat.le_refl _) (by omega)))⟩
        exact hA.trans (fpS_h (by omega) (aft_y2 hI (n_i (by omega)) (n_i (by decide)) hU) (by omega) (hx.trans (fst_y (by omega) (decide_eq_true (by rw [aft_y hU]; exact eb15.trans c86)))))
  have cut6 : ∀ (t c : Nat) (Iz : mI), FB d bg I Iz → 1002 - c < t → c ≤ 1001 → (c = 0 ∨ errU (nI q) σ = 0) → (errU (nI q) σ = 0 → a_fp (nI q) σ = fpS (nI q) σ (1001 - c) c) → Rc RX6 cX6_firstUnsafePair 5 (some FieldType.int) 12 576 1 6 n sh G (Qi (fun r_ I_ J_ => cIn (nI q) 1 255 = 0 ∧ a_fp (nI q) σ = r_ ∧ J = J_ ∧ FB d bg I I_)) (eX (cIn (nI q) 1 255) I J) (1 - 1) (6 - 6) 6 [(2, .int (nI c)), (0, .ref bx), (1, .int (nI q))] [] Iz J := by
    intro t
    induction t
    · intro c Iz _ h; omega
    rename_i t ih
    intro c Iz hFz ht h1 h0 hx
    refine rc_p (p_iload_n 0 (dk_at ktX6_firstUnsafePair_0 4 rfl) rfl rfl (b := 7) rfl) ?_
    refine rc_p (p_sipush (v := 1000) (dk_at ktX6_firstUnsafePair_0 5 rfl) (by decide) (b := 10) rfl) ?_
    refine r_icmp_gt (dk_at ktX6_firstUnsafePair_0 6 rfl) (b := 109) (by decide) (b2 := 13) rfl (fun c10 => ?_) (fun c10 => ?_)
    · have c10 : 1000 < c := (nI_ltI (a := 1000) (b := c) (by omega) (by omega)).mp c10
      refine rc_p (p_iconst (v := (-1)) (dk_at ktX6_firstUnsafePair_0 57 rfl) (by decide) (b := 110) rfl) ?_
      refine r_iret (dk_at ktX6_firstUnsafePair_0 58 rfl) rfl rfl ⟨_, rfl, ?_⟩
      refine ⟨cIn_t ok4, ?_, rfl, hFz⟩
      have he := h0.resolve_left (by omega)
      rw [hx he, show c = 1001 by omega]; rfl
    · have c10 : ¬ 1000 < c := fun h => c10 ((nI_ltI (a := 1000) (b := c) (by omega) (by omega)).mpr h)
      refine rc_p (p_aload_n 1 (dk_at ktX6_firstUnsafePair_0 7 rfl) rfl rfl (b := 14) rfl) ?_
      refine rc_p (p_iload_n 0 (dk_at ktX6_firstUnsafePair_0 8 rfl) rfl rfl (b := 15) rfl) ?_
      refine r_vV (As' := [.int (nI c)]) (rest := []) (s_X6_prepareTrial hB (hR.fr (fun b g1 g2 => hFz b (by omega))) hI (nI c)) cw_X6_213 qi_X6_prepareTrial qv_X6_prepareTrial rfl hB.l0 hB.s0 (dk_at ktX6_firstUnsafePair_0 9 rfl) rfl rfl (Nat.le_of_ble_eq_true rfl) (by decide) (b := 18) rfl (fun I17 J18 q19 => ?_)
      obtain ⟨rfl, hR21, hF22⟩ := q19
      refine rc_p (p_aload_n 1 (dk_at ktX6_firstUnsafePair_0 10 rfl) rfl rfl (b := 19) rfl) ?_
      refine r_geta fl_X6_31 rfl hB.l0 hB.s0 (dk_at ktX6_firstUnsafePair_0 11 rfl) hB.g0_2 (b := 22) rfl ?_
      refine rc_p (p_iload_n 2 (dk_at ktX6_firstUnsafePair_0 12 rfl) rfl rfl (b := 23) rfl) ?_
      refine rc_p (p_iconst (v := 0) (dk_at ktX6_firstUnsafePair_0 13 rfl) (by decide) (b := 24) rfl) ?_
      refine r_iV (As' := [.int (nI q), .int 0]) (rest := []) (s_X0_updateOther hd (σ := (upd σ 6 (nI c))) hR21 (Inv.pn hI (by omega)) (by omega) q (by omega) false) cw_X6_121 qi_X0_updateOther qv_X0_updateOther rfl hd.l0 hd.s0 (dk_at ktX6_firstUnsafePair_0 14 rfl) rfl rfl (Nat.le_of_ble_eq_true rfl) (by decide) (b := 27) rfl (fun v26 I23 J24 q25 => ?_)
      obtain ⟨eq31, rfl, ⟨T27, hT28, hR29⟩, hF30⟩ := q25
      refine rc_p (p_istore_n (ls' := [(3, .int v26), (2, .int (nI c)), (0, .ref bx), (1, .int (nI q))]) (dk_at ktX6_firstUnsafePair_0 15 rfl) rfl (by decide) rfl (b := 28) rfl) ?_
      refine rc_p (p_iload_n 0 (dk_at ktX6_firstUnsafePair_0 16 rfl) rfl rfl (b := 29) rfl) ?_
      refine rc_p (p_bipush (v := (-4)) (dk_at ktX6_firstUnsafePair_0 17 rfl) (by decide) (b := 31) rfl) ?_
      refine r_icmp_eq (dk_at ktX6_firstUnsafePair_0 18 rfl) (b := 47) (by decide) (b2 := 34) rfl (fun c31 => ?_) (fun c31 => ?_)
      · skip
        refine rc_p (p_aload_n 2 (dk_at ktX6_firstUnsafePair_0 27 rfl) rfl rfl (b := 48) rfl) ?_
        refine r_geta fl_X6_34 rfl hB.l0 hB.s0 (dk_at ktX6_firstUnsafePair_0 28 rfl) hB.g0_3 (b := 51) rfl ?_
        refine rc_p (p_aload_n 2 (dk_at ktX6_firstUnsafePair_0 29 rfl) rfl rfl (b := 52) rfl) ?_
        refine r_geta fl_X6_31 rfl hB.l0 hB.s0 (dk_at ktX6_firstUnsafePair_0 30 rfl) hB.g0_2 (b := 55) rfl ?_
        refine r_vV (As' := [.ref d]) (rest := []) (s_X0_copyFrom (d := bf) (o := d) hB.hA hd (by omega) hR29) cw_X6_238 qi_X0_copyFrom qv_X0_copyFrom rfl hB.hA.l0 hB.hA.s0 (dk_at ktX6_firstUnsafePair_0 31 rfl) rfl rfl (Nat.le_of_ble_eq_true rfl) (by decide) (b := 58) rfl (fun I32 J33 q34 => ?_)
        obtain ⟨rfl, hR36, hF37⟩ := q34
        refine rc_p (p_iconst (v := 0) (dk_at ktX6_firstUnsafePair_0 32 rfl) (by decide) (b := 59) rfl) ?_
        refine rc_p (p_istore (ls' := [(4, .int 0), (3, .int v26), (2, .int (nI c)), (0, .ref bx), (1, .int (nI q))]) (dk_at ktX6_firstUnsafePair_0 33 rfl) (by decide) rfl (b := 61) rfl) ?_
        refine rc_sub [2, 0, 3, 4] (ls' := [(2, .int (nI c)), (4, .int 0), (0, .ref bx), (1, .int (nI q))]) rfl ?_
        have h0 := (bac_cut hI (n_i (by omega)) (eq31.trans c31)).1
        exact cut61 c (by omega) (eq31.trans c31) (hx h0) (fun Iz' hF' hx' => ih (c + 1) Iz' hF' (by omega) (by omega) (Or.inr h0) (fun he => (hx he).trans (fpS_g (by omega) (aft_y2 hI (n_i (by omega)) (n_i (by decide)) (eq31.trans c31)) hx'))) 2000 0 I32 _ _ (FB.tr (FB.tr (FB.tr hFz hF22) (FD.fb hF30 (by decide) (by omega))) (FB.mo (d := bf) (g := bf + 19) hF37 (by omega) (by omega))) hR36 (by omega) (by omega) (by omega) rfl
      · skip
        refine rc_p (p_iload_n 0 (dk_at ktX6_firstUnsafePair_0 19 rfl) rfl rfl (b := 35) rfl) ?_
        refine r_if_ge (dk_at ktX6_firstUnsafePair_0 20 rfl) (b := 45) (by decide) (b2 := 38) rfl (fun c35 => ?_) (fun c35 => ?_)
        · skip
          refine rc_p (p_iconst (v := (-1)) (dk_at ktX6_firstUnsafePair_0 25 rfl) (by decide) (b := 46) rfl) ?_
          refine r_iret (dk_at ktX6_firstUnsafePair_0 26 rfl) rfl rfl ⟨_, rfl, ?_⟩
          refine ⟨cIn_t ok4, ?_, rfl, (FB.tr (FB.tr hFz hF22) (FD.fb hF30 (by decide) (by omega)))⟩
          have e0 := bac_full (v := nI q) (thr := false) (c := nI c) (σ := σ) (fun g => c31 (eq31.symm.trans g)) (by rw [eq31]; exact c35)
          exact (hx e0.1).trans (fpS_e (by omega) (by rw [aft_n (fun g => c31 (eq31.symm.trans g))]))
        · skip
          refine rc_p (p_iload_n 0 (dk_at ktX6_firstUnsafePair_0 21 rfl) rfl rfl (b := 39) rfl) ?_
          refine rc_p (p_bipush (v := 100) (dk_at ktX6_firstUnsafePair_0 22 rfl) (by decide) (b := 41) rfl) ?_
          refine rc_p (p_isub (v := (v26 - 100)) (dk_at ktX6_firstUnsafePair_0 23 rfl) rfl (b := 42) rfl) ?_
          refine rc_p (p_goto (b := 46) (dk_at ktX6_firstUnsafePair_0 24 rfl) (by decide)) ?_
          refine r_iret (dk_at ktX6_firstUnsafePair_0 26 rfl) rfl rfl ⟨_, rfl, ?_⟩
          refine ⟨cIn_t ok4, ?_, rfl, (FB.tr (FB.tr hFz hF22) (FD.fb hF30 (by decide) (by omega)))⟩
          have e0 := bac_err (thr := false) hI (n_i (by omega)) (fun g => c31 (eq31.symm.trans g)) (by rw [eq31]; exact Int32.not_le.mp c35)
          unfold a_fp; rw [if_neg e0.1, e0.2]; exact congrArg (· - 100) eq31
  refine rc_p (p_iconst (v := 0) (dk_at ktX6_firstUnsafePair_0 2 rfl) (by decide) (b := 5) rfl) ?_
  refine rc_p (p_istore_n (ls' := [(2, .int 0), (0, .ref bx), (1, .int (nI q))]) (dk_at ktX6_firstUnsafePair_0 3 rfl) rfl (by decide) rfl (b := 6) rfl) ?_
  exact cut6 2000 0 I FB.rf (by omega) (by omega) (Or.inl rfl) (fun he => if_pos he)
set_option maxRecDepth 4000 in
set_option maxHeartbeats 4000000 in
theorem s_X6_updatesLeft {n : Nat} {sh : mS} {G : mG} {I : mI} {J : mJ} {bx bt o d bf bg b0 b1 bv : Nat} {σ : sT} {T N : Nat} (hB : BootH n sh G bx bt o d bf bg b0 b1 bv) (hR : RelD o I σ T N) (hI : Inv σ) (hT : T + 915 < 1000000) (v : Int32) : Sp yX6_updatesLeft cX6_updatesLeft 5 (some FieldType.int) 10 480 1 6 [.ref bx, .int v] n sh G I J (Qi (fun r_ I_ J_ => cIn v 1 255 = 0 ∧ a_ul v σ = r_ ∧ J = J_ ∧ FB d bg I I_)) (eX (cIn v 1 255) I J) := by
  have ho := hB.hD
  have hd := hB.hT
  have hord := hB.ord
  have hb := hI.bd
  have hNs := hR.2.2.2.1
  have hN61 := hR.2.2.2.2.1
  have hTm := hR.2.2.2.2.2
  refine Sp.of (by decide) (ls := [(0, .ref bx), (1, .int v)]) (fun _ => rfl) (fun _ => Nat.le_of_ble_eq_true rfl) ?_
  refine rc_p (p_iload_n 1 (dk_at ktX6_updatesLeft_0 0 rfl) rfl rfl (b := 1) rfl) ?_
  refine r_vSX (As := [.int v]) (rest := []) (s_X6_requireVersion v) cw_X6_117 qs_X6_requireVersion (dk_at ktX6_updatesLeft_0 1 rfl) rfl rfl (Nat.le_of_ble_eq_true rfl) (by decide) (b := 4) rfl (fun _ _ _ h => ⟨Or.inl ⟨h.1, cIn_f h.2.1⟩, h.2.2⟩) (fun I1 J2 hq3 => ?_)
  obtain ⟨ok4, rfl, rfl⟩ := hq3
  obtain ⟨q, hq, rfl⟩ := vs_ok ok4
  have cut11 : ∀ (t k : Nat) (Iz : mI) (τ : sT) (Tz : Nat), FB d bg I Iz → RelD d Iz τ Tz N → Inv τ → τ 6 = -1 → τ 0 = σ 0 → Tz ≤ T + 15 * k → 61 - k < t → k ≤ 60 → (k = 0 → τ = upd σ 6 (-1)) → (k = 0 ∨ errU (nI q) σ = 0) → (errU (nI q) σ = 0 → a_ul (nI q) σ = nI (ulS (nI q) (nI (nS σ)) (60 - k) k τ)) → Rc RX6 cX6_updatesLeft 5 (some FieldType.int) 10 480 1 6 n sh G (Qi (fun r_ I_ J_ => cIn (nI q) 1 255 = 0 ∧ a_ul (nI q) σ = r_ ∧ J = J_ ∧ FB d bg I I_)) (eX (cIn (nI q) 1 255) I J) (1 - 1) (6 - 6) 11 [(2, .int (nI k)), (0, .ref bx), (1, .int (nI q))] [] Iz J := by
    intro t
    induction t
    · intro k Iz τ Tz _ _ _ _ _ _ h; omega
    rename_i t ih
    intro k Iz τ Tz hFz hRz hIz h6 hW hTz ht h1 h0 h00 hx
    have hz4 : Inv (upd τ 4 (nI (nS σ))) := hIz.z4 (by rw [nW_of hW]; omega)
    refine rc_p (p_iload_n 0 (dk_at ktX6_updatesLeft_0 7 rfl) rfl rfl (b := 12) rfl) ?_
    refine rc_p (p_bipush (v := 60) (dk_at ktX6_updatesLeft_0 8 rfl) (by decide) (b := 14) rfl) ?_
    refine r_icmp_ge (dk_at ktX6_updatesLeft_0 9 rfl) (b := 98) (by decide) (b2 := 17) rfl (fun c14 => ?_) (fun c14 => ?_)
    · have c14 : 60 ≤ k := (nI_leI (a := 60) (b := k) (by omega) (by omega)).mp c14
      refine rc_p (p_bipush (v := 60) (dk_at ktX6_updatesLeft_0 51 rfl) (by decide) (b := 100) rfl) ?_
      refine r_iret (dk_at ktX6_updatesLeft_0 52 rfl) rfl rfl ⟨_, rfl, ?_⟩
      refine ⟨cIn_t ok4, ?_, rfl, hFz⟩
      have he := h00.resolve_left (by omega)
      rw [hx he, show k = 60 by omega]; rfl
    · have c14 : ¬ 60 ≤ k := fun h => c14 ((nI_leI (a := 60) (b := k) (by omega) (by omega)).mpr h)
      refine rc_p (p_aload_n 1 (dk_at ktX6_updatesLeft_0 10 rfl) rfl rfl (b := 18) rfl) ?_
      refine r_geta fl_X6_31 rfl hB.l0 hB.s0 (dk_at ktX6_updatesLeft_0 11 rfl) hB.g0_2 (b := 21) rfl ?_
      refine rc_p (p_aload_n 1 (dk_at ktX6_updatesLeft_0 12 rfl) rfl rfl (b := 22) rfl) ?_
      refine r_geta fl_X6_27 rfl hB.l0 hB.s0 (dk_at ktX6_updatesLeft_0 13 rfl) hB.g0_1 (b := 25) rfl ?_
      refine r_geti fl_X6_75 rfl ho.l0 ho.s0 (dk_at ktX6_updatesLeft_0 14 rfl) (v := (nI (nS σ))) ((congrFun (hFz _ (by omega)) 5).trans ((hR.1 0 5 4 lc_0_5).trans hI.w4)) (b := 28) rfl ?_
      refine r_puti fl_X6_75 fw_X0_5 rfl hd.l0 hd.s0 rfl rfl (dk_at ktX6_updatesLeft_0 15 rfl) (b := 31) rfl ?_
      refine rc_p (p_iconst (v := 1) (dk_at ktX6_updatesLeft_0 16 rfl) (by decide) (b := 32) rfl) ?_
      refine rc_p (p_aload_n 1 (dk_at ktX6_updatesLeft_0 17 rfl) rfl rfl (b := 33) rfl) ?_
      refine r_geta fl_X6_31 rfl hB.l0 hB.s0 (dk_at ktX6_updatesLeft_0 18 rfl) hB.g0_2 (b := 36) rfl ?_
      refine r_geti fl_X6_108 rfl hd.l0 hd.s0 (dk_at ktX6_updatesLeft_0 19 rfl) (v := (τ 8)) ((up2_n (by omega)).trans (hRz.1 0 8 8 lc_0_8)) (b := 39) rfl ?_
      refine rc_p (p_isub (v := (1 - (τ 8))) (dk_at ktX6_updatesLeft_0 20 rfl) rfl (b := 40) rfl) ?_
      refine rc_p (p_istore_n (ls' := [(3, .int (1 - (τ 8))), (2, .int (nI k)), (0, .ref bx), (1, .int (nI q))]) (dk_at ktX6_updatesLeft_0 21 rfl) rfl (by decide) rfl (b := 41) rfl) ?_
      refine rc_p (p_aload_n 2 (dk_at ktX6_updatesLeft_0 22 rfl) rfl rfl (b := 42) rfl) ?_
      refine r_geta fl_X6_31 rfl hB.l0 hB.s0 (dk_at ktX6_updatesLeft_0 23 rfl) hB.g0_2 (b := 45) rfl ?_
      refine rc_p (p_iload_n 3 (dk_at ktX6_updatesLeft_0 24 rfl) rfl rfl (b := 46) rfl) ?_
      refine rc_p (p_iconst (v := 0) (dk_at ktX6_updatesLeft_0 25 rfl) (by decide) (b := 47) rfl) ?_
      refine r_iV (As' := [.int (nI q), .int 0]) (rest := []) (s_X0_updateOther hd (σ := (upd τ 4 (nI (nS σ)))) (hRz.set (o := 0) (k := 5) (a := 4) lc_0_5 (by omega) (by omega) (fun _ => by first | decide | exact Nat.zero_le _ | (rw [tn_nI (by omega)]; omega) | omega)) hz4 (by omega) q (by omega) false) cw_X6_121 qi_X0_updateOther qv_X0_updateOther rfl hd.l0 hd.s0 (dk_at ktX6_updatesLeft_0 26 rfl) rfl rfl (Nat.le_of_ble_eq_true rfl) (by decide) (b := 50) rfl (fun v8 I5 J6 q7 => ?_)
      obtain ⟨eq13, rfl, ⟨T9, hT10, hR11⟩, hF12⟩ := q7
      refine rc_p (p_istore (ls' := [(4, .int v8), (3, .int (1 - (τ 8))), (2, .int (nI k)), (0, .ref bx), (1, .int (nI q))]) (dk_at ktX6_updatesLeft_0 27 rfl) (by decide) rfl (b := 52) rfl) ?_
      refine rc_p (p_iload 0 (dk_at ktX6_updatesLeft_0 28 rfl) rfl (b := 54) rfl) ?_
      refine r_if_ge (dk_at ktX6_updatesLeft_0 29 rfl) (b := 71) (by decide) (b2 := 57) rfl (fun c54 => ?_) (fun c54 => ?_)
      · skip
        refine rc_p (p_aload_n 3 (dk_at ktX6_updatesLeft_0 38 rfl) rfl rfl (b := 72) rfl) ?_
        refine r_geta fl_X6_31 rfl hB.l0 hB.s0 (dk_at ktX6_updatesLeft_0 39 rfl) hB.g0_2 (b := 75) rfl ?_
        refine r_iV (As' := []) (rest := []) (s_X0_startUp hd (σ := (fUpd (nI q) false (upd τ 4 (nI (nS σ)))).2) hR11 (Inv.upda hz4) (by omega)) cw_X6_105 qi_X0_startUp qv_X0_startUp rfl hd.l0 hd.s0 (dk_at ktX6_updatesLeft_0 40 rfl) rfl rfl (Nat.le_of_ble_eq_true rfl) (by decide) (b := 78) rfl (fun v17 I14 J15 q16 => ?_)
        obtain ⟨eq22, rfl, ⟨T18, hT19, hR20⟩, hF21⟩ := q16
        refine rc_p (p_iload_n 1 (dk_at ktX6_updatesLeft_0 41 rfl) rfl rfl (b := 79) rfl) ?_
        refine r_icmp_eq (dk_at ktX6_updatesLeft_0 42 rfl) (b := 84) (by decide) (b2 := 82) rfl (fun c79 => ?_) (fun c79 => ?_)
        · skip
          refine rc_p (p_aload_n 3 (dk_at ktX6_updatesLeft_0 45 rfl) rfl rfl (b := 85) rfl) ?_
          refine r_geta fl_X6_31 rfl hB.l0 hB.s0 (dk_at ktX6_updatesLeft_0 46 rfl) hB.g0_2 (b := 88) rfl ?_
          refine r_iV (As' := []) (rest := []) (s_X0_confirmRunning hd (σ := (fBoot (fUpd (nI q) false (upd τ 4 (nI (nS σ)))).2).2) hR20 (Inv.boot (Inv.upda hz4)) (by omega)) cw_X6_131 qi_X0_confirmRunning qv_X0_confirmRunning rfl hd.l0 hd.s0 (dk_at ktX6_updatesLeft_0 47 rfl) rfl rfl (Nat.le_of_ble_eq_true rfl) (by decide) (b := 91) rfl (fun v26 I23 J24 q25 => ?_)
          obtain ⟨eq31, rfl, ⟨T27, hT28, hR29⟩, hF30⟩ := q25
          refine rc_p (p_pop (dk_at ktX6_updatesLeft_0 48 rfl) rfl (b := 92) rfl) ?_
          refine rc_p (p_iinc (j := 2) (v := (nI (k + 1))) (ls' := [(2, .int (nI (k + 1))), (4, .int v8), (3, .int (1 - (τ 8))), (0, .ref bx), (1, .int (nI q))]) (dk_at ktX6_updatesLeft_0 49 rfl) rfl (nI_add k 1) (by decide) rfl (b := 95) rfl) ?_
          refine rc_p (p_goto (b := 11) (dk_at ktX6_updatesLeft_0 50 rfl) (by decide)) ?_
          refine rc_sub [0, 3, 4] (ls' := [(2, .int (nI (k + 1))), (0, .ref bx), (1, .int (nI q))]) rfl ?_
          have hge := (show 0 ≤ (fUpd (nI q) false (upd τ 4 (nI (nS σ)))).1 by rw [eq13]; exact c54)
          have he0 := ul_e0 hI hz4 h0 h00 hge
          exact ih (k + 1) I23 _ T27 (FB.tr (FB.tr (FB.tr (FB.tr hFz (fun b hb => up2_off (by omega))) (FD.fb hF12 (by decide) (by omega))) (FD.fb hF21 (by decide) (by omega))) (FD.fb hF30 (by decide) (by omega))) hR29 (ulT_I hz4) (ulT_6 hz4 h6) (ulT_0.trans hW) (by omega) (by omega) (by omega) (fun g => absurd g (by omega)) (Or.inr he0) (fun he => (hx he).trans (congrArg nI (ulS_y (by omega) (ul_y hz4 h6 hge (eq22.trans c79)))))
        · skip
          refine rc_p (p_iload_n 2 (dk_at ktX6_updatesLeft_0 43 rfl) rfl rfl (b := 83) rfl) ?_
          refine r_iret (dk_at ktX6_updatesLeft_0 44 rfl) rfl rfl ⟨_, rfl, ?_⟩
          refine ⟨cIn_t ok4, ?_, rfl, (FB.tr (FB.tr (FB.tr hFz (fun b hb => up2_off (by omega))) (FD.fb hF12 (by decide) (by omega))) (FD.fb hF21 (by decide) (by omega)))⟩
          have hge := (show 0 ≤ (fUpd (nI q) false (upd τ 4 (nI (nS σ)))).1 by rw [eq13]; exact c54)
          have he := ul_e0 hI hz4 h0 h00 hge
          exact (hx he).trans (congrArg nI (ulS_n (by omega) (fun g => c79 (eq22.symm.trans (ulY_i.mp g).2.1))))
      · skip
        refine rc_p (p_iload_n 2 (dk_at ktX6_updatesLeft_0 30 rfl) rfl rfl (b := 58) rfl) ?_
        refine r_if_ne (dk_at ktX6_updatesLeft_0 31 rfl) (b := 69) (by decide) (b2 := 61) rfl (fun c58 => ?_) (fun c58 => ?_)
        · have c58 : ¬ k = 0 := fun h => c58 ((nI_eq (a := k) (b := 0) (by omega) (by omega)).mpr h)
          refine rc_p (p_iload_n 2 (dk_at ktX6_updatesLeft_0 36 rfl) rfl rfl (b := 70) rfl) ?_
          refine r_iret (dk_at ktX6_updatesLeft_0 37 rfl) rfl rfl ⟨_, rfl, ?_⟩
          refine ⟨cIn_t ok4, ?_, rfl, (FB.tr (FB.tr hFz (fun b hb => up2_off (by omega))) (FD.fb hF12 (by decide) (by omega)))⟩
          have he := h00.resolve_left c58
          exact (hx he).trans (congrArg nI (ulS_n (by omega) (fun g => (show ¬ 0 ≤ (fUpd (nI q) false (upd τ 4 (nI (nS σ)))).1 by rw [eq13]; exact c54) (Int32.le_of_lt (ulY_i.mp g).1))))
        · have c58 : k = 0 := (nI_eq (a := k) (b := 0) (by omega) (by omega)).mp c58
          refine rc_p (p_iload 0 (dk_at ktX6_updatesLeft_0 32 rfl) rfl (b := 63) rfl) ?_
          refine rc_p (p_bipush (v := 100) (dk_at ktX6_updatesLeft_0 33 rfl) (by decide) (b := 65) rfl) ?_
          refine rc_p (p_isub (v := (v8 - 100)) (dk_at ktX6_updatesLeft_0 34 rfl) rfl (b := 66) rfl) ?_
          refine rc_p (p_goto (b := 70) (dk_at ktX6_updatesLeft_0 35 rfl) (by decide)) ?_
          refine r_iret (dk_at ktX6_updatesLeft_0 37 rfl) rfl rfl ⟨_, rfl, ?_⟩
          refine ⟨cIn_t ok4, ?_, rfl, (FB.tr (FB.tr hFz (fun b hb => up2_off (by omega))) (FD.fb hF12 (by decide) (by omega)))⟩
          exact (ul_a0 hI hz4 (h0 c58) (show ¬ 0 ≤ (fUpd (nI q) false (upd τ 4 (nI (nS σ)))).1 by rw [eq13]; exact c54)).trans (congrArg (· - 100) eq13)
  refine rc_p (p_aload_n 0 (dk_at ktX6_updatesLeft_0 2 rfl) rfl rfl (b := 5) rfl) ?_
  refine rc_p (p_iconst (v := (-1)) (dk_at ktX6_updatesLeft_0 3 rfl) (by decide) (b := 6) rfl) ?_
  refine r_vV (As' := [.int (-1)]) (rest := []) (s_X6_prepareTrial hB hR hI (-1)) cw_X6_213 qi_X6_prepareTrial qv_X6_prepareTrial rfl hB.l0 hB.s0 (dk_at ktX6_updatesLeft_0 4 rfl) rfl rfl (Nat.le_of_ble_eq_true rfl) (by decide) (b := 9) rfl (fun I32 J33 q34 => ?_)
  obtain ⟨rfl, hR36, hF37⟩ := q34
  refine rc_p (p_iconst (v := 0) (dk_at ktX6_updatesLeft_0 5 rfl) (by decide) (b := 10) rfl) ?_
  refine rc_p (p_istore_n (ls' := [(2, .int 0), (0, .ref bx), (1, .int (nI q))]) (dk_at ktX6_updatesLeft_0 6 rfl) rfl (by decide) rfl (b := 11) rfl) ?_
  exact cut11 100 0 I32 _ T (FB.tr FB.rf hF37) hR36 (Inv.pm hI) upd_s (upd_n (by decide)) (by omega) (by omega) (by omega) (fun _ => rfl) (Or.inl rfl) (fun he => ul_st hI he)

/-! THE CLASS: predictions (d: the trial device, o: the main one) -/
set_option maxRecDepth 4000 in
set_option maxHeartbeats 4000000 in
theorem s_X6_prepareTrial {n : Nat} {sh : mS} {G : mG} {I : mI} {J : mJ} {bx bt o d bf bg b0 b1 bv : Nat} {σ : sT} {T N : Nat} (hB : BootH n sh G bx bt o d bf bg b0 b1 bv) (hR : RelD o I σ T N) (hI : Inv σ) (p : Int32) : Sp yX6_prepareTrial cX6_prepareTrial 2 none 4 165 0 0 [.ref bx, .int p] n sh G I J (Qv (fun I_ J_ => J = J_ ∧ RelD d I_ (upd σ 6 p) T N ∧ FB d bg I I_)) (nX) := by
  have ho := hB.hD
  have hd := hB.hT
  have hord := hB.ord
  have hb := hI.bd
  have hNs := hR.2.2.2.1
  have hN61 := hR.2.2.2.2.1
  have hTm := hR.2.2.2.2.2
  refine Sp.of (by decide) (ls := [(0, .ref bx), (1, .int p)]) (fun _ => rfl) (fun _ => Nat.le_of_ble_eq_true rfl) ?_
  refine rc_p (p_aload_n 0 (dk_at ktX6_prepareTrial_0 0 rfl) rfl rfl (b := 1) rfl) ?_
  refine r_geta fl_X6_31 rfl hB.l0 hB.s0 (dk_at ktX6_prepareTrial_0 1 rfl) hB.g0_2 (b := 4) rfl ?_
  refine rc_p (p_aload_n 0 (dk_at ktX6_prepareTrial_0 2 rfl) rfl rfl (b := 5) rfl) ?_
  refine r_geta fl_X6_27 rfl hB.l0 hB.s0 (dk_at ktX6_prepareTrial_0 3 rfl) hB.g0_1 (b := 8) rfl ?_
  refine r_vV (As' := [.ref o]) (rest := []) (s_X0_copyFrom hd ho (by omega) hR) cw_X6_238 qi_X0_copyFrom qv_X0_copyFrom rfl hd.l0 hd.s0 (dk_at ktX6_prepareTrial_0 4 rfl) rfl rfl (Nat.le_of_ble_eq_true rfl) (by decide) (b := 11) rfl (fun I1 J2 q3 => ?_)
  obtain ⟨rfl, hR5, hF6⟩ := q3
  refine rc_p (p_aload_n 0 (dk_at ktX6_prepareTrial_0 5 rfl) rfl rfl (b := 12) rfl) ?_
  refine r_geta fl_X6_31 rfl hB.l0 hB.s0 (dk_at ktX6_prepareTrial_0 6 rfl) hB.g0_2 (b := 15) rfl ?_
  refine r_geta fl_X6_57 rfl hd.l0 hd.s0 (dk_at ktX6_prepareTrial_0 7 rfl) hd.g0_0 (b := 18) rfl ?_
  refine rc_p (p_iload_n 1 (dk_at ktX6_prepareTrial_0 8 rfl) rfl rfl (b := 19) rfl) ?_
  refine r_puti fl_X6_102 fw_X1_7 rfl (hd.lt 1 (by decide)) hd.s1 rfl rfl (dk_at ktX6_prepareTrial_0 9 rfl) (b := 22) rfl ?_
  refine r_vret (dk_at ktX6_prepareTrial_0 10 rfl) rfl ⟨rfl, ?_⟩
  exact ⟨rfl, (hR5.set (o := 1) (k := 7) (a := 6) lc_1_7 (by omega) (by omega) (fun q => absurd q (by omega))), fun b hb => (up2_off (by omega)).trans (hF6 b (by omega))⟩
set_option maxRecDepth 4000 in
set_option maxHeartbeats 4000000 in
theorem s_X6_bootWould {n : Nat} {sh : mS} {G : mG} {I : mI} {J : mJ} {bx bt o d bf bg b0 b1 bv : Nat} {σ : sT} {T N : Nat} (hB : BootH n sh G bx bt o d bf bg b0 b1 bv) (hR : RelD o I σ T N) (hI : Inv σ) (hT : T + 6 < 1000000)  : Sp yX6_bootWould cX6_bootWould 1 (some FieldType.int) 7 236 0 0 [.ref bx] n sh G I J (Qi (fun r_ I_ J_ => (fBoot (upd σ 6 (-1))).1 = r_ ∧ J = J_ ∧ FB d bg I I_)) (nX) := by
  have ho := hB.hD
  have hd := hB.hT
  have hord := hB.ord
  have hb := hI.bd
  have hNs := hR.2.2.2.1
  have hN61 := hR.2.2.2.2.1
  have hTm := hR.2.2.2.2.2
  refine Sp.of (by decide) (ls := [(0, .ref bx)]) (fun _ => rfl) (fun _ => Nat.le_of_ble_eq_true rfl) ?_
  refine rc_p (p_aload_n 0 (dk_at ktX6_bootWould_0 0 rfl) rfl rfl (b := 1) rfl) ?_
  refine rc_p (p_iconst (v := (-1)) (dk_at ktX6_bootWould_0 1 rfl) (by decide) (b := 2) rfl) ?_
  refine r_vV (As' := [.int (-1)]) (rest := []) (s_X6_prepareTrial hB hR hI (-1)) cw_X6_213 qi_X6_prepareTrial qv_X6_prepareTrial rfl hB.l0 hB.s0 (dk_at ktX6_bootWould_0 2 rfl) rfl rfl (Nat.le_of_ble_eq_true rfl) (by decide) (b := 5) rfl (fun I1 J2 q3 => ?_)
  obtain ⟨rfl, hR5, hF6⟩ := q3
  refine rc_p (p_aload_n 0 (dk_at ktX6_bootWould_0 3 rfl) rfl rfl (b := 6) rfl) ?_
  refine r_geta fl_X6_31 rfl hB.l0 hB.s0 (dk_at ktX6_bootWould_0 4 rfl) hB.g0_2 (b := 9) rfl ?_
  refine r_iV (As' := []) (rest := []) (s_X0_startUp hd (σ := (upd σ 6 (-1))) hR5 (Inv.pm hI) (by omega)) cw_X6_105 qi_X0_startUp qv_X0_startUp rfl hd.l0 hd.s0 (dk_at ktX6_bootWould_0 5 rfl) rfl rfl (Nat.le_of_ble_eq_true rfl) (by decide) (b := 12) rfl (fun v10 I7 J8 q9 => ?_)
  obtain ⟨eq15, rfl, ⟨T11, hT12, hR13⟩, hF14⟩ := q9
  refine r_iret (dk_at ktX6_bootWould_0 6 rfl) rfl rfl ⟨_, rfl, ?_⟩
  refine ⟨?_, rfl, (FB.tr (FB.tr FB.rf hF6) (FD.fb hF14 (by decide) (by omega)))⟩
  exact eq15
set_option maxRecDepth 4000 in
set_option maxHeartbeats 4000000 in
theorem s_X6_bootOperations {n : Nat} {sh : mS} {G : mG} {I : mI} {J : mJ} {bx bt o d bf bg b0 b1 bv : Nat} {σ : sT} {T N : Nat} (hB : BootH n sh G bx bt o d bf bg b0 b1 bv) (hR : RelD o I σ T N) (hI : Inv σ) (hT : T + 6 < 1000000)  : Sp yX6_bootOperations cX6_bootOperations 1 (some FieldType.int) 7 236 0 0 [.ref bx] n sh G I J (Qi (fun r_ I_ J_ => a_bop σ = r_ ∧ J = J_ ∧ FB d bg I I_)) (nX) := by
  have ho := hB.hD
  have hd := hB.hT
  have hord := hB.ord
  have hb := hI.bd
  have hNs := hR.2.2.2.1
  have hN61 := hR.2.2.2.2.1
  have hTm := hR.2.2.2.2.2
  refine Sp.of (by decide) (ls := [(0, .ref bx)]) (fun _ => rfl) (fun _ => Nat.le_of_ble_eq_true rfl) ?_
  refine rc_p (p_aload_n 0 (dk_at ktX6_bootOperations_0 0 rfl) rfl rfl (b := 1) rfl) ?_
  refine rc_p (p_iconst (v := (-1)) (dk_at ktX6_bootOperations_0 1 rfl) (by decide) (b := 2) rfl) ?_
  refine r_vV (As' := [.int (-1)]) (rest := []) (s_X6_prepareTrial hB hR hI (-1)) cw_X6_213 qi_X6_prepareTrial qv_X6_prepareTrial rfl hB.l0 hB.s0 (dk_at ktX6_bootOperations_0 2 rfl) rfl rfl (Nat.le_of_ble_eq_true rfl) (by decide) (b := 5) rfl (fun I1 J2 q3 => ?_)
  obtain ⟨rfl, hR5, hF6⟩ := q3
  refine rc_p (p_aload_n 0 (dk_at ktX6_bootOperations_0 3 rfl) rfl rfl (b := 6) rfl) ?_
  refine r_geta fl_X6_31 rfl hB.l0 hB.s0 (dk_at ktX6_bootOperations_0 4 rfl) hB.g0_2 (b := 9) rfl ?_
  refine r_iV (As' := []) (rest := []) (s_X0_startUp hd (σ := (upd σ 6 (-1))) hR5 (Inv.pm hI) (by omega)) cw_X6_105 qi_X0_startUp qv_X0_startUp rfl hd.l0 hd.s0 (dk_at ktX6_bootOperations_0 5 rfl) rfl rfl (Nat.le_of_ble_eq_true rfl) (by decide) (b := 12) rfl (fun v10 I7 J8 q9 => ?_)
  obtain ⟨eq15, rfl, ⟨T11, hT12, hR13⟩, hF14⟩ := q9
  refine rc_p (p_pop (dk_at ktX6_bootOperations_0 6 rfl) rfl (b := 13) rfl) ?_
  refine rc_p (p_aload_n 0 (dk_at ktX6_bootOperations_0 7 rfl) rfl rfl (b := 14) rfl) ?_
  refine r_geta fl_X6_31 rfl hB.l0 hB.s0 (dk_at ktX6_bootOperations_0 8 rfl) hB.g0_2 (b := 17) rfl ?_
  refine r_geta fl_X6_57 rfl hd.l0 hd.s0 (dk_at ktX6_bootOperations_0 9 rfl) hd.g0_0 (b := 20) rfl ?_
  refine r_geti fl_X6_159 rfl (hd.lt 1 (by decide)) hd.s1 (dk_at ktX6_bootOperations_0 10 rfl) (v := (((fBoot (upd σ 6 (-1))).2) 9)) (hR13.1 1 8 9 lc_1_8) (b := 23) rfl ?_
  refine rc_p (p_aload_n 0 (dk_at ktX6_bootOperations_0 11 rfl) rfl rfl (b := 24) rfl) ?_
  refine r_geta fl_X6_27 rfl hB.l0 hB.s0 (dk_at ktX6_bootOperations_0 12 rfl) hB.g0_1 (b := 27) rfl ?_
  refine r_geta fl_X6_57 rfl ho.l0 ho.s0 (dk_at ktX6_bootOperations_0 13 rfl) ho.g0_0 (b := 30) rfl ?_
  refine r_geti fl_X6_159 rfl (ho.lt 1 (by decide)) ho.s1 (dk_at ktX6_bootOperations_0 14 rfl) (v := (σ 9)) ((congrFun ((FB.tr (FB.tr FB.rf hF6) (FD.fb hF14 (by decide) (by omega))) _ (by omega)) 8).trans (hR.1 1 8 9 lc_1_8)) (b := 33) rfl ?_
  refine rc_p (p_isub (v := ((((fBoot (upd σ 6 (-1))).2) 9) - (σ 9))) (dk_at ktX6_bootOperations_0 15 rfl) rfl (b := 34) rfl) ?_
  refine r_iret (dk_at ktX6_bootOperations_0 16 rfl) rfl rfl ⟨_, rfl, ?_⟩
  refine ⟨?_, rfl, (FB.tr (FB.tr FB.rf hF6) (FD.fb hF14 (by decide) (by omega)))⟩
  rfl
set_option maxRecDepth 4000 in
set_option maxHeartbeats 4000000 in
theorem s_X6_updateOperations {n : Nat} {sh : mS} {G : mG} {I : mI} {J : mJ} {bx bt o d bf bg b0 b1 bv : Nat} {σ : sT} {T N : Nat} (hB : BootH n sh G bx bt o d bf bg b0 b1 bv) (hR : RelD o I σ T N) (hI : Inv σ) (hT : T + 4 < 1000000) (v : Int32) : Sp yX6_updateOperations cX6_updateOperations 2 (some FieldType.int) 8 330 1 6 [.ref bx, .int v] n sh G I J (Qi (fun r_ I_ J_ => cIn v 1 255 = 0 ∧ (fUpd v false (upd σ 6 (-1))).1 = r_ ∧ J = J_ ∧ FB d bg I I_)) (eX (cIn v 1 255) I J) := by
  have ho := hB.hD
  have hd := hB.hT
  have hord := hB.ord
  have hb := hI.bd
  have hNs := hR.2.2.2.1
  have hN61 := hR.2.2.2.2.1
  have hTm := hR.2.2.2.2.2
  refine Sp.of (by decide) (ls := [(0, .ref bx), (1, .int v)]) (fun _ => rfl) (fun _ => Nat.le_of_ble_eq_true rfl) ?_
  refine rc_p (p_iload_n 1 (dk_at ktX6_updateOperations_0 0 rfl) rfl rfl (b := 1) rfl) ?_
  refine r_vSX (As := [.int v]) (rest := []) (s_X6_requireVersion v) cw_X6_117 qs_X6_requireVersion (dk_at ktX6_updateOperations_0 1 rfl) rfl rfl (Nat.le_of_ble_eq_true rfl) (by decide) (b := 4) rfl (fun _ _ _ h => ⟨Or.inl ⟨h.1, cIn_f h.2.1⟩, h.2.2⟩) (fun I1 J2 hq3 => ?_)
  obtain ⟨ok4, rfl, rfl⟩ := hq3
  obtain ⟨r, hr, rfl⟩ := vs_ok ok4
  refine rc_p (p_aload_n 0 (dk_at ktX6_updateOperations_0 2 rfl) rfl rfl (b := 5) rfl) ?_
  refine rc_p (p_iconst (v := (-1)) (dk_at ktX6_updateOperations_0 3 rfl) (by decide) (b := 6) rfl) ?_
  refine r_vV (As' := [.int (-1)]) (rest := []) (s_X6_prepareTrial hB hR hI (-1)) cw_X6_213 qi_X6_prepareTrial qv_X6_prepareTrial rfl hB.l0 hB.s0 (dk_at ktX6_updateOperations_0 4 rfl) rfl rfl (Nat.le_of_ble_eq_true rfl) (by decide) (b := 9) rfl (fun I5 J6 q7 => ?_)
  obtain ⟨rfl, hR9, hF10⟩ := q7
  refine rc_p (p_aload_n 0 (dk_at ktX6_updateOperations_0 5 rfl) rfl rfl (b := 10) rfl) ?_
  refine r_geta fl_X6_31 rfl hB.l0 hB.s0 (dk_at ktX6_updateOperations_0 6 rfl) hB.g0_2 (b := 13) rfl ?_
  refine rc_p (p_iload_n 1 (dk_at ktX6_updateOperations_0 7 rfl) rfl rfl (b := 14) rfl) ?_
  refine rc_p (p_iconst (v := 0) (dk_at ktX6_updateOperations_0 8 rfl) (by decide) (b := 15) rfl) ?_
  refine r_iV (As' := [.int (nI r), .int 0]) (rest := []) (s_X0_updateOther hd (σ := (upd σ 6 (-1))) hR9 (Inv.pm hI) (by omega) r (by omega) false) cw_X6_121 qi_X0_updateOther qv_X0_updateOther rfl hd.l0 hd.s0 (dk_at ktX6_updateOperations_0 9 rfl) rfl rfl (Nat.le_of_ble_eq_true rfl) (by decide) (b := 18) rfl (fun v14 I11 J12 q13 => ?_)
  obtain ⟨eq19, rfl, ⟨T15, hT16, hR17⟩, hF18⟩ := q13
  refine r_iret (dk_at ktX6_updateOperations_0 10 rfl) rfl rfl ⟨_, rfl, ?_⟩
  exact ⟨cIn_t ok4, eq19, rfl, (FB.tr (FB.tr FB.rf hF10) (FD.fb hF18 (by decide) (by omega)))⟩
set_option maxRecDepth 4000 in
set_option maxHeartbeats 4000000 in
theorem s_X6_thriftyOperations {n : Nat} {sh : mS} {G : mG} {I : mI} {J : mJ} {bx bt o d bf bg b0 b1 bv : Nat} {σ : sT} {T N : Nat} (hB : BootH n sh G bx bt o d bf bg b0 b1 bv) (hR : RelD o I σ T N) (hI : Inv σ) (hT : T + 4 < 1000000) (v : Int32) : Sp yX6_thriftyOperations cX6_thriftyOperations 2 (some FieldType.int) 8 330 1 6 [.ref bx, .int v] n sh G I J (Qi (fun r_ I_ J_ => cIn v 1 255 = 0 ∧ (fUpd v true (upd σ 6 (-1))).1 = r_ ∧ J = J_ ∧ FB d bg I I_)) (eX (cIn v 1 255) I J) := by
  have ho := hB.hD
  have hd := hB.hT
  have hord := hB.ord
  have hb := hI.bd
  have hNs := hR.2.2.2.1
  have hN61 := hR.2.2.2.2.1
  have hTm := hR.2.2.2.2.2
  refine Sp.of (by decide) (ls := [(0, .ref bx), (1, .int v)]) (fun _ => rfl) (fun _ => Nat.le_of_ble_eq_true rfl) ?_
  refine rc_p (p_iload_n 1 (dk_at ktX6_thriftyOperations_0 0 rfl) rfl rfl (b := 1) rfl) ?_
  refine r_vSX (As := [.int v]) (rest := []) (s_X6_requireVersion v) cw_X6_117 qs_X6_requireVersion (dk_at ktX6_thriftyOperations_0 1 rfl) rfl rfl (Nat.le_of_ble_eq_true rfl) (by decide) (b := 4) rfl (fun _ _ _ h => ⟨Or.inl ⟨h.1, cIn_f h.2.1⟩, h.2.2⟩) (fun I1 J2 hq3 => ?_)
  obtain ⟨ok4, rfl, rfl⟩ := hq3
  obtain ⟨r, hr, rfl⟩ := vs_ok ok4
  refine rc_p (p_aload_n 0 (dk_at ktX6_thriftyOperations_0 2 rfl) rfl rfl (b := 5) rfl) ?_
  refine rc_p (p_iconst (v := (-1)) (dk_at ktX6_thriftyOperations_0 3 rfl) (by decide) (b := 6) rfl) ?_
  refine r_vV (As' := [.int (-1)]) (rest := []) (s_X6_prepareTrial hB hR hI (-1)) cw_X6_213 qi_X6_prepareTrial qv_X6_prepareTrial rfl hB.l0 hB.s0 (dk_at ktX6_thriftyOperations_0 4 rfl) rfl rfl (Nat.le_of_ble_eq_true rfl) (by decide) (b := 9) rfl (fun I5 J6 q7 => ?_)
  obtain ⟨rfl, hR9, hF10⟩ := q7
  refine rc_p (p_aload_n 0 (dk_at ktX6_thriftyOperations_0 5 rfl) rfl rfl (b := 10) rfl) ?_
  refine r_geta fl_X6_31 rfl hB.l0 hB.s0 (dk_at ktX6_thriftyOperations_0 6 rfl) hB.g0_2 (b := 13) rfl ?_
  refine rc_p (p_iload_n 1 (dk_at ktX6_thriftyOperations_0 7 rfl) rfl rfl (b := 14) rfl) ?_
  refine rc_p (p_iconst (v := 1) (dk_at ktX6_thriftyOperations_0 8 rfl) (by decide) (b := 15) rfl) ?_
  refine r_iV (As' := [.int (nI r), .int 1]) (rest := []) (s_X0_updateOther hd (σ := (upd σ 6 (-1))) hR9 (Inv.pm hI) (by omega) r (by omega) true) cw_X6_121 qi_X0_updateOther qv_X0_updateOther rfl hd.l0 hd.s0 (dk_at ktX6_thriftyOperations_0 9 rfl) rfl rfl (Nat.le_of_ble_eq_true rfl) (by decide) (b := 18) rfl (fun v14 I11 J12 q13 => ?_)
  obtain ⟨eq19, rfl, ⟨T15, hT16, hR17⟩, hF18⟩ := q13
  refine r_iret (dk_at ktX6_thriftyOperations_0 10 rfl) rfl rfl ⟨_, rfl, ?_⟩
  exact ⟨cIn_t ok4, eq19, rfl, (FB.tr (FB.tr FB.rf hF10) (FD.fb hF18 (by decide) (by omega)))⟩

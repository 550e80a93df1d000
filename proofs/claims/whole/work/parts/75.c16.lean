/-! THE CLASS: predictions (d: the trial device, o: the main one) -/
set_option maxRecDepth 4000 in
set_option maxHeartbeats 4000000 in
theorem s_X6_prepareTrial {n : Nat} {sh : mS} {G : mG} {I : mI} {J : mJ} {bx bt o d bf bg b0 b1 bv : Nat} {σ : sT} {T N : Nat} (hB : BootH n sh G bx bt o d bf bg b0 b1 bv) (hR : RelD o I σ T N) (hI : Inv σ) (p : Int32) : Sp yX6_prepareTrial cX6_prepareTrial 2 none 7 336 0 0 [.ref bx, .int p] n sh G I J (Qv (fun I_ J_ => J = J_ ∧ RelD d I_ (upd σ 6 p) T N ∧ FB d bg I I_)) (nX) := by
  have ho := hB.hD
  have hd := hB.hT
  have hord := hB.ord
  have hb := hI.bd
  have hNs := hR.2.2.2.1
  have hN61 := hR.2.2.2.2.1
  have hTm := hR.2.2.2.2.2
  refine Sp.of (by decide) (ls := [(0, .ref bx), (1, .int p)]) (fun _ => rfl) (fun _ => Nat.le_of_ble_eq_true rfl) ?_
  refine rc_p (p_aload_n 0 (dk_at ktX6_prepareTrial_0 0 rfl) rfl rfl (b := 1) rfl) ?_
  refine r_geta fl_X6_31 rfl hB.l0 hB.s0 (dk_at ktX6_prepareTrial_0 1 rfl) hB.g0_2 (b := 4) rfl ?_
  refine rc_p (p_aload_n 0 (dk_at ktX6_prepareTrial_0 2 rfl) rfl rfl (b := 5) rfl) ?_
  refine r_geta fl_X6_27 rfl hB.l0 hB.s0 (dk_at ktX6_prepareTrial_0 3 rfl) hB.g0_1 (b := 8) rfl ?_
  refine r_vV (As' := [.ref o]) (rest := []) (s_X0_copyFrom hd ho (by omega) hR) cw_X6_238 qi_X0_copyFrom qv_X0_copyFrom rfl hd.l0 hd.s0 (dk_at ktX6_prepareTrial_0 4 rfl) rfl rfl (Nat.le_of_ble_eq_true rfl) (by decide) (b := 11) rfl (fun I1 J2 q3 => ?_)
  obtain ⟨rfl, hR5, hF6⟩ := q3
  refine rc_p (p_aload_n 0 (dk_at ktX6_prepareTrial_0 5 rfl) rfl rfl (b := 12) rfl) ?_
  refine r_geta fl_X6_31 rfl hB.l0 hB.s0 (dk_at ktX6_prepareTrial_0 6 rfl) hB.g0_2 (b := 15) rfl ?_
  refine r_geta fl_X6_57 rfl hd.l0 hd.s0 (dk_at ktX6_prepareTrial_0 7 rfl) hd.g0_0 (b := 18) rfl ?_
  refine rc_p (p_iload_n 1 (dk_at ktX6_prepareTrial_0 8 rfl) rfl rfl (b := 19) rfl) ?_
  refine r_puti fl_X6_102 fw_X1_7 rfl (hd.lt 1 (by decide)) hd.s1 rfl rfl (dk_at ktX6_prepareTrial_0 9 rfl) (b := 22) rfl ?_
  refine r_vret (dk_at ktX6_prepareTrial_0 10 rfl) rfl ⟨rfl, ?_⟩
  exact ⟨rfl, (hR5.set (o := 1) (k := 7) (a := 6) lc_1_7 (by omega) (by omega) (fun q => absurd q (by omega))), fun b hb => (up2_off (by omega)).trans (hF6 b (by omega))⟩
set_option maxRecDepth 4000 in
set_option maxHeartbeats 4000000 in
theorem s_X6_bootWould {n : Nat} {sh : mS} {G : mG} {I : mI} {J : mJ} {bx bt o d bf bg b0 b1 bv : Nat} {σ : sT} {T N : Nat} (hB : BootH n sh G bx bt o d bf bg b0 b1 bv) (hR : RelD o I σ T N) (hI : Inv σ) (hT : T + 6 < 1000000)  : Sp yX6_bootWould cX6_bootWould 1 (some FieldType.int) 11 528 0 0 [.ref bx] n sh G I J (Qi (fun r_ I_ J_ => (fBoot (upd σ 6 (-1))).1 = r_ ∧ J = J_ ∧ FB d bg I I_)) (nX) := by
  have ho := hB.hD
  have hd := hB.hT
  have hord := hB.ord
  have hb := hI.bd
  have hNs := hR.2.2.2.1
  have hN61 := hR.2.2.2.2.1
  have hTm := hR.2.2.2.2.2
  refine Sp.of (by decide) (ls := [(0, .ref bx)]) (fun _ => rfl) (fun _ => Nat.le_of_ble_eq_true rfl) ?_
  refine rc_p (p_aload_n 0 (dk_at ktX6_bootWould_0 0 rfl) rfl rfl (b := 1) rfl) ?_
  refine rc_p (p_iconst (v := (-1)) (dk_at ktX6_bootWould_0 1 rfl) (by decide) (b := 2) rfl) ?_
  refine r_vV (As' := [.int (-1)]) (rest := []) (s_X6_prepareTrial hB hR hI (-1)) cw_X6_213 qi_X6_prepareTrial qv_X6_prepareTrial rfl hB.l0 hB.s0 (dk_at ktX6_bootWould_0 2 rfl) rfl rfl (Nat.le_of_ble_eq_true rfl) (by decide) (b := 5) rfl (fun I1 J2 q3 => ?_)
  obtain ⟨rfl, hR5, hF6⟩ := q3
  refine rc_p (p_aload_n 0 (dk_at ktX6_bootWould_0 3 rfl) rfl rfl (b := 6) rfl) ?_
  refine r_geta fl_X6_31 rfl hB.l0 hB.s0 (dk_at ktX6_bootWould_0 4 rfl) hB.g0_2 (b := 9) rfl ?_
  refine r_iV (As' := []) (rest := []) (s_X0_startUp hd (σ := (upd σ 6 (-1))) hR5 (Inv.pm hI) (by omega)) cw_X6_105 qi_X0_startUp qv_X0_startUp rfl hd.l0 hd.s0 (dk_at ktX6_bootWould_0 5 rfl) rfl rfl (Nat.le_of_ble_eq_true rfl) (by decide) (b := 12) rfl (fun v10 I7 J8 q9 => ?_)
  obtain ⟨eq15, rfl, ⟨T11, hT12, hR13⟩, hF14⟩ := q9
  refine r_iret (dk_at ktX6_bootWould_0 6 rfl) rfl rfl ⟨_, rfl, ?_⟩
  refine ⟨?_, rfl, (FB.tr (FB.tr FB.rf hF6) (FD.fb hF14 (by decide) (by omega)))⟩
  exact eq15

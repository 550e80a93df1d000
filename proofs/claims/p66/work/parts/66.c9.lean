/-! THE CLASS: its calls -/
set_option maxRecDepth 4000 in
set_option maxHeartbeats 4000000 in
theorem s_X6_readLedger {n : Nat} {sh : mS} {G : mG} {I : mI} {J : mJ} {bx bt d be bf bg b0 b1 bv : Nat} {σ : sT} {T N : Nat} (hB : BootH n sh G bx bt d be bf bg b0 b1 bv) (hR : RelD d I σ T N) (hI : Inv σ)  : Sp yX6_readLedger cX6_readLedger 1 (some (FieldType.object "TwinBoot$Ledger")) 4 168 0 0 [.ref bx] n sh G I J (Qr (fun a_ I_ J_ => d + 16 = a_ ∧ J = J_ ∧ RelD d I_ σ T N ∧ LedR d I_ σ ∧ FD d [16] I I_)) (nX) := by
  have hd := hB.hD
  have hord := hB.ord
  have hb := hI.bd
  have hNs := hR.2.2.2.1
  have hN61 := hR.2.2.2.2.1
  have hTm := hR.2.2.2.2.2
  refine Sp.of (by decide) (ls := [(0, .ref bx)]) (fun _ => rfl) (fun _ => Nat.le_of_ble_eq_true rfl) ?_
  refine rc_p (p_aload_n 0 (dk_at ktX6_readLedger_0 0 rfl) rfl rfl (b := 1) rfl) ?_
  refine r_geta fl_X6_27 rfl hB.l0 hB.s0 (dk_at ktX6_readLedger_0 1 rfl) hB.g0_1 (b := 4) rfl ?_
  refine r_geta fl_X6_242 rfl hd.l0 hd.s0 (dk_at ktX6_readLedger_0 2 rfl) hd.g0_2 (b := 7) rfl ?_
  refine rc_p (p_aload_n 0 (dk_at ktX6_readLedger_0 3 rfl) rfl rfl (b := 8) rfl) ?_
  refine r_geta fl_X6_27 rfl hB.l0 hB.s0 (dk_at ktX6_readLedger_0 4 rfl) hB.g0_1 (b := 11) rfl ?_
  refine r_geta fl_X6_57 rfl hd.l0 hd.s0 (dk_at ktX6_readLedger_0 5 rfl) hd.g0_0 (b := 14) rfl ?_
  refine r_vV (As' := [.ref (d + 1)]) (rest := []) (s_X2_readFrom hd (σ := σ) hR hI) cw_X6_246 qi_X2_readFrom qv_X2_readFrom rfl (hd.lt 16 (by decide)) hd.s16 (dk_at ktX6_readLedger_0 6 rfl) rfl rfl (Nat.le_of_ble_eq_true rfl) (by decide) (b := 17) rfl (fun I1 J2 q3 => ?_)
  obtain ⟨rfl, hR5, hL7, hF6⟩ := q3
  refine rc_p (p_aload_n 0 (dk_at ktX6_readLedger_0 7 rfl) rfl rfl (b := 18) rfl) ?_
  refine r_geta fl_X6_27 rfl hB.l0 hB.s0 (dk_at ktX6_readLedger_0 8 rfl) hB.g0_1 (b := 21) rfl ?_
  refine r_geta fl_X6_242 rfl hd.l0 hd.s0 (dk_at ktX6_readLedger_0 9 rfl) hd.g0_2 (b := 24) rfl ?_
  refine r_aret (dk_at ktX6_readLedger_0 10 rfl) rfl (by first | exact Or.inl ⟨_, rfl⟩ | exact Or.inr ⟨_, rfl⟩) ⟨_, rfl, ?_⟩
  exact ⟨rfl, rfl, hR5, hL7, hF6⟩
set_option maxRecDepth 4000 in
set_option maxHeartbeats 4000000 in
theorem s_X6_power {n : Nat} {sh : mS} {G : mG} {I : mI} {J : mJ} {bx bt d be bf bg b0 b1 bv : Nat} {σ : sT} {T N : Nat} (hB : BootH n sh G bx bt d be bf bg b0 b1 bv) (hR : RelD d I σ T N) (hI : Inv σ)  : Sp yX6_power cX6_power 1 (some FieldType.int) 1 48 0 0 [.ref bx] n sh G I J (Qi (fun r_ I_ J_ => σ 6 = r_ ∧ J = J_ ∧ RelN d I_ (σ) (T + 0) ∧ FB d bg I I_)) (nX) := by
  have hd := hB.hD
  have hord := hB.ord
  have hb := hI.bd
  have hNs := hR.2.2.2.1
  have hN61 := hR.2.2.2.2.1
  have hTm := hR.2.2.2.2.2
  refine Sp.of (by decide) (ls := [(0, .ref bx)]) (fun _ => rfl) (fun _ => Nat.le_of_ble_eq_true rfl) ?_
  refine rc_p (p_aload_n 0 (dk_at ktX6_power_0 0 rfl) rfl rfl (b := 1) rfl) ?_
  refine r_geta fl_X6_27 rfl hB.l0 hB.s0 (dk_at ktX6_power_0 1 rfl) hB.g0_1 (b := 4) rfl ?_
  refine r_geta fl_X6_57 rfl hd.l0 hd.s0 (dk_at ktX6_power_0 2 rfl) hd.g0_0 (b := 7) rfl ?_
  refine r_geti fl_X6_102 rfl (hd.lt 1 (by decide)) hd.s1 (dk_at ktX6_power_0 3 rfl) (v := (σ 6)) (hR.1 1 7 6 lc_1_7) (b := 10) rfl ?_
  refine r_iret (dk_at ktX6_power_0 4 rfl) rfl rfl ⟨_, rfl, ?_⟩
  refine ⟨?_, rfl, RelN.of hR (by omega), FB.rf⟩
  rfl
set_option maxRecDepth 4000 in
set_option maxHeartbeats 4000000 in
theorem s_X6_running {n : Nat} {sh : mS} {G : mG} {I : mI} {J : mJ} {bx bt d be bf bg b0 b1 bv : Nat} {σ : sT} {T N : Nat} (hB : BootH n sh G bx bt d be bf bg b0 b1 bv) (hR : RelD d I σ T N) (hI : Inv σ)  : Sp yX6_running cX6_running 1 (some FieldType.int) 1 48 0 0 [.ref bx] n sh G I J (Qi (fun r_ I_ J_ => σ 8 = r_ ∧ J = J_ ∧ RelN d I_ (σ) (T + 0) ∧ FB d bg I I_)) (nX) := by
  have hd := hB.hD
  have hord := hB.ord
  have hb := hI.bd
  have hNs := hR.2.2.2.1
  have hN61 := hR.2.2.2.2.1
  have hTm := hR.2.2.2.2.2
  refine Sp.of (by decide) (ls := [(0, .ref bx)]) (fun _ => rfl) (fun _ => Nat.le_of_ble_eq_true rfl) ?_
  refine rc_p (p_aload_n 0 (dk_at ktX6_running_0 0 rfl) rfl rfl (b := 1) rfl) ?_
  refine r_geta fl_X6_27 rfl hB.l0 hB.s0 (dk_at ktX6_running_0 1 rfl) hB.g0_1 (b := 4) rfl ?_
  refine r_geti fl_X6_108 rfl hd.l0 hd.s0 (dk_at ktX6_running_0 2 rfl) (v := (σ 8)) (hR.1 0 8 8 lc_0_8) (b := 7) rfl ?_
  refine r_iret (dk_at ktX6_running_0 3 rfl) rfl rfl ⟨_, rfl, ?_⟩
  refine ⟨?_, rfl, RelN.of hR (by omega), FB.rf⟩
  rfl
set_option maxRecDepth 4000 in
set_option maxHeartbeats 4000000 in
theorem s_X6_state {n : Nat} {sh : mS} {G : mG} {I : mI} {J : mJ} {bx bt d be bf bg b0 b1 bv : Nat} {σ : sT} {T N : Nat} (hB : BootH n sh G bx bt d be bf bg b0 b1 bv) (hR : RelD d I σ T N) (hI : Inv σ)  : Sp yX6_state cX6_state 1 (some FieldType.int) 1 48 0 0 [.ref bx] n sh G I J (Qi (fun r_ I_ J_ => σ 7 = r_ ∧ J = J_ ∧ RelN d I_ (σ) (T + 0) ∧ FB d bg I I_)) (nX) := by
  have hd := hB.hD
  have hord := hB.ord
  have hb := hI.bd
  have hNs := hR.2.2.2.1
  have hN61 := hR.2.2.2.2.1
  have hTm := hR.2.2.2.2.2
  refine Sp.of (by decide) (ls := [(0, .ref bx)]) (fun _ => rfl) (fun _ => Nat.le_of_ble_eq_true rfl) ?_
  refine rc_p (p_aload_n 0 (dk_at ktX6_state_0 0 rfl) rfl rfl (b := 1) rfl) ?_
  refine r_geta fl_X6_27 rfl hB.l0 hB.s0 (dk_at ktX6_state_0 1 rfl) hB.g0_1 (b := 4) rfl ?_
  refine r_geti fl_X6_111 rfl hd.l0 hd.s0 (dk_at ktX6_state_0 2 rfl) (v := (σ 7)) (hR.1 0 7 7 lc_0_7) (b := 7) rfl ?_
  refine r_iret (dk_at ktX6_state_0 3 rfl) rfl rfl ⟨_, rfl, ?_⟩
  refine ⟨?_, rfl, RelN.of hR (by omega), FB.rf⟩
  rfl
set_option maxRecDepth 4000 in
set_option maxHeartbeats 4000000 in
theorem s_X6_operations {n : Nat} {sh : mS} {G : mG} {I : mI} {J : mJ} {bx bt d be bf bg b0 b1 bv : Nat} {σ : sT} {T N : Nat} (hB : BootH n sh G bx bt d be bf bg b0 b1 bv) (hR : RelD d I σ T N) (hI : Inv σ)  : Sp yX6_operations cX6_operations 1 (some FieldType.int) 1 48 0 0 [.ref bx] n sh G I J (Qi (fun r_ I_ J_ => σ 9 = r_ ∧ J = J_ ∧ RelN d I_ (σ) (T + 0) ∧ FB d bg I I_)) (nX) := by
  have hd := hB.hD
  have hord := hB.ord
  have hb := hI.bd
  have hNs := hR.2.2.2.1
  have hN61 := hR.2.2.2.2.1
  have hTm := hR.2.2.2.2.2
  refine Sp.of (by decide) (ls := [(0, .ref bx)]) (fun _ => rfl) (fun _ => Nat.le_of_ble_eq_true rfl) ?_
  refine rc_p (p_aload_n 0 (dk_at ktX6_operations_0 0 rfl) rfl rfl (b := 1) rfl) ?_
  refine r_geta fl_X6_27 rfl hB.l0 hB.s0 (dk_at ktX6_operations_0 1 rfl) hB.g0_1 (b := 4) rfl ?_
  refine r_geta fl_X6_57 rfl hd.l0 hd.s0 (dk_at ktX6_operations_0 2 rfl) hd.g0_0 (b := 7) rfl ?_
  refine r_geti fl_X6_159 rfl (hd.lt 1 (by decide)) hd.s1 (dk_at ktX6_operations_0 3 rfl) (v := (σ 9)) (hR.1 1 8 9 lc_1_8) (b := 10) rfl ?_
  refine r_iret (dk_at ktX6_operations_0 4 rfl) rfl rfl ⟨_, rfl, ?_⟩
  refine ⟨?_, rfl, RelN.of hR (by omega), FB.rf⟩
  rfl
set_option maxRecDepth 4000 in
set_option maxHeartbeats 4000000 in
theorem s_X3_size {n : Nat} {sh : mS} {G : mG} {I : mI} {J : mJ} {d : Nat} {σ : sT} {T N : Nat} (hd : DevG n sh G d) (hR : RelD d I σ T N) (hI : Inv σ)  : Sp yX3_size cX3_size 1 (some FieldType.int) 1 48 0 0 [.ref (d + 11)] n sh G I J (Qi (fun r_ I_ J_ => σ 10 = r_ ∧ I = I_ ∧ J = J_)) nX := by
  refine Sp.of (by decide) (ls := [(0, .ref (d + 11))]) (fun _ => rfl) (fun _ => Nat.le_of_ble_eq_true rfl) ?_
  refine rc_p (p_aload_n 0 (dk_at ktX3_size_0 0 rfl) rfl rfl (b := 1) rfl) ?_
  refine r_geti fl_X3_24 rfl (hd.lt 11 (by decide)) hd.s11 (dk_at ktX3_size_0 1 rfl) (v := (nI T)) hR.2.2.1.1 (b := 4) rfl ?_
  refine rc_p (p_bipush (v := 40) (dk_at ktX3_size_0 2 rfl) (by decide) (b := 6) rfl) ?_
  refine r_mmin (v := (if 40 < (nI T) then 40 else (nI T))) qm_X3_40 qmin_s qmath_n qmin_c (dk_at ktX3_size_0 3 rfl) ⟨by decide, Nat.le_of_ble_eq_true rfl⟩ rfl (b := 9) rfl ?_
  refine r_iret (dk_at ktX3_size_0 4 rfl) rfl rfl ⟨_, rfl, ?_⟩
  refine ⟨?_, rfl, rfl⟩
  rw [hI.w10, hR.2.2.1.2.1]
  exact (min40 (by have := hR.2.2.2.2.2; omega)).symm
set_option maxRecDepth 4000 in
set_option maxHeartbeats 4000000 in
theorem s_X6_logSize {n : Nat} {sh : mS} {G : mG} {I : mI} {J : mJ} {bx bt d be bf bg b0 b1 bv : Nat} {σ : sT} {T N : Nat} (hB : BootH n sh G bx bt d be bf bg b0 b1 bv) (hR : RelD d I σ T N) (hI : Inv σ)  : Sp yX6_logSize cX6_logSize 1 (some FieldType.int) 2 68 0 0 [.ref bx] n sh G I J (Qi (fun r_ I_ J_ => σ 10 = r_ ∧ J = J_ ∧ RelN d I_ (σ) (T + 0) ∧ FB d bg I I_)) (nX) := by
  have hd := hB.hD
  have hord := hB.ord
  have hb := hI.bd
  have hNs := hR.2.2.2.1
  have hN61 := hR.2.2.2.2.1
  have hTm := hR.2.2.2.2.2
  refine Sp.of (by decide) (ls := [(0, .ref bx)]) (fun _ => rfl) (fun _ => Nat.le_of_ble_eq_true rfl) ?_
  refine rc_p (p_aload_n 0 (dk_at ktX6_logSize_0 0 rfl) rfl rfl (b := 1) rfl) ?_
  refine r_geta fl_X6_27 rfl hB.l0 hB.s0 (dk_at ktX6_logSize_0 1 rfl) hB.g0_1 (b := 4) rfl ?_
  refine r_geta fl_X6_250 rfl hd.l0 hd.s0 (dk_at ktX6_logSize_0 2 rfl) hd.g0_1 (b := 7) rfl ?_
  refine r_iV (As' := []) (rest := []) (s_X3_size hd (σ := σ) hR hI) cw_X6_254 qi_X3_size qv_X3_size rfl (hd.lt 11 (by decide)) hd.s11 (dk_at ktX6_logSize_0 3 rfl) rfl rfl (Nat.le_of_ble_eq_true rfl) (by decide) (b := 10) rfl (fun v4 I1 J2 q3 => ?_)
  obtain ⟨rfl, rfl, rfl⟩ := q3
  refine r_val (y := nI (nL σ)) (hI).w10 ?_
  refine r_iret (dk_at ktX6_logSize_0 4 rfl) rfl rfl ⟨_, rfl, ?_⟩
  refine ⟨?_, rfl, RelN.of hR (by omega), FB.rf⟩
  exact hI.w10
set_option maxRecDepth 4000 in
set_option maxHeartbeats 4000000 in
theorem s_X6_activePage {n : Nat} {sh : mS} {G : mG} {I : mI} {J : mJ} {bx bt d be bf bg b0 b1 bv : Nat} {σ : sT} {T N : Nat} (hB : BootH n sh G bx bt d be bf bg b0 b1 bv) (hR : RelD d I σ T N) (hI : Inv σ)  : Sp yX6_activePage cX6_activePage 1 (some FieldType.int) 5 188 0 0 [.ref bx] n sh G I J (Qi (fun r_ I_ J_ => activeI σ = r_ ∧ J = J_ ∧ RelN d I_ (σ) (T + 0) ∧ FB d bg I I_)) (nX) := by
  have hd := hB.hD
  have hord := hB.ord
  have hb := hI.bd
  have hNs := hR.2.2.2.1
  have hN61 := hR.2.2.2.2.1
  have hTm := hR.2.2.2.2.2
  refine Sp.of (by decide) (ls := [(0, .ref bx)]) (fun _ => rfl) (fun _ => Nat.le_of_ble_eq_true rfl) ?_
  refine rc_p (p_aload_n 0 (dk_at ktX6_activePage_0 0 rfl) rfl rfl (b := 1) rfl) ?_
  refine r_rV (As' := []) (rest := []) (s_X6_readLedger hB (σ := σ) hR hI) cw_X6_162 qi_X6_readLedger qv_X6_readLedger rfl hB.l0 hB.s0 (dk_at ktX6_activePage_0 1 rfl) rfl rfl (Nat.le_of_ble_eq_true rfl) (by decide) (b := 4) rfl (fun v4 I1 J2 q3 => ?_)
  obtain ⟨rfl, rfl, hR5, hL7, hF6⟩ := q3
  refine r_geti fl_X6_185 rfl (hd.lt 16 (by decide)) hd.s16 (dk_at ktX6_activePage_0 2 rfl) (v := (activeI σ)) hL7.1 (b := 7) rfl ?_
  refine r_iret (dk_at ktX6_activePage_0 3 rfl) rfl rfl ⟨_, rfl, ?_⟩
  refine ⟨?_, rfl, RelN.of hR5 (by omega), (FD.fb (os := [0, 1, 2, 3, 4, 5, 6, 7, 8, 9, 10, 11, 12, 13, 14, 15, 16, 17, 18]) (FD.tr FD.rf (hF6.mo (by simp <;> omega))) (by simp <;> omega) (by omega))⟩
  rfl
set_option maxRecDepth 4000 in
set_option maxHeartbeats 4000000 in
theorem s_X6_generation {n : Nat} {sh : mS} {G : mG} {I : mI} {J : mJ} {bx bt d be bf bg b0 b1 bv : Nat} {σ : sT} {T N : Nat} (hB : BootH n sh G bx bt d be bf bg b0 b1 bv) (hR : RelD d I σ T N) (hI : Inv σ)  : Sp yX6_generation cX6_generation 1 (some FieldType.int) 5 188 0 0 [.ref bx] n sh G I J (Qi (fun r_ I_ J_ => a_gen σ = r_ ∧ J = J_ ∧ RelN d I_ (σ) (T + 0) ∧ FB d bg I I_)) (nX) := by
  have hd := hB.hD
  have hord := hB.ord
  have hb := hI.bd
  have hNs := hR.2.2.2.1
  have hN61 := hR.2.2.2.2.1
  have hTm := hR.2.2.2.2.2
  refine Sp.of (by decide) (ls := [(0, .ref bx)]) (fun _ => rfl) (fun _ => Nat.le_of_ble_eq_true rfl) ?_
  refine rc_p (p_aload_n 0 (dk_at ktX6_generation_0 0 rfl) rfl rfl (b := 1) rfl) ?_
  refine r_rV (As' := []) (rest := []) (s_X6_readLedger hB (σ := σ) hR hI) cw_X6_162 qi_X6_readLedger qv_X6_readLedger rfl hB.l0 hB.s0 (dk_at ktX6_generation_0 1 rfl) rfl rfl (Nat.le_of_ble_eq_true rfl) (by decide) (b := 4) rfl (fun v4 I1 J2 q3 => ?_)
  obtain ⟨rfl, rfl, hR5, hL7, hF6⟩ := q3
  refine r_geti fl_X6_188 rfl (hd.lt 16 (by decide)) hd.s16 (dk_at ktX6_generation_0 2 rfl) (v := (a_gen σ)) hL7.gen (b := 7) rfl ?_
  refine r_iret (dk_at ktX6_generation_0 3 rfl) rfl rfl ⟨_, rfl, ?_⟩
  refine ⟨?_, rfl, RelN.of hR5 (by omega), (FD.fb (os := [0, 1, 2, 3, 4, 5, 6, 7, 8, 9, 10, 11, 12, 13, 14, 15, 16, 17, 18]) (FD.tr FD.rf (hF6.mo (by simp <;> omega))) (by simp <;> omega) (by omega))⟩
  rfl
set_option maxRecDepth 4000 in
set_option maxHeartbeats 4000000 in
theorem s_X6_recordCount {n : Nat} {sh : mS} {G : mG} {I : mI} {J : mJ} {bx bt d be bf bg b0 b1 bv : Nat} {σ : sT} {T N : Nat} (hB : BootH n sh G bx bt d be bf bg b0 b1 bv) (hR : RelD d I σ T N) (hI : Inv σ)  : Sp yX6_recordCount cX6_recordCount 1 (some FieldType.int) 5 188 0 0 [.ref bx] n sh G I J (Qi (fun r_ I_ J_ => a_cnt σ = r_ ∧ J = J_ ∧ RelN d I_ (σ) (T + 0) ∧ FB d bg I I_)) (nX) := by
  have hd := hB.hD
  have hord := hB.ord
  have hb := hI.bd
  have hNs := hR.2.2.2.1
  have hN61 := hR.2.2.2.2.1
  have hTm := hR.2.2.2.2.2
  refine Sp.of (by decide) (ls := [(0, .ref bx)]) (fun _ => rfl) (fun _ => Nat.le_of_ble_eq_true rfl) ?_
  refine rc_p (p_aload_n 0 (dk_at ktX6_recordCount_0 0 rfl) rfl rfl (b := 1) rfl) ?_
  refine r_rV (As' := []) (rest := []) (s_X6_readLedger hB (σ := σ) hR hI) cw_X6_162 qi_X6_readLedger qv_X6_readLedger rfl hB.l0 hB.s0 (dk_at ktX6_recordCount_0 1 rfl) rfl rfl (Nat.le_of_ble_eq_true rfl) (by decide) (b := 4) rfl (fun v4 I1 J2 q3 => ?_)
  obtain ⟨rfl, rfl, hR5, hL7, hF6⟩ := q3
  refine r_geti fl_X6_194 rfl (hd.lt 16 (by decide)) hd.s16 (dk_at ktX6_recordCount_0 2 rfl) (v := (a_cnt σ)) hL7.cnt (b := 7) rfl ?_
  refine r_iret (dk_at ktX6_recordCount_0 3 rfl) rfl rfl ⟨_, rfl, ?_⟩
  refine ⟨?_, rfl, RelN.of hR5 (by omega), (FD.fb (os := [0, 1, 2, 3, 4, 5, 6, 7, 8, 9, 10, 11, 12, 13, 14, 15, 16, 17, 18]) (FD.tr FD.rf (hF6.mo (by simp <;> omega))) (by simp <;> omega) (by omega))⟩
  rfl
set_option maxRecDepth 4000 in
set_option maxHeartbeats 4000000 in
theorem s_X6_spoiled {n : Nat} {sh : mS} {G : mG} {I : mI} {J : mJ} {bx bt d be bf bg b0 b1 bv : Nat} {σ : sT} {T N : Nat} (hB : BootH n sh G bx bt d be bf bg b0 b1 bv) (hR : RelD d I σ T N) (hI : Inv σ)  : Sp yX6_spoiled cX6_spoiled 1 (some FieldType.int) 5 188 0 0 [.ref bx] n sh G I J (Qi (fun r_ I_ J_ => a_spl σ = r_ ∧ J = J_ ∧ RelN d I_ (σ) (T + 0) ∧ FB d bg I I_)) (nX) := by
  have hd := hB.hD
  have hord := hB.ord
  have hb := hI.bd
  have hNs := hR.2.2.2.1
  have hN61 := hR.2.2.2.2.1
  have hTm := hR.2.2.2.2.2
  refine Sp.of (by decide) (ls := [(0, .ref bx)]) (fun _ => rfl) (fun _ => Nat.le_of_ble_eq_true rfl) ?_
  refine rc_p (p_aload_n 0 (dk_at ktX6_spoiled_0 0 rfl) rfl rfl (b := 1) rfl) ?_
  refine r_rV (As' := []) (rest := []) (s_X6_readLedger hB (σ := σ) hR hI) cw_X6_162 qi_X6_readLedger qv_X6_readLedger rfl hB.l0 hB.s0 (dk_at ktX6_spoiled_0 1 rfl) rfl rfl (Nat.le_of_ble_eq_true rfl) (by decide) (b := 4) rfl (fun v4 I1 J2 q3 => ?_)
  obtain ⟨rfl, rfl, hR5, hL7, hF6⟩ := q3
  refine r_geti fl_X6_207 rfl (hd.lt 16 (by decide)) hd.s16 (dk_at ktX6_spoiled_0 2 rfl) (v := (a_spl σ)) hL7.spl (b := 7) rfl ?_
  refine r_iret (dk_at ktX6_spoiled_0 3 rfl) rfl rfl ⟨_, rfl, ?_⟩
  refine ⟨?_, rfl, RelN.of hR5 (by omega), (FD.fb (os := [0, 1, 2, 3, 4, 5, 6, 7, 8, 9, 10, 11, 12, 13, 14, 15, 16, 17, 18]) (FD.tr FD.rf (hF6.mo (by simp <;> omega))) (by simp <;> omega) (by omega))⟩
  rfl
set_option maxRecDepth 4000 in
set_option maxHeartbeats 4000000 in
theorem s_X6_freeWords {n : Nat} {sh : mS} {G : mG} {I : mI} {J : mJ} {bx bt d be bf bg b0 b1 bv : Nat} {σ : sT} {T N : Nat} (hB : BootH n sh G bx bt d be bf bg b0 b1 bv) (hR : RelD d I σ T N) (hI : Inv σ)  : Sp yX6_freeWords cX6_freeWords 2 (some FieldType.int) 5 188 0 0 [.ref bx] n sh G I J (Qi (fun r_ I_ J_ => a_free σ = r_ ∧ J = J_ ∧ RelN d I_ (σ) (T + 0) ∧ FB d bg I I_)) (nX) := by
  have hd := hB.hD
  have hord := hB.ord
  have hb := hI.bd
  have hNs := hR.2.2.2.1
  have hN61 := hR.2.2.2.2.1
  have hTm := hR.2.2.2.2.2
  refine Sp.of (by decide) (ls := [(0, .ref bx)]) (fun _ => rfl) (fun _ => Nat.le_of_ble_eq_true rfl) ?_
  refine rc_p (p_aload_n 0 (dk_at ktX6_freeWords_0 0 rfl) rfl rfl (b := 1) rfl) ?_
  refine r_rV (As' := []) (rest := []) (s_X6_readLedger hB (σ := σ) hR hI) cw_X6_162 qi_X6_readLedger qv_X6_readLedger rfl hB.l0 hB.s0 (dk_at ktX6_freeWords_0 1 rfl) rfl rfl (Nat.le_of_ble_eq_true rfl) (by decide) (b := 4) rfl (fun v4 I1 J2 q3 => ?_)
  obtain ⟨rfl, rfl, hR5, hL7, hF6⟩ := q3
  refine rc_p (p_astore_n (ls' := [(1, .ref (d + 16)), (0, .ref bx)]) (dk_at ktX6_freeWords_0 2 rfl) rfl (by decide) rfl (b := 5) rfl) ?_
  refine rc_p (p_aload_n 0 (dk_at ktX6_freeWords_0 3 rfl) rfl rfl (b := 6) rfl) ?_
  refine r_geti fl_X6_185 rfl (hd.lt 16 (by decide)) hd.s16 (dk_at ktX6_freeWords_0 4 rfl) (v := (activeI σ)) hL7.1 (b := 9) rfl ?_
  refine rc_p (p_iconst (v := (-1)) (dk_at ktX6_freeWords_0 5 rfl) (by decide) (b := 10) rfl) ?_
  refine r_icmp_ne (dk_at ktX6_freeWords_0 6 rfl) (b := 17) (by decide) (b2 := 13) rfl (fun c10 => ?_) (fun c10 => ?_)
  · skip
    obtain ⟨p, hp, ep⟩ := act_n rfl c10
    have hfl := ffree_le σ p (nJ σ)
    refine rc_p (p_aload_n 1 (dk_at ktX6_freeWords_0 9 rfl) rfl rfl (b := 18) rfl) ?_
    refine r_geta fl_X6_27 rfl hB.l0 hB.s0 (dk_at ktX6_freeWords_0 10 rfl) hB.g0_1 (b := 21) rfl ?_
    refine r_geta fl_X6_57 rfl hd.l0 hd.s0 (dk_at ktX6_freeWords_0 11 rfl) hd.g0_0 (b := 24) rfl ?_
    refine r_geti fl_X6_92 rfl (hd.lt 1 (by decide)) hd.s1 (dk_at ktX6_freeWords_0 12 rfl) (v := (nI (nJ σ))) ((hR5.1 1 5 2 lc_1_5).trans (hI).w2) (b := 27) rfl ?_
    refine rc_p (p_aload_n 0 (dk_at ktX6_freeWords_0 13 rfl) rfl rfl (b := 28) rfl) ?_
    refine r_geti fl_X6_191 rfl (hd.lt 16 (by decide)) hd.s16 (dk_at ktX6_freeWords_0 14 rfl) (v := (nI (ffree σ p (nJ σ)))) ((hL7.2.2.1 p hp ep).2.1) (b := 31) rfl ?_
    refine rc_p (p_isub (v := (nI (nJ σ - ffree σ p (nJ σ)))) (dk_at ktX6_freeWords_0 15 rfl) (pk_sub (a := nJ σ) (b := ffree σ p (nJ σ)) (by omega)) (b := 32) rfl) ?_
    refine r_iret (dk_at ktX6_freeWords_0 16 rfl) rfl rfl ⟨_, rfl, ?_⟩
    refine ⟨?_, rfl, RelN.of hR5 (by omega), (FD.fb (os := [0, 1, 2, 3, 4, 5, 6, 7, 8, 9, 10, 11, 12, 13, 14, 15, 16, 17, 18]) (FD.tr FD.rf (hF6.mo (by simp <;> omega))) (by simp <;> omega) (by omega))⟩
    exact a_free_y hp ep
  · skip
    refine rc_p (p_iconst (v := 0) (dk_at ktX6_freeWords_0 7 rfl) (by decide) (b := 14) rfl) ?_
    refine rc_p (p_goto (b := 32) (dk_at ktX6_freeWords_0 8 rfl) (by decide)) ?_
    refine r_iret (dk_at ktX6_freeWords_0 16 rfl) rfl rfl ⟨_, rfl, ?_⟩
    refine ⟨?_, rfl, RelN.of hR5 (by omega), (FD.fb (os := [0, 1, 2, 3, 4, 5, 6, 7, 8, 9, 10, 11, 12, 13, 14, 15, 16, 17, 18]) (FD.tr FD.rf (hF6.mo (by simp <;> omega))) (by simp <;> omega) (by omega))⟩
    exact if_pos c10
set_option maxRecDepth 4000 in
set_option maxHeartbeats 4000000 in
theorem s_X6_recordsLeft {n : Nat} {sh : mS} {G : mG} {I : mI} {J : mJ} {bx bt d be bf bg b0 b1 bv : Nat} {σ : sT} {T N : Nat} (hB : BootH n sh G bx bt d be bf bg b0 b1 bv) (hR : RelD d I σ T N) (hI : Inv σ)  : Sp yX6_recordsLeft cX6_recordsLeft 2 (some FieldType.int) 5 188 0 0 [.ref bx] n sh G I J (Qi (fun r_ I_ J_ => a_left σ = r_ ∧ J = J_ ∧ RelN d I_ (σ) (T + 0) ∧ FB d bg I I_)) (nX) := by
  have hd := hB.hD
  have hord := hB.ord
  have hb := hI.bd
  have hNs := hR.2.2.2.1
  have hN61 := hR.2.2.2.2.1
  have hTm := hR.2.2.2.2.2
  refine Sp.of (by decide) (ls := [(0, .ref bx)]) (fun _ => rfl) (fun _ => Nat.le_of_ble_eq_true rfl) ?_
  refine rc_p (p_aload_n 0 (dk_at ktX6_recordsLeft_0 0 rfl) rfl rfl (b := 1) rfl) ?_
  refine r_rV (As' := []) (rest := []) (s_X6_readLedger hB (σ := σ) hR hI) cw_X6_162 qi_X6_readLedger qv_X6_readLedger rfl hB.l0 hB.s0 (dk_at ktX6_recordsLeft_0 1 rfl) rfl rfl (Nat.le_of_ble_eq_true rfl) (by decide) (b := 4) rfl (fun v4 I1 J2 q3 => ?_)
  obtain ⟨rfl, rfl, hR5, hL7, hF6⟩ := q3
  refine rc_p (p_astore_n (ls' := [(1, .ref (d + 16)), (0, .ref bx)]) (dk_at ktX6_recordsLeft_0 2 rfl) rfl (by decide) rfl (b := 5) rfl) ?_
  refine rc_p (p_aload_n 1 (dk_at ktX6_recordsLeft_0 3 rfl) rfl rfl (b := 6) rfl) ?_
  refine r_geta fl_X6_27 rfl hB.l0 hB.s0 (dk_at ktX6_recordsLeft_0 4 rfl) hB.g0_1 (b := 9) rfl ?_
  refine r_geta fl_X6_57 rfl hd.l0 hd.s0 (dk_at ktX6_recordsLeft_0 5 rfl) hd.g0_0 (b := 12) rfl ?_
  refine r_geti fl_X6_92 rfl (hd.lt 1 (by decide)) hd.s1 (dk_at ktX6_recordsLeft_0 6 rfl) (v := (nI (nJ σ))) ((hR5.1 1 5 2 lc_1_5).trans (hI).w2) (b := 15) rfl ?_
  refine rc_p (p_aload_n 0 (dk_at ktX6_recordsLeft_0 7 rfl) rfl rfl (b := 16) rfl) ?_
  refine r_geti fl_X6_185 rfl (hd.lt 16 (by decide)) hd.s16 (dk_at ktX6_recordsLeft_0 8 rfl) (v := (activeI σ)) hL7.1 (b := 19) rfl ?_
  refine rc_p (p_iconst (v := (-1)) (dk_at ktX6_recordsLeft_0 9 rfl) (by decide) (b := 20) rfl) ?_
  refine r_icmp_ne (dk_at ktX6_recordsLeft_0 10 rfl) (b := 27) (by decide) (b2 := 23) rfl (fun c20 => ?_) (fun c20 => ?_)
  · skip
    obtain ⟨p, hp, ep⟩ := act_n rfl c20
    have hfl := ffree_le σ p (nJ σ)
    refine rc_p (p_aload_n 0 (dk_at ktX6_recordsLeft_0 13 rfl) rfl rfl (b := 28) rfl) ?_
    refine r_geti fl_X6_191 rfl (hd.lt 16 (by decide)) hd.s16 (dk_at ktX6_recordsLeft_0 14 rfl) (v := (nI (ffree σ p (nJ σ)))) ((hL7.2.2.1 p hp ep).2.1) (b := 31) rfl ?_
    refine rc_p (p_isub (v := (nI (nJ σ - ffree σ p (nJ σ)))) (dk_at ktX6_recordsLeft_0 15 rfl) (pk_sub (a := nJ σ) (b := ffree σ p (nJ σ)) (by omega)) (b := 32) rfl) ?_
    refine r_iret (dk_at ktX6_recordsLeft_0 16 rfl) rfl rfl ⟨_, rfl, ?_⟩
    refine ⟨?_, rfl, RelN.of hR5 (by omega), (FD.fb (os := [0, 1, 2, 3, 4, 5, 6, 7, 8, 9, 10, 11, 12, 13, 14, 15, 16, 17, 18]) (FD.tr FD.rf (hF6.mo (by simp <;> omega))) (by simp <;> omega) (by omega))⟩
    exact a_left_y hp ep
  · skip
    refine rc_p (p_iconst (v := 1) (dk_at ktX6_recordsLeft_0 11 rfl) (by decide) (b := 24) rfl) ?_
    refine rc_p (p_goto (b := 31) (dk_at ktX6_recordsLeft_0 12 rfl) (by decide)) ?_
    refine rc_p (p_isub (v := (nI (nJ σ - 1))) (dk_at ktX6_recordsLeft_0 15 rfl) (pk_sub (a := nJ σ) (b := 1) (by omega)) (b := 32) rfl) ?_
    refine r_iret (dk_at ktX6_recordsLeft_0 16 rfl) rfl rfl ⟨_, rfl, ?_⟩
    refine ⟨?_, rfl, RelN.of hR5 (by omega), (FD.fb (os := [0, 1, 2, 3, 4, 5, 6, 7, 8, 9, 10, 11, 12, 13, 14, 15, 16, 17, 18]) (FD.tr FD.rf (hF6.mo (by simp <;> omega))) (by simp <;> omega) (by omega))⟩
    exact if_pos c20
set_option maxRecDepth 4000 in
set_option maxHeartbeats 4000000 in
theorem s_X6_boot {n : Nat} {sh : mS} {G : mG} {I : mI} {J : mJ} {bx bt d be bf bg b0 b1 bv : Nat} {σ : sT} {T N : Nat} (hB : BootH n sh G bx bt d be bf bg b0 b1 bv) (hR : RelD d I σ T N) (hI : Inv σ) (hT : T + 6 < 1000000)  : Sp yX6_boot cX6_boot 1 (some FieldType.int) 7 236 0 0 [.ref bx] n sh G I J (Qi (fun r_ I_ J_ => (fBoot σ).1 = r_ ∧ J = J_ ∧ RelN d I_ ((fBoot σ).2) (T + 6) ∧ FB d bg I I_)) (nX) := by
  have hd := hB.hD
  have hord := hB.ord
  have hb := hI.bd
  have hNs := hR.2.2.2.1
  have hN61 := hR.2.2.2.2.1
  have hTm := hR.2.2.2.2.2
  refine Sp.of (by decide) (ls := [(0, .ref bx)]) (fun _ => rfl) (fun _ => Nat.le_of_ble_eq_true rfl) ?_
  refine rc_p (p_aload_n 0 (dk_at ktX6_boot_0 0 rfl) rfl rfl (b := 1) rfl) ?_
  refine r_geta fl_X6_27 rfl hB.l0 hB.s0 (dk_at ktX6_boot_0 1 rfl) hB.g0_1 (b := 4) rfl ?_
  refine r_iV (As' := []) (rest := []) (s_X0_startUp hd (σ := σ) hR hI (by omega)) cw_X6_105 qi_X0_startUp qv_X0_startUp rfl hd.l0 hd.s0 (dk_at ktX6_boot_0 2 rfl) rfl rfl (Nat.le_of_ble_eq_true rfl) (by decide) (b := 7) rfl (fun v4 I1 J2 q3 => ?_)
  obtain ⟨eq9, rfl, ⟨T5, hT6, hR7⟩, hF8⟩ := q3
  refine r_iret (dk_at ktX6_boot_0 3 rfl) rfl rfl ⟨_, rfl, ?_⟩
  refine ⟨eq9, rfl, RelN.of hR7 (by omega), (FD.fb (os := [0, 1, 2, 3, 4, 5, 6, 7, 8, 9, 10, 11, 12, 13, 14, 15, 16, 17, 18]) (FD.tr FD.rf (hF8.mo (by simp <;> omega))) (by simp <;> omega) (by omega))⟩
set_option maxRecDepth 4000 in
set_option maxHeartbeats 4000000 in
theorem s_X6_mirror {n : Nat} {sh : mS} {G : mG} {I : mI} {J : mJ} {bx bt d be bf bg b0 b1 bv : Nat} {σ : sT} {T N : Nat} (hB : BootH n sh G bx bt d be bf bg b0 b1 bv) (hR : RelD d I σ T N) (hI : Inv σ) (hT : T + 4 < 1000000)  : Sp yX6_mirror cX6_mirror 1 (some FieldType.int) 7 236 0 0 [.ref bx] n sh G I J (Qi (fun r_ I_ J_ => (fMir σ).1 = r_ ∧ J = J_ ∧ RelN d I_ ((fMir σ).2) (T + 4) ∧ FB d bg I I_)) (nX) := by
  have hd := hB.hD
  have hord := hB.ord
  have hb := hI.bd
  have hNs := hR.2.2.2.1
  have hN61 := hR.2.2.2.2.1
  have hTm := hR.2.2.2.2.2
  refine Sp.of (by decide) (ls := [(0, .ref bx)]) (fun _ => rfl) (fun _ => Nat.le_of_ble_eq_true rfl) ?_
  refine rc_p (p_aload_n 0 (dk_at ktX6_mirror_0 0 rfl) rfl rfl (b := 1) rfl) ?_
  refine r_geta fl_X6_27 rfl hB.l0 hB.s0 (dk_at ktX6_mirror_0 1 rfl) hB.g0_1 (b := 4) rfl ?_
  refine r_iV (As' := []) (rest := []) (s_X0_mirrorRunning hd (σ := σ) hR hI (by omega)) cw_X6_125 qi_X0_mirrorRunning qv_X0_mirrorRunning rfl hd.l0 hd.s0 (dk_at ktX6_mirror_0 2 rfl) rfl rfl (Nat.le_of_ble_eq_true rfl) (by decide) (b := 7) rfl (fun v4 I1 J2 q3 => ?_)
  obtain ⟨eq9, rfl, ⟨T5, hT6, hR7⟩, hF8⟩ := q3
  refine r_iret (dk_at ktX6_mirror_0 3 rfl) rfl rfl ⟨_, rfl, ?_⟩
  refine ⟨eq9, rfl, RelN.of hR7 (by omega), (FD.fb (os := [0, 1, 2, 3, 4, 5, 6, 7, 8, 9, 10, 11, 12, 13, 14, 15, 16, 17, 18]) (FD.tr FD.rf (hF8.mo (by simp <;> omega))) (by simp <;> omega) (by omega))⟩
set_option maxRecDepth 4000 in
set_option maxHeartbeats 4000000 in
theorem s_X6_moveJournal {n : Nat} {sh : mS} {G : mG} {I : mI} {J : mJ} {bx bt d be bf bg b0 b1 bv : Nat} {σ : sT} {T N : Nat} (hB : BootH n sh G bx bt d be bf bg b0 b1 bv) (hR : RelD d I σ T N) (hI : Inv σ) (hT : T + 2 < 1000000)  : Sp yX6_moveJournal cX6_moveJournal 1 (some FieldType.int) 6 210 0 0 [.ref bx] n sh G I J (Qi (fun r_ I_ J_ => (fMvj σ).1 = r_ ∧ J = J_ ∧ RelN d I_ ((fMvj σ).2) (T + 2) ∧ FB d bg I I_)) (nX) := by
  have hd := hB.hD
  have hord := hB.ord
  have hb := hI.bd
  have hNs := hR.2.2.2.1
  have hN61 := hR.2.2.2.2.1
  have hTm := hR.2.2.2.2.2
  refine Sp.of (by decide) (ls := [(0, .ref bx)]) (fun _ => rfl) (fun _ => Nat.le_of_ble_eq_true rfl) ?_
  refine rc_p (p_aload_n 0 (dk_at ktX6_moveJournal_0 0 rfl) rfl rfl (b := 1) rfl) ?_
  refine r_geta fl_X6_27 rfl hB.l0 hB.s0 (dk_at ktX6_moveJournal_0 1 rfl) hB.g0_1 (b := 4) rfl ?_
  refine r_iV (As' := []) (rest := []) (s_X0_moveByHand hd (σ := σ) hR hI (by omega)) cw_X6_128 qi_X0_moveByHand qv_X0_moveByHand rfl hd.l0 hd.s0 (dk_at ktX6_moveJournal_0 2 rfl) rfl rfl (Nat.le_of_ble_eq_true rfl) (by decide) (b := 7) rfl (fun v4 I1 J2 q3 => ?_)
  obtain ⟨eq9, rfl, ⟨T5, hT6, hR7⟩, hF8⟩ := q3
  refine r_iret (dk_at ktX6_moveJournal_0 3 rfl) rfl rfl ⟨_, rfl, ?_⟩
  refine ⟨eq9, rfl, RelN.of hR7 (by omega), (FD.fb (os := [0, 1, 2, 3, 4, 5, 6, 7, 8, 9, 10, 11, 12, 13, 14, 15, 16, 17, 18]) (FD.tr FD.rf (hF8.mo (by simp <;> omega))) (by simp <;> omega) (by omega))⟩
set_option maxRecDepth 4000 in
set_option maxHeartbeats 4000000 in
theorem s_X6_confirm {n : Nat} {sh : mS} {G : mG} {I : mI} {J : mJ} {bx bt d be bf bg b0 b1 bv : Nat} {σ : sT} {T N : Nat} (hB : BootH n sh G bx bt d be bf bg b0 b1 bv) (hR : RelD d I σ T N) (hI : Inv σ) (hT : T + 5 < 1000000)  : Sp yX6_confirm cX6_confirm 1 (some FieldType.int) 7 235 0 0 [.ref bx] n sh G I J (Qi (fun r_ I_ J_ => (fCon σ).1 = r_ ∧ J = J_ ∧ RelN d I_ ((fCon σ).2) (T + 5) ∧ FB d bg I I_)) (nX) := by
  have hd := hB.hD
  have hord := hB.ord
  have hb := hI.bd
  have hNs := hR.2.2.2.1
  have hN61 := hR.2.2.2.2.1
  have hTm := hR.2.2.2.2.2
  refine Sp.of (by decide) (ls := [(0, .ref bx)]) (fun _ => rfl) (fun _ => Nat.le_of_ble_eq_true rfl) ?_
  refine rc_p (p_aload_n 0 (dk_at ktX6_confirm_0 0 rfl) rfl rfl (b := 1) rfl) ?_
  refine r_geta fl_X6_27 rfl hB.l0 hB.s0 (dk_at ktX6_confirm_0 1 rfl) hB.g0_1 (b := 4) rfl ?_
  refine r_iV (As' := []) (rest := []) (s_X0_confirmRunning hd (σ := σ) hR hI (by omega)) cw_X6_131 qi_X0_confirmRunning qv_X0_confirmRunning rfl hd.l0 hd.s0 (dk_at ktX6_confirm_0 2 rfl) rfl rfl (Nat.le_of_ble_eq_true rfl) (by decide) (b := 7) rfl (fun v4 I1 J2 q3 => ?_)
  obtain ⟨eq9, rfl, ⟨T5, hT6, hR7⟩, hF8⟩ := q3
  refine r_iret (dk_at ktX6_confirm_0 3 rfl) rfl rfl ⟨_, rfl, ?_⟩
  refine ⟨eq9, rfl, RelN.of hR7 (by omega), (FD.fb (os := [0, 1, 2, 3, 4, 5, 6, 7, 8, 9, 10, 11, 12, 13, 14, 15, 16, 17, 18]) (FD.tr FD.rf (hF8.mo (by simp <;> omega))) (by simp <;> omega) (by omega))⟩
set_option maxRecDepth 4000 in
set_option maxHeartbeats 4000000 in
theorem s_X6_off {n : Nat} {sh : mS} {G : mG} {I : mI} {J : mJ} {bx bt d be bf bg b0 b1 bv : Nat} {σ : sT} {T N : Nat} (hB : BootH n sh G bx bt d be bf bg b0 b1 bv) (hR : RelD d I σ T N) (hI : Inv σ)  : Sp yX6_off cX6_off 2 (some FieldType.boolean) 2 68 0 0 [.ref bx] n sh G I J (Qi (fun r_ I_ J_ => bi (!decide (σ 7 = 0)) = r_ ∧ J = J_ ∧ RelN d I_ (sOff σ) (T + 0) ∧ FB d bg I I_)) (nX) := by
  have hd := hB.hD
  have hord := hB.ord
  have hb := hI.bd
  have hNs := hR.2.2.2.1
  have hN61 := hR.2.2.2.2.1
  have hTm := hR.2.2.2.2.2
  refine Sp.of (by decide) (ls := [(0, .ref bx)]) (fun _ => rfl) (fun _ => Nat.le_of_ble_eq_true rfl) ?_
  refine rc_p (p_aload_n 0 (dk_at ktX6_off_0 0 rfl) rfl rfl (b := 1) rfl) ?_
  refine r_geta fl_X6_27 rfl hB.l0 hB.s0 (dk_at ktX6_off_0 1 rfl) hB.g0_1 (b := 4) rfl ?_
  refine r_geti fl_X6_111 rfl hd.l0 hd.s0 (dk_at ktX6_off_0 2 rfl) (v := (σ 7)) (hR.1 0 7 7 lc_0_7) (b := 7) rfl ?_
  refine r_if_eq (dk_at ktX6_off_0 3 rfl) (b := 14) (by decide) (b2 := 10) rfl (fun c7 => ?_) (fun c7 => ?_)
  · skip
    refine rc_p (p_iconst (v := 0) (dk_at ktX6_off_0 6 rfl) (by decide) (b := 15) rfl) ?_
    refine rc_p (p_istore_n (ls' := [(1, .int 0), (0, .ref bx)]) (dk_at ktX6_off_0 7 rfl) rfl (by decide) rfl (b := 16) rfl) ?_
    refine rc_p (p_aload_n 1 (dk_at ktX6_off_0 8 rfl) rfl rfl (b := 17) rfl) ?_
    refine r_geta fl_X6_27 rfl hB.l0 hB.s0 (dk_at ktX6_off_0 9 rfl) hB.g0_1 (b := 20) rfl ?_
    refine r_vV (As' := []) (rest := []) (s_X0_switchOff hd (σ := σ) hR hI) cw_X6_114 qi_X0_switchOff qv_X0_switchOff rfl hd.l0 hd.s0 (dk_at ktX6_off_0 10 rfl) rfl rfl (Nat.le_of_ble_eq_true rfl) (by decide) (b := 23) rfl (fun I1 J2 q3 => ?_)
    obtain ⟨rfl, hR5, hF6⟩ := q3
    refine rc_p (p_iload_n 0 (dk_at ktX6_off_0 11 rfl) rfl rfl (b := 24) rfl) ?_
    refine r_iret (dk_at ktX6_off_0 12 rfl) rfl rfl ⟨_, rfl, ?_⟩
    refine ⟨?_, rfl, RelN.of hR5 (by omega), (FD.fb (os := [0, 1, 2, 3, 4, 5, 6, 7, 8, 9, 10, 11, 12, 13, 14, 15, 16, 17, 18]) (FD.tr FD.rf (hF6.mo (by simp <;> omega))) (by simp <;> omega) (by omega))⟩
    simp_all [bi]
  · skip
    refine rc_p (p_iconst (v := 1) (dk_at ktX6_off_0 4 rfl) (by decide) (b := 11) rfl) ?_
    refine rc_p (p_goto (b := 15) (dk_at ktX6_off_0 5 rfl) (by decide)) ?_
    refine rc_p (p_istore_n (ls' := [(1, .int 1), (0, .ref bx)]) (dk_at ktX6_off_0 7 rfl) rfl (by decide) rfl (b := 16) rfl) ?_
    refine rc_p (p_aload_n 1 (dk_at ktX6_off_0 8 rfl) rfl rfl (b := 17) rfl) ?_
    refine r_geta fl_X6_27 rfl hB.l0 hB.s0 (dk_at ktX6_off_0 9 rfl) hB.g0_1 (b := 20) rfl ?_
    refine r_vV (As' := []) (rest := []) (s_X0_switchOff hd (σ := σ) hR hI) cw_X6_114 qi_X0_switchOff qv_X0_switchOff rfl hd.l0 hd.s0 (dk_at ktX6_off_0 10 rfl) rfl rfl (Nat.le_of_ble_eq_true rfl) (by decide) (b := 23) rfl (fun I7 J8 q9 => ?_)
    obtain ⟨rfl, hR11, hF12⟩ := q9
    refine rc_p (p_iload_n 0 (dk_at ktX6_off_0 11 rfl) rfl rfl (b := 24) rfl) ?_
    refine r_iret (dk_at ktX6_off_0 12 rfl) rfl rfl ⟨_, rfl, ?_⟩
    refine ⟨?_, rfl, RelN.of hR11 (by omega), (FD.fb (os := [0, 1, 2, 3, 4, 5, 6, 7, 8, 9, 10, 11, 12, 13, 14, 15, 16, 17, 18]) (FD.tr FD.rf (hF12.mo (by simp <;> omega))) (by simp <;> omega) (by omega))⟩
    simp_all [bi]

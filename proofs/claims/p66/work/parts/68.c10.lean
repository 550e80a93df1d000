/-! THE CLASS: its calls that check their arguments -/
set_option maxRecDepth 4000 in
set_option maxHeartbeats 4000000 in
theorem s_X6_setPower {n : Nat} {sh : mS} {G : mG} {I : mI} {J : mJ} {bx bt d be bf bg b0 b1 bv : Nat} {σ : sT} {T N : Nat} (hB : BootH n sh G bx bt d be bf bg b0 b1 bv) (hR : RelD d I σ T N) (hI : Inv σ) (p : Int32) : Sp yX6_setPower cX6_setPower 3 (some FieldType.int) 7 310 1 6 [.ref bx, .int p] n sh G I J (Qi (fun r_ I_ J_ => cIn p (-1) 100000 = 0 ∧ σ 6 = r_ ∧ J = J_ ∧ RelN d I_ (t_power σ p) (T + 0) ∧ FB d bg I I_)) (eX (cIn p (-1) 100000) I J) := by
  have hd := hB.hD
  have hord := hB.ord
  have hb := hI.bd
  have hNs := hR.2.2.2.1
  have hN61 := hR.2.2.2.2.1
  have hTm := hR.2.2.2.2.2
  refine Sp.of (by decide) (ls := [(0, .ref bx), (1, .int p)]) (fun _ => rfl) (fun _ => Nat.le_of_ble_eq_true rfl) ?_
  refine rc_p (p_iload_n 1 (dk_at ktX6_setPower_0 0 rfl) rfl rfl (b := 1) rfl) ?_
  refine rc_p (p_iconst (v := (-1)) (dk_at ktX6_setPower_0 1 rfl) (by decide) (b := 2) rfl) ?_
  refine rc_p (p_ldc (v := 100000) qk_TwinBoot_101 (dk_at ktX6_setPower_0 2 rfl) (b := 4) rfl) ?_
  refine r_vSX (As := [.int p, .int (-1), .int 100000]) (rest := []) (s_X6_requireRange p (-1) 100000) cw_X6_71 qs_X6_requireRange (dk_at ktX6_setPower_0 3 rfl) rfl rfl (Nat.le_of_ble_eq_true rfl) (by decide) (b := 7) rfl (fun _ _ _ h => ⟨Or.inl ⟨h.1, cIn_f h.2.1⟩, h.2.2⟩) (fun I1 J2 hq3 => ?_)
  obtain ⟨ok4, rfl, rfl⟩ := hq3
  refine rc_p (p_aload_n 0 (dk_at ktX6_setPower_0 4 rfl) rfl rfl (b := 8) rfl) ?_
  refine r_geta fl_X6_27 rfl hB.l0 hB.s0 (dk_at ktX6_setPower_0 5 rfl) hB.g0_1 (b := 11) rfl ?_
  refine r_geta fl_X6_57 rfl hd.l0 hd.s0 (dk_at ktX6_setPower_0 6 rfl) hd.g0_0 (b := 14) rfl ?_
  refine r_geti fl_X6_102 rfl (hd.lt 1 (by decide)) hd.s1 (dk_at ktX6_setPower_0 7 rfl) (v := (σ 6)) (hR.1 1 7 6 lc_1_7) (b := 17) rfl ?_
  refine rc_p (p_istore_n (ls' := [(2, .int (σ 6)), (0, .ref bx), (1, .int p)]) (dk_at ktX6_setPower_0 8 rfl) rfl (by decide) rfl (b := 18) rfl) ?_
  refine rc_p (p_aload_n 1 (dk_at ktX6_setPower_0 9 rfl) rfl rfl (b := 19) rfl) ?_
  refine r_geta fl_X6_27 rfl hB.l0 hB.s0 (dk_at ktX6_setPower_0 10 rfl) hB.g0_1 (b := 22) rfl ?_
  refine r_geta fl_X6_57 rfl hd.l0 hd.s0 (dk_at ktX6_setPower_0 11 rfl) hd.g0_0 (b := 25) rfl ?_
  refine rc_p (p_iload_n 2 (dk_at ktX6_setPower_0 12 rfl) rfl rfl (b := 26) rfl) ?_
  refine r_puti fl_X6_102 fw_X1_7 rfl (hd.lt 1 (by decide)) hd.s1 rfl rfl (dk_at ktX6_setPower_0 13 rfl) (b := 29) rfl ?_
  refine rc_p (p_iload_n 0 (dk_at ktX6_setPower_0 14 rfl) rfl rfl (b := 30) rfl) ?_
  refine r_iret (dk_at ktX6_setPower_0 15 rfl) rfl rfl ⟨_, rfl, ?_⟩
  refine ⟨cIn_t ok4, ?_, rfl, (by rw [show t_power σ p = upd σ 6 p from if_pos ok4]; exact RelN.of (hR.set (o := 1) (k := 7) (a := 6) lc_1_7 (by omega) (by omega) (fun q => absurd q (by omega))) (by omega)), (FD.fb (os := [0, 1, 2, 3, 4, 5, 6, 7, 8, 9, 10, 11, 12, 13, 14, 15, 16, 17, 18]) (FD.up FD.rf (by simp)) (by simp <;> omega) (by omega))⟩
  rfl
set_option maxRecDepth 4000 in
set_option maxHeartbeats 4000000 in
theorem s_X6_setting {n : Nat} {sh : mS} {G : mG} {I : mI} {J : mJ} {bx bt d be bf bg b0 b1 bv : Nat} {σ : sT} {T N : Nat} (hB : BootH n sh G bx bt d be bf bg b0 b1 bv) (hR : RelD d I σ T N) (hI : Inv σ) (w : Int32) : Sp yX6_setting cX6_setting 2 (some FieldType.int) 7 310 1 6 [.ref bx, .int w] n sh G I J (Qi (fun r_ I_ J_ => cIn w 0 5 = 0 ∧ σ (tn w) = r_ ∧ J = J_ ∧ RelN d I_ (σ) (T + 0) ∧ FB d bg I I_)) (eX (cIn w 0 5) I J) := by
  have hd := hB.hD
  have hord := hB.ord
  have hb := hI.bd
  have hNs := hR.2.2.2.1
  have hN61 := hR.2.2.2.2.1
  have hTm := hR.2.2.2.2.2
  rcases st_c w with rfl | rfl | rfl | rfl | rfl | rfl | hw
  · refine Sp.of (by decide) (ls := [(0, .ref bx), (1, .int 0)]) (fun _ => rfl) (fun _ => Nat.le_of_ble_eq_true rfl) ?_
    refine rc_p (p_iload_n 1 (dk_at ktX6_setting_0 0 rfl) rfl rfl (b := 1) rfl) ?_
    refine rc_p (p_iconst (v := 0) (dk_at ktX6_setting_0 1 rfl) (by decide) (b := 2) rfl) ?_
    refine rc_p (p_iconst (v := 5) (dk_at ktX6_setting_0 2 rfl) (by decide) (b := 3) rfl) ?_
    refine r_vSX (As := [.int 0, .int 0, .int 5]) (rest := []) (s_X6_requireRange 0 0 5) cw_X6_71 qs_X6_requireRange (dk_at ktX6_setting_0 3 rfl) rfl rfl (Nat.le_of_ble_eq_true rfl) (by decide) (b := 6) rfl (fun _ _ _ h => ⟨Or.inl ⟨h.1, cIn_f h.2.1⟩, h.2.2⟩) (fun I1 J2 hq3 => ?_)
    obtain ⟨ok4, rfl, rfl⟩ := hq3
    refine rc_p (p_iload_n 1 (dk_at ktX6_setting_0 4 rfl) rfl rfl (b := 7) rfl) ?_
    refine rc_p (p_tabIn (b := 40) (dk_at ktX6_setting_0 5 rfl) (by decide) (by decide) rfl (by decide)) ?_
    refine rc_p (p_aload_n 0 (dk_at ktX6_setting_0 6 rfl) rfl rfl (b := 41) rfl) ?_
    refine r_geta fl_X6_27 rfl hB.l0 hB.s0 (dk_at ktX6_setting_0 7 rfl) hB.g0_1 (b := 44) rfl ?_
    refine r_geta fl_X6_57 rfl hd.l0 hd.s0 (dk_at ktX6_setting_0 8 rfl) hd.g0_0 (b := 47) rfl ?_
    refine r_geti fl_X6_86 rfl (hd.lt 1 (by decide)) hd.s1 (dk_at ktX6_setting_0 9 rfl) (v := (nI (nW σ))) ((hR.1 1 2 0 lc_1_2).trans (hI).w0) (b := 50) rfl ?_
    refine r_iret (dk_at ktX6_setting_0 10 rfl) rfl rfl ⟨_, rfl, ?_⟩
    refine ⟨rfl, ?_, rfl, RelN.of hR (by omega), FB.rf⟩
    exact hI.w0
  · refine Sp.of (by decide) (ls := [(0, .ref bx), (1, .int 1)]) (fun _ => rfl) (fun _ => Nat.le_of_ble_eq_true rfl) ?_
    refine rc_p (p_iload_n 1 (dk_at ktX6_setting_0 0 rfl) rfl rfl (b := 1) rfl) ?_
    refine rc_p (p_iconst (v := 0) (dk_at ktX6_setting_0 1 rfl) (by decide) (b := 2) rfl) ?_
    refine rc_p (p_iconst (v := 5) (dk_at ktX6_setting_0 2 rfl) (by decide) (b := 3) rfl) ?_
    refine r_vSX (As := [.int 1, .int 0, .int 5]) (rest := []) (s_X6_requireRange 1 0 5) cw_X6_71 qs_X6_requireRange (dk_at ktX6_setting_0 3 rfl) rfl rfl (Nat.le_of_ble_eq_true rfl) (by decide) (b := 6) rfl (fun _ _ _ h => ⟨Or.inl ⟨h.1, cIn_f h.2.1⟩, h.2.2⟩) (fun I5 J6 hq7 => ?_)
    obtain ⟨ok8, rfl, rfl⟩ := hq7
    refine rc_p (p_iload_n 1 (dk_at ktX6_setting_0 4 rfl) rfl rfl (b := 7) rfl) ?_
    refine rc_p (p_tabIn (b := 51) (dk_at ktX6_setting_0 5 rfl) (by decide) (by decide) rfl (by decide)) ?_
    refine rc_p (p_aload_n 0 (dk_at ktX6_setting_0 11 rfl) rfl rfl (b := 52) rfl) ?_
    refine r_geta fl_X6_27 rfl hB.l0 hB.s0 (dk_at ktX6_setting_0 12 rfl) hB.g0_1 (b := 55) rfl ?_
    refine r_geta fl_X6_57 rfl hd.l0 hd.s0 (dk_at ktX6_setting_0 13 rfl) hd.g0_0 (b := 58) rfl ?_
    refine r_geti fl_X6_89 rfl (hd.lt 1 (by decide)) hd.s1 (dk_at ktX6_setting_0 14 rfl) (v := (nI (nP σ))) ((hR.1 1 3 1 lc_1_3).trans (hI).w1) (b := 61) rfl ?_
    refine r_iret (dk_at ktX6_setting_0 15 rfl) rfl rfl ⟨_, rfl, ?_⟩
    refine ⟨rfl, ?_, rfl, RelN.of hR (by omega), FB.rf⟩
    exact hI.w1
  · refine Sp.of (by decide) (ls := [(0, .ref bx), (1, .int 2)]) (fun _ => rfl) (fun _ => Nat.le_of_ble_eq_true rfl) ?_
    refine rc_p (p_iload_n 1 (dk_at ktX6_setting_0 0 rfl) rfl rfl (b := 1) rfl) ?_
    refine rc_p (p_iconst (v := 0) (dk_at ktX6_setting_0 1 rfl) (by decide) (b := 2) rfl) ?_
    refine rc_p (p_iconst (v := 5) (dk_at ktX6_setting_0 2 rfl) (by decide) (b := 3) rfl) ?_
    refine r_vSX (As := [.int 2, .int 0, .int 5]) (rest := []) (s_X6_requireRange 2 0 5) cw_X6_71 qs_X6_requireRange (dk_at ktX6_setting_0 3 rfl) rfl rfl (Nat.le_of_ble_eq_true rfl) (by decide) (b := 6) rfl (fun _ _ _ h => ⟨Or.inl ⟨h.1, cIn_f h.2.1⟩, h.2.2⟩) (fun I9 J10 hq11 => ?_)
    obtain ⟨ok12, rfl, rfl⟩ := hq11
    refine rc_p (p_iload_n 1 (dk_at ktX6_setting_0 4 rfl) rfl rfl (b := 7) rfl) ?_
    refine rc_p (p_tabIn (b := 62) (dk_at ktX6_setting_0 5 rfl) (by decide) (by decide) rfl (by decide)) ?_
    refine rc_p (p_aload_n 0 (dk_at ktX6_setting_0 16 rfl) rfl rfl (b := 63) rfl) ?_
    refine r_geta fl_X6_27 rfl hB.l0 hB.s0 (dk_at ktX6_setting_0 17 rfl) hB.g0_1 (b := 66) rfl ?_
    refine r_geta fl_X6_57 rfl hd.l0 hd.s0 (dk_at ktX6_setting_0 18 rfl) hd.g0_0 (b := 69) rfl ?_
    refine r_geti fl_X6_92 rfl (hd.lt 1 (by decide)) hd.s1 (dk_at ktX6_setting_0 19 rfl) (v := (nI (nJ σ))) ((hR.1 1 5 2 lc_1_5).trans (hI).w2) (b := 72) rfl ?_
    refine r_iret (dk_at ktX6_setting_0 20 rfl) rfl rfl ⟨_, rfl, ?_⟩
    refine ⟨rfl, ?_, rfl, RelN.of hR (by omega), FB.rf⟩
    exact hI.w2
  · refine Sp.of (by decide) (ls := [(0, .ref bx), (1, .int 3)]) (fun _ => rfl) (fun _ => Nat.le_of_ble_eq_true rfl) ?_
    refine rc_p (p_iload_n 1 (dk_at ktX6_setting_0 0 rfl) rfl rfl (b := 1) rfl) ?_
    refine rc_p (p_iconst (v := 0) (dk_at ktX6_setting_0 1 rfl) (by decide) (b := 2) rfl) ?_
    refine rc_p (p_iconst (v := 5) (dk_at ktX6_setting_0 2 rfl) (by decide) (b := 3) rfl) ?_
    refine r_vSX (As := [.int 3, .int 0, .int 5]) (rest := []) (s_X6_requireRange 3 0 5) cw_X6_71 qs_X6_requireRange (dk_at ktX6_setting_0 3 rfl) rfl rfl (Nat.le_of_ble_eq_true rfl) (by decide) (b := 6) rfl (fun _ _ _ h => ⟨Or.inl ⟨h.1, cIn_f h.2.1⟩, h.2.2⟩) (fun I13 J14 hq15 => ?_)
    obtain ⟨ok16, rfl, rfl⟩ := hq15
    refine rc_p (p_iload_n 1 (dk_at ktX6_setting_0 4 rfl) rfl rfl (b := 7) rfl) ?_
    refine rc_p (p_tabIn (b := 73) (dk_at ktX6_setting_0 5 rfl) (by decide) (by decide) rfl (by decide)) ?_
    refine rc_p (p_aload_n 0 (dk_at ktX6_setting_0 21 rfl) rfl rfl (b := 74) rfl) ?_
    refine r_geta fl_X6_27 rfl hB.l0 hB.s0 (dk_at ktX6_setting_0 22 rfl) hB.g0_1 (b := 77) rfl ?_
    refine r_geti fl_X6_95 rfl hd.l0 hd.s0 (dk_at ktX6_setting_0 23 rfl) (v := (σ 3)) (hR.1 0 6 3 lc_0_6) (b := 80) rfl ?_
    refine r_iret (dk_at ktX6_setting_0 24 rfl) rfl rfl ⟨_, rfl, ?_⟩
    refine ⟨rfl, ?_, rfl, RelN.of hR (by omega), FB.rf⟩
    rfl
  · refine Sp.of (by decide) (ls := [(0, .ref bx), (1, .int 4)]) (fun _ => rfl) (fun _ => Nat.le_of_ble_eq_true rfl) ?_
    refine rc_p (p_iload_n 1 (dk_at ktX6_setting_0 0 rfl) rfl rfl (b := 1) rfl) ?_
    refine rc_p (p_iconst (v := 0) (dk_at ktX6_setting_0 1 rfl) (by decide) (b := 2) rfl) ?_
    refine rc_p (p_iconst (v := 5) (dk_at ktX6_setting_0 2 rfl) (by decide) (b := 3) rfl) ?_
    refine r_vSX (As := [.int 4, .int 0, .int 5]) (rest := []) (s_X6_requireRange 4 0 5) cw_X6_71 qs_X6_requireRange (dk_at ktX6_setting_0 3 rfl) rfl rfl (Nat.le_of_ble_eq_true rfl) (by decide) (b := 6) rfl (fun _ _ _ h => ⟨Or.inl ⟨h.1, cIn_f h.2.1⟩, h.2.2⟩) (fun I17 J18 hq19 => ?_)
    obtain ⟨ok20, rfl, rfl⟩ := hq19
    refine rc_p (p_iload_n 1 (dk_at ktX6_setting_0 4 rfl) rfl rfl (b := 7) rfl) ?_
    refine rc_p (p_tabIn (b := 81) (dk_at ktX6_setting_0 5 rfl) (by decide) (by decide) rfl (by decide)) ?_
    refine rc_p (p_aload_n 0 (dk_at ktX6_setting_0 25 rfl) rfl rfl (b := 82) rfl) ?_
    refine r_geta fl_X6_27 rfl hB.l0 hB.s0 (dk_at ktX6_setting_0 26 rfl) hB.g0_1 (b := 85) rfl ?_
    refine r_geti fl_X6_75 rfl hd.l0 hd.s0 (dk_at ktX6_setting_0 27 rfl) (v := (nI (nS σ))) ((hR.1 0 5 4 lc_0_5).trans (hI).w4) (b := 88) rfl ?_
    refine r_iret (dk_at ktX6_setting_0 28 rfl) rfl rfl ⟨_, rfl, ?_⟩
    refine ⟨rfl, ?_, rfl, RelN.of hR (by omega), FB.rf⟩
    exact hI.w4
  · refine Sp.of (by decide) (ls := [(0, .ref bx), (1, .int 5)]) (fun _ => rfl) (fun _ => Nat.le_of_ble_eq_true rfl) ?_
    refine rc_p (p_iload_n 1 (dk_at ktX6_setting_0 0 rfl) rfl rfl (b := 1) rfl) ?_
    refine rc_p (p_iconst (v := 0) (dk_at ktX6_setting_0 1 rfl) (by decide) (b := 2) rfl) ?_
    refine rc_p (p_iconst (v := 5) (dk_at ktX6_setting_0 2 rfl) (by decide) (b := 3) rfl) ?_
    refine r_vSX (As := [.int 5, .int 0, .int 5]) (rest := []) (s_X6_requireRange 5 0 5) cw_X6_71 qs_X6_requireRange (dk_at ktX6_setting_0 3 rfl) rfl rfl (Nat.le_of_ble_eq_true rfl) (by decide) (b := 6) rfl (fun _ _ _ h => ⟨Or.inl ⟨h.1, cIn_f h.2.1⟩, h.2.2⟩) (fun I21 J22 hq23 => ?_)
    obtain ⟨ok24, rfl, rfl⟩ := hq23
    refine rc_p (p_iload_n 1 (dk_at ktX6_setting_0 4 rfl) rfl rfl (b := 7) rfl) ?_
    refine rc_p (p_tabOut (b := 89) (dk_at ktX6_setting_0 5 rfl) (by decide) (by decide)) ?_
    refine rc_p (p_aload_n 0 (dk_at ktX6_setting_0 29 rfl) rfl rfl (b := 90) rfl) ?_
    refine r_geta fl_X6_27 rfl hB.l0 hB.s0 (dk_at ktX6_setting_0 30 rfl) hB.g0_1 (b := 93) rfl ?_
    refine r_geta fl_X6_57 rfl hd.l0 hd.s0 (dk_at ktX6_setting_0 31 rfl) hd.g0_0 (b := 96) rfl ?_
    refine r_geti fl_X6_98 rfl (hd.lt 1 (by decide)) hd.s1 (dk_at ktX6_setting_0 32 rfl) (v := (σ 5)) (hR.1 1 6 5 lc_1_6) (b := 99) rfl ?_
    refine r_iret (dk_at ktX6_setting_0 33 rfl) rfl rfl ⟨_, rfl, ?_⟩
    refine ⟨rfl, ?_, rfl, RelN.of hR (by omega), FB.rf⟩
    rfl
  · refine Sp.of (by decide) (ls := [(0, .ref bx), (1, .int w)]) (fun _ => rfl) (fun _ => Nat.le_of_ble_eq_true rfl) ?_
    refine rc_p (p_iload_n 1 (dk_at ktX6_setting_0 0 rfl) rfl rfl (b := 1) rfl) ?_
    refine rc_p (p_iconst (v := 0) (dk_at ktX6_setting_0 1 rfl) (by decide) (b := 2) rfl) ?_
    refine rc_p (p_iconst (v := 5) (dk_at ktX6_setting_0 2 rfl) (by decide) (b := 3) rfl) ?_
    refine r_vSX (As := [.int w, .int 0, .int 5]) (rest := []) (s_X6_requireRange w 0 5) cw_X6_71 qs_X6_requireRange (dk_at ktX6_setting_0 3 rfl) rfl rfl (Nat.le_of_ble_eq_true rfl) (by decide) (b := 6) rfl (fun _ _ _ h => ⟨Or.inl ⟨h.1, cIn_f h.2.1⟩, h.2.2⟩) (fun I25 J26 hq27 => ?_)
    obtain ⟨ok28, rfl, rfl⟩ := hq27
    exact absurd (hw.symm.trans ok28) (by decide)
set_option maxRecDepth 4000 in
set_option maxHeartbeats 4000000 in
theorem s_X6_update {n : Nat} {sh : mS} {G : mG} {I : mI} {J : mJ} {bx bt d be bf bg b0 b1 bv : Nat} {σ : sT} {T N : Nat} (hB : BootH n sh G bx bt d be bf bg b0 b1 bv) (hR : RelD d I σ T N) (hI : Inv σ) (hT : T + 4 < 1000000) (v : Int32) : Sp yX6_update cX6_update 2 (some FieldType.int) 8 330 1 6 [.ref bx, .int v] n sh G I J (Qi (fun r_ I_ J_ => cIn v 1 255 = 0 ∧ (fUpd v false σ).1 = r_ ∧ J = J_ ∧ RelN d I_ (t_upd v false σ) (T + 4) ∧ FB d bg I I_)) (eX (cIn v 1 255) I J) := by
  have hd := hB.hD
  have hord := hB.ord
  have hb := hI.bd
  have hNs := hR.2.2.2.1
  have hN61 := hR.2.2.2.2.1
  have hTm := hR.2.2.2.2.2
  refine Sp.of (by decide) (ls := [(0, .ref bx), (1, .int v)]) (fun _ => rfl) (fun _ => Nat.le_of_ble_eq_true rfl) ?_
  refine rc_p (p_iload_n 1 (dk_at ktX6_update_0 0 rfl) rfl rfl (b := 1) rfl) ?_
  refine r_vSX (As := [.int v]) (rest := []) (s_X6_requireVersion v) cw_X6_117 qs_X6_requireVersion (dk_at ktX6_update_0 1 rfl) rfl rfl (Nat.le_of_ble_eq_true rfl) (by decide) (b := 4) rfl (fun _ _ _ h => ⟨Or.inl ⟨h.1, cIn_f h.2.1⟩, h.2.2⟩) (fun I1 J2 hq3 => ?_)
  obtain ⟨ok4, rfl, rfl⟩ := hq3
  obtain ⟨r, hr, rfl⟩ := vs_ok ok4
  refine rc_p (p_aload_n 0 (dk_at ktX6_update_0 2 rfl) rfl rfl (b := 5) rfl) ?_
  refine r_geta fl_X6_27 rfl hB.l0 hB.s0 (dk_at ktX6_update_0 3 rfl) hB.g0_1 (b := 8) rfl ?_
  refine rc_p (p_iload_n 1 (dk_at ktX6_update_0 4 rfl) rfl rfl (b := 9) rfl) ?_
  refine rc_p (p_iconst (v := 0) (dk_at ktX6_update_0 5 rfl) (by decide) (b := 10) rfl) ?_
  refine r_iV (As' := [.int (nI r), .int 0]) (rest := []) (s_X0_updateOther hd (σ := σ) hR hI (by omega) r (by omega) false) cw_X6_121 qi_X0_updateOther qv_X0_updateOther rfl hd.l0 hd.s0 (dk_at ktX6_update_0 6 rfl) rfl rfl (Nat.le_of_ble_eq_true rfl) (by decide) (b := 13) rfl (fun v8 I5 J6 q7 => ?_)
  obtain ⟨eq13, rfl, ⟨T9, hT10, hR11⟩, hF12⟩ := q7
  refine r_iret (dk_at ktX6_update_0 7 rfl) rfl rfl ⟨_, rfl, ?_⟩
  refine ⟨cIn_t ok4, ?_, rfl, (by rw [show t_upd (nI r) false σ = (fUpd (nI r) false σ).2 from if_pos ok4]; exact RelN.of hR11 (by omega)), (FD.fb (os := [0, 1, 2, 3, 4, 5, 6, 7, 8, 9, 10, 11, 12, 13, 14, 15, 16, 17, 18]) (FD.tr FD.rf (hF12.mo (by simp <;> omega))) (by simp <;> omega) (by omega))⟩
  exact eq13
set_option maxRecDepth 4000 in
set_option maxHeartbeats 4000000 in
theorem s_X6_thriftyUpdate {n : Nat} {sh : mS} {G : mG} {I : mI} {J : mJ} {bx bt d be bf bg b0 b1 bv : Nat} {σ : sT} {T N : Nat} (hB : BootH n sh G bx bt d be bf bg b0 b1 bv) (hR : RelD d I σ T N) (hI : Inv σ) (hT : T + 4 < 1000000) (v : Int32) : Sp yX6_thriftyUpdate cX6_thriftyUpdate 2 (some FieldType.int) 8 330 1 6 [.ref bx, .int v] n sh G I J (Qi (fun r_ I_ J_ => cIn v 1 255 = 0 ∧ (fUpd v true σ).1 = r_ ∧ J = J_ ∧ RelN d I_ (t_upd v true σ) (T + 4) ∧ FB d bg I I_)) (eX (cIn v 1 255) I J) := by
  have hd := hB.hD
  have hord := hB.ord
  have hb := hI.bd
  have hNs := hR.2.2.2.1
  have hN61 := hR.2.2.2.2.1
  have hTm := hR.2.2.2.2.2
  refine Sp.of (by decide) (ls := [(0, .ref bx), (1, .int v)]) (fun _ => rfl) (fun _ => Nat.le_of_ble_eq_true rfl) ?_
  refine rc_p (p_iload_n 1 (dk_at ktX6_thriftyUpdate_0 0 rfl) rfl rfl (b := 1) rfl) ?_
  refine r_vSX (As := [.int v]) (rest := []) (s_X6_requireVersion v) cw_X6_117 qs_X6_requireVersion (dk_at ktX6_thriftyUpdate_0 1 rfl) rfl rfl (Nat.le_of_ble_eq_true rfl) (by decide) (b := 4) rfl (fun _ _ _ h => ⟨Or.inl ⟨h.1, cIn_f h.2.1⟩, h.2.2⟩) (fun I1 J2 hq3 => ?_)
  obtain ⟨ok4, rfl, rfl⟩ := hq3
  obtain ⟨r, hr, rfl⟩ := vs_ok ok4
  refine rc_p (p_aload_n 0 (dk_at ktX6_thriftyUpdate_0 2 rfl) rfl rfl (b := 5) rfl) ?_
  refine r_geta fl_X6_27 rfl hB.l0 hB.s0 (dk_at ktX6_thriftyUpdate_0 3 rfl) hB.g0_1 (b := 8) rfl ?_
  refine rc_p (p_iload_n 1 (dk_at ktX6_thriftyUpdate_0 4 rfl) rfl rfl (b := 9) rfl) ?_
  refine rc_p (p_iconst (v := 1) (dk_at ktX6_thriftyUpdate_0 5 rfl) (by decide) (b := 10) rfl) ?_
  refine r_iV (As' := [.int (nI r), .int 1]) (rest := []) (s_X0_updateOther hd (σ := σ) hR hI (by omega) r (by omega) true) cw_X6_121 qi_X0_updateOther qv_X0_updateOther rfl hd.l0 hd.s0 (dk_at ktX6_thriftyUpdate_0 6 rfl) rfl rfl (Nat.le_of_ble_eq_true rfl) (by decide) (b := 13) rfl (fun v8 I5 J6 q7 => ?_)
  obtain ⟨eq13, rfl, ⟨T9, hT10, hR11⟩, hF12⟩ := q7
  refine r_iret (dk_at ktX6_thriftyUpdate_0 7 rfl) rfl rfl ⟨_, rfl, ?_⟩
  refine ⟨cIn_t ok4, ?_, rfl, (by rw [show t_upd (nI r) true σ = (fUpd (nI r) true σ).2 from if_pos ok4]; exact RelN.of hR11 (by omega)), (FD.fb (os := [0, 1, 2, 3, 4, 5, 6, 7, 8, 9, 10, 11, 12, 13, 14, 15, 16, 17, 18]) (FD.tr FD.rf (hF12.mo (by simp <;> omega))) (by simp <;> omega) (by omega))⟩
  exact eq13
set_option maxRecDepth 4000 in
set_option maxHeartbeats 4000000 in
theorem s_X6_recover {n : Nat} {sh : mS} {G : mG} {I : mI} {J : mJ} {bx bt d be bf bg b0 b1 bv : Nat} {σ : sT} {T N : Nat} (hB : BootH n sh G bx bt d be bf bg b0 b1 bv) (hR : RelD d I σ T N) (hI : Inv σ) (hT : T + 4 < 1000000) (s v : Int32) : Sp yX6_recover cX6_recover 3 (some FieldType.int) 8 330 2 12 [.ref bx, .int s, .int v] n sh G I J (Qi (fun r_ I_ J_ => cRcv s v = 0 ∧ (fRcv (tn s) v σ).1 = r_ ∧ J = J_ ∧ RelN d I_ (t_rcv s v σ) (T + 4) ∧ FB d bg I I_)) (eX (cRcv s v) I J) := by
  have hd := hB.hD
  have hord := hB.ord
  have hb := hI.bd
  have hNs := hR.2.2.2.1
  have hN61 := hR.2.2.2.2.1
  have hTm := hR.2.2.2.2.2
  refine Sp.of (by decide) (ls := [(0, .ref bx), (1, .int s), (2, .int v)]) (fun _ => rfl) (fun _ => Nat.le_of_ble_eq_true rfl) ?_
  refine rc_p (p_iload_n 1 (dk_at ktX6_recover_0 0 rfl) rfl rfl (b := 1) rfl) ?_
  refine r_vSX (As := [.int s]) (rest := []) (s_X6_requireSlot s) cw_X6_134 qs_X6_requireSlot (dk_at ktX6_recover_0 1 rfl) rfl rfl (Nat.le_of_ble_eq_true rfl) (by decide) (b := 4) rfl (fun _ _ _ h => ⟨Or.inl ⟨h.1, cRcv_1 (Or.inl h.2.1)⟩, h.2.2⟩) (fun I1 J2 hq3 => ?_)
  obtain ⟨ok4, rfl, rfl⟩ := hq3
  obtain ⟨q, hq, rfl⟩ := sl_ok ok4
  refine rc_p (p_iload_n 2 (dk_at ktX6_recover_0 2 rfl) rfl rfl (b := 5) rfl) ?_
  refine r_vSX (As := [.int v]) (rest := []) (s_X6_requireVersion v) cw_X6_117 qs_X6_requireVersion (dk_at ktX6_recover_0 3 rfl) rfl rfl (Nat.le_of_ble_eq_true rfl) (by decide) (b := 8) rfl (fun _ _ _ h => ⟨Or.inl ⟨h.1, cRcv_1 (Or.inr h.2.1)⟩, h.2.2⟩) (fun I5 J6 hq7 => ?_)
  obtain ⟨ok8, rfl, rfl⟩ := hq7
  obtain ⟨r, hr, rfl⟩ := vs_ok ok8
  refine rc_p (p_aload_n 0 (dk_at ktX6_recover_0 4 rfl) rfl rfl (b := 9) rfl) ?_
  refine r_geta fl_X6_27 rfl hB.l0 hB.s0 (dk_at ktX6_recover_0 5 rfl) hB.g0_1 (b := 12) rfl ?_
  refine rc_p (p_iload_n 1 (dk_at ktX6_recover_0 6 rfl) rfl rfl (b := 13) rfl) ?_
  refine rc_p (p_iload_n 2 (dk_at ktX6_recover_0 7 rfl) rfl rfl (b := 14) rfl) ?_
  refine r_iV (As' := [.int (nI q), .int (nI r)]) (rest := []) (s_X0_recoverSlot hd (σ := σ) hR hI (by omega) q r (by omega) (by omega)) cw_X6_137 qi_X0_recoverSlot qv_X0_recoverSlot rfl hd.l0 hd.s0 (dk_at ktX6_recover_0 8 rfl) rfl rfl (Nat.le_of_ble_eq_true rfl) (by decide) (b := 17) rfl (fun v12 I9 J10 q11 => ?_)
  obtain ⟨eq17, rfl, ⟨T13, hT14, hR15⟩, hF16⟩ := q11
  refine r_iret (dk_at ktX6_recover_0 9 rfl) rfl rfl ⟨_, rfl, ?_⟩
  have hcd : cRcv (nI q) (nI r) = 0 := cRcv_0 ok4 ok8
  have htq : tn (nI q) = q := tn_nI (by omega)
  have hst : t_rcv (nI q) (nI r) σ = (fRcv q (nI r) σ).2 := (if_pos hcd).trans (by rw [htq])
  refine ⟨hcd, ?_, rfl, (by rw [hst]; exact RelN.of hR15 (by omega)), (FD.fb (os := [0, 1, 2, 3, 4, 5, 6, 7, 8, 9, 10, 11, 12, 13, 14, 15, 16, 17, 18]) (FD.tr FD.rf (hF16.mo (by simp <;> omega))) (by simp <;> omega) (by omega))⟩
  rw [htq]; exact eq17
set_option maxRecDepth 4000 in
set_option maxHeartbeats 4000000 in
theorem s_X6_isWhole {n : Nat} {sh : mS} {G : mG} {I : mI} {J : mJ} {bx bt d be bf bg b0 b1 bv : Nat} {σ : sT} {T N : Nat} (hB : BootH n sh G bx bt d be bf bg b0 b1 bv) (hR : RelD d I σ T N) (hI : Inv σ) (s : Int32) : Sp yX6_isWhole cX6_isWhole 2 (some FieldType.boolean) 8 330 1 6 [.ref bx, .int s] n sh G I J (Qi (fun r_ I_ J_ => cIn s 0 1 = 0 ∧ bi (wholeB σ (tn s)) = r_ ∧ J = J_ ∧ RelN d I_ (σ) (T + 0) ∧ FB d bg I I_)) (eX (cIn s 0 1) I J) := by
  have hd := hB.hD
  have hord := hB.ord
  have hb := hI.bd
  have hNs := hR.2.2.2.1
  have hN61 := hR.2.2.2.2.1
  have hTm := hR.2.2.2.2.2
  refine Sp.of (by decide) (ls := [(0, .ref bx), (1, .int s)]) (fun _ => rfl) (fun _ => Nat.le_of_ble_eq_true rfl) ?_
  refine rc_p (p_iload_n 1 (dk_at ktX6_isWhole_0 0 rfl) rfl rfl (b := 1) rfl) ?_
  refine r_vSX (As := [.int s]) (rest := []) (s_X6_requireSlot s) cw_X6_134 qs_X6_requireSlot (dk_at ktX6_isWhole_0 1 rfl) rfl rfl (Nat.le_of_ble_eq_true rfl) (by decide) (b := 4) rfl (fun _ _ _ h => ⟨Or.inl ⟨h.1, cIn_f h.2.1⟩, h.2.2⟩) (fun I1 J2 hq3 => ?_)
  obtain ⟨ok4, rfl, rfl⟩ := hq3
  obtain ⟨q, hq, rfl⟩ := sl_ok ok4
  refine rc_p (p_aload_n 0 (dk_at ktX6_isWhole_0 2 rfl) rfl rfl (b := 5) rfl) ?_
  refine r_geta fl_X6_27 rfl hB.l0 hB.s0 (dk_at ktX6_isWhole_0 3 rfl) hB.g0_1 (b := 8) rfl ?_
  refine r_geta fl_X6_57 rfl hd.l0 hd.s0 (dk_at ktX6_isWhole_0 4 rfl) hd.g0_0 (b := 11) rfl ?_
  refine rc_p (p_iload_n 1 (dk_at ktX6_isWhole_0 5 rfl) rfl rfl (b := 12) rfl) ?_
  refine r_iV (As' := [.int (nI q)]) (rest := []) (s_X1_holdsImage hd (σ := σ) hR hI q (by omega)) cw_X6_61 qi_X1_holdsImage qv_X1_holdsImage rfl (hd.lt 1 (by decide)) hd.s1 (dk_at ktX6_isWhole_0 6 rfl) rfl rfl (Nat.le_of_ble_eq_true rfl) (by decide) (b := 15) rfl (fun v8 I5 J6 q7 => ?_)
  obtain ⟨rfl, rfl, rfl⟩ := q7
  refine r_iret (dk_at ktX6_isWhole_0 7 rfl) rfl (bi_nar (wholeB σ q)) ⟨_, rfl, ?_⟩
  refine ⟨cIn_t ok4, ?_, rfl, RelN.of hR (by omega), FB.rf⟩
  rw [show tn (nI q) = q from tn_nI (by omega)]
set_option maxRecDepth 4000 in
set_option maxHeartbeats 4000000 in
theorem s_X6_checksum {n : Nat} {sh : mS} {G : mG} {I : mI} {J : mJ} {bx bt d be bf bg b0 b1 bv : Nat} {σ : sT} {T N : Nat} (hB : BootH n sh G bx bt d be bf bg b0 b1 bv) (hR : RelD d I σ T N) (hI : Inv σ) (s : Int32) : Sp yX6_checksum cX6_checksum 2 (some FieldType.int) 8 330 1 6 [.ref bx, .int s] n sh G I J (Qi (fun r_ I_ J_ => cIn s 0 1 = 0 ∧ sumS σ (tn s) = r_ ∧ J = J_ ∧ RelN d I_ (σ) (T + 0) ∧ FB d bg I I_)) (eX (cIn s 0 1) I J) := by
  have hd := hB.hD
  have hord := hB.ord
  have hb := hI.bd
  have hNs := hR.2.2.2.1
  have hN61 := hR.2.2.2.2.1
  have hTm := hR.2.2.2.2.2
  refine Sp.of (by decide) (ls := [(0, .ref bx), (1, .int s)]) (fun _ => rfl) (fun _ => Nat.le_of_ble_eq_true rfl) ?_
  refine rc_p (p_iload_n 1 (dk_at ktX6_checksum_0 0 rfl) rfl rfl (b := 1) rfl) ?_
  refine r_vSX (As := [.int s]) (rest := []) (s_X6_requireSlot s) cw_X6_134 qs_X6_requireSlot (dk_at ktX6_checksum_0 1 rfl) rfl rfl (Nat.le_of_ble_eq_true rfl) (by decide) (b := 4) rfl (fun _ _ _ h => ⟨Or.inl ⟨h.1, cIn_f h.2.1⟩, h.2.2⟩) (fun I1 J2 hq3 => ?_)
  obtain ⟨ok4, rfl, rfl⟩ := hq3
  obtain ⟨q, hq, rfl⟩ := sl_ok ok4
  refine rc_p (p_aload_n 0 (dk_at ktX6_checksum_0 2 rfl) rfl rfl (b := 5) rfl) ?_
  refine r_geta fl_X6_27 rfl hB.l0 hB.s0 (dk_at ktX6_checksum_0 3 rfl) hB.g0_1 (b := 8) rfl ?_
  refine r_geta fl_X6_57 rfl hd.l0 hd.s0 (dk_at ktX6_checksum_0 4 rfl) hd.g0_0 (b := 11) rfl ?_
  refine rc_p (p_iload_n 1 (dk_at ktX6_checksum_0 5 rfl) rfl rfl (b := 12) rfl) ?_
  refine r_iV (As' := [.int (nI q)]) (rest := []) (s_X1_sumOf hd (σ := σ) hR hI q (by omega)) cw_X6_169 qi_X1_sumOf qv_X1_sumOf rfl (hd.lt 1 (by decide)) hd.s1 (dk_at ktX6_checksum_0 6 rfl) rfl rfl (Nat.le_of_ble_eq_true rfl) (by decide) (b := 15) rfl (fun v8 I5 J6 q7 => ?_)
  obtain ⟨rfl, rfl, rfl⟩ := q7
  refine r_iret (dk_at ktX6_checksum_0 7 rfl) rfl rfl ⟨_, rfl, ?_⟩
  refine ⟨cIn_t ok4, ?_, rfl, RelN.of hR (by omega), FB.rf⟩
  rw [show tn (nI q) = q from tn_nI (by omega)]
set_option maxRecDepth 4000 in
set_option maxHeartbeats 4000000 in
theorem s_X6_isBootable {n : Nat} {sh : mS} {G : mG} {I : mI} {J : mJ} {bx bt d be bf bg b0 b1 bv : Nat} {σ : sT} {T N : Nat} (hB : BootH n sh G bx bt d be bf bg b0 b1 bv) (hR : RelD d I σ T N) (hI : Inv σ) (s : Int32) : Sp yX6_isBootable cX6_isBootable 2 (some FieldType.boolean) 8 330 1 6 [.ref bx, .int s] n sh G I J (Qi (fun r_ I_ J_ => cIn s 0 1 = 0 ∧ bi (canB σ (tn s)) = r_ ∧ J = J_ ∧ RelN d I_ (σ) (T + 0) ∧ FB d bg I I_)) (eX (cIn s 0 1) I J) := by
  have hd := hB.hD
  have hord := hB.ord
  have hb := hI.bd
  have hNs := hR.2.2.2.1
  have hN61 := hR.2.2.2.2.1
  have hTm := hR.2.2.2.2.2
  refine Sp.of (by decide) (ls := [(0, .ref bx), (1, .int s)]) (fun _ => rfl) (fun _ => Nat.le_of_ble_eq_true rfl) ?_
  refine rc_p (p_iload_n 1 (dk_at ktX6_isBootable_0 0 rfl) rfl rfl (b := 1) rfl) ?_
  refine r_vSX (As := [.int s]) (rest := []) (s_X6_requireSlot s) cw_X6_134 qs_X6_requireSlot (dk_at ktX6_isBootable_0 1 rfl) rfl rfl (Nat.le_of_ble_eq_true rfl) (by decide) (b := 4) rfl (fun _ _ _ h => ⟨Or.inl ⟨h.1, cIn_f h.2.1⟩, h.2.2⟩) (fun I1 J2 hq3 => ?_)
  obtain ⟨ok4, rfl, rfl⟩ := hq3
  obtain ⟨q, hq, rfl⟩ := sl_ok ok4
  refine rc_p (p_aload_n 0 (dk_at ktX6_isBootable_0 2 rfl) rfl rfl (b := 5) rfl) ?_
  refine r_rV (As' := []) (rest := []) (s_X6_readLedger hB (σ := σ) hR hI) cw_X6_162 qi_X6_readLedger qv_X6_readLedger rfl hB.l0 hB.s0 (dk_at ktX6_isBootable_0 3 rfl) rfl rfl (Nat.le_of_ble_eq_true rfl) (by decide) (b := 8) rfl (fun v8 I5 J6 q7 => ?_)
  obtain ⟨rfl, rfl, hR9, hL11, hF10⟩ := q7
  refine rc_p (p_pop (dk_at ktX6_isBootable_0 4 rfl) rfl (b := 9) rfl) ?_
  refine rc_p (p_aload_n 0 (dk_at ktX6_isBootable_0 5 rfl) rfl rfl (b := 10) rfl) ?_
  refine r_geta fl_X6_27 rfl hB.l0 hB.s0 (dk_at ktX6_isBootable_0 6 rfl) hB.g0_1 (b := 13) rfl ?_
  refine rc_p (p_iload_n 1 (dk_at ktX6_isBootable_0 7 rfl) rfl rfl (b := 14) rfl) ?_
  refine r_iV (As' := [.int (nI q)]) (rest := []) (s_X0_canStart hd (σ := σ) hR9 hI hL11 q (by omega)) cw_X6_166 qi_X0_canStart qv_X0_canStart rfl hd.l0 hd.s0 (dk_at ktX6_isBootable_0 8 rfl) rfl rfl (Nat.le_of_ble_eq_true rfl) (by decide) (b := 17) rfl (fun v15 I12 J13 q14 => ?_)
  obtain ⟨rfl, rfl, rfl⟩ := q14
  refine r_iret (dk_at ktX6_isBootable_0 9 rfl) rfl (bi_nar (canB σ q)) ⟨_, rfl, ?_⟩
  refine ⟨cIn_t ok4, ?_, rfl, RelN.of hR9 (by omega), (FD.fb (os := [0, 1, 2, 3, 4, 5, 6, 7, 8, 9, 10, 11, 12, 13, 14, 15, 16, 17, 18]) (FD.tr FD.rf (hF10.mo (by simp <;> omega))) (by simp <;> omega) (by omega))⟩
  rw [show tn (nI q) = q from tn_nI (by omega)]

/-! THE LAW: kinds of calls -/
set_option maxRecDepth 8000 in
set_option maxHeartbeats 2000000 in
theorem law_c8 {L q B kc ks : Nat} {xs : Nat → Int32} {sh : mS} {G : mG} {I : mI} {J : mJ} {σ : sT} {T : tT} {nn : Nat} {sn : Nat → Option sT} (hq : 4 * q + 4 ≤ L) (hL : L ≤ 2048) (hB : BootH 114 sh G 0 1 7 26 45 64 65 84 103) (hm : ModG 114 sh G 104) (hso : sh 113 = .inr (3, 1)) (h : LSt B I σ T nn sn) (hBB : B + 1000 < 1000000) (hloop : ∀ (I2 : mI) (J2 : mJ) (σ2 : sT) (T2 : tT) (nn2 : Nat) (sn2 : Nat → Option sT), LSt (B + 6) I2 σ2 T2 nn2 sn2 → LG L xs sh G kc ks 2878 (lawLs q) [] I2 J2) : LG L xs sh G (kc + 3) (ks + 18) 593 (lawLs q) [] I J := by
  obtain ⟨hI, hW, ⟨T0, N0, hTB, hD⟩, hTR, hTC, hSR, hSD, hSI, hle⟩ := id h
  refine gc_p (p_aload_n 3 (dk_at ktL_law_3 29 rfl) rfl rfl (b := 594) rfl) ?_
  refine g_callV (ci := 9) (As' := []) (rest := []) (s_X6_power hB hD hI ) cw_L_165 qi_X6_power qv_X6_power rfl (by decide) hB.s0 (dk_at ktL_law_3 30 rfl) rfl rfl (Nat.le_of_ble_eq_true rfl) ⟨by decide, by decide, by omega, by omega⟩ (b := 597) rfl (fun r1 I1 J1 hq1 => ?_)
  obtain ⟨v, rfl, rfl, rfl, hN, hF⟩ := hq1
  refine gc_p (p_aload_n 2 (dk_at ktL_law_3 31 rfl) rfl rfl (b := 598) rfl) ?_
  have hW1 : RelW (I1 (104 + 1)) σ := by rw [hF (104 + 1) (by omega)]; exact hW
  refine g_callV (ci := 10) (As' := []) (rest := [_]) (s_X7_power hm hW1 hI ) cw_L_168 qi_X7_power qv_X7_power rfl (by decide) hm.s0 (dk_at ktL_law_3 32 rfl) rfl rfl (Nat.le_of_ble_eq_true rfl) ⟨by decide, by decide, by omega, by omega⟩ (b := 601) rfl (fun r2 I2 J2 hq2 => ?_)
  obtain ⟨w, rfl, ha, h6, rfl, hW2, hG⟩ := hq2
  have ha := ha rfl
  refine g_icmp_eq (dk_at ktL_law_3 33 rfl) (b := 2878) (by decide) (b2 := 604) rfl (fun _ => ?_) (fun c => absurd ha c)
  exact gc_weak (by omega) (by omega) (hloop _ _ _ _ _ _ (h.st (by omega) (hN.le (by omega)) hF hW2 hG hI))
set_option maxRecDepth 8000 in
set_option maxHeartbeats 2000000 in
theorem law_c9 {L q B kc ks : Nat} {xs : Nat → Int32} {sh : mS} {G : mG} {I : mI} {J : mJ} {σ : sT} {T : tT} {nn : Nat} {sn : Nat → Option sT} (hq : 4 * q + 4 ≤ L) (hL : L ≤ 2048) (hB : BootH 114 sh G 0 1 7 26 45 64 65 84 103) (hm : ModG 114 sh G 104) (hso : sh 113 = .inr (3, 1)) (h : LSt B I σ T nn sn) (hBB : B + 1000 < 1000000) (hloop : ∀ (I2 : mI) (J2 : mJ) (σ2 : sT) (T2 : tT) (nn2 : Nat) (sn2 : Nat → Option sT), LSt (B + 6) I2 σ2 T2 nn2 sn2 → LG L xs sh G kc ks 2878 (lawLs q) [] I2 J2) : LG L xs sh G (kc + 3) (ks + 18) 606 (lawLs q) [] I J := by
  obtain ⟨hI, hW, ⟨T0, N0, hTB, hD⟩, hTR, hTC, hSR, hSD, hSI, hle⟩ := id h
  refine gc_p (p_aload_n 3 (dk_at ktL_law_3 36 rfl) rfl rfl (b := 607) rfl) ?_
  refine g_callV (ci := 9) (As' := []) (rest := []) (s_X6_boot hB hD hI (by omega) ) cw_L_169 qi_X6_boot qv_X6_boot rfl (by decide) hB.s0 (dk_at ktL_law_3 37 rfl) rfl rfl (Nat.le_of_ble_eq_true rfl) ⟨by decide, by decide, by omega, by omega⟩ (b := 610) rfl (fun r1 I1 J1 hq1 => ?_)
  obtain ⟨v, rfl, rfl, rfl, hN, hF⟩ := hq1
  refine gc_p (p_aload_n 2 (dk_at ktL_law_3 38 rfl) rfl rfl (b := 611) rfl) ?_
  have hW1 : RelW (I1 (104 + 1)) σ := by rw [hF (104 + 1) (by omega)]; exact hW
  refine g_callV (ci := 10) (As' := []) (rest := [_]) (s_X7_boot hm hW1 hI ) cw_L_172 qi_X7_boot qv_X7_boot rfl (by decide) hm.s0 (dk_at ktL_law_3 39 rfl) rfl rfl (Nat.le_of_ble_eq_true rfl) ⟨by decide, by decide, by omega, by omega⟩ (b := 614) rfl (fun r2 I2 J2 hq2 => ?_)
  obtain ⟨w, rfl, ha, h6, rfl, hW2, hG⟩ := hq2
  have ha := ha rfl
  refine g_icmp_eq (dk_at ktL_law_3 40 rfl) (b := 2878) (by decide) (b2 := 617) rfl (fun _ => ?_) (fun c => absurd ha c)
  exact gc_weak (by omega) (by omega) (hloop _ _ _ _ _ _ (h.st (by omega) (hN.le (by omega)) hF hW2 hG hI.boot))
set_option maxRecDepth 8000 in
set_option maxHeartbeats 2000000 in
theorem law_c10 {L q B kc ks : Nat} {xs : Nat → Int32} {sh : mS} {G : mG} {I : mI} {J : mJ} {σ : sT} {T : tT} {nn : Nat} {sn : Nat → Option sT} (hq : 4 * q + 4 ≤ L) (hL : L ≤ 2048) (hB : BootH 114 sh G 0 1 7 26 45 64 65 84 103) (hm : ModG 114 sh G 104) (hso : sh 113 = .inr (3, 1)) (h : LSt B I σ T nn sn) (hBB : B + 1000 < 1000000) (hloop : ∀ (I2 : mI) (J2 : mJ) (σ2 : sT) (T2 : tT) (nn2 : Nat) (sn2 : Nat → Option sT), LSt (B + 6) I2 σ2 T2 nn2 sn2 → LG L xs sh G kc ks 2878 (lawLs q) [] I2 J2) : LG L xs sh G (kc + 3) (ks + 18) 619 (lawLs q) [] I J := by
  obtain ⟨hI, hW, ⟨T0, N0, hTB, hD⟩, hTR, hTC, hSR, hSD, hSI, hle⟩ := id h
  refine gc_p (p_aload_n 3 (dk_at ktL_law_3 43 rfl) rfl rfl (b := 620) rfl) ?_
  refine g_callV (ci := 9) (As' := []) (rest := []) (s_X6_running hB hD hI ) cw_L_173 qi_X6_running qv_X6_running rfl (by decide) hB.s0 (dk_at ktL_law_3 44 rfl) rfl rfl (Nat.le_of_ble_eq_true rfl) ⟨by decide, by decide, by omega, by omega⟩ (b := 623) rfl (fun r1 I1 J1 hq1 => ?_)
  obtain ⟨v, rfl, rfl, rfl, hN, hF⟩ := hq1
  refine gc_p (p_aload_n 2 (dk_at ktL_law_3 45 rfl) rfl rfl (b := 624) rfl) ?_
  have hW1 : RelW (I1 (104 + 1)) σ := by rw [hF (104 + 1) (by omega)]; exact hW
  refine g_callV (ci := 10) (As' := []) (rest := [_]) (s_X7_running hm hW1 hI ) cw_L_176 qi_X7_running qv_X7_running rfl (by decide) hm.s0 (dk_at ktL_law_3 46 rfl) rfl rfl (Nat.le_of_ble_eq_true rfl) ⟨by decide, by decide, by omega, by omega⟩ (b := 627) rfl (fun r2 I2 J2 hq2 => ?_)
  obtain ⟨w, rfl, ha, h6, rfl, hW2, hG⟩ := hq2
  have ha := ha rfl
  refine g_icmp_eq (dk_at ktL_law_3 47 rfl) (b := 2878) (by decide) (b2 := 630) rfl (fun _ => ?_) (fun c => absurd ha c)
  exact gc_weak (by omega) (by omega) (hloop _ _ _ _ _ _ (h.st (by omega) (hN.le (by omega)) hF hW2 hG hI))
set_option maxRecDepth 8000 in
set_option maxHeartbeats 2000000 in
theorem law_c11 {L q B kc ks : Nat} {xs : Nat → Int32} {sh : mS} {G : mG} {I : mI} {J : mJ} {σ : sT} {T : tT} {nn : Nat} {sn : Nat → Option sT} (hq : 4 * q + 4 ≤ L) (hL : L ≤ 2048) (hB : BootH 114 sh G 0 1 7 26 45 64 65 84 103) (hm : ModG 114 sh G 104) (hso : sh 113 = .inr (3, 1)) (h : LSt B I σ T nn sn) (hBB : B + 1000 < 1000000) (hloop : ∀ (I2 : mI) (J2 : mJ) (σ2 : sT) (T2 : tT) (nn2 : Nat) (sn2 : Nat → Option sT), LSt (B + 6) I2 σ2 T2 nn2 sn2 → LG L xs sh G kc ks 2878 (lawLs q) [] I2 J2) : LG L xs sh G (kc + 3) (ks + 18) 632 (lawLs q) [] I J := by
  obtain ⟨hI, hW, ⟨T0, N0, hTB, hD⟩, hTR, hTC, hSR, hSD, hSI, hle⟩ := id h
  refine gc_p (p_aload_n 3 (dk_at ktL_law_3 50 rfl) rfl rfl (b := 633) rfl) ?_
  refine g_callV (ci := 9) (As' := []) (rest := []) (s_X6_state hB hD hI ) cw_L_177 qi_X6_state qv_X6_state rfl (by decide) hB.s0 (dk_at ktL_law_3 51 rfl) rfl rfl (Nat.le_of_ble_eq_true rfl) ⟨by decide, by decide, by omega, by omega⟩ (b := 636) rfl (fun r1 I1 J1 hq1 => ?_)
  obtain ⟨v, rfl, rfl, rfl, hN, hF⟩ := hq1
  refine gc_p (p_aload_n 2 (dk_at ktL_law_3 52 rfl) rfl rfl (b := 637) rfl) ?_
  have hW1 : RelW (I1 (104 + 1)) σ := by rw [hF (104 + 1) (by omega)]; exact hW
  refine g_callV (ci := 10) (As' := []) (rest := [_]) (s_X7_state hm hW1 hI ) cw_L_180 qi_X7_state qv_X7_state rfl (by decide) hm.s0 (dk_at ktL_law_3 53 rfl) rfl rfl (Nat.le_of_ble_eq_true rfl) ⟨by decide, by decide, by omega, by omega⟩ (b := 640) rfl (fun r2 I2 J2 hq2 => ?_)
  obtain ⟨w, rfl, ha, h6, rfl, hW2, hG⟩ := hq2
  have ha := ha rfl
  refine g_icmp_eq (dk_at ktL_law_3 54 rfl) (b := 2878) (by decide) (b2 := 643) rfl (fun _ => ?_) (fun c => absurd ha c)
  exact gc_weak (by omega) (by omega) (hloop _ _ _ _ _ _ (h.st (by omega) (hN.le (by omega)) hF hW2 hG hI))
set_option maxRecDepth 8000 in
set_option maxHeartbeats 2000000 in
theorem law_c12 {L q B kc ks : Nat} {xs : Nat → Int32} {sh : mS} {G : mG} {I : mI} {J : mJ} {σ : sT} {T : tT} {nn : Nat} {sn : Nat → Option sT} (hq : 4 * q + 4 ≤ L) (hL : L ≤ 2048) (hB : BootH 114 sh G 0 1 7 26 45 64 65 84 103) (hm : ModG 114 sh G 104) (hso : sh 113 = .inr (3, 1)) (h : LSt B I σ T nn sn) (hBB : B + 1000 < 1000000) (hloop : ∀ (I2 : mI) (J2 : mJ) (σ2 : sT) (T2 : tT) (nn2 : Nat) (sn2 : Nat → Option sT), LSt (B + 6) I2 σ2 T2 nn2 sn2 → LG L xs sh G kc ks 2878 (lawLs q) [] I2 J2) : LG L xs sh G (kc + 3) (ks + 18) 645 (lawLs q) [] I J := by
  obtain ⟨hI, hW, ⟨T0, N0, hTB, hD⟩, hTR, hTC, hSR, hSD, hSI, hle⟩ := id h
  refine gc_p (p_aload_n 3 (dk_at ktL_law_3 57 rfl) rfl rfl (b := 646) rfl) ?_
  refine g_callV (ci := 9) (As' := []) (rest := []) (s_X6_off hB hD hI ) cw_L_181 qi_X6_off qv_X6_off rfl (by decide) hB.s0 (dk_at ktL_law_3 58 rfl) rfl rfl (Nat.le_of_ble_eq_true rfl) ⟨by decide, by decide, by omega, by omega⟩ (b := 649) rfl (fun r1 I1 J1 hq1 => ?_)
  obtain ⟨v, rfl, rfl, rfl, hN, hF⟩ := hq1
  refine gc_p (p_aload_n 2 (dk_at ktL_law_3 59 rfl) rfl rfl (b := 650) rfl) ?_
  have hW1 : RelW (I1 (104 + 1)) σ := by rw [hF (104 + 1) (by omega)]; exact hW
  refine g_callV (ci := 10) (As' := []) (rest := [_]) (s_X7_off hm hW1 hI ) cw_L_185 qi_X7_off qv_X7_off rfl (by decide) hm.s0 (dk_at ktL_law_4 0 rfl) rfl rfl (Nat.le_of_ble_eq_true rfl) ⟨by decide, by decide, by omega, by omega⟩ (b := 653) rfl (fun r2 I2 J2 hq2 => ?_)
  obtain ⟨w, rfl, ha, h6, rfl, hW2, hG⟩ := hq2
  have ha := ha rfl
  refine g_icmp_eq (dk_at ktL_law_4 1 rfl) (b := 2878) (by decide) (b2 := 656) rfl (fun _ => ?_) (fun c => absurd ha c)
  exact gc_weak (by omega) (by omega) (hloop _ _ _ _ _ _ (h.st (by omega) (hN.le (by omega)) hF hW2 hG hI.off))
set_option maxRecDepth 8000 in
set_option maxHeartbeats 2000000 in
theorem law_c13 {L q B kc ks : Nat} {xs : Nat → Int32} {sh : mS} {G : mG} {I : mI} {J : mJ} {σ : sT} {T : tT} {nn : Nat} {sn : Nat → Option sT} (hq : 4 * q + 4 ≤ L) (hL : L ≤ 2048) (hB : BootH 114 sh G 0 1 7 26 45 64 65 84 103) (hm : ModG 114 sh G 104) (hso : sh 113 = .inr (3, 1)) (h : LSt B I σ T nn sn) (hBB : B + 1000 < 1000000) (hloop : ∀ (I2 : mI) (J2 : mJ) (σ2 : sT) (T2 : tT) (nn2 : Nat) (sn2 : Nat → Option sT), LSt (B + 6) I2 σ2 T2 nn2 sn2 → LG L xs sh G kc ks 2878 (lawLs q) [] I2 J2) : LG L xs sh G (kc + 3) (ks + 18) 658 (lawLs q) [] I J := by
  obtain ⟨hI, hW, ⟨T0, N0, hTB, hD⟩, hTR, hTC, hSR, hSD, hSI, hle⟩ := id h
  refine gc_p (p_aload_n 3 (dk_at ktL_law_4 4 rfl) rfl rfl (b := 659) rfl) ?_
  refine gc_p (p_aload_n 4 (dk_at ktL_law_4 5 rfl) rfl rfl (b := 660) rfl) ?_
  refine gc_p (p_iload 0 (dk_at ktL_law_4 6 rfl) rfl (b := 662) rfl) ?_
  refine gc_p (p_iconst (v := nI 1) (dk_at ktL_law_4 7 rfl) (by decide) (b := 663) rfl) ?_
  refine gc_p (p_iadd (v := nI (4 * q + 1)) (dk_at ktL_law_4 8 rfl) (nI_add (4 * q) 1) (b := 664) rfl) ?_
  refine g_sld (j := 4 * q + 1) (dk_at ktL_law_4 9 rfl) rfl ⟨by omega, by omega⟩ (b := 665) rfl ?_
  refine gc_p (p_aload_n 1 (dk_at ktL_law_4 10 rfl) rfl rfl (b := 666) rfl) ?_
  refine g_callW (As := [.ref 0, .int (xs (4 * q + 1)), .ref 113]) (rest := []) (s_L_update ((xs (4 * q + 1))) (s_X6_update hB hD hI (by omega) ((xs (4 * q + 1)))) (by decide) hB.s0 (by decide) hso cIn_2) cwW_L_186 (dk_at ktL_law_4 11 rfl) rfl rfl (Nat.le_of_ble_eq_true rfl) ⟨by decide, by decide, by omega, by omega⟩ (b := 669) rfl (fun r1 I1 J1 hq1 => ?_)
  obtain ⟨k, rfl, hk⟩ := hq1
  obtain ⟨hkc, hN, hF, hj⟩ := WQ.std (T0 := T0) (e := 4) (σ := σ) (σ' := (t_upd (xs (4 * q + 1)) false σ)) hk (RelN.of hD (Nat.le_refl _)) (fun hc => upd_no hc)
  refine gc_p (p_istore (ls' := [(5, .int k), (4, .int (nI (4 * q))), (3, .ref 113), (2, .ref 104), (1, .ref 0), (0, .ref 1300)]) (dk_at ktL_law_4 12 rfl) (by decide) rfl (b := 671) rfl) ?_
  refine gc_p (p_aload_n 3 (dk_at ktL_law_4 13 rfl) rfl rfl (b := 672) rfl) ?_
  refine gc_p (p_aload_n 5 (dk_at ktL_law_4 14 rfl) rfl rfl (b := 673) rfl) ?_
  refine gc_p (p_iload 1 (dk_at ktL_law_4 15 rfl) rfl (b := 675) rfl) ?_
  refine gc_p (p_iconst (v := nI 1) (dk_at ktL_law_4 16 rfl) (by decide) (b := 676) rfl) ?_
  refine gc_p (p_iadd (v := nI (4 * q + 1)) (dk_at ktL_law_4 17 rfl) (nI_add (4 * q) 1) (b := 677) rfl) ?_
  refine g_sld (j := 4 * q + 1) (dk_at ktL_law_4 18 rfl) rfl ⟨by omega, by omega⟩ (b := 678) rfl ?_
  have hW1 : RelW (I1 (104 + 1)) σ := by rw [hF (104 + 1) (by omega)]; exact hW
  refine g_callV (ci := 10) (As' := [.int (xs (4 * q + 1))]) (rest := []) (s_X7_update hm hW1 hI (xs (4 * q + 1))) cw_L_188 qi_X7_update qv_X7_update rfl (by decide) hm.s0 (dk_at ktL_law_4 19 rfl) rfl rfl (Nat.le_of_ble_eq_true rfl) ⟨by decide, by decide, by omega, by omega⟩ (b := 681) rfl (fun r2 I2 J2 hq2 => ?_)
  obtain ⟨w, rfl, ha, h6, rfl, hW2, hG⟩ := hq2
  refine gc_p (p_istore (ls' := [(6, .int w), (5, .int k), (4, .int (nI (4 * q))), (3, .ref 113), (2, .ref 104), (1, .ref 0), (0, .ref 1300)]) (dk_at ktL_law_4 20 rfl) (by decide) rfl (b := 683) rfl) ?_
  refine gc_p (p_aload_n 4 (dk_at ktL_law_4 21 rfl) rfl rfl (b := 684) rfl) ?_
  refine g_callV (ci := 10) (As' := []) (rest := []) (s_X7_thrown hm) cw_L_148 qi_X7_thrown qv_X7_thrown rfl (by decide) hm.s0 (dk_at ktL_law_4 22 rfl) rfl rfl (Nat.le_of_ble_eq_true rfl) ⟨by decide, by decide, by omega, by omega⟩ (b := 687) rfl (fun r3 I3 J3 hq3 => ?_)
  obtain ⟨w3, rfl, rfl, rfl, rfl⟩ := hq3
  refine gc_p (p_iload 1 (dk_at ktL_law_4 23 rfl) rfl (b := 689) rfl) ?_
  refine g_icmp_eq (dk_at ktL_law_4 24 rfl) (b := 694) (by decide) (b2 := 692) rfl (fun _ => ?_) (fun c => absurd (h6.trans hkc.symm) c)
  refine gc_p (p_iload 1 (dk_at ktL_law_4 27 rfl) rfl (b := 696) rfl) ?_
  refine g_if_ne (dk_at ktL_law_4 28 rfl) (b := 711) (by decide) (b2 := 699) rfl (fun c => ?_) (fun c => ?_)
  · refine gc_p (p_goto (b := 2878) (dk_at ktL_law_4 38 rfl) (by decide)) ?_
    refine gc_sub [2, 3, 4, 5, 6] (ls' := [(4, .int (nI (4 * q))), (3, .ref 113), (2, .ref 104), (1, .ref 0), (0, .ref 1300)]) rfl ?_
    exact gc_weak (by omega) (by omega) (hloop _ _ _ _ _ _ (h.st (by omega) (hN.le (by omega)) hF hW2 hG hI.tup))
  · have h0 := hkc.symm.trans c
    have ha := ha h0
    have hj := hj h0
    refine gc_p (p_aload_n 3 (dk_at ktL_law_4 29 rfl) rfl rfl (b := 700) rfl) ?_
    refine gc_p (p_iconst (v := nI 0) (dk_at ktL_law_4 30 rfl) (by decide) (b := 701) rfl) ?_
    refine g_jald (id := 113) (len := 1) (j := 0) (by decide) hso (dk_at ktL_law_4 31 rfl) rfl ⟨by decide, by decide⟩ (v := lI ((fUpd (xs (4 * q + 1)) false σ).1)) hj (b := 702) rfl ?_
    refine gc_p (p_iload 0 (dk_at ktL_law_4 32 rfl) rfl (b := 704) rfl) ?_
    refine gc_p (p_i2l (v := lI w) (dk_at ktL_law_4 33 rfl) rfl (b := 705) rfl) ?_
    refine gc_p (p_lcmp (dk_at ktL_law_4 34 rfl) (b := 706) rfl) ?_
    refine g_if_eq (dk_at ktL_law_4 35 rfl) (b := 711) (by decide) (b2 := 709) rfl (fun _ => ?_) (fun c => absurd ((lg_cmp_eq _ _).mpr (congrArg lI ha)) c)
    refine gc_p (p_goto (b := 2878) (dk_at ktL_law_4 38 rfl) (by decide)) ?_
    refine gc_sub [2, 3, 4, 5, 6] (ls' := [(4, .int (nI (4 * q))), (3, .ref 113), (2, .ref 104), (1, .ref 0), (0, .ref 1300)]) rfl ?_
    exact gc_weak (by omega) (by omega) (hloop _ _ _ _ _ _ (h.st (by omega) (hN.le (by omega)) hF hW2 hG hI.tup))
set_option maxRecDepth 8000 in
set_option maxHeartbeats 2000000 in
theorem law_c14 {L q B kc ks : Nat} {xs : Nat → Int32} {sh : mS} {G : mG} {I : mI} {J : mJ} {σ : sT} {T : tT} {nn : Nat} {sn : Nat → Option sT} (hq : 4 * q + 4 ≤ L) (hL : L ≤ 2048) (hB : BootH 114 sh G 0 1 7 26 45 64 65 84 103) (hm : ModG 114 sh G 104) (hso : sh 113 = .inr (3, 1)) (h : LSt B I σ T nn sn) (hBB : B + 1000 < 1000000) (hloop : ∀ (I2 : mI) (J2 : mJ) (σ2 : sT) (T2 : tT) (nn2 : Nat) (sn2 : Nat → Option sT), LSt (B + 6) I2 σ2 T2 nn2 sn2 → LG L xs sh G kc ks 2878 (lawLs q) [] I2 J2) : LG L xs sh G (kc + 3) (ks + 18) 714 (lawLs q) [] I J := by
  obtain ⟨hI, hW, ⟨T0, N0, hTB, hD⟩, hTR, hTC, hSR, hSD, hSI, hle⟩ := id h
  refine gc_p (p_aload_n 3 (dk_at ktL_law_4 39 rfl) rfl rfl (b := 715) rfl) ?_
  refine gc_p (p_aload_n 4 (dk_at ktL_law_4 40 rfl) rfl rfl (b := 716) rfl) ?_
  refine gc_p (p_iload 0 (dk_at ktL_law_4 41 rfl) rfl (b := 718) rfl) ?_
  refine gc_p (p_iconst (v := nI 1) (dk_at ktL_law_4 42 rfl) (by decide) (b := 719) rfl) ?_
  refine gc_p (p_iadd (v := nI (4 * q + 1)) (dk_at ktL_law_4 43 rfl) (nI_add (4 * q) 1) (b := 720) rfl) ?_
  refine g_sld (j := 4 * q + 1) (dk_at ktL_law_4 44 rfl) rfl ⟨by omega, by omega⟩ (b := 721) rfl ?_
  refine gc_p (p_aload_n 1 (dk_at ktL_law_4 45 rfl) rfl rfl (b := 722) rfl) ?_
  refine g_callW (As := [.ref 0, .int (xs (4 * q + 1)), .ref 113]) (rest := []) (s_L_thriftyUpdate ((xs (4 * q + 1))) (s_X6_thriftyUpdate hB hD hI (by omega) ((xs (4 * q + 1)))) (by decide) hB.s0 (by decide) hso cIn_2) cwW_L_189 (dk_at ktL_law_4 46 rfl) rfl rfl (Nat.le_of_ble_eq_true rfl) ⟨by decide, by decide, by omega, by omega⟩ (b := 725) rfl (fun r1 I1 J1 hq1 => ?_)
  obtain ⟨k, rfl, hk⟩ := hq1
  obtain ⟨hkc, hN, hF, hj⟩ := WQ.std (T0 := T0) (e := 4) (σ := σ) (σ' := (t_upd (xs (4 * q + 1)) true σ)) hk (RelN.of hD (Nat.le_refl _)) (fun hc => upd_no hc)
  refine gc_p (p_istore (ls' := [(5, .int k), (4, .int (nI (4 * q))), (3, .ref 113), (2, .ref 104), (1, .ref 0), (0, .ref 1300)]) (dk_at ktL_law_4 47 rfl) (by decide) rfl (b := 727) rfl) ?_
  refine gc_p (p_aload_n 3 (dk_at ktL_law_4 48 rfl) rfl rfl (b := 728) rfl) ?_
  refine gc_p (p_aload_n 5 (dk_at ktL_law_4 49 rfl) rfl rfl (b := 729) rfl) ?_
  refine gc_p (p_iload 1 (dk_at ktL_law_4 50 rfl) rfl (b := 731) rfl) ?_
  refine gc_p (p_iconst (v := nI 1) (dk_at ktL_law_4 51 rfl) (by decide) (b := 732) rfl) ?_
  refine gc_p (p_iadd (v := nI (4 * q + 1)) (dk_at ktL_law_4 52 rfl) (nI_add (4 * q) 1) (b := 733) rfl) ?_
  refine g_sld (j := 4 * q + 1) (dk_at ktL_law_4 53 rfl) rfl ⟨by omega, by omega⟩ (b := 734) rfl ?_
  have hW1 : RelW (I1 (104 + 1)) σ := by rw [hF (104 + 1) (by omega)]; exact hW
  refine g_callV (ci := 10) (As' := [.int (xs (4 * q + 1))]) (rest := []) (s_X7_thriftyUpdate hm hW1 hI (xs (4 * q + 1))) cw_L_191 qi_X7_thriftyUpdate qv_X7_thriftyUpdate rfl (by decide) hm.s0 (dk_at ktL_law_4 54 rfl) rfl rfl (Nat.le_of_ble_eq_true rfl) ⟨by decide, by decide, by omega, by omega⟩ (b := 737) rfl (fun r2 I2 J2 hq2 => ?_)
  obtain ⟨w, rfl, ha, h6, rfl, hW2, hG⟩ := hq2
  refine gc_p (p_istore (ls' := [(6, .int w), (5, .int k), (4, .int (nI (4 * q))), (3, .ref 113), (2, .ref 104), (1, .ref 0), (0, .ref 1300)]) (dk_at ktL_law_4 55 rfl) (by decide) rfl (b := 739) rfl) ?_
  refine gc_p (p_aload_n 4 (dk_at ktL_law_4 56 rfl) rfl rfl (b := 740) rfl) ?_
  refine g_callV (ci := 10) (As' := []) (rest := []) (s_X7_thrown hm) cw_L_148 qi_X7_thrown qv_X7_thrown rfl (by decide) hm.s0 (dk_at ktL_law_4 57 rfl) rfl rfl (Nat.le_of_ble_eq_true rfl) ⟨by decide, by decide, by omega, by omega⟩ (b := 743) rfl (fun r3 I3 J3 hq3 => ?_)
  obtain ⟨w3, rfl, rfl, rfl, rfl⟩ := hq3
  refine gc_p (p_iload 1 (dk_at ktL_law_4 58 rfl) rfl (b := 745) rfl) ?_
  refine g_icmp_eq (dk_at ktL_law_4 59 rfl) (b := 750) (by decide) (b2 := 748) rfl (fun _ => ?_) (fun c => absurd (h6.trans hkc.symm) c)
  refine gc_p (p_iload 1 (dk_at ktL_law_5 2 rfl) rfl (b := 752) rfl) ?_
  refine g_if_ne (dk_at ktL_law_5 3 rfl) (b := 767) (by decide) (b2 := 755) rfl (fun c => ?_) (fun c => ?_)
  · refine gc_p (p_goto (b := 2878) (dk_at ktL_law_5 13 rfl) (by decide)) ?_
    refine gc_sub [2, 3, 4, 5, 6] (ls' := [(4, .int (nI (4 * q))), (3, .ref 113), (2, .ref 104), (1, .ref 0), (0, .ref 1300)]) rfl ?_
    exact gc_weak (by omega) (by omega) (hloop _ _ _ _ _ _ (h.st (by omega) (hN.le (by omega)) hF hW2 hG hI.tup))
  · have h0 := hkc.symm.trans c
    have ha := ha h0
    have hj := hj h0
    refine gc_p (p_aload_n 3 (dk_at ktL_law_5 4 rfl) rfl rfl (b := 756) rfl) ?_
    refine gc_p (p_iconst (v := nI 0) (dk_at ktL_law_5 5 rfl) (by decide) (b := 757) rfl) ?_
    refine g_jald (id := 113) (len := 1) (j := 0) (by decide) hso (dk_at ktL_law_5 6 rfl) rfl ⟨by decide, by decide⟩ (v := lI ((fUpd (xs (4 * q + 1)) true σ).1)) hj (b := 758) rfl ?_
    refine gc_p (p_iload 0 (dk_at ktL_law_5 7 rfl) rfl (b := 760) rfl) ?_
    refine gc_p (p_i2l (v := lI w) (dk_at ktL_law_5 8 rfl) rfl (b := 761) rfl) ?_
    refine gc_p (p_lcmp (dk_at ktL_law_5 9 rfl) (b := 762) rfl) ?_
    refine g_if_eq (dk_at ktL_law_5 10 rfl) (b := 767) (by decide) (b2 := 765) rfl (fun _ => ?_) (fun c => absurd ((lg_cmp_eq _ _).mpr (congrArg lI ha)) c)
    refine gc_p (p_goto (b := 2878) (dk_at ktL_law_5 13 rfl) (by decide)) ?_
    refine gc_sub [2, 3, 4, 5, 6] (ls' := [(4, .int (nI (4 * q))), (3, .ref 113), (2, .ref 104), (1, .ref 0), (0, .ref 1300)]) rfl ?_
    exact gc_weak (by omega) (by omega) (hloop _ _ _ _ _ _ (h.st (by omega) (hN.le (by omega)) hF hW2 hG hI.tup))
set_option maxRecDepth 8000 in
set_option maxHeartbeats 2000000 in
theorem law_c15 {L q B kc ks : Nat} {xs : Nat → Int32} {sh : mS} {G : mG} {I : mI} {J : mJ} {σ : sT} {T : tT} {nn : Nat} {sn : Nat → Option sT} (hq : 4 * q + 4 ≤ L) (hL : L ≤ 2048) (hB : BootH 114 sh G 0 1 7 26 45 64 65 84 103) (hm : ModG 114 sh G 104) (hso : sh 113 = .inr (3, 1)) (h : LSt B I σ T nn sn) (hBB : B + 1000 < 1000000) (hloop : ∀ (I2 : mI) (J2 : mJ) (σ2 : sT) (T2 : tT) (nn2 : Nat) (sn2 : Nat → Option sT), LSt (B + 6) I2 σ2 T2 nn2 sn2 → LG L xs sh G kc ks 2878 (lawLs q) [] I2 J2) : LG L xs sh G (kc + 3) (ks + 18) 770 (lawLs q) [] I J := by
  obtain ⟨hI, hW, ⟨T0, N0, hTB, hD⟩, hTR, hTC, hSR, hSD, hSI, hle⟩ := id h
  refine gc_p (p_aload_n 3 (dk_at ktL_law_5 14 rfl) rfl rfl (b := 771) rfl) ?_
  refine g_callV (ci := 9) (As' := []) (rest := []) (s_X6_mirror hB hD hI (by omega) ) cw_L_192 qi_X6_mirror qv_X6_mirror rfl (by decide) hB.s0 (dk_at ktL_law_5 15 rfl) rfl rfl (Nat.le_of_ble_eq_true rfl) ⟨by decide, by decide, by omega, by omega⟩ (b := 774) rfl (fun r1 I1 J1 hq1 => ?_)
  obtain ⟨v, rfl, rfl, rfl, hN, hF⟩ := hq1
  refine gc_p (p_aload_n 2 (dk_at ktL_law_5 16 rfl) rfl rfl (b := 775) rfl) ?_
  have hW1 : RelW (I1 (104 + 1)) σ := by rw [hF (104 + 1) (by omega)]; exact hW
  refine g_callV (ci := 10) (As' := []) (rest := [_]) (s_X7_mirror hm hW1 hI ) cw_L_195 qi_X7_mirror qv_X7_mirror rfl (by decide) hm.s0 (dk_at ktL_law_5 17 rfl) rfl rfl (Nat.le_of_ble_eq_true rfl) ⟨by decide, by decide, by omega, by omega⟩ (b := 778) rfl (fun r2 I2 J2 hq2 => ?_)
  obtain ⟨w, rfl, ha, h6, rfl, hW2, hG⟩ := hq2
  have ha := ha rfl
  refine g_icmp_eq (dk_at ktL_law_5 18 rfl) (b := 2878) (by decide) (b2 := 781) rfl (fun _ => ?_) (fun c => absurd ha c)
  exact gc_weak (by omega) (by omega) (hloop _ _ _ _ _ _ (h.st (by omega) (hN.le (by omega)) hF hW2 hG hI.mir))

/-! THE LAW: kinds of calls -/
set_option maxRecDepth 8000 in
set_option maxHeartbeats 2000000 in
theorem law_c56 {L q B kc ks : Nat} {xs : Nat → Int32} {sh : mS} {G : mG} {I : mI} {J : mJ} {σ : sT} {T : tT} {nn : Nat} {sn : Nat → Option sT} (hq : 4 * q + 4 ≤ L) (hL : L ≤ 2048) (hB : BootH 114 sh G 0 1 7 26 45 64 65 84 103) (hm : ModG 114 sh G 104) (hso : sh 113 = .inr (3, 1)) (h : LSt B I σ T nn sn) (hBB : B + 1000 < 1000000) (hloop : ∀ (I2 : mI) (J2 : mJ) (σ2 : sT) (T2 : tT) (nn2 : Nat) (sn2 : Nat → Option sT), LSt (B + 6) I2 σ2 T2 nn2 sn2 → LG L xs sh G kc ks 2878 (lawLs q) [] I2 J2) : LG L xs sh G (kc + 3) (ks + 18) 2603 (lawLs q) [] I J := by
  obtain ⟨hI, hW, ⟨T0, N0, hTB, hD⟩, hTR, hTC, hSR, hSD, hSI, hle⟩ := id h
  refine gc_p (p_aload_n 3 (dk_at ktL_law_24 35 rfl) rfl rfl (b := 2604) rfl) ?_
  refine g_callV (ci := 9) (As' := []) (rest := []) (s_X6_firstBootCut hB hD hI (by omega) ) cw_L_332 qi_X6_firstBootCut qv_X6_firstBootCut rfl (by decide) hB.s0 (dk_at ktL_law_24 36 rfl) rfl rfl (Nat.le_of_ble_eq_true rfl) ⟨by decide, by decide, by omega, by omega⟩ (b := 2607) rfl (fun r1 I1 J1 hq1 => ?_)
  obtain ⟨v, rfl, rfl, rfl, hF⟩ := hq1
  have hN : RelN 7 I1 σ (T0 + 0) := (RelN.of hD (Nat.le_refl _)).fr (fun b _ _ => hF b (by omega))
  have hF : FB 7 64 I I1 := hF.mo (by omega) (by omega)
  refine gc_p (p_aload_n 2 (dk_at ktL_law_24 37 rfl) rfl rfl (b := 2608) rfl) ?_
  have hW1 : RelW (I1 (104 + 1)) σ := by rw [hF (104 + 1) (by omega)]; exact hW
  refine g_callV (ci := 10) (As' := []) (rest := [_]) (s_X7_firstBootCut hm hW1 hI ) cw_L_335 qi_X7_firstBootCut qv_X7_firstBootCut rfl (by decide) hm.s0 (dk_at ktL_law_24 38 rfl) rfl rfl (Nat.le_of_ble_eq_true rfl) ⟨by decide, by decide, by omega, by omega⟩ (b := 2611) rfl (fun r2 I2 J2 hq2 => ?_)
  obtain ⟨w, rfl, ha, h6, rfl, hW2, hG⟩ := hq2
  have ha := ha rfl
  refine g_icmp_eq (dk_at ktL_law_24 39 rfl) (b := 2878) (by decide) (b2 := 2614) rfl (fun _ => ?_) (fun c => absurd ha c)
  exact gc_weak (by omega) (by omega) (hloop _ _ _ _ _ _ (h.st (by omega) (hN.le (by omega)) hF hW2 hG hI))
set_option maxRecDepth 8000 in
set_option maxHeartbeats 2000000 in
theorem law_c57 {L q B kc ks : Nat} {xs : Nat → Int32} {sh : mS} {G : mG} {I : mI} {J : mJ} {σ : sT} {T : tT} {nn : Nat} {sn : Nat → Option sT} (hq : 4 * q + 4 ≤ L) (hL : L ≤ 2048) (hB : BootH 114 sh G 0 1 7 26 45 64 65 84 103) (hm : ModG 114 sh G 104) (hso : sh 113 = .inr (3, 1)) (h : LSt B I σ T nn sn) (hBB : B + 1000 < 1000000) (hloop : ∀ (I2 : mI) (J2 : mJ) (σ2 : sT) (T2 : tT) (nn2 : Nat) (sn2 : Nat → Option sT), LSt (B + 6) I2 σ2 T2 nn2 sn2 → LG L xs sh G kc ks 2878 (lawLs q) [] I2 J2) : LG L xs sh G (kc + 3) (ks + 18) 2616 (lawLs q) [] I J := by
  obtain ⟨hI, hW, ⟨T0, N0, hTB, hD⟩, hTR, hTC, hSR, hSD, hSI, hle⟩ := id h
  refine gc_p (p_aload_n 3 (dk_at ktL_law_24 42 rfl) rfl rfl (b := 2617) rfl) ?_
  refine g_callV (ci := 9) (As' := []) (rest := []) (s_X6_recordsLeft hB hD hI ) cw_L_336 qi_X6_recordsLeft qv_X6_recordsLeft rfl (by decide) hB.s0 (dk_at ktL_law_24 43 rfl) rfl rfl (Nat.le_of_ble_eq_true rfl) ⟨by decide, by decide, by omega, by omega⟩ (b := 2620) rfl (fun r1 I1 J1 hq1 => ?_)
  obtain ⟨v, rfl, rfl, rfl, hN, hF⟩ := hq1
  refine gc_p (p_aload_n 2 (dk_at ktL_law_24 44 rfl) rfl rfl (b := 2621) rfl) ?_
  have hW1 : RelW (I1 (104 + 1)) σ := by rw [hF (104 + 1) (by omega)]; exact hW
  refine g_callV (ci := 10) (As' := []) (rest := [_]) (s_X7_recordsLeft hm hW1 hI ) cw_L_339 qi_X7_recordsLeft qv_X7_recordsLeft rfl (by decide) hm.s0 (dk_at ktL_law_24 45 rfl) rfl rfl (Nat.le_of_ble_eq_true rfl) ⟨by decide, by decide, by omega, by omega⟩ (b := 2624) rfl (fun r2 I2 J2 hq2 => ?_)
  obtain ⟨w, rfl, ha, h6, rfl, hW2, hG⟩ := hq2
  have ha := ha rfl
  refine g_icmp_eq (dk_at ktL_law_24 46 rfl) (b := 2878) (by decide) (b2 := 2627) rfl (fun _ => ?_) (fun c => absurd ha c)
  exact gc_weak (by omega) (by omega) (hloop _ _ _ _ _ _ (h.st (by omega) (hN.le (by omega)) hF hW2 hG hI))
set_option maxRecDepth 8000 in
set_option maxHeartbeats 2000000 in
theorem law_c58 {L q B kc ks : Nat} {xs : Nat → Int32} {sh : mS} {G : mG} {I : mI} {J : mJ} {σ : sT} {T : tT} {nn : Nat} {sn : Nat → Option sT} (hq : 4 * q + 4 ≤ L) (hL : L ≤ 2048) (hB : BootH 114 sh G 0 1 7 26 45 64 65 84 103) (hm : ModG 114 sh G 104) (hso : sh 113 = .inr (3, 1)) (h : LSt B I σ T nn sn) (hBB : B + 1000 < 1000000) (hloop : ∀ (I2 : mI) (J2 : mJ) (σ2 : sT) (T2 : tT) (nn2 : Nat) (sn2 : Nat → Option sT), LSt (B + 6) I2 σ2 T2 nn2 sn2 → LG L xs sh G kc ks 2878 (lawLs q) [] I2 J2) : LG L xs sh G (kc + 3) (ks + 18) 2629 (lawLs q) [] I J := by
  obtain ⟨hI, hW, ⟨T0, N0, hTB, hD⟩, hTR, hTC, hSR, hSD, hSI, hle⟩ := id h
  refine gc_p (p_aload_n 3 (dk_at ktL_law_24 49 rfl) rfl rfl (b := 2630) rfl) ?_
  refine g_callV (ci := 9) (As' := []) (rest := []) (s_X6_logSize hB hD hI ) cw_L_340 qi_X6_logSize qv_X6_logSize rfl (by decide) hB.s0 (dk_at ktL_law_24 50 rfl) rfl rfl (Nat.le_of_ble_eq_true rfl) ⟨by decide, by decide, by omega, by omega⟩ (b := 2633) rfl (fun r1 I1 J1 hq1 => ?_)
  obtain ⟨v, rfl, rfl, rfl, hN, hF⟩ := hq1
  refine gc_p (p_aload_n 2 (dk_at ktL_law_24 51 rfl) rfl rfl (b := 2634) rfl) ?_
  have hW1 : RelW (I1 (104 + 1)) σ := by rw [hF (104 + 1) (by omega)]; exact hW
  refine g_callV (ci := 10) (As' := []) (rest := [_]) (s_X7_logSize hm hW1 hI ) cw_L_343 qi_X7_logSize qv_X7_logSize rfl (by decide) hm.s0 (dk_at ktL_law_24 52 rfl) rfl rfl (Nat.le_of_ble_eq_true rfl) ⟨by decide, by decide, by omega, by omega⟩ (b := 2637) rfl (fun r2 I2 J2 hq2 => ?_)
  obtain ⟨w, rfl, ha, h6, rfl, hW2, hG⟩ := hq2
  have ha := ha rfl
  refine g_icmp_eq (dk_at ktL_law_24 53 rfl) (b := 2878) (by decide) (b2 := 2640) rfl (fun _ => ?_) (fun c => absurd ha c)
  exact gc_weak (by omega) (by omega) (hloop _ _ _ _ _ _ (h.st (by omega) (hN.le (by omega)) hF hW2 hG hI))
set_option maxRecDepth 8000 in
set_option maxHeartbeats 2000000 in
theorem law_c59 {L q B kc ks : Nat} {xs : Nat → Int32} {sh : mS} {G : mG} {I : mI} {J : mJ} {σ : sT} {T : tT} {nn : Nat} {sn : Nat → Option sT} (hq : 4 * q + 4 ≤ L) (hL : L ≤ 2048) (hB : BootH 114 sh G 0 1 7 26 45 64 65 84 103) (hm : ModG 114 sh G 104) (hso : sh 113 = .inr (3, 1)) (h : LSt B I σ T nn sn) (hBB : B + 1000 < 1000000) (hloop : ∀ (I2 : mI) (J2 : mJ) (σ2 : sT) (T2 : tT) (nn2 : Nat) (sn2 : Nat → Option sT), LSt (B + 6) I2 σ2 T2 nn2 sn2 → LG L xs sh G kc ks 2878 (lawLs q) [] I2 J2) : LG L xs sh G (kc + 3) (ks + 18) 2642 (lawLs q) [] I J := by
  obtain ⟨hI, hW, ⟨T0, N0, hTB, hD⟩, hTR, hTC, hSR, hSD, hSI, hle⟩ := id h
  refine gc_p (p_aload_n 3 (dk_at ktL_law_24 56 rfl) rfl rfl (b := 2643) rfl) ?_
  refine gc_p (p_aload_n 4 (dk_at ktL_law_24 57 rfl) rfl rfl (b := 2644) rfl) ?_
  refine gc_p (p_iload 0 (dk_at ktL_law_24 58 rfl) rfl (b := 2646) rfl) ?_
  refine gc_p (p_iconst (v := nI 1) (dk_at ktL_law_24 59 rfl) (by decide) (b := 2647) rfl) ?_
  refine gc_p (p_iadd (v := nI (4 * q + 1)) (dk_at ktL_law_25 0 rfl) (nI_add (4 * q) 1) (b := 2648) rfl) ?_
  refine g_sld (j := 4 * q + 1) (dk_at ktL_law_25 1 rfl) rfl ⟨by omega, by omega⟩ (b := 2649) rfl ?_
  refine gc_p (p_aload_n 4 (dk_at ktL_law_25 2 rfl) rfl rfl (b := 2650) rfl) ?_
  refine gc_p (p_iload 0 (dk_at ktL_law_25 3 rfl) rfl (b := 2652) rfl) ?_
  refine gc_p (p_iconst (v := nI 2) (dk_at ktL_law_25 4 rfl) (by decide) (b := 2653) rfl) ?_
  refine gc_p (p_iadd (v := nI (4 * q + 2)) (dk_at ktL_law_25 5 rfl) (nI_add (4 * q) 2) (b := 2654) rfl) ?_
  refine g_sld (j := 4 * q + 2) (dk_at ktL_law_25 6 rfl) rfl ⟨by omega, by omega⟩ (b := 2655) rfl ?_
  refine gc_p (p_aload_n 1 (dk_at ktL_law_25 7 rfl) rfl rfl (b := 2656) rfl) ?_
  refine g_callW (As := [.ref 0, .int (xs (4 * q + 1)), .int (xs (4 * q + 2)), .ref 113]) (rest := []) (s_L_logEntry ((xs (4 * q + 1))) ((xs (4 * q + 2))) (s_X6_logEntry hB hD hI ((xs (4 * q + 1))) ((xs (4 * q + 2)))) (by decide) hB.s0 (by decide) hso cIn_2) cwW_L_344 (dk_at ktL_law_25 8 rfl) rfl rfl (Nat.le_of_ble_eq_true rfl) ⟨by decide, by decide, by omega, by omega⟩ (b := 2659) rfl (fun r1 I1 J1 hq1 => ?_)
  obtain ⟨k, rfl, hk⟩ := hq1
  obtain ⟨hkc, hN, hF, hj⟩ := WQ.std (T0 := T0) (e := 0) (σ := σ) (σ' := (σ)) hk (RelN.of hD (Nat.le_refl _)) (fun _ => rfl)
  refine gc_p (p_istore (ls' := [(5, .int k), (4, .int (nI (4 * q))), (3, .ref 113), (2, .ref 104), (1, .ref 0), (0, .ref 1300)]) (dk_at ktL_law_25 9 rfl) (by decide) rfl (b := 2661) rfl) ?_
  refine gc_p (p_aload_n 3 (dk_at ktL_law_25 10 rfl) rfl rfl (b := 2662) rfl) ?_
  refine gc_p (p_aload_n 5 (dk_at ktL_law_25 11 rfl) rfl rfl (b := 2663) rfl) ?_
  refine gc_p (p_iload 1 (dk_at ktL_law_25 12 rfl) rfl (b := 2665) rfl) ?_
  refine gc_p (p_iconst (v := nI 1) (dk_at ktL_law_25 13 rfl) (by decide) (b := 2666) rfl) ?_
  refine gc_p (p_iadd (v := nI (4 * q + 1)) (dk_at ktL_law_25 14 rfl) (nI_add (4 * q) 1) (b := 2667) rfl) ?_
  refine g_sld (j := 4 * q + 1) (dk_at ktL_law_25 15 rfl) rfl ⟨by omega, by omega⟩ (b := 2668) rfl ?_
  refine gc_p (p_aload_n 5 (dk_at ktL_law_25 16 rfl) rfl rfl (b := 2669) rfl) ?_
  refine gc_p (p_iload 1 (dk_at ktL_law_25 17 rfl) rfl (b := 2671) rfl) ?_
  refine gc_p (p_iconst (v := nI 2) (dk_at ktL_law_25 18 rfl) (by decide) (b := 2672) rfl) ?_
  refine gc_p (p_iadd (v := nI (4 * q + 2)) (dk_at ktL_law_25 19 rfl) (nI_add (4 * q) 2) (b := 2673) rfl) ?_
  refine g_sld (j := 4 * q + 2) (dk_at ktL_law_25 20 rfl) rfl ⟨by omega, by omega⟩ (b := 2674) rfl ?_
  have hW1 : RelW (I1 (104 + 1)) σ := by rw [hF (104 + 1) (by omega)]; exact hW
  refine g_callV (ci := 10) (As' := [.int (xs (4 * q + 1)), .int (xs (4 * q + 2))]) (rest := []) (s_X7_logEntry hm hW1 hI (xs (4 * q + 1)) (xs (4 * q + 2))) cw_L_346 qi_X7_logEntry qv_X7_logEntry rfl (by decide) hm.s0 (dk_at ktL_law_25 21 rfl) rfl rfl (Nat.le_of_ble_eq_true rfl) ⟨by decide, by decide, by omega, by omega⟩ (b := 2677) rfl (fun r2 I2 J2 hq2 => ?_)
  obtain ⟨w, rfl, ha, h6, rfl, hW2, hG⟩ := hq2
  refine gc_p (p_istore (ls' := [(6, .int w), (5, .int k), (4, .int (nI (4 * q))), (3, .ref 113), (2, .ref 104), (1, .ref 0), (0, .ref 1300)]) (dk_at ktL_law_25 22 rfl) (by decide) rfl (b := 2679) rfl) ?_
  refine gc_p (p_aload_n 4 (dk_at ktL_law_25 23 rfl) rfl rfl (b := 2680) rfl) ?_
  refine g_callV (ci := 10) (As' := []) (rest := []) (s_X7_thrown hm) cw_L_148 qi_X7_thrown qv_X7_thrown rfl (by decide) hm.s0 (dk_at ktL_law_25 24 rfl) rfl rfl (Nat.le_of_ble_eq_true rfl) ⟨by decide, by decide, by omega, by omega⟩ (b := 2683) rfl (fun r3 I3 J3 hq3 => ?_)
  obtain ⟨w3, rfl, rfl, rfl, rfl⟩ := hq3
  refine gc_p (p_iload 1 (dk_at ktL_law_25 25 rfl) rfl (b := 2685) rfl) ?_
  refine g_icmp_eq (dk_at ktL_law_25 26 rfl) (b := 2690) (by decide) (b2 := 2688) rfl (fun _ => ?_) (fun c => absurd (h6.trans hkc.symm) c)
  refine gc_p (p_iload 1 (dk_at ktL_law_25 29 rfl) rfl (b := 2692) rfl) ?_
  refine g_if_ne (dk_at ktL_law_25 30 rfl) (b := 2707) (by decide) (b2 := 2695) rfl (fun c => ?_) (fun c => ?_)
  · refine gc_p (p_goto (b := 2878) (dk_at ktL_law_25 40 rfl) (by decide)) ?_
    refine gc_sub [2, 3, 4, 5, 6] (ls' := [(4, .int (nI (4 * q))), (3, .ref 113), (2, .ref 104), (1, .ref 0), (0, .ref 1300)]) rfl ?_
    exact gc_weak (by omega) (by omega) (hloop _ _ _ _ _ _ (h.st (by omega) (hN.le (by omega)) hF hW2 hG hI))
  · have h0 := hkc.symm.trans c
    have ha := ha h0
    have hj := hj h0
    refine gc_p (p_aload_n 3 (dk_at ktL_law_25 31 rfl) rfl rfl (b := 2696) rfl) ?_
    refine gc_p (p_iconst (v := nI 0) (dk_at ktL_law_25 32 rfl) (by decide) (b := 2697) rfl) ?_
    refine g_jald (id := 113) (len := 1) (j := 0) (by decide) hso (dk_at ktL_law_25 33 rfl) rfl ⟨by decide, by decide⟩ (v := lI (a_entry σ (xs (4 * q + 1)) (xs (4 * q + 2)))) hj (b := 2698) rfl ?_
    refine gc_p (p_iload 0 (dk_at ktL_law_25 34 rfl) rfl (b := 2700) rfl) ?_
    refine gc_p (p_i2l (v := lI w) (dk_at ktL_law_25 35 rfl) rfl (b := 2701) rfl) ?_
    refine gc_p (p_lcmp (dk_at ktL_law_25 36 rfl) (b := 2702) rfl) ?_
    refine g_if_eq (dk_at ktL_law_25 37 rfl) (b := 2707) (by decide) (b2 := 2705) rfl (fun _ => ?_) (fun c => absurd ((lg_cmp_eq _ _).mpr (congrArg lI ha)) c)
    refine gc_p (p_goto (b := 2878) (dk_at ktL_law_25 40 rfl) (by decide)) ?_
    refine gc_sub [2, 3, 4, 5, 6] (ls' := [(4, .int (nI (4 * q))), (3, .ref 113), (2, .ref 104), (1, .ref 0), (0, .ref 1300)]) rfl ?_
    exact gc_weak (by omega) (by omega) (hloop _ _ _ _ _ _ (h.st (by omega) (hN.le (by omega)) hF hW2 hG hI))
set_option maxRecDepth 8000 in
set_option maxHeartbeats 2000000 in
theorem law_c60 {L q B kc ks : Nat} {xs : Nat → Int32} {sh : mS} {G : mG} {I : mI} {J : mJ} {σ : sT} {T : tT} {nn : Nat} {sn : Nat → Option sT} (hq : 4 * q + 4 ≤ L) (hL : L ≤ 2048) (hB : BootH 114 sh G 0 1 7 26 45 64 65 84 103) (hm : ModG 114 sh G 104) (hso : sh 113 = .inr (3, 1)) (h : LSt B I σ T nn sn) (hBB : B + 1000 < 1000000) (hloop : ∀ (I2 : mI) (J2 : mJ) (σ2 : sT) (T2 : tT) (nn2 : Nat) (sn2 : Nat → Option sT), LSt (B + 6) I2 σ2 T2 nn2 sn2 → LG L xs sh G kc ks 2878 (lawLs q) [] I2 J2) : LG L xs sh G (kc + 3) (ks + 18) 2710 (lawLs q) [] I J := by
  obtain ⟨hI, hW, ⟨T0, N0, hTB, hD⟩, hTR, hTC, hSR, hSD, hSI, hle⟩ := id h
  refine gc_p (p_aload_n 3 (dk_at ktL_law_25 41 rfl) rfl rfl (b := 2711) rfl) ?_
  refine gc_p (p_aload_n 4 (dk_at ktL_law_25 42 rfl) rfl rfl (b := 2712) rfl) ?_
  refine gc_p (p_iload 0 (dk_at ktL_law_25 43 rfl) rfl (b := 2714) rfl) ?_
  refine gc_p (p_iconst (v := nI 1) (dk_at ktL_law_25 44 rfl) (by decide) (b := 2715) rfl) ?_
  refine gc_p (p_iadd (v := nI (4 * q + 1)) (dk_at ktL_law_25 45 rfl) (nI_add (4 * q) 1) (b := 2716) rfl) ?_
  refine g_sld (j := 4 * q + 1) (dk_at ktL_law_25 46 rfl) rfl ⟨by omega, by omega⟩ (b := 2717) rfl ?_
  refine gc_p (p_aload_n 1 (dk_at ktL_law_25 47 rfl) rfl rfl (b := 2718) rfl) ?_
  refine g_callW (As := [.ref 0, .int (xs (4 * q + 1)), .ref 113]) (rest := []) (s_L_eventCount ((xs (4 * q + 1))) (s_X6_eventCount hB hD hI ((xs (4 * q + 1)))) (by decide) hB.s0 (by decide) hso cIn_2) cwW_L_347 (dk_at ktL_law_25 48 rfl) rfl rfl (Nat.le_of_ble_eq_true rfl) ⟨by decide, by decide, by omega, by omega⟩ (b := 2721) rfl (fun r1 I1 J1 hq1 => ?_)
  obtain ⟨k, rfl, hk⟩ := hq1
  obtain ⟨hkc, hN, hF, hj⟩ := WQ.std (T0 := T0) (e := 0) (σ := σ) (σ' := (σ)) hk (RelN.of hD (Nat.le_refl _)) (fun _ => rfl)
  refine gc_p (p_istore (ls' := [(5, .int k), (4, .int (nI (4 * q))), (3, .ref 113), (2, .ref 104), (1, .ref 0), (0, .ref 1300)]) (dk_at ktL_law_25 49 rfl) (by decide) rfl (b := 2723) rfl) ?_
  refine gc_p (p_aload_n 3 (dk_at ktL_law_25 50 rfl) rfl rfl (b := 2724) rfl) ?_
  refine gc_p (p_aload_n 5 (dk_at ktL_law_25 51 rfl) rfl rfl (b := 2725) rfl) ?_
  refine gc_p (p_iload 1 (dk_at ktL_law_25 52 rfl) rfl (b := 2727) rfl) ?_
  refine gc_p (p_iconst (v := nI 1) (dk_at ktL_law_25 53 rfl) (by decide) (b := 2728) rfl) ?_
  refine gc_p (p_iadd (v := nI (4 * q + 1)) (dk_at ktL_law_25 54 rfl) (nI_add (4 * q) 1) (b := 2729) rfl) ?_
  refine g_sld (j := 4 * q + 1) (dk_at ktL_law_25 55 rfl) rfl ⟨by omega, by omega⟩ (b := 2730) rfl ?_
  have hW1 : RelW (I1 (104 + 1)) σ := by rw [hF (104 + 1) (by omega)]; exact hW
  refine g_callV (ci := 10) (As' := [.int (xs (4 * q + 1))]) (rest := []) (s_X7_eventCount hm hW1 hI (xs (4 * q + 1))) cw_L_349 qi_X7_eventCount qv_X7_eventCount rfl (by decide) hm.s0 (dk_at ktL_law_25 56 rfl) rfl rfl (Nat.le_of_ble_eq_true rfl) ⟨by decide, by decide, by omega, by omega⟩ (b := 2733) rfl (fun r2 I2 J2 hq2 => ?_)
  obtain ⟨w, rfl, ha, h6, rfl, hW2, hG⟩ := hq2
  refine gc_p (p_istore (ls' := [(6, .int w), (5, .int k), (4, .int (nI (4 * q))), (3, .ref 113), (2, .ref 104), (1, .ref 0), (0, .ref 1300)]) (dk_at ktL_law_25 57 rfl) (by decide) rfl (b := 2735) rfl) ?_
  refine gc_p (p_aload_n 4 (dk_at ktL_law_25 58 rfl) rfl rfl (b := 2736) rfl) ?_
  refine g_callV (ci := 10) (As' := []) (rest := []) (s_X7_thrown hm) cw_L_148 qi_X7_thrown qv_X7_thrown rfl (by decide) hm.s0 (dk_at ktL_law_25 59 rfl) rfl rfl (Nat.le_of_ble_eq_true rfl) ⟨by decide, by decide, by omega, by omega⟩ (b := 2739) rfl (fun r3 I3 J3 hq3 => ?_)
  obtain ⟨w3, rfl, rfl, rfl, rfl⟩ := hq3
  refine gc_p (p_iload 1 (dk_at ktL_law_26 0 rfl) rfl (b := 2741) rfl) ?_
  refine g_icmp_eq (dk_at ktL_law_26 1 rfl) (b := 2746) (by decide) (b2 := 2744) rfl (fun _ => ?_) (fun c => absurd (h6.trans hkc.symm) c)
  refine gc_p (p_iload 1 (dk_at ktL_law_26 4 rfl) rfl (b := 2748) rfl) ?_
  refine g_if_ne (dk_at ktL_law_26 5 rfl) (b := 2763) (by decide) (b2 := 2751) rfl (fun c => ?_) (fun c => ?_)
  · refine gc_p (p_goto (b := 2878) (dk_at ktL_law_26 15 rfl) (by decide)) ?_
    refine gc_sub [2, 3, 4, 5, 6] (ls' := [(4, .int (nI (4 * q))), (3, .ref 113), (2, .ref 104), (1, .ref 0), (0, .ref 1300)]) rfl ?_
    exact gc_weak (by omega) (by omega) (hloop _ _ _ _ _ _ (h.st (by omega) (hN.le (by omega)) hF hW2 hG hI))
  · have h0 := hkc.symm.trans c
    have ha := ha h0
    have hj := hj h0
    refine gc_p (p_aload_n 3 (dk_at ktL_law_26 6 rfl) rfl rfl (b := 2752) rfl) ?_
    refine gc_p (p_iconst (v := nI 0) (dk_at ktL_law_26 7 rfl) (by decide) (b := 2753) rfl) ?_
    refine g_jald (id := 113) (len := 1) (j := 0) (by decide) hso (dk_at ktL_law_26 8 rfl) rfl ⟨by decide, by decide⟩ (v := lI (σ (11 + tn (xs (4 * q + 1))))) hj (b := 2754) rfl ?_
    refine gc_p (p_iload 0 (dk_at ktL_law_26 9 rfl) rfl (b := 2756) rfl) ?_
    refine gc_p (p_i2l (v := lI w) (dk_at ktL_law_26 10 rfl) rfl (b := 2757) rfl) ?_
    refine gc_p (p_lcmp (dk_at ktL_law_26 11 rfl) (b := 2758) rfl) ?_
    refine g_if_eq (dk_at ktL_law_26 12 rfl) (b := 2763) (by decide) (b2 := 2761) rfl (fun _ => ?_) (fun c => absurd ((lg_cmp_eq _ _).mpr (congrArg lI ha)) c)
    refine gc_p (p_goto (b := 2878) (dk_at ktL_law_26 15 rfl) (by decide)) ?_
    refine gc_sub [2, 3, 4, 5, 6] (ls' := [(4, .int (nI (4 * q))), (3, .ref 113), (2, .ref 104), (1, .ref 0), (0, .ref 1300)]) rfl ?_
    exact gc_weak (by omega) (by omega) (hloop _ _ _ _ _ _ (h.st (by omega) (hN.le (by omega)) hF hW2 hG hI))
set_option maxRecDepth 8000 in
set_option maxHeartbeats 2000000 in
theorem law_c61 {L q B kc ks : Nat} {xs : Nat → Int32} {sh : mS} {G : mG} {I : mI} {J : mJ} {σ : sT} {T : tT} {nn : Nat} {sn : Nat → Option sT} (hq : 4 * q + 4 ≤ L) (hL : L ≤ 2048) (hB : BootH 114 sh G 0 1 7 26 45 64 65 84 103) (hm : ModG 114 sh G 104) (hso : sh 113 = .inr (3, 1)) (h : LSt B I σ T nn sn) (hBB : B + 1000 < 1000000) (hloop : ∀ (I2 : mI) (J2 : mJ) (σ2 : sT) (T2 : tT) (nn2 : Nat) (sn2 : Nat → Option sT), LSt (B + 6) I2 σ2 T2 nn2 sn2 → LG L xs sh G kc ks 2878 (lawLs q) [] I2 J2) : LG L xs sh G (kc + 3) (ks + 18) 2766 (lawLs q) [] I J := by
  obtain ⟨hI, hW, ⟨T0, N0, hTB, hD⟩, hTR, hTC, hSR, hSD, hSI, hle⟩ := id h
  refine gc_p (p_aload_n 3 (dk_at ktL_law_26 16 rfl) rfl rfl (b := 2767) rfl) ?_
  refine gc_p (p_aload_n 4 (dk_at ktL_law_26 17 rfl) rfl rfl (b := 2768) rfl) ?_
  refine gc_p (p_iload 0 (dk_at ktL_law_26 18 rfl) rfl (b := 2770) rfl) ?_
  refine gc_p (p_iconst (v := nI 1) (dk_at ktL_law_26 19 rfl) (by decide) (b := 2771) rfl) ?_
  refine gc_p (p_iadd (v := nI (4 * q + 1)) (dk_at ktL_law_26 20 rfl) (nI_add (4 * q) 1) (b := 2772) rfl) ?_
  refine g_sld (j := 4 * q + 1) (dk_at ktL_law_26 21 rfl) rfl ⟨by omega, by omega⟩ (b := 2773) rfl ?_
  refine gc_p (p_aload_n 1 (dk_at ktL_law_26 22 rfl) rfl rfl (b := 2774) rfl) ?_
  refine g_callW (As := [.ref 0, .int (xs (4 * q + 1)), .ref 113]) (rest := []) (s_L_saveSnapshot ((xs (4 * q + 1))) (s_X6_saveSnapshot hB hD hI hTB hSD ((xs (4 * q + 1)))) (by decide) hB.s0 (by decide) hso cIn_2) cwW_L_350 (dk_at ktL_law_26 23 rfl) rfl rfl (Nat.le_of_ble_eq_true rfl) ⟨by decide, by decide, by omega, by omega⟩ (b := 2777) rfl (fun r1 I1 J1 hq1 => ?_)
  obtain ⟨k, rfl, hk⟩ := hq1
  obtain ⟨hkc, hN, hSd, hF, hj⟩ := WQ.sav hk (RelN.of hD (Nat.le_refl _)) hSD
  refine gc_p (p_istore (ls' := [(5, .int k), (4, .int (nI (4 * q))), (3, .ref 113), (2, .ref 104), (1, .ref 0), (0, .ref 1300)]) (dk_at ktL_law_26 24 rfl) (by decide) rfl (b := 2779) rfl) ?_
  refine gc_p (p_aload_n 3 (dk_at ktL_law_26 25 rfl) rfl rfl (b := 2780) rfl) ?_
  refine gc_p (p_aload_n 5 (dk_at ktL_law_26 26 rfl) rfl rfl (b := 2781) rfl) ?_
  refine gc_p (p_iload 1 (dk_at ktL_law_26 27 rfl) rfl (b := 2783) rfl) ?_
  refine gc_p (p_iconst (v := nI 1) (dk_at ktL_law_26 28 rfl) (by decide) (b := 2784) rfl) ?_
  refine gc_p (p_iadd (v := nI (4 * q + 1)) (dk_at ktL_law_26 29 rfl) (nI_add (4 * q) 1) (b := 2785) rfl) ?_
  refine g_sld (j := 4 * q + 1) (dk_at ktL_law_26 30 rfl) rfl ⟨by omega, by omega⟩ (b := 2786) rfl ?_
  have hW1 : RelW (I1 (104 + 1)) σ := by rw [hF (104 + 1) (by omega)]; exact hW
  have hS1 : SnR 104 I1 sn := hSR.of (hF _ (by omega)) (hF _ (by omega)) (hF _ (by omega))
  refine g_callV (ci := 10) (As' := [.int (xs (4 * q + 1))]) (rest := []) (s_X7_saveSnapshot hm hW1 hI sn hS1 (xs (4 * q + 1))) cw_L_352 qi_X7_saveSnapshot qv_X7_saveSnapshot rfl (by decide) hm.s0 (dk_at ktL_law_26 31 rfl) rfl rfl (Nat.le_of_ble_eq_true rfl) ⟨by decide, by decide, by omega, by omega⟩ (b := 2789) rfl (fun r2 I2 J2 hq2 => ?_)
  obtain ⟨w, rfl, ha, h6, rfl, hW2, hS2, hG⟩ := hq2
  refine gc_p (p_istore (ls' := [(6, .int w), (5, .int k), (4, .int (nI (4 * q))), (3, .ref 113), (2, .ref 104), (1, .ref 0), (0, .ref 1300)]) (dk_at ktL_law_26 32 rfl) (by decide) rfl (b := 2791) rfl) ?_
  refine gc_p (p_aload_n 4 (dk_at ktL_law_26 33 rfl) rfl rfl (b := 2792) rfl) ?_
  refine g_callV (ci := 10) (As' := []) (rest := []) (s_X7_thrown hm) cw_L_148 qi_X7_thrown qv_X7_thrown rfl (by decide) hm.s0 (dk_at ktL_law_26 34 rfl) rfl rfl (Nat.le_of_ble_eq_true rfl) ⟨by decide, by decide, by omega, by omega⟩ (b := 2795) rfl (fun r3 I3 J3 hq3 => ?_)
  obtain ⟨w3, rfl, rfl, rfl, rfl⟩ := hq3
  refine gc_p (p_iload 1 (dk_at ktL_law_26 35 rfl) rfl (b := 2797) rfl) ?_
  refine g_icmp_eq (dk_at ktL_law_26 36 rfl) (b := 2802) (by decide) (b2 := 2800) rfl (fun _ => ?_) (fun c => absurd (h6.trans hkc.symm) c)
  refine gc_p (p_iload 1 (dk_at ktL_law_26 39 rfl) rfl (b := 2804) rfl) ?_
  refine g_if_ne (dk_at ktL_law_26 40 rfl) (b := 2819) (by decide) (b2 := 2807) rfl (fun c => ?_) (fun c => ?_)
  · refine gc_p (p_goto (b := 2878) (dk_at ktL_law_26 50 rfl) (by decide)) ?_
    refine gc_sub [2, 3, 4, 5, 6] (ls' := [(4, .int (nI (4 * q))), (3, .ref 113), (2, .ref 104), (1, .ref 0), (0, .ref 1300)]) rfl ?_
    exact gc_weak (by omega) (by omega) (hloop _ _ _ _ _ _ (h.sv (by omega) hTB hN hSd hF hW2 hS2 hG))
  · have h0 := hkc.symm.trans c
    have ha := ha h0
    have hj := hj h0
    refine gc_p (p_aload_n 3 (dk_at ktL_law_26 41 rfl) rfl rfl (b := 2808) rfl) ?_
    refine gc_p (p_iconst (v := nI 0) (dk_at ktL_law_26 42 rfl) (by decide) (b := 2809) rfl) ?_
    refine g_jald (id := 113) (len := 1) (j := 0) (by decide) hso (dk_at ktL_law_26 43 rfl) rfl ⟨by decide, by decide⟩ (v := lI (σ 9)) hj (b := 2810) rfl ?_
    refine gc_p (p_iload 0 (dk_at ktL_law_26 44 rfl) rfl (b := 2812) rfl) ?_
    refine gc_p (p_i2l (v := lI w) (dk_at ktL_law_26 45 rfl) rfl (b := 2813) rfl) ?_
    refine gc_p (p_lcmp (dk_at ktL_law_26 46 rfl) (b := 2814) rfl) ?_
    refine g_if_eq (dk_at ktL_law_26 47 rfl) (b := 2819) (by decide) (b2 := 2817) rfl (fun _ => ?_) (fun c => absurd ((lg_cmp_eq _ _).mpr (congrArg lI ha)) c)
    refine gc_p (p_goto (b := 2878) (dk_at ktL_law_26 50 rfl) (by decide)) ?_
    refine gc_sub [2, 3, 4, 5, 6] (ls' := [(4, .int (nI (4 * q))), (3, .ref 113), (2, .ref 104), (1, .ref 0), (0, .ref 1300)]) rfl ?_
    exact gc_weak (by omega) (by omega) (hloop _ _ _ _ _ _ (h.sv (by omega) hTB hN hSd hF hW2 hS2 hG))
set_option maxRecDepth 8000 in
set_option maxHeartbeats 2000000 in
theorem law_c62 {L q B kc ks : Nat} {xs : Nat → Int32} {sh : mS} {G : mG} {I : mI} {J : mJ} {σ : sT} {T : tT} {nn : Nat} {sn : Nat → Option sT} (hq : 4 * q + 4 ≤ L) (hL : L ≤ 2048) (hB : BootH 114 sh G 0 1 7 26 45 64 65 84 103) (hm : ModG 114 sh G 104) (hso : sh 113 = .inr (3, 1)) (h : LSt B I σ T nn sn) (hBB : B + 1000 < 1000000) (hloop : ∀ (I2 : mI) (J2 : mJ) (σ2 : sT) (T2 : tT) (nn2 : Nat) (sn2 : Nat → Option sT), LSt (B + 6) I2 σ2 T2 nn2 sn2 → LG L xs sh G kc ks 2878 (lawLs q) [] I2 J2) : LG L xs sh G (kc + 3) (ks + 18) 2822 (lawLs q) [] I J := by
  obtain ⟨hI, hW, ⟨T0, N0, hTB, hD⟩, hTR, hTC, hSR, hSD, hSI, hle⟩ := id h
  refine gc_p (p_aload_n 3 (dk_at ktL_law_26 51 rfl) rfl rfl (b := 2823) rfl) ?_
  refine gc_p (p_aload_n 4 (dk_at ktL_law_26 52 rfl) rfl rfl (b := 2824) rfl) ?_
  refine gc_p (p_iload 0 (dk_at ktL_law_26 53 rfl) rfl (b := 2826) rfl) ?_
  refine gc_p (p_iconst (v := nI 1) (dk_at ktL_law_26 54 rfl) (by decide) (b := 2827) rfl) ?_
  refine gc_p (p_iadd (v := nI (4 * q + 1)) (dk_at ktL_law_26 55 rfl) (nI_add (4 * q) 1) (b := 2828) rfl) ?_
  refine g_sld (j := 4 * q + 1) (dk_at ktL_law_26 56 rfl) rfl ⟨by omega, by omega⟩ (b := 2829) rfl ?_
  refine gc_p (p_aload_n 1 (dk_at ktL_law_26 57 rfl) rfl rfl (b := 2830) rfl) ?_
  refine g_callW (As := [.ref 0, .int (xs (4 * q + 1)), .ref 113]) (rest := []) (s_L_restoreSnapshot ((xs (4 * q + 1))) (s_X6_restoreSnapshot hB hD hI hTB hSD ((xs (4 * q + 1)))) (by decide) hB.s0 (by decide) hso cIn_2) cwW_L_353 (dk_at ktL_law_26 58 rfl) rfl rfl (Nat.le_of_ble_eq_true rfl) ⟨by decide, by decide, by omega, by omega⟩ (b := 2833) rfl (fun r1 I1 J1 hq1 => ?_)
  obtain ⟨k, rfl, hk⟩ := hq1
  obtain ⟨hkc, hN, hF, hj⟩ := WQ.std (T0 := B) (e := 0) (σ := σ) (σ' := (rsT (xs (4 * q + 1)) σ sn)) hk (RelN.of hD hTB) rsT_no
  refine gc_p (p_istore (ls' := [(5, .int k), (4, .int (nI (4 * q))), (3, .ref 113), (2, .ref 104), (1, .ref 0), (0, .ref 1300)]) (dk_at ktL_law_26 59 rfl) (by decide) rfl (b := 2835) rfl) ?_
  refine gc_p (p_aload_n 3 (dk_at ktL_law_27 0 rfl) rfl rfl (b := 2836) rfl) ?_
  refine gc_p (p_aload_n 5 (dk_at ktL_law_27 1 rfl) rfl rfl (b := 2837) rfl) ?_
  refine gc_p (p_iload 1 (dk_at ktL_law_27 2 rfl) rfl (b := 2839) rfl) ?_
  refine gc_p (p_iconst (v := nI 1) (dk_at ktL_law_27 3 rfl) (by decide) (b := 2840) rfl) ?_
  refine gc_p (p_iadd (v := nI (4 * q + 1)) (dk_at ktL_law_27 4 rfl) (nI_add (4 * q) 1) (b := 2841) rfl) ?_
  refine g_sld (j := 4 * q + 1) (dk_at ktL_law_27 5 rfl) rfl ⟨by omega, by omega⟩ (b := 2842) rfl ?_
  have hW1 : RelW (I1 (104 + 1)) σ := by rw [hF (104 + 1) (by omega)]; exact hW
  have hS1 : SnR 104 I1 sn := hSR.of (hF _ (by omega)) (hF _ (by omega)) (hF _ (by omega))
  refine g_callV (ci := 10) (As' := [.int (xs (4 * q + 1))]) (rest := []) (s_X7_restoreSnapshot hm hW1 hI sn hS1 hSI (xs (4 * q + 1))) cw_L_355 qi_X7_restoreSnapshot qv_X7_restoreSnapshot rfl (by decide) hm.s0 (dk_at ktL_law_27 6 rfl) rfl rfl (Nat.le_of_ble_eq_true rfl) ⟨by decide, by decide, by omega, by omega⟩ (b := 2845) rfl (fun r2 I2 J2 hq2 => ?_)
  obtain ⟨w, rfl, ha, h6, rfl, hW2, hG⟩ := hq2
  refine gc_p (p_istore (ls' := [(6, .int w), (5, .int k), (4, .int (nI (4 * q))), (3, .ref 113), (2, .ref 104), (1, .ref 0), (0, .ref 1300)]) (dk_at ktL_law_27 7 rfl) (by decide) rfl (b := 2847) rfl) ?_
  refine gc_p (p_aload_n 4 (dk_at ktL_law_27 8 rfl) rfl rfl (b := 2848) rfl) ?_
  refine g_callV (ci := 10) (As' := []) (rest := []) (s_X7_thrown hm) cw_L_148 qi_X7_thrown qv_X7_thrown rfl (by decide) hm.s0 (dk_at ktL_law_27 9 rfl) rfl rfl (Nat.le_of_ble_eq_true rfl) ⟨by decide, by decide, by omega, by omega⟩ (b := 2851) rfl (fun r3 I3 J3 hq3 => ?_)
  obtain ⟨w3, rfl, rfl, rfl, rfl⟩ := hq3
  refine gc_p (p_iload 1 (dk_at ktL_law_27 10 rfl) rfl (b := 2853) rfl) ?_
  refine g_icmp_eq (dk_at ktL_law_27 11 rfl) (b := 2858) (by decide) (b2 := 2856) rfl (fun _ => ?_) (fun c => absurd (h6.trans hkc.symm) c)
  refine gc_p (p_iload 1 (dk_at ktL_law_27 14 rfl) rfl (b := 2860) rfl) ?_
  refine g_if_ne (dk_at ktL_law_27 15 rfl) (b := 2875) (by decide) (b2 := 2863) rfl (fun c => ?_) (fun c => ?_)
  · refine gc_p (p_goto (b := 2878) (dk_at ktL_law_27 25 rfl) (by decide)) ?_
    refine gc_sub [2, 3, 4, 5, 6] (ls' := [(4, .int (nI (4 * q))), (3, .ref 113), (2, .ref 104), (1, .ref 0), (0, .ref 1300)]) rfl ?_
    exact gc_weak (by omega) (by omega) (hloop _ _ _ _ _ _ (h.st (by omega) (hN.le (by omega)) hF hW2 (hG.sub (by simp) (by simp)) (hI.rst hSI)))
  · have h0 := hkc.symm.trans c
    have ha := ha h0
    have hj := hj h0
    refine gc_p (p_aload_n 3 (dk_at ktL_law_27 16 rfl) rfl rfl (b := 2864) rfl) ?_
    refine gc_p (p_iconst (v := nI 0) (dk_at ktL_law_27 17 rfl) (by decide) (b := 2865) rfl) ?_
    refine g_jald (id := 113) (len := 1) (j := 0) (by decide) hso (dk_at ktL_law_27 18 rfl) rfl ⟨by decide, by decide⟩ (v := lI (rsA (xs (4 * q + 1)) sn)) hj (b := 2866) rfl ?_
    refine gc_p (p_iload 0 (dk_at ktL_law_27 19 rfl) rfl (b := 2868) rfl) ?_
    refine gc_p (p_i2l (v := lI w) (dk_at ktL_law_27 20 rfl) rfl (b := 2869) rfl) ?_
    refine gc_p (p_lcmp (dk_at ktL_law_27 21 rfl) (b := 2870) rfl) ?_
    refine g_if_eq (dk_at ktL_law_27 22 rfl) (b := 2875) (by decide) (b2 := 2873) rfl (fun _ => ?_) (fun c => absurd ((lg_cmp_eq _ _).mpr (congrArg lI ha)) c)
    refine gc_p (p_goto (b := 2878) (dk_at ktL_law_27 25 rfl) (by decide)) ?_
    refine gc_sub [2, 3, 4, 5, 6] (ls' := [(4, .int (nI (4 * q))), (3, .ref 113), (2, .ref 104), (1, .ref 0), (0, .ref 1300)]) rfl ?_
    exact gc_weak (by omega) (by omega) (hloop _ _ _ _ _ _ (h.st (by omega) (hN.le (by omega)) hF hW2 (hG.sub (by simp) (by simp)) (hI.rst hSI)))

/-! THE LAW: kinds of calls -/
set_option maxRecDepth 8000 in
set_option maxHeartbeats 2000000 in
theorem law_c16 {L q B kc ks : Nat} {xs : Nat → Int32} {sh : mS} {G : mG} {I : mI} {J : mJ} {σ : sT} {T : tT} {nn : Nat} {sn : Nat → Option sT} (hq : 4 * q + 4 ≤ L) (hL : L ≤ 2048) (hB : BootH 114 sh G 0 1 7 26 45 64 65 84 103) (hm : ModG 114 sh G 104) (hso : sh 113 = .inr (3, 1)) (h : LSt B I σ T nn sn) (hBB : B + 1000 < 1000000) (hloop : ∀ (I2 : mI) (J2 : mJ) (σ2 : sT) (T2 : tT) (nn2 : Nat) (sn2 : Nat → Option sT), LSt (B + 6) I2 σ2 T2 nn2 sn2 → LG L xs sh G kc ks 2878 (lawLs q) [] I2 J2) : LG L xs sh G (kc + 3) (ks + 18) 783 (lawLs q) [] I J := by
  obtain ⟨hI, hW, ⟨T0, N0, hTB, hD⟩, hTR, hTC, hSR, hSD, hSI, hle⟩ := id h
  refine gc_p (p_aload_n 3 (dk_at ktL_law_5 21 rfl) rfl rfl (b := 784) rfl) ?_
  refine g_callV (ci := 9) (As' := []) (rest := []) (s_X6_moveJournal hB hD hI (by omega) ) cw_L_196 qi_X6_moveJournal qv_X6_moveJournal rfl (by decide) hB.s0 (dk_at ktL_law_5 22 rfl) rfl rfl (Nat.le_of_ble_eq_true rfl) ⟨by decide, by decide, by omega, by omega⟩ (b := 787) rfl (fun r1 I1 J1 hq1 => ?_)
  obtain ⟨v, rfl, rfl, rfl, hN, hF⟩ := hq1
  refine gc_p (p_aload_n 2 (dk_at ktL_law_5 23 rfl) rfl rfl (b := 788) rfl) ?_
  have hW1 : RelW (I1 (104 + 1)) σ := by rw [hF (104 + 1) (by omega)]; exact hW
  refine g_callV (ci := 10) (As' := []) (rest := [_]) (s_X7_moveJournal hm hW1 hI ) cw_L_199 qi_X7_moveJournal qv_X7_moveJournal rfl (by decide) hm.s0 (dk_at ktL_law_5 24 rfl) rfl rfl (Nat.le_of_ble_eq_true rfl) ⟨by decide, by decide, by omega, by omega⟩ (b := 791) rfl (fun r2 I2 J2 hq2 => ?_)
  obtain ⟨w, rfl, ha, h6, rfl, hW2, hG⟩ := hq2
  have ha := ha rfl
  refine g_icmp_eq (dk_at ktL_law_5 25 rfl) (b := 2878) (by decide) (b2 := 794) rfl (fun _ => ?_) (fun c => absurd ha c)
  exact gc_weak (by omega) (by omega) (hloop _ _ _ _ _ _ (h.st (by omega) (hN.le (by omega)) hF hW2 hG hI.mvj))
set_option maxRecDepth 8000 in
set_option maxHeartbeats 2000000 in
theorem law_c17 {L q B kc ks : Nat} {xs : Nat → Int32} {sh : mS} {G : mG} {I : mI} {J : mJ} {σ : sT} {T : tT} {nn : Nat} {sn : Nat → Option sT} (hq : 4 * q + 4 ≤ L) (hL : L ≤ 2048) (hB : BootH 114 sh G 0 1 7 26 45 64 65 84 103) (hm : ModG 114 sh G 104) (hso : sh 113 = .inr (3, 1)) (h : LSt B I σ T nn sn) (hBB : B + 1000 < 1000000) (hloop : ∀ (I2 : mI) (J2 : mJ) (σ2 : sT) (T2 : tT) (nn2 : Nat) (sn2 : Nat → Option sT), LSt (B + 6) I2 σ2 T2 nn2 sn2 → LG L xs sh G kc ks 2878 (lawLs q) [] I2 J2) : LG L xs sh G (kc + 3) (ks + 18) 796 (lawLs q) [] I J := by
  obtain ⟨hI, hW, ⟨T0, N0, hTB, hD⟩, hTR, hTC, hSR, hSD, hSI, hle⟩ := id h
  refine gc_p (p_aload_n 3 (dk_at ktL_law_5 28 rfl) rfl rfl (b := 797) rfl) ?_
  refine g_callV (ci := 9) (As' := []) (rest := []) (s_X6_confirm hB hD hI (by omega) ) cw_L_200 qi_X6_confirm qv_X6_confirm rfl (by decide) hB.s0 (dk_at ktL_law_5 29 rfl) rfl rfl (Nat.le_of_ble_eq_true rfl) ⟨by decide, by decide, by omega, by omega⟩ (b := 800) rfl (fun r1 I1 J1 hq1 => ?_)
  obtain ⟨v, rfl, rfl, rfl, hN, hF⟩ := hq1
  refine gc_p (p_aload_n 2 (dk_at ktL_law_5 30 rfl) rfl rfl (b := 801) rfl) ?_
  have hW1 : RelW (I1 (104 + 1)) σ := by rw [hF (104 + 1) (by omega)]; exact hW
  refine g_callV (ci := 10) (As' := []) (rest := [_]) (s_X7_confirm hm hW1 hI ) cw_L_203 qi_X7_confirm qv_X7_confirm rfl (by decide) hm.s0 (dk_at ktL_law_5 31 rfl) rfl rfl (Nat.le_of_ble_eq_true rfl) ⟨by decide, by decide, by omega, by omega⟩ (b := 804) rfl (fun r2 I2 J2 hq2 => ?_)
  obtain ⟨w, rfl, ha, h6, rfl, hW2, hG⟩ := hq2
  have ha := ha rfl
  refine g_icmp_eq (dk_at ktL_law_5 32 rfl) (b := 2878) (by decide) (b2 := 807) rfl (fun _ => ?_) (fun c => absurd ha c)
  exact gc_weak (by omega) (by omega) (hloop _ _ _ _ _ _ (h.st (by omega) (hN.le (by omega)) hF hW2 hG hI.con))
set_option maxRecDepth 8000 in
set_option maxHeartbeats 2000000 in
theorem law_c18 {L q B kc ks : Nat} {xs : Nat → Int32} {sh : mS} {G : mG} {I : mI} {J : mJ} {σ : sT} {T : tT} {nn : Nat} {sn : Nat → Option sT} (hq : 4 * q + 4 ≤ L) (hL : L ≤ 2048) (hB : BootH 114 sh G 0 1 7 26 45 64 65 84 103) (hm : ModG 114 sh G 104) (hso : sh 113 = .inr (3, 1)) (h : LSt B I σ T nn sn) (hBB : B + 1000 < 1000000) (hloop : ∀ (I2 : mI) (J2 : mJ) (σ2 : sT) (T2 : tT) (nn2 : Nat) (sn2 : Nat → Option sT), LSt (B + 6) I2 σ2 T2 nn2 sn2 → LG L xs sh G kc ks 2878 (lawLs q) [] I2 J2) : LG L xs sh G (kc + 3) (ks + 18) 809 (lawLs q) [] I J := by
  obtain ⟨hI, hW, ⟨T0, N0, hTB, hD⟩, hTR, hTC, hSR, hSD, hSI, hle⟩ := id h
  refine gc_p (p_aload_n 3 (dk_at ktL_law_5 35 rfl) rfl rfl (b := 810) rfl) ?_
  refine gc_p (p_aload_n 4 (dk_at ktL_law_5 36 rfl) rfl rfl (b := 811) rfl) ?_
  refine gc_p (p_iload 0 (dk_at ktL_law_5 37 rfl) rfl (b := 813) rfl) ?_
  refine gc_p (p_iconst (v := nI 1) (dk_at ktL_law_5 38 rfl) (by decide) (b := 814) rfl) ?_
  refine gc_p (p_iadd (v := nI (4 * q + 1)) (dk_at ktL_law_5 39 rfl) (nI_add (4 * q) 1) (b := 815) rfl) ?_
  refine g_sld (j := 4 * q + 1) (dk_at ktL_law_5 40 rfl) rfl ⟨by omega, by omega⟩ (b := 816) rfl ?_
  refine gc_p (p_aload_n 4 (dk_at ktL_law_5 41 rfl) rfl rfl (b := 817) rfl) ?_
  refine gc_p (p_iload 0 (dk_at ktL_law_5 42 rfl) rfl (b := 819) rfl) ?_
  refine gc_p (p_iconst (v := nI 2) (dk_at ktL_law_5 43 rfl) (by decide) (b := 820) rfl) ?_
  refine gc_p (p_iadd (v := nI (4 * q + 2)) (dk_at ktL_law_5 44 rfl) (nI_add (4 * q) 2) (b := 821) rfl) ?_
  refine g_sld (j := 4 * q + 2) (dk_at ktL_law_5 45 rfl) rfl ⟨by omega, by omega⟩ (b := 822) rfl ?_
  refine gc_p (p_aload_n 1 (dk_at ktL_law_5 46 rfl) rfl rfl (b := 823) rfl) ?_
  refine g_callW (As := [.ref 0, .int (xs (4 * q + 1)), .int (xs (4 * q + 2)), .ref 113]) (rest := []) (s_L_recover ((xs (4 * q + 1))) ((xs (4 * q + 2))) (s_X6_recover hB hD hI (by omega) ((xs (4 * q + 1))) ((xs (4 * q + 2)))) (by decide) hB.s0 (by decide) hso cRcv_2) cwW_L_204 (dk_at ktL_law_5 47 rfl) rfl rfl (Nat.le_of_ble_eq_true rfl) ⟨by decide, by decide, by omega, by omega⟩ (b := 826) rfl (fun r1 I1 J1 hq1 => ?_)
  obtain ⟨k, rfl, hk⟩ := hq1
  obtain ⟨hkc, hN, hF, hj⟩ := WQ.std (T0 := T0) (e := 4) (σ := σ) (σ' := (t_rcv (xs (4 * q + 1)) (xs (4 * q + 2)) σ)) hk (RelN.of hD (Nat.le_refl _)) (fun hc => if_neg hc)
  refine gc_p (p_istore (ls' := [(5, .int k), (4, .int (nI (4 * q))), (3, .ref 113), (2, .ref 104), (1, .ref 0), (0, .ref 1300)]) (dk_at ktL_law_5 48 rfl) (by decide) rfl (b := 828) rfl) ?_
  refine gc_p (p_aload_n 3 (dk_at ktL_law_5 49 rfl) rfl rfl (b := 829) rfl) ?_
  refine gc_p (p_aload_n 5 (dk_at ktL_law_5 50 rfl) rfl rfl (b := 830) rfl) ?_
  refine gc_p (p_iload 1 (dk_at ktL_law_5 51 rfl) rfl (b := 832) rfl) ?_
  refine gc_p (p_iconst (v := nI 1) (dk_at ktL_law_5 52 rfl) (by decide) (b := 833) rfl) ?_
  refine gc_p (p_iadd (v := nI (4 * q + 1)) (dk_at ktL_law_5 53 rfl) (nI_add (4 * q) 1) (b := 834) rfl) ?_
  refine g_sld (j := 4 * q + 1) (dk_at ktL_law_5 54 rfl) rfl ⟨by omega, by omega⟩ (b := 835) rfl ?_
  refine gc_p (p_aload_n 5 (dk_at ktL_law_5 55 rfl) rfl rfl (b := 836) rfl) ?_
  refine gc_p (p_iload 1 (dk_at ktL_law_5 56 rfl) rfl (b := 838) rfl) ?_
  refine gc_p (p_iconst (v := nI 2) (dk_at ktL_law_5 57 rfl) (by decide) (b := 839) rfl) ?_
  refine gc_p (p_iadd (v := nI (4 * q + 2)) (dk_at ktL_law_5 58 rfl) (nI_add (4 * q) 2) (b := 840) rfl) ?_
  refine g_sld (j := 4 * q + 2) (dk_at ktL_law_5 59 rfl) rfl ⟨by omega, by omega⟩ (b := 841) rfl ?_
  have hW1 : RelW (I1 (104 + 1)) σ := by rw [hF (104 + 1) (by omega)]; exact hW
  refine g_callV (ci := 10) (As' := [.int (xs (4 * q + 1)), .int (xs (4 * q + 2))]) (rest := []) (s_X7_recover hm hW1 hI (xs (4 * q + 1)) (xs (4 * q + 2))) cw_L_207 qi_X7_recover qv_X7_recover rfl (by decide) hm.s0 (dk_at ktL_law_6 0 rfl) rfl rfl (Nat.le_of_ble_eq_true rfl) ⟨by decide, by decide, by omega, by omega⟩ (b := 844) rfl (fun r2 I2 J2 hq2 => ?_)
  obtain ⟨w, rfl, ha, h6, rfl, hW2, hG⟩ := hq2
  refine gc_p (p_istore (ls' := [(6, .int w), (5, .int k), (4, .int (nI (4 * q))), (3, .ref 113), (2, .ref 104), (1, .ref 0), (0, .ref 1300)]) (dk_at ktL_law_6 1 rfl) (by decide) rfl (b := 846) rfl) ?_
  refine gc_p (p_aload_n 4 (dk_at ktL_law_6 2 rfl) rfl rfl (b := 847) rfl) ?_
  refine g_callV (ci := 10) (As' := []) (rest := []) (s_X7_thrown hm) cw_L_148 qi_X7_thrown qv_X7_thrown rfl (by decide) hm.s0 (dk_at ktL_law_6 3 rfl) rfl rfl (Nat.le_of_ble_eq_true rfl) ⟨by decide, by decide, by omega, by omega⟩ (b := 850) rfl (fun r3 I3 J3 hq3 => ?_)
  obtain ⟨w3, rfl, rfl, rfl, rfl⟩ := hq3
  refine gc_p (p_iload 1 (dk_at ktL_law_6 4 rfl) rfl (b := 852) rfl) ?_
  refine g_icmp_eq (dk_at ktL_law_6 5 rfl) (b := 857) (by decide) (b2 := 855) rfl (fun _ => ?_) (fun c => absurd (h6.trans hkc.symm) c)
  refine gc_p (p_iload 1 (dk_at ktL_law_6 8 rfl) rfl (b := 859) rfl) ?_
  refine g_if_ne (dk_at ktL_law_6 9 rfl) (b := 874) (by decide) (b2 := 862) rfl (fun c => ?_) (fun c => ?_)
  · refine gc_p (p_goto (b := 2878) (dk_at ktL_law_6 19 rfl) (by decide)) ?_
    refine gc_sub [2, 3, 4, 5, 6] (ls' := [(4, .int (nI (4 * q))), (3, .ref 113), (2, .ref 104), (1, .ref 0), (0, .ref 1300)]) rfl ?_
    exact gc_weak (by omega) (by omega) (hloop _ _ _ _ _ _ (h.st (by omega) (hN.le (by omega)) hF hW2 hG hI.trc))
  · have h0 := hkc.symm.trans c
    have ha := ha h0
    have hj := hj h0
    refine gc_p (p_aload_n 3 (dk_at ktL_law_6 10 rfl) rfl rfl (b := 863) rfl) ?_
    refine gc_p (p_iconst (v := nI 0) (dk_at ktL_law_6 11 rfl) (by decide) (b := 864) rfl) ?_
    refine g_jald (id := 113) (len := 1) (j := 0) (by decide) hso (dk_at ktL_law_6 12 rfl) rfl ⟨by decide, by decide⟩ (v := lI ((fRcv (tn (xs (4 * q + 1))) (xs (4 * q + 2)) σ).1)) hj (b := 865) rfl ?_
    refine gc_p (p_iload 0 (dk_at ktL_law_6 13 rfl) rfl (b := 867) rfl) ?_
    refine gc_p (p_i2l (v := lI w) (dk_at ktL_law_6 14 rfl) rfl (b := 868) rfl) ?_
    refine gc_p (p_lcmp (dk_at ktL_law_6 15 rfl) (b := 869) rfl) ?_
    refine g_if_eq (dk_at ktL_law_6 16 rfl) (b := 874) (by decide) (b2 := 872) rfl (fun _ => ?_) (fun c => absurd ((lg_cmp_eq _ _).mpr (congrArg lI ha)) c)
    refine gc_p (p_goto (b := 2878) (dk_at ktL_law_6 19 rfl) (by decide)) ?_
    refine gc_sub [2, 3, 4, 5, 6] (ls' := [(4, .int (nI (4 * q))), (3, .ref 113), (2, .ref 104), (1, .ref 0), (0, .ref 1300)]) rfl ?_
    exact gc_weak (by omega) (by omega) (hloop _ _ _ _ _ _ (h.st (by omega) (hN.le (by omega)) hF hW2 hG hI.trc))
set_option maxRecDepth 8000 in
set_option maxHeartbeats 2000000 in
theorem law_c19 {L q B kc ks : Nat} {xs : Nat → Int32} {sh : mS} {G : mG} {I : mI} {J : mJ} {σ : sT} {T : tT} {nn : Nat} {sn : Nat → Option sT} (hq : 4 * q + 4 ≤ L) (hL : L ≤ 2048) (hB : BootH 114 sh G 0 1 7 26 45 64 65 84 103) (hm : ModG 114 sh G 104) (hso : sh 113 = .inr (3, 1)) (h : LSt B I σ T nn sn) (hBB : B + 1000 < 1000000) (hloop : ∀ (I2 : mI) (J2 : mJ) (σ2 : sT) (T2 : tT) (nn2 : Nat) (sn2 : Nat → Option sT), LSt (B + 6) I2 σ2 T2 nn2 sn2 → LG L xs sh G kc ks 2878 (lawLs q) [] I2 J2) : LG L xs sh G (kc + 3) (ks + 18) 877 (lawLs q) [] I J := by
  obtain ⟨hI, hW, ⟨T0, N0, hTB, hD⟩, hTR, hTC, hSR, hSD, hSI, hle⟩ := id h
  refine gc_p (p_aload_n 3 (dk_at ktL_law_6 20 rfl) rfl rfl (b := 878) rfl) ?_
  refine gc_p (p_aload_n 4 (dk_at ktL_law_6 21 rfl) rfl rfl (b := 879) rfl) ?_
  refine gc_p (p_iload 0 (dk_at ktL_law_6 22 rfl) rfl (b := 881) rfl) ?_
  refine gc_p (p_iconst (v := nI 1) (dk_at ktL_law_6 23 rfl) (by decide) (b := 882) rfl) ?_
  refine gc_p (p_iadd (v := nI (4 * q + 1)) (dk_at ktL_law_6 24 rfl) (nI_add (4 * q) 1) (b := 883) rfl) ?_
  refine g_sld (j := 4 * q + 1) (dk_at ktL_law_6 25 rfl) rfl ⟨by omega, by omega⟩ (b := 884) rfl ?_
  refine gc_p (p_aload_n 4 (dk_at ktL_law_6 26 rfl) rfl rfl (b := 885) rfl) ?_
  refine gc_p (p_iload 0 (dk_at ktL_law_6 27 rfl) rfl (b := 887) rfl) ?_
  refine gc_p (p_iconst (v := nI 2) (dk_at ktL_law_6 28 rfl) (by decide) (b := 888) rfl) ?_
  refine gc_p (p_iadd (v := nI (4 * q + 2)) (dk_at ktL_law_6 29 rfl) (nI_add (4 * q) 2) (b := 889) rfl) ?_
  refine g_sld (j := 4 * q + 2) (dk_at ktL_law_6 30 rfl) rfl ⟨by omega, by omega⟩ (b := 890) rfl ?_
  refine gc_p (p_aload_n 1 (dk_at ktL_law_6 31 rfl) rfl rfl (b := 891) rfl) ?_
  refine g_callW (As := [.ref 0, .int (xs (4 * q + 1)), .int (xs (4 * q + 2)), .ref 113]) (rest := []) (s_L_word ((xs (4 * q + 1))) ((xs (4 * q + 2))) (s_X6_word hB hD hI ((xs (4 * q + 1))) ((xs (4 * q + 2)))) (by decide) hB.s0 (by decide) hso cIn_2) cwW_L_208 (dk_at ktL_law_6 32 rfl) rfl rfl (Nat.le_of_ble_eq_true rfl) ⟨by decide, by decide, by omega, by omega⟩ (b := 894) rfl (fun r1 I1 J1 hq1 => ?_)
  obtain ⟨k, rfl, hk⟩ := hq1
  obtain ⟨hkc, hN, hF, hj⟩ := WQ.std (T0 := T0) (e := 0) (σ := σ) (σ' := (σ)) hk (RelN.of hD (Nat.le_refl _)) (fun _ => rfl)
  refine gc_p (p_istore (ls' := [(5, .int k), (4, .int (nI (4 * q))), (3, .ref 113), (2, .ref 104), (1, .ref 0), (0, .ref 1300)]) (dk_at ktL_law_6 33 rfl) (by decide) rfl (b := 896) rfl) ?_
  refine gc_p (p_aload_n 3 (dk_at ktL_law_6 34 rfl) rfl rfl (b := 897) rfl) ?_
  refine gc_p (p_aload_n 5 (dk_at ktL_law_6 35 rfl) rfl rfl (b := 898) rfl) ?_
  refine gc_p (p_iload 1 (dk_at ktL_law_6 36 rfl) rfl (b := 900) rfl) ?_
  refine gc_p (p_iconst (v := nI 1) (dk_at ktL_law_6 37 rfl) (by decide) (b := 901) rfl) ?_
  refine gc_p (p_iadd (v := nI (4 * q + 1)) (dk_at ktL_law_6 38 rfl) (nI_add (4 * q) 1) (b := 902) rfl) ?_
  refine g_sld (j := 4 * q + 1) (dk_at ktL_law_6 39 rfl) rfl ⟨by omega, by omega⟩ (b := 903) rfl ?_
  refine gc_p (p_aload_n 5 (dk_at ktL_law_6 40 rfl) rfl rfl (b := 904) rfl) ?_
  refine gc_p (p_iload 1 (dk_at ktL_law_6 41 rfl) rfl (b := 906) rfl) ?_
  refine gc_p (p_iconst (v := nI 2) (dk_at ktL_law_6 42 rfl) (by decide) (b := 907) rfl) ?_
  refine gc_p (p_iadd (v := nI (4 * q + 2)) (dk_at ktL_law_6 43 rfl) (nI_add (4 * q) 2) (b := 908) rfl) ?_
  refine g_sld (j := 4 * q + 2) (dk_at ktL_law_6 44 rfl) rfl ⟨by omega, by omega⟩ (b := 909) rfl ?_
  have hW1 : RelW (I1 (104 + 1)) σ := by rw [hF (104 + 1) (by omega)]; exact hW
  refine g_callV (ci := 10) (As' := [.int (xs (4 * q + 1)), .int (xs (4 * q + 2))]) (rest := []) (s_X7_word hm hW1 hI (xs (4 * q + 1)) (xs (4 * q + 2))) cw_L_210 qi_X7_word qv_X7_word rfl (by decide) hm.s0 (dk_at ktL_law_6 45 rfl) rfl rfl (Nat.le_of_ble_eq_true rfl) ⟨by decide, by decide, by omega, by omega⟩ (b := 912) rfl (fun r2 I2 J2 hq2 => ?_)
  obtain ⟨w, rfl, ha, h6, rfl, hW2, hG⟩ := hq2
  refine gc_p (p_istore (ls' := [(6, .int w), (5, .int k), (4, .int (nI (4 * q))), (3, .ref 113), (2, .ref 104), (1, .ref 0), (0, .ref 1300)]) (dk_at ktL_law_6 46 rfl) (by decide) rfl (b := 914) rfl) ?_
  refine gc_p (p_aload_n 4 (dk_at ktL_law_6 47 rfl) rfl rfl (b := 915) rfl) ?_
  refine g_callV (ci := 10) (As' := []) (rest := []) (s_X7_thrown hm) cw_L_148 qi_X7_thrown qv_X7_thrown rfl (by decide) hm.s0 (dk_at ktL_law_6 48 rfl) rfl rfl (Nat.le_of_ble_eq_true rfl) ⟨by decide, by decide, by omega, by omega⟩ (b := 918) rfl (fun r3 I3 J3 hq3 => ?_)
  obtain ⟨w3, rfl, rfl, rfl, rfl⟩ := hq3
  refine gc_p (p_iload 1 (dk_at ktL_law_6 49 rfl) rfl (b := 920) rfl) ?_
  refine g_icmp_eq (dk_at ktL_law_6 50 rfl) (b := 925) (by decide) (b2 := 923) rfl (fun _ => ?_) (fun c => absurd (h6.trans hkc.symm) c)
  refine gc_p (p_iload 1 (dk_at ktL_law_6 53 rfl) rfl (b := 927) rfl) ?_
  refine g_if_ne (dk_at ktL_law_6 54 rfl) (b := 942) (by decide) (b2 := 930) rfl (fun c => ?_) (fun c => ?_)
  · refine gc_p (p_goto (b := 2878) (dk_at ktL_law_7 4 rfl) (by decide)) ?_
    refine gc_sub [2, 3, 4, 5, 6] (ls' := [(4, .int (nI (4 * q))), (3, .ref 113), (2, .ref 104), (1, .ref 0), (0, .ref 1300)]) rfl ?_
    exact gc_weak (by omega) (by omega) (hloop _ _ _ _ _ _ (h.st (by omega) (hN.le (by omega)) hF hW2 hG hI))
  · have h0 := hkc.symm.trans c
    have ha := ha h0
    have hj := hj h0
    refine gc_p (p_aload_n 3 (dk_at ktL_law_6 55 rfl) rfl rfl (b := 931) rfl) ?_
    refine gc_p (p_iconst (v := nI 0) (dk_at ktL_law_6 56 rfl) (by decide) (b := 932) rfl) ?_
    refine g_jald (id := 113) (len := 1) (j := 0) (by decide) hso (dk_at ktL_law_6 57 rfl) rfl ⟨by decide, by decide⟩ (v := lI (a_word σ (xs (4 * q + 1)) (xs (4 * q + 2)))) hj (b := 933) rfl ?_
    refine gc_p (p_iload 0 (dk_at ktL_law_6 58 rfl) rfl (b := 935) rfl) ?_
    refine gc_p (p_i2l (v := lI w) (dk_at ktL_law_6 59 rfl) rfl (b := 936) rfl) ?_
    refine gc_p (p_lcmp (dk_at ktL_law_7 0 rfl) (b := 937) rfl) ?_
    refine g_if_eq (dk_at ktL_law_7 1 rfl) (b := 942) (by decide) (b2 := 940) rfl (fun _ => ?_) (fun c => absurd ((lg_cmp_eq _ _).mpr (congrArg lI ha)) c)
    refine gc_p (p_goto (b := 2878) (dk_at ktL_law_7 4 rfl) (by decide)) ?_
    refine gc_sub [2, 3, 4, 5, 6] (ls' := [(4, .int (nI (4 * q))), (3, .ref 113), (2, .ref 104), (1, .ref 0), (0, .ref 1300)]) rfl ?_
    exact gc_weak (by omega) (by omega) (hloop _ _ _ _ _ _ (h.st (by omega) (hN.le (by omega)) hF hW2 hG hI))
set_option maxRecDepth 8000 in
set_option maxHeartbeats 2000000 in
theorem law_c20 {L q B kc ks : Nat} {xs : Nat → Int32} {sh : mS} {G : mG} {I : mI} {J : mJ} {σ : sT} {T : tT} {nn : Nat} {sn : Nat → Option sT} (hq : 4 * q + 4 ≤ L) (hL : L ≤ 2048) (hB : BootH 114 sh G 0 1 7 26 45 64 65 84 103) (hm : ModG 114 sh G 104) (hso : sh 113 = .inr (3, 1)) (h : LSt B I σ T nn sn) (hBB : B + 1000 < 1000000) (hloop : ∀ (I2 : mI) (J2 : mJ) (σ2 : sT) (T2 : tT) (nn2 : Nat) (sn2 : Nat → Option sT), LSt (B + 6) I2 σ2 T2 nn2 sn2 → LG L xs sh G kc ks 2878 (lawLs q) [] I2 J2) : LG L xs sh G (kc + 3) (ks + 18) 945 (lawLs q) [] I J := by
  obtain ⟨hI, hW, ⟨T0, N0, hTB, hD⟩, hTR, hTC, hSR, hSD, hSI, hle⟩ := id h
  refine gc_p (p_aload_n 3 (dk_at ktL_law_7 5 rfl) rfl rfl (b := 946) rfl) ?_
  refine gc_p (p_aload_n 4 (dk_at ktL_law_7 6 rfl) rfl rfl (b := 947) rfl) ?_
  refine gc_p (p_iload 0 (dk_at ktL_law_7 7 rfl) rfl (b := 949) rfl) ?_
  refine gc_p (p_iconst (v := nI 1) (dk_at ktL_law_7 8 rfl) (by decide) (b := 950) rfl) ?_
  refine gc_p (p_iadd (v := nI (4 * q + 1)) (dk_at ktL_law_7 9 rfl) (nI_add (4 * q) 1) (b := 951) rfl) ?_
  refine g_sld (j := 4 * q + 1) (dk_at ktL_law_7 10 rfl) rfl ⟨by omega, by omega⟩ (b := 952) rfl ?_
  refine gc_p (p_aload_n 4 (dk_at ktL_law_7 11 rfl) rfl rfl (b := 953) rfl) ?_
  refine gc_p (p_iload 0 (dk_at ktL_law_7 12 rfl) rfl (b := 955) rfl) ?_
  refine gc_p (p_iconst (v := nI 2) (dk_at ktL_law_7 13 rfl) (by decide) (b := 956) rfl) ?_
  refine gc_p (p_iadd (v := nI (4 * q + 2)) (dk_at ktL_law_7 14 rfl) (nI_add (4 * q) 2) (b := 957) rfl) ?_
  refine g_sld (j := 4 * q + 2) (dk_at ktL_law_7 15 rfl) rfl ⟨by omega, by omega⟩ (b := 958) rfl ?_
  refine gc_p (p_aload_n 1 (dk_at ktL_law_7 16 rfl) rfl rfl (b := 959) rfl) ?_
  refine g_callW (As := [.ref 0, .int (xs (4 * q + 1)), .int (xs (4 * q + 2)), .ref 113]) (rest := []) (s_L_journalWord ((xs (4 * q + 1))) ((xs (4 * q + 2))) (s_X6_journalWord hB hD hI ((xs (4 * q + 1))) ((xs (4 * q + 2)))) (by decide) hB.s0 (by decide) hso cIn_2) cwW_L_211 (dk_at ktL_law_7 17 rfl) rfl rfl (Nat.le_of_ble_eq_true rfl) ⟨by decide, by decide, by omega, by omega⟩ (b := 962) rfl (fun r1 I1 J1 hq1 => ?_)
  obtain ⟨k, rfl, hk⟩ := hq1
  obtain ⟨hkc, hN, hF, hj⟩ := WQ.std (T0 := T0) (e := 0) (σ := σ) (σ' := (σ)) hk (RelN.of hD (Nat.le_refl _)) (fun _ => rfl)
  refine gc_p (p_istore (ls' := [(5, .int k), (4, .int (nI (4 * q))), (3, .ref 113), (2, .ref 104), (1, .ref 0), (0, .ref 1300)]) (dk_at ktL_law_7 18 rfl) (by decide) rfl (b := 964) rfl) ?_
  refine gc_p (p_aload_n 3 (dk_at ktL_law_7 19 rfl) rfl rfl (b := 965) rfl) ?_
  refine gc_p (p_aload_n 5 (dk_at ktL_law_7 20 rfl) rfl rfl (b := 966) rfl) ?_
  refine gc_p (p_iload 1 (dk_at ktL_law_7 21 rfl) rfl (b := 968) rfl) ?_
  refine gc_p (p_iconst (v := nI 1) (dk_at ktL_law_7 22 rfl) (by decide) (b := 969) rfl) ?_
  refine gc_p (p_iadd (v := nI (4 * q + 1)) (dk_at ktL_law_7 23 rfl) (nI_add (4 * q) 1) (b := 970) rfl) ?_
  refine g_sld (j := 4 * q + 1) (dk_at ktL_law_7 24 rfl) rfl ⟨by omega, by omega⟩ (b := 971) rfl ?_
  refine gc_p (p_aload_n 5 (dk_at ktL_law_7 25 rfl) rfl rfl (b := 972) rfl) ?_
  refine gc_p (p_iload 1 (dk_at ktL_law_7 26 rfl) rfl (b := 974) rfl) ?_
  refine gc_p (p_iconst (v := nI 2) (dk_at ktL_law_7 27 rfl) (by decide) (b := 975) rfl) ?_
  refine gc_p (p_iadd (v := nI (4 * q + 2)) (dk_at ktL_law_7 28 rfl) (nI_add (4 * q) 2) (b := 976) rfl) ?_
  refine g_sld (j := 4 * q + 2) (dk_at ktL_law_7 29 rfl) rfl ⟨by omega, by omega⟩ (b := 977) rfl ?_
  have hW1 : RelW (I1 (104 + 1)) σ := by rw [hF (104 + 1) (by omega)]; exact hW
  refine g_callV (ci := 10) (As' := [.int (xs (4 * q + 1)), .int (xs (4 * q + 2))]) (rest := []) (s_X7_journalWord hm hW1 hI (xs (4 * q + 1)) (xs (4 * q + 2))) cw_L_213 qi_X7_journalWord qv_X7_journalWord rfl (by decide) hm.s0 (dk_at ktL_law_7 30 rfl) rfl rfl (Nat.le_of_ble_eq_true rfl) ⟨by decide, by decide, by omega, by omega⟩ (b := 980) rfl (fun r2 I2 J2 hq2 => ?_)
  obtain ⟨w, rfl, ha, h6, rfl, hW2, hG⟩ := hq2
  refine gc_p (p_istore (ls' := [(6, .int w), (5, .int k), (4, .int (nI (4 * q))), (3, .ref 113), (2, .ref 104), (1, .ref 0), (0, .ref 1300)]) (dk_at ktL_law_7 31 rfl) (by decide) rfl (b := 982) rfl) ?_
  refine gc_p (p_aload_n 4 (dk_at ktL_law_7 32 rfl) rfl rfl (b := 983) rfl) ?_
  refine g_callV (ci := 10) (As' := []) (rest := []) (s_X7_thrown hm) cw_L_148 qi_X7_thrown qv_X7_thrown rfl (by decide) hm.s0 (dk_at ktL_law_7 33 rfl) rfl rfl (Nat.le_of_ble_eq_true rfl) ⟨by decide, by decide, by omega, by omega⟩ (b := 986) rfl (fun r3 I3 J3 hq3 => ?_)
  obtain ⟨w3, rfl, rfl, rfl, rfl⟩ := hq3
  refine gc_p (p_iload 1 (dk_at ktL_law_7 34 rfl) rfl (b := 988) rfl) ?_
  refine g_icmp_eq (dk_at ktL_law_7 35 rfl) (b := 993) (by decide) (b2 := 991) rfl (fun _ => ?_) (fun c => absurd (h6.trans hkc.symm) c)
  refine gc_p (p_iload 1 (dk_at ktL_law_7 38 rfl) rfl (b := 995) rfl) ?_
  refine g_if_ne (dk_at ktL_law_7 39 rfl) (b := 1010) (by decide) (b2 := 998) rfl (fun c => ?_) (fun c => ?_)
  · refine gc_p (p_goto (b := 2878) (dk_at ktL_law_7 49 rfl) (by decide)) ?_
    refine gc_sub [2, 3, 4, 5, 6] (ls' := [(4, .int (nI (4 * q))), (3, .ref 113), (2, .ref 104), (1, .ref 0), (0, .ref 1300)]) rfl ?_
    exact gc_weak (by omega) (by omega) (hloop _ _ _ _ _ _ (h.st (by omega) (hN.le (by omega)) hF hW2 hG hI))
  · have h0 := hkc.symm.trans c
    have ha := ha h0
    have hj := hj h0
    refine gc_p (p_aload_n 3 (dk_at ktL_law_7 40 rfl) rfl rfl (b := 999) rfl) ?_
    refine gc_p (p_iconst (v := nI 0) (dk_at ktL_law_7 41 rfl) (by decide) (b := 1000) rfl) ?_
    refine g_jald (id := 113) (len := 1) (j := 0) (by decide) hso (dk_at ktL_law_7 42 rfl) rfl ⟨by decide, by decide⟩ (v := lI (a_jword σ (xs (4 * q + 1)) (xs (4 * q + 2)))) hj (b := 1001) rfl ?_
    refine gc_p (p_iload 0 (dk_at ktL_law_7 43 rfl) rfl (b := 1003) rfl) ?_
    refine gc_p (p_i2l (v := lI w) (dk_at ktL_law_7 44 rfl) rfl (b := 1004) rfl) ?_
    refine gc_p (p_lcmp (dk_at ktL_law_7 45 rfl) (b := 1005) rfl) ?_
    refine g_if_eq (dk_at ktL_law_7 46 rfl) (b := 1010) (by decide) (b2 := 1008) rfl (fun _ => ?_) (fun c => absurd ((lg_cmp_eq _ _).mpr (congrArg lI ha)) c)
    refine gc_p (p_goto (b := 2878) (dk_at ktL_law_7 49 rfl) (by decide)) ?_
    refine gc_sub [2, 3, 4, 5, 6] (ls' := [(4, .int (nI (4 * q))), (3, .ref 113), (2, .ref 104), (1, .ref 0), (0, .ref 1300)]) rfl ?_
    exact gc_weak (by omega) (by omega) (hloop _ _ _ _ _ _ (h.st (by omega) (hN.le (by omega)) hF hW2 hG hI))
set_option maxRecDepth 8000 in
set_option maxHeartbeats 2000000 in
theorem law_c21 {L q B kc ks : Nat} {xs : Nat → Int32} {sh : mS} {G : mG} {I : mI} {J : mJ} {σ : sT} {T : tT} {nn : Nat} {sn : Nat → Option sT} (hq : 4 * q + 4 ≤ L) (hL : L ≤ 2048) (hB : BootH 114 sh G 0 1 7 26 45 64 65 84 103) (hm : ModG 114 sh G 104) (hso : sh 113 = .inr (3, 1)) (h : LSt B I σ T nn sn) (hBB : B + 1000 < 1000000) (hloop : ∀ (I2 : mI) (J2 : mJ) (σ2 : sT) (T2 : tT) (nn2 : Nat) (sn2 : Nat → Option sT), LSt (B + 6) I2 σ2 T2 nn2 sn2 → LG L xs sh G kc ks 2878 (lawLs q) [] I2 J2) : LG L xs sh G (kc + 3) (ks + 18) 1013 (lawLs q) [] I J := by
  obtain ⟨hI, hW, ⟨T0, N0, hTB, hD⟩, hTR, hTC, hSR, hSD, hSI, hle⟩ := id h
  refine gc_p (p_aload_n 3 (dk_at ktL_law_7 50 rfl) rfl rfl (b := 1014) rfl) ?_
  refine gc_p (p_aload_n 4 (dk_at ktL_law_7 51 rfl) rfl rfl (b := 1015) rfl) ?_
  refine gc_p (p_iload 0 (dk_at ktL_law_7 52 rfl) rfl (b := 1017) rfl) ?_
  refine gc_p (p_iconst (v := nI 1) (dk_at ktL_law_7 53 rfl) (by decide) (b := 1018) rfl) ?_
  refine gc_p (p_iadd (v := nI (4 * q + 1)) (dk_at ktL_law_7 54 rfl) (nI_add (4 * q) 1) (b := 1019) rfl) ?_
  refine g_sld (j := 4 * q + 1) (dk_at ktL_law_7 55 rfl) rfl ⟨by omega, by omega⟩ (b := 1020) rfl ?_
  refine gc_p (p_aload_n 4 (dk_at ktL_law_7 56 rfl) rfl rfl (b := 1021) rfl) ?_
  refine gc_p (p_iload 0 (dk_at ktL_law_7 57 rfl) rfl (b := 1023) rfl) ?_
  refine gc_p (p_iconst (v := nI 2) (dk_at ktL_law_7 58 rfl) (by decide) (b := 1024) rfl) ?_
  refine gc_p (p_iadd (v := nI (4 * q + 2)) (dk_at ktL_law_7 59 rfl) (nI_add (4 * q) 2) (b := 1025) rfl) ?_
  refine g_sld (j := 4 * q + 2) (dk_at ktL_law_8 0 rfl) rfl ⟨by omega, by omega⟩ (b := 1026) rfl ?_
  refine gc_p (p_aload_n 1 (dk_at ktL_law_8 1 rfl) rfl rfl (b := 1027) rfl) ?_
  refine g_callW (As := [.ref 0, .int (xs (4 * q + 1)), .int (xs (4 * q + 2)), .ref 113]) (rest := []) (s_L_wear ((xs (4 * q + 1))) ((xs (4 * q + 2))) (s_X6_wear hB hD hI ((xs (4 * q + 1))) ((xs (4 * q + 2)))) (by decide) hB.s0 (by decide) hso) cwW_L_214 (dk_at ktL_law_8 2 rfl) rfl rfl (Nat.le_of_ble_eq_true rfl) ⟨by decide, by decide, by omega, by omega⟩ (b := 1030) rfl (fun r1 I1 J1 hq1 => ?_)
  obtain ⟨k, rfl, hk⟩ := hq1
  obtain ⟨hkc, hN, hF, hj⟩ := WQ.std (T0 := T0) (e := 0) (σ := σ) (σ' := (σ)) hk (RelN.of hD (Nat.le_refl _)) (fun _ => rfl)
  refine gc_p (p_istore (ls' := [(5, .int k), (4, .int (nI (4 * q))), (3, .ref 113), (2, .ref 104), (1, .ref 0), (0, .ref 1300)]) (dk_at ktL_law_8 3 rfl) (by decide) rfl (b := 1032) rfl) ?_
  refine gc_p (p_aload_n 3 (dk_at ktL_law_8 4 rfl) rfl rfl (b := 1033) rfl) ?_
  refine gc_p (p_aload_n 5 (dk_at ktL_law_8 5 rfl) rfl rfl (b := 1034) rfl) ?_
  refine gc_p (p_iload 1 (dk_at ktL_law_8 6 rfl) rfl (b := 1036) rfl) ?_
  refine gc_p (p_iconst (v := nI 1) (dk_at ktL_law_8 7 rfl) (by decide) (b := 1037) rfl) ?_
  refine gc_p (p_iadd (v := nI (4 * q + 1)) (dk_at ktL_law_8 8 rfl) (nI_add (4 * q) 1) (b := 1038) rfl) ?_
  refine g_sld (j := 4 * q + 1) (dk_at ktL_law_8 9 rfl) rfl ⟨by omega, by omega⟩ (b := 1039) rfl ?_
  refine gc_p (p_aload_n 5 (dk_at ktL_law_8 10 rfl) rfl rfl (b := 1040) rfl) ?_
  refine gc_p (p_iload 1 (dk_at ktL_law_8 11 rfl) rfl (b := 1042) rfl) ?_
  refine gc_p (p_iconst (v := nI 2) (dk_at ktL_law_8 12 rfl) (by decide) (b := 1043) rfl) ?_
  refine gc_p (p_iadd (v := nI (4 * q + 2)) (dk_at ktL_law_8 13 rfl) (nI_add (4 * q) 2) (b := 1044) rfl) ?_
  refine g_sld (j := 4 * q + 2) (dk_at ktL_law_8 14 rfl) rfl ⟨by omega, by omega⟩ (b := 1045) rfl ?_
  have hW1 : RelW (I1 (104 + 1)) σ := by rw [hF (104 + 1) (by omega)]; exact hW
  refine g_callV (ci := 10) (As' := [.int (xs (4 * q + 1)), .int (xs (4 * q + 2))]) (rest := []) (s_X7_wear hm hW1 hI (xs (4 * q + 1)) (xs (4 * q + 2))) cw_L_216 qi_X7_wear qv_X7_wear rfl (by decide) hm.s0 (dk_at ktL_law_8 15 rfl) rfl rfl (Nat.le_of_ble_eq_true rfl) ⟨by decide, by decide, by omega, by omega⟩ (b := 1048) rfl (fun r2 I2 J2 hq2 => ?_)
  obtain ⟨w, rfl, ha, h6, rfl, hW2, hG⟩ := hq2
  refine gc_p (p_istore (ls' := [(6, .int w), (5, .int k), (4, .int (nI (4 * q))), (3, .ref 113), (2, .ref 104), (1, .ref 0), (0, .ref 1300)]) (dk_at ktL_law_8 16 rfl) (by decide) rfl (b := 1050) rfl) ?_
  refine gc_p (p_aload_n 4 (dk_at ktL_law_8 17 rfl) rfl rfl (b := 1051) rfl) ?_
  refine g_callV (ci := 10) (As' := []) (rest := []) (s_X7_thrown hm) cw_L_148 qi_X7_thrown qv_X7_thrown rfl (by decide) hm.s0 (dk_at ktL_law_8 18 rfl) rfl rfl (Nat.le_of_ble_eq_true rfl) ⟨by decide, by decide, by omega, by omega⟩ (b := 1054) rfl (fun r3 I3 J3 hq3 => ?_)
  obtain ⟨w3, rfl, rfl, rfl, rfl⟩ := hq3
  refine gc_p (p_iload 1 (dk_at ktL_law_8 19 rfl) rfl (b := 1056) rfl) ?_
  refine g_icmp_eq (dk_at ktL_law_8 20 rfl) (b := 1061) (by decide) (b2 := 1059) rfl (fun _ => ?_) (fun c => absurd (h6.trans hkc.symm) c)
  refine gc_p (p_iload 1 (dk_at ktL_law_8 23 rfl) rfl (b := 1063) rfl) ?_
  refine g_if_ne (dk_at ktL_law_8 24 rfl) (b := 1078) (by decide) (b2 := 1066) rfl (fun c => ?_) (fun c => ?_)
  · refine gc_p (p_goto (b := 2878) (dk_at ktL_law_8 34 rfl) (by decide)) ?_
    refine gc_sub [2, 3, 4, 5, 6] (ls' := [(4, .int (nI (4 * q))), (3, .ref 113), (2, .ref 104), (1, .ref 0), (0, .ref 1300)]) rfl ?_
    exact gc_weak (by omega) (by omega) (hloop _ _ _ _ _ _ (h.st (by omega) (hN.le (by omega)) hF hW2 hG hI))
  · have h0 := hkc.symm.trans c
    have ha := ha h0
    have hj := hj h0
    refine gc_p (p_aload_n 3 (dk_at ktL_law_8 25 rfl) rfl rfl (b := 1067) rfl) ?_
    refine gc_p (p_iconst (v := nI 0) (dk_at ktL_law_8 26 rfl) (by decide) (b := 1068) rfl) ?_
    refine g_jald (id := 113) (len := 1) (j := 0) (by decide) hso (dk_at ktL_law_8 27 rfl) rfl ⟨by decide, by decide⟩ (v := lI (a_wear σ (xs (4 * q + 1)) (xs (4 * q + 2)))) hj (b := 1069) rfl ?_
    refine gc_p (p_iload 0 (dk_at ktL_law_8 28 rfl) rfl (b := 1071) rfl) ?_
    refine gc_p (p_i2l (v := lI w) (dk_at ktL_law_8 29 rfl) rfl (b := 1072) rfl) ?_
    refine gc_p (p_lcmp (dk_at ktL_law_8 30 rfl) (b := 1073) rfl) ?_
    refine g_if_eq (dk_at ktL_law_8 31 rfl) (b := 1078) (by decide) (b2 := 1076) rfl (fun _ => ?_) (fun c => absurd ((lg_cmp_eq _ _).mpr (congrArg lI ha)) c)
    refine gc_p (p_goto (b := 2878) (dk_at ktL_law_8 34 rfl) (by decide)) ?_
    refine gc_sub [2, 3, 4, 5, 6] (ls' := [(4, .int (nI (4 * q))), (3, .ref 113), (2, .ref 104), (1, .ref 0), (0, .ref 1300)]) rfl ?_
    exact gc_weak (by omega) (by omega) (hloop _ _ _ _ _ _ (h.st (by omega) (hN.le (by omega)) hF hW2 hG hI))
set_option maxRecDepth 8000 in
set_option maxHeartbeats 2000000 in
theorem law_c22 {L q B kc ks : Nat} {xs : Nat → Int32} {sh : mS} {G : mG} {I : mI} {J : mJ} {σ : sT} {T : tT} {nn : Nat} {sn : Nat → Option sT} (hq : 4 * q + 4 ≤ L) (hL : L ≤ 2048) (hB : BootH 114 sh G 0 1 7 26 45 64 65 84 103) (hm : ModG 114 sh G 104) (hso : sh 113 = .inr (3, 1)) (h : LSt B I σ T nn sn) (hBB : B + 1000 < 1000000) (hloop : ∀ (I2 : mI) (J2 : mJ) (σ2 : sT) (T2 : tT) (nn2 : Nat) (sn2 : Nat → Option sT), LSt (B + 6) I2 σ2 T2 nn2 sn2 → LG L xs sh G kc ks 2878 (lawLs q) [] I2 J2) : LG L xs sh G (kc + 3) (ks + 18) 1081 (lawLs q) [] I J := by
  obtain ⟨hI, hW, ⟨T0, N0, hTB, hD⟩, hTR, hTC, hSR, hSD, hSI, hle⟩ := id h
  refine gc_p (p_aload_n 3 (dk_at ktL_law_8 35 rfl) rfl rfl (b := 1082) rfl) ?_
  refine g_callV (ci := 9) (As' := []) (rest := []) (s_X6_mostWorn hB hD hI ) cw_L_217 qi_X6_mostWorn qv_X6_mostWorn rfl (by decide) hB.s0 (dk_at ktL_law_8 36 rfl) rfl rfl (Nat.le_of_ble_eq_true rfl) ⟨by decide, by decide, by omega, by omega⟩ (b := 1085) rfl (fun r1 I1 J1 hq1 => ?_)
  obtain ⟨v, rfl, rfl, rfl, hN, hF⟩ := hq1
  refine gc_p (p_aload_n 2 (dk_at ktL_law_8 37 rfl) rfl rfl (b := 1086) rfl) ?_
  have hW1 : RelW (I1 (104 + 1)) σ := by rw [hF (104 + 1) (by omega)]; exact hW
  refine g_callV (ci := 10) (As' := []) (rest := [_]) (s_X7_mostWorn hm hW1 hI ) cw_L_220 qi_X7_mostWorn qv_X7_mostWorn rfl (by decide) hm.s0 (dk_at ktL_law_8 38 rfl) rfl rfl (Nat.le_of_ble_eq_true rfl) ⟨by decide, by decide, by omega, by omega⟩ (b := 1089) rfl (fun r2 I2 J2 hq2 => ?_)
  obtain ⟨w, rfl, ha, h6, rfl, hW2, hG⟩ := hq2
  have ha := ha rfl
  refine g_icmp_eq (dk_at ktL_law_8 39 rfl) (b := 2878) (by decide) (b2 := 1092) rfl (fun _ => ?_) (fun c => absurd ha c)
  exact gc_weak (by omega) (by omega) (hloop _ _ _ _ _ _ (h.st (by omega) (hN.le (by omega)) hF hW2 hG hI))
set_option maxRecDepth 8000 in
set_option maxHeartbeats 2000000 in
theorem law_c23 {L q B kc ks : Nat} {xs : Nat → Int32} {sh : mS} {G : mG} {I : mI} {J : mJ} {σ : sT} {T : tT} {nn : Nat} {sn : Nat → Option sT} (hq : 4 * q + 4 ≤ L) (hL : L ≤ 2048) (hB : BootH 114 sh G 0 1 7 26 45 64 65 84 103) (hm : ModG 114 sh G 104) (hso : sh 113 = .inr (3, 1)) (h : LSt B I σ T nn sn) (hBB : B + 1000 < 1000000) (hloop : ∀ (I2 : mI) (J2 : mJ) (σ2 : sT) (T2 : tT) (nn2 : Nat) (sn2 : Nat → Option sT), LSt (B + 6) I2 σ2 T2 nn2 sn2 → LG L xs sh G kc ks 2878 (lawLs q) [] I2 J2) : LG L xs sh G (kc + 3) (ks + 18) 1094 (lawLs q) [] I J := by
  obtain ⟨hI, hW, ⟨T0, N0, hTB, hD⟩, hTR, hTC, hSR, hSD, hSI, hle⟩ := id h
  refine gc_p (p_aload_n 3 (dk_at ktL_law_8 42 rfl) rfl rfl (b := 1095) rfl) ?_
  refine gc_p (p_aload_n 4 (dk_at ktL_law_8 43 rfl) rfl rfl (b := 1096) rfl) ?_
  refine gc_p (p_iload 0 (dk_at ktL_law_8 44 rfl) rfl (b := 1098) rfl) ?_
  refine gc_p (p_iconst (v := nI 1) (dk_at ktL_law_8 45 rfl) (by decide) (b := 1099) rfl) ?_
  refine gc_p (p_iadd (v := nI (4 * q + 1)) (dk_at ktL_law_8 46 rfl) (nI_add (4 * q) 1) (b := 1100) rfl) ?_
  refine g_sld (j := 4 * q + 1) (dk_at ktL_law_8 47 rfl) rfl ⟨by omega, by omega⟩ (b := 1101) rfl ?_
  refine gc_p (p_aload_n 1 (dk_at ktL_law_8 48 rfl) rfl rfl (b := 1102) rfl) ?_
  refine g_callW (As := [.ref 0, .int (xs (4 * q + 1)), .ref 113]) (rest := []) (s_L_wornOut ((xs (4 * q + 1))) (s_X6_wornOut hB hD hI ((xs (4 * q + 1)))) (by decide) hB.s0 (by decide) hso cIn_2) cwW_L_221 (dk_at ktL_law_8 49 rfl) rfl rfl (Nat.le_of_ble_eq_true rfl) ⟨by decide, by decide, by omega, by omega⟩ (b := 1105) rfl (fun r1 I1 J1 hq1 => ?_)
  obtain ⟨k, rfl, hk⟩ := hq1
  obtain ⟨hkc, hN, hF, hj⟩ := WQ.std (T0 := T0) (e := 0) (σ := σ) (σ' := (σ)) hk (RelN.of hD (Nat.le_refl _)) (fun _ => rfl)
  refine gc_p (p_istore (ls' := [(5, .int k), (4, .int (nI (4 * q))), (3, .ref 113), (2, .ref 104), (1, .ref 0), (0, .ref 1300)]) (dk_at ktL_law_8 50 rfl) (by decide) rfl (b := 1107) rfl) ?_
  refine gc_p (p_aload_n 3 (dk_at ktL_law_8 51 rfl) rfl rfl (b := 1108) rfl) ?_
  refine gc_p (p_aload_n 5 (dk_at ktL_law_8 52 rfl) rfl rfl (b := 1109) rfl) ?_
  refine gc_p (p_iload 1 (dk_at ktL_law_8 53 rfl) rfl (b := 1111) rfl) ?_
  refine gc_p (p_iconst (v := nI 1) (dk_at ktL_law_8 54 rfl) (by decide) (b := 1112) rfl) ?_
  refine gc_p (p_iadd (v := nI (4 * q + 1)) (dk_at ktL_law_8 55 rfl) (nI_add (4 * q) 1) (b := 1113) rfl) ?_
  refine g_sld (j := 4 * q + 1) (dk_at ktL_law_8 56 rfl) rfl ⟨by omega, by omega⟩ (b := 1114) rfl ?_
  have hW1 : RelW (I1 (104 + 1)) σ := by rw [hF (104 + 1) (by omega)]; exact hW
  refine g_callV (ci := 10) (As' := [.int (xs (4 * q + 1))]) (rest := []) (s_X7_wornOut hm hW1 hI (xs (4 * q + 1))) cw_L_223 qi_X7_wornOut qv_X7_wornOut rfl (by decide) hm.s0 (dk_at ktL_law_8 57 rfl) rfl rfl (Nat.le_of_ble_eq_true rfl) ⟨by decide, by decide, by omega, by omega⟩ (b := 1117) rfl (fun r2 I2 J2 hq2 => ?_)
  obtain ⟨w, rfl, ha, h6, rfl, hW2, hG⟩ := hq2
  refine gc_p (p_istore (ls' := [(6, .int w), (5, .int k), (4, .int (nI (4 * q))), (3, .ref 113), (2, .ref 104), (1, .ref 0), (0, .ref 1300)]) (dk_at ktL_law_8 58 rfl) (by decide) rfl (b := 1119) rfl) ?_
  refine gc_p (p_aload_n 4 (dk_at ktL_law_8 59 rfl) rfl rfl (b := 1120) rfl) ?_
  refine g_callV (ci := 10) (As' := []) (rest := []) (s_X7_thrown hm) cw_L_148 qi_X7_thrown qv_X7_thrown rfl (by decide) hm.s0 (dk_at ktL_law_9 0 rfl) rfl rfl (Nat.le_of_ble_eq_true rfl) ⟨by decide, by decide, by omega, by omega⟩ (b := 1123) rfl (fun r3 I3 J3 hq3 => ?_)
  obtain ⟨w3, rfl, rfl, rfl, rfl⟩ := hq3
  refine gc_p (p_iload 1 (dk_at ktL_law_9 1 rfl) rfl (b := 1125) rfl) ?_
  refine g_icmp_eq (dk_at ktL_law_9 2 rfl) (b := 1130) (by decide) (b2 := 1128) rfl (fun _ => ?_) (fun c => absurd (h6.trans hkc.symm) c)
  refine gc_p (p_iload 1 (dk_at ktL_law_9 5 rfl) rfl (b := 1132) rfl) ?_
  refine g_if_ne (dk_at ktL_law_9 6 rfl) (b := 1147) (by decide) (b2 := 1135) rfl (fun c => ?_) (fun c => ?_)
  · refine gc_p (p_goto (b := 2878) (dk_at ktL_law_9 16 rfl) (by decide)) ?_
    refine gc_sub [2, 3, 4, 5, 6] (ls' := [(4, .int (nI (4 * q))), (3, .ref 113), (2, .ref 104), (1, .ref 0), (0, .ref 1300)]) rfl ?_
    exact gc_weak (by omega) (by omega) (hloop _ _ _ _ _ _ (h.st (by omega) (hN.le (by omega)) hF hW2 hG hI))
  · have h0 := hkc.symm.trans c
    have ha := ha h0
    have hj := hj h0
    refine gc_p (p_aload_n 3 (dk_at ktL_law_9 7 rfl) rfl rfl (b := 1136) rfl) ?_
    refine gc_p (p_iconst (v := nI 0) (dk_at ktL_law_9 8 rfl) (by decide) (b := 1137) rfl) ?_
    refine g_jald (id := 113) (len := 1) (j := 0) (by decide) hso (dk_at ktL_law_9 9 rfl) rfl ⟨by decide, by decide⟩ (v := lI (a_worn σ (tn (xs (4 * q + 1))))) hj (b := 1138) rfl ?_
    refine gc_p (p_iload 0 (dk_at ktL_law_9 10 rfl) rfl (b := 1140) rfl) ?_
    refine gc_p (p_i2l (v := lI w) (dk_at ktL_law_9 11 rfl) rfl (b := 1141) rfl) ?_
    refine gc_p (p_lcmp (dk_at ktL_law_9 12 rfl) (b := 1142) rfl) ?_
    refine g_if_eq (dk_at ktL_law_9 13 rfl) (b := 1147) (by decide) (b2 := 1145) rfl (fun _ => ?_) (fun c => absurd ((lg_cmp_eq _ _).mpr (congrArg lI ha)) c)
    refine gc_p (p_goto (b := 2878) (dk_at ktL_law_9 16 rfl) (by decide)) ?_
    refine gc_sub [2, 3, 4, 5, 6] (ls' := [(4, .int (nI (4 * q))), (3, .ref 113), (2, .ref 104), (1, .ref 0), (0, .ref 1300)]) rfl ?_
    exact gc_weak (by omega) (by omega) (hloop _ _ _ _ _ _ (h.st (by omega) (hN.le (by omega)) hF hW2 hG hI))

/-! THE LAW: kinds of calls -/
set_option maxRecDepth 8000 in
set_option maxHeartbeats 2000000 in
theorem law_c40 {L q B kc ks : Nat} {xs : Nat → Int32} {sh : mS} {G : mG} {I : mI} {J : mJ} {σ : sT} {T : tT} {nn : Nat} {sn : Nat → Option sT} (hq : 4 * q + 4 ≤ L) (hL : L ≤ 2048) (hB : BootH 114 sh G 0 1 7 26 45 64 65 84 103) (hm : ModG 114 sh G 104) (hso : sh 113 = .inr (3, 1)) (h : LSt B I σ T nn sn) (hBB : B + 1000 < 1000000) (hloop : ∀ (I2 : mI) (J2 : mJ) (σ2 : sT) (T2 : tT) (nn2 : Nat) (sn2 : Nat → Option sT), LSt (B + 6) I2 σ2 T2 nn2 sn2 → LG L xs sh G kc ks 2878 (lawLs q) [] I2 J2) : LG L xs sh G (kc + 3) (ks + 18) 1819 (lawLs q) [] I J := by
  obtain ⟨hI, hW, ⟨T0, N0, hTB, hD⟩, hTR, hTC, hSR, hSD, hSI, hle⟩ := id h
  refine gc_p (p_aload_n 3 (dk_at ktL_law_16 17 rfl) rfl rfl (b := 1820) rfl) ?_
  refine gc_p (p_aload_n 4 (dk_at ktL_law_16 18 rfl) rfl rfl (b := 1821) rfl) ?_
  refine gc_p (p_iload 0 (dk_at ktL_law_16 19 rfl) rfl (b := 1823) rfl) ?_
  refine gc_p (p_iconst (v := nI 1) (dk_at ktL_law_16 20 rfl) (by decide) (b := 1824) rfl) ?_
  refine gc_p (p_iadd (v := nI (4 * q + 1)) (dk_at ktL_law_16 21 rfl) (nI_add (4 * q) 1) (b := 1825) rfl) ?_
  refine g_sld (j := 4 * q + 1) (dk_at ktL_law_16 22 rfl) rfl ⟨by omega, by omega⟩ (b := 1826) rfl ?_
  refine gc_p (p_aload_n 1 (dk_at ktL_law_16 23 rfl) rfl rfl (b := 1827) rfl) ?_
  refine g_callW (As := [.ref 0, .int (xs (4 * q + 1)), .ref 113]) (rest := []) (s_L_told ((xs (4 * q + 1))) (s_X6_told hB hD hI ((xs (4 * q + 1)))) (by decide) hB.s0 (by decide) hso cIn_2) cwW_L_280 (dk_at ktL_law_16 24 rfl) rfl rfl (Nat.le_of_ble_eq_true rfl) ⟨by decide, by decide, by omega, by omega⟩ (b := 1830) rfl (fun r1 I1 J1 hq1 => ?_)
  obtain ⟨k, rfl, hk⟩ := hq1
  obtain ⟨hkc, hN, hF, hj⟩ := WQ.std (T0 := T0) (e := 0) (σ := σ) (σ' := (σ)) hk (RelN.of hD (Nat.le_refl _)) (fun _ => rfl)
  refine gc_p (p_istore (ls' := [(5, .int k), (4, .int (nI (4 * q))), (3, .ref 113), (2, .ref 104), (1, .ref 0), (0, .ref 1300)]) (dk_at ktL_law_16 25 rfl) (by decide) rfl (b := 1832) rfl) ?_
  refine gc_p (p_aload_n 3 (dk_at ktL_law_16 26 rfl) rfl rfl (b := 1833) rfl) ?_
  refine gc_p (p_aload_n 5 (dk_at ktL_law_16 27 rfl) rfl rfl (b := 1834) rfl) ?_
  refine gc_p (p_iload 1 (dk_at ktL_law_16 28 rfl) rfl (b := 1836) rfl) ?_
  refine gc_p (p_iconst (v := nI 1) (dk_at ktL_law_16 29 rfl) (by decide) (b := 1837) rfl) ?_
  refine gc_p (p_iadd (v := nI (4 * q + 1)) (dk_at ktL_law_16 30 rfl) (nI_add (4 * q) 1) (b := 1838) rfl) ?_
  refine g_sld (j := 4 * q + 1) (dk_at ktL_law_16 31 rfl) rfl ⟨by omega, by omega⟩ (b := 1839) rfl ?_
  have hW1 : RelW (I1 (104 + 1)) σ := by rw [hF (104 + 1) (by omega)]; exact hW
  refine g_callV (ci := 10) (As' := [.int (xs (4 * q + 1))]) (rest := []) (s_X7_told hm hW1 hI (xs (4 * q + 1))) cw_L_282 qi_X7_told qv_X7_told rfl (by decide) hm.s0 (dk_at ktL_law_16 32 rfl) rfl rfl (Nat.le_of_ble_eq_true rfl) ⟨by decide, by decide, by omega, by omega⟩ (b := 1842) rfl (fun r2 I2 J2 hq2 => ?_)
  obtain ⟨w, rfl, ha, h6, rfl, hW2, hG⟩ := hq2
  refine gc_p (p_istore (ls' := [(6, .int w), (5, .int k), (4, .int (nI (4 * q))), (3, .ref 113), (2, .ref 104), (1, .ref 0), (0, .ref 1300)]) (dk_at ktL_law_16 33 rfl) (by decide) rfl (b := 1844) rfl) ?_
  refine gc_p (p_aload_n 4 (dk_at ktL_law_16 34 rfl) rfl rfl (b := 1845) rfl) ?_
  refine g_callV (ci := 10) (As' := []) (rest := []) (s_X7_thrown hm) cw_L_148 qi_X7_thrown qv_X7_thrown rfl (by decide) hm.s0 (dk_at ktL_law_16 35 rfl) rfl rfl (Nat.le_of_ble_eq_true rfl) ⟨by decide, by decide, by omega, by omega⟩ (b := 1848) rfl (fun r3 I3 J3 hq3 => ?_)
  obtain ⟨w3, rfl, rfl, rfl, rfl⟩ := hq3
  refine gc_p (p_iload 1 (dk_at ktL_law_16 36 rfl) rfl (b := 1850) rfl) ?_
  refine g_icmp_eq (dk_at ktL_law_16 37 rfl) (b := 1855) (by decide) (b2 := 1853) rfl (fun _ => ?_) (fun c => absurd (h6.trans hkc.symm) c)
  refine gc_p (p_iload 1 (dk_at ktL_law_16 40 rfl) rfl (b := 1857) rfl) ?_
  refine g_if_ne (dk_at ktL_law_16 41 rfl) (b := 1872) (by decide) (b2 := 1860) rfl (fun c => ?_) (fun c => ?_)
  · refine gc_p (p_goto (b := 2878) (dk_at ktL_law_16 51 rfl) (by decide)) ?_
    refine gc_sub [2, 3, 4, 5, 6] (ls' := [(4, .int (nI (4 * q))), (3, .ref 113), (2, .ref 104), (1, .ref 0), (0, .ref 1300)]) rfl ?_
    exact gc_weak (by omega) (by omega) (hloop _ _ _ _ _ _ (h.st (by omega) (hN.le (by omega)) hF hW2 hG hI))
  · have h0 := hkc.symm.trans c
    have ha := ha h0
    have hj := hj h0
    refine gc_p (p_aload_n 3 (dk_at ktL_law_16 42 rfl) rfl rfl (b := 1861) rfl) ?_
    refine gc_p (p_iconst (v := nI 0) (dk_at ktL_law_16 43 rfl) (by decide) (b := 1862) rfl) ?_
    refine g_jald (id := 113) (len := 1) (j := 0) (by decide) hso (dk_at ktL_law_16 44 rfl) rfl ⟨by decide, by decide⟩ (v := lI (told σ (tn (xs (4 * q + 1))))) hj (b := 1863) rfl ?_
    refine gc_p (p_iload 0 (dk_at ktL_law_16 45 rfl) rfl (b := 1865) rfl) ?_
    refine gc_p (p_i2l (v := lI w) (dk_at ktL_law_16 46 rfl) rfl (b := 1866) rfl) ?_
    refine gc_p (p_lcmp (dk_at ktL_law_16 47 rfl) (b := 1867) rfl) ?_
    refine g_if_eq (dk_at ktL_law_16 48 rfl) (b := 1872) (by decide) (b2 := 1870) rfl (fun _ => ?_) (fun c => absurd ((lg_cmp_eq _ _).mpr (congrArg lI ha)) c)
    refine gc_p (p_goto (b := 2878) (dk_at ktL_law_16 51 rfl) (by decide)) ?_
    refine gc_sub [2, 3, 4, 5, 6] (ls' := [(4, .int (nI (4 * q))), (3, .ref 113), (2, .ref 104), (1, .ref 0), (0, .ref 1300)]) rfl ?_
    exact gc_weak (by omega) (by omega) (hloop _ _ _ _ _ _ (h.st (by omega) (hN.le (by omega)) hF hW2 hG hI))
set_option maxRecDepth 8000 in
set_option maxHeartbeats 2000000 in
theorem law_c41 {L q B kc ks : Nat} {xs : Nat → Int32} {sh : mS} {G : mG} {I : mI} {J : mJ} {σ : sT} {T : tT} {nn : Nat} {sn : Nat → Option sT} (hq : 4 * q + 4 ≤ L) (hL : L ≤ 2048) (hB : BootH 114 sh G 0 1 7 26 45 64 65 84 103) (hm : ModG 114 sh G 104) (hso : sh 113 = .inr (3, 1)) (h : LSt B I σ T nn sn) (hBB : B + 1000 < 1000000) (hloop : ∀ (I2 : mI) (J2 : mJ) (σ2 : sT) (T2 : tT) (nn2 : Nat) (sn2 : Nat → Option sT), LSt (B + 6) I2 σ2 T2 nn2 sn2 → LG L xs sh G kc ks 2878 (lawLs q) [] I2 J2) : LG L xs sh G (kc + 3) (ks + 18) 1875 (lawLs q) [] I J := by
  obtain ⟨hI, hW, ⟨T0, N0, hTB, hD⟩, hTR, hTC, hSR, hSD, hSI, hle⟩ := id h
  refine gc_p (p_aload_n 3 (dk_at ktL_law_16 52 rfl) rfl rfl (b := 1876) rfl) ?_
  refine g_callV (ci := 9) (As' := []) (rest := []) (s_X6_bootWould hB hD hI (by omega) ) cw_L_283 qi_X6_bootWould qv_X6_bootWould rfl (by decide) hB.s0 (dk_at ktL_law_16 53 rfl) rfl rfl (Nat.le_of_ble_eq_true rfl) ⟨by decide, by decide, by omega, by omega⟩ (b := 1879) rfl (fun r1 I1 J1 hq1 => ?_)
  obtain ⟨v, rfl, rfl, rfl, hF⟩ := hq1
  have hN : RelN 7 I1 σ (T0 + 0) := (RelN.of hD (Nat.le_refl _)).fr (fun b _ _ => hF b (by omega))
  have hF : FB 7 64 I I1 := hF.mo (by omega) (by omega)
  refine gc_p (p_aload_n 2 (dk_at ktL_law_16 54 rfl) rfl rfl (b := 1880) rfl) ?_
  have hW1 : RelW (I1 (104 + 1)) σ := by rw [hF (104 + 1) (by omega)]; exact hW
  refine g_callV (ci := 10) (As' := []) (rest := [_]) (s_X7_bootWould hm hW1 hI ) cw_L_286 qi_X7_bootWould qv_X7_bootWould rfl (by decide) hm.s0 (dk_at ktL_law_16 55 rfl) rfl rfl (Nat.le_of_ble_eq_true rfl) ⟨by decide, by decide, by omega, by omega⟩ (b := 1883) rfl (fun r2 I2 J2 hq2 => ?_)
  obtain ⟨w, rfl, ha, h6, rfl, hW2, hG⟩ := hq2
  have ha := ha rfl
  refine g_icmp_eq (dk_at ktL_law_16 56 rfl) (b := 2878) (by decide) (b2 := 1886) rfl (fun _ => ?_) (fun c => absurd ha c)
  exact gc_weak (by omega) (by omega) (hloop _ _ _ _ _ _ (h.st (by omega) (hN.le (by omega)) hF hW2 hG hI))
set_option maxRecDepth 8000 in
set_option maxHeartbeats 2000000 in
theorem law_c42 {L q B kc ks : Nat} {xs : Nat → Int32} {sh : mS} {G : mG} {I : mI} {J : mJ} {σ : sT} {T : tT} {nn : Nat} {sn : Nat → Option sT} (hq : 4 * q + 4 ≤ L) (hL : L ≤ 2048) (hB : BootH 114 sh G 0 1 7 26 45 64 65 84 103) (hm : ModG 114 sh G 104) (hso : sh 113 = .inr (3, 1)) (h : LSt B I σ T nn sn) (hBB : B + 1000 < 1000000) (hloop : ∀ (I2 : mI) (J2 : mJ) (σ2 : sT) (T2 : tT) (nn2 : Nat) (sn2 : Nat → Option sT), LSt (B + 6) I2 σ2 T2 nn2 sn2 → LG L xs sh G kc ks 2878 (lawLs q) [] I2 J2) : LG L xs sh G (kc + 3) (ks + 18) 1888 (lawLs q) [] I J := by
  obtain ⟨hI, hW, ⟨T0, N0, hTB, hD⟩, hTR, hTC, hSR, hSD, hSI, hle⟩ := id h
  refine gc_p (p_aload_n 3 (dk_at ktL_law_16 59 rfl) rfl rfl (b := 1889) rfl) ?_
  refine g_callV (ci := 9) (As' := []) (rest := []) (s_X6_bootOperations hB hD hI (by omega) ) cw_L_287 qi_X6_bootOperations qv_X6_bootOperations rfl (by decide) hB.s0 (dk_at ktL_law_17 0 rfl) rfl rfl (Nat.le_of_ble_eq_true rfl) ⟨by decide, by decide, by omega, by omega⟩ (b := 1892) rfl (fun r1 I1 J1 hq1 => ?_)
  obtain ⟨v, rfl, rfl, rfl, hF⟩ := hq1
  have hN : RelN 7 I1 σ (T0 + 0) := (RelN.of hD (Nat.le_refl _)).fr (fun b _ _ => hF b (by omega))
  have hF : FB 7 64 I I1 := hF.mo (by omega) (by omega)
  refine gc_p (p_aload_n 2 (dk_at ktL_law_17 1 rfl) rfl rfl (b := 1893) rfl) ?_
  have hW1 : RelW (I1 (104 + 1)) σ := by rw [hF (104 + 1) (by omega)]; exact hW
  refine g_callV (ci := 10) (As' := []) (rest := [_]) (s_X7_bootOperations hm hW1 hI ) cw_L_290 qi_X7_bootOperations qv_X7_bootOperations rfl (by decide) hm.s0 (dk_at ktL_law_17 2 rfl) rfl rfl (Nat.le_of_ble_eq_true rfl) ⟨by decide, by decide, by omega, by omega⟩ (b := 1896) rfl (fun r2 I2 J2 hq2 => ?_)
  obtain ⟨w, rfl, ha, h6, rfl, hW2, hG⟩ := hq2
  have ha := ha rfl
  refine g_icmp_eq (dk_at ktL_law_17 3 rfl) (b := 2878) (by decide) (b2 := 1899) rfl (fun _ => ?_) (fun c => absurd ha c)
  exact gc_weak (by omega) (by omega) (hloop _ _ _ _ _ _ (h.st (by omega) (hN.le (by omega)) hF hW2 hG hI))
set_option maxRecDepth 8000 in
set_option maxHeartbeats 2000000 in
theorem law_c43 {L q B kc ks : Nat} {xs : Nat → Int32} {sh : mS} {G : mG} {I : mI} {J : mJ} {σ : sT} {T : tT} {nn : Nat} {sn : Nat → Option sT} (hq : 4 * q + 4 ≤ L) (hL : L ≤ 2048) (hB : BootH 114 sh G 0 1 7 26 45 64 65 84 103) (hm : ModG 114 sh G 104) (hso : sh 113 = .inr (3, 1)) (h : LSt B I σ T nn sn) (hBB : B + 1000 < 1000000) (hloop : ∀ (I2 : mI) (J2 : mJ) (σ2 : sT) (T2 : tT) (nn2 : Nat) (sn2 : Nat → Option sT), LSt (B + 6) I2 σ2 T2 nn2 sn2 → LG L xs sh G kc ks 2878 (lawLs q) [] I2 J2) : LG L xs sh G (kc + 3) (ks + 18) 1901 (lawLs q) [] I J := by
  obtain ⟨hI, hW, ⟨T0, N0, hTB, hD⟩, hTR, hTC, hSR, hSD, hSI, hle⟩ := id h
  refine gc_p (p_aload_n 3 (dk_at ktL_law_17 6 rfl) rfl rfl (b := 1902) rfl) ?_
  refine gc_p (p_aload_n 4 (dk_at ktL_law_17 7 rfl) rfl rfl (b := 1903) rfl) ?_
  refine gc_p (p_iload 0 (dk_at ktL_law_17 8 rfl) rfl (b := 1905) rfl) ?_
  refine gc_p (p_iconst (v := nI 1) (dk_at ktL_law_17 9 rfl) (by decide) (b := 1906) rfl) ?_
  refine gc_p (p_iadd (v := nI (4 * q + 1)) (dk_at ktL_law_17 10 rfl) (nI_add (4 * q) 1) (b := 1907) rfl) ?_
  refine g_sld (j := 4 * q + 1) (dk_at ktL_law_17 11 rfl) rfl ⟨by omega, by omega⟩ (b := 1908) rfl ?_
  refine gc_p (p_aload_n 1 (dk_at ktL_law_17 12 rfl) rfl rfl (b := 1909) rfl) ?_
  refine g_callW (As := [.ref 0, .int (xs (4 * q + 1)), .ref 113]) (rest := []) (s_L_updateOperations ((xs (4 * q + 1))) (s_X6_updateOperations hB hD hI (by omega) ((xs (4 * q + 1)))) (by decide) hB.s0 (by decide) hso cIn_2) cwW_L_291 (dk_at ktL_law_17 13 rfl) rfl rfl (Nat.le_of_ble_eq_true rfl) ⟨by decide, by decide, by omega, by omega⟩ (b := 1912) rfl (fun r1 I1 J1 hq1 => ?_)
  obtain ⟨k, rfl, hk⟩ := hq1
  obtain ⟨hkc, hN, hF, hj⟩ := WQ.prd hk (RelN.of hD (Nat.le_refl _))
  refine gc_p (p_istore (ls' := [(5, .int k), (4, .int (nI (4 * q))), (3, .ref 113), (2, .ref 104), (1, .ref 0), (0, .ref 1300)]) (dk_at ktL_law_17 14 rfl) (by decide) rfl (b := 1914) rfl) ?_
  refine gc_p (p_aload_n 3 (dk_at ktL_law_17 15 rfl) rfl rfl (b := 1915) rfl) ?_
  refine gc_p (p_aload_n 5 (dk_at ktL_law_17 16 rfl) rfl rfl (b := 1916) rfl) ?_
  refine gc_p (p_iload 1 (dk_at ktL_law_17 17 rfl) rfl (b := 1918) rfl) ?_
  refine gc_p (p_iconst (v := nI 1) (dk_at ktL_law_17 18 rfl) (by decide) (b := 1919) rfl) ?_
  refine gc_p (p_iadd (v := nI (4 * q + 1)) (dk_at ktL_law_17 19 rfl) (nI_add (4 * q) 1) (b := 1920) rfl) ?_
  refine g_sld (j := 4 * q + 1) (dk_at ktL_law_17 20 rfl) rfl ⟨by omega, by omega⟩ (b := 1921) rfl ?_
  have hW1 : RelW (I1 (104 + 1)) σ := by rw [hF (104 + 1) (by omega)]; exact hW
  refine g_callV (ci := 10) (As' := [.int (xs (4 * q + 1))]) (rest := []) (s_X7_updateOperations hm hW1 hI (xs (4 * q + 1))) cw_L_293 qi_X7_updateOperations qv_X7_updateOperations rfl (by decide) hm.s0 (dk_at ktL_law_17 21 rfl) rfl rfl (Nat.le_of_ble_eq_true rfl) ⟨by decide, by decide, by omega, by omega⟩ (b := 1924) rfl (fun r2 I2 J2 hq2 => ?_)
  obtain ⟨w, rfl, ha, h6, rfl, hW2, hG⟩ := hq2
  refine gc_p (p_istore (ls' := [(6, .int w), (5, .int k), (4, .int (nI (4 * q))), (3, .ref 113), (2, .ref 104), (1, .ref 0), (0, .ref 1300)]) (dk_at ktL_law_17 22 rfl) (by decide) rfl (b := 1926) rfl) ?_
  refine gc_p (p_aload_n 4 (dk_at ktL_law_17 23 rfl) rfl rfl (b := 1927) rfl) ?_
  refine g_callV (ci := 10) (As' := []) (rest := []) (s_X7_thrown hm) cw_L_148 qi_X7_thrown qv_X7_thrown rfl (by decide) hm.s0 (dk_at ktL_law_17 24 rfl) rfl rfl (Nat.le_of_ble_eq_true rfl) ⟨by decide, by decide, by omega, by omega⟩ (b := 1930) rfl (fun r3 I3 J3 hq3 => ?_)
  obtain ⟨w3, rfl, rfl, rfl, rfl⟩ := hq3
  refine gc_p (p_iload 1 (dk_at ktL_law_17 25 rfl) rfl (b := 1932) rfl) ?_
  refine g_icmp_eq (dk_at ktL_law_17 26 rfl) (b := 1937) (by decide) (b2 := 1935) rfl (fun _ => ?_) (fun c => absurd (h6.trans hkc.symm) c)
  refine gc_p (p_iload 1 (dk_at ktL_law_17 29 rfl) rfl (b := 1939) rfl) ?_
  refine g_if_ne (dk_at ktL_law_17 30 rfl) (b := 1954) (by decide) (b2 := 1942) rfl (fun c => ?_) (fun c => ?_)
  · refine gc_p (p_goto (b := 2878) (dk_at ktL_law_17 40 rfl) (by decide)) ?_
    refine gc_sub [2, 3, 4, 5, 6] (ls' := [(4, .int (nI (4 * q))), (3, .ref 113), (2, .ref 104), (1, .ref 0), (0, .ref 1300)]) rfl ?_
    exact gc_weak (by omega) (by omega) (hloop _ _ _ _ _ _ (h.st (by omega) (hN.le (by omega)) hF hW2 hG hI))
  · have h0 := hkc.symm.trans c
    have ha := ha h0
    have hj := hj h0
    refine gc_p (p_aload_n 3 (dk_at ktL_law_17 31 rfl) rfl rfl (b := 1943) rfl) ?_
    refine gc_p (p_iconst (v := nI 0) (dk_at ktL_law_17 32 rfl) (by decide) (b := 1944) rfl) ?_
    refine g_jald (id := 113) (len := 1) (j := 0) (by decide) hso (dk_at ktL_law_17 33 rfl) rfl ⟨by decide, by decide⟩ (v := lI ((fUpd (xs (4 * q + 1)) false (upd σ 6 (-1))).1)) hj (b := 1945) rfl ?_
    refine gc_p (p_iload 0 (dk_at ktL_law_17 34 rfl) rfl (b := 1947) rfl) ?_
    refine gc_p (p_i2l (v := lI w) (dk_at ktL_law_17 35 rfl) rfl (b := 1948) rfl) ?_
    refine gc_p (p_lcmp (dk_at ktL_law_17 36 rfl) (b := 1949) rfl) ?_
    refine g_if_eq (dk_at ktL_law_17 37 rfl) (b := 1954) (by decide) (b2 := 1952) rfl (fun _ => ?_) (fun c => absurd ((lg_cmp_eq _ _).mpr (congrArg lI ha)) c)
    refine gc_p (p_goto (b := 2878) (dk_at ktL_law_17 40 rfl) (by decide)) ?_
    refine gc_sub [2, 3, 4, 5, 6] (ls' := [(4, .int (nI (4 * q))), (3, .ref 113), (2, .ref 104), (1, .ref 0), (0, .ref 1300)]) rfl ?_
    exact gc_weak (by omega) (by omega) (hloop _ _ _ _ _ _ (h.st (by omega) (hN.le (by omega)) hF hW2 hG hI))
set_option maxRecDepth 8000 in
set_option maxHeartbeats 2000000 in
theorem law_c44 {L q B kc ks : Nat} {xs : Nat → Int32} {sh : mS} {G : mG} {I : mI} {J : mJ} {σ : sT} {T : tT} {nn : Nat} {sn : Nat → Option sT} (hq : 4 * q + 4 ≤ L) (hL : L ≤ 2048) (hB : BootH 114 sh G 0 1 7 26 45 64 65 84 103) (hm : ModG 114 sh G 104) (hso : sh 113 = .inr (3, 1)) (h : LSt B I σ T nn sn) (hBB : B + 1000 < 1000000) (hloop : ∀ (I2 : mI) (J2 : mJ) (σ2 : sT) (T2 : tT) (nn2 : Nat) (sn2 : Nat → Option sT), LSt (B + 6) I2 σ2 T2 nn2 sn2 → LG L xs sh G kc ks 2878 (lawLs q) [] I2 J2) : LG L xs sh G (kc + 3) (ks + 18) 1957 (lawLs q) [] I J := by
  obtain ⟨hI, hW, ⟨T0, N0, hTB, hD⟩, hTR, hTC, hSR, hSD, hSI, hle⟩ := id h
  refine gc_p (p_aload_n 3 (dk_at ktL_law_17 41 rfl) rfl rfl (b := 1958) rfl) ?_
  refine gc_p (p_aload_n 4 (dk_at ktL_law_17 42 rfl) rfl rfl (b := 1959) rfl) ?_
  refine gc_p (p_iload 0 (dk_at ktL_law_17 43 rfl) rfl (b := 1961) rfl) ?_
  refine gc_p (p_iconst (v := nI 1) (dk_at ktL_law_17 44 rfl) (by decide) (b := 1962) rfl) ?_
  refine gc_p (p_iadd (v := nI (4 * q + 1)) (dk_at ktL_law_17 45 rfl) (nI_add (4 * q) 1) (b := 1963) rfl) ?_
  refine g_sld (j := 4 * q + 1) (dk_at ktL_law_17 46 rfl) rfl ⟨by omega, by omega⟩ (b := 1964) rfl ?_
  refine gc_p (p_aload_n 4 (dk_at ktL_law_17 47 rfl) rfl rfl (b := 1965) rfl) ?_
  refine gc_p (p_iload 0 (dk_at ktL_law_17 48 rfl) rfl (b := 1967) rfl) ?_
  refine gc_p (p_iconst (v := nI 2) (dk_at ktL_law_17 49 rfl) (by decide) (b := 1968) rfl) ?_
  refine gc_p (p_iadd (v := nI (4 * q + 2)) (dk_at ktL_law_17 50 rfl) (nI_add (4 * q) 2) (b := 1969) rfl) ?_
  refine g_sld (j := 4 * q + 2) (dk_at ktL_law_17 51 rfl) rfl ⟨by omega, by omega⟩ (b := 1970) rfl ?_
  refine gc_p (p_aload_n 1 (dk_at ktL_law_17 52 rfl) rfl rfl (b := 1971) rfl) ?_
  refine g_callW (As := [.ref 0, .int (xs (4 * q + 1)), .int (xs (4 * q + 2)), .ref 113]) (rest := []) (s_L_slotAfterCut ((xs (4 * q + 1))) ((xs (4 * q + 2))) (s_X6_slotAfterCut hB hD hI (by omega) ((xs (4 * q + 1))) ((xs (4 * q + 2)))) (by decide) hB.s0 (by decide) hso cSac_2) cwW_L_294 (dk_at ktL_law_17 53 rfl) rfl rfl (Nat.le_of_ble_eq_true rfl) ⟨by decide, by decide, by omega, by omega⟩ (b := 1974) rfl (fun r1 I1 J1 hq1 => ?_)
  obtain ⟨k, rfl, hk⟩ := hq1
  obtain ⟨hkc, hN, hF, hj⟩ := WQ.prd hk (RelN.of hD (Nat.le_refl _))
  refine gc_p (p_istore (ls' := [(5, .int k), (4, .int (nI (4 * q))), (3, .ref 113), (2, .ref 104), (1, .ref 0), (0, .ref 1300)]) (dk_at ktL_law_17 54 rfl) (by decide) rfl (b := 1976) rfl) ?_
  refine gc_p (p_aload_n 3 (dk_at ktL_law_17 55 rfl) rfl rfl (b := 1977) rfl) ?_
  refine gc_p (p_aload_n 5 (dk_at ktL_law_17 56 rfl) rfl rfl (b := 1978) rfl) ?_
  refine gc_p (p_iload 1 (dk_at ktL_law_17 57 rfl) rfl (b := 1980) rfl) ?_
  refine gc_p (p_iconst (v := nI 1) (dk_at ktL_law_17 58 rfl) (by decide) (b := 1981) rfl) ?_
  refine gc_p (p_iadd (v := nI (4 * q + 1)) (dk_at ktL_law_17 59 rfl) (nI_add (4 * q) 1) (b := 1982) rfl) ?_
  refine g_sld (j := 4 * q + 1) (dk_at ktL_law_18 0 rfl) rfl ⟨by omega, by omega⟩ (b := 1983) rfl ?_
  refine gc_p (p_aload_n 5 (dk_at ktL_law_18 1 rfl) rfl rfl (b := 1984) rfl) ?_
  refine gc_p (p_iload 1 (dk_at ktL_law_18 2 rfl) rfl (b := 1986) rfl) ?_
  refine gc_p (p_iconst (v := nI 2) (dk_at ktL_law_18 3 rfl) (by decide) (b := 1987) rfl) ?_
  refine gc_p (p_iadd (v := nI (4 * q + 2)) (dk_at ktL_law_18 4 rfl) (nI_add (4 * q) 2) (b := 1988) rfl) ?_
  refine g_sld (j := 4 * q + 2) (dk_at ktL_law_18 5 rfl) rfl ⟨by omega, by omega⟩ (b := 1989) rfl ?_
  have hW1 : RelW (I1 (104 + 1)) σ := by rw [hF (104 + 1) (by omega)]; exact hW
  refine g_callV (ci := 10) (As' := [.int (xs (4 * q + 1)), .int (xs (4 * q + 2))]) (rest := []) (s_X7_slotAfterCut hm hW1 hI (xs (4 * q + 1)) (xs (4 * q + 2))) cw_L_296 qi_X7_slotAfterCut qv_X7_slotAfterCut rfl (by decide) hm.s0 (dk_at ktL_law_18 6 rfl) rfl rfl (Nat.le_of_ble_eq_true rfl) ⟨by decide, by decide, by omega, by omega⟩ (b := 1992) rfl (fun r2 I2 J2 hq2 => ?_)
  obtain ⟨w, rfl, ha, h6, rfl, hW2, hG⟩ := hq2
  refine gc_p (p_istore (ls' := [(6, .int w), (5, .int k), (4, .int (nI (4 * q))), (3, .ref 113), (2, .ref 104), (1, .ref 0), (0, .ref 1300)]) (dk_at ktL_law_18 7 rfl) (by decide) rfl (b := 1994) rfl) ?_
  refine gc_p (p_aload_n 4 (dk_at ktL_law_18 8 rfl) rfl rfl (b := 1995) rfl) ?_
  refine g_callV (ci := 10) (As' := []) (rest := []) (s_X7_thrown hm) cw_L_148 qi_X7_thrown qv_X7_thrown rfl (by decide) hm.s0 (dk_at ktL_law_18 9 rfl) rfl rfl (Nat.le_of_ble_eq_true rfl) ⟨by decide, by decide, by omega, by omega⟩ (b := 1998) rfl (fun r3 I3 J3 hq3 => ?_)
  obtain ⟨w3, rfl, rfl, rfl, rfl⟩ := hq3
  refine gc_p (p_iload 1 (dk_at ktL_law_18 10 rfl) rfl (b := 2000) rfl) ?_
  refine g_icmp_eq (dk_at ktL_law_18 11 rfl) (b := 2005) (by decide) (b2 := 2003) rfl (fun _ => ?_) (fun c => absurd (h6.trans hkc.symm) c)
  refine gc_p (p_iload 1 (dk_at ktL_law_18 14 rfl) rfl (b := 2007) rfl) ?_
  refine g_if_ne (dk_at ktL_law_18 15 rfl) (b := 2022) (by decide) (b2 := 2010) rfl (fun c => ?_) (fun c => ?_)
  · refine gc_p (p_goto (b := 2878) (dk_at ktL_law_18 25 rfl) (by decide)) ?_
    refine gc_sub [2, 3, 4, 5, 6] (ls' := [(4, .int (nI (4 * q))), (3, .ref 113), (2, .ref 104), (1, .ref 0), (0, .ref 1300)]) rfl ?_
    exact gc_weak (by omega) (by omega) (hloop _ _ _ _ _ _ (h.st (by omega) (hN.le (by omega)) hF hW2 hG hI))
  · have h0 := hkc.symm.trans c
    have ha := ha h0
    have hj := hj h0
    refine gc_p (p_aload_n 3 (dk_at ktL_law_18 16 rfl) rfl rfl (b := 2011) rfl) ?_
    refine gc_p (p_iconst (v := nI 0) (dk_at ktL_law_18 17 rfl) (by decide) (b := 2012) rfl) ?_
    refine g_jald (id := 113) (len := 1) (j := 0) (by decide) hso (dk_at ktL_law_18 18 rfl) rfl ⟨by decide, by decide⟩ (v := lI (a_sac (xs (4 * q + 1)) (xs (4 * q + 2)) (-1) σ)) hj (b := 2013) rfl ?_
    refine gc_p (p_iload 0 (dk_at ktL_law_18 19 rfl) rfl (b := 2015) rfl) ?_
    refine gc_p (p_i2l (v := lI w) (dk_at ktL_law_18 20 rfl) rfl (b := 2016) rfl) ?_
    refine gc_p (p_lcmp (dk_at ktL_law_18 21 rfl) (b := 2017) rfl) ?_
    refine g_if_eq (dk_at ktL_law_18 22 rfl) (b := 2022) (by decide) (b2 := 2020) rfl (fun _ => ?_) (fun c => absurd ((lg_cmp_eq _ _).mpr (congrArg lI ha)) c)
    refine gc_p (p_goto (b := 2878) (dk_at ktL_law_18 25 rfl) (by decide)) ?_
    refine gc_sub [2, 3, 4, 5, 6] (ls' := [(4, .int (nI (4 * q))), (3, .ref 113), (2, .ref 104), (1, .ref 0), (0, .ref 1300)]) rfl ?_
    exact gc_weak (by omega) (by omega) (hloop _ _ _ _ _ _ (h.st (by omega) (hN.le (by omega)) hF hW2 hG hI))
set_option maxRecDepth 8000 in
set_option maxHeartbeats 2000000 in
theorem law_c45 {L q B kc ks : Nat} {xs : Nat → Int32} {sh : mS} {G : mG} {I : mI} {J : mJ} {σ : sT} {T : tT} {nn : Nat} {sn : Nat → Option sT} (hq : 4 * q + 4 ≤ L) (hL : L ≤ 2048) (hB : BootH 114 sh G 0 1 7 26 45 64 65 84 103) (hm : ModG 114 sh G 104) (hso : sh 113 = .inr (3, 1)) (h : LSt B I σ T nn sn) (hBB : B + 1000 < 1000000) (hloop : ∀ (I2 : mI) (J2 : mJ) (σ2 : sT) (T2 : tT) (nn2 : Nat) (sn2 : Nat → Option sT), LSt (B + 6) I2 σ2 T2 nn2 sn2 → LG L xs sh G kc ks 2878 (lawLs q) [] I2 J2) : LG L xs sh G (kc + 3) (ks + 18) 2025 (lawLs q) [] I J := by
  obtain ⟨hI, hW, ⟨T0, N0, hTB, hD⟩, hTR, hTC, hSR, hSD, hSI, hle⟩ := id h
  refine gc_p (p_aload_n 3 (dk_at ktL_law_18 26 rfl) rfl rfl (b := 2026) rfl) ?_
  refine gc_p (p_aload_n 4 (dk_at ktL_law_18 27 rfl) rfl rfl (b := 2027) rfl) ?_
  refine gc_p (p_iload 0 (dk_at ktL_law_18 28 rfl) rfl (b := 2029) rfl) ?_
  refine gc_p (p_iconst (v := nI 1) (dk_at ktL_law_18 29 rfl) (by decide) (b := 2030) rfl) ?_
  refine gc_p (p_iadd (v := nI (4 * q + 1)) (dk_at ktL_law_18 30 rfl) (nI_add (4 * q) 1) (b := 2031) rfl) ?_
  refine g_sld (j := 4 * q + 1) (dk_at ktL_law_18 31 rfl) rfl ⟨by omega, by omega⟩ (b := 2032) rfl ?_
  refine gc_p (p_aload_n 1 (dk_at ktL_law_18 32 rfl) rfl rfl (b := 2033) rfl) ?_
  refine g_callW (As := [.ref 0, .int (xs (4 * q + 1)), .ref 113]) (rest := []) (s_L_firstUnsafeCut ((xs (4 * q + 1))) (s_X6_firstUnsafeCut hB hD hI (by omega) ((xs (4 * q + 1)))) (by decide) hB.s0 (by decide) hso cIn_2) cwW_L_297 (dk_at ktL_law_18 33 rfl) rfl rfl (Nat.le_of_ble_eq_true rfl) ⟨by decide, by decide, by omega, by omega⟩ (b := 2036) rfl (fun r1 I1 J1 hq1 => ?_)
  obtain ⟨k, rfl, hk⟩ := hq1
  obtain ⟨hkc, hN, hF, hj⟩ := WQ.prd hk (RelN.of hD (Nat.le_refl _))
  refine gc_p (p_istore (ls' := [(5, .int k), (4, .int (nI (4 * q))), (3, .ref 113), (2, .ref 104), (1, .ref 0), (0, .ref 1300)]) (dk_at ktL_law_18 34 rfl) (by decide) rfl (b := 2038) rfl) ?_
  refine gc_p (p_aload_n 3 (dk_at ktL_law_18 35 rfl) rfl rfl (b := 2039) rfl) ?_
  refine gc_p (p_aload_n 5 (dk_at ktL_law_18 36 rfl) rfl rfl (b := 2040) rfl) ?_
  refine gc_p (p_iload 1 (dk_at ktL_law_18 37 rfl) rfl (b := 2042) rfl) ?_
  refine gc_p (p_iconst (v := nI 1) (dk_at ktL_law_18 38 rfl) (by decide) (b := 2043) rfl) ?_
  refine gc_p (p_iadd (v := nI (4 * q + 1)) (dk_at ktL_law_18 39 rfl) (nI_add (4 * q) 1) (b := 2044) rfl) ?_
  refine g_sld (j := 4 * q + 1) (dk_at ktL_law_18 40 rfl) rfl ⟨by omega, by omega⟩ (b := 2045) rfl ?_
  have hW1 : RelW (I1 (104 + 1)) σ := by rw [hF (104 + 1) (by omega)]; exact hW
  refine g_callV (ci := 10) (As' := [.int (xs (4 * q + 1))]) (rest := []) (s_X7_firstUnsafeCut hm hW1 hI (xs (4 * q + 1))) cw_L_299 qi_X7_firstUnsafeCut qv_X7_firstUnsafeCut rfl (by decide) hm.s0 (dk_at ktL_law_18 41 rfl) rfl rfl (Nat.le_of_ble_eq_true rfl) ⟨by decide, by decide, by omega, by omega⟩ (b := 2048) rfl (fun r2 I2 J2 hq2 => ?_)
  obtain ⟨w, rfl, ha, h6, rfl, hW2, hG⟩ := hq2
  refine gc_p (p_istore (ls' := [(6, .int w), (5, .int k), (4, .int (nI (4 * q))), (3, .ref 113), (2, .ref 104), (1, .ref 0), (0, .ref 1300)]) (dk_at ktL_law_18 42 rfl) (by decide) rfl (b := 2050) rfl) ?_
  refine gc_p (p_aload_n 4 (dk_at ktL_law_18 43 rfl) rfl rfl (b := 2051) rfl) ?_
  refine g_callV (ci := 10) (As' := []) (rest := []) (s_X7_thrown hm) cw_L_148 qi_X7_thrown qv_X7_thrown rfl (by decide) hm.s0 (dk_at ktL_law_18 44 rfl) rfl rfl (Nat.le_of_ble_eq_true rfl) ⟨by decide, by decide, by omega, by omega⟩ (b := 2054) rfl (fun r3 I3 J3 hq3 => ?_)
  obtain ⟨w3, rfl, rfl, rfl, rfl⟩ := hq3
  refine gc_p (p_iload 1 (dk_at ktL_law_18 45 rfl) rfl (b := 2056) rfl) ?_
  refine g_icmp_eq (dk_at ktL_law_18 46 rfl) (b := 2061) (by decide) (b2 := 2059) rfl (fun _ => ?_) (fun c => absurd (h6.trans hkc.symm) c)
  refine gc_p (p_iload 1 (dk_at ktL_law_18 49 rfl) rfl (b := 2063) rfl) ?_
  refine g_if_ne (dk_at ktL_law_18 50 rfl) (b := 2078) (by decide) (b2 := 2066) rfl (fun c => ?_) (fun c => ?_)
  · refine gc_p (p_goto (b := 2878) (dk_at ktL_law_19 0 rfl) (by decide)) ?_
    refine gc_sub [2, 3, 4, 5, 6] (ls' := [(4, .int (nI (4 * q))), (3, .ref 113), (2, .ref 104), (1, .ref 0), (0, .ref 1300)]) rfl ?_
    exact gc_weak (by omega) (by omega) (hloop _ _ _ _ _ _ (h.st (by omega) (hN.le (by omega)) hF hW2 hG hI))
  · have h0 := hkc.symm.trans c
    have ha := ha h0
    have hj := hj h0
    refine gc_p (p_aload_n 3 (dk_at ktL_law_18 51 rfl) rfl rfl (b := 2067) rfl) ?_
    refine gc_p (p_iconst (v := nI 0) (dk_at ktL_law_18 52 rfl) (by decide) (b := 2068) rfl) ?_
    refine g_jald (id := 113) (len := 1) (j := 0) (by decide) hso (dk_at ktL_law_18 53 rfl) rfl ⟨by decide, by decide⟩ (v := lI (a_fu (xs (4 * q + 1)) false σ)) hj (b := 2069) rfl ?_
    refine gc_p (p_iload 0 (dk_at ktL_law_18 54 rfl) rfl (b := 2071) rfl) ?_
    refine gc_p (p_i2l (v := lI w) (dk_at ktL_law_18 55 rfl) rfl (b := 2072) rfl) ?_
    refine gc_p (p_lcmp (dk_at ktL_law_18 56 rfl) (b := 2073) rfl) ?_
    refine g_if_eq (dk_at ktL_law_18 57 rfl) (b := 2078) (by decide) (b2 := 2076) rfl (fun _ => ?_) (fun c => absurd ((lg_cmp_eq _ _).mpr (congrArg lI ha)) c)
    refine gc_p (p_goto (b := 2878) (dk_at ktL_law_19 0 rfl) (by decide)) ?_
    refine gc_sub [2, 3, 4, 5, 6] (ls' := [(4, .int (nI (4 * q))), (3, .ref 113), (2, .ref 104), (1, .ref 0), (0, .ref 1300)]) rfl ?_
    exact gc_weak (by omega) (by omega) (hloop _ _ _ _ _ _ (h.st (by omega) (hN.le (by omega)) hF hW2 hG hI))
set_option maxRecDepth 8000 in
set_option maxHeartbeats 2000000 in
theorem law_c46 {L q B kc ks : Nat} {xs : Nat → Int32} {sh : mS} {G : mG} {I : mI} {J : mJ} {σ : sT} {T : tT} {nn : Nat} {sn : Nat → Option sT} (hq : 4 * q + 4 ≤ L) (hL : L ≤ 2048) (hB : BootH 114 sh G 0 1 7 26 45 64 65 84 103) (hm : ModG 114 sh G 104) (hso : sh 113 = .inr (3, 1)) (h : LSt B I σ T nn sn) (hBB : B + 1000 < 1000000) (hloop : ∀ (I2 : mI) (J2 : mJ) (σ2 : sT) (T2 : tT) (nn2 : Nat) (sn2 : Nat → Option sT), LSt (B + 6) I2 σ2 T2 nn2 sn2 → LG L xs sh G kc ks 2878 (lawLs q) [] I2 J2) : LG L xs sh G (kc + 3) (ks + 18) 2081 (lawLs q) [] I J := by
  obtain ⟨hI, hW, ⟨T0, N0, hTB, hD⟩, hTR, hTC, hSR, hSD, hSI, hle⟩ := id h
  refine gc_p (p_aload_n 3 (dk_at ktL_law_19 1 rfl) rfl rfl (b := 2082) rfl) ?_
  refine gc_p (p_aload_n 4 (dk_at ktL_law_19 2 rfl) rfl rfl (b := 2083) rfl) ?_
  refine gc_p (p_iload 0 (dk_at ktL_law_19 3 rfl) rfl (b := 2085) rfl) ?_
  refine gc_p (p_iconst (v := nI 1) (dk_at ktL_law_19 4 rfl) (by decide) (b := 2086) rfl) ?_
  refine gc_p (p_iadd (v := nI (4 * q + 1)) (dk_at ktL_law_19 5 rfl) (nI_add (4 * q) 1) (b := 2087) rfl) ?_
  refine g_sld (j := 4 * q + 1) (dk_at ktL_law_19 6 rfl) rfl ⟨by omega, by omega⟩ (b := 2088) rfl ?_
  refine gc_p (p_aload_n 1 (dk_at ktL_law_19 7 rfl) rfl rfl (b := 2089) rfl) ?_
  refine g_callW (As := [.ref 0, .int (xs (4 * q + 1)), .ref 113]) (rest := []) (s_L_cutsToNew ((xs (4 * q + 1))) (s_X6_cutsToNew hB hD hI (by omega) ((xs (4 * q + 1)))) (by decide) hB.s0 (by decide) hso cIn_2) cwW_L_300 (dk_at ktL_law_19 8 rfl) rfl rfl (Nat.le_of_ble_eq_true rfl) ⟨by decide, by decide, by omega, by omega⟩ (b := 2092) rfl (fun r1 I1 J1 hq1 => ?_)
  obtain ⟨k, rfl, hk⟩ := hq1
  obtain ⟨hkc, hN, hF, hj⟩ := WQ.prd hk (RelN.of hD (Nat.le_refl _))
  refine gc_p (p_istore (ls' := [(5, .int k), (4, .int (nI (4 * q))), (3, .ref 113), (2, .ref 104), (1, .ref 0), (0, .ref 1300)]) (dk_at ktL_law_19 9 rfl) (by decide) rfl (b := 2094) rfl) ?_
  refine gc_p (p_aload_n 3 (dk_at ktL_law_19 10 rfl) rfl rfl (b := 2095) rfl) ?_
  refine gc_p (p_aload_n 5 (dk_at ktL_law_19 11 rfl) rfl rfl (b := 2096) rfl) ?_
  refine gc_p (p_iload 1 (dk_at ktL_law_19 12 rfl) rfl (b := 2098) rfl) ?_
  refine gc_p (p_iconst (v := nI 1) (dk_at ktL_law_19 13 rfl) (by decide) (b := 2099) rfl) ?_
  refine gc_p (p_iadd (v := nI (4 * q + 1)) (dk_at ktL_law_19 14 rfl) (nI_add (4 * q) 1) (b := 2100) rfl) ?_
  refine g_sld (j := 4 * q + 1) (dk_at ktL_law_19 15 rfl) rfl ⟨by omega, by omega⟩ (b := 2101) rfl ?_
  have hW1 : RelW (I1 (104 + 1)) σ := by rw [hF (104 + 1) (by omega)]; exact hW
  refine g_callV (ci := 10) (As' := [.int (xs (4 * q + 1))]) (rest := []) (s_X7_cutsToNew hm hW1 hI (xs (4 * q + 1))) cw_L_302 qi_X7_cutsToNew qv_X7_cutsToNew rfl (by decide) hm.s0 (dk_at ktL_law_19 16 rfl) rfl rfl (Nat.le_of_ble_eq_true rfl) ⟨by decide, by decide, by omega, by omega⟩ (b := 2104) rfl (fun r2 I2 J2 hq2 => ?_)
  obtain ⟨w, rfl, ha, h6, rfl, hW2, hG⟩ := hq2
  refine gc_p (p_istore (ls' := [(6, .int w), (5, .int k), (4, .int (nI (4 * q))), (3, .ref 113), (2, .ref 104), (1, .ref 0), (0, .ref 1300)]) (dk_at ktL_law_19 17 rfl) (by decide) rfl (b := 2106) rfl) ?_
  refine gc_p (p_aload_n 4 (dk_at ktL_law_19 18 rfl) rfl rfl (b := 2107) rfl) ?_
  refine g_callV (ci := 10) (As' := []) (rest := []) (s_X7_thrown hm) cw_L_148 qi_X7_thrown qv_X7_thrown rfl (by decide) hm.s0 (dk_at ktL_law_19 19 rfl) rfl rfl (Nat.le_of_ble_eq_true rfl) ⟨by decide, by decide, by omega, by omega⟩ (b := 2110) rfl (fun r3 I3 J3 hq3 => ?_)
  obtain ⟨w3, rfl, rfl, rfl, rfl⟩ := hq3
  refine gc_p (p_iload 1 (dk_at ktL_law_19 20 rfl) rfl (b := 2112) rfl) ?_
  refine g_icmp_eq (dk_at ktL_law_19 21 rfl) (b := 2117) (by decide) (b2 := 2115) rfl (fun _ => ?_) (fun c => absurd (h6.trans hkc.symm) c)
  refine gc_p (p_iload 1 (dk_at ktL_law_19 24 rfl) rfl (b := 2119) rfl) ?_
  refine g_if_ne (dk_at ktL_law_19 25 rfl) (b := 2134) (by decide) (b2 := 2122) rfl (fun c => ?_) (fun c => ?_)
  · refine gc_p (p_goto (b := 2878) (dk_at ktL_law_19 35 rfl) (by decide)) ?_
    refine gc_sub [2, 3, 4, 5, 6] (ls' := [(4, .int (nI (4 * q))), (3, .ref 113), (2, .ref 104), (1, .ref 0), (0, .ref 1300)]) rfl ?_
    exact gc_weak (by omega) (by omega) (hloop _ _ _ _ _ _ (h.st (by omega) (hN.le (by omega)) hF hW2 hG hI))
  · have h0 := hkc.symm.trans c
    have ha := ha h0
    have hj := hj h0
    refine gc_p (p_aload_n 3 (dk_at ktL_law_19 26 rfl) rfl rfl (b := 2123) rfl) ?_
    refine gc_p (p_iconst (v := nI 0) (dk_at ktL_law_19 27 rfl) (by decide) (b := 2124) rfl) ?_
    refine g_jald (id := 113) (len := 1) (j := 0) (by decide) hso (dk_at ktL_law_19 28 rfl) rfl ⟨by decide, by decide⟩ (v := lI (a_cn (xs (4 * q + 1)) σ)) hj (b := 2125) rfl ?_
    refine gc_p (p_iload 0 (dk_at ktL_law_19 29 rfl) rfl (b := 2127) rfl) ?_
    refine gc_p (p_i2l (v := lI w) (dk_at ktL_law_19 30 rfl) rfl (b := 2128) rfl) ?_
    refine gc_p (p_lcmp (dk_at ktL_law_19 31 rfl) (b := 2129) rfl) ?_
    refine g_if_eq (dk_at ktL_law_19 32 rfl) (b := 2134) (by decide) (b2 := 2132) rfl (fun _ => ?_) (fun c => absurd ((lg_cmp_eq _ _).mpr (congrArg lI ha)) c)
    refine gc_p (p_goto (b := 2878) (dk_at ktL_law_19 35 rfl) (by decide)) ?_
    refine gc_sub [2, 3, 4, 5, 6] (ls' := [(4, .int (nI (4 * q))), (3, .ref 113), (2, .ref 104), (1, .ref 0), (0, .ref 1300)]) rfl ?_
    exact gc_weak (by omega) (by omega) (hloop _ _ _ _ _ _ (h.st (by omega) (hN.le (by omega)) hF hW2 hG hI))
set_option maxRecDepth 8000 in
set_option maxHeartbeats 2000000 in
theorem law_c47 {L q B kc ks : Nat} {xs : Nat → Int32} {sh : mS} {G : mG} {I : mI} {J : mJ} {σ : sT} {T : tT} {nn : Nat} {sn : Nat → Option sT} (hq : 4 * q + 4 ≤ L) (hL : L ≤ 2048) (hB : BootH 114 sh G 0 1 7 26 45 64 65 84 103) (hm : ModG 114 sh G 104) (hso : sh 113 = .inr (3, 1)) (h : LSt B I σ T nn sn) (hBB : B + 1000 < 1000000) (hloop : ∀ (I2 : mI) (J2 : mJ) (σ2 : sT) (T2 : tT) (nn2 : Nat) (sn2 : Nat → Option sT), LSt (B + 6) I2 σ2 T2 nn2 sn2 → LG L xs sh G kc ks 2878 (lawLs q) [] I2 J2) : LG L xs sh G (kc + 3) (ks + 18) 2137 (lawLs q) [] I J := by
  obtain ⟨hI, hW, ⟨T0, N0, hTB, hD⟩, hTR, hTC, hSR, hSD, hSI, hle⟩ := id h
  refine gc_p (p_aload_n 3 (dk_at ktL_law_19 36 rfl) rfl rfl (b := 2138) rfl) ?_
  refine gc_p (p_aload_n 4 (dk_at ktL_law_19 37 rfl) rfl rfl (b := 2139) rfl) ?_
  refine gc_p (p_iload 0 (dk_at ktL_law_19 38 rfl) rfl (b := 2141) rfl) ?_
  refine gc_p (p_iconst (v := nI 1) (dk_at ktL_law_19 39 rfl) (by decide) (b := 2142) rfl) ?_
  refine gc_p (p_iadd (v := nI (4 * q + 1)) (dk_at ktL_law_19 40 rfl) (nI_add (4 * q) 1) (b := 2143) rfl) ?_
  refine g_sld (j := 4 * q + 1) (dk_at ktL_law_19 41 rfl) rfl ⟨by omega, by omega⟩ (b := 2144) rfl ?_
  refine gc_p (p_aload_n 1 (dk_at ktL_law_19 42 rfl) rfl rfl (b := 2145) rfl) ?_
  refine g_callW (As := [.ref 0, .int (xs (4 * q + 1)), .ref 113]) (rest := []) (s_L_longestOldRun ((xs (4 * q + 1))) (s_X6_longestOldRun hB hD hI (by omega) ((xs (4 * q + 1)))) (by decide) hB.s0 (by decide) hso cIn_2) cwW_L_303 (dk_at ktL_law_19 43 rfl) rfl rfl (Nat.le_of_ble_eq_true rfl) ⟨by decide, by decide, by omega, by omega⟩ (b := 2148) rfl (fun r1 I1 J1 hq1 => ?_)
  obtain ⟨k, rfl, hk⟩ := hq1
  obtain ⟨hkc, hN, hF, hj⟩ := WQ.prd hk (RelN.of hD (Nat.le_refl _))
  refine gc_p (p_istore (ls' := [(5, .int k), (4, .int (nI (4 * q))), (3, .ref 113), (2, .ref 104), (1, .ref 0), (0, .ref 1300)]) (dk_at ktL_law_19 44 rfl) (by decide) rfl (b := 2150) rfl) ?_
  refine gc_p (p_aload_n 3 (dk_at ktL_law_19 45 rfl) rfl rfl (b := 2151) rfl) ?_
  refine gc_p (p_aload_n 5 (dk_at ktL_law_19 46 rfl) rfl rfl (b := 2152) rfl) ?_
  refine gc_p (p_iload 1 (dk_at ktL_law_19 47 rfl) rfl (b := 2154) rfl) ?_
  refine gc_p (p_iconst (v := nI 1) (dk_at ktL_law_19 48 rfl) (by decide) (b := 2155) rfl) ?_
  refine gc_p (p_iadd (v := nI (4 * q + 1)) (dk_at ktL_law_19 49 rfl) (nI_add (4 * q) 1) (b := 2156) rfl) ?_
  refine g_sld (j := 4 * q + 1) (dk_at ktL_law_19 50 rfl) rfl ⟨by omega, by omega⟩ (b := 2157) rfl ?_
  have hW1 : RelW (I1 (104 + 1)) σ := by rw [hF (104 + 1) (by omega)]; exact hW
  refine g_callV (ci := 10) (As' := [.int (xs (4 * q + 1))]) (rest := []) (s_X7_longestOldRun hm hW1 hI (xs (4 * q + 1))) cw_L_305 qi_X7_longestOldRun qv_X7_longestOldRun rfl (by decide) hm.s0 (dk_at ktL_law_19 51 rfl) rfl rfl (Nat.le_of_ble_eq_true rfl) ⟨by decide, by decide, by omega, by omega⟩ (b := 2160) rfl (fun r2 I2 J2 hq2 => ?_)
  obtain ⟨w, rfl, ha, h6, rfl, hW2, hG⟩ := hq2
  refine gc_p (p_istore (ls' := [(6, .int w), (5, .int k), (4, .int (nI (4 * q))), (3, .ref 113), (2, .ref 104), (1, .ref 0), (0, .ref 1300)]) (dk_at ktL_law_19 52 rfl) (by decide) rfl (b := 2162) rfl) ?_
  refine gc_p (p_aload_n 4 (dk_at ktL_law_19 53 rfl) rfl rfl (b := 2163) rfl) ?_
  refine g_callV (ci := 10) (As' := []) (rest := []) (s_X7_thrown hm) cw_L_148 qi_X7_thrown qv_X7_thrown rfl (by decide) hm.s0 (dk_at ktL_law_19 54 rfl) rfl rfl (Nat.le_of_ble_eq_true rfl) ⟨by decide, by decide, by omega, by omega⟩ (b := 2166) rfl (fun r3 I3 J3 hq3 => ?_)
  obtain ⟨w3, rfl, rfl, rfl, rfl⟩ := hq3
  refine gc_p (p_iload 1 (dk_at ktL_law_19 55 rfl) rfl (b := 2168) rfl) ?_
  refine g_icmp_eq (dk_at ktL_law_19 56 rfl) (b := 2173) (by decide) (b2 := 2171) rfl (fun _ => ?_) (fun c => absurd (h6.trans hkc.symm) c)
  refine gc_p (p_iload 1 (dk_at ktL_law_19 59 rfl) rfl (b := 2175) rfl) ?_
  refine g_if_ne (dk_at ktL_law_20 0 rfl) (b := 2190) (by decide) (b2 := 2178) rfl (fun c => ?_) (fun c => ?_)
  · refine gc_p (p_goto (b := 2878) (dk_at ktL_law_20 10 rfl) (by decide)) ?_
    refine gc_sub [2, 3, 4, 5, 6] (ls' := [(4, .int (nI (4 * q))), (3, .ref 113), (2, .ref 104), (1, .ref 0), (0, .ref 1300)]) rfl ?_
    exact gc_weak (by omega) (by omega) (hloop _ _ _ _ _ _ (h.st (by omega) (hN.le (by omega)) hF hW2 hG hI))
  · have h0 := hkc.symm.trans c
    have ha := ha h0
    have hj := hj h0
    refine gc_p (p_aload_n 3 (dk_at ktL_law_20 1 rfl) rfl rfl (b := 2179) rfl) ?_
    refine gc_p (p_iconst (v := nI 0) (dk_at ktL_law_20 2 rfl) (by decide) (b := 2180) rfl) ?_
    refine g_jald (id := 113) (len := 1) (j := 0) (by decide) hso (dk_at ktL_law_20 3 rfl) rfl ⟨by decide, by decide⟩ (v := lI (a_lo (xs (4 * q + 1)) σ)) hj (b := 2181) rfl ?_
    refine gc_p (p_iload 0 (dk_at ktL_law_20 4 rfl) rfl (b := 2183) rfl) ?_
    refine gc_p (p_i2l (v := lI w) (dk_at ktL_law_20 5 rfl) rfl (b := 2184) rfl) ?_
    refine gc_p (p_lcmp (dk_at ktL_law_20 6 rfl) (b := 2185) rfl) ?_
    refine g_if_eq (dk_at ktL_law_20 7 rfl) (b := 2190) (by decide) (b2 := 2188) rfl (fun _ => ?_) (fun c => absurd ((lg_cmp_eq _ _).mpr (congrArg lI ha)) c)
    refine gc_p (p_goto (b := 2878) (dk_at ktL_law_20 10 rfl) (by decide)) ?_
    refine gc_sub [2, 3, 4, 5, 6] (ls' := [(4, .int (nI (4 * q))), (3, .ref 113), (2, .ref 104), (1, .ref 0), (0, .ref 1300)]) rfl ?_
    exact gc_weak (by omega) (by omega) (hloop _ _ _ _ _ _ (h.st (by omega) (hN.le (by omega)) hF hW2 hG hI))

/-! THE LAW: kinds of calls -/
set_option maxRecDepth 8000 in
set_option maxHeartbeats 2000000 in
theorem law_c48 {L q B kc ks : Nat} {xs : Nat → Int32} {sh : mS} {G : mG} {I : mI} {J : mJ} {σ : sT} {T : tT} {nn : Nat} {sn : Nat → Option sT} (hq : 4 * q + 4 ≤ L) (hL : L ≤ 2048) (hB : BootH 114 sh G 0 1 7 26 45 64 65 84 103) (hm : ModG 114 sh G 104) (hso : sh 113 = .inr (3, 1)) (h : LSt B I σ T nn sn) (hBB : B + 1000 < 1000000) (hloop : ∀ (I2 : mI) (J2 : mJ) (σ2 : sT) (T2 : tT) (nn2 : Nat) (sn2 : Nat → Option sT), LSt (B + 6) I2 σ2 T2 nn2 sn2 → LG L xs sh G kc ks 2878 (lawLs q) [] I2 J2) : LG L xs sh G (kc + 3) (ks + 18) 2193 (lawLs q) [] I J := by
  obtain ⟨hI, hW, ⟨T0, N0, hTB, hD⟩, hTR, hTC, hSR, hSD, hSI, hle⟩ := id h
  refine gc_p (p_aload_n 3 (dk_at ktL_law_20 11 rfl) rfl rfl (b := 2194) rfl) ?_
  refine gc_p (p_aload_n 4 (dk_at ktL_law_20 12 rfl) rfl rfl (b := 2195) rfl) ?_
  refine gc_p (p_iload 0 (dk_at ktL_law_20 13 rfl) rfl (b := 2197) rfl) ?_
  refine gc_p (p_iconst (v := nI 1) (dk_at ktL_law_20 14 rfl) (by decide) (b := 2198) rfl) ?_
  refine gc_p (p_iadd (v := nI (4 * q + 1)) (dk_at ktL_law_20 15 rfl) (nI_add (4 * q) 1) (b := 2199) rfl) ?_
  refine g_sld (j := 4 * q + 1) (dk_at ktL_law_20 16 rfl) rfl ⟨by omega, by omega⟩ (b := 2200) rfl ?_
  refine gc_p (p_aload_n 1 (dk_at ktL_law_20 17 rfl) rfl rfl (b := 2201) rfl) ?_
  refine g_callW (As := [.ref 0, .int (xs (4 * q + 1)), .ref 113]) (rest := []) (s_L_updatesLeft ((xs (4 * q + 1))) (s_X6_updatesLeft hB hD hI (by omega) ((xs (4 * q + 1)))) (by decide) hB.s0 (by decide) hso cIn_2) cwW_L_306 (dk_at ktL_law_20 18 rfl) rfl rfl (Nat.le_of_ble_eq_true rfl) ⟨by decide, by decide, by omega, by omega⟩ (b := 2204) rfl (fun r1 I1 J1 hq1 => ?_)
  obtain ⟨k, rfl, hk⟩ := hq1
  obtain ⟨hkc, hN, hF, hj⟩ := WQ.prd hk (RelN.of hD (Nat.le_refl _))
  refine gc_p (p_istore (ls' := [(5, .int k), (4, .int (nI (4 * q))), (3, .ref 113), (2, .ref 104), (1, .ref 0), (0, .ref 1300)]) (dk_at ktL_law_20 19 rfl) (by decide) rfl (b := 2206) rfl) ?_
  refine gc_p (p_aload_n 3 (dk_at ktL_law_20 20 rfl) rfl rfl (b := 2207) rfl) ?_
  refine gc_p (p_aload_n 5 (dk_at ktL_law_20 21 rfl) rfl rfl (b := 2208) rfl) ?_
  refine gc_p (p_iload 1 (dk_at ktL_law_20 22 rfl) rfl (b := 2210) rfl) ?_
  refine gc_p (p_iconst (v := nI 1) (dk_at ktL_law_20 23 rfl) (by decide) (b := 2211) rfl) ?_
  refine gc_p (p_iadd (v := nI (4 * q + 1)) (dk_at ktL_law_20 24 rfl) (nI_add (4 * q) 1) (b := 2212) rfl) ?_
  refine g_sld (j := 4 * q + 1) (dk_at ktL_law_20 25 rfl) rfl ⟨by omega, by omega⟩ (b := 2213) rfl ?_
  have hW1 : RelW (I1 (104 + 1)) σ := by rw [hF (104 + 1) (by omega)]; exact hW
  refine g_callV (ci := 10) (As' := [.int (xs (4 * q + 1))]) (rest := []) (s_X7_updatesLeft hm hW1 hI (xs (4 * q + 1))) cw_L_308 qi_X7_updatesLeft qv_X7_updatesLeft rfl (by decide) hm.s0 (dk_at ktL_law_20 26 rfl) rfl rfl (Nat.le_of_ble_eq_true rfl) ⟨by decide, by decide, by omega, by omega⟩ (b := 2216) rfl (fun r2 I2 J2 hq2 => ?_)
  obtain ⟨w, rfl, ha, h6, rfl, hW2, hG⟩ := hq2
  refine gc_p (p_istore (ls' := [(6, .int w), (5, .int k), (4, .int (nI (4 * q))), (3, .ref 113), (2, .ref 104), (1, .ref 0), (0, .ref 1300)]) (dk_at ktL_law_20 27 rfl) (by decide) rfl (b := 2218) rfl) ?_
  refine gc_p (p_aload_n 4 (dk_at ktL_law_20 28 rfl) rfl rfl (b := 2219) rfl) ?_
  refine g_callV (ci := 10) (As' := []) (rest := []) (s_X7_thrown hm) cw_L_148 qi_X7_thrown qv_X7_thrown rfl (by decide) hm.s0 (dk_at ktL_law_20 29 rfl) rfl rfl (Nat.le_of_ble_eq_true rfl) ⟨by decide, by decide, by omega, by omega⟩ (b := 2222) rfl (fun r3 I3 J3 hq3 => ?_)
  obtain ⟨w3, rfl, rfl, rfl, rfl⟩ := hq3
  refine gc_p (p_iload 1 (dk_at ktL_law_20 30 rfl) rfl (b := 2224) rfl) ?_
  refine g_icmp_eq (dk_at ktL_law_20 31 rfl) (b := 2229) (by decide) (b2 := 2227) rfl (fun _ => ?_) (fun c => absurd (h6.trans hkc.symm) c)
  refine gc_p (p_iload 1 (dk_at ktL_law_20 34 rfl) rfl (b := 2231) rfl) ?_
  refine g_if_ne (dk_at ktL_law_20 35 rfl) (b := 2246) (by decide) (b2 := 2234) rfl (fun c => ?_) (fun c => ?_)
  · refine gc_p (p_goto (b := 2878) (dk_at ktL_law_20 45 rfl) (by decide)) ?_
    refine gc_sub [2, 3, 4, 5, 6] (ls' := [(4, .int (nI (4 * q))), (3, .ref 113), (2, .ref 104), (1, .ref 0), (0, .ref 1300)]) rfl ?_
    exact gc_weak (by omega) (by omega) (hloop _ _ _ _ _ _ (h.st (by omega) (hN.le (by omega)) hF hW2 hG hI))
  · have h0 := hkc.symm.trans c
    have ha := ha h0
    have hj := hj h0
    refine gc_p (p_aload_n 3 (dk_at ktL_law_20 36 rfl) rfl rfl (b := 2235) rfl) ?_
    refine gc_p (p_iconst (v := nI 0) (dk_at ktL_law_20 37 rfl) (by decide) (b := 2236) rfl) ?_
    refine g_jald (id := 113) (len := 1) (j := 0) (by decide) hso (dk_at ktL_law_20 38 rfl) rfl ⟨by decide, by decide⟩ (v := lI (a_ul (xs (4 * q + 1)) σ)) hj (b := 2237) rfl ?_
    refine gc_p (p_iload 0 (dk_at ktL_law_20 39 rfl) rfl (b := 2239) rfl) ?_
    refine gc_p (p_i2l (v := lI w) (dk_at ktL_law_20 40 rfl) rfl (b := 2240) rfl) ?_
    refine gc_p (p_lcmp (dk_at ktL_law_20 41 rfl) (b := 2241) rfl) ?_
    refine g_if_eq (dk_at ktL_law_20 42 rfl) (b := 2246) (by decide) (b2 := 2244) rfl (fun _ => ?_) (fun c => absurd ((lg_cmp_eq _ _).mpr (congrArg lI ha)) c)
    refine gc_p (p_goto (b := 2878) (dk_at ktL_law_20 45 rfl) (by decide)) ?_
    refine gc_sub [2, 3, 4, 5, 6] (ls' := [(4, .int (nI (4 * q))), (3, .ref 113), (2, .ref 104), (1, .ref 0), (0, .ref 1300)]) rfl ?_
    exact gc_weak (by omega) (by omega) (hloop _ _ _ _ _ _ (h.st (by omega) (hN.le (by omega)) hF hW2 hG hI))
set_option maxRecDepth 8000 in
set_option maxHeartbeats 2000000 in
theorem law_c49 {L q B kc ks : Nat} {xs : Nat → Int32} {sh : mS} {G : mG} {I : mI} {J : mJ} {σ : sT} {T : tT} {nn : Nat} {sn : Nat → Option sT} (hq : 4 * q + 4 ≤ L) (hL : L ≤ 2048) (hB : BootH 114 sh G 0 1 7 26 45 64 65 84 103) (hm : ModG 114 sh G 104) (hso : sh 113 = .inr (3, 1)) (h : LSt B I σ T nn sn) (hBB : B + 1000 < 1000000) (hloop : ∀ (I2 : mI) (J2 : mJ) (σ2 : sT) (T2 : tT) (nn2 : Nat) (sn2 : Nat → Option sT), LSt (B + 6) I2 σ2 T2 nn2 sn2 → LG L xs sh G kc ks 2878 (lawLs q) [] I2 J2) : LG L xs sh G (kc + 3) (ks + 18) 2249 (lawLs q) [] I J := by
  obtain ⟨hI, hW, ⟨T0, N0, hTB, hD⟩, hTR, hTC, hSR, hSD, hSI, hle⟩ := id h
  refine gc_p (p_aload_n 3 (dk_at ktL_law_20 46 rfl) rfl rfl (b := 2250) rfl) ?_
  refine gc_p (p_aload_n 4 (dk_at ktL_law_20 47 rfl) rfl rfl (b := 2251) rfl) ?_
  refine gc_p (p_iload 0 (dk_at ktL_law_20 48 rfl) rfl (b := 2253) rfl) ?_
  refine gc_p (p_iconst (v := nI 1) (dk_at ktL_law_20 49 rfl) (by decide) (b := 2254) rfl) ?_
  refine gc_p (p_iadd (v := nI (4 * q + 1)) (dk_at ktL_law_20 50 rfl) (nI_add (4 * q) 1) (b := 2255) rfl) ?_
  refine g_sld (j := 4 * q + 1) (dk_at ktL_law_20 51 rfl) rfl ⟨by omega, by omega⟩ (b := 2256) rfl ?_
  refine gc_p (p_aload_n 1 (dk_at ktL_law_20 52 rfl) rfl rfl (b := 2257) rfl) ?_
  refine g_callW (As := [.ref 0, .int (xs (4 * q + 1)), .ref 113]) (rest := []) (s_L_thriftyOperations ((xs (4 * q + 1))) (s_X6_thriftyOperations hB hD hI (by omega) ((xs (4 * q + 1)))) (by decide) hB.s0 (by decide) hso cIn_2) cwW_L_309 (dk_at ktL_law_20 53 rfl) rfl rfl (Nat.le_of_ble_eq_true rfl) ⟨by decide, by decide, by omega, by omega⟩ (b := 2260) rfl (fun r1 I1 J1 hq1 => ?_)
  obtain ⟨k, rfl, hk⟩ := hq1
  obtain ⟨hkc, hN, hF, hj⟩ := WQ.prd hk (RelN.of hD (Nat.le_refl _))
  refine gc_p (p_istore (ls' := [(5, .int k), (4, .int (nI (4 * q))), (3, .ref 113), (2, .ref 104), (1, .ref 0), (0, .ref 1300)]) (dk_at ktL_law_20 54 rfl) (by decide) rfl (b := 2262) rfl) ?_
  refine gc_p (p_aload_n 3 (dk_at ktL_law_20 55 rfl) rfl rfl (b := 2263) rfl) ?_
  refine gc_p (p_aload_n 5 (dk_at ktL_law_20 56 rfl) rfl rfl (b := 2264) rfl) ?_
  refine gc_p (p_iload 1 (dk_at ktL_law_20 57 rfl) rfl (b := 2266) rfl) ?_
  refine gc_p (p_iconst (v := nI 1) (dk_at ktL_law_20 58 rfl) (by decide) (b := 2267) rfl) ?_
  refine gc_p (p_iadd (v := nI (4 * q + 1)) (dk_at ktL_law_20 59 rfl) (nI_add (4 * q) 1) (b := 2268) rfl) ?_
  refine g_sld (j := 4 * q + 1) (dk_at ktL_law_21 0 rfl) rfl ⟨by omega, by omega⟩ (b := 2269) rfl ?_
  have hW1 : RelW (I1 (104 + 1)) σ := by rw [hF (104 + 1) (by omega)]; exact hW
  refine g_callV (ci := 10) (As' := [.int (xs (4 * q + 1))]) (rest := []) (s_X7_thriftyOperations hm hW1 hI (xs (4 * q + 1))) cw_L_311 qi_X7_thriftyOperations qv_X7_thriftyOperations rfl (by decide) hm.s0 (dk_at ktL_law_21 1 rfl) rfl rfl (Nat.le_of_ble_eq_true rfl) ⟨by decide, by decide, by omega, by omega⟩ (b := 2272) rfl (fun r2 I2 J2 hq2 => ?_)
  obtain ⟨w, rfl, ha, h6, rfl, hW2, hG⟩ := hq2
  refine gc_p (p_istore (ls' := [(6, .int w), (5, .int k), (4, .int (nI (4 * q))), (3, .ref 113), (2, .ref 104), (1, .ref 0), (0, .ref 1300)]) (dk_at ktL_law_21 2 rfl) (by decide) rfl (b := 2274) rfl) ?_
  refine gc_p (p_aload_n 4 (dk_at ktL_law_21 3 rfl) rfl rfl (b := 2275) rfl) ?_
  refine g_callV (ci := 10) (As' := []) (rest := []) (s_X7_thrown hm) cw_L_148 qi_X7_thrown qv_X7_thrown rfl (by decide) hm.s0 (dk_at ktL_law_21 4 rfl) rfl rfl (Nat.le_of_ble_eq_true rfl) ⟨by decide, by decide, by omega, by omega⟩ (b := 2278) rfl (fun r3 I3 J3 hq3 => ?_)
  obtain ⟨w3, rfl, rfl, rfl, rfl⟩ := hq3
  refine gc_p (p_iload 1 (dk_at ktL_law_21 5 rfl) rfl (b := 2280) rfl) ?_
  refine g_icmp_eq (dk_at ktL_law_21 6 rfl) (b := 2285) (by decide) (b2 := 2283) rfl (fun _ => ?_) (fun c => absurd (h6.trans hkc.symm) c)
  refine gc_p (p_iload 1 (dk_at ktL_law_21 9 rfl) rfl (b := 2287) rfl) ?_
  refine g_if_ne (dk_at ktL_law_21 10 rfl) (b := 2302) (by decide) (b2 := 2290) rfl (fun c => ?_) (fun c => ?_)
  · refine gc_p (p_goto (b := 2878) (dk_at ktL_law_21 20 rfl) (by decide)) ?_
    refine gc_sub [2, 3, 4, 5, 6] (ls' := [(4, .int (nI (4 * q))), (3, .ref 113), (2, .ref 104), (1, .ref 0), (0, .ref 1300)]) rfl ?_
    exact gc_weak (by omega) (by omega) (hloop _ _ _ _ _ _ (h.st (by omega) (hN.le (by omega)) hF hW2 hG hI))
  · have h0 := hkc.symm.trans c
    have ha := ha h0
    have hj := hj h0
    refine gc_p (p_aload_n 3 (dk_at ktL_law_21 11 rfl) rfl rfl (b := 2291) rfl) ?_
    refine gc_p (p_iconst (v := nI 0) (dk_at ktL_law_21 12 rfl) (by decide) (b := 2292) rfl) ?_
    refine g_jald (id := 113) (len := 1) (j := 0) (by decide) hso (dk_at ktL_law_21 13 rfl) rfl ⟨by decide, by decide⟩ (v := lI ((fUpd (xs (4 * q + 1)) true (upd σ 6 (-1))).1)) hj (b := 2293) rfl ?_
    refine gc_p (p_iload 0 (dk_at ktL_law_21 14 rfl) rfl (b := 2295) rfl) ?_
    refine gc_p (p_i2l (v := lI w) (dk_at ktL_law_21 15 rfl) rfl (b := 2296) rfl) ?_
    refine gc_p (p_lcmp (dk_at ktL_law_21 16 rfl) (b := 2297) rfl) ?_
    refine g_if_eq (dk_at ktL_law_21 17 rfl) (b := 2302) (by decide) (b2 := 2300) rfl (fun _ => ?_) (fun c => absurd ((lg_cmp_eq _ _).mpr (congrArg lI ha)) c)
    refine gc_p (p_goto (b := 2878) (dk_at ktL_law_21 20 rfl) (by decide)) ?_
    refine gc_sub [2, 3, 4, 5, 6] (ls' := [(4, .int (nI (4 * q))), (3, .ref 113), (2, .ref 104), (1, .ref 0), (0, .ref 1300)]) rfl ?_
    exact gc_weak (by omega) (by omega) (hloop _ _ _ _ _ _ (h.st (by omega) (hN.le (by omega)) hF hW2 hG hI))
set_option maxRecDepth 8000 in
set_option maxHeartbeats 2000000 in
theorem law_c50 {L q B kc ks : Nat} {xs : Nat → Int32} {sh : mS} {G : mG} {I : mI} {J : mJ} {σ : sT} {T : tT} {nn : Nat} {sn : Nat → Option sT} (hq : 4 * q + 4 ≤ L) (hL : L ≤ 2048) (hB : BootH 114 sh G 0 1 7 26 45 64 65 84 103) (hm : ModG 114 sh G 104) (hso : sh 113 = .inr (3, 1)) (h : LSt B I σ T nn sn) (hBB : B + 1000 < 1000000) (hloop : ∀ (I2 : mI) (J2 : mJ) (σ2 : sT) (T2 : tT) (nn2 : Nat) (sn2 : Nat → Option sT), LSt (B + 6) I2 σ2 T2 nn2 sn2 → LG L xs sh G kc ks 2878 (lawLs q) [] I2 J2) : LG L xs sh G (kc + 3) (ks + 18) 2305 (lawLs q) [] I J := by
  obtain ⟨hI, hW, ⟨T0, N0, hTB, hD⟩, hTR, hTC, hSR, hSD, hSI, hle⟩ := id h
  refine gc_p (p_aload_n 3 (dk_at ktL_law_21 21 rfl) rfl rfl (b := 2306) rfl) ?_
  refine g_callV (ci := 9) (As' := []) (rest := []) (s_X6_thriftyPages hB hD hI ) cw_L_312 qi_X6_thriftyPages qv_X6_thriftyPages rfl (by decide) hB.s0 (dk_at ktL_law_21 22 rfl) rfl rfl (Nat.le_of_ble_eq_true rfl) ⟨by decide, by decide, by omega, by omega⟩ (b := 2309) rfl (fun r1 I1 J1 hq1 => ?_)
  obtain ⟨v, rfl, rfl, rfl, hN, hF⟩ := hq1
  refine gc_p (p_aload_n 2 (dk_at ktL_law_21 23 rfl) rfl rfl (b := 2310) rfl) ?_
  have hW1 : RelW (I1 (104 + 1)) σ := by rw [hF (104 + 1) (by omega)]; exact hW
  refine g_callV (ci := 10) (As' := []) (rest := [_]) (s_X7_thriftyPages hm hW1 hI ) cw_L_315 qi_X7_thriftyPages qv_X7_thriftyPages rfl (by decide) hm.s0 (dk_at ktL_law_21 24 rfl) rfl rfl (Nat.le_of_ble_eq_true rfl) ⟨by decide, by decide, by omega, by omega⟩ (b := 2313) rfl (fun r2 I2 J2 hq2 => ?_)
  obtain ⟨w, rfl, ha, h6, rfl, hW2, hG⟩ := hq2
  have ha := ha rfl
  refine g_icmp_eq (dk_at ktL_law_21 25 rfl) (b := 2878) (by decide) (b2 := 2316) rfl (fun _ => ?_) (fun c => absurd ha c)
  exact gc_weak (by omega) (by omega) (hloop _ _ _ _ _ _ (h.st (by omega) (hN.le (by omega)) hF hW2 hG hI))
set_option maxRecDepth 8000 in
set_option maxHeartbeats 2000000 in
theorem law_c51 {L q B kc ks : Nat} {xs : Nat → Int32} {sh : mS} {G : mG} {I : mI} {J : mJ} {σ : sT} {T : tT} {nn : Nat} {sn : Nat → Option sT} (hq : 4 * q + 4 ≤ L) (hL : L ≤ 2048) (hB : BootH 114 sh G 0 1 7 26 45 64 65 84 103) (hm : ModG 114 sh G 104) (hso : sh 113 = .inr (3, 1)) (h : LSt B I σ T nn sn) (hBB : B + 1000 < 1000000) (hloop : ∀ (I2 : mI) (J2 : mJ) (σ2 : sT) (T2 : tT) (nn2 : Nat) (sn2 : Nat → Option sT), LSt (B + 6) I2 σ2 T2 nn2 sn2 → LG L xs sh G kc ks 2878 (lawLs q) [] I2 J2) : LG L xs sh G (kc + 3) (ks + 18) 2318 (lawLs q) [] I J := by
  obtain ⟨hI, hW, ⟨T0, N0, hTB, hD⟩, hTR, hTC, hSR, hSD, hSI, hle⟩ := id h
  refine gc_p (p_aload_n 3 (dk_at ktL_law_21 28 rfl) rfl rfl (b := 2319) rfl) ?_
  refine gc_p (p_aload_n 4 (dk_at ktL_law_21 29 rfl) rfl rfl (b := 2320) rfl) ?_
  refine gc_p (p_iload 0 (dk_at ktL_law_21 30 rfl) rfl (b := 2322) rfl) ?_
  refine gc_p (p_iconst (v := nI 1) (dk_at ktL_law_21 31 rfl) (by decide) (b := 2323) rfl) ?_
  refine gc_p (p_iadd (v := nI (4 * q + 1)) (dk_at ktL_law_21 32 rfl) (nI_add (4 * q) 1) (b := 2324) rfl) ?_
  refine g_sld (j := 4 * q + 1) (dk_at ktL_law_21 33 rfl) rfl ⟨by omega, by omega⟩ (b := 2325) rfl ?_
  refine gc_p (p_aload_n 1 (dk_at ktL_law_21 34 rfl) rfl rfl (b := 2326) rfl) ?_
  refine g_callW (As := [.ref 0, .int (xs (4 * q + 1)), .ref 113]) (rest := []) (s_L_firstUnsafeThriftyCut ((xs (4 * q + 1))) (s_X6_firstUnsafeThriftyCut hB hD hI (by omega) ((xs (4 * q + 1)))) (by decide) hB.s0 (by decide) hso cIn_2) cwW_L_316 (dk_at ktL_law_21 35 rfl) rfl rfl (Nat.le_of_ble_eq_true rfl) ⟨by decide, by decide, by omega, by omega⟩ (b := 2329) rfl (fun r1 I1 J1 hq1 => ?_)
  obtain ⟨k, rfl, hk⟩ := hq1
  obtain ⟨hkc, hN, hF, hj⟩ := WQ.prd hk (RelN.of hD (Nat.le_refl _))
  refine gc_p (p_istore (ls' := [(5, .int k), (4, .int (nI (4 * q))), (3, .ref 113), (2, .ref 104), (1, .ref 0), (0, .ref 1300)]) (dk_at ktL_law_21 36 rfl) (by decide) rfl (b := 2331) rfl) ?_
  refine gc_p (p_aload_n 3 (dk_at ktL_law_21 37 rfl) rfl rfl (b := 2332) rfl) ?_
  refine gc_p (p_aload_n 5 (dk_at ktL_law_21 38 rfl) rfl rfl (b := 2333) rfl) ?_
  refine gc_p (p_iload 1 (dk_at ktL_law_21 39 rfl) rfl (b := 2335) rfl) ?_
  refine gc_p (p_iconst (v := nI 1) (dk_at ktL_law_21 40 rfl) (by decide) (b := 2336) rfl) ?_
  refine gc_p (p_iadd (v := nI (4 * q + 1)) (dk_at ktL_law_21 41 rfl) (nI_add (4 * q) 1) (b := 2337) rfl) ?_
  refine g_sld (j := 4 * q + 1) (dk_at ktL_law_21 42 rfl) rfl ⟨by omega, by omega⟩ (b := 2338) rfl ?_
  have hW1 : RelW (I1 (104 + 1)) σ := by rw [hF (104 + 1) (by omega)]; exact hW
  refine g_callV (ci := 10) (As' := [.int (xs (4 * q + 1))]) (rest := []) (s_X7_firstUnsafeThriftyCut hm hW1 hI (xs (4 * q + 1))) cw_L_318 qi_X7_firstUnsafeThriftyCut qv_X7_firstUnsafeThriftyCut rfl (by decide) hm.s0 (dk_at ktL_law_21 43 rfl) rfl rfl (Nat.le_of_ble_eq_true rfl) ⟨by decide, by decide, by omega, by omega⟩ (b := 2341) rfl (fun r2 I2 J2 hq2 => ?_)
  obtain ⟨w, rfl, ha, h6, rfl, hW2, hG⟩ := hq2
  refine gc_p (p_istore (ls' := [(6, .int w), (5, .int k), (4, .int (nI (4 * q))), (3, .ref 113), (2, .ref 104), (1, .ref 0), (0, .ref 1300)]) (dk_at ktL_law_21 44 rfl) (by decide) rfl (b := 2343) rfl) ?_
  refine gc_p (p_aload_n 4 (dk_at ktL_law_21 45 rfl) rfl rfl (b := 2344) rfl) ?_
  refine g_callV (ci := 10) (As' := []) (rest := []) (s_X7_thrown hm) cw_L_148 qi_X7_thrown qv_X7_thrown rfl (by decide) hm.s0 (dk_at ktL_law_21 46 rfl) rfl rfl (Nat.le_of_ble_eq_true rfl) ⟨by decide, by decide, by omega, by omega⟩ (b := 2347) rfl (fun r3 I3 J3 hq3 => ?_)
  obtain ⟨w3, rfl, rfl, rfl, rfl⟩ := hq3
  refine gc_p (p_iload 1 (dk_at ktL_law_21 47 rfl) rfl (b := 2349) rfl) ?_
  refine g_icmp_eq (dk_at ktL_law_21 48 rfl) (b := 2354) (by decide) (b2 := 2352) rfl (fun _ => ?_) (fun c => absurd (h6.trans hkc.symm) c)
  refine gc_p (p_iload 1 (dk_at ktL_law_21 51 rfl) rfl (b := 2356) rfl) ?_
  refine g_if_ne (dk_at ktL_law_21 52 rfl) (b := 2371) (by decide) (b2 := 2359) rfl (fun c => ?_) (fun c => ?_)
  · refine gc_p (p_goto (b := 2878) (dk_at ktL_law_22 2 rfl) (by decide)) ?_
    refine gc_sub [2, 3, 4, 5, 6] (ls' := [(4, .int (nI (4 * q))), (3, .ref 113), (2, .ref 104), (1, .ref 0), (0, .ref 1300)]) rfl ?_
    exact gc_weak (by omega) (by omega) (hloop _ _ _ _ _ _ (h.st (by omega) (hN.le (by omega)) hF hW2 hG hI))
  · have h0 := hkc.symm.trans c
    have ha := ha h0
    have hj := hj h0
    refine gc_p (p_aload_n 3 (dk_at ktL_law_21 53 rfl) rfl rfl (b := 2360) rfl) ?_
    refine gc_p (p_iconst (v := nI 0) (dk_at ktL_law_21 54 rfl) (by decide) (b := 2361) rfl) ?_
    refine g_jald (id := 113) (len := 1) (j := 0) (by decide) hso (dk_at ktL_law_21 55 rfl) rfl ⟨by decide, by decide⟩ (v := lI (a_fu (xs (4 * q + 1)) true σ)) hj (b := 2362) rfl ?_
    refine gc_p (p_iload 0 (dk_at ktL_law_21 56 rfl) rfl (b := 2364) rfl) ?_
    refine gc_p (p_i2l (v := lI w) (dk_at ktL_law_21 57 rfl) rfl (b := 2365) rfl) ?_
    refine gc_p (p_lcmp (dk_at ktL_law_21 58 rfl) (b := 2366) rfl) ?_
    refine g_if_eq (dk_at ktL_law_21 59 rfl) (b := 2371) (by decide) (b2 := 2369) rfl (fun _ => ?_) (fun c => absurd ((lg_cmp_eq _ _).mpr (congrArg lI ha)) c)
    refine gc_p (p_goto (b := 2878) (dk_at ktL_law_22 2 rfl) (by decide)) ?_
    refine gc_sub [2, 3, 4, 5, 6] (ls' := [(4, .int (nI (4 * q))), (3, .ref 113), (2, .ref 104), (1, .ref 0), (0, .ref 1300)]) rfl ?_
    exact gc_weak (by omega) (by omega) (hloop _ _ _ _ _ _ (h.st (by omega) (hN.le (by omega)) hF hW2 hG hI))
set_option maxRecDepth 8000 in
set_option maxHeartbeats 2000000 in
theorem law_c52 {L q B kc ks : Nat} {xs : Nat → Int32} {sh : mS} {G : mG} {I : mI} {J : mJ} {σ : sT} {T : tT} {nn : Nat} {sn : Nat → Option sT} (hq : 4 * q + 4 ≤ L) (hL : L ≤ 2048) (hB : BootH 114 sh G 0 1 7 26 45 64 65 84 103) (hm : ModG 114 sh G 104) (hso : sh 113 = .inr (3, 1)) (h : LSt B I σ T nn sn) (hBB : B + 1000 < 1000000) (hloop : ∀ (I2 : mI) (J2 : mJ) (σ2 : sT) (T2 : tT) (nn2 : Nat) (sn2 : Nat → Option sT), LSt (B + 6) I2 σ2 T2 nn2 sn2 → LG L xs sh G kc ks 2878 (lawLs q) [] I2 J2) : LG L xs sh G (kc + 3) (ks + 18) 2374 (lawLs q) [] I J := by
  obtain ⟨hI, hW, ⟨T0, N0, hTB, hD⟩, hTR, hTC, hSR, hSD, hSI, hle⟩ := id h
  refine gc_p (p_aload_n 3 (dk_at ktL_law_22 3 rfl) rfl rfl (b := 2375) rfl) ?_
  refine gc_p (p_aload_n 4 (dk_at ktL_law_22 4 rfl) rfl rfl (b := 2376) rfl) ?_
  refine gc_p (p_iload 0 (dk_at ktL_law_22 5 rfl) rfl (b := 2378) rfl) ?_
  refine gc_p (p_iconst (v := nI 1) (dk_at ktL_law_22 6 rfl) (by decide) (b := 2379) rfl) ?_
  refine gc_p (p_iadd (v := nI (4 * q + 1)) (dk_at ktL_law_22 7 rfl) (nI_add (4 * q) 1) (b := 2380) rfl) ?_
  refine g_sld (j := 4 * q + 1) (dk_at ktL_law_22 8 rfl) rfl ⟨by omega, by omega⟩ (b := 2381) rfl ?_
  refine gc_p (p_aload_n 4 (dk_at ktL_law_22 9 rfl) rfl rfl (b := 2382) rfl) ?_
  refine gc_p (p_iload 0 (dk_at ktL_law_22 10 rfl) rfl (b := 2384) rfl) ?_
  refine gc_p (p_iconst (v := nI 2) (dk_at ktL_law_22 11 rfl) (by decide) (b := 2385) rfl) ?_
  refine gc_p (p_iadd (v := nI (4 * q + 2)) (dk_at ktL_law_22 12 rfl) (nI_add (4 * q) 2) (b := 2386) rfl) ?_
  refine g_sld (j := 4 * q + 2) (dk_at ktL_law_22 13 rfl) rfl ⟨by omega, by omega⟩ (b := 2387) rfl ?_
  refine gc_p (p_aload_n 4 (dk_at ktL_law_22 14 rfl) rfl rfl (b := 2388) rfl) ?_
  refine gc_p (p_iload 0 (dk_at ktL_law_22 15 rfl) rfl (b := 2390) rfl) ?_
  refine gc_p (p_iconst (v := nI 3) (dk_at ktL_law_22 16 rfl) (by decide) (b := 2391) rfl) ?_
  refine gc_p (p_iadd (v := nI (4 * q + 3)) (dk_at ktL_law_22 17 rfl) (nI_add (4 * q) 3) (b := 2392) rfl) ?_
  refine g_sld (j := 4 * q + 3) (dk_at ktL_law_22 18 rfl) rfl ⟨by omega, by omega⟩ (b := 2393) rfl ?_
  refine gc_p (p_aload_n 1 (dk_at ktL_law_22 19 rfl) rfl rfl (b := 2394) rfl) ?_
  refine g_callW (As := [.ref 0, .int (xs (4 * q + 1)), .int (xs (4 * q + 2)), .int (xs (4 * q + 3)), .ref 113]) (rest := []) (s_L_slotAfterTwoCuts ((xs (4 * q + 1))) ((xs (4 * q + 2))) ((xs (4 * q + 3))) (s_X6_slotAfterTwoCuts hB hD hI (by omega) ((xs (4 * q + 1))) ((xs (4 * q + 2))) ((xs (4 * q + 3)))) (by decide) hB.s0 (by decide) hso cTwo_2) cwW_L_319 (dk_at ktL_law_22 20 rfl) rfl rfl (Nat.le_of_ble_eq_true rfl) ⟨by decide, by decide, by omega, by omega⟩ (b := 2397) rfl (fun r1 I1 J1 hq1 => ?_)
  obtain ⟨k, rfl, hk⟩ := hq1
  obtain ⟨hkc, hN, hF, hj⟩ := WQ.prd hk (RelN.of hD (Nat.le_refl _))
  refine gc_p (p_istore (ls' := [(5, .int k), (4, .int (nI (4 * q))), (3, .ref 113), (2, .ref 104), (1, .ref 0), (0, .ref 1300)]) (dk_at ktL_law_22 21 rfl) (by decide) rfl (b := 2399) rfl) ?_
  refine gc_p (p_aload_n 3 (dk_at ktL_law_22 22 rfl) rfl rfl (b := 2400) rfl) ?_
  refine gc_p (p_aload_n 5 (dk_at ktL_law_22 23 rfl) rfl rfl (b := 2401) rfl) ?_
  refine gc_p (p_iload 1 (dk_at ktL_law_22 24 rfl) rfl (b := 2403) rfl) ?_
  refine gc_p (p_iconst (v := nI 1) (dk_at ktL_law_22 25 rfl) (by decide) (b := 2404) rfl) ?_
  refine gc_p (p_iadd (v := nI (4 * q + 1)) (dk_at ktL_law_22 26 rfl) (nI_add (4 * q) 1) (b := 2405) rfl) ?_
  refine g_sld (j := 4 * q + 1) (dk_at ktL_law_22 27 rfl) rfl ⟨by omega, by omega⟩ (b := 2406) rfl ?_
  refine gc_p (p_aload_n 5 (dk_at ktL_law_22 28 rfl) rfl rfl (b := 2407) rfl) ?_
  refine gc_p (p_iload 1 (dk_at ktL_law_22 29 rfl) rfl (b := 2409) rfl) ?_
  refine gc_p (p_iconst (v := nI 2) (dk_at ktL_law_22 30 rfl) (by decide) (b := 2410) rfl) ?_
  refine gc_p (p_iadd (v := nI (4 * q + 2)) (dk_at ktL_law_22 31 rfl) (nI_add (4 * q) 2) (b := 2411) rfl) ?_
  refine g_sld (j := 4 * q + 2) (dk_at ktL_law_22 32 rfl) rfl ⟨by omega, by omega⟩ (b := 2412) rfl ?_
  refine gc_p (p_aload_n 5 (dk_at ktL_law_22 33 rfl) rfl rfl (b := 2413) rfl) ?_
  refine gc_p (p_iload 1 (dk_at ktL_law_22 34 rfl) rfl (b := 2415) rfl) ?_
  refine gc_p (p_iconst (v := nI 3) (dk_at ktL_law_22 35 rfl) (by decide) (b := 2416) rfl) ?_
  refine gc_p (p_iadd (v := nI (4 * q + 3)) (dk_at ktL_law_22 36 rfl) (nI_add (4 * q) 3) (b := 2417) rfl) ?_
  refine g_sld (j := 4 * q + 3) (dk_at ktL_law_22 37 rfl) rfl ⟨by omega, by omega⟩ (b := 2418) rfl ?_
  have hW1 : RelW (I1 (104 + 1)) σ := by rw [hF (104 + 1) (by omega)]; exact hW
  refine g_callV (ci := 10) (As' := [.int (xs (4 * q + 1)), .int (xs (4 * q + 2)), .int (xs (4 * q + 3))]) (rest := []) (s_X7_slotAfterTwoCuts hm hW1 hI (xs (4 * q + 1)) (xs (4 * q + 2)) (xs (4 * q + 3))) cw_L_321 qi_X7_slotAfterTwoCuts qv_X7_slotAfterTwoCuts rfl (by decide) hm.s0 (dk_at ktL_law_22 38 rfl) rfl rfl (Nat.le_of_ble_eq_true rfl) ⟨by decide, by decide, by omega, by omega⟩ (b := 2421) rfl (fun r2 I2 J2 hq2 => ?_)
  obtain ⟨w, rfl, ha, h6, rfl, hW2, hG⟩ := hq2
  refine gc_p (p_istore (ls' := [(6, .int w), (5, .int k), (4, .int (nI (4 * q))), (3, .ref 113), (2, .ref 104), (1, .ref 0), (0, .ref 1300)]) (dk_at ktL_law_22 39 rfl) (by decide) rfl (b := 2423) rfl) ?_
  refine gc_p (p_aload_n 4 (dk_at ktL_law_22 40 rfl) rfl rfl (b := 2424) rfl) ?_
  refine g_callV (ci := 10) (As' := []) (rest := []) (s_X7_thrown hm) cw_L_148 qi_X7_thrown qv_X7_thrown rfl (by decide) hm.s0 (dk_at ktL_law_22 41 rfl) rfl rfl (Nat.le_of_ble_eq_true rfl) ⟨by decide, by decide, by omega, by omega⟩ (b := 2427) rfl (fun r3 I3 J3 hq3 => ?_)
  obtain ⟨w3, rfl, rfl, rfl, rfl⟩ := hq3
  refine gc_p (p_iload 1 (dk_at ktL_law_22 42 rfl) rfl (b := 2429) rfl) ?_
  refine g_icmp_eq (dk_at ktL_law_22 43 rfl) (b := 2434) (by decide) (b2 := 2432) rfl (fun _ => ?_) (fun c => absurd (h6.trans hkc.symm) c)
  refine gc_p (p_iload 1 (dk_at ktL_law_22 46 rfl) rfl (b := 2436) rfl) ?_
  refine g_if_ne (dk_at ktL_law_22 47 rfl) (b := 2451) (by decide) (b2 := 2439) rfl (fun c => ?_) (fun c => ?_)
  · refine gc_p (p_goto (b := 2878) (dk_at ktL_law_22 57 rfl) (by decide)) ?_
    refine gc_sub [2, 3, 4, 5, 6] (ls' := [(4, .int (nI (4 * q))), (3, .ref 113), (2, .ref 104), (1, .ref 0), (0, .ref 1300)]) rfl ?_
    exact gc_weak (by omega) (by omega) (hloop _ _ _ _ _ _ (h.st (by omega) (hN.le (by omega)) hF hW2 hG hI))
  · have h0 := hkc.symm.trans c
    have ha := ha h0
    have hj := hj h0
    refine gc_p (p_aload_n 3 (dk_at ktL_law_22 48 rfl) rfl rfl (b := 2440) rfl) ?_
    refine gc_p (p_iconst (v := nI 0) (dk_at ktL_law_22 49 rfl) (by decide) (b := 2441) rfl) ?_
    refine g_jald (id := 113) (len := 1) (j := 0) (by decide) hso (dk_at ktL_law_22 50 rfl) rfl ⟨by decide, by decide⟩ (v := lI (a_sac (xs (4 * q + 1)) (xs (4 * q + 2)) (xs (4 * q + 3)) σ)) hj (b := 2442) rfl ?_
    refine gc_p (p_iload 0 (dk_at ktL_law_22 51 rfl) rfl (b := 2444) rfl) ?_
    refine gc_p (p_i2l (v := lI w) (dk_at ktL_law_22 52 rfl) rfl (b := 2445) rfl) ?_
    refine gc_p (p_lcmp (dk_at ktL_law_22 53 rfl) (b := 2446) rfl) ?_
    refine g_if_eq (dk_at ktL_law_22 54 rfl) (b := 2451) (by decide) (b2 := 2449) rfl (fun _ => ?_) (fun c => absurd ((lg_cmp_eq _ _).mpr (congrArg lI ha)) c)
    refine gc_p (p_goto (b := 2878) (dk_at ktL_law_22 57 rfl) (by decide)) ?_
    refine gc_sub [2, 3, 4, 5, 6] (ls' := [(4, .int (nI (4 * q))), (3, .ref 113), (2, .ref 104), (1, .ref 0), (0, .ref 1300)]) rfl ?_
    exact gc_weak (by omega) (by omega) (hloop _ _ _ _ _ _ (h.st (by omega) (hN.le (by omega)) hF hW2 hG hI))
set_option maxRecDepth 8000 in
set_option maxHeartbeats 2000000 in
theorem law_c53 {L q B kc ks : Nat} {xs : Nat → Int32} {sh : mS} {G : mG} {I : mI} {J : mJ} {σ : sT} {T : tT} {nn : Nat} {sn : Nat → Option sT} (hq : 4 * q + 4 ≤ L) (hL : L ≤ 2048) (hB : BootH 114 sh G 0 1 7 26 45 64 65 84 103) (hm : ModG 114 sh G 104) (hso : sh 113 = .inr (3, 1)) (h : LSt B I σ T nn sn) (hBB : B + 1000 < 1000000) (hloop : ∀ (I2 : mI) (J2 : mJ) (σ2 : sT) (T2 : tT) (nn2 : Nat) (sn2 : Nat → Option sT), LSt (B + 6) I2 σ2 T2 nn2 sn2 → LG L xs sh G kc ks 2878 (lawLs q) [] I2 J2) : LG L xs sh G (kc + 3) (ks + 18) 2454 (lawLs q) [] I J := by
  obtain ⟨hI, hW, ⟨T0, N0, hTB, hD⟩, hTR, hTC, hSR, hSD, hSI, hle⟩ := id h
  refine gc_p (p_aload_n 3 (dk_at ktL_law_22 58 rfl) rfl rfl (b := 2455) rfl) ?_
  refine gc_p (p_aload_n 4 (dk_at ktL_law_22 59 rfl) rfl rfl (b := 2456) rfl) ?_
  refine gc_p (p_iload 0 (dk_at ktL_law_23 0 rfl) rfl (b := 2458) rfl) ?_
  refine gc_p (p_iconst (v := nI 1) (dk_at ktL_law_23 1 rfl) (by decide) (b := 2459) rfl) ?_
  refine gc_p (p_iadd (v := nI (4 * q + 1)) (dk_at ktL_law_23 2 rfl) (nI_add (4 * q) 1) (b := 2460) rfl) ?_
  refine g_sld (j := 4 * q + 1) (dk_at ktL_law_23 3 rfl) rfl ⟨by omega, by omega⟩ (b := 2461) rfl ?_
  refine gc_p (p_aload_n 1 (dk_at ktL_law_23 4 rfl) rfl rfl (b := 2462) rfl) ?_
  refine g_callW (As := [.ref 0, .int (xs (4 * q + 1)), .ref 113]) (rest := []) (s_L_firstUnsafePair ((xs (4 * q + 1))) (s_X6_firstUnsafePair hB hD hI (by omega) ((xs (4 * q + 1)))) (by decide) hB.s0 (by decide) hso cIn_2) cwW_L_322 (dk_at ktL_law_23 5 rfl) rfl rfl (Nat.le_of_ble_eq_true rfl) ⟨by decide, by decide, by omega, by omega⟩ (b := 2465) rfl (fun r1 I1 J1 hq1 => ?_)
  obtain ⟨k, rfl, hk⟩ := hq1
  obtain ⟨hkc, hN, hF, hj⟩ := WQ.prd hk (RelN.of hD (Nat.le_refl _))
  refine gc_p (p_istore (ls' := [(5, .int k), (4, .int (nI (4 * q))), (3, .ref 113), (2, .ref 104), (1, .ref 0), (0, .ref 1300)]) (dk_at ktL_law_23 6 rfl) (by decide) rfl (b := 2467) rfl) ?_
  refine gc_p (p_aload_n 3 (dk_at ktL_law_23 7 rfl) rfl rfl (b := 2468) rfl) ?_
  refine gc_p (p_aload_n 5 (dk_at ktL_law_23 8 rfl) rfl rfl (b := 2469) rfl) ?_
  refine gc_p (p_iload 1 (dk_at ktL_law_23 9 rfl) rfl (b := 2471) rfl) ?_
  refine gc_p (p_iconst (v := nI 1) (dk_at ktL_law_23 10 rfl) (by decide) (b := 2472) rfl) ?_
  refine gc_p (p_iadd (v := nI (4 * q + 1)) (dk_at ktL_law_23 11 rfl) (nI_add (4 * q) 1) (b := 2473) rfl) ?_
  refine g_sld (j := 4 * q + 1) (dk_at ktL_law_23 12 rfl) rfl ⟨by omega, by omega⟩ (b := 2474) rfl ?_
  have hW1 : RelW (I1 (104 + 1)) σ := by rw [hF (104 + 1) (by omega)]; exact hW
  refine g_callV (ci := 10) (As' := [.int (xs (4 * q + 1))]) (rest := []) (s_X7_firstUnsafePair hm hW1 hI (xs (4 * q + 1))) cw_L_324 qi_X7_firstUnsafePair qv_X7_firstUnsafePair rfl (by decide) hm.s0 (dk_at ktL_law_23 13 rfl) rfl rfl (Nat.le_of_ble_eq_true rfl) ⟨by decide, by decide, by omega, by omega⟩ (b := 2477) rfl (fun r2 I2 J2 hq2 => ?_)
  obtain ⟨w, rfl, ha, h6, rfl, hW2, hG⟩ := hq2
  refine gc_p (p_istore (ls' := [(6, .int w), (5, .int k), (4, .int (nI (4 * q))), (3, .ref 113), (2, .ref 104), (1, .ref 0), (0, .ref 1300)]) (dk_at ktL_law_23 14 rfl) (by decide) rfl (b := 2479) rfl) ?_
  refine gc_p (p_aload_n 4 (dk_at ktL_law_23 15 rfl) rfl rfl (b := 2480) rfl) ?_
  refine g_callV (ci := 10) (As' := []) (rest := []) (s_X7_thrown hm) cw_L_148 qi_X7_thrown qv_X7_thrown rfl (by decide) hm.s0 (dk_at ktL_law_23 16 rfl) rfl rfl (Nat.le_of_ble_eq_true rfl) ⟨by decide, by decide, by omega, by omega⟩ (b := 2483) rfl (fun r3 I3 J3 hq3 => ?_)
  obtain ⟨w3, rfl, rfl, rfl, rfl⟩ := hq3
  refine gc_p (p_iload 1 (dk_at ktL_law_23 17 rfl) rfl (b := 2485) rfl) ?_
  refine g_icmp_eq (dk_at ktL_law_23 18 rfl) (b := 2490) (by decide) (b2 := 2488) rfl (fun _ => ?_) (fun c => absurd (h6.trans hkc.symm) c)
  refine gc_p (p_iload 1 (dk_at ktL_law_23 21 rfl) rfl (b := 2492) rfl) ?_
  refine g_if_ne (dk_at ktL_law_23 22 rfl) (b := 2507) (by decide) (b2 := 2495) rfl (fun c => ?_) (fun c => ?_)
  · refine gc_p (p_goto (b := 2878) (dk_at ktL_law_23 32 rfl) (by decide)) ?_
    refine gc_sub [2, 3, 4, 5, 6] (ls' := [(4, .int (nI (4 * q))), (3, .ref 113), (2, .ref 104), (1, .ref 0), (0, .ref 1300)]) rfl ?_
    exact gc_weak (by omega) (by omega) (hloop _ _ _ _ _ _ (h.st (by omega) (hN.le (by omega)) hF hW2 hG hI))
  · have h0 := hkc.symm.trans c
    have ha := ha h0
    have hj := hj h0
    refine gc_p (p_aload_n 3 (dk_at ktL_law_23 23 rfl) rfl rfl (b := 2496) rfl) ?_
    refine gc_p (p_iconst (v := nI 0) (dk_at ktL_law_23 24 rfl) (by decide) (b := 2497) rfl) ?_
    refine g_jald (id := 113) (len := 1) (j := 0) (by decide) hso (dk_at ktL_law_23 25 rfl) rfl ⟨by decide, by decide⟩ (v := lI (a_fp (xs (4 * q + 1)) σ)) hj (b := 2498) rfl ?_
    refine gc_p (p_iload 0 (dk_at ktL_law_23 26 rfl) rfl (b := 2500) rfl) ?_
    refine gc_p (p_i2l (v := lI w) (dk_at ktL_law_23 27 rfl) rfl (b := 2501) rfl) ?_
    refine gc_p (p_lcmp (dk_at ktL_law_23 28 rfl) (b := 2502) rfl) ?_
    refine g_if_eq (dk_at ktL_law_23 29 rfl) (b := 2507) (by decide) (b2 := 2505) rfl (fun _ => ?_) (fun c => absurd ((lg_cmp_eq _ _).mpr (congrArg lI ha)) c)
    refine gc_p (p_goto (b := 2878) (dk_at ktL_law_23 32 rfl) (by decide)) ?_
    refine gc_sub [2, 3, 4, 5, 6] (ls' := [(4, .int (nI (4 * q))), (3, .ref 113), (2, .ref 104), (1, .ref 0), (0, .ref 1300)]) rfl ?_
    exact gc_weak (by omega) (by omega) (hloop _ _ _ _ _ _ (h.st (by omega) (hN.le (by omega)) hF hW2 hG hI))
set_option maxRecDepth 8000 in
set_option maxHeartbeats 2000000 in
theorem law_c54 {L q B kc ks : Nat} {xs : Nat → Int32} {sh : mS} {G : mG} {I : mI} {J : mJ} {σ : sT} {T : tT} {nn : Nat} {sn : Nat → Option sT} (hq : 4 * q + 4 ≤ L) (hL : L ≤ 2048) (hB : BootH 114 sh G 0 1 7 26 45 64 65 84 103) (hm : ModG 114 sh G 104) (hso : sh 113 = .inr (3, 1)) (h : LSt B I σ T nn sn) (hBB : B + 1000 < 1000000) (hloop : ∀ (I2 : mI) (J2 : mJ) (σ2 : sT) (T2 : tT) (nn2 : Nat) (sn2 : Nat → Option sT), LSt (B + 6) I2 σ2 T2 nn2 sn2 → LG L xs sh G kc ks 2878 (lawLs q) [] I2 J2) : LG L xs sh G (kc + 3) (ks + 18) 2510 (lawLs q) [] I J := by
  obtain ⟨hI, hW, ⟨T0, N0, hTB, hD⟩, hTR, hTC, hSR, hSD, hSI, hle⟩ := id h
  refine gc_p (p_aload_n 3 (dk_at ktL_law_23 33 rfl) rfl rfl (b := 2511) rfl) ?_
  refine gc_p (p_aload_n 4 (dk_at ktL_law_23 34 rfl) rfl rfl (b := 2512) rfl) ?_
  refine gc_p (p_iload 0 (dk_at ktL_law_23 35 rfl) rfl (b := 2514) rfl) ?_
  refine gc_p (p_iconst (v := nI 1) (dk_at ktL_law_23 36 rfl) (by decide) (b := 2515) rfl) ?_
  refine gc_p (p_iadd (v := nI (4 * q + 1)) (dk_at ktL_law_23 37 rfl) (nI_add (4 * q) 1) (b := 2516) rfl) ?_
  refine g_sld (j := 4 * q + 1) (dk_at ktL_law_23 38 rfl) rfl ⟨by omega, by omega⟩ (b := 2517) rfl ?_
  refine gc_p (p_aload_n 4 (dk_at ktL_law_23 39 rfl) rfl rfl (b := 2518) rfl) ?_
  refine gc_p (p_iload 0 (dk_at ktL_law_23 40 rfl) rfl (b := 2520) rfl) ?_
  refine gc_p (p_iconst (v := nI 2) (dk_at ktL_law_23 41 rfl) (by decide) (b := 2521) rfl) ?_
  refine gc_p (p_iadd (v := nI (4 * q + 2)) (dk_at ktL_law_23 42 rfl) (nI_add (4 * q) 2) (b := 2522) rfl) ?_
  refine g_sld (j := 4 * q + 2) (dk_at ktL_law_23 43 rfl) rfl ⟨by omega, by omega⟩ (b := 2523) rfl ?_
  refine gc_p (p_aload_n 4 (dk_at ktL_law_23 44 rfl) rfl rfl (b := 2524) rfl) ?_
  refine gc_p (p_iload 0 (dk_at ktL_law_23 45 rfl) rfl (b := 2526) rfl) ?_
  refine gc_p (p_iconst (v := nI 3) (dk_at ktL_law_23 46 rfl) (by decide) (b := 2527) rfl) ?_
  refine gc_p (p_iadd (v := nI (4 * q + 3)) (dk_at ktL_law_23 47 rfl) (nI_add (4 * q) 3) (b := 2528) rfl) ?_
  refine g_sld (j := 4 * q + 3) (dk_at ktL_law_23 48 rfl) rfl ⟨by omega, by omega⟩ (b := 2529) rfl ?_
  refine gc_p (p_aload_n 1 (dk_at ktL_law_23 49 rfl) rfl rfl (b := 2530) rfl) ?_
  refine g_callW (As := [.ref 0, .int (xs (4 * q + 1)), .int (xs (4 * q + 2)), .int (xs (4 * q + 3)), .ref 113]) (rest := []) (s_L_toldAfterCut ((xs (4 * q + 1))) ((xs (4 * q + 2))) ((xs (4 * q + 3))) (s_X6_toldAfterCut hB hD hI (by omega) ((xs (4 * q + 1))) ((xs (4 * q + 2))) ((xs (4 * q + 3)))) (by decide) hB.s0 (by decide) hso cTac_2) cwW_L_325 (dk_at ktL_law_23 50 rfl) rfl rfl (Nat.le_of_ble_eq_true rfl) ⟨by decide, by decide, by omega, by omega⟩ (b := 2533) rfl (fun r1 I1 J1 hq1 => ?_)
  obtain ⟨k, rfl, hk⟩ := hq1
  obtain ⟨hkc, hN, hF, hj⟩ := WQ.prd hk (RelN.of hD (Nat.le_refl _))
  refine gc_p (p_istore (ls' := [(5, .int k), (4, .int (nI (4 * q))), (3, .ref 113), (2, .ref 104), (1, .ref 0), (0, .ref 1300)]) (dk_at ktL_law_23 51 rfl) (by decide) rfl (b := 2535) rfl) ?_
  refine gc_p (p_aload_n 3 (dk_at ktL_law_23 52 rfl) rfl rfl (b := 2536) rfl) ?_
  refine gc_p (p_aload_n 5 (dk_at ktL_law_23 53 rfl) rfl rfl (b := 2537) rfl) ?_
  refine gc_p (p_iload 1 (dk_at ktL_law_23 54 rfl) rfl (b := 2539) rfl) ?_
  refine gc_p (p_iconst (v := nI 1) (dk_at ktL_law_23 55 rfl) (by decide) (b := 2540) rfl) ?_
  refine gc_p (p_iadd (v := nI (4 * q + 1)) (dk_at ktL_law_23 56 rfl) (nI_add (4 * q) 1) (b := 2541) rfl) ?_
  refine g_sld (j := 4 * q + 1) (dk_at ktL_law_23 57 rfl) rfl ⟨by omega, by omega⟩ (b := 2542) rfl ?_
  refine gc_p (p_aload_n 5 (dk_at ktL_law_23 58 rfl) rfl rfl (b := 2543) rfl) ?_
  refine gc_p (p_iload 1 (dk_at ktL_law_23 59 rfl) rfl (b := 2545) rfl) ?_
  refine gc_p (p_iconst (v := nI 2) (dk_at ktL_law_24 0 rfl) (by decide) (b := 2546) rfl) ?_
  refine gc_p (p_iadd (v := nI (4 * q + 2)) (dk_at ktL_law_24 1 rfl) (nI_add (4 * q) 2) (b := 2547) rfl) ?_
  refine g_sld (j := 4 * q + 2) (dk_at ktL_law_24 2 rfl) rfl ⟨by omega, by omega⟩ (b := 2548) rfl ?_
  refine gc_p (p_aload_n 5 (dk_at ktL_law_24 3 rfl) rfl rfl (b := 2549) rfl) ?_
  refine gc_p (p_iload 1 (dk_at ktL_law_24 4 rfl) rfl (b := 2551) rfl) ?_
  refine gc_p (p_iconst (v := nI 3) (dk_at ktL_law_24 5 rfl) (by decide) (b := 2552) rfl) ?_
  refine gc_p (p_iadd (v := nI (4 * q + 3)) (dk_at ktL_law_24 6 rfl) (nI_add (4 * q) 3) (b := 2553) rfl) ?_
  refine g_sld (j := 4 * q + 3) (dk_at ktL_law_24 7 rfl) rfl ⟨by omega, by omega⟩ (b := 2554) rfl ?_
  have hW1 : RelW (I1 (104 + 1)) σ := by rw [hF (104 + 1) (by omega)]; exact hW
  refine g_callV (ci := 10) (As' := [.int (xs (4 * q + 1)), .int (xs (4 * q + 2)), .int (xs (4 * q + 3))]) (rest := []) (s_X7_toldAfterCut hm hW1 hI (xs (4 * q + 1)) (xs (4 * q + 2)) (xs (4 * q + 3))) cw_L_327 qi_X7_toldAfterCut qv_X7_toldAfterCut rfl (by decide) hm.s0 (dk_at ktL_law_24 8 rfl) rfl rfl (Nat.le_of_ble_eq_true rfl) ⟨by decide, by decide, by omega, by omega⟩ (b := 2557) rfl (fun r2 I2 J2 hq2 => ?_)
  obtain ⟨w, rfl, ha, h6, rfl, hW2, hG⟩ := hq2
  refine gc_p (p_istore (ls' := [(6, .int w), (5, .int k), (4, .int (nI (4 * q))), (3, .ref 113), (2, .ref 104), (1, .ref 0), (0, .ref 1300)]) (dk_at ktL_law_24 9 rfl) (by decide) rfl (b := 2559) rfl) ?_
  refine gc_p (p_aload_n 4 (dk_at ktL_law_24 10 rfl) rfl rfl (b := 2560) rfl) ?_
  refine g_callV (ci := 10) (As' := []) (rest := []) (s_X7_thrown hm) cw_L_148 qi_X7_thrown qv_X7_thrown rfl (by decide) hm.s0 (dk_at ktL_law_24 11 rfl) rfl rfl (Nat.le_of_ble_eq_true rfl) ⟨by decide, by decide, by omega, by omega⟩ (b := 2563) rfl (fun r3 I3 J3 hq3 => ?_)
  obtain ⟨w3, rfl, rfl, rfl, rfl⟩ := hq3
  refine gc_p (p_iload 1 (dk_at ktL_law_24 12 rfl) rfl (b := 2565) rfl) ?_
  refine g_icmp_eq (dk_at ktL_law_24 13 rfl) (b := 2570) (by decide) (b2 := 2568) rfl (fun _ => ?_) (fun c => absurd (h6.trans hkc.symm) c)
  refine gc_p (p_iload 1 (dk_at ktL_law_24 16 rfl) rfl (b := 2572) rfl) ?_
  refine g_if_ne (dk_at ktL_law_24 17 rfl) (b := 2587) (by decide) (b2 := 2575) rfl (fun c => ?_) (fun c => ?_)
  · refine gc_p (p_goto (b := 2878) (dk_at ktL_law_24 27 rfl) (by decide)) ?_
    refine gc_sub [2, 3, 4, 5, 6] (ls' := [(4, .int (nI (4 * q))), (3, .ref 113), (2, .ref 104), (1, .ref 0), (0, .ref 1300)]) rfl ?_
    exact gc_weak (by omega) (by omega) (hloop _ _ _ _ _ _ (h.st (by omega) (hN.le (by omega)) hF hW2 hG hI))
  · have h0 := hkc.symm.trans c
    have ha := ha h0
    have hj := hj h0
    refine gc_p (p_aload_n 3 (dk_at ktL_law_24 18 rfl) rfl rfl (b := 2576) rfl) ?_
    refine gc_p (p_iconst (v := nI 0) (dk_at ktL_law_24 19 rfl) (by decide) (b := 2577) rfl) ?_
    refine g_jald (id := 113) (len := 1) (j := 0) (by decide) hso (dk_at ktL_law_24 20 rfl) rfl ⟨by decide, by decide⟩ (v := lI (a_tac (xs (4 * q + 1)) (xs (4 * q + 2)) (xs (4 * q + 3)) σ)) hj (b := 2578) rfl ?_
    refine gc_p (p_iload 0 (dk_at ktL_law_24 21 rfl) rfl (b := 2580) rfl) ?_
    refine gc_p (p_i2l (v := lI w) (dk_at ktL_law_24 22 rfl) rfl (b := 2581) rfl) ?_
    refine gc_p (p_lcmp (dk_at ktL_law_24 23 rfl) (b := 2582) rfl) ?_
    refine g_if_eq (dk_at ktL_law_24 24 rfl) (b := 2587) (by decide) (b2 := 2585) rfl (fun _ => ?_) (fun c => absurd ((lg_cmp_eq _ _).mpr (congrArg lI ha)) c)
    refine gc_p (p_goto (b := 2878) (dk_at ktL_law_24 27 rfl) (by decide)) ?_
    refine gc_sub [2, 3, 4, 5, 6] (ls' := [(4, .int (nI (4 * q))), (3, .ref 113), (2, .ref 104), (1, .ref 0), (0, .ref 1300)]) rfl ?_
    exact gc_weak (by omega) (by omega) (hloop _ _ _ _ _ _ (h.st (by omega) (hN.le (by omega)) hF hW2 hG hI))
set_option maxRecDepth 8000 in
set_option maxHeartbeats 2000000 in
theorem law_c55 {L q B kc ks : Nat} {xs : Nat → Int32} {sh : mS} {G : mG} {I : mI} {J : mJ} {σ : sT} {T : tT} {nn : Nat} {sn : Nat → Option sT} (hq : 4 * q + 4 ≤ L) (hL : L ≤ 2048) (hB : BootH 114 sh G 0 1 7 26 45 64 65 84 103) (hm : ModG 114 sh G 104) (hso : sh 113 = .inr (3, 1)) (h : LSt B I σ T nn sn) (hBB : B + 1000 < 1000000) (hloop : ∀ (I2 : mI) (J2 : mJ) (σ2 : sT) (T2 : tT) (nn2 : Nat) (sn2 : Nat → Option sT), LSt (B + 6) I2 σ2 T2 nn2 sn2 → LG L xs sh G kc ks 2878 (lawLs q) [] I2 J2) : LG L xs sh G (kc + 3) (ks + 18) 2590 (lawLs q) [] I J := by
  obtain ⟨hI, hW, ⟨T0, N0, hTB, hD⟩, hTR, hTC, hSR, hSD, hSI, hle⟩ := id h
  refine gc_p (p_aload_n 3 (dk_at ktL_law_24 28 rfl) rfl rfl (b := 2591) rfl) ?_
  refine g_callV (ci := 9) (As' := []) (rest := []) (s_X6_bootsToRollback hB hD hI (by omega) ) cw_L_328 qi_X6_bootsToRollback qv_X6_bootsToRollback rfl (by decide) hB.s0 (dk_at ktL_law_24 29 rfl) rfl rfl (Nat.le_of_ble_eq_true rfl) ⟨by decide, by decide, by omega, by omega⟩ (b := 2594) rfl (fun r1 I1 J1 hq1 => ?_)
  obtain ⟨v, rfl, rfl, rfl, hF⟩ := hq1
  have hN : RelN 7 I1 σ (T0 + 0) := (RelN.of hD (Nat.le_refl _)).fr (fun b _ _ => hF b (by omega))
  have hF : FB 7 64 I I1 := hF.mo (by omega) (by omega)
  refine gc_p (p_aload_n 2 (dk_at ktL_law_24 30 rfl) rfl rfl (b := 2595) rfl) ?_
  have hW1 : RelW (I1 (104 + 1)) σ := by rw [hF (104 + 1) (by omega)]; exact hW
  refine g_callV (ci := 10) (As' := []) (rest := [_]) (s_X7_bootsToRollback hm hW1 hI ) cw_L_331 qi_X7_bootsToRollback qv_X7_bootsToRollback rfl (by decide) hm.s0 (dk_at ktL_law_24 31 rfl) rfl rfl (Nat.le_of_ble_eq_true rfl) ⟨by decide, by decide, by omega, by omega⟩ (b := 2598) rfl (fun r2 I2 J2 hq2 => ?_)
  obtain ⟨w, rfl, ha, h6, rfl, hW2, hG⟩ := hq2
  have ha := ha rfl
  refine g_icmp_eq (dk_at ktL_law_24 32 rfl) (b := 2878) (by decide) (b2 := 2601) rfl (fun _ => ?_) (fun c => absurd ha c)
  exact gc_weak (by omega) (by omega) (hloop _ _ _ _ _ _ (h.st (by omega) (hN.le (by omega)) hF hW2 hG hI))

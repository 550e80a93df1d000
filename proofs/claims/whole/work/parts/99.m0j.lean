/-! THE LAW: kinds of calls -/
set_option maxRecDepth 8000 in
set_option maxHeartbeats 2000000 in
theorem law_c0 {L q B kc ks : Nat} {xs : Nat → Int32} {sh : mS} {G : mG} {I : mI} {J : mJ} {σ : sT} {T : tT} {nn : Nat} {sn : Nat → Option sT} (hq : 4 * q + 4 ≤ L) (hL : L ≤ 2048) (hB : BootH 114 sh G 0 1 7 26 45 64 65 84 103) (hm : ModG 114 sh G 104) (hso : sh 113 = .inr (3, 1)) (h : LSt B I σ T nn sn) (hBB : B + 1000 < 1000000) (hloop : ∀ (I2 : mI) (J2 : mJ) (σ2 : sT) (T2 : tT) (nn2 : Nat) (sn2 : Nat → Option sT), LSt (B + 6) I2 σ2 T2 nn2 sn2 → LG L xs sh G kc ks 2878 (lawLs q) [] I2 J2) : LG L xs sh G (kc + 3) (ks + 18) 304 (lawLs q) [] I J := by
  obtain ⟨hI, hW, ⟨T0, N0, hTB, hD⟩, hTR, hTC, hSR, hSD, hSI, hle⟩ := id h
  refine gc_p (p_aload_n 3 (dk_at ktL_law_0 25 rfl) rfl rfl (b := 305) rfl) ?_
  refine gc_p (p_aload_n 4 (dk_at ktL_law_0 26 rfl) rfl rfl (b := 306) rfl) ?_
  refine gc_p (p_iload 0 (dk_at ktL_law_0 27 rfl) rfl (b := 308) rfl) ?_
  refine gc_p (p_iconst (v := nI 1) (dk_at ktL_law_0 28 rfl) (by decide) (b := 309) rfl) ?_
  refine gc_p (p_iadd (v := nI (4 * q + 1)) (dk_at ktL_law_0 29 rfl) (nI_add (4 * q) 1) (b := 310) rfl) ?_
  refine g_sld (j := 4 * q + 1) (dk_at ktL_law_0 30 rfl) rfl ⟨by omega, by omega⟩ (b := 311) rfl ?_
  refine gc_p (p_i2l (v := lI (xs (4 * q + 1))) (dk_at ktL_law_0 31 rfl) rfl (b := 312) rfl) ?_
  refine gc_p (p_bipush (v := 32) (dk_at ktL_law_0 32 rfl) (by decide) (b := 314) rfl) ?_
  refine gc_p (p_lshl (v := ((lI (xs (4 * q + 1))) <<< ((32 : Int32).toInt64 &&& 63))) (dk_at ktL_law_0 33 rfl) rfl (b := 315) rfl) ?_
  refine gc_p (p_aload_n 4 (dk_at ktL_law_0 34 rfl) rfl rfl (b := 316) rfl) ?_
  refine gc_p (p_iload 0 (dk_at ktL_law_0 35 rfl) rfl (b := 318) rfl) ?_
  refine gc_p (p_iconst (v := nI 2) (dk_at ktL_law_0 36 rfl) (by decide) (b := 319) rfl) ?_
  refine gc_p (p_iadd (v := nI (4 * q + 2)) (dk_at ktL_law_0 37 rfl) (nI_add (4 * q) 2) (b := 320) rfl) ?_
  refine g_sld (j := 4 * q + 2) (dk_at ktL_law_0 38 rfl) rfl ⟨by omega, by omega⟩ (b := 321) rfl ?_
  refine gc_p (p_i2l (v := lI (xs (4 * q + 2))) (dk_at ktL_law_0 39 rfl) rfl (b := 322) rfl) ?_
  refine gc_p (p_ldc2 (v := 4294967295) ql_TwinBootLaw_126 (dk_at ktL_law_0 40 rfl) (b := 325) rfl) ?_
  refine gc_p (p_land (v := ((lI (xs (4 * q + 2))) &&& 4294967295)) (dk_at ktL_law_0 41 rfl) rfl (b := 326) rfl) ?_
  refine gc_p (p_lor (v := (((lI (xs (4 * q + 1))) <<< ((32 : Int32).toInt64 &&& 63)) ||| ((lI (xs (4 * q + 2))) &&& 4294967295))) (dk_at ktL_law_0 42 rfl) rfl (b := 327) rfl) ?_
  refine g_callV (ci := 9) (As' := [.long (((lI (xs (4 * q + 1))) <<< ((32 : Int32).toInt64 &&& 63)) ||| ((lI (xs (4 * q + 2))) &&& 4294967295))]) (rest := []) (s_X6_append hB hTC (((lI (xs (4 * q + 1))) <<< ((32 : Int32).toInt64 &&& 63)) ||| ((lI (xs (4 * q + 2))) &&& 4294967295))) cw_L_128 qi_X6_append qv_X6_append rfl (by decide) hB.s0 (dk_at ktL_law_0 43 rfl) rfl rfl (Nat.le_of_ble_eq_true rfl) ⟨by decide, by decide, by omega, by omega⟩ (b := 330) rfl (fun r1 I1 J1 hq1 => ?_)
  obtain ⟨v, rfl, rfl, rfl, hF, hC⟩ := hq1
  refine gc_p (p_aload_n 2 (dk_at ktL_law_0 44 rfl) rfl rfl (b := 331) rfl) ?_
  refine gc_p (p_aload_n 4 (dk_at ktL_law_0 45 rfl) rfl rfl (b := 332) rfl) ?_
  refine gc_p (p_iload 0 (dk_at ktL_law_0 46 rfl) rfl (b := 334) rfl) ?_
  refine gc_p (p_iconst (v := nI 1) (dk_at ktL_law_0 47 rfl) (by decide) (b := 335) rfl) ?_
  refine gc_p (p_iadd (v := nI (4 * q + 1)) (dk_at ktL_law_0 48 rfl) (nI_add (4 * q) 1) (b := 336) rfl) ?_
  refine g_sld (j := 4 * q + 1) (dk_at ktL_law_0 49 rfl) rfl ⟨by omega, by omega⟩ (b := 337) rfl ?_
  refine gc_p (p_i2l (v := lI (xs (4 * q + 1))) (dk_at ktL_law_0 50 rfl) rfl (b := 338) rfl) ?_
  refine gc_p (p_bipush (v := 32) (dk_at ktL_law_0 51 rfl) (by decide) (b := 340) rfl) ?_
  refine gc_p (p_lshl (v := ((lI (xs (4 * q + 1))) <<< ((32 : Int32).toInt64 &&& 63))) (dk_at ktL_law_0 52 rfl) rfl (b := 341) rfl) ?_
  refine gc_p (p_aload_n 4 (dk_at ktL_law_0 53 rfl) rfl rfl (b := 342) rfl) ?_
  refine gc_p (p_iload 0 (dk_at ktL_law_0 54 rfl) rfl (b := 344) rfl) ?_
  refine gc_p (p_iconst (v := nI 2) (dk_at ktL_law_0 55 rfl) (by decide) (b := 345) rfl) ?_
  refine gc_p (p_iadd (v := nI (4 * q + 2)) (dk_at ktL_law_0 56 rfl) (nI_add (4 * q) 2) (b := 346) rfl) ?_
  refine g_sld (j := 4 * q + 2) (dk_at ktL_law_0 57 rfl) rfl ⟨by omega, by omega⟩ (b := 347) rfl ?_
  refine gc_p (p_i2l (v := lI (xs (4 * q + 2))) (dk_at ktL_law_0 58 rfl) rfl (b := 348) rfl) ?_
  refine gc_p (p_ldc2 (v := 4294967295) ql_TwinBootLaw_126 (dk_at ktL_law_0 59 rfl) (b := 351) rfl) ?_
  refine gc_p (p_land (v := ((lI (xs (4 * q + 2))) &&& 4294967295)) (dk_at ktL_law_1 0 rfl) rfl (b := 352) rfl) ?_
  refine gc_p (p_lor (v := (((lI (xs (4 * q + 1))) <<< ((32 : Int32).toInt64 &&& 63)) ||| ((lI (xs (4 * q + 2))) &&& 4294967295))) (dk_at ktL_law_1 1 rfl) rfl (b := 353) rfl) ?_
  refine g_callV (ci := 10) (As' := [.long (((lI (xs (4 * q + 1))) <<< ((32 : Int32).toInt64 &&& 63)) ||| ((lI (xs (4 * q + 2))) &&& 4294967295))]) (rest := [_]) (s_X7_append hm (hTR.ofC hF) (((lI (xs (4 * q + 1))) <<< ((32 : Int32).toInt64 &&& 63)) ||| ((lI (xs (4 * q + 2))) &&& 4294967295))) cw_L_132 qi_X7_append qv_X7_append rfl (by decide) hm.s0 (dk_at ktL_law_1 2 rfl) rfl rfl (Nat.le_of_ble_eq_true rfl) ⟨by decide, by decide, by omega, by omega⟩ (b := 356) rfl (fun r2 I2 J2 hq2 => ?_)
  obtain ⟨w, rfl, ha, h6, rfl, hG, hR2⟩ := hq2
  refine g_icmp_eq (dk_at ktL_law_1 3 rfl) (b := 2878) (by decide) (b2 := 359) rfl (fun _ => ?_) (fun c => absurd ha c)
  exact gc_weak (by omega) (by omega) (hloop _ _ _ _ _ _ (h.ap (by omega) hF (hC) hG hR2))
set_option maxRecDepth 8000 in
set_option maxHeartbeats 2000000 in
theorem law_c1 {L q B kc ks : Nat} {xs : Nat → Int32} {sh : mS} {G : mG} {I : mI} {J : mJ} {σ : sT} {T : tT} {nn : Nat} {sn : Nat → Option sT} (hq : 4 * q + 4 ≤ L) (hL : L ≤ 2048) (hB : BootH 114 sh G 0 1 7 26 45 64 65 84 103) (hm : ModG 114 sh G 104) (hso : sh 113 = .inr (3, 1)) (h : LSt B I σ T nn sn) (hBB : B + 1000 < 1000000) (hloop : ∀ (I2 : mI) (J2 : mJ) (σ2 : sT) (T2 : tT) (nn2 : Nat) (sn2 : Nat → Option sT), LSt (B + 6) I2 σ2 T2 nn2 sn2 → LG L xs sh G kc ks 2878 (lawLs q) [] I2 J2) : LG L xs sh G (kc + 3) (ks + 18) 361 (lawLs q) [] I J := by
  obtain ⟨hI, hW, ⟨T0, N0, hTB, hD⟩, hTR, hTC, hSR, hSD, hSI, hle⟩ := id h
  refine gc_p (p_aload_n 3 (dk_at ktL_law_1 6 rfl) rfl rfl (b := 362) rfl) ?_
  refine g_callV (ci := 9) (As' := []) (rest := []) (s_X6_load hB hTC hD) cw_L_133 qi_X6_load qv_X6_load rfl (by decide) hB.s0 (dk_at ktL_law_1 7 rfl) rfl rfl (Nat.le_of_ble_eq_true rfl) ⟨by decide, by decide, by omega, by omega⟩ (b := 365) rfl (fun r1 I1 J1 hq1 => ?_)
  obtain ⟨v, rfl, rfl, rfl, hN, hc2, hc6, hF⟩ := hq1
  refine gc_p (p_aload_n 2 (dk_at ktL_law_1 8 rfl) rfl rfl (b := 366) rfl) ?_
  have hW1 : RelW (I1 (104 + 1)) σ := by rw [hF (104 + 1) (by omega)]; exact hW
  have hT1 : TR 104 I1 T nn := ⟨hTR.1, (congrFun (hF 104 (by omega)) 10).trans hTR.2.1, fun k hk => (congrFun (hF (104 + 7) (by omega)) k).trans (hTR.2.2 k hk)⟩
  refine g_callV (ci := 10) (As' := []) (rest := [_]) (s_X7_load hm hT1 hW1) cw_L_137 qi_X7_load qv_X7_load rfl (by decide) hm.s0 (dk_at ktL_law_1 9 rfl) rfl rfl (Nat.le_of_ble_eq_true rfl) ⟨by decide, by decide, by omega, by omega⟩ (b := 369) rfl (fun r2 I2 J2 hq2 => ?_)
  obtain ⟨w, rfl, ha, h6, rfl, hW2, hG, h10, h15⟩ := hq2
  refine g_icmp_eq (dk_at ktL_law_1 10 rfl) (b := 2878) (by decide) (b2 := 372) rfl (fun _ => ?_) (fun c => absurd ha c)
  exact gc_weak (by omega) (by omega) (hloop _ _ _ _ _ _ (h.ld (by omega) hTB hN hc2 hc6 hF hW2 hG h10 h15))
set_option maxRecDepth 8000 in
set_option maxHeartbeats 2000000 in
theorem law_c2 {L q B kc ks : Nat} {xs : Nat → Int32} {sh : mS} {G : mG} {I : mI} {J : mJ} {σ : sT} {T : tT} {nn : Nat} {sn : Nat → Option sT} (hq : 4 * q + 4 ≤ L) (hL : L ≤ 2048) (hB : BootH 114 sh G 0 1 7 26 45 64 65 84 103) (hm : ModG 114 sh G 104) (hso : sh 113 = .inr (3, 1)) (h : LSt B I σ T nn sn) (hBB : B + 1000 < 1000000) (hloop : ∀ (I2 : mI) (J2 : mJ) (σ2 : sT) (T2 : tT) (nn2 : Nat) (sn2 : Nat → Option sT), LSt (B + 6) I2 σ2 T2 nn2 sn2 → LG L xs sh G kc ks 2878 (lawLs q) [] I2 J2) : LG L xs sh G (kc + 3) (ks + 18) 374 (lawLs q) [] I J := by
  obtain ⟨hI, hW, ⟨T0, N0, hTB, hD⟩, hTR, hTC, hSR, hSD, hSI, hle⟩ := id h
  refine gc_p (p_aload_n 3 (dk_at ktL_law_1 13 rfl) rfl rfl (b := 375) rfl) ?_
  refine g_callV (ci := 9) (As' := []) (rest := []) (s_X6_loadError hB hTC) cw_L_138 qi_X6_loadError qv_X6_loadError rfl (by decide) hB.s0 (dk_at ktL_law_1 14 rfl) rfl rfl (Nat.le_of_ble_eq_true rfl) ⟨by decide, by decide, by omega, by omega⟩ (b := 378) rfl (fun r1 I1 J1 hq1 => ?_)
  obtain ⟨v, rfl, rfl, rfl, rfl⟩ := hq1
  refine gc_p (p_aload_n 2 (dk_at ktL_law_1 15 rfl) rfl rfl (b := 379) rfl) ?_
  refine g_callV (ci := 10) (As' := []) (rest := [_]) (s_X7_loadError hm) cw_L_141 qi_X7_loadError qv_X7_loadError rfl (by decide) hm.s0 (dk_at ktL_law_1 16 rfl) rfl rfl (Nat.le_of_ble_eq_true rfl) ⟨by decide, by decide, by omega, by omega⟩ (b := 382) rfl (fun r2 I2 J2 hq2 => ?_)
  obtain ⟨w, rfl, ha, h6, rfl, hG⟩ := hq2
  refine g_icmp_eq (dk_at ktL_law_1 17 rfl) (b := 2878) (by decide) (b2 := 385) rfl (fun _ => ?_) (fun c => absurd (hle.symm.trans ha) c)
  exact gc_weak (by omega) (by omega) (hloop _ _ _ _ _ _ (h.st (by omega) ((RelN.of hD hTB).le (by omega)) FB.rf (by rw [hG.1 (104 + 1) (by omega) (fun o ho => by simp at ho)]; exact hW) (hG.sub (by simp) (by simp)) hI))
set_option maxRecDepth 8000 in
set_option maxHeartbeats 2000000 in
theorem law_c3 {L q B kc ks : Nat} {xs : Nat → Int32} {sh : mS} {G : mG} {I : mI} {J : mJ} {σ : sT} {T : tT} {nn : Nat} {sn : Nat → Option sT} (hq : 4 * q + 4 ≤ L) (hL : L ≤ 2048) (hB : BootH 114 sh G 0 1 7 26 45 64 65 84 103) (hm : ModG 114 sh G 104) (hso : sh 113 = .inr (3, 1)) (h : LSt B I σ T nn sn) (hBB : B + 1000 < 1000000) (hloop : ∀ (I2 : mI) (J2 : mJ) (σ2 : sT) (T2 : tT) (nn2 : Nat) (sn2 : Nat → Option sT), LSt (B + 6) I2 σ2 T2 nn2 sn2 → LG L xs sh G kc ks 2878 (lawLs q) [] I2 J2) : LG L xs sh G (kc + 3) (ks + 18) 387 (lawLs q) [] I J := by
  obtain ⟨hI, hW, ⟨T0, N0, hTB, hD⟩, hTR, hTC, hSR, hSD, hSI, hle⟩ := id h
  refine gc_p (p_aload_n 3 (dk_at ktL_law_1 20 rfl) rfl rfl (b := 388) rfl) ?_
  refine gc_p (p_aload_n 4 (dk_at ktL_law_1 21 rfl) rfl rfl (b := 389) rfl) ?_
  refine gc_p (p_iload 0 (dk_at ktL_law_1 22 rfl) rfl (b := 391) rfl) ?_
  refine gc_p (p_iconst (v := nI 1) (dk_at ktL_law_1 23 rfl) (by decide) (b := 392) rfl) ?_
  refine gc_p (p_iadd (v := nI (4 * q + 1)) (dk_at ktL_law_1 24 rfl) (nI_add (4 * q) 1) (b := 393) rfl) ?_
  refine g_sld (j := 4 * q + 1) (dk_at ktL_law_1 25 rfl) rfl ⟨by omega, by omega⟩ (b := 394) rfl ?_
  refine gc_p (p_aload_n 1 (dk_at ktL_law_1 26 rfl) rfl rfl (b := 395) rfl) ?_
  refine g_callW (As := [.ref 0, .int (xs (4 * q + 1)), .ref 113]) (rest := []) (s_L_stage ((xs (4 * q + 1))) (s_X6_stage hB hD hI ((xs (4 * q + 1)))) (by decide) hB.s0 (by decide) hso cIn_2) cwW_L_142 (dk_at ktL_law_1 27 rfl) rfl rfl (Nat.le_of_ble_eq_true rfl) ⟨by decide, by decide, by omega, by omega⟩ (b := 398) rfl (fun r1 I1 J1 hq1 => ?_)
  obtain ⟨k, rfl, hk⟩ := hq1
  obtain ⟨hkc, hN, hF, hj⟩ := WQ.std (T0 := T0) (e := 0) (σ := σ) (σ' := (t_stage σ (xs (4 * q + 1)))) hk (RelN.of hD (Nat.le_refl _)) (fun hc => stg_no hc)
  refine gc_p (p_istore (ls' := [(5, .int k), (4, .int (nI (4 * q))), (3, .ref 113), (2, .ref 104), (1, .ref 0), (0, .ref 1300)]) (dk_at ktL_law_1 28 rfl) (by decide) rfl (b := 400) rfl) ?_
  refine gc_p (p_aload_n 3 (dk_at ktL_law_1 29 rfl) rfl rfl (b := 401) rfl) ?_
  refine gc_p (p_aload_n 5 (dk_at ktL_law_1 30 rfl) rfl rfl (b := 402) rfl) ?_
  refine gc_p (p_iload 1 (dk_at ktL_law_1 31 rfl) rfl (b := 404) rfl) ?_
  refine gc_p (p_iconst (v := nI 1) (dk_at ktL_law_1 32 rfl) (by decide) (b := 405) rfl) ?_
  refine gc_p (p_iadd (v := nI (4 * q + 1)) (dk_at ktL_law_1 33 rfl) (nI_add (4 * q) 1) (b := 406) rfl) ?_
  refine g_sld (j := 4 * q + 1) (dk_at ktL_law_1 34 rfl) rfl ⟨by omega, by omega⟩ (b := 407) rfl ?_
  have hW1 : RelW (I1 (104 + 1)) σ := by rw [hF (104 + 1) (by omega)]; exact hW
  refine g_callV (ci := 10) (As' := [.int (xs (4 * q + 1))]) (rest := []) (s_X7_stage hm hW1 hI (xs (4 * q + 1))) cw_L_147 qi_X7_stage qv_X7_stage rfl (by decide) hm.s0 (dk_at ktL_law_1 35 rfl) rfl rfl (Nat.le_of_ble_eq_true rfl) ⟨by decide, by decide, by omega, by omega⟩ (b := 410) rfl (fun r2 I2 J2 hq2 => ?_)
  obtain ⟨w, rfl, ha, h6, rfl, hW2, hG⟩ := hq2
  refine gc_p (p_istore (ls' := [(6, .int w), (5, .int k), (4, .int (nI (4 * q))), (3, .ref 113), (2, .ref 104), (1, .ref 0), (0, .ref 1300)]) (dk_at ktL_law_1 36 rfl) (by decide) rfl (b := 412) rfl) ?_
  refine gc_p (p_aload_n 4 (dk_at ktL_law_1 37 rfl) rfl rfl (b := 413) rfl) ?_
  refine g_callV (ci := 10) (As' := []) (rest := []) (s_X7_thrown hm) cw_L_148 qi_X7_thrown qv_X7_thrown rfl (by decide) hm.s0 (dk_at ktL_law_1 38 rfl) rfl rfl (Nat.le_of_ble_eq_true rfl) ⟨by decide, by decide, by omega, by omega⟩ (b := 416) rfl (fun r3 I3 J3 hq3 => ?_)
  obtain ⟨w3, rfl, rfl, rfl, rfl⟩ := hq3
  refine gc_p (p_iload 1 (dk_at ktL_law_1 39 rfl) rfl (b := 418) rfl) ?_
  refine g_icmp_eq (dk_at ktL_law_1 40 rfl) (b := 423) (by decide) (b2 := 421) rfl (fun _ => ?_) (fun c => absurd (h6.trans hkc.symm) c)
  refine gc_p (p_iload 1 (dk_at ktL_law_1 43 rfl) rfl (b := 425) rfl) ?_
  refine g_if_ne (dk_at ktL_law_1 44 rfl) (b := 440) (by decide) (b2 := 428) rfl (fun c => ?_) (fun c => ?_)
  · refine gc_p (p_goto (b := 2878) (dk_at ktL_law_1 54 rfl) (by decide)) ?_
    refine gc_sub [2, 3, 4, 5, 6] (ls' := [(4, .int (nI (4 * q))), (3, .ref 113), (2, .ref 104), (1, .ref 0), (0, .ref 1300)]) rfl ?_
    exact gc_weak (by omega) (by omega) (hloop _ _ _ _ _ _ (h.st (by omega) (hN.le (by omega)) hF hW2 hG hI.stg))
  · have h0 := hkc.symm.trans c
    have ha := ha h0
    have hj := hj h0
    refine gc_p (p_aload_n 3 (dk_at ktL_law_1 45 rfl) rfl rfl (b := 429) rfl) ?_
    refine gc_p (p_iconst (v := nI 0) (dk_at ktL_law_1 46 rfl) (by decide) (b := 430) rfl) ?_
    refine g_jald (id := 113) (len := 1) (j := 0) (by decide) hso (dk_at ktL_law_1 47 rfl) rfl ⟨by decide, by decide⟩ (v := lI (a_stage σ (xs (4 * q + 1)))) hj (b := 431) rfl ?_
    refine gc_p (p_iload 0 (dk_at ktL_law_1 48 rfl) rfl (b := 433) rfl) ?_
    refine gc_p (p_i2l (v := lI w) (dk_at ktL_law_1 49 rfl) rfl (b := 434) rfl) ?_
    refine gc_p (p_lcmp (dk_at ktL_law_1 50 rfl) (b := 435) rfl) ?_
    refine g_if_eq (dk_at ktL_law_1 51 rfl) (b := 440) (by decide) (b2 := 438) rfl (fun _ => ?_) (fun c => absurd ((lg_cmp_eq _ _).mpr (congrArg lI ha)) c)
    refine gc_p (p_goto (b := 2878) (dk_at ktL_law_1 54 rfl) (by decide)) ?_
    refine gc_sub [2, 3, 4, 5, 6] (ls' := [(4, .int (nI (4 * q))), (3, .ref 113), (2, .ref 104), (1, .ref 0), (0, .ref 1300)]) rfl ?_
    exact gc_weak (by omega) (by omega) (hloop _ _ _ _ _ _ (h.st (by omega) (hN.le (by omega)) hF hW2 hG hI.stg))
set_option maxRecDepth 8000 in
set_option maxHeartbeats 2000000 in
theorem law_c4 {L q B kc ks : Nat} {xs : Nat → Int32} {sh : mS} {G : mG} {I : mI} {J : mJ} {σ : sT} {T : tT} {nn : Nat} {sn : Nat → Option sT} (hq : 4 * q + 4 ≤ L) (hL : L ≤ 2048) (hB : BootH 114 sh G 0 1 7 26 45 64 65 84 103) (hm : ModG 114 sh G 104) (hso : sh 113 = .inr (3, 1)) (h : LSt B I σ T nn sn) (hBB : B + 1000 < 1000000) (hloop : ∀ (I2 : mI) (J2 : mJ) (σ2 : sT) (T2 : tT) (nn2 : Nat) (sn2 : Nat → Option sT), LSt (B + 6) I2 σ2 T2 nn2 sn2 → LG L xs sh G kc ks 2878 (lawLs q) [] I2 J2) : LG L xs sh G (kc + 3) (ks + 18) 443 (lawLs q) [] I J := by
  obtain ⟨hI, hW, ⟨T0, N0, hTB, hD⟩, hTR, hTC, hSR, hSD, hSI, hle⟩ := id h
  refine gc_p (p_aload_n 3 (dk_at ktL_law_1 55 rfl) rfl rfl (b := 444) rfl) ?_
  refine gc_p (p_aload_n 4 (dk_at ktL_law_1 56 rfl) rfl rfl (b := 445) rfl) ?_
  refine gc_p (p_iload 0 (dk_at ktL_law_1 57 rfl) rfl (b := 447) rfl) ?_
  refine gc_p (p_iconst (v := nI 1) (dk_at ktL_law_1 58 rfl) (by decide) (b := 448) rfl) ?_
  refine gc_p (p_iadd (v := nI (4 * q + 1)) (dk_at ktL_law_1 59 rfl) (nI_add (4 * q) 1) (b := 449) rfl) ?_
  refine g_sld (j := 4 * q + 1) (dk_at ktL_law_2 0 rfl) rfl ⟨by omega, by omega⟩ (b := 450) rfl ?_
  refine g_callV (ci := 9) (As' := [.int (xs (4 * q + 1))]) (rest := []) (s_X6_staged hB hD hI (xs (4 * q + 1))) cw_L_151 qi_X6_staged qv_X6_staged rfl (by decide) hB.s0 (dk_at ktL_law_2 1 rfl) rfl rfl (Nat.le_of_ble_eq_true rfl) ⟨by decide, by decide, by omega, by omega⟩ (b := 453) rfl (fun r1 I1 J1 hq1 => ?_)
  obtain ⟨v, rfl, rfl, rfl, hN, hF⟩ := hq1
  refine gc_p (p_aload_n 2 (dk_at ktL_law_2 2 rfl) rfl rfl (b := 454) rfl) ?_
  refine gc_p (p_aload_n 4 (dk_at ktL_law_2 3 rfl) rfl rfl (b := 455) rfl) ?_
  refine gc_p (p_iload 0 (dk_at ktL_law_2 4 rfl) rfl (b := 457) rfl) ?_
  refine gc_p (p_iconst (v := nI 1) (dk_at ktL_law_2 5 rfl) (by decide) (b := 458) rfl) ?_
  refine gc_p (p_iadd (v := nI (4 * q + 1)) (dk_at ktL_law_2 6 rfl) (nI_add (4 * q) 1) (b := 459) rfl) ?_
  refine g_sld (j := 4 * q + 1) (dk_at ktL_law_2 7 rfl) rfl ⟨by omega, by omega⟩ (b := 460) rfl ?_
  have hW1 : RelW (I1 (104 + 1)) σ := by rw [hF (104 + 1) (by omega)]; exact hW
  refine g_callV (ci := 10) (As' := [.int (xs (4 * q + 1))]) (rest := [_]) (s_X7_staged hm hW1 hI (xs (4 * q + 1))) cw_L_154 qi_X7_staged qv_X7_staged rfl (by decide) hm.s0 (dk_at ktL_law_2 8 rfl) rfl rfl (Nat.le_of_ble_eq_true rfl) ⟨by decide, by decide, by omega, by omega⟩ (b := 463) rfl (fun r2 I2 J2 hq2 => ?_)
  obtain ⟨w, rfl, ha, h6, rfl, hW2, hG⟩ := hq2
  have ha := ha rfl
  refine g_icmp_eq (dk_at ktL_law_2 9 rfl) (b := 2878) (by decide) (b2 := 466) rfl (fun _ => ?_) (fun c => absurd ha c)
  exact gc_weak (by omega) (by omega) (hloop _ _ _ _ _ _ (h.st (by omega) (hN.le (by omega)) hF hW2 hG hI))
set_option maxRecDepth 8000 in
set_option maxHeartbeats 2000000 in
theorem law_c5 {L q B kc ks : Nat} {xs : Nat → Int32} {sh : mS} {G : mG} {I : mI} {J : mJ} {σ : sT} {T : tT} {nn : Nat} {sn : Nat → Option sT} (hq : 4 * q + 4 ≤ L) (hL : L ≤ 2048) (hB : BootH 114 sh G 0 1 7 26 45 64 65 84 103) (hm : ModG 114 sh G 104) (hso : sh 113 = .inr (3, 1)) (h : LSt B I σ T nn sn) (hBB : B + 1000 < 1000000) (hloop : ∀ (I2 : mI) (J2 : mJ) (σ2 : sT) (T2 : tT) (nn2 : Nat) (sn2 : Nat → Option sT), LSt (B + 6) I2 σ2 T2 nn2 sn2 → LG L xs sh G kc ks 2878 (lawLs q) [] I2 J2) : LG L xs sh G (kc + 3) (ks + 18) 468 (lawLs q) [] I J := by
  obtain ⟨hI, hW, ⟨T0, N0, hTB, hD⟩, hTR, hTC, hSR, hSD, hSI, hle⟩ := id h
  refine gc_p (p_aload_n 3 (dk_at ktL_law_2 12 rfl) rfl rfl (b := 469) rfl) ?_
  refine g_callV (ci := 9) (As' := []) (rest := []) (s_X6_clearStaged hB hD hI ) cw_L_155 qi_X6_clearStaged qv_X6_clearStaged rfl (by decide) hB.s0 (dk_at ktL_law_2 13 rfl) rfl rfl (Nat.le_of_ble_eq_true rfl) ⟨by decide, by decide, by omega, by omega⟩ (b := 472) rfl (fun r1 I1 J1 hq1 => ?_)
  obtain ⟨v, rfl, rfl, rfl, hN, hF⟩ := hq1
  refine gc_p (p_aload_n 2 (dk_at ktL_law_2 14 rfl) rfl rfl (b := 473) rfl) ?_
  have hW1 : RelW (I1 (104 + 1)) σ := by rw [hF (104 + 1) (by omega)]; exact hW
  refine g_callV (ci := 10) (As' := []) (rest := [_]) (s_X7_clearStaged hm hW1 hI ) cw_L_158 qi_X7_clearStaged qv_X7_clearStaged rfl (by decide) hm.s0 (dk_at ktL_law_2 15 rfl) rfl rfl (Nat.le_of_ble_eq_true rfl) ⟨by decide, by decide, by omega, by omega⟩ (b := 476) rfl (fun r2 I2 J2 hq2 => ?_)
  obtain ⟨w, rfl, ha, h6, rfl, hW2, hG⟩ := hq2
  have ha := ha rfl
  refine g_icmp_eq (dk_at ktL_law_2 16 rfl) (b := 2878) (by decide) (b2 := 479) rfl (fun _ => ?_) (fun c => absurd ha c)
  exact gc_weak (by omega) (by omega) (hloop _ _ _ _ _ _ (h.st (by omega) (hN.le (by omega)) hF hW2 hG hI.clr))
set_option maxRecDepth 8000 in
set_option maxHeartbeats 2000000 in
theorem law_c6 {L q B kc ks : Nat} {xs : Nat → Int32} {sh : mS} {G : mG} {I : mI} {J : mJ} {σ : sT} {T : tT} {nn : Nat} {sn : Nat → Option sT} (hq : 4 * q + 4 ≤ L) (hL : L ≤ 2048) (hB : BootH 114 sh G 0 1 7 26 45 64 65 84 103) (hm : ModG 114 sh G 104) (hso : sh 113 = .inr (3, 1)) (h : LSt B I σ T nn sn) (hBB : B + 1000 < 1000000) (hloop : ∀ (I2 : mI) (J2 : mJ) (σ2 : sT) (T2 : tT) (nn2 : Nat) (sn2 : Nat → Option sT), LSt (B + 6) I2 σ2 T2 nn2 sn2 → LG L xs sh G kc ks 2878 (lawLs q) [] I2 J2) : LG L xs sh G (kc + 3) (ks + 18) 481 (lawLs q) [] I J := by
  obtain ⟨hI, hW, ⟨T0, N0, hTB, hD⟩, hTR, hTC, hSR, hSD, hSI, hle⟩ := id h
  refine gc_p (p_aload_n 3 (dk_at ktL_law_2 19 rfl) rfl rfl (b := 482) rfl) ?_
  refine gc_p (p_aload_n 4 (dk_at ktL_law_2 20 rfl) rfl rfl (b := 483) rfl) ?_
  refine gc_p (p_iload 0 (dk_at ktL_law_2 21 rfl) rfl (b := 485) rfl) ?_
  refine gc_p (p_iconst (v := nI 1) (dk_at ktL_law_2 22 rfl) (by decide) (b := 486) rfl) ?_
  refine gc_p (p_iadd (v := nI (4 * q + 1)) (dk_at ktL_law_2 23 rfl) (nI_add (4 * q) 1) (b := 487) rfl) ?_
  refine g_sld (j := 4 * q + 1) (dk_at ktL_law_2 24 rfl) rfl ⟨by omega, by omega⟩ (b := 488) rfl ?_
  refine gc_p (p_aload_n 1 (dk_at ktL_law_2 25 rfl) rfl rfl (b := 489) rfl) ?_
  refine g_callW (As := [.ref 0, .int (xs (4 * q + 1)), .ref 113]) (rest := []) (s_L_setting ((xs (4 * q + 1))) (s_X6_setting hB hD hI ((xs (4 * q + 1)))) (by decide) hB.s0 (by decide) hso cIn_2) cwW_L_159 (dk_at ktL_law_2 26 rfl) rfl rfl (Nat.le_of_ble_eq_true rfl) ⟨by decide, by decide, by omega, by omega⟩ (b := 492) rfl (fun r1 I1 J1 hq1 => ?_)
  obtain ⟨k, rfl, hk⟩ := hq1
  obtain ⟨hkc, hN, hF, hj⟩ := WQ.std (T0 := T0) (e := 0) (σ := σ) (σ' := (σ)) hk (RelN.of hD (Nat.le_refl _)) (fun _ => rfl)
  refine gc_p (p_istore (ls' := [(5, .int k), (4, .int (nI (4 * q))), (3, .ref 113), (2, .ref 104), (1, .ref 0), (0, .ref 1300)]) (dk_at ktL_law_2 27 rfl) (by decide) rfl (b := 494) rfl) ?_
  refine gc_p (p_aload_n 3 (dk_at ktL_law_2 28 rfl) rfl rfl (b := 495) rfl) ?_
  refine gc_p (p_aload_n 5 (dk_at ktL_law_2 29 rfl) rfl rfl (b := 496) rfl) ?_
  refine gc_p (p_iload 1 (dk_at ktL_law_2 30 rfl) rfl (b := 498) rfl) ?_
  refine gc_p (p_iconst (v := nI 1) (dk_at ktL_law_2 31 rfl) (by decide) (b := 499) rfl) ?_
  refine gc_p (p_iadd (v := nI (4 * q + 1)) (dk_at ktL_law_2 32 rfl) (nI_add (4 * q) 1) (b := 500) rfl) ?_
  refine g_sld (j := 4 * q + 1) (dk_at ktL_law_2 33 rfl) rfl ⟨by omega, by omega⟩ (b := 501) rfl ?_
  have hW1 : RelW (I1 (104 + 1)) σ := by rw [hF (104 + 1) (by omega)]; exact hW
  refine g_callV (ci := 10) (As' := [.int (xs (4 * q + 1))]) (rest := []) (s_X7_setting hm hW1 hI (xs (4 * q + 1))) cw_L_161 qi_X7_setting qv_X7_setting rfl (by decide) hm.s0 (dk_at ktL_law_2 34 rfl) rfl rfl (Nat.le_of_ble_eq_true rfl) ⟨by decide, by decide, by omega, by omega⟩ (b := 504) rfl (fun r2 I2 J2 hq2 => ?_)
  obtain ⟨w, rfl, ha, h6, rfl, hW2, hG⟩ := hq2
  refine gc_p (p_istore (ls' := [(6, .int w), (5, .int k), (4, .int (nI (4 * q))), (3, .ref 113), (2, .ref 104), (1, .ref 0), (0, .ref 1300)]) (dk_at ktL_law_2 35 rfl) (by decide) rfl (b := 506) rfl) ?_
  refine gc_p (p_aload_n 4 (dk_at ktL_law_2 36 rfl) rfl rfl (b := 507) rfl) ?_
  refine g_callV (ci := 10) (As' := []) (rest := []) (s_X7_thrown hm) cw_L_148 qi_X7_thrown qv_X7_thrown rfl (by decide) hm.s0 (dk_at ktL_law_2 37 rfl) rfl rfl (Nat.le_of_ble_eq_true rfl) ⟨by decide, by decide, by omega, by omega⟩ (b := 510) rfl (fun r3 I3 J3 hq3 => ?_)
  obtain ⟨w3, rfl, rfl, rfl, rfl⟩ := hq3
  refine gc_p (p_iload 1 (dk_at ktL_law_2 38 rfl) rfl (b := 512) rfl) ?_
  refine g_icmp_eq (dk_at ktL_law_2 39 rfl) (b := 517) (by decide) (b2 := 515) rfl (fun _ => ?_) (fun c => absurd (h6.trans hkc.symm) c)
  refine gc_p (p_iload 1 (dk_at ktL_law_2 42 rfl) rfl (b := 519) rfl) ?_
  refine g_if_ne (dk_at ktL_law_2 43 rfl) (b := 534) (by decide) (b2 := 522) rfl (fun c => ?_) (fun c => ?_)
  · refine gc_p (p_goto (b := 2878) (dk_at ktL_law_2 53 rfl) (by decide)) ?_
    refine gc_sub [2, 3, 4, 5, 6] (ls' := [(4, .int (nI (4 * q))), (3, .ref 113), (2, .ref 104), (1, .ref 0), (0, .ref 1300)]) rfl ?_
    exact gc_weak (by omega) (by omega) (hloop _ _ _ _ _ _ (h.st (by omega) (hN.le (by omega)) hF hW2 hG hI))
  · have h0 := hkc.symm.trans c
    have ha := ha h0
    have hj := hj h0
    refine gc_p (p_aload_n 3 (dk_at ktL_law_2 44 rfl) rfl rfl (b := 523) rfl) ?_
    refine gc_p (p_iconst (v := nI 0) (dk_at ktL_law_2 45 rfl) (by decide) (b := 524) rfl) ?_
    refine g_jald (id := 113) (len := 1) (j := 0) (by decide) hso (dk_at ktL_law_2 46 rfl) rfl ⟨by decide, by decide⟩ (v := lI (σ (tn (xs (4 * q + 1))))) hj (b := 525) rfl ?_
    refine gc_p (p_iload 0 (dk_at ktL_law_2 47 rfl) rfl (b := 527) rfl) ?_
    refine gc_p (p_i2l (v := lI w) (dk_at ktL_law_2 48 rfl) rfl (b := 528) rfl) ?_
    refine gc_p (p_lcmp (dk_at ktL_law_2 49 rfl) (b := 529) rfl) ?_
    refine g_if_eq (dk_at ktL_law_2 50 rfl) (b := 534) (by decide) (b2 := 532) rfl (fun _ => ?_) (fun c => absurd ((lg_cmp_eq _ _).mpr (congrArg lI ha)) c)
    refine gc_p (p_goto (b := 2878) (dk_at ktL_law_2 53 rfl) (by decide)) ?_
    refine gc_sub [2, 3, 4, 5, 6] (ls' := [(4, .int (nI (4 * q))), (3, .ref 113), (2, .ref 104), (1, .ref 0), (0, .ref 1300)]) rfl ?_
    exact gc_weak (by omega) (by omega) (hloop _ _ _ _ _ _ (h.st (by omega) (hN.le (by omega)) hF hW2 hG hI))
set_option maxRecDepth 8000 in
set_option maxHeartbeats 2000000 in
theorem law_c7 {L q B kc ks : Nat} {xs : Nat → Int32} {sh : mS} {G : mG} {I : mI} {J : mJ} {σ : sT} {T : tT} {nn : Nat} {sn : Nat → Option sT} (hq : 4 * q + 4 ≤ L) (hL : L ≤ 2048) (hB : BootH 114 sh G 0 1 7 26 45 64 65 84 103) (hm : ModG 114 sh G 104) (hso : sh 113 = .inr (3, 1)) (h : LSt B I σ T nn sn) (hBB : B + 1000 < 1000000) (hloop : ∀ (I2 : mI) (J2 : mJ) (σ2 : sT) (T2 : tT) (nn2 : Nat) (sn2 : Nat → Option sT), LSt (B + 6) I2 σ2 T2 nn2 sn2 → LG L xs sh G kc ks 2878 (lawLs q) [] I2 J2) : LG L xs sh G (kc + 3) (ks + 18) 537 (lawLs q) [] I J := by
  obtain ⟨hI, hW, ⟨T0, N0, hTB, hD⟩, hTR, hTC, hSR, hSD, hSI, hle⟩ := id h
  refine gc_p (p_aload_n 3 (dk_at ktL_law_2 54 rfl) rfl rfl (b := 538) rfl) ?_
  refine gc_p (p_aload_n 4 (dk_at ktL_law_2 55 rfl) rfl rfl (b := 539) rfl) ?_
  refine gc_p (p_iload 0 (dk_at ktL_law_2 56 rfl) rfl (b := 541) rfl) ?_
  refine gc_p (p_iconst (v := nI 1) (dk_at ktL_law_2 57 rfl) (by decide) (b := 542) rfl) ?_
  refine gc_p (p_iadd (v := nI (4 * q + 1)) (dk_at ktL_law_2 58 rfl) (nI_add (4 * q) 1) (b := 543) rfl) ?_
  refine g_sld (j := 4 * q + 1) (dk_at ktL_law_2 59 rfl) rfl ⟨by omega, by omega⟩ (b := 544) rfl ?_
  refine gc_p (p_aload_n 1 (dk_at ktL_law_3 0 rfl) rfl rfl (b := 545) rfl) ?_
  refine g_callW (As := [.ref 0, .int (xs (4 * q + 1)), .ref 113]) (rest := []) (s_L_setPower ((xs (4 * q + 1))) (s_X6_setPower hB hD hI ((xs (4 * q + 1)))) (by decide) hB.s0 (by decide) hso cIn_2) cwW_L_162 (dk_at ktL_law_3 1 rfl) rfl rfl (Nat.le_of_ble_eq_true rfl) ⟨by decide, by decide, by omega, by omega⟩ (b := 548) rfl (fun r1 I1 J1 hq1 => ?_)
  obtain ⟨k, rfl, hk⟩ := hq1
  obtain ⟨hkc, hN, hF, hj⟩ := WQ.std (T0 := T0) (e := 0) (σ := σ) (σ' := (t_power σ (xs (4 * q + 1)))) hk (RelN.of hD (Nat.le_refl _)) (fun hc => pow_no hc)
  refine gc_p (p_istore (ls' := [(5, .int k), (4, .int (nI (4 * q))), (3, .ref 113), (2, .ref 104), (1, .ref 0), (0, .ref 1300)]) (dk_at ktL_law_3 2 rfl) (by decide) rfl (b := 550) rfl) ?_
  refine gc_p (p_aload_n 3 (dk_at ktL_law_3 3 rfl) rfl rfl (b := 551) rfl) ?_
  refine gc_p (p_aload_n 5 (dk_at ktL_law_3 4 rfl) rfl rfl (b := 552) rfl) ?_
  refine gc_p (p_iload 1 (dk_at ktL_law_3 5 rfl) rfl (b := 554) rfl) ?_
  refine gc_p (p_iconst (v := nI 1) (dk_at ktL_law_3 6 rfl) (by decide) (b := 555) rfl) ?_
  refine gc_p (p_iadd (v := nI (4 * q + 1)) (dk_at ktL_law_3 7 rfl) (nI_add (4 * q) 1) (b := 556) rfl) ?_
  refine g_sld (j := 4 * q + 1) (dk_at ktL_law_3 8 rfl) rfl ⟨by omega, by omega⟩ (b := 557) rfl ?_
  have hW1 : RelW (I1 (104 + 1)) σ := by rw [hF (104 + 1) (by omega)]; exact hW
  refine g_callV (ci := 10) (As' := [.int (xs (4 * q + 1))]) (rest := []) (s_X7_setPower hm hW1 hI (xs (4 * q + 1))) cw_L_164 qi_X7_setPower qv_X7_setPower rfl (by decide) hm.s0 (dk_at ktL_law_3 9 rfl) rfl rfl (Nat.le_of_ble_eq_true rfl) ⟨by decide, by decide, by omega, by omega⟩ (b := 560) rfl (fun r2 I2 J2 hq2 => ?_)
  obtain ⟨w, rfl, ha, h6, rfl, hW2, hG⟩ := hq2
  refine gc_p (p_istore (ls' := [(6, .int w), (5, .int k), (4, .int (nI (4 * q))), (3, .ref 113), (2, .ref 104), (1, .ref 0), (0, .ref 1300)]) (dk_at ktL_law_3 10 rfl) (by decide) rfl (b := 562) rfl) ?_
  refine gc_p (p_aload_n 4 (dk_at ktL_law_3 11 rfl) rfl rfl (b := 563) rfl) ?_
  refine g_callV (ci := 10) (As' := []) (rest := []) (s_X7_thrown hm) cw_L_148 qi_X7_thrown qv_X7_thrown rfl (by decide) hm.s0 (dk_at ktL_law_3 12 rfl) rfl rfl (Nat.le_of_ble_eq_true rfl) ⟨by decide, by decide, by omega, by omega⟩ (b := 566) rfl (fun r3 I3 J3 hq3 => ?_)
  obtain ⟨w3, rfl, rfl, rfl, rfl⟩ := hq3
  refine gc_p (p_iload 1 (dk_at ktL_law_3 13 rfl) rfl (b := 568) rfl) ?_
  refine g_icmp_eq (dk_at ktL_law_3 14 rfl) (b := 573) (by decide) (b2 := 571) rfl (fun _ => ?_) (fun c => absurd (h6.trans hkc.symm) c)
  refine gc_p (p_iload 1 (dk_at ktL_law_3 17 rfl) rfl (b := 575) rfl) ?_
  refine g_if_ne (dk_at ktL_law_3 18 rfl) (b := 590) (by decide) (b2 := 578) rfl (fun c => ?_) (fun c => ?_)
  · refine gc_p (p_goto (b := 2878) (dk_at ktL_law_3 28 rfl) (by decide)) ?_
    refine gc_sub [2, 3, 4, 5, 6] (ls' := [(4, .int (nI (4 * q))), (3, .ref 113), (2, .ref 104), (1, .ref 0), (0, .ref 1300)]) rfl ?_
    exact gc_weak (by omega) (by omega) (hloop _ _ _ _ _ _ (h.st (by omega) (hN.le (by omega)) hF hW2 hG hI.pow))
  · have h0 := hkc.symm.trans c
    have ha := ha h0
    have hj := hj h0
    refine gc_p (p_aload_n 3 (dk_at ktL_law_3 19 rfl) rfl rfl (b := 579) rfl) ?_
    refine gc_p (p_iconst (v := nI 0) (dk_at ktL_law_3 20 rfl) (by decide) (b := 580) rfl) ?_
    refine g_jald (id := 113) (len := 1) (j := 0) (by decide) hso (dk_at ktL_law_3 21 rfl) rfl ⟨by decide, by decide⟩ (v := lI (σ 6)) hj (b := 581) rfl ?_
    refine gc_p (p_iload 0 (dk_at ktL_law_3 22 rfl) rfl (b := 583) rfl) ?_
    refine gc_p (p_i2l (v := lI w) (dk_at ktL_law_3 23 rfl) rfl (b := 584) rfl) ?_
    refine gc_p (p_lcmp (dk_at ktL_law_3 24 rfl) (b := 585) rfl) ?_
    refine g_if_eq (dk_at ktL_law_3 25 rfl) (b := 590) (by decide) (b2 := 588) rfl (fun _ => ?_) (fun c => absurd ((lg_cmp_eq _ _).mpr (congrArg lI ha)) c)
    refine gc_p (p_goto (b := 2878) (dk_at ktL_law_3 28 rfl) (by decide)) ?_
    refine gc_sub [2, 3, 4, 5, 6] (ls' := [(4, .int (nI (4 * q))), (3, .ref 113), (2, .ref 104), (1, .ref 0), (0, .ref 1300)]) rfl ?_
    exact gc_weak (by omega) (by omega) (hloop _ _ _ _ _ _ (h.st (by omega) (hN.le (by omega)) hF hW2 hG hI.pow))

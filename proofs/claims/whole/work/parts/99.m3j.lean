/-! THE LAW: kinds of calls -/
set_option maxRecDepth 8000 in
set_option maxHeartbeats 2000000 in
theorem law_c24 {L q B kc ks : Nat} {xs : Nat → Int32} {sh : mS} {G : mG} {I : mI} {J : mJ} {σ : sT} {T : tT} {nn : Nat} {sn : Nat → Option sT} (hq : 4 * q + 4 ≤ L) (hL : L ≤ 2048) (hB : BootH 114 sh G 0 1 7 26 45 64 65 84 103) (hm : ModG 114 sh G 104) (hso : sh 113 = .inr (3, 1)) (h : LSt B I σ T nn sn) (hBB : B + 1000 < 1000000) (hloop : ∀ (I2 : mI) (J2 : mJ) (σ2 : sT) (T2 : tT) (nn2 : Nat) (sn2 : Nat → Option sT), LSt (B + 6) I2 σ2 T2 nn2 sn2 → LG L xs sh G kc ks 2878 (lawLs q) [] I2 J2) : LG L xs sh G (kc + 3) (ks + 18) 1150 (lawLs q) [] I J := by
  obtain ⟨hI, hW, ⟨T0, N0, hTB, hD⟩, hTR, hTC, hSR, hSD, hSI, hle⟩ := id h
  refine gc_p (p_aload_n 3 (dk_at ktL_law_9 17 rfl) rfl rfl (b := 1151) rfl) ?_
  refine g_callV (ci := 9) (As' := []) (rest := []) (s_X6_operations hB hD hI ) cw_L_224 qi_X6_operations qv_X6_operations rfl (by decide) hB.s0 (dk_at ktL_law_9 18 rfl) rfl rfl (Nat.le_of_ble_eq_true rfl) ⟨by decide, by decide, by omega, by omega⟩ (b := 1154) rfl (fun r1 I1 J1 hq1 => ?_)
  obtain ⟨v, rfl, rfl, rfl, hN, hF⟩ := hq1
  refine gc_p (p_aload_n 2 (dk_at ktL_law_9 19 rfl) rfl rfl (b := 1155) rfl) ?_
  have hW1 : RelW (I1 (104 + 1)) σ := by rw [hF (104 + 1) (by omega)]; exact hW
  refine g_callV (ci := 10) (As' := []) (rest := [_]) (s_X7_operations hm hW1 hI ) cw_L_227 qi_X7_operations qv_X7_operations rfl (by decide) hm.s0 (dk_at ktL_law_9 20 rfl) rfl rfl (Nat.le_of_ble_eq_true rfl) ⟨by decide, by decide, by omega, by omega⟩ (b := 1158) rfl (fun r2 I2 J2 hq2 => ?_)
  obtain ⟨w, rfl, ha, h6, rfl, hW2, hG⟩ := hq2
  have ha := ha rfl
  refine g_icmp_eq (dk_at ktL_law_9 21 rfl) (b := 2878) (by decide) (b2 := 1161) rfl (fun _ => ?_) (fun c => absurd ha c)
  exact gc_weak (by omega) (by omega) (hloop _ _ _ _ _ _ (h.st (by omega) (hN.le (by omega)) hF hW2 hG hI))
set_option maxRecDepth 8000 in
set_option maxHeartbeats 2000000 in
theorem law_c25 {L q B kc ks : Nat} {xs : Nat → Int32} {sh : mS} {G : mG} {I : mI} {J : mJ} {σ : sT} {T : tT} {nn : Nat} {sn : Nat → Option sT} (hq : 4 * q + 4 ≤ L) (hL : L ≤ 2048) (hB : BootH 114 sh G 0 1 7 26 45 64 65 84 103) (hm : ModG 114 sh G 104) (hso : sh 113 = .inr (3, 1)) (h : LSt B I σ T nn sn) (hBB : B + 1000 < 1000000) (hloop : ∀ (I2 : mI) (J2 : mJ) (σ2 : sT) (T2 : tT) (nn2 : Nat) (sn2 : Nat → Option sT), LSt (B + 6) I2 σ2 T2 nn2 sn2 → LG L xs sh G kc ks 2878 (lawLs q) [] I2 J2) : LG L xs sh G (kc + 3) (ks + 18) 1163 (lawLs q) [] I J := by
  obtain ⟨hI, hW, ⟨T0, N0, hTB, hD⟩, hTR, hTC, hSR, hSD, hSI, hle⟩ := id h
  refine gc_p (p_aload_n 3 (dk_at ktL_law_9 24 rfl) rfl rfl (b := 1164) rfl) ?_
  refine gc_p (p_aload_n 4 (dk_at ktL_law_9 25 rfl) rfl rfl (b := 1165) rfl) ?_
  refine gc_p (p_iload 0 (dk_at ktL_law_9 26 rfl) rfl (b := 1167) rfl) ?_
  refine gc_p (p_iconst (v := nI 1) (dk_at ktL_law_9 27 rfl) (by decide) (b := 1168) rfl) ?_
  refine gc_p (p_iadd (v := nI (4 * q + 1)) (dk_at ktL_law_9 28 rfl) (nI_add (4 * q) 1) (b := 1169) rfl) ?_
  refine g_sld (j := 4 * q + 1) (dk_at ktL_law_9 29 rfl) rfl ⟨by omega, by omega⟩ (b := 1170) rfl ?_
  refine gc_p (p_aload_n 1 (dk_at ktL_law_9 30 rfl) rfl rfl (b := 1171) rfl) ?_
  refine g_callW (As := [.ref 0, .int (xs (4 * q + 1)), .ref 113]) (rest := []) (s_L_isWhole ((xs (4 * q + 1))) (s_X6_isWhole hB hD hI ((xs (4 * q + 1)))) (by decide) hB.s0 (by decide) hso cIn_2) cwW_L_228 (dk_at ktL_law_9 31 rfl) rfl rfl (Nat.le_of_ble_eq_true rfl) ⟨by decide, by decide, by omega, by omega⟩ (b := 1174) rfl (fun r1 I1 J1 hq1 => ?_)
  obtain ⟨k, rfl, hk⟩ := hq1
  obtain ⟨hkc, hN, hF, hj⟩ := WQ.std (T0 := T0) (e := 0) (σ := σ) (σ' := (σ)) hk (RelN.of hD (Nat.le_refl _)) (fun _ => rfl)
  refine gc_p (p_istore (ls' := [(5, .int k), (4, .int (nI (4 * q))), (3, .ref 113), (2, .ref 104), (1, .ref 0), (0, .ref 1300)]) (dk_at ktL_law_9 32 rfl) (by decide) rfl (b := 1176) rfl) ?_
  refine gc_p (p_aload_n 3 (dk_at ktL_law_9 33 rfl) rfl rfl (b := 1177) rfl) ?_
  refine gc_p (p_aload_n 5 (dk_at ktL_law_9 34 rfl) rfl rfl (b := 1178) rfl) ?_
  refine gc_p (p_iload 1 (dk_at ktL_law_9 35 rfl) rfl (b := 1180) rfl) ?_
  refine gc_p (p_iconst (v := nI 1) (dk_at ktL_law_9 36 rfl) (by decide) (b := 1181) rfl) ?_
  refine gc_p (p_iadd (v := nI (4 * q + 1)) (dk_at ktL_law_9 37 rfl) (nI_add (4 * q) 1) (b := 1182) rfl) ?_
  refine g_sld (j := 4 * q + 1) (dk_at ktL_law_9 38 rfl) rfl ⟨by omega, by omega⟩ (b := 1183) rfl ?_
  have hW1 : RelW (I1 (104 + 1)) σ := by rw [hF (104 + 1) (by omega)]; exact hW
  refine g_callV (ci := 10) (As' := [.int (xs (4 * q + 1))]) (rest := []) (s_X7_isWhole hm hW1 hI (xs (4 * q + 1))) cw_L_230 qi_X7_isWhole qv_X7_isWhole rfl (by decide) hm.s0 (dk_at ktL_law_9 39 rfl) rfl rfl (Nat.le_of_ble_eq_true rfl) ⟨by decide, by decide, by omega, by omega⟩ (b := 1186) rfl (fun r2 I2 J2 hq2 => ?_)
  obtain ⟨w, rfl, ha, h6, rfl, hW2, hG⟩ := hq2
  refine gc_p (p_istore (ls' := [(6, .int w), (5, .int k), (4, .int (nI (4 * q))), (3, .ref 113), (2, .ref 104), (1, .ref 0), (0, .ref 1300)]) (dk_at ktL_law_9 40 rfl) (by decide) rfl (b := 1188) rfl) ?_
  refine gc_p (p_aload_n 4 (dk_at ktL_law_9 41 rfl) rfl rfl (b := 1189) rfl) ?_
  refine g_callV (ci := 10) (As' := []) (rest := []) (s_X7_thrown hm) cw_L_148 qi_X7_thrown qv_X7_thrown rfl (by decide) hm.s0 (dk_at ktL_law_9 42 rfl) rfl rfl (Nat.le_of_ble_eq_true rfl) ⟨by decide, by decide, by omega, by omega⟩ (b := 1192) rfl (fun r3 I3 J3 hq3 => ?_)
  obtain ⟨w3, rfl, rfl, rfl, rfl⟩ := hq3
  refine gc_p (p_iload 1 (dk_at ktL_law_9 43 rfl) rfl (b := 1194) rfl) ?_
  refine g_icmp_eq (dk_at ktL_law_9 44 rfl) (b := 1199) (by decide) (b2 := 1197) rfl (fun _ => ?_) (fun c => absurd (h6.trans hkc.symm) c)
  refine gc_p (p_iload 1 (dk_at ktL_law_9 47 rfl) rfl (b := 1201) rfl) ?_
  refine g_if_ne (dk_at ktL_law_9 48 rfl) (b := 1223) (by decide) (b2 := 1204) rfl (fun c => ?_) (fun c => ?_)
  · refine gc_p (p_goto (b := 2878) (dk_at ktL_law_10 1 rfl) (by decide)) ?_
    refine gc_sub [2, 3, 4, 5, 6] (ls' := [(4, .int (nI (4 * q))), (3, .ref 113), (2, .ref 104), (1, .ref 0), (0, .ref 1300)]) rfl ?_
    exact gc_weak (by omega) (by omega) (hloop _ _ _ _ _ _ (h.st (by omega) (hN.le (by omega)) hF hW2 hG hI))
  · have h0 := hkc.symm.trans c
    have ha := ha h0
    have hj := hj h0
    refine gc_p (p_aload_n 3 (dk_at ktL_law_9 49 rfl) rfl rfl (b := 1205) rfl) ?_
    refine gc_p (p_iconst (v := nI 0) (dk_at ktL_law_9 50 rfl) (by decide) (b := 1206) rfl) ?_
    refine g_jald (id := 113) (len := 1) (j := 0) (by decide) hso (dk_at ktL_law_9 51 rfl) rfl ⟨by decide, by decide⟩ (v := lB (bi (wholeB σ (tn (xs (4 * q + 1)))))) hj (b := 1207) rfl ?_
    refine gc_p (p_iload 0 (dk_at ktL_law_9 52 rfl) rfl (b := 1209) rfl) ?_
    refine g_if_eq (dk_at ktL_law_9 53 rfl) (b := 1216) (by decide) (b2 := 1212) rfl (fun cb => ?_) (fun cb => ?_)
    · have hb : lB w = 0 := if_pos cb
      refine gc_p (p_lconst (v := 0) (dk_at ktL_law_9 56 rfl) (by decide) (b := 1217) rfl) ?_
      refine gc_p (p_lcmp (dk_at ktL_law_9 57 rfl) (b := 1218) rfl) ?_
      refine g_if_eq (dk_at ktL_law_9 58 rfl) (b := 1223) (by decide) (b2 := 1221) rfl (fun _ => ?_) (fun c => absurd ((lg_cmp_eq _ _).mpr ((congrArg lB ha).trans hb)) c)
      refine gc_p (p_goto (b := 2878) (dk_at ktL_law_10 1 rfl) (by decide)) ?_
      refine gc_sub [2, 3, 4, 5, 6] (ls' := [(4, .int (nI (4 * q))), (3, .ref 113), (2, .ref 104), (1, .ref 0), (0, .ref 1300)]) rfl ?_
      exact gc_weak (by omega) (by omega) (hloop _ _ _ _ _ _ (h.st (by omega) (hN.le (by omega)) hF hW2 hG hI))
    · have hb : lB w = 1 := if_neg cb
      refine gc_p (p_lconst (v := 1) (dk_at ktL_law_9 54 rfl) (by decide) (b := 1213) rfl) ?_
      refine gc_p (p_goto (b := 1217) (dk_at ktL_law_9 55 rfl) (by decide)) ?_
      refine gc_p (p_lcmp (dk_at ktL_law_9 57 rfl) (b := 1218) rfl) ?_
      refine g_if_eq (dk_at ktL_law_9 58 rfl) (b := 1223) (by decide) (b2 := 1221) rfl (fun _ => ?_) (fun c => absurd ((lg_cmp_eq _ _).mpr ((congrArg lB ha).trans hb)) c)
      refine gc_p (p_goto (b := 2878) (dk_at ktL_law_10 1 rfl) (by decide)) ?_
      refine gc_sub [2, 3, 4, 5, 6] (ls' := [(4, .int (nI (4 * q))), (3, .ref 113), (2, .ref 104), (1, .ref 0), (0, .ref 1300)]) rfl ?_
      exact gc_weak (by omega) (by omega) (hloop _ _ _ _ _ _ (h.st (by omega) (hN.le (by omega)) hF hW2 hG hI))
set_option maxRecDepth 8000 in
set_option maxHeartbeats 2000000 in
theorem law_c26 {L q B kc ks : Nat} {xs : Nat → Int32} {sh : mS} {G : mG} {I : mI} {J : mJ} {σ : sT} {T : tT} {nn : Nat} {sn : Nat → Option sT} (hq : 4 * q + 4 ≤ L) (hL : L ≤ 2048) (hB : BootH 114 sh G 0 1 7 26 45 64 65 84 103) (hm : ModG 114 sh G 104) (hso : sh 113 = .inr (3, 1)) (h : LSt B I σ T nn sn) (hBB : B + 1000 < 1000000) (hloop : ∀ (I2 : mI) (J2 : mJ) (σ2 : sT) (T2 : tT) (nn2 : Nat) (sn2 : Nat → Option sT), LSt (B + 6) I2 σ2 T2 nn2 sn2 → LG L xs sh G kc ks 2878 (lawLs q) [] I2 J2) : LG L xs sh G (kc + 3) (ks + 18) 1226 (lawLs q) [] I J := by
  obtain ⟨hI, hW, ⟨T0, N0, hTB, hD⟩, hTR, hTC, hSR, hSD, hSI, hle⟩ := id h
  refine gc_p (p_aload_n 3 (dk_at ktL_law_10 2 rfl) rfl rfl (b := 1227) rfl) ?_
  refine gc_p (p_aload_n 4 (dk_at ktL_law_10 3 rfl) rfl rfl (b := 1228) rfl) ?_
  refine gc_p (p_iload 0 (dk_at ktL_law_10 4 rfl) rfl (b := 1230) rfl) ?_
  refine gc_p (p_iconst (v := nI 1) (dk_at ktL_law_10 5 rfl) (by decide) (b := 1231) rfl) ?_
  refine gc_p (p_iadd (v := nI (4 * q + 1)) (dk_at ktL_law_10 6 rfl) (nI_add (4 * q) 1) (b := 1232) rfl) ?_
  refine g_sld (j := 4 * q + 1) (dk_at ktL_law_10 7 rfl) rfl ⟨by omega, by omega⟩ (b := 1233) rfl ?_
  refine gc_p (p_aload_n 1 (dk_at ktL_law_10 8 rfl) rfl rfl (b := 1234) rfl) ?_
  refine g_callW (As := [.ref 0, .int (xs (4 * q + 1)), .ref 113]) (rest := []) (s_L_isBootable ((xs (4 * q + 1))) (s_X6_isBootable hB hD hI ((xs (4 * q + 1)))) (by decide) hB.s0 (by decide) hso cIn_2) cwW_L_231 (dk_at ktL_law_10 9 rfl) rfl rfl (Nat.le_of_ble_eq_true rfl) ⟨by decide, by decide, by omega, by omega⟩ (b := 1237) rfl (fun r1 I1 J1 hq1 => ?_)
  obtain ⟨k, rfl, hk⟩ := hq1
  obtain ⟨hkc, hN, hF, hj⟩ := WQ.std (T0 := T0) (e := 0) (σ := σ) (σ' := (σ)) hk (RelN.of hD (Nat.le_refl _)) (fun _ => rfl)
  refine gc_p (p_istore (ls' := [(5, .int k), (4, .int (nI (4 * q))), (3, .ref 113), (2, .ref 104), (1, .ref 0), (0, .ref 1300)]) (dk_at ktL_law_10 10 rfl) (by decide) rfl (b := 1239) rfl) ?_
  refine gc_p (p_aload_n 3 (dk_at ktL_law_10 11 rfl) rfl rfl (b := 1240) rfl) ?_
  refine gc_p (p_aload_n 5 (dk_at ktL_law_10 12 rfl) rfl rfl (b := 1241) rfl) ?_
  refine gc_p (p_iload 1 (dk_at ktL_law_10 13 rfl) rfl (b := 1243) rfl) ?_
  refine gc_p (p_iconst (v := nI 1) (dk_at ktL_law_10 14 rfl) (by decide) (b := 1244) rfl) ?_
  refine gc_p (p_iadd (v := nI (4 * q + 1)) (dk_at ktL_law_10 15 rfl) (nI_add (4 * q) 1) (b := 1245) rfl) ?_
  refine g_sld (j := 4 * q + 1) (dk_at ktL_law_10 16 rfl) rfl ⟨by omega, by omega⟩ (b := 1246) rfl ?_
  have hW1 : RelW (I1 (104 + 1)) σ := by rw [hF (104 + 1) (by omega)]; exact hW
  refine g_callV (ci := 10) (As' := [.int (xs (4 * q + 1))]) (rest := []) (s_X7_isBootable hm hW1 hI (xs (4 * q + 1))) cw_L_233 qi_X7_isBootable qv_X7_isBootable rfl (by decide) hm.s0 (dk_at ktL_law_10 17 rfl) rfl rfl (Nat.le_of_ble_eq_true rfl) ⟨by decide, by decide, by omega, by omega⟩ (b := 1249) rfl (fun r2 I2 J2 hq2 => ?_)
  obtain ⟨w, rfl, ha, h6, rfl, hW2, hG⟩ := hq2
  refine gc_p (p_istore (ls' := [(6, .int w), (5, .int k), (4, .int (nI (4 * q))), (3, .ref 113), (2, .ref 104), (1, .ref 0), (0, .ref 1300)]) (dk_at ktL_law_10 18 rfl) (by decide) rfl (b := 1251) rfl) ?_
  refine gc_p (p_aload_n 4 (dk_at ktL_law_10 19 rfl) rfl rfl (b := 1252) rfl) ?_
  refine g_callV (ci := 10) (As' := []) (rest := []) (s_X7_thrown hm) cw_L_148 qi_X7_thrown qv_X7_thrown rfl (by decide) hm.s0 (dk_at ktL_law_10 20 rfl) rfl rfl (Nat.le_of_ble_eq_true rfl) ⟨by decide, by decide, by omega, by omega⟩ (b := 1255) rfl (fun r3 I3 J3 hq3 => ?_)
  obtain ⟨w3, rfl, rfl, rfl, rfl⟩ := hq3
  refine gc_p (p_iload 1 (dk_at ktL_law_10 21 rfl) rfl (b := 1257) rfl) ?_
  refine g_icmp_eq (dk_at ktL_law_10 22 rfl) (b := 1262) (by decide) (b2 := 1260) rfl (fun _ => ?_) (fun c => absurd (h6.trans hkc.symm) c)
  refine gc_p (p_iload 1 (dk_at ktL_law_10 25 rfl) rfl (b := 1264) rfl) ?_
  refine g_if_ne (dk_at ktL_law_10 26 rfl) (b := 1286) (by decide) (b2 := 1267) rfl (fun c => ?_) (fun c => ?_)
  · refine gc_p (p_goto (b := 2878) (dk_at ktL_law_10 39 rfl) (by decide)) ?_
    refine gc_sub [2, 3, 4, 5, 6] (ls' := [(4, .int (nI (4 * q))), (3, .ref 113), (2, .ref 104), (1, .ref 0), (0, .ref 1300)]) rfl ?_
    exact gc_weak (by omega) (by omega) (hloop _ _ _ _ _ _ (h.st (by omega) (hN.le (by omega)) hF hW2 hG hI))
  · have h0 := hkc.symm.trans c
    have ha := ha h0
    have hj := hj h0
    refine gc_p (p_aload_n 3 (dk_at ktL_law_10 27 rfl) rfl rfl (b := 1268) rfl) ?_
    refine gc_p (p_iconst (v := nI 0) (dk_at ktL_law_10 28 rfl) (by decide) (b := 1269) rfl) ?_
    refine g_jald (id := 113) (len := 1) (j := 0) (by decide) hso (dk_at ktL_law_10 29 rfl) rfl ⟨by decide, by decide⟩ (v := lB (bi (canB σ (tn (xs (4 * q + 1)))))) hj (b := 1270) rfl ?_
    refine gc_p (p_iload 0 (dk_at ktL_law_10 30 rfl) rfl (b := 1272) rfl) ?_
    refine g_if_eq (dk_at ktL_law_10 31 rfl) (b := 1279) (by decide) (b2 := 1275) rfl (fun cb => ?_) (fun cb => ?_)
    · have hb : lB w = 0 := if_pos cb
      refine gc_p (p_lconst (v := 0) (dk_at ktL_law_10 34 rfl) (by decide) (b := 1280) rfl) ?_
      refine gc_p (p_lcmp (dk_at ktL_law_10 35 rfl) (b := 1281) rfl) ?_
      refine g_if_eq (dk_at ktL_law_10 36 rfl) (b := 1286) (by decide) (b2 := 1284) rfl (fun _ => ?_) (fun c => absurd ((lg_cmp_eq _ _).mpr ((congrArg lB ha).trans hb)) c)
      refine gc_p (p_goto (b := 2878) (dk_at ktL_law_10 39 rfl) (by decide)) ?_
      refine gc_sub [2, 3, 4, 5, 6] (ls' := [(4, .int (nI (4 * q))), (3, .ref 113), (2, .ref 104), (1, .ref 0), (0, .ref 1300)]) rfl ?_
      exact gc_weak (by omega) (by omega) (hloop _ _ _ _ _ _ (h.st (by omega) (hN.le (by omega)) hF hW2 hG hI))
    · have hb : lB w = 1 := if_neg cb
      refine gc_p (p_lconst (v := 1) (dk_at ktL_law_10 32 rfl) (by decide) (b := 1276) rfl) ?_
      refine gc_p (p_goto (b := 1280) (dk_at ktL_law_10 33 rfl) (by decide)) ?_
      refine gc_p (p_lcmp (dk_at ktL_law_10 35 rfl) (b := 1281) rfl) ?_
      refine g_if_eq (dk_at ktL_law_10 36 rfl) (b := 1286) (by decide) (b2 := 1284) rfl (fun _ => ?_) (fun c => absurd ((lg_cmp_eq _ _).mpr ((congrArg lB ha).trans hb)) c)
      refine gc_p (p_goto (b := 2878) (dk_at ktL_law_10 39 rfl) (by decide)) ?_
      refine gc_sub [2, 3, 4, 5, 6] (ls' := [(4, .int (nI (4 * q))), (3, .ref 113), (2, .ref 104), (1, .ref 0), (0, .ref 1300)]) rfl ?_
      exact gc_weak (by omega) (by omega) (hloop _ _ _ _ _ _ (h.st (by omega) (hN.le (by omega)) hF hW2 hG hI))
set_option maxRecDepth 8000 in
set_option maxHeartbeats 2000000 in
theorem law_c27 {L q B kc ks : Nat} {xs : Nat → Int32} {sh : mS} {G : mG} {I : mI} {J : mJ} {σ : sT} {T : tT} {nn : Nat} {sn : Nat → Option sT} (hq : 4 * q + 4 ≤ L) (hL : L ≤ 2048) (hB : BootH 114 sh G 0 1 7 26 45 64 65 84 103) (hm : ModG 114 sh G 104) (hso : sh 113 = .inr (3, 1)) (h : LSt B I σ T nn sn) (hBB : B + 1000 < 1000000) (hloop : ∀ (I2 : mI) (J2 : mJ) (σ2 : sT) (T2 : tT) (nn2 : Nat) (sn2 : Nat → Option sT), LSt (B + 6) I2 σ2 T2 nn2 sn2 → LG L xs sh G kc ks 2878 (lawLs q) [] I2 J2) : LG L xs sh G (kc + 3) (ks + 18) 1289 (lawLs q) [] I J := by
  obtain ⟨hI, hW, ⟨T0, N0, hTB, hD⟩, hTR, hTC, hSR, hSD, hSI, hle⟩ := id h
  refine gc_p (p_aload_n 3 (dk_at ktL_law_10 40 rfl) rfl rfl (b := 1290) rfl) ?_
  refine gc_p (p_aload_n 4 (dk_at ktL_law_10 41 rfl) rfl rfl (b := 1291) rfl) ?_
  refine gc_p (p_iload 0 (dk_at ktL_law_10 42 rfl) rfl (b := 1293) rfl) ?_
  refine gc_p (p_iconst (v := nI 1) (dk_at ktL_law_10 43 rfl) (by decide) (b := 1294) rfl) ?_
  refine gc_p (p_iadd (v := nI (4 * q + 1)) (dk_at ktL_law_10 44 rfl) (nI_add (4 * q) 1) (b := 1295) rfl) ?_
  refine g_sld (j := 4 * q + 1) (dk_at ktL_law_10 45 rfl) rfl ⟨by omega, by omega⟩ (b := 1296) rfl ?_
  refine gc_p (p_aload_n 1 (dk_at ktL_law_10 46 rfl) rfl rfl (b := 1297) rfl) ?_
  refine g_callW (As := [.ref 0, .int (xs (4 * q + 1)), .ref 113]) (rest := []) (s_L_checksum ((xs (4 * q + 1))) (s_X6_checksum hB hD hI ((xs (4 * q + 1)))) (by decide) hB.s0 (by decide) hso cIn_2) cwW_L_234 (dk_at ktL_law_10 47 rfl) rfl rfl (Nat.le_of_ble_eq_true rfl) ⟨by decide, by decide, by omega, by omega⟩ (b := 1300) rfl (fun r1 I1 J1 hq1 => ?_)
  obtain ⟨k, rfl, hk⟩ := hq1
  obtain ⟨hkc, hN, hF, hj⟩ := WQ.std (T0 := T0) (e := 0) (σ := σ) (σ' := (σ)) hk (RelN.of hD (Nat.le_refl _)) (fun _ => rfl)
  refine gc_p (p_istore (ls' := [(5, .int k), (4, .int (nI (4 * q))), (3, .ref 113), (2, .ref 104), (1, .ref 0), (0, .ref 1300)]) (dk_at ktL_law_10 48 rfl) (by decide) rfl (b := 1302) rfl) ?_
  refine gc_p (p_aload_n 3 (dk_at ktL_law_10 49 rfl) rfl rfl (b := 1303) rfl) ?_
  refine gc_p (p_aload_n 5 (dk_at ktL_law_10 50 rfl) rfl rfl (b := 1304) rfl) ?_
  refine gc_p (p_iload 1 (dk_at ktL_law_10 51 rfl) rfl (b := 1306) rfl) ?_
  refine gc_p (p_iconst (v := nI 1) (dk_at ktL_law_10 52 rfl) (by decide) (b := 1307) rfl) ?_
  refine gc_p (p_iadd (v := nI (4 * q + 1)) (dk_at ktL_law_10 53 rfl) (nI_add (4 * q) 1) (b := 1308) rfl) ?_
  refine g_sld (j := 4 * q + 1) (dk_at ktL_law_10 54 rfl) rfl ⟨by omega, by omega⟩ (b := 1309) rfl ?_
  have hW1 : RelW (I1 (104 + 1)) σ := by rw [hF (104 + 1) (by omega)]; exact hW
  refine g_callV (ci := 10) (As' := [.int (xs (4 * q + 1))]) (rest := []) (s_X7_checksum hm hW1 hI (xs (4 * q + 1))) cw_L_236 qi_X7_checksum qv_X7_checksum rfl (by decide) hm.s0 (dk_at ktL_law_10 55 rfl) rfl rfl (Nat.le_of_ble_eq_true rfl) ⟨by decide, by decide, by omega, by omega⟩ (b := 1312) rfl (fun r2 I2 J2 hq2 => ?_)
  obtain ⟨w, rfl, ha, h6, rfl, hW2, hG⟩ := hq2
  refine gc_p (p_istore (ls' := [(6, .int w), (5, .int k), (4, .int (nI (4 * q))), (3, .ref 113), (2, .ref 104), (1, .ref 0), (0, .ref 1300)]) (dk_at ktL_law_10 56 rfl) (by decide) rfl (b := 1314) rfl) ?_
  refine gc_p (p_aload_n 4 (dk_at ktL_law_10 57 rfl) rfl rfl (b := 1315) rfl) ?_
  refine g_callV (ci := 10) (As' := []) (rest := []) (s_X7_thrown hm) cw_L_148 qi_X7_thrown qv_X7_thrown rfl (by decide) hm.s0 (dk_at ktL_law_10 58 rfl) rfl rfl (Nat.le_of_ble_eq_true rfl) ⟨by decide, by decide, by omega, by omega⟩ (b := 1318) rfl (fun r3 I3 J3 hq3 => ?_)
  obtain ⟨w3, rfl, rfl, rfl, rfl⟩ := hq3
  refine gc_p (p_iload 1 (dk_at ktL_law_10 59 rfl) rfl (b := 1320) rfl) ?_
  refine g_icmp_eq (dk_at ktL_law_11 0 rfl) (b := 1325) (by decide) (b2 := 1323) rfl (fun _ => ?_) (fun c => absurd (h6.trans hkc.symm) c)
  refine gc_p (p_iload 1 (dk_at ktL_law_11 3 rfl) rfl (b := 1327) rfl) ?_
  refine g_if_ne (dk_at ktL_law_11 4 rfl) (b := 1342) (by decide) (b2 := 1330) rfl (fun c => ?_) (fun c => ?_)
  · refine gc_p (p_goto (b := 2878) (dk_at ktL_law_11 14 rfl) (by decide)) ?_
    refine gc_sub [2, 3, 4, 5, 6] (ls' := [(4, .int (nI (4 * q))), (3, .ref 113), (2, .ref 104), (1, .ref 0), (0, .ref 1300)]) rfl ?_
    exact gc_weak (by omega) (by omega) (hloop _ _ _ _ _ _ (h.st (by omega) (hN.le (by omega)) hF hW2 hG hI))
  · have h0 := hkc.symm.trans c
    have ha := ha h0
    have hj := hj h0
    refine gc_p (p_aload_n 3 (dk_at ktL_law_11 5 rfl) rfl rfl (b := 1331) rfl) ?_
    refine gc_p (p_iconst (v := nI 0) (dk_at ktL_law_11 6 rfl) (by decide) (b := 1332) rfl) ?_
    refine g_jald (id := 113) (len := 1) (j := 0) (by decide) hso (dk_at ktL_law_11 7 rfl) rfl ⟨by decide, by decide⟩ (v := lI (sumS σ (tn (xs (4 * q + 1))))) hj (b := 1333) rfl ?_
    refine gc_p (p_iload 0 (dk_at ktL_law_11 8 rfl) rfl (b := 1335) rfl) ?_
    refine gc_p (p_i2l (v := lI w) (dk_at ktL_law_11 9 rfl) rfl (b := 1336) rfl) ?_
    refine gc_p (p_lcmp (dk_at ktL_law_11 10 rfl) (b := 1337) rfl) ?_
    refine g_if_eq (dk_at ktL_law_11 11 rfl) (b := 1342) (by decide) (b2 := 1340) rfl (fun _ => ?_) (fun c => absurd ((lg_cmp_eq _ _).mpr (congrArg lI ha)) c)
    refine gc_p (p_goto (b := 2878) (dk_at ktL_law_11 14 rfl) (by decide)) ?_
    refine gc_sub [2, 3, 4, 5, 6] (ls' := [(4, .int (nI (4 * q))), (3, .ref 113), (2, .ref 104), (1, .ref 0), (0, .ref 1300)]) rfl ?_
    exact gc_weak (by omega) (by omega) (hloop _ _ _ _ _ _ (h.st (by omega) (hN.le (by omega)) hF hW2 hG hI))
set_option maxRecDepth 8000 in
set_option maxHeartbeats 2000000 in
theorem law_c28 {L q B kc ks : Nat} {xs : Nat → Int32} {sh : mS} {G : mG} {I : mI} {J : mJ} {σ : sT} {T : tT} {nn : Nat} {sn : Nat → Option sT} (hq : 4 * q + 4 ≤ L) (hL : L ≤ 2048) (hB : BootH 114 sh G 0 1 7 26 45 64 65 84 103) (hm : ModG 114 sh G 104) (hso : sh 113 = .inr (3, 1)) (h : LSt B I σ T nn sn) (hBB : B + 1000 < 1000000) (hloop : ∀ (I2 : mI) (J2 : mJ) (σ2 : sT) (T2 : tT) (nn2 : Nat) (sn2 : Nat → Option sT), LSt (B + 6) I2 σ2 T2 nn2 sn2 → LG L xs sh G kc ks 2878 (lawLs q) [] I2 J2) : LG L xs sh G (kc + 3) (ks + 18) 1345 (lawLs q) [] I J := by
  obtain ⟨hI, hW, ⟨T0, N0, hTB, hD⟩, hTR, hTC, hSR, hSD, hSI, hle⟩ := id h
  refine gc_p (p_aload_n 3 (dk_at ktL_law_11 15 rfl) rfl rfl (b := 1346) rfl) ?_
  refine gc_p (p_aload_n 4 (dk_at ktL_law_11 16 rfl) rfl rfl (b := 1347) rfl) ?_
  refine gc_p (p_iload 0 (dk_at ktL_law_11 17 rfl) rfl (b := 1349) rfl) ?_
  refine gc_p (p_iconst (v := nI 1) (dk_at ktL_law_11 18 rfl) (by decide) (b := 1350) rfl) ?_
  refine gc_p (p_iadd (v := nI (4 * q + 1)) (dk_at ktL_law_11 19 rfl) (nI_add (4 * q) 1) (b := 1351) rfl) ?_
  refine g_sld (j := 4 * q + 1) (dk_at ktL_law_11 20 rfl) rfl ⟨by omega, by omega⟩ (b := 1352) rfl ?_
  refine gc_p (p_aload_n 1 (dk_at ktL_law_11 21 rfl) rfl rfl (b := 1353) rfl) ?_
  refine g_callW (As := [.ref 0, .int (xs (4 * q + 1)), .ref 113]) (rest := []) (s_L_verify ((xs (4 * q + 1))) (s_X6_verify hB hD hI ((xs (4 * q + 1)))) (by decide) hB.s0 (by decide) hso cIn_2) cwW_L_237 (dk_at ktL_law_11 22 rfl) rfl rfl (Nat.le_of_ble_eq_true rfl) ⟨by decide, by decide, by omega, by omega⟩ (b := 1356) rfl (fun r1 I1 J1 hq1 => ?_)
  obtain ⟨k, rfl, hk⟩ := hq1
  obtain ⟨hkc, hN, hF, hj⟩ := WQ.std (T0 := T0) (e := 0) (σ := σ) (σ' := (σ)) hk (RelN.of hD (Nat.le_refl _)) (fun _ => rfl)
  refine gc_p (p_istore (ls' := [(5, .int k), (4, .int (nI (4 * q))), (3, .ref 113), (2, .ref 104), (1, .ref 0), (0, .ref 1300)]) (dk_at ktL_law_11 23 rfl) (by decide) rfl (b := 1358) rfl) ?_
  refine gc_p (p_aload_n 3 (dk_at ktL_law_11 24 rfl) rfl rfl (b := 1359) rfl) ?_
  refine gc_p (p_aload_n 5 (dk_at ktL_law_11 25 rfl) rfl rfl (b := 1360) rfl) ?_
  refine gc_p (p_iload 1 (dk_at ktL_law_11 26 rfl) rfl (b := 1362) rfl) ?_
  refine gc_p (p_iconst (v := nI 1) (dk_at ktL_law_11 27 rfl) (by decide) (b := 1363) rfl) ?_
  refine gc_p (p_iadd (v := nI (4 * q + 1)) (dk_at ktL_law_11 28 rfl) (nI_add (4 * q) 1) (b := 1364) rfl) ?_
  refine g_sld (j := 4 * q + 1) (dk_at ktL_law_11 29 rfl) rfl ⟨by omega, by omega⟩ (b := 1365) rfl ?_
  have hW1 : RelW (I1 (104 + 1)) σ := by rw [hF (104 + 1) (by omega)]; exact hW
  refine g_callV (ci := 10) (As' := [.int (xs (4 * q + 1))]) (rest := []) (s_X7_verify hm hW1 hI (xs (4 * q + 1))) cw_L_239 qi_X7_verify qv_X7_verify rfl (by decide) hm.s0 (dk_at ktL_law_11 30 rfl) rfl rfl (Nat.le_of_ble_eq_true rfl) ⟨by decide, by decide, by omega, by omega⟩ (b := 1368) rfl (fun r2 I2 J2 hq2 => ?_)
  obtain ⟨w, rfl, ha, h6, rfl, hW2, hG⟩ := hq2
  refine gc_p (p_istore (ls' := [(6, .int w), (5, .int k), (4, .int (nI (4 * q))), (3, .ref 113), (2, .ref 104), (1, .ref 0), (0, .ref 1300)]) (dk_at ktL_law_11 31 rfl) (by decide) rfl (b := 1370) rfl) ?_
  refine gc_p (p_aload_n 4 (dk_at ktL_law_11 32 rfl) rfl rfl (b := 1371) rfl) ?_
  refine g_callV (ci := 10) (As' := []) (rest := []) (s_X7_thrown hm) cw_L_148 qi_X7_thrown qv_X7_thrown rfl (by decide) hm.s0 (dk_at ktL_law_11 33 rfl) rfl rfl (Nat.le_of_ble_eq_true rfl) ⟨by decide, by decide, by omega, by omega⟩ (b := 1374) rfl (fun r3 I3 J3 hq3 => ?_)
  obtain ⟨w3, rfl, rfl, rfl, rfl⟩ := hq3
  refine gc_p (p_iload 1 (dk_at ktL_law_11 34 rfl) rfl (b := 1376) rfl) ?_
  refine g_icmp_eq (dk_at ktL_law_11 35 rfl) (b := 1381) (by decide) (b2 := 1379) rfl (fun _ => ?_) (fun c => absurd (h6.trans hkc.symm) c)
  refine gc_p (p_iload 1 (dk_at ktL_law_11 38 rfl) rfl (b := 1383) rfl) ?_
  refine g_if_ne (dk_at ktL_law_11 39 rfl) (b := 1398) (by decide) (b2 := 1386) rfl (fun c => ?_) (fun c => ?_)
  · refine gc_p (p_goto (b := 2878) (dk_at ktL_law_11 49 rfl) (by decide)) ?_
    refine gc_sub [2, 3, 4, 5, 6] (ls' := [(4, .int (nI (4 * q))), (3, .ref 113), (2, .ref 104), (1, .ref 0), (0, .ref 1300)]) rfl ?_
    exact gc_weak (by omega) (by omega) (hloop _ _ _ _ _ _ (h.st (by omega) (hN.le (by omega)) hF hW2 hG hI))
  · have h0 := hkc.symm.trans c
    have ha := ha h0
    have hj := hj h0
    refine gc_p (p_aload_n 3 (dk_at ktL_law_11 40 rfl) rfl rfl (b := 1387) rfl) ?_
    refine gc_p (p_iconst (v := nI 0) (dk_at ktL_law_11 41 rfl) (by decide) (b := 1388) rfl) ?_
    refine g_jald (id := 113) (len := 1) (j := 0) (by decide) hso (dk_at ktL_law_11 42 rfl) rfl ⟨by decide, by decide⟩ (v := lI (a_ver σ (tn (xs (4 * q + 1))))) hj (b := 1389) rfl ?_
    refine gc_p (p_iload 0 (dk_at ktL_law_11 43 rfl) rfl (b := 1391) rfl) ?_
    refine gc_p (p_i2l (v := lI w) (dk_at ktL_law_11 44 rfl) rfl (b := 1392) rfl) ?_
    refine gc_p (p_lcmp (dk_at ktL_law_11 45 rfl) (b := 1393) rfl) ?_
    refine g_if_eq (dk_at ktL_law_11 46 rfl) (b := 1398) (by decide) (b2 := 1396) rfl (fun _ => ?_) (fun c => absurd ((lg_cmp_eq _ _).mpr (congrArg lI ha)) c)
    refine gc_p (p_goto (b := 2878) (dk_at ktL_law_11 49 rfl) (by decide)) ?_
    refine gc_sub [2, 3, 4, 5, 6] (ls' := [(4, .int (nI (4 * q))), (3, .ref 113), (2, .ref 104), (1, .ref 0), (0, .ref 1300)]) rfl ?_
    exact gc_weak (by omega) (by omega) (hloop _ _ _ _ _ _ (h.st (by omega) (hN.le (by omega)) hF hW2 hG hI))
set_option maxRecDepth 8000 in
set_option maxHeartbeats 2000000 in
theorem law_c29 {L q B kc ks : Nat} {xs : Nat → Int32} {sh : mS} {G : mG} {I : mI} {J : mJ} {σ : sT} {T : tT} {nn : Nat} {sn : Nat → Option sT} (hq : 4 * q + 4 ≤ L) (hL : L ≤ 2048) (hB : BootH 114 sh G 0 1 7 26 45 64 65 84 103) (hm : ModG 114 sh G 104) (hso : sh 113 = .inr (3, 1)) (h : LSt B I σ T nn sn) (hBB : B + 1000 < 1000000) (hloop : ∀ (I2 : mI) (J2 : mJ) (σ2 : sT) (T2 : tT) (nn2 : Nat) (sn2 : Nat → Option sT), LSt (B + 6) I2 σ2 T2 nn2 sn2 → LG L xs sh G kc ks 2878 (lawLs q) [] I2 J2) : LG L xs sh G (kc + 3) (ks + 18) 1401 (lawLs q) [] I J := by
  obtain ⟨hI, hW, ⟨T0, N0, hTB, hD⟩, hTR, hTC, hSR, hSD, hSI, hle⟩ := id h
  refine gc_p (p_aload_n 3 (dk_at ktL_law_11 50 rfl) rfl rfl (b := 1402) rfl) ?_
  refine gc_p (p_aload_n 4 (dk_at ktL_law_11 51 rfl) rfl rfl (b := 1403) rfl) ?_
  refine gc_p (p_iload 0 (dk_at ktL_law_11 52 rfl) rfl (b := 1405) rfl) ?_
  refine gc_p (p_iconst (v := nI 1) (dk_at ktL_law_11 53 rfl) (by decide) (b := 1406) rfl) ?_
  refine gc_p (p_iadd (v := nI (4 * q + 1)) (dk_at ktL_law_11 54 rfl) (nI_add (4 * q) 1) (b := 1407) rfl) ?_
  refine g_sld (j := 4 * q + 1) (dk_at ktL_law_11 55 rfl) rfl ⟨by omega, by omega⟩ (b := 1408) rfl ?_
  refine gc_p (p_aload_n 1 (dk_at ktL_law_11 56 rfl) rfl rfl (b := 1409) rfl) ?_
  refine g_callW (As := [.ref 0, .int (xs (4 * q + 1)), .ref 113]) (rest := []) (s_L_differentWords ((xs (4 * q + 1))) (s_X6_differentWords hB hD hI ((xs (4 * q + 1)))) (by decide) hB.s0 (by decide) hso cIn_2) cwW_L_240 (dk_at ktL_law_11 57 rfl) rfl rfl (Nat.le_of_ble_eq_true rfl) ⟨by decide, by decide, by omega, by omega⟩ (b := 1412) rfl (fun r1 I1 J1 hq1 => ?_)
  obtain ⟨k, rfl, hk⟩ := hq1
  obtain ⟨hkc, hN, hF, hj⟩ := WQ.std (T0 := T0) (e := 0) (σ := σ) (σ' := (σ)) hk (RelN.of hD (Nat.le_refl _)) (fun _ => rfl)
  refine gc_p (p_istore (ls' := [(5, .int k), (4, .int (nI (4 * q))), (3, .ref 113), (2, .ref 104), (1, .ref 0), (0, .ref 1300)]) (dk_at ktL_law_11 58 rfl) (by decide) rfl (b := 1414) rfl) ?_
  refine gc_p (p_aload_n 3 (dk_at ktL_law_11 59 rfl) rfl rfl (b := 1415) rfl) ?_
  refine gc_p (p_aload_n 5 (dk_at ktL_law_12 0 rfl) rfl rfl (b := 1416) rfl) ?_
  refine gc_p (p_iload 1 (dk_at ktL_law_12 1 rfl) rfl (b := 1418) rfl) ?_
  refine gc_p (p_iconst (v := nI 1) (dk_at ktL_law_12 2 rfl) (by decide) (b := 1419) rfl) ?_
  refine gc_p (p_iadd (v := nI (4 * q + 1)) (dk_at ktL_law_12 3 rfl) (nI_add (4 * q) 1) (b := 1420) rfl) ?_
  refine g_sld (j := 4 * q + 1) (dk_at ktL_law_12 4 rfl) rfl ⟨by omega, by omega⟩ (b := 1421) rfl ?_
  have hW1 : RelW (I1 (104 + 1)) σ := by rw [hF (104 + 1) (by omega)]; exact hW
  refine g_callV (ci := 10) (As' := [.int (xs (4 * q + 1))]) (rest := []) (s_X7_differentWords hm hW1 hI (xs (4 * q + 1))) cw_L_242 qi_X7_differentWords qv_X7_differentWords rfl (by decide) hm.s0 (dk_at ktL_law_12 5 rfl) rfl rfl (Nat.le_of_ble_eq_true rfl) ⟨by decide, by decide, by omega, by omega⟩ (b := 1424) rfl (fun r2 I2 J2 hq2 => ?_)
  obtain ⟨w, rfl, ha, h6, rfl, hW2, hG⟩ := hq2
  refine gc_p (p_istore (ls' := [(6, .int w), (5, .int k), (4, .int (nI (4 * q))), (3, .ref 113), (2, .ref 104), (1, .ref 0), (0, .ref 1300)]) (dk_at ktL_law_12 6 rfl) (by decide) rfl (b := 1426) rfl) ?_
  refine gc_p (p_aload_n 4 (dk_at ktL_law_12 7 rfl) rfl rfl (b := 1427) rfl) ?_
  refine g_callV (ci := 10) (As' := []) (rest := []) (s_X7_thrown hm) cw_L_148 qi_X7_thrown qv_X7_thrown rfl (by decide) hm.s0 (dk_at ktL_law_12 8 rfl) rfl rfl (Nat.le_of_ble_eq_true rfl) ⟨by decide, by decide, by omega, by omega⟩ (b := 1430) rfl (fun r3 I3 J3 hq3 => ?_)
  obtain ⟨w3, rfl, rfl, rfl, rfl⟩ := hq3
  refine gc_p (p_iload 1 (dk_at ktL_law_12 9 rfl) rfl (b := 1432) rfl) ?_
  refine g_icmp_eq (dk_at ktL_law_12 10 rfl) (b := 1437) (by decide) (b2 := 1435) rfl (fun _ => ?_) (fun c => absurd (h6.trans hkc.symm) c)
  refine gc_p (p_iload 1 (dk_at ktL_law_12 13 rfl) rfl (b := 1439) rfl) ?_
  refine g_if_ne (dk_at ktL_law_12 14 rfl) (b := 1454) (by decide) (b2 := 1442) rfl (fun c => ?_) (fun c => ?_)
  · refine gc_p (p_goto (b := 2878) (dk_at ktL_law_12 24 rfl) (by decide)) ?_
    refine gc_sub [2, 3, 4, 5, 6] (ls' := [(4, .int (nI (4 * q))), (3, .ref 113), (2, .ref 104), (1, .ref 0), (0, .ref 1300)]) rfl ?_
    exact gc_weak (by omega) (by omega) (hloop _ _ _ _ _ _ (h.st (by omega) (hN.le (by omega)) hF hW2 hG hI))
  · have h0 := hkc.symm.trans c
    have ha := ha h0
    have hj := hj h0
    refine gc_p (p_aload_n 3 (dk_at ktL_law_12 15 rfl) rfl rfl (b := 1443) rfl) ?_
    refine gc_p (p_iconst (v := nI 0) (dk_at ktL_law_12 16 rfl) (by decide) (b := 1444) rfl) ?_
    refine g_jald (id := 113) (len := 1) (j := 0) (by decide) hso (dk_at ktL_law_12 17 rfl) rfl ⟨by decide, by decide⟩ (v := lI (a_dw σ (tn (xs (4 * q + 1))))) hj (b := 1445) rfl ?_
    refine gc_p (p_iload 0 (dk_at ktL_law_12 18 rfl) rfl (b := 1447) rfl) ?_
    refine gc_p (p_i2l (v := lI w) (dk_at ktL_law_12 19 rfl) rfl (b := 1448) rfl) ?_
    refine gc_p (p_lcmp (dk_at ktL_law_12 20 rfl) (b := 1449) rfl) ?_
    refine g_if_eq (dk_at ktL_law_12 21 rfl) (b := 1454) (by decide) (b2 := 1452) rfl (fun _ => ?_) (fun c => absurd ((lg_cmp_eq _ _).mpr (congrArg lI ha)) c)
    refine gc_p (p_goto (b := 2878) (dk_at ktL_law_12 24 rfl) (by decide)) ?_
    refine gc_sub [2, 3, 4, 5, 6] (ls' := [(4, .int (nI (4 * q))), (3, .ref 113), (2, .ref 104), (1, .ref 0), (0, .ref 1300)]) rfl ?_
    exact gc_weak (by omega) (by omega) (hloop _ _ _ _ _ _ (h.st (by omega) (hN.le (by omega)) hF hW2 hG hI))
set_option maxRecDepth 8000 in
set_option maxHeartbeats 2000000 in
theorem law_c30 {L q B kc ks : Nat} {xs : Nat → Int32} {sh : mS} {G : mG} {I : mI} {J : mJ} {σ : sT} {T : tT} {nn : Nat} {sn : Nat → Option sT} (hq : 4 * q + 4 ≤ L) (hL : L ≤ 2048) (hB : BootH 114 sh G 0 1 7 26 45 64 65 84 103) (hm : ModG 114 sh G 104) (hso : sh 113 = .inr (3, 1)) (h : LSt B I σ T nn sn) (hBB : B + 1000 < 1000000) (hloop : ∀ (I2 : mI) (J2 : mJ) (σ2 : sT) (T2 : tT) (nn2 : Nat) (sn2 : Nat → Option sT), LSt (B + 6) I2 σ2 T2 nn2 sn2 → LG L xs sh G kc ks 2878 (lawLs q) [] I2 J2) : LG L xs sh G (kc + 3) (ks + 18) 1457 (lawLs q) [] I J := by
  obtain ⟨hI, hW, ⟨T0, N0, hTB, hD⟩, hTR, hTC, hSR, hSD, hSI, hle⟩ := id h
  refine gc_p (p_aload_n 3 (dk_at ktL_law_12 25 rfl) rfl rfl (b := 1458) rfl) ?_
  refine g_callV (ci := 9) (As' := []) (rest := []) (s_X6_differences hB hD hI ) cw_L_243 qi_X6_differences qv_X6_differences rfl (by decide) hB.s0 (dk_at ktL_law_12 26 rfl) rfl rfl (Nat.le_of_ble_eq_true rfl) ⟨by decide, by decide, by omega, by omega⟩ (b := 1461) rfl (fun r1 I1 J1 hq1 => ?_)
  obtain ⟨v, rfl, rfl, rfl, hN, hF⟩ := hq1
  refine gc_p (p_aload_n 2 (dk_at ktL_law_12 27 rfl) rfl rfl (b := 1462) rfl) ?_
  have hW1 : RelW (I1 (104 + 1)) σ := by rw [hF (104 + 1) (by omega)]; exact hW
  refine g_callV (ci := 10) (As' := []) (rest := [_]) (s_X7_differences hm hW1 hI ) cw_L_246 qi_X7_differences qv_X7_differences rfl (by decide) hm.s0 (dk_at ktL_law_12 28 rfl) rfl rfl (Nat.le_of_ble_eq_true rfl) ⟨by decide, by decide, by omega, by omega⟩ (b := 1465) rfl (fun r2 I2 J2 hq2 => ?_)
  obtain ⟨w, rfl, ha, h6, rfl, hW2, hG⟩ := hq2
  have ha := ha rfl
  refine g_icmp_eq (dk_at ktL_law_12 29 rfl) (b := 2878) (by decide) (b2 := 1468) rfl (fun _ => ?_) (fun c => absurd ha c)
  exact gc_weak (by omega) (by omega) (hloop _ _ _ _ _ _ (h.st (by omega) (hN.le (by omega)) hF hW2 hG hI))
set_option maxRecDepth 8000 in
set_option maxHeartbeats 2000000 in
theorem law_c31 {L q B kc ks : Nat} {xs : Nat → Int32} {sh : mS} {G : mG} {I : mI} {J : mJ} {σ : sT} {T : tT} {nn : Nat} {sn : Nat → Option sT} (hq : 4 * q + 4 ≤ L) (hL : L ≤ 2048) (hB : BootH 114 sh G 0 1 7 26 45 64 65 84 103) (hm : ModG 114 sh G 104) (hso : sh 113 = .inr (3, 1)) (h : LSt B I σ T nn sn) (hBB : B + 1000 < 1000000) (hloop : ∀ (I2 : mI) (J2 : mJ) (σ2 : sT) (T2 : tT) (nn2 : Nat) (sn2 : Nat → Option sT), LSt (B + 6) I2 σ2 T2 nn2 sn2 → LG L xs sh G kc ks 2878 (lawLs q) [] I2 J2) : LG L xs sh G (kc + 3) (ks + 18) 1470 (lawLs q) [] I J := by
  obtain ⟨hI, hW, ⟨T0, N0, hTB, hD⟩, hTR, hTC, hSR, hSD, hSI, hle⟩ := id h
  refine gc_p (p_aload_n 3 (dk_at ktL_law_12 32 rfl) rfl rfl (b := 1471) rfl) ?_
  refine gc_p (p_aload_n 4 (dk_at ktL_law_12 33 rfl) rfl rfl (b := 1472) rfl) ?_
  refine gc_p (p_iload 0 (dk_at ktL_law_12 34 rfl) rfl (b := 1474) rfl) ?_
  refine gc_p (p_iconst (v := nI 1) (dk_at ktL_law_12 35 rfl) (by decide) (b := 1475) rfl) ?_
  refine gc_p (p_iadd (v := nI (4 * q + 1)) (dk_at ktL_law_12 36 rfl) (nI_add (4 * q) 1) (b := 1476) rfl) ?_
  refine g_sld (j := 4 * q + 1) (dk_at ktL_law_12 37 rfl) rfl ⟨by omega, by omega⟩ (b := 1477) rfl ?_
  refine gc_p (p_aload_n 1 (dk_at ktL_law_12 38 rfl) rfl rfl (b := 1478) rfl) ?_
  refine g_callW (As := [.ref 0, .int (xs (4 * q + 1)), .ref 113]) (rest := []) (s_L_zeroBits ((xs (4 * q + 1))) (s_X6_zeroBits hB hD hI ((xs (4 * q + 1)))) (by decide) hB.s0 (by decide) hso cIn_2) cwW_L_247 (dk_at ktL_law_12 39 rfl) rfl rfl (Nat.le_of_ble_eq_true rfl) ⟨by decide, by decide, by omega, by omega⟩ (b := 1481) rfl (fun r1 I1 J1 hq1 => ?_)
  obtain ⟨k, rfl, hk⟩ := hq1
  obtain ⟨hkc, hN, hF, hj⟩ := WQ.std (T0 := T0) (e := 0) (σ := σ) (σ' := (σ)) hk (RelN.of hD (Nat.le_refl _)) (fun _ => rfl)
  refine gc_p (p_istore (ls' := [(5, .int k), (4, .int (nI (4 * q))), (3, .ref 113), (2, .ref 104), (1, .ref 0), (0, .ref 1300)]) (dk_at ktL_law_12 40 rfl) (by decide) rfl (b := 1483) rfl) ?_
  refine gc_p (p_aload_n 3 (dk_at ktL_law_12 41 rfl) rfl rfl (b := 1484) rfl) ?_
  refine gc_p (p_aload_n 5 (dk_at ktL_law_12 42 rfl) rfl rfl (b := 1485) rfl) ?_
  refine gc_p (p_iload 1 (dk_at ktL_law_12 43 rfl) rfl (b := 1487) rfl) ?_
  refine gc_p (p_iconst (v := nI 1) (dk_at ktL_law_12 44 rfl) (by decide) (b := 1488) rfl) ?_
  refine gc_p (p_iadd (v := nI (4 * q + 1)) (dk_at ktL_law_12 45 rfl) (nI_add (4 * q) 1) (b := 1489) rfl) ?_
  refine g_sld (j := 4 * q + 1) (dk_at ktL_law_12 46 rfl) rfl ⟨by omega, by omega⟩ (b := 1490) rfl ?_
  have hW1 : RelW (I1 (104 + 1)) σ := by rw [hF (104 + 1) (by omega)]; exact hW
  refine g_callV (ci := 10) (As' := [.int (xs (4 * q + 1))]) (rest := []) (s_X7_zeroBits hm hW1 hI (xs (4 * q + 1))) cw_L_249 qi_X7_zeroBits qv_X7_zeroBits rfl (by decide) hm.s0 (dk_at ktL_law_12 47 rfl) rfl rfl (Nat.le_of_ble_eq_true rfl) ⟨by decide, by decide, by omega, by omega⟩ (b := 1493) rfl (fun r2 I2 J2 hq2 => ?_)
  obtain ⟨w, rfl, ha, h6, rfl, hW2, hG⟩ := hq2
  refine gc_p (p_istore (ls' := [(6, .int w), (5, .int k), (4, .int (nI (4 * q))), (3, .ref 113), (2, .ref 104), (1, .ref 0), (0, .ref 1300)]) (dk_at ktL_law_12 48 rfl) (by decide) rfl (b := 1495) rfl) ?_
  refine gc_p (p_aload_n 4 (dk_at ktL_law_12 49 rfl) rfl rfl (b := 1496) rfl) ?_
  refine g_callV (ci := 10) (As' := []) (rest := []) (s_X7_thrown hm) cw_L_148 qi_X7_thrown qv_X7_thrown rfl (by decide) hm.s0 (dk_at ktL_law_12 50 rfl) rfl rfl (Nat.le_of_ble_eq_true rfl) ⟨by decide, by decide, by omega, by omega⟩ (b := 1499) rfl (fun r3 I3 J3 hq3 => ?_)
  obtain ⟨w3, rfl, rfl, rfl, rfl⟩ := hq3
  refine gc_p (p_iload 1 (dk_at ktL_law_12 51 rfl) rfl (b := 1501) rfl) ?_
  refine g_icmp_eq (dk_at ktL_law_12 52 rfl) (b := 1506) (by decide) (b2 := 1504) rfl (fun _ => ?_) (fun c => absurd (h6.trans hkc.symm) c)
  refine gc_p (p_iload 1 (dk_at ktL_law_12 55 rfl) rfl (b := 1508) rfl) ?_
  refine g_if_ne (dk_at ktL_law_12 56 rfl) (b := 1523) (by decide) (b2 := 1511) rfl (fun c => ?_) (fun c => ?_)
  · refine gc_p (p_goto (b := 2878) (dk_at ktL_law_13 6 rfl) (by decide)) ?_
    refine gc_sub [2, 3, 4, 5, 6] (ls' := [(4, .int (nI (4 * q))), (3, .ref 113), (2, .ref 104), (1, .ref 0), (0, .ref 1300)]) rfl ?_
    exact gc_weak (by omega) (by omega) (hloop _ _ _ _ _ _ (h.st (by omega) (hN.le (by omega)) hF hW2 hG hI))
  · have h0 := hkc.symm.trans c
    have ha := ha h0
    have hj := hj h0
    refine gc_p (p_aload_n 3 (dk_at ktL_law_12 57 rfl) rfl rfl (b := 1512) rfl) ?_
    refine gc_p (p_iconst (v := nI 0) (dk_at ktL_law_12 58 rfl) (by decide) (b := 1513) rfl) ?_
    refine g_jald (id := 113) (len := 1) (j := 0) (by decide) hso (dk_at ktL_law_12 59 rfl) rfl ⟨by decide, by decide⟩ (v := lI (a_zb σ (tn (xs (4 * q + 1))))) hj (b := 1514) rfl ?_
    refine gc_p (p_iload 0 (dk_at ktL_law_13 0 rfl) rfl (b := 1516) rfl) ?_
    refine gc_p (p_i2l (v := lI w) (dk_at ktL_law_13 1 rfl) rfl (b := 1517) rfl) ?_
    refine gc_p (p_lcmp (dk_at ktL_law_13 2 rfl) (b := 1518) rfl) ?_
    refine g_if_eq (dk_at ktL_law_13 3 rfl) (b := 1523) (by decide) (b2 := 1521) rfl (fun _ => ?_) (fun c => absurd ((lg_cmp_eq _ _).mpr (congrArg lI ha)) c)
    refine gc_p (p_goto (b := 2878) (dk_at ktL_law_13 6 rfl) (by decide)) ?_
    refine gc_sub [2, 3, 4, 5, 6] (ls' := [(4, .int (nI (4 * q))), (3, .ref 113), (2, .ref 104), (1, .ref 0), (0, .ref 1300)]) rfl ?_
    exact gc_weak (by omega) (by omega) (hloop _ _ _ _ _ _ (h.st (by omega) (hN.le (by omega)) hF hW2 hG hI))

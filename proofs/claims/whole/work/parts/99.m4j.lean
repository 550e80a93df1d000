/-! THE LAW: kinds of calls -/
set_option maxRecDepth 8000 in
set_option maxHeartbeats 2000000 in
theorem law_c32 {L q B kc ks : Nat} {xs : Nat → Int32} {sh : mS} {G : mG} {I : mI} {J : mJ} {σ : sT} {T : tT} {nn : Nat} {sn : Nat → Option sT} (hq : 4 * q + 4 ≤ L) (hL : L ≤ 2048) (hB : BootH 114 sh G 0 1 7 26 45 64 65 84 103) (hm : ModG 114 sh G 104) (hso : sh 113 = .inr (3, 1)) (h : LSt B I σ T nn sn) (hBB : B + 1000 < 1000000) (hloop : ∀ (I2 : mI) (J2 : mJ) (σ2 : sT) (T2 : tT) (nn2 : Nat) (sn2 : Nat → Option sT), LSt (B + 6) I2 σ2 T2 nn2 sn2 → LG L xs sh G kc ks 2878 (lawLs q) [] I2 J2) : LG L xs sh G (kc + 3) (ks + 18) 1526 (lawLs q) [] I J := by
  obtain ⟨hI, hW, ⟨T0, N0, hTB, hD⟩, hTR, hTC, hSR, hSD, hSI, hle⟩ := id h
  refine gc_p (p_aload_n 3 (dk_at ktL_law_13 7 rfl) rfl rfl (b := 1527) rfl) ?_
  refine gc_p (p_aload_n 4 (dk_at ktL_law_13 8 rfl) rfl rfl (b := 1528) rfl) ?_
  refine gc_p (p_iload 0 (dk_at ktL_law_13 9 rfl) rfl (b := 1530) rfl) ?_
  refine gc_p (p_iconst (v := nI 1) (dk_at ktL_law_13 10 rfl) (by decide) (b := 1531) rfl) ?_
  refine gc_p (p_iadd (v := nI (4 * q + 1)) (dk_at ktL_law_13 11 rfl) (nI_add (4 * q) 1) (b := 1532) rfl) ?_
  refine g_sld (j := 4 * q + 1) (dk_at ktL_law_13 12 rfl) rfl ⟨by omega, by omega⟩ (b := 1533) rfl ?_
  refine gc_p (p_aload_n 4 (dk_at ktL_law_13 13 rfl) rfl rfl (b := 1534) rfl) ?_
  refine gc_p (p_iload 0 (dk_at ktL_law_13 14 rfl) rfl (b := 1536) rfl) ?_
  refine gc_p (p_iconst (v := nI 2) (dk_at ktL_law_13 15 rfl) (by decide) (b := 1537) rfl) ?_
  refine gc_p (p_iadd (v := nI (4 * q + 2)) (dk_at ktL_law_13 16 rfl) (nI_add (4 * q) 2) (b := 1538) rfl) ?_
  refine g_sld (j := 4 * q + 2) (dk_at ktL_law_13 17 rfl) rfl ⟨by omega, by omega⟩ (b := 1539) rfl ?_
  refine gc_p (p_aload_n 4 (dk_at ktL_law_13 18 rfl) rfl rfl (b := 1540) rfl) ?_
  refine gc_p (p_iload 0 (dk_at ktL_law_13 19 rfl) rfl (b := 1542) rfl) ?_
  refine gc_p (p_iconst (v := nI 3) (dk_at ktL_law_13 20 rfl) (by decide) (b := 1543) rfl) ?_
  refine gc_p (p_iadd (v := nI (4 * q + 3)) (dk_at ktL_law_13 21 rfl) (nI_add (4 * q) 3) (b := 1544) rfl) ?_
  refine g_sld (j := 4 * q + 3) (dk_at ktL_law_13 22 rfl) rfl ⟨by omega, by omega⟩ (b := 1545) rfl ?_
  refine gc_p (p_aload_n 1 (dk_at ktL_law_13 23 rfl) rfl rfl (b := 1546) rfl) ?_
  refine g_callW (As := [.ref 0, .int (xs (4 * q + 1)), .int (xs (4 * q + 2)), .int (xs (4 * q + 3)), .ref 113]) (rest := []) (s_L_damage ((xs (4 * q + 1))) ((xs (4 * q + 2))) ((xs (4 * q + 3))) (s_X6_damage hB hD hI ((xs (4 * q + 1))) ((xs (4 * q + 2))) ((xs (4 * q + 3)))) (by decide) hB.s0 (by decide) hso) cwW_L_250 (dk_at ktL_law_13 24 rfl) rfl rfl (Nat.le_of_ble_eq_true rfl) ⟨by decide, by decide, by omega, by omega⟩ (b := 1549) rfl (fun r1 I1 J1 hq1 => ?_)
  obtain ⟨k, rfl, hk⟩ := hq1
  obtain ⟨hkc, hN, hF, hj⟩ := WQ.std (T0 := T0) (e := 0) (σ := σ) (σ' := (t_dams σ (xs (4 * q + 1)) (xs (4 * q + 2)) (xs (4 * q + 3)))) hk (RelN.of hD (Nat.le_refl _)) (fun hc => if_neg hc)
  refine gc_p (p_istore (ls' := [(5, .int k), (4, .int (nI (4 * q))), (3, .ref 113), (2, .ref 104), (1, .ref 0), (0, .ref 1300)]) (dk_at ktL_law_13 25 rfl) (by decide) rfl (b := 1551) rfl) ?_
  refine gc_p (p_aload_n 3 (dk_at ktL_law_13 26 rfl) rfl rfl (b := 1552) rfl) ?_
  refine gc_p (p_aload_n 5 (dk_at ktL_law_13 27 rfl) rfl rfl (b := 1553) rfl) ?_
  refine gc_p (p_iload 1 (dk_at ktL_law_13 28 rfl) rfl (b := 1555) rfl) ?_
  refine gc_p (p_iconst (v := nI 1) (dk_at ktL_law_13 29 rfl) (by decide) (b := 1556) rfl) ?_
  refine gc_p (p_iadd (v := nI (4 * q + 1)) (dk_at ktL_law_13 30 rfl) (nI_add (4 * q) 1) (b := 1557) rfl) ?_
  refine g_sld (j := 4 * q + 1) (dk_at ktL_law_13 31 rfl) rfl ⟨by omega, by omega⟩ (b := 1558) rfl ?_
  refine gc_p (p_aload_n 5 (dk_at ktL_law_13 32 rfl) rfl rfl (b := 1559) rfl) ?_
  refine gc_p (p_iload 1 (dk_at ktL_law_13 33 rfl) rfl (b := 1561) rfl) ?_
  refine gc_p (p_iconst (v := nI 2) (dk_at ktL_law_13 34 rfl) (by decide) (b := 1562) rfl) ?_
  refine gc_p (p_iadd (v := nI (4 * q + 2)) (dk_at ktL_law_13 35 rfl) (nI_add (4 * q) 2) (b := 1563) rfl) ?_
  refine g_sld (j := 4 * q + 2) (dk_at ktL_law_13 36 rfl) rfl ⟨by omega, by omega⟩ (b := 1564) rfl ?_
  refine gc_p (p_aload_n 5 (dk_at ktL_law_13 37 rfl) rfl rfl (b := 1565) rfl) ?_
  refine gc_p (p_iload 1 (dk_at ktL_law_13 38 rfl) rfl (b := 1567) rfl) ?_
  refine gc_p (p_iconst (v := nI 3) (dk_at ktL_law_13 39 rfl) (by decide) (b := 1568) rfl) ?_
  refine gc_p (p_iadd (v := nI (4 * q + 3)) (dk_at ktL_law_13 40 rfl) (nI_add (4 * q) 3) (b := 1569) rfl) ?_
  refine g_sld (j := 4 * q + 3) (dk_at ktL_law_13 41 rfl) rfl ⟨by omega, by omega⟩ (b := 1570) rfl ?_
  have hW1 : RelW (I1 (104 + 1)) σ := by rw [hF (104 + 1) (by omega)]; exact hW
  refine g_callV (ci := 10) (As' := [.int (xs (4 * q + 1)), .int (xs (4 * q + 2)), .int (xs (4 * q + 3))]) (rest := []) (s_X7_damage hm hW1 hI (xs (4 * q + 1)) (xs (4 * q + 2)) (xs (4 * q + 3))) cw_L_253 qi_X7_damage qv_X7_damage rfl (by decide) hm.s0 (dk_at ktL_law_13 42 rfl) rfl rfl (Nat.le_of_ble_eq_true rfl) ⟨by decide, by decide, by omega, by omega⟩ (b := 1573) rfl (fun r2 I2 J2 hq2 => ?_)
  obtain ⟨w, rfl, ha, h6, rfl, hW2, hG⟩ := hq2
  refine gc_p (p_istore (ls' := [(6, .int w), (5, .int k), (4, .int (nI (4 * q))), (3, .ref 113), (2, .ref 104), (1, .ref 0), (0, .ref 1300)]) (dk_at ktL_law_13 43 rfl) (by decide) rfl (b := 1575) rfl) ?_
  refine gc_p (p_aload_n 4 (dk_at ktL_law_13 44 rfl) rfl rfl (b := 1576) rfl) ?_
  refine g_callV (ci := 10) (As' := []) (rest := []) (s_X7_thrown hm) cw_L_148 qi_X7_thrown qv_X7_thrown rfl (by decide) hm.s0 (dk_at ktL_law_13 45 rfl) rfl rfl (Nat.le_of_ble_eq_true rfl) ⟨by decide, by decide, by omega, by omega⟩ (b := 1579) rfl (fun r3 I3 J3 hq3 => ?_)
  obtain ⟨w3, rfl, rfl, rfl, rfl⟩ := hq3
  refine gc_p (p_iload 1 (dk_at ktL_law_13 46 rfl) rfl (b := 1581) rfl) ?_
  refine g_icmp_eq (dk_at ktL_law_13 47 rfl) (b := 1586) (by decide) (b2 := 1584) rfl (fun _ => ?_) (fun c => absurd (h6.trans hkc.symm) c)
  refine gc_p (p_iload 1 (dk_at ktL_law_13 50 rfl) rfl (b := 1588) rfl) ?_
  refine g_if_ne (dk_at ktL_law_13 51 rfl) (b := 1603) (by decide) (b2 := 1591) rfl (fun c => ?_) (fun c => ?_)
  · refine gc_p (p_goto (b := 2878) (dk_at ktL_law_14 1 rfl) (by decide)) ?_
    refine gc_sub [2, 3, 4, 5, 6] (ls' := [(4, .int (nI (4 * q))), (3, .ref 113), (2, .ref 104), (1, .ref 0), (0, .ref 1300)]) rfl ?_
    exact gc_weak (by omega) (by omega) (hloop _ _ _ _ _ _ (h.st (by omega) (hN.le (by omega)) hF hW2 hG hI.dms))
  · have h0 := hkc.symm.trans c
    have ha := ha h0
    have hj := hj h0
    refine gc_p (p_aload_n 3 (dk_at ktL_law_13 52 rfl) rfl rfl (b := 1592) rfl) ?_
    refine gc_p (p_iconst (v := nI 0) (dk_at ktL_law_13 53 rfl) (by decide) (b := 1593) rfl) ?_
    refine g_jald (id := 113) (len := 1) (j := 0) (by decide) hso (dk_at ktL_law_13 54 rfl) rfl ⟨by decide, by decide⟩ (v := lI (a_dam σ (83 + 64 * tn (xs (4 * q + 1)) + tn (xs (4 * q + 2))) (xs (4 * q + 3)))) hj (b := 1594) rfl ?_
    refine gc_p (p_iload 0 (dk_at ktL_law_13 55 rfl) rfl (b := 1596) rfl) ?_
    refine gc_p (p_i2l (v := lI w) (dk_at ktL_law_13 56 rfl) rfl (b := 1597) rfl) ?_
    refine gc_p (p_lcmp (dk_at ktL_law_13 57 rfl) (b := 1598) rfl) ?_
    refine g_if_eq (dk_at ktL_law_13 58 rfl) (b := 1603) (by decide) (b2 := 1601) rfl (fun _ => ?_) (fun c => absurd ((lg_cmp_eq _ _).mpr (congrArg lI ha)) c)
    refine gc_p (p_goto (b := 2878) (dk_at ktL_law_14 1 rfl) (by decide)) ?_
    refine gc_sub [2, 3, 4, 5, 6] (ls' := [(4, .int (nI (4 * q))), (3, .ref 113), (2, .ref 104), (1, .ref 0), (0, .ref 1300)]) rfl ?_
    exact gc_weak (by omega) (by omega) (hloop _ _ _ _ _ _ (h.st (by omega) (hN.le (by omega)) hF hW2 hG hI.dms))
set_option maxRecDepth 8000 in
set_option maxHeartbeats 2000000 in
theorem law_c33 {L q B kc ks : Nat} {xs : Nat → Int32} {sh : mS} {G : mG} {I : mI} {J : mJ} {σ : sT} {T : tT} {nn : Nat} {sn : Nat → Option sT} (hq : 4 * q + 4 ≤ L) (hL : L ≤ 2048) (hB : BootH 114 sh G 0 1 7 26 45 64 65 84 103) (hm : ModG 114 sh G 104) (hso : sh 113 = .inr (3, 1)) (h : LSt B I σ T nn sn) (hBB : B + 1000 < 1000000) (hloop : ∀ (I2 : mI) (J2 : mJ) (σ2 : sT) (T2 : tT) (nn2 : Nat) (sn2 : Nat → Option sT), LSt (B + 6) I2 σ2 T2 nn2 sn2 → LG L xs sh G kc ks 2878 (lawLs q) [] I2 J2) : LG L xs sh G (kc + 3) (ks + 18) 1606 (lawLs q) [] I J := by
  obtain ⟨hI, hW, ⟨T0, N0, hTB, hD⟩, hTR, hTC, hSR, hSD, hSI, hle⟩ := id h
  refine gc_p (p_aload_n 3 (dk_at ktL_law_14 2 rfl) rfl rfl (b := 1607) rfl) ?_
  refine gc_p (p_aload_n 4 (dk_at ktL_law_14 3 rfl) rfl rfl (b := 1608) rfl) ?_
  refine gc_p (p_iload 0 (dk_at ktL_law_14 4 rfl) rfl (b := 1610) rfl) ?_
  refine gc_p (p_iconst (v := nI 1) (dk_at ktL_law_14 5 rfl) (by decide) (b := 1611) rfl) ?_
  refine gc_p (p_iadd (v := nI (4 * q + 1)) (dk_at ktL_law_14 6 rfl) (nI_add (4 * q) 1) (b := 1612) rfl) ?_
  refine g_sld (j := 4 * q + 1) (dk_at ktL_law_14 7 rfl) rfl ⟨by omega, by omega⟩ (b := 1613) rfl ?_
  refine gc_p (p_aload_n 4 (dk_at ktL_law_14 8 rfl) rfl rfl (b := 1614) rfl) ?_
  refine gc_p (p_iload 0 (dk_at ktL_law_14 9 rfl) rfl (b := 1616) rfl) ?_
  refine gc_p (p_iconst (v := nI 2) (dk_at ktL_law_14 10 rfl) (by decide) (b := 1617) rfl) ?_
  refine gc_p (p_iadd (v := nI (4 * q + 2)) (dk_at ktL_law_14 11 rfl) (nI_add (4 * q) 2) (b := 1618) rfl) ?_
  refine g_sld (j := 4 * q + 2) (dk_at ktL_law_14 12 rfl) rfl ⟨by omega, by omega⟩ (b := 1619) rfl ?_
  refine gc_p (p_aload_n 4 (dk_at ktL_law_14 13 rfl) rfl rfl (b := 1620) rfl) ?_
  refine gc_p (p_iload 0 (dk_at ktL_law_14 14 rfl) rfl (b := 1622) rfl) ?_
  refine gc_p (p_iconst (v := nI 3) (dk_at ktL_law_14 15 rfl) (by decide) (b := 1623) rfl) ?_
  refine gc_p (p_iadd (v := nI (4 * q + 3)) (dk_at ktL_law_14 16 rfl) (nI_add (4 * q) 3) (b := 1624) rfl) ?_
  refine g_sld (j := 4 * q + 3) (dk_at ktL_law_14 17 rfl) rfl ⟨by omega, by omega⟩ (b := 1625) rfl ?_
  refine gc_p (p_aload_n 1 (dk_at ktL_law_14 18 rfl) rfl rfl (b := 1626) rfl) ?_
  refine g_callW (As := [.ref 0, .int (xs (4 * q + 1)), .int (xs (4 * q + 2)), .int (xs (4 * q + 3)), .ref 113]) (rest := []) (s_L_damageJournal ((xs (4 * q + 1))) ((xs (4 * q + 2))) ((xs (4 * q + 3))) (s_X6_damageJournal hB hD hI ((xs (4 * q + 1))) ((xs (4 * q + 2))) ((xs (4 * q + 3)))) (by decide) hB.s0 (by decide) hso) cwW_L_254 (dk_at ktL_law_14 19 rfl) rfl rfl (Nat.le_of_ble_eq_true rfl) ⟨by decide, by decide, by omega, by omega⟩ (b := 1629) rfl (fun r1 I1 J1 hq1 => ?_)
  obtain ⟨k, rfl, hk⟩ := hq1
  obtain ⟨hkc, hN, hF, hj⟩ := WQ.std (T0 := T0) (e := 0) (σ := σ) (σ' := (t_damj σ (xs (4 * q + 1)) (xs (4 * q + 2)) (xs (4 * q + 3)))) hk (RelN.of hD (Nat.le_refl _)) (fun hc => if_neg hc)
  refine gc_p (p_istore (ls' := [(5, .int k), (4, .int (nI (4 * q))), (3, .ref 113), (2, .ref 104), (1, .ref 0), (0, .ref 1300)]) (dk_at ktL_law_14 20 rfl) (by decide) rfl (b := 1631) rfl) ?_
  refine gc_p (p_aload_n 3 (dk_at ktL_law_14 21 rfl) rfl rfl (b := 1632) rfl) ?_
  refine gc_p (p_aload_n 5 (dk_at ktL_law_14 22 rfl) rfl rfl (b := 1633) rfl) ?_
  refine gc_p (p_iload 1 (dk_at ktL_law_14 23 rfl) rfl (b := 1635) rfl) ?_
  refine gc_p (p_iconst (v := nI 1) (dk_at ktL_law_14 24 rfl) (by decide) (b := 1636) rfl) ?_
  refine gc_p (p_iadd (v := nI (4 * q + 1)) (dk_at ktL_law_14 25 rfl) (nI_add (4 * q) 1) (b := 1637) rfl) ?_
  refine g_sld (j := 4 * q + 1) (dk_at ktL_law_14 26 rfl) rfl ⟨by omega, by omega⟩ (b := 1638) rfl ?_
  refine gc_p (p_aload_n 5 (dk_at ktL_law_14 27 rfl) rfl rfl (b := 1639) rfl) ?_
  refine gc_p (p_iload 1 (dk_at ktL_law_14 28 rfl) rfl (b := 1641) rfl) ?_
  refine gc_p (p_iconst (v := nI 2) (dk_at ktL_law_14 29 rfl) (by decide) (b := 1642) rfl) ?_
  refine gc_p (p_iadd (v := nI (4 * q + 2)) (dk_at ktL_law_14 30 rfl) (nI_add (4 * q) 2) (b := 1643) rfl) ?_
  refine g_sld (j := 4 * q + 2) (dk_at ktL_law_14 31 rfl) rfl ⟨by omega, by omega⟩ (b := 1644) rfl ?_
  refine gc_p (p_aload_n 5 (dk_at ktL_law_14 32 rfl) rfl rfl (b := 1645) rfl) ?_
  refine gc_p (p_iload 1 (dk_at ktL_law_14 33 rfl) rfl (b := 1647) rfl) ?_
  refine gc_p (p_iconst (v := nI 3) (dk_at ktL_law_14 34 rfl) (by decide) (b := 1648) rfl) ?_
  refine gc_p (p_iadd (v := nI (4 * q + 3)) (dk_at ktL_law_14 35 rfl) (nI_add (4 * q) 3) (b := 1649) rfl) ?_
  refine g_sld (j := 4 * q + 3) (dk_at ktL_law_14 36 rfl) rfl ⟨by omega, by omega⟩ (b := 1650) rfl ?_
  have hW1 : RelW (I1 (104 + 1)) σ := by rw [hF (104 + 1) (by omega)]; exact hW
  refine g_callV (ci := 10) (As' := [.int (xs (4 * q + 1)), .int (xs (4 * q + 2)), .int (xs (4 * q + 3))]) (rest := []) (s_X7_damageJournal hm hW1 hI (xs (4 * q + 1)) (xs (4 * q + 2)) (xs (4 * q + 3))) cw_L_256 qi_X7_damageJournal qv_X7_damageJournal rfl (by decide) hm.s0 (dk_at ktL_law_14 37 rfl) rfl rfl (Nat.le_of_ble_eq_true rfl) ⟨by decide, by decide, by omega, by omega⟩ (b := 1653) rfl (fun r2 I2 J2 hq2 => ?_)
  obtain ⟨w, rfl, ha, h6, rfl, hW2, hG⟩ := hq2
  refine gc_p (p_istore (ls' := [(6, .int w), (5, .int k), (4, .int (nI (4 * q))), (3, .ref 113), (2, .ref 104), (1, .ref 0), (0, .ref 1300)]) (dk_at ktL_law_14 38 rfl) (by decide) rfl (b := 1655) rfl) ?_
  refine gc_p (p_aload_n 4 (dk_at ktL_law_14 39 rfl) rfl rfl (b := 1656) rfl) ?_
  refine g_callV (ci := 10) (As' := []) (rest := []) (s_X7_thrown hm) cw_L_148 qi_X7_thrown qv_X7_thrown rfl (by decide) hm.s0 (dk_at ktL_law_14 40 rfl) rfl rfl (Nat.le_of_ble_eq_true rfl) ⟨by decide, by decide, by omega, by omega⟩ (b := 1659) rfl (fun r3 I3 J3 hq3 => ?_)
  obtain ⟨w3, rfl, rfl, rfl, rfl⟩ := hq3
  refine gc_p (p_iload 1 (dk_at ktL_law_14 41 rfl) rfl (b := 1661) rfl) ?_
  refine g_icmp_eq (dk_at ktL_law_14 42 rfl) (b := 1666) (by decide) (b2 := 1664) rfl (fun _ => ?_) (fun c => absurd (h6.trans hkc.symm) c)
  refine gc_p (p_iload 1 (dk_at ktL_law_14 45 rfl) rfl (b := 1668) rfl) ?_
  refine g_if_ne (dk_at ktL_law_14 46 rfl) (b := 1683) (by decide) (b2 := 1671) rfl (fun c => ?_) (fun c => ?_)
  · refine gc_p (p_goto (b := 2878) (dk_at ktL_law_14 56 rfl) (by decide)) ?_
    refine gc_sub [2, 3, 4, 5, 6] (ls' := [(4, .int (nI (4 * q))), (3, .ref 113), (2, .ref 104), (1, .ref 0), (0, .ref 1300)]) rfl ?_
    exact gc_weak (by omega) (by omega) (hloop _ _ _ _ _ _ (h.st (by omega) (hN.le (by omega)) hF hW2 hG hI.dmj))
  · have h0 := hkc.symm.trans c
    have ha := ha h0
    have hj := hj h0
    refine gc_p (p_aload_n 3 (dk_at ktL_law_14 47 rfl) rfl rfl (b := 1672) rfl) ?_
    refine gc_p (p_iconst (v := nI 0) (dk_at ktL_law_14 48 rfl) (by decide) (b := 1673) rfl) ?_
    refine g_jald (id := 113) (len := 1) (j := 0) (by decide) hso (dk_at ktL_law_14 49 rfl) rfl ⟨by decide, by decide⟩ (v := lI (a_dam σ (211 + 32 * tn (xs (4 * q + 1)) + tn (xs (4 * q + 2))) (xs (4 * q + 3)))) hj (b := 1674) rfl ?_
    refine gc_p (p_iload 0 (dk_at ktL_law_14 50 rfl) rfl (b := 1676) rfl) ?_
    refine gc_p (p_i2l (v := lI w) (dk_at ktL_law_14 51 rfl) rfl (b := 1677) rfl) ?_
    refine gc_p (p_lcmp (dk_at ktL_law_14 52 rfl) (b := 1678) rfl) ?_
    refine g_if_eq (dk_at ktL_law_14 53 rfl) (b := 1683) (by decide) (b2 := 1681) rfl (fun _ => ?_) (fun c => absurd ((lg_cmp_eq _ _).mpr (congrArg lI ha)) c)
    refine gc_p (p_goto (b := 2878) (dk_at ktL_law_14 56 rfl) (by decide)) ?_
    refine gc_sub [2, 3, 4, 5, 6] (ls' := [(4, .int (nI (4 * q))), (3, .ref 113), (2, .ref 104), (1, .ref 0), (0, .ref 1300)]) rfl ?_
    exact gc_weak (by omega) (by omega) (hloop _ _ _ _ _ _ (h.st (by omega) (hN.le (by omega)) hF hW2 hG hI.dmj))
set_option maxRecDepth 8000 in
set_option maxHeartbeats 2000000 in
theorem law_c34 {L q B kc ks : Nat} {xs : Nat → Int32} {sh : mS} {G : mG} {I : mI} {J : mJ} {σ : sT} {T : tT} {nn : Nat} {sn : Nat → Option sT} (hq : 4 * q + 4 ≤ L) (hL : L ≤ 2048) (hB : BootH 114 sh G 0 1 7 26 45 64 65 84 103) (hm : ModG 114 sh G 104) (hso : sh 113 = .inr (3, 1)) (h : LSt B I σ T nn sn) (hBB : B + 1000 < 1000000) (hloop : ∀ (I2 : mI) (J2 : mJ) (σ2 : sT) (T2 : tT) (nn2 : Nat) (sn2 : Nat → Option sT), LSt (B + 6) I2 σ2 T2 nn2 sn2 → LG L xs sh G kc ks 2878 (lawLs q) [] I2 J2) : LG L xs sh G (kc + 3) (ks + 18) 1686 (lawLs q) [] I J := by
  obtain ⟨hI, hW, ⟨T0, N0, hTB, hD⟩, hTR, hTC, hSR, hSD, hSI, hle⟩ := id h
  refine gc_p (p_aload_n 3 (dk_at ktL_law_14 57 rfl) rfl rfl (b := 1687) rfl) ?_
  refine g_callV (ci := 9) (As' := []) (rest := []) (s_X6_activePage hB hD hI ) cw_L_257 qi_X6_activePage qv_X6_activePage rfl (by decide) hB.s0 (dk_at ktL_law_14 58 rfl) rfl rfl (Nat.le_of_ble_eq_true rfl) ⟨by decide, by decide, by omega, by omega⟩ (b := 1690) rfl (fun r1 I1 J1 hq1 => ?_)
  obtain ⟨v, rfl, rfl, rfl, hN, hF⟩ := hq1
  refine gc_p (p_aload_n 2 (dk_at ktL_law_14 59 rfl) rfl rfl (b := 1691) rfl) ?_
  have hW1 : RelW (I1 (104 + 1)) σ := by rw [hF (104 + 1) (by omega)]; exact hW
  refine g_callV (ci := 10) (As' := []) (rest := [_]) (s_X7_activePage hm hW1 hI ) cw_L_260 qi_X7_activePage qv_X7_activePage rfl (by decide) hm.s0 (dk_at ktL_law_15 0 rfl) rfl rfl (Nat.le_of_ble_eq_true rfl) ⟨by decide, by decide, by omega, by omega⟩ (b := 1694) rfl (fun r2 I2 J2 hq2 => ?_)
  obtain ⟨w, rfl, ha, h6, rfl, hW2, hG⟩ := hq2
  have ha := ha rfl
  refine g_icmp_eq (dk_at ktL_law_15 1 rfl) (b := 2878) (by decide) (b2 := 1697) rfl (fun _ => ?_) (fun c => absurd ha c)
  exact gc_weak (by omega) (by omega) (hloop _ _ _ _ _ _ (h.st (by omega) (hN.le (by omega)) hF hW2 hG hI))
set_option maxRecDepth 8000 in
set_option maxHeartbeats 2000000 in
theorem law_c35 {L q B kc ks : Nat} {xs : Nat → Int32} {sh : mS} {G : mG} {I : mI} {J : mJ} {σ : sT} {T : tT} {nn : Nat} {sn : Nat → Option sT} (hq : 4 * q + 4 ≤ L) (hL : L ≤ 2048) (hB : BootH 114 sh G 0 1 7 26 45 64 65 84 103) (hm : ModG 114 sh G 104) (hso : sh 113 = .inr (3, 1)) (h : LSt B I σ T nn sn) (hBB : B + 1000 < 1000000) (hloop : ∀ (I2 : mI) (J2 : mJ) (σ2 : sT) (T2 : tT) (nn2 : Nat) (sn2 : Nat → Option sT), LSt (B + 6) I2 σ2 T2 nn2 sn2 → LG L xs sh G kc ks 2878 (lawLs q) [] I2 J2) : LG L xs sh G (kc + 3) (ks + 18) 1699 (lawLs q) [] I J := by
  obtain ⟨hI, hW, ⟨T0, N0, hTB, hD⟩, hTR, hTC, hSR, hSD, hSI, hle⟩ := id h
  refine gc_p (p_aload_n 3 (dk_at ktL_law_15 4 rfl) rfl rfl (b := 1700) rfl) ?_
  refine g_callV (ci := 9) (As' := []) (rest := []) (s_X6_generation hB hD hI ) cw_L_261 qi_X6_generation qv_X6_generation rfl (by decide) hB.s0 (dk_at ktL_law_15 5 rfl) rfl rfl (Nat.le_of_ble_eq_true rfl) ⟨by decide, by decide, by omega, by omega⟩ (b := 1703) rfl (fun r1 I1 J1 hq1 => ?_)
  obtain ⟨v, rfl, rfl, rfl, hN, hF⟩ := hq1
  refine gc_p (p_aload_n 2 (dk_at ktL_law_15 6 rfl) rfl rfl (b := 1704) rfl) ?_
  have hW1 : RelW (I1 (104 + 1)) σ := by rw [hF (104 + 1) (by omega)]; exact hW
  refine g_callV (ci := 10) (As' := []) (rest := [_]) (s_X7_generation hm hW1 hI ) cw_L_264 qi_X7_generation qv_X7_generation rfl (by decide) hm.s0 (dk_at ktL_law_15 7 rfl) rfl rfl (Nat.le_of_ble_eq_true rfl) ⟨by decide, by decide, by omega, by omega⟩ (b := 1707) rfl (fun r2 I2 J2 hq2 => ?_)
  obtain ⟨w, rfl, ha, h6, rfl, hW2, hG⟩ := hq2
  have ha := ha rfl
  refine g_icmp_eq (dk_at ktL_law_15 8 rfl) (b := 2878) (by decide) (b2 := 1710) rfl (fun _ => ?_) (fun c => absurd ha c)
  exact gc_weak (by omega) (by omega) (hloop _ _ _ _ _ _ (h.st (by omega) (hN.le (by omega)) hF hW2 hG hI))
set_option maxRecDepth 8000 in
set_option maxHeartbeats 2000000 in
theorem law_c36 {L q B kc ks : Nat} {xs : Nat → Int32} {sh : mS} {G : mG} {I : mI} {J : mJ} {σ : sT} {T : tT} {nn : Nat} {sn : Nat → Option sT} (hq : 4 * q + 4 ≤ L) (hL : L ≤ 2048) (hB : BootH 114 sh G 0 1 7 26 45 64 65 84 103) (hm : ModG 114 sh G 104) (hso : sh 113 = .inr (3, 1)) (h : LSt B I σ T nn sn) (hBB : B + 1000 < 1000000) (hloop : ∀ (I2 : mI) (J2 : mJ) (σ2 : sT) (T2 : tT) (nn2 : Nat) (sn2 : Nat → Option sT), LSt (B + 6) I2 σ2 T2 nn2 sn2 → LG L xs sh G kc ks 2878 (lawLs q) [] I2 J2) : LG L xs sh G (kc + 3) (ks + 18) 1712 (lawLs q) [] I J := by
  obtain ⟨hI, hW, ⟨T0, N0, hTB, hD⟩, hTR, hTC, hSR, hSD, hSI, hle⟩ := id h
  refine gc_p (p_aload_n 3 (dk_at ktL_law_15 11 rfl) rfl rfl (b := 1713) rfl) ?_
  refine g_callV (ci := 9) (As' := []) (rest := []) (s_X6_freeWords hB hD hI ) cw_L_265 qi_X6_freeWords qv_X6_freeWords rfl (by decide) hB.s0 (dk_at ktL_law_15 12 rfl) rfl rfl (Nat.le_of_ble_eq_true rfl) ⟨by decide, by decide, by omega, by omega⟩ (b := 1716) rfl (fun r1 I1 J1 hq1 => ?_)
  obtain ⟨v, rfl, rfl, rfl, hN, hF⟩ := hq1
  refine gc_p (p_aload_n 2 (dk_at ktL_law_15 13 rfl) rfl rfl (b := 1717) rfl) ?_
  have hW1 : RelW (I1 (104 + 1)) σ := by rw [hF (104 + 1) (by omega)]; exact hW
  refine g_callV (ci := 10) (As' := []) (rest := [_]) (s_X7_freeWords hm hW1 hI ) cw_L_268 qi_X7_freeWords qv_X7_freeWords rfl (by decide) hm.s0 (dk_at ktL_law_15 14 rfl) rfl rfl (Nat.le_of_ble_eq_true rfl) ⟨by decide, by decide, by omega, by omega⟩ (b := 1720) rfl (fun r2 I2 J2 hq2 => ?_)
  obtain ⟨w, rfl, ha, h6, rfl, hW2, hG⟩ := hq2
  have ha := ha rfl
  refine g_icmp_eq (dk_at ktL_law_15 15 rfl) (b := 2878) (by decide) (b2 := 1723) rfl (fun _ => ?_) (fun c => absurd ha c)
  exact gc_weak (by omega) (by omega) (hloop _ _ _ _ _ _ (h.st (by omega) (hN.le (by omega)) hF hW2 hG hI))
set_option maxRecDepth 8000 in
set_option maxHeartbeats 2000000 in
theorem law_c37 {L q B kc ks : Nat} {xs : Nat → Int32} {sh : mS} {G : mG} {I : mI} {J : mJ} {σ : sT} {T : tT} {nn : Nat} {sn : Nat → Option sT} (hq : 4 * q + 4 ≤ L) (hL : L ≤ 2048) (hB : BootH 114 sh G 0 1 7 26 45 64 65 84 103) (hm : ModG 114 sh G 104) (hso : sh 113 = .inr (3, 1)) (h : LSt B I σ T nn sn) (hBB : B + 1000 < 1000000) (hloop : ∀ (I2 : mI) (J2 : mJ) (σ2 : sT) (T2 : tT) (nn2 : Nat) (sn2 : Nat → Option sT), LSt (B + 6) I2 σ2 T2 nn2 sn2 → LG L xs sh G kc ks 2878 (lawLs q) [] I2 J2) : LG L xs sh G (kc + 3) (ks + 18) 1725 (lawLs q) [] I J := by
  obtain ⟨hI, hW, ⟨T0, N0, hTB, hD⟩, hTR, hTC, hSR, hSD, hSI, hle⟩ := id h
  refine gc_p (p_aload_n 3 (dk_at ktL_law_15 18 rfl) rfl rfl (b := 1726) rfl) ?_
  refine g_callV (ci := 9) (As' := []) (rest := []) (s_X6_recordCount hB hD hI ) cw_L_269 qi_X6_recordCount qv_X6_recordCount rfl (by decide) hB.s0 (dk_at ktL_law_15 19 rfl) rfl rfl (Nat.le_of_ble_eq_true rfl) ⟨by decide, by decide, by omega, by omega⟩ (b := 1729) rfl (fun r1 I1 J1 hq1 => ?_)
  obtain ⟨v, rfl, rfl, rfl, hN, hF⟩ := hq1
  refine gc_p (p_aload_n 2 (dk_at ktL_law_15 20 rfl) rfl rfl (b := 1730) rfl) ?_
  have hW1 : RelW (I1 (104 + 1)) σ := by rw [hF (104 + 1) (by omega)]; exact hW
  refine g_callV (ci := 10) (As' := []) (rest := [_]) (s_X7_recordCount hm hW1 hI ) cw_L_272 qi_X7_recordCount qv_X7_recordCount rfl (by decide) hm.s0 (dk_at ktL_law_15 21 rfl) rfl rfl (Nat.le_of_ble_eq_true rfl) ⟨by decide, by decide, by omega, by omega⟩ (b := 1733) rfl (fun r2 I2 J2 hq2 => ?_)
  obtain ⟨w, rfl, ha, h6, rfl, hW2, hG⟩ := hq2
  have ha := ha rfl
  refine g_icmp_eq (dk_at ktL_law_15 22 rfl) (b := 2878) (by decide) (b2 := 1736) rfl (fun _ => ?_) (fun c => absurd ha c)
  exact gc_weak (by omega) (by omega) (hloop _ _ _ _ _ _ (h.st (by omega) (hN.le (by omega)) hF hW2 hG hI))
set_option maxRecDepth 8000 in
set_option maxHeartbeats 2000000 in
theorem law_c38 {L q B kc ks : Nat} {xs : Nat → Int32} {sh : mS} {G : mG} {I : mI} {J : mJ} {σ : sT} {T : tT} {nn : Nat} {sn : Nat → Option sT} (hq : 4 * q + 4 ≤ L) (hL : L ≤ 2048) (hB : BootH 114 sh G 0 1 7 26 45 64 65 84 103) (hm : ModG 114 sh G 104) (hso : sh 113 = .inr (3, 1)) (h : LSt B I σ T nn sn) (hBB : B + 1000 < 1000000) (hloop : ∀ (I2 : mI) (J2 : mJ) (σ2 : sT) (T2 : tT) (nn2 : Nat) (sn2 : Nat → Option sT), LSt (B + 6) I2 σ2 T2 nn2 sn2 → LG L xs sh G kc ks 2878 (lawLs q) [] I2 J2) : LG L xs sh G (kc + 3) (ks + 18) 1738 (lawLs q) [] I J := by
  obtain ⟨hI, hW, ⟨T0, N0, hTB, hD⟩, hTR, hTC, hSR, hSD, hSI, hle⟩ := id h
  refine gc_p (p_aload_n 3 (dk_at ktL_law_15 25 rfl) rfl rfl (b := 1739) rfl) ?_
  refine gc_p (p_aload_n 4 (dk_at ktL_law_15 26 rfl) rfl rfl (b := 1740) rfl) ?_
  refine gc_p (p_iload 0 (dk_at ktL_law_15 27 rfl) rfl (b := 1742) rfl) ?_
  refine gc_p (p_iconst (v := nI 1) (dk_at ktL_law_15 28 rfl) (by decide) (b := 1743) rfl) ?_
  refine gc_p (p_iadd (v := nI (4 * q + 1)) (dk_at ktL_law_15 29 rfl) (nI_add (4 * q) 1) (b := 1744) rfl) ?_
  refine g_sld (j := 4 * q + 1) (dk_at ktL_law_15 30 rfl) rfl ⟨by omega, by omega⟩ (b := 1745) rfl ?_
  refine gc_p (p_aload_n 4 (dk_at ktL_law_15 31 rfl) rfl rfl (b := 1746) rfl) ?_
  refine gc_p (p_iload 0 (dk_at ktL_law_15 32 rfl) rfl (b := 1748) rfl) ?_
  refine gc_p (p_iconst (v := nI 2) (dk_at ktL_law_15 33 rfl) (by decide) (b := 1749) rfl) ?_
  refine gc_p (p_iadd (v := nI (4 * q + 2)) (dk_at ktL_law_15 34 rfl) (nI_add (4 * q) 2) (b := 1750) rfl) ?_
  refine g_sld (j := 4 * q + 2) (dk_at ktL_law_15 35 rfl) rfl ⟨by omega, by omega⟩ (b := 1751) rfl ?_
  refine gc_p (p_aload_n 1 (dk_at ktL_law_15 36 rfl) rfl rfl (b := 1752) rfl) ?_
  refine g_callW (As := [.ref 0, .int (xs (4 * q + 1)), .int (xs (4 * q + 2)), .ref 113]) (rest := []) (s_L_record ((xs (4 * q + 1))) ((xs (4 * q + 2))) (s_X6_record hB hD hI ((xs (4 * q + 1))) ((xs (4 * q + 2)))) (by decide) hB.s0 (by decide) hso cIn_2) cwW_L_273 (dk_at ktL_law_15 37 rfl) rfl rfl (Nat.le_of_ble_eq_true rfl) ⟨by decide, by decide, by omega, by omega⟩ (b := 1755) rfl (fun r1 I1 J1 hq1 => ?_)
  obtain ⟨k, rfl, hk⟩ := hq1
  obtain ⟨hkc, hN, hF, hj⟩ := WQ.std (T0 := T0) (e := 0) (σ := σ) (σ' := (σ)) hk (RelN.of hD (Nat.le_refl _)) (fun _ => rfl)
  refine gc_p (p_istore (ls' := [(5, .int k), (4, .int (nI (4 * q))), (3, .ref 113), (2, .ref 104), (1, .ref 0), (0, .ref 1300)]) (dk_at ktL_law_15 38 rfl) (by decide) rfl (b := 1757) rfl) ?_
  refine gc_p (p_aload_n 3 (dk_at ktL_law_15 39 rfl) rfl rfl (b := 1758) rfl) ?_
  refine gc_p (p_aload_n 5 (dk_at ktL_law_15 40 rfl) rfl rfl (b := 1759) rfl) ?_
  refine gc_p (p_iload 1 (dk_at ktL_law_15 41 rfl) rfl (b := 1761) rfl) ?_
  refine gc_p (p_iconst (v := nI 1) (dk_at ktL_law_15 42 rfl) (by decide) (b := 1762) rfl) ?_
  refine gc_p (p_iadd (v := nI (4 * q + 1)) (dk_at ktL_law_15 43 rfl) (nI_add (4 * q) 1) (b := 1763) rfl) ?_
  refine g_sld (j := 4 * q + 1) (dk_at ktL_law_15 44 rfl) rfl ⟨by omega, by omega⟩ (b := 1764) rfl ?_
  refine gc_p (p_aload_n 5 (dk_at ktL_law_15 45 rfl) rfl rfl (b := 1765) rfl) ?_
  refine gc_p (p_iload 1 (dk_at ktL_law_15 46 rfl) rfl (b := 1767) rfl) ?_
  refine gc_p (p_iconst (v := nI 2) (dk_at ktL_law_15 47 rfl) (by decide) (b := 1768) rfl) ?_
  refine gc_p (p_iadd (v := nI (4 * q + 2)) (dk_at ktL_law_15 48 rfl) (nI_add (4 * q) 2) (b := 1769) rfl) ?_
  refine g_sld (j := 4 * q + 2) (dk_at ktL_law_15 49 rfl) rfl ⟨by omega, by omega⟩ (b := 1770) rfl ?_
  have hW1 : RelW (I1 (104 + 1)) σ := by rw [hF (104 + 1) (by omega)]; exact hW
  refine g_callV (ci := 10) (As' := [.int (xs (4 * q + 1)), .int (xs (4 * q + 2))]) (rest := []) (s_X7_record hm hW1 hI (xs (4 * q + 1)) (xs (4 * q + 2))) cw_L_275 qi_X7_record qv_X7_record rfl (by decide) hm.s0 (dk_at ktL_law_15 50 rfl) rfl rfl (Nat.le_of_ble_eq_true rfl) ⟨by decide, by decide, by omega, by omega⟩ (b := 1773) rfl (fun r2 I2 J2 hq2 => ?_)
  obtain ⟨w, rfl, ha, h6, rfl, hW2, hG⟩ := hq2
  refine gc_p (p_istore (ls' := [(6, .int w), (5, .int k), (4, .int (nI (4 * q))), (3, .ref 113), (2, .ref 104), (1, .ref 0), (0, .ref 1300)]) (dk_at ktL_law_15 51 rfl) (by decide) rfl (b := 1775) rfl) ?_
  refine gc_p (p_aload_n 4 (dk_at ktL_law_15 52 rfl) rfl rfl (b := 1776) rfl) ?_
  refine g_callV (ci := 10) (As' := []) (rest := []) (s_X7_thrown hm) cw_L_148 qi_X7_thrown qv_X7_thrown rfl (by decide) hm.s0 (dk_at ktL_law_15 53 rfl) rfl rfl (Nat.le_of_ble_eq_true rfl) ⟨by decide, by decide, by omega, by omega⟩ (b := 1779) rfl (fun r3 I3 J3 hq3 => ?_)
  obtain ⟨w3, rfl, rfl, rfl, rfl⟩ := hq3
  refine gc_p (p_iload 1 (dk_at ktL_law_15 54 rfl) rfl (b := 1781) rfl) ?_
  refine g_icmp_eq (dk_at ktL_law_15 55 rfl) (b := 1786) (by decide) (b2 := 1784) rfl (fun _ => ?_) (fun c => absurd (h6.trans hkc.symm) c)
  refine gc_p (p_iload 1 (dk_at ktL_law_15 58 rfl) rfl (b := 1788) rfl) ?_
  refine g_if_ne (dk_at ktL_law_15 59 rfl) (b := 1803) (by decide) (b2 := 1791) rfl (fun c => ?_) (fun c => ?_)
  · refine gc_p (p_goto (b := 2878) (dk_at ktL_law_16 9 rfl) (by decide)) ?_
    refine gc_sub [2, 3, 4, 5, 6] (ls' := [(4, .int (nI (4 * q))), (3, .ref 113), (2, .ref 104), (1, .ref 0), (0, .ref 1300)]) rfl ?_
    exact gc_weak (by omega) (by omega) (hloop _ _ _ _ _ _ (h.st (by omega) (hN.le (by omega)) hF hW2 hG hI))
  · have h0 := hkc.symm.trans c
    have ha := ha h0
    have hj := hj h0
    refine gc_p (p_aload_n 3 (dk_at ktL_law_16 0 rfl) rfl rfl (b := 1792) rfl) ?_
    refine gc_p (p_iconst (v := nI 0) (dk_at ktL_law_16 1 rfl) (by decide) (b := 1793) rfl) ?_
    refine g_jald (id := 113) (len := 1) (j := 0) (by decide) hso (dk_at ktL_law_16 2 rfl) rfl ⟨by decide, by decide⟩ (v := lI (a_rec σ (xs (4 * q + 1)) (xs (4 * q + 2)))) hj (b := 1794) rfl ?_
    refine gc_p (p_iload 0 (dk_at ktL_law_16 3 rfl) rfl (b := 1796) rfl) ?_
    refine gc_p (p_i2l (v := lI w) (dk_at ktL_law_16 4 rfl) rfl (b := 1797) rfl) ?_
    refine gc_p (p_lcmp (dk_at ktL_law_16 5 rfl) (b := 1798) rfl) ?_
    refine g_if_eq (dk_at ktL_law_16 6 rfl) (b := 1803) (by decide) (b2 := 1801) rfl (fun _ => ?_) (fun c => absurd ((lg_cmp_eq _ _).mpr (congrArg lI ha)) c)
    refine gc_p (p_goto (b := 2878) (dk_at ktL_law_16 9 rfl) (by decide)) ?_
    refine gc_sub [2, 3, 4, 5, 6] (ls' := [(4, .int (nI (4 * q))), (3, .ref 113), (2, .ref 104), (1, .ref 0), (0, .ref 1300)]) rfl ?_
    exact gc_weak (by omega) (by omega) (hloop _ _ _ _ _ _ (h.st (by omega) (hN.le (by omega)) hF hW2 hG hI))
set_option maxRecDepth 8000 in
set_option maxHeartbeats 2000000 in
theorem law_c39 {L q B kc ks : Nat} {xs : Nat → Int32} {sh : mS} {G : mG} {I : mI} {J : mJ} {σ : sT} {T : tT} {nn : Nat} {sn : Nat → Option sT} (hq : 4 * q + 4 ≤ L) (hL : L ≤ 2048) (hB : BootH 114 sh G 0 1 7 26 45 64 65 84 103) (hm : ModG 114 sh G 104) (hso : sh 113 = .inr (3, 1)) (h : LSt B I σ T nn sn) (hBB : B + 1000 < 1000000) (hloop : ∀ (I2 : mI) (J2 : mJ) (σ2 : sT) (T2 : tT) (nn2 : Nat) (sn2 : Nat → Option sT), LSt (B + 6) I2 σ2 T2 nn2 sn2 → LG L xs sh G kc ks 2878 (lawLs q) [] I2 J2) : LG L xs sh G (kc + 3) (ks + 18) 1806 (lawLs q) [] I J := by
  obtain ⟨hI, hW, ⟨T0, N0, hTB, hD⟩, hTR, hTC, hSR, hSD, hSI, hle⟩ := id h
  refine gc_p (p_aload_n 3 (dk_at ktL_law_16 10 rfl) rfl rfl (b := 1807) rfl) ?_
  refine g_callV (ci := 9) (As' := []) (rest := []) (s_X6_spoiled hB hD hI ) cw_L_276 qi_X6_spoiled qv_X6_spoiled rfl (by decide) hB.s0 (dk_at ktL_law_16 11 rfl) rfl rfl (Nat.le_of_ble_eq_true rfl) ⟨by decide, by decide, by omega, by omega⟩ (b := 1810) rfl (fun r1 I1 J1 hq1 => ?_)
  obtain ⟨v, rfl, rfl, rfl, hN, hF⟩ := hq1
  refine gc_p (p_aload_n 2 (dk_at ktL_law_16 12 rfl) rfl rfl (b := 1811) rfl) ?_
  have hW1 : RelW (I1 (104 + 1)) σ := by rw [hF (104 + 1) (by omega)]; exact hW
  refine g_callV (ci := 10) (As' := []) (rest := [_]) (s_X7_spoiled hm hW1 hI ) cw_L_279 qi_X7_spoiled qv_X7_spoiled rfl (by decide) hm.s0 (dk_at ktL_law_16 13 rfl) rfl rfl (Nat.le_of_ble_eq_true rfl) ⟨by decide, by decide, by omega, by omega⟩ (b := 1814) rfl (fun r2 I2 J2 hq2 => ?_)
  obtain ⟨w, rfl, ha, h6, rfl, hW2, hG⟩ := hq2
  have ha := ha rfl
  refine g_icmp_eq (dk_at ktL_law_16 14 rfl) (b := 2878) (by decide) (b2 := 1817) rfl (fun _ => ?_) (fun c => absurd ha c)
  exact gc_weak (by omega) (by omega) (hloop _ _ _ _ _ _ (h.st (by omega) (hN.le (by omega)) hF hW2 hG hI))

/-! THE LAW: its loop -/
theorem and63 (x : Int32) : ∃ k, k < 64 ∧ x &&& 63 = nI k := by
  have h1 : ∃ a : Nat, a < 2 ^ 32 ∧ x &&& 63 = Int32.ofBitVec (BitVec.ofNat 32 a &&& 63#32) := ⟨x.toBitVec.toNat, x.toBitVec.isLt, by
    rw [BitVec.ofNat_toNat]
    simp⟩
  obtain ⟨a, -, e⟩ := h1
  refine ⟨(BitVec.ofNat 32 a &&& 63#32).toNat, ?_, ?_⟩
  · rw [BitVec.toNat_and]
    exact Nat.lt_of_le_of_lt Nat.and_le_right (by decide)
  · rw [e]
    show _ = Int32.ofNat _
    apply Int32.toBitVec_inj.mp
    show _ = BitVec.ofNat 32 _
    rw [BitVec.ofNat_toNat]
    simp
theorem lw_more {L q : Nat} (hL : L ≤ 2048) (hq : 4 * q ≤ L) (c : ¬ nI L - 4 < nI (4 * q)) : 4 * q + 4 ≤ L := by
  by_cases h : 4 ≤ L
  · have e : nI L - 4 = nI (L - 4) := pk_sub (a := L) (b := 4) h
    rw [e] at c
    have : ¬ L - 4 < 4 * q := fun z => c ((nI_ltI (by omega) (by omega)).mpr z)
    omega
  · exfalso
    have q0 : q = 0 := by omega
    subst q0
    rcases (by omega : L = 0 ∨ L = 1 ∨ L = 2 ∨ L = 3) with rfl | rfl | rfl | rfl <;> exact c (by decide)
set_option maxRecDepth 20000 in
set_option maxHeartbeats 4000000 in
theorem law_loop {L : Nat} {xs : Nat → Int32} {sh : mS} {G : mG} (hL : L ≤ 2048) (hB : BootH 114 sh G 0 1 7 26 45 64 65 84 103) (hm : ModG 114 sh G 104) (hso : sh 113 = .inr (3, 1)) : ∀ (rem q B : Nat) (I : mI) (J : mJ) (σ : sT) (T : tT) (nn : Nat) (sn : Nat → Option sT), 4 * q ≤ L → L < 4 * q + 4 * rem + 4 → B + 6 * rem + 1000 < 1000000 → LSt B I σ T nn sn → LG L xs sh G (3 * rem) (18 * rem) 23 (lawLs q) [] I J := by
  intro rem
  induction rem with
  | zero =>
    intro q B I J σ T nn sn hq hr hBB h
    refine gc_p (p_iload 0 (dk_at ktL_law_0 13 rfl) rfl (b := 25) rfl) ?_
    refine gc_p (p_aload_n 4 (dk_at ktL_law_0 14 rfl) rfl rfl (b := 26) rfl) ?_
    refine g_slen (dk_at ktL_law_0 15 rfl) (b := 27) rfl ?_
    refine gc_p (p_iconst (v := 4) (dk_at ktL_law_0 16 rfl) (by decide) (b := 28) rfl) ?_
    refine gc_p (p_isub (v := nI L - 4) (dk_at ktL_law_0 17 rfl) rfl (b := 29) rfl) ?_
    refine g_icmp_gt (dk_at ktL_law_0 18 rfl) (b := 2884) (by decide) (b2 := 32) rfl (fun c => ?_) (fun c => ?_)
    · refine gc_p (p_iconst (v := 1) (dk_at ktL_law_27 28 rfl) (by decide) (b := 2885) rfl) ?_
      exact g_lend (dk_at ktL_law_27 29 rfl)
    · exact absurd (lw_more hL hq c) (by omega)
  | succ rem ih =>
    intro q B I J σ T nn sn hq hr hBB h
    refine gc_p (p_iload 0 (dk_at ktL_law_0 13 rfl) rfl (b := 25) rfl) ?_
    refine gc_p (p_aload_n 4 (dk_at ktL_law_0 14 rfl) rfl rfl (b := 26) rfl) ?_
    refine g_slen (dk_at ktL_law_0 15 rfl) (b := 27) rfl ?_
    refine gc_p (p_iconst (v := 4) (dk_at ktL_law_0 16 rfl) (by decide) (b := 28) rfl) ?_
    refine gc_p (p_isub (v := nI L - 4) (dk_at ktL_law_0 17 rfl) rfl (b := 29) rfl) ?_
    refine g_icmp_gt (dk_at ktL_law_0 18 rfl) (b := 2884) (by decide) (b2 := 32) rfl (fun c => ?_) (fun c => ?_)
    · refine gc_p (p_iconst (v := 1) (dk_at ktL_law_27 28 rfl) (by decide) (b := 2885) rfl) ?_
      exact g_lend (dk_at ktL_law_27 29 rfl)
    · have hm4 := lw_more hL hq c
      have hloop : ∀ (I2 : mI) (J2 : mJ) (σ2 : sT) (T2 : tT) (nn2 : Nat) (sn2 : Nat → Option sT), LSt (B + 6) I2 σ2 T2 nn2 sn2 → LG L xs sh G (3 * rem) (18 * rem) 2878 (lawLs q) [] I2 J2 := fun I2 J2 σ2 T2 nn2 sn2 h2 => by
        refine gc_p (p_iinc (j := 0) (v := nI (4 * (q + 1))) (ls' := lawLs (q + 1)) (dk_at ktL_law_27 26 rfl) rfl (nI_add (4 * q) 4) (by decide) rfl (b := 2881) rfl) ?_
        refine gc_p (p_goto (b := 23) (dk_at ktL_law_27 27 rfl) (by decide)) ?_
        exact ih (q + 1) (B + 6) I2 J2 σ2 T2 nn2 sn2 (by omega) (by omega) (by omega) h2
      refine gc_p (p_aload_n 4 (dk_at ktL_law_0 19 rfl) rfl rfl (b := 33) rfl) ?_
      refine gc_p (p_iload 0 (dk_at ktL_law_0 20 rfl) rfl (b := 35) rfl) ?_
      refine g_sld (j := 4 * q) (dk_at ktL_law_0 21 rfl) rfl ⟨by omega, by omega⟩ (b := 36) rfl ?_
      refine gc_p (p_bipush (v := 63) (dk_at ktL_law_0 22 rfl) (by decide) (b := 38) rfl) ?_
      refine gc_p (p_iand (v := xs (4 * q) &&& 63) (dk_at ktL_law_0 23 rfl) rfl (b := 39) rfl) ?_
      obtain ⟨k, hk, ek⟩ := and63 (xs (4 * q))
      refine g_val (y := nI k) ek ?_
      rcases (by omega : k = 0 ∨ k = 1 ∨ k = 2 ∨ k = 3 ∨ k = 4 ∨ k = 5 ∨ k = 6 ∨ k = 7 ∨ k = 8 ∨ k = 9 ∨ k = 10 ∨ k = 11 ∨ k = 12 ∨ k = 13 ∨ k = 14 ∨ k = 15 ∨ k = 16 ∨ k = 17 ∨ k = 18 ∨ k = 19 ∨ k = 20 ∨ k = 21 ∨ k = 22 ∨ k = 23 ∨ k = 24 ∨ k = 25 ∨ k = 26 ∨ k = 27 ∨ k = 28 ∨ k = 29 ∨ k = 30 ∨ k = 31 ∨ k = 32 ∨ k = 33 ∨ k = 34 ∨ k = 35 ∨ k = 36 ∨ k = 37 ∨ k = 38 ∨ k = 39 ∨ k = 40 ∨ k = 41 ∨ k = 42 ∨ k = 43 ∨ k = 44 ∨ k = 45 ∨ k = 46 ∨ k = 47 ∨ k = 48 ∨ k = 49 ∨ k = 50 ∨ k = 51 ∨ k = 52 ∨ k = 53 ∨ k = 54 ∨ k = 55 ∨ k = 56 ∨ k = 57 ∨ k = 58 ∨ k = 59 ∨ k = 60 ∨ k = 61 ∨ k = 62 ∨ k = 63) with rfl | rfl | rfl | rfl | rfl | rfl | rfl | rfl | rfl | rfl | rfl | rfl | rfl | rfl | rfl | rfl | rfl | rfl | rfl | rfl | rfl | rfl | rfl | rfl | rfl | rfl | rfl | rfl | rfl | rfl | rfl | rfl | rfl | rfl | rfl | rfl | rfl | rfl | rfl | rfl | rfl | rfl | rfl | rfl | rfl | rfl | rfl | rfl | rfl | rfl | rfl | rfl | rfl | rfl | rfl | rfl | rfl | rfl | rfl | rfl | rfl | rfl | rfl | rfl
      · refine gc_p (p_tabIn (b := 304) (dk_at ktL_law_0 24 rfl) (by decide) (by decide) rfl (by decide)) ?_
        exact law_c0 hm4 hL hB hm hso h (by omega) hloop
      · refine gc_p (p_tabIn (b := 361) (dk_at ktL_law_0 24 rfl) (by decide) (by decide) rfl (by decide)) ?_
        exact law_c1 hm4 hL hB hm hso h (by omega) hloop
      · refine gc_p (p_tabIn (b := 374) (dk_at ktL_law_0 24 rfl) (by decide) (by decide) rfl (by decide)) ?_
        exact law_c2 hm4 hL hB hm hso h (by omega) hloop
      · refine gc_p (p_tabIn (b := 387) (dk_at ktL_law_0 24 rfl) (by decide) (by decide) rfl (by decide)) ?_
        exact law_c3 hm4 hL hB hm hso h (by omega) hloop
      · refine gc_p (p_tabIn (b := 443) (dk_at ktL_law_0 24 rfl) (by decide) (by decide) rfl (by decide)) ?_
        exact law_c4 hm4 hL hB hm hso h (by omega) hloop
      · refine gc_p (p_tabIn (b := 468) (dk_at ktL_law_0 24 rfl) (by decide) (by decide) rfl (by decide)) ?_
        exact law_c5 hm4 hL hB hm hso h (by omega) hloop
      · refine gc_p (p_tabIn (b := 481) (dk_at ktL_law_0 24 rfl) (by decide) (by decide) rfl (by decide)) ?_
        exact law_c6 hm4 hL hB hm hso h (by omega) hloop
      · refine gc_p (p_tabIn (b := 537) (dk_at ktL_law_0 24 rfl) (by decide) (by decide) rfl (by decide)) ?_
        exact law_c7 hm4 hL hB hm hso h (by omega) hloop
      · refine gc_p (p_tabIn (b := 593) (dk_at ktL_law_0 24 rfl) (by decide) (by decide) rfl (by decide)) ?_
        exact law_c8 hm4 hL hB hm hso h (by omega) hloop
      · refine gc_p (p_tabIn (b := 606) (dk_at ktL_law_0 24 rfl) (by decide) (by decide) rfl (by decide)) ?_
        exact law_c9 hm4 hL hB hm hso h (by omega) hloop
      · refine gc_p (p_tabIn (b := 619) (dk_at ktL_law_0 24 rfl) (by decide) (by decide) rfl (by decide)) ?_
        exact law_c10 hm4 hL hB hm hso h (by omega) hloop
      · refine gc_p (p_tabIn (b := 632) (dk_at ktL_law_0 24 rfl) (by decide) (by decide) rfl (by decide)) ?_
        exact law_c11 hm4 hL hB hm hso h (by omega) hloop
      · refine gc_p (p_tabIn (b := 645) (dk_at ktL_law_0 24 rfl) (by decide) (by decide) rfl (by decide)) ?_
        exact law_c12 hm4 hL hB hm hso h (by omega) hloop
      · refine gc_p (p_tabIn (b := 658) (dk_at ktL_law_0 24 rfl) (by decide) (by decide) rfl (by decide)) ?_
        exact law_c13 hm4 hL hB hm hso h (by omega) hloop
      · refine gc_p (p_tabIn (b := 714) (dk_at ktL_law_0 24 rfl) (by decide) (by decide) rfl (by decide)) ?_
        exact law_c14 hm4 hL hB hm hso h (by omega) hloop
      · refine gc_p (p_tabIn (b := 770) (dk_at ktL_law_0 24 rfl) (by decide) (by decide) rfl (by decide)) ?_
        exact law_c15 hm4 hL hB hm hso h (by omega) hloop
      · refine gc_p (p_tabIn (b := 783) (dk_at ktL_law_0 24 rfl) (by decide) (by decide) rfl (by decide)) ?_
        exact law_c16 hm4 hL hB hm hso h (by omega) hloop
      · refine gc_p (p_tabIn (b := 796) (dk_at ktL_law_0 24 rfl) (by decide) (by decide) rfl (by decide)) ?_
        exact law_c17 hm4 hL hB hm hso h (by omega) hloop
      · refine gc_p (p_tabIn (b := 809) (dk_at ktL_law_0 24 rfl) (by decide) (by decide) rfl (by decide)) ?_
        exact law_c18 hm4 hL hB hm hso h (by omega) hloop
      · refine gc_p (p_tabIn (b := 877) (dk_at ktL_law_0 24 rfl) (by decide) (by decide) rfl (by decide)) ?_
        exact law_c19 hm4 hL hB hm hso h (by omega) hloop
      · refine gc_p (p_tabIn (b := 945) (dk_at ktL_law_0 24 rfl) (by decide) (by decide) rfl (by decide)) ?_
        exact law_c20 hm4 hL hB hm hso h (by omega) hloop
      · refine gc_p (p_tabIn (b := 1013) (dk_at ktL_law_0 24 rfl) (by decide) (by decide) rfl (by decide)) ?_
        exact law_c21 hm4 hL hB hm hso h (by omega) hloop
      · refine gc_p (p_tabIn (b := 1081) (dk_at ktL_law_0 24 rfl) (by decide) (by decide) rfl (by decide)) ?_
        exact law_c22 hm4 hL hB hm hso h (by omega) hloop
      · refine gc_p (p_tabIn (b := 1094) (dk_at ktL_law_0 24 rfl) (by decide) (by decide) rfl (by decide)) ?_
        exact law_c23 hm4 hL hB hm hso h (by omega) hloop
      · refine gc_p (p_tabIn (b := 1150) (dk_at ktL_law_0 24 rfl) (by decide) (by decide) rfl (by decide)) ?_
        exact law_c24 hm4 hL hB hm hso h (by omega) hloop
      · refine gc_p (p_tabIn (b := 1163) (dk_at ktL_law_0 24 rfl) (by decide) (by decide) rfl (by decide)) ?_
        exact law_c25 hm4 hL hB hm hso h (by omega) hloop
      · refine gc_p (p_tabIn (b := 1226) (dk_at ktL_law_0 24 rfl) (by decide) (by decide) rfl (by decide)) ?_
        exact law_c26 hm4 hL hB hm hso h (by omega) hloop
      · refine gc_p (p_tabIn (b := 1289) (dk_at ktL_law_0 24 rfl) (by decide) (by decide) rfl (by decide)) ?_
        exact law_c27 hm4 hL hB hm hso h (by omega) hloop
      · refine gc_p (p_tabIn (b := 1345) (dk_at ktL_law_0 24 rfl) (by decide) (by decide) rfl (by decide)) ?_
        exact law_c28 hm4 hL hB hm hso h (by omega) hloop
      · refine gc_p (p_tabIn (b := 1401) (dk_at ktL_law_0 24 rfl) (by decide) (by decide) rfl (by decide)) ?_
        exact law_c29 hm4 hL hB hm hso h (by omega) hloop
      · refine gc_p (p_tabIn (b := 1457) (dk_at ktL_law_0 24 rfl) (by decide) (by decide) rfl (by decide)) ?_
        exact law_c30 hm4 hL hB hm hso h (by omega) hloop
      · refine gc_p (p_tabIn (b := 1470) (dk_at ktL_law_0 24 rfl) (by decide) (by decide) rfl (by decide)) ?_
        exact law_c31 hm4 hL hB hm hso h (by omega) hloop
      · refine gc_p (p_tabIn (b := 1526) (dk_at ktL_law_0 24 rfl) (by decide) (by decide) rfl (by decide)) ?_
        exact law_c32 hm4 hL hB hm hso h (by omega) hloop
      · refine gc_p (p_tabIn (b := 1606) (dk_at ktL_law_0 24 rfl) (by decide) (by decide) rfl (by decide)) ?_
        exact law_c33 hm4 hL hB hm hso h (by omega) hloop
      · refine gc_p (p_tabIn (b := 1686) (dk_at ktL_law_0 24 rfl) (by decide) (by decide) rfl (by decide)) ?_
        exact law_c34 hm4 hL hB hm hso h (by omega) hloop
      · refine gc_p (p_tabIn (b := 1699) (dk_at ktL_law_0 24 rfl) (by decide) (by decide) rfl (by decide)) ?_
        exact law_c35 hm4 hL hB hm hso h (by omega) hloop
      · refine gc_p (p_tabIn (b := 1712) (dk_at ktL_law_0 24 rfl) (by decide) (by decide) rfl (by decide)) ?_
        exact law_c36 hm4 hL hB hm hso h (by omega) hloop
      · refine gc_p (p_tabIn (b := 1725) (dk_at ktL_law_0 24 rfl) (by decide) (by decide) rfl (by decide)) ?_
        exact law_c37 hm4 hL hB hm hso h (by omega) hloop
      · refine gc_p (p_tabIn (b := 1738) (dk_at ktL_law_0 24 rfl) (by decide) (by decide) rfl (by decide)) ?_
        exact law_c38 hm4 hL hB hm hso h (by omega) hloop
      · refine gc_p (p_tabIn (b := 1806) (dk_at ktL_law_0 24 rfl) (by decide) (by decide) rfl (by decide)) ?_
        exact law_c39 hm4 hL hB hm hso h (by omega) hloop
      · refine gc_p (p_tabIn (b := 1819) (dk_at ktL_law_0 24 rfl) (by decide) (by decide) rfl (by decide)) ?_
        exact law_c40 hm4 hL hB hm hso h (by omega) hloop
      · refine gc_p (p_tabIn (b := 1875) (dk_at ktL_law_0 24 rfl) (by decide) (by decide) rfl (by decide)) ?_
        exact law_c41 hm4 hL hB hm hso h (by omega) hloop
      · refine gc_p (p_tabIn (b := 1888) (dk_at ktL_law_0 24 rfl) (by decide) (by decide) rfl (by decide)) ?_
        exact law_c42 hm4 hL hB hm hso h (by omega) hloop
      · refine gc_p (p_tabIn (b := 1901) (dk_at ktL_law_0 24 rfl) (by decide) (by decide) rfl (by decide)) ?_
        exact law_c43 hm4 hL hB hm hso h (by omega) hloop
      · refine gc_p (p_tabIn (b := 1957) (dk_at ktL_law_0 24 rfl) (by decide) (by decide) rfl (by decide)) ?_
        exact law_c44 hm4 hL hB hm hso h (by omega) hloop
      · refine gc_p (p_tabIn (b := 2025) (dk_at ktL_law_0 24 rfl) (by decide) (by decide) rfl (by decide)) ?_
        exact law_c45 hm4 hL hB hm hso h (by omega) hloop
      · refine gc_p (p_tabIn (b := 2081) (dk_at ktL_law_0 24 rfl) (by decide) (by decide) rfl (by decide)) ?_
        exact law_c46 hm4 hL hB hm hso h (by omega) hloop
      · refine gc_p (p_tabIn (b := 2137) (dk_at ktL_law_0 24 rfl) (by decide) (by decide) rfl (by decide)) ?_
        exact law_c47 hm4 hL hB hm hso h (by omega) hloop
      · refine gc_p (p_tabIn (b := 2193) (dk_at ktL_law_0 24 rfl) (by decide) (by decide) rfl (by decide)) ?_
        exact law_c48 hm4 hL hB hm hso h (by omega) hloop
      · refine gc_p (p_tabIn (b := 2249) (dk_at ktL_law_0 24 rfl) (by decide) (by decide) rfl (by decide)) ?_
        exact law_c49 hm4 hL hB hm hso h (by omega) hloop
      · refine gc_p (p_tabIn (b := 2305) (dk_at ktL_law_0 24 rfl) (by decide) (by decide) rfl (by decide)) ?_
        exact law_c50 hm4 hL hB hm hso h (by omega) hloop
      · refine gc_p (p_tabIn (b := 2318) (dk_at ktL_law_0 24 rfl) (by decide) (by decide) rfl (by decide)) ?_
        exact law_c51 hm4 hL hB hm hso h (by omega) hloop
      · refine gc_p (p_tabIn (b := 2374) (dk_at ktL_law_0 24 rfl) (by decide) (by decide) rfl (by decide)) ?_
        exact law_c52 hm4 hL hB hm hso h (by omega) hloop
      · refine gc_p (p_tabIn (b := 2454) (dk_at ktL_law_0 24 rfl) (by decide) (by decide) rfl (by decide)) ?_
        exact law_c53 hm4 hL hB hm hso h (by omega) hloop
      · refine gc_p (p_tabIn (b := 2510) (dk_at ktL_law_0 24 rfl) (by decide) (by decide) rfl (by decide)) ?_
        exact law_c54 hm4 hL hB hm hso h (by omega) hloop
      · refine gc_p (p_tabIn (b := 2590) (dk_at ktL_law_0 24 rfl) (by decide) (by decide) rfl (by decide)) ?_
        exact law_c55 hm4 hL hB hm hso h (by omega) hloop
      · refine gc_p (p_tabIn (b := 2603) (dk_at ktL_law_0 24 rfl) (by decide) (by decide) rfl (by decide)) ?_
        exact law_c56 hm4 hL hB hm hso h (by omega) hloop
      · refine gc_p (p_tabIn (b := 2616) (dk_at ktL_law_0 24 rfl) (by decide) (by decide) rfl (by decide)) ?_
        exact law_c57 hm4 hL hB hm hso h (by omega) hloop
      · refine gc_p (p_tabIn (b := 2629) (dk_at ktL_law_0 24 rfl) (by decide) (by decide) rfl (by decide)) ?_
        exact law_c58 hm4 hL hB hm hso h (by omega) hloop
      · refine gc_p (p_tabIn (b := 2642) (dk_at ktL_law_0 24 rfl) (by decide) (by decide) rfl (by decide)) ?_
        exact law_c59 hm4 hL hB hm hso h (by omega) hloop
      · refine gc_p (p_tabIn (b := 2710) (dk_at ktL_law_0 24 rfl) (by decide) (by decide) rfl (by decide)) ?_
        exact law_c60 hm4 hL hB hm hso h (by omega) hloop
      · refine gc_p (p_tabIn (b := 2766) (dk_at ktL_law_0 24 rfl) (by decide) (by decide) rfl (by decide)) ?_
        exact law_c61 hm4 hL hB hm hso h (by omega) hloop
      · refine gc_p (p_tabIn (b := 2822) (dk_at ktL_law_0 24 rfl) (by decide) (by decide) rfl (by decide)) ?_
        exact law_c62 hm4 hL hB hm hso h (by omega) hloop
      · refine gc_p (p_tabOut (b := 2878) (dk_at ktL_law_0 24 rfl) (by decide) (by decide)) ?_
        exact gc_weak (by omega) (by omega) (hloop I J σ T nn sn (h.go (by omega) (h.2.2.1.le (by omega)) h.2.1 h.1 (fun _ _ => rfl) rfl rfl))

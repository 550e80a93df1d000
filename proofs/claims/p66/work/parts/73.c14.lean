/-! THE CLASS: its calls, records, thrifty pages -/
theorem recAt_neg {σ : sT} {i : Int32} (h : Inv σ) (hi : i < 0) : recAt σ i = -1 := by
  by_cases e : recAt σ i = -1
  · exact e
  · obtain ⟨p, k, _, _, _, _, h5, _, _, e2⟩ := recAt_n h e
    have := cntN_le σ p k
    rw [e2] at hi
    exact absurd hi (nI_npos (by omega))
theorem recAt_big {σ : sT} {i : Int32} (h : Inv σ) (hi : a_cnt σ ≤ i) : recAt σ i = -1 := by
  by_cases e : recAt σ i = -1
  · exact e
  · obtain ⟨p, k, hp, ha, _, h4, h5, _, hr, e2⟩ := recAt_n h e
    have hb := h.bd
    have h1 := cntN_le σ p (nJ σ)
    have h2 : cntN σ p (k + 1) ≤ cntN σ p (nJ σ) := cntN_mono (by omega)
    rw [cntN, if_pos hr] at h2
    unfold a_cnt at hi
    rw [if_neg (by rw [ha]; exact nI_nm1 (by omega)), ha, tn_nI (by omega), e2] at hi
    have := (nI_leI (by omega) (by omega)).mp hi
    omega
set_option maxRecDepth 4000 in
set_option maxHeartbeats 4000000 in
theorem s_X2_placeOf {n : Nat} {sh : mS} {G : mG} {I : mI} {J : mJ} {d : Nat} {σ : sT} {T N : Nat} (hd : DevG n sh G d) (hR : RelD d I σ T N) (hI : Inv σ) (hL : LedR d I σ) (i : Int32) : Sp yX2_placeOf cX2_placeOf 6 (some FieldType.int) 3 144 0 0 [.ref (d + 16), .int i, .ref (d + 1)] n sh G I J (Qi (fun r_ I_ J_ => recAt σ i = r_ ∧ I = I_ ∧ J = J_)) nX := by
  refine Sp.of (by decide) (ls := [(0, .ref (d + 16)), (1, .int i), (2, .ref (d + 1))]) (fun _ => rfl) (fun _ => Nat.le_of_ble_eq_true rfl) ?_
  have cut40 : ∀ (p : Nat), p < 2 → activeI σ = nI p → ∀ (t k : Nat) (y : Int32), 32 - k < t → 1 ≤ k → k ≤ nJ σ → y = nI (cntN σ p k) → recAt σ i = fstI (raP σ p i) (-1) (nJ σ - k) k → Rc RX2 cX2_placeOf 6 (some FieldType.int) 3 144 0 0 n sh G (Qi (fun r_ I_ J_ => recAt σ i = r_ ∧ I = I_ ∧ J = J_)) nX 0 0 40 [(4, .int y), (5, .int (nI k)), (3, .ref (d + 3 + (2 + p))), (0, .ref (d + 16)), (1, .int i), (2, .ref (d + 1))] [] I J := by
    have hb := hI.bd
    intro p hp ep t
    induction t
    · intro k y h; omega
    rename_i t ih
    intro k y ht hk0 h1 hy hx
    subst hy
    refine rc_p (p_iload 1 (dk_at ktX2_placeOf_0 24 rfl) rfl (b := 42) rfl) ?_
    refine rc_p (p_aload_n 5 (dk_at ktX2_placeOf_0 25 rfl) rfl rfl (b := 43) rfl) ?_
    refine r_geti fl_X2_59 rfl (hd.lt 1 (by decide)) hd.s1 (dk_at ktX2_placeOf_0 26 rfl) (v := (nI (nJ σ))) ((hR.1 1 5 2 lc_1_5).trans (hI).w2) (b := 46) rfl ?_
    refine r_icmp_ge (dk_at ktX2_placeOf_0 27 rfl) (b := 77) (by decide) (b2 := 49) rfl (fun c46 => ?_) (fun c46 => ?_)
    · have c46 : (nJ σ) ≤ k := (nI_leI (a := nJ σ) (b := k) (by omega) (by omega)).mp c46
      refine rc_p (p_iconst (v := (-1)) (dk_at ktX2_placeOf_0 41 rfl) (by decide) (b := 78) rfl) ?_
      refine r_iret (dk_at ktX2_placeOf_0 42 rfl) rfl rfl ⟨_, rfl, ?_⟩
      exact ⟨hx.trans (fst_e (by omega)), rfl, rfl⟩
    · have c46 : ¬ (nJ σ) ≤ k := fun h => c46 ((nI_leI (a := nJ σ) (b := k) (by omega) (by omega)).mpr h)
      have hcn := cntN_le σ p k
      have hwk := wd_tn (hI.2.2.2.1 (211 + 32 * p + k) (by omega) (by omega))
      refine rc_p (p_aload_n 2 (dk_at ktX2_placeOf_0 28 rfl) rfl rfl (b := 50) rfl) ?_
      refine rc_p (p_iload 1 (dk_at ktX2_placeOf_0 29 rfl) rfl (b := 52) rfl) ?_
      refine r_iald (j := k) (by have := hd.1; omega) (hd.sc (by omega)) (dk_at ktX2_placeOf_0 30 rfl) rfl ⟨by omega, by decide⟩ (v := (nI (tn (σ (211 + 32 * p + k))))) ((hR.at3 (q := 3) (r := (2 + p)) (k := k) (a := 211 + 32 * p + k) (lc_j (by omega) (by omega))).trans hwk.1) (b := 53) rfl ?_
      refine r_iS (As := [.int (nI (tn (σ (211 + 32 * p + k))))]) (rest := []) (s_X2_isEntry (a := tn (σ (211 + 32 * p + k))) (by omega)) cw_X2_63 qs_X2_isEntry (dk_at ktX2_placeOf_0 31 rfl) rfl rfl (Nat.le_of_ble_eq_true rfl) (by decide) (b := 56) rfl (fun v4 I1 J2 q3 => ?_)
      obtain ⟨rfl, rfl, rfl⟩ := q3
      refine r_if_eq (dk_at ktX2_placeOf_0 32 rfl) (b := 71) (by decide) (b2 := 59) rfl (fun c56 => ?_) (fun c56 => ?_)
      · have c56 := bi_f c56
        refine rc_p (p_iinc (j := 1) (v := (nI (k + 1))) (ls' := [(5, .int (nI (k + 1))), (4, .int (nI (cntN σ p k))), (3, .ref (d + 3 + (2 + p))), (0, .ref (d + 16)), (1, .int i), (2, .ref (d + 1))]) (dk_at ktX2_placeOf_0 39 rfl) rfl (nI_add k 1) (by decide) rfl (b := 74) rfl) ?_
        refine rc_p (p_goto (b := 40) (dk_at ktX2_placeOf_0 40 rfl) (by decide)) ?_
        refine rc_sub [1, 0, 2, 3, 4, 5] (ls' := [(4, .int (nI (cntN σ p k))), (5, .int (nI (k + 1))), (3, .ref (d + 3 + (2 + p))), (0, .ref (d + 16)), (1, .int i), (2, .ref (d + 1))]) rfl ?_
        have hrc : recB σ p k = false := by rw [← ent_rec (by omega) (hI.2.2.2.1 _ (by omega) (by omega))]; exact c56
        exact ih (k + 1) _ (by omega) (by omega) (by omega) (by rw [cntN, if_neg (by rw [hrc]; decide)]) (hx.trans (fst_n (by omega) (by unfold raP; rw [hrc]; rfl)))
      · have c56 := bi_t c56
        refine rc_p (p_iload 0 (dk_at ktX2_placeOf_0 33 rfl) rfl (b := 61) rfl) ?_
        refine rc_p (p_iload_n 4 (dk_at ktX2_placeOf_0 34 rfl) rfl rfl (b := 62) rfl) ?_
        refine r_icmp_ne (dk_at ktX2_placeOf_0 35 rfl) (b := 68) (by decide) (b2 := 65) rfl (fun c62 => ?_) (fun c62 => ?_)
        · skip
          refine rc_p (p_iinc (j := 0) (v := (nI (cntN σ p k + 1))) (ls' := [(4, .int (nI (cntN σ p k + 1))), (5, .int (nI k)), (3, .ref (d + 3 + (2 + p))), (0, .ref (d + 16)), (1, .int i), (2, .ref (d + 1))]) (dk_at ktX2_placeOf_0 38 rfl) rfl (nI_add (cntN σ p k) 1) (by decide) rfl (b := 71) rfl) ?_
          refine rc_p (p_iinc (j := 1) (v := (nI (k + 1))) (ls' := [(5, .int (nI (k + 1))), (4, .int (nI (cntN σ p k + 1))), (3, .ref (d + 3 + (2 + p))), (0, .ref (d + 16)), (1, .int i), (2, .ref (d + 1))]) (dk_at ktX2_placeOf_0 39 rfl) rfl (nI_add k 1) (by decide) rfl (b := 74) rfl) ?_
          refine rc_p (p_goto (b := 40) (dk_at ktX2_placeOf_0 40 rfl) (by decide)) ?_
          refine rc_sub [1, 0, 2, 3, 4, 5] (ls' := [(4, .int (nI (cntN σ p k + 1))), (5, .int (nI (k + 1))), (3, .ref (d + 3 + (2 + p))), (0, .ref (d + 16)), (1, .int i), (2, .ref (d + 1))]) rfl ?_
          have hrc : recB σ p k = true := by rw [← ent_rec (by omega) (hI.2.2.2.1 _ (by omega) (by omega))]; exact c56
          exact ih (k + 1) _ (by omega) (by omega) (by omega) (by rw [cntN, if_pos hrc]) (hx.trans (fst_n (by omega) (by unfold raP; rw [decide_eq_false (fun g => c62 g.symm), Bool.and_false])))
        · skip
          refine rc_p (p_iload 1 (dk_at ktX2_placeOf_0 36 rfl) rfl (b := 67) rfl) ?_
          refine r_iret (dk_at ktX2_placeOf_0 37 rfl) rfl rfl ⟨_, rfl, ?_⟩
          have hrc : recB σ p k = true := by rw [← ent_rec (by omega) (hI.2.2.2.1 _ (by omega) (by omega))]; exact c56
          exact ⟨hx.trans (fst_y (by omega) (by unfold raP; rw [hrc, decide_eq_true c62.symm]; rfl)), rfl, rfl⟩
  have hb := hI.bd
  refine rc_p (p_iload_n 1 (dk_at ktX2_placeOf_0 0 rfl) rfl rfl (b := 1) rfl) ?_
  refine r_if_lt (dk_at ktX2_placeOf_0 1 rfl) (b := 20) (by decide) (b2 := 4) rfl (fun c1 => ?_) (fun c1 => ?_)
  · skip
    refine rc_p (p_iconst (v := (-1)) (dk_at ktX2_placeOf_0 10 rfl) (by decide) (b := 21) rfl) ?_
    refine r_iret (dk_at ktX2_placeOf_0 11 rfl) rfl rfl ⟨_, rfl, ?_⟩
    exact ⟨recAt_neg hI c1, rfl, rfl⟩
  · skip
    refine rc_p (p_iload_n 1 (dk_at ktX2_placeOf_0 2 rfl) rfl rfl (b := 5) rfl) ?_
    refine rc_p (p_aload_n 0 (dk_at ktX2_placeOf_0 3 rfl) rfl rfl (b := 6) rfl) ?_
    refine r_geti fl_X2_38 rfl (hd.lt 16 (by decide)) hd.s16 (dk_at ktX2_placeOf_0 4 rfl) (v := (a_cnt σ)) hL.cnt (b := 9) rfl ?_
    refine r_icmp_ge (dk_at ktX2_placeOf_0 5 rfl) (b := 20) (by decide) (b2 := 12) rfl (fun c9 => ?_) (fun c9 => ?_)
    · skip
      refine rc_p (p_iconst (v := (-1)) (dk_at ktX2_placeOf_0 10 rfl) (by decide) (b := 21) rfl) ?_
      refine r_iret (dk_at ktX2_placeOf_0 11 rfl) rfl rfl ⟨_, rfl, ?_⟩
      exact ⟨recAt_big hI c9, rfl, rfl⟩
    · skip
      refine rc_p (p_aload_n 0 (dk_at ktX2_placeOf_0 6 rfl) rfl rfl (b := 13) rfl) ?_
      refine r_geti fl_X2_28 rfl (hd.lt 16 (by decide)) hd.s16 (dk_at ktX2_placeOf_0 7 rfl) (v := (activeI σ)) hL.1 (b := 16) rfl ?_
      refine rc_p (p_iconst (v := (-1)) (dk_at ktX2_placeOf_0 8 rfl) (by decide) (b := 17) rfl) ?_
      refine r_icmp_ne (dk_at ktX2_placeOf_0 9 rfl) (b := 22) (by decide) (b2 := 20) rfl (fun c17 => ?_) (fun c17 => ?_)
      · skip
        obtain ⟨p, hp, ep⟩ := act_n rfl c17
        refine rc_p (p_aload_n 2 (dk_at ktX2_placeOf_0 12 rfl) rfl rfl (b := 23) rfl) ?_
        refine r_geta fl_X2_18 rfl (hd.lt 1 (by decide)) hd.s1 (dk_at ktX2_placeOf_0 13 rfl) hd.g1_0 (b := 26) rfl ?_
        refine rc_p (p_iconst (v := 2) (dk_at ktX2_placeOf_0 14 rfl) (by decide) (b := 27) rfl) ?_
        refine rc_p (p_aload_n 0 (dk_at ktX2_placeOf_0 15 rfl) rfl rfl (b := 28) rfl) ?_
        refine r_geti fl_X2_28 rfl (hd.lt 16 (by decide)) hd.s16 (dk_at ktX2_placeOf_0 16 rfl) (v := (nI p)) (hL.1.trans ep) (b := 31) rfl ?_
        refine rc_p (p_iadd (v := (nI (2 + p))) (dk_at ktX2_placeOf_0 17 rfl) (nI_add 2 p) (b := 32) rfl) ?_
        refine r_aald (j := 2 + p) (id2 := (d + 3 + (2 + p))) (hd.lt 2 (by decide)) hd.s2 (by decide) (dk_at ktX2_placeOf_0 18 rfl) rfl ⟨by omega, by decide⟩ (hd.gc (by omega)) (b := 33) rfl ?_
        refine rc_p (p_astore_n (ls' := [(3, .ref (d + 3 + (2 + p))), (0, .ref (d + 16)), (1, .int i), (2, .ref (d + 1))]) (dk_at ktX2_placeOf_0 19 rfl) rfl (by decide) rfl (b := 34) rfl) ?_
        refine rc_p (p_iconst (v := 0) (dk_at ktX2_placeOf_0 20 rfl) (by decide) (b := 35) rfl) ?_
        refine rc_p (p_istore (ls' := [(4, .int 0), (3, .ref (d + 3 + (2 + p))), (0, .ref (d + 16)), (1, .int i), (2, .ref (d + 1))]) (dk_at ktX2_placeOf_0 21 rfl) (by decide) rfl (b := 37) rfl) ?_
        refine rc_p (p_iconst (v := 1) (dk_at ktX2_placeOf_0 22 rfl) (by decide) (b := 38) rfl) ?_
        refine rc_p (p_istore (ls' := [(5, .int 1), (4, .int 0), (3, .ref (d + 3 + (2 + p))), (0, .ref (d + 16)), (1, .int i), (2, .ref (d + 1))]) (dk_at ktX2_placeOf_0 23 rfl) (by decide) rfl (b := 40) rfl) ?_
        refine rc_sub [1, 0, 2, 3, 4, 5] (ls' := [(4, .int 0), (5, .int 1), (3, .ref (d + 3 + (2 + p))), (0, .ref (d + 16)), (1, .int i), (2, .ref (d + 1))]) rfl ?_
        exact cut40 p hp ep 1000 1 _ (by omega) (by omega) (by omega) (by rw [cntN_1]; rfl) (recAt_p hp ep)
      · skip
        refine rc_p (p_iconst (v := (-1)) (dk_at ktX2_placeOf_0 10 rfl) (by decide) (b := 21) rfl) ?_
        refine r_iret (dk_at ktX2_placeOf_0 11 rfl) rfl rfl ⟨_, rfl, ?_⟩
        exact ⟨if_pos c17, rfl, rfl⟩
set_option maxRecDepth 4000 in
set_option maxHeartbeats 4000000 in
theorem s_X6_record {n : Nat} {sh : mS} {G : mG} {I : mI} {J : mJ} {bx bt d be bf bg b0 b1 bv : Nat} {σ : sT} {T N : Nat} (hB : BootH n sh G bx bt d be bf bg b0 b1 bv) (hR : RelD d I σ T N) (hI : Inv σ) (i w : Int32) : Sp yX6_record cX6_record 6 (some FieldType.int) 7 310 1 6 [.ref bx, .int i, .int w] n sh G I J (Qi (fun r_ I_ J_ => cIn w 0 2 = 0 ∧ a_rec σ i w = r_ ∧ J = J_ ∧ RelN d I_ (σ) (T + 0) ∧ FB d bg I I_)) (eX (cIn w 0 2) I J) := by
  have hd := hB.hD
  have hord := hB.ord
  have hb := hI.bd
  have hNs := hR.2.2.2.1
  have hN61 := hR.2.2.2.2.1
  have hTm := hR.2.2.2.2.2
  rcases ar_c w with rfl | rfl | rfl | hw
  · refine Sp.of (by decide) (ls := [(0, .ref bx), (1, .int i), (2, .int 0)]) (fun _ => rfl) (fun _ => Nat.le_of_ble_eq_true rfl) ?_
    refine rc_p (p_iload_n 2 (dk_at ktX6_record_0 0 rfl) rfl rfl (b := 1) rfl) ?_
    refine rc_p (p_iconst (v := 0) (dk_at ktX6_record_0 1 rfl) (by decide) (b := 2) rfl) ?_
    refine rc_p (p_iconst (v := 2) (dk_at ktX6_record_0 2 rfl) (by decide) (b := 3) rfl) ?_
    refine r_vSX (As := [.int 0, .int 0, .int 2]) (rest := []) (s_X6_requireRange 0 0 2) cw_X6_71 qs_X6_requireRange (dk_at ktX6_record_0 3 rfl) rfl rfl (Nat.le_of_ble_eq_true rfl) (by decide) (b := 6) rfl (fun _ _ _ h => ⟨Or.inl ⟨h.1, cIn_f h.2.1⟩, h.2.2⟩) (fun I1 J2 hq3 => ?_)
    obtain ⟨ok4, rfl, rfl⟩ := hq3
    refine rc_p (p_aload_n 0 (dk_at ktX6_record_0 4 rfl) rfl rfl (b := 7) rfl) ?_
    refine r_rV (As' := []) (rest := []) (s_X6_readLedger hB (σ := σ) hR hI) cw_X6_162 qi_X6_readLedger qv_X6_readLedger rfl hB.l0 hB.s0 (dk_at ktX6_record_0 5 rfl) rfl rfl (Nat.le_of_ble_eq_true rfl) (by decide) (b := 10) rfl (fun v8 I5 J6 q7 => ?_)
    obtain ⟨rfl, rfl, hR9, hL11, hF10⟩ := q7
    refine rc_p (p_astore_n (ls' := [(3, .ref (d + 16)), (0, .ref bx), (1, .int i), (2, .int 0)]) (dk_at ktX6_record_0 6 rfl) rfl (by decide) rfl (b := 11) rfl) ?_
    refine rc_p (p_aload_n 0 (dk_at ktX6_record_0 7 rfl) rfl rfl (b := 12) rfl) ?_
    refine rc_p (p_iload_n 2 (dk_at ktX6_record_0 8 rfl) rfl rfl (b := 13) rfl) ?_
    refine rc_p (p_aload_n 1 (dk_at ktX6_record_0 9 rfl) rfl rfl (b := 14) rfl) ?_
    refine r_geta fl_X6_27 rfl hB.l0 hB.s0 (dk_at ktX6_record_0 10 rfl) hB.g0_1 (b := 17) rfl ?_
    refine r_geta fl_X6_57 rfl hd.l0 hd.s0 (dk_at ktX6_record_0 11 rfl) hd.g0_0 (b := 20) rfl ?_
    refine r_iV (As' := [.int i, .ref (d + 1)]) (rest := []) (s_X2_placeOf hd (σ := σ) hR9 hI hL11 i) cw_X6_197 qi_X2_placeOf qv_X2_placeOf rfl (hd.lt 16 (by decide)) hd.s16 (dk_at ktX6_record_0 12 rfl) rfl rfl (Nat.le_of_ble_eq_true rfl) (by decide) (b := 23) rfl (fun v15 I12 J13 q14 => ?_)
    obtain ⟨rfl, rfl, rfl⟩ := q14
    refine rc_p (p_istore (ls' := [(4, .int (recAt σ i)), (3, .ref (d + 16)), (0, .ref bx), (1, .int i), (2, .int 0)]) (dk_at ktX6_record_0 13 rfl) (by decide) rfl (b := 25) rfl) ?_
    refine rc_p (p_iload 0 (dk_at ktX6_record_0 14 rfl) rfl (b := 27) rfl) ?_
    refine rc_p (p_iconst (v := (-1)) (dk_at ktX6_record_0 15 rfl) (by decide) (b := 28) rfl) ?_
    refine r_icmp_ne (dk_at ktX6_record_0 16 rfl) (b := 33) (by decide) (b2 := 31) rfl (fun c28 => ?_) (fun c28 => ?_)
    · skip
      obtain ⟨p, k, hp, ep, hk1, hk2, hk3, ek, _, _⟩ := recAt_n hI c28
      rw [ek]
      have hwk := wd_tn (hI.2.2.2.1 (211 + 32 * p + k) (by omega) (by omega))
      refine rc_p (p_aload_n 2 (dk_at ktX6_record_0 19 rfl) rfl rfl (b := 34) rfl) ?_
      refine r_geta fl_X6_27 rfl hB.l0 hB.s0 (dk_at ktX6_record_0 20 rfl) hB.g0_1 (b := 37) rfl ?_
      refine r_geta fl_X6_57 rfl hd.l0 hd.s0 (dk_at ktX6_record_0 21 rfl) hd.g0_0 (b := 40) rfl ?_
      refine r_geta fl_X6_141 rfl (hd.lt 1 (by decide)) hd.s1 (dk_at ktX6_record_0 22 rfl) hd.g1_0 (b := 43) rfl ?_
      refine rc_p (p_iconst (v := 2) (dk_at ktX6_record_0 23 rfl) (by decide) (b := 44) rfl) ?_
      refine rc_p (p_aload_n 1 (dk_at ktX6_record_0 24 rfl) rfl rfl (b := 45) rfl) ?_
      refine r_geti fl_X6_185 rfl (hd.lt 16 (by decide)) hd.s16 (dk_at ktX6_record_0 25 rfl) (v := (nI p)) (hL11.1.trans ep) (b := 48) rfl ?_
      refine rc_p (p_iadd (v := (nI (2 + p))) (dk_at ktX6_record_0 26 rfl) (nI_add 2 p) (b := 49) rfl) ?_
      refine r_aald (j := 2 + p) (id2 := (d + 3 + (2 + p))) (hd.lt 2 (by decide)) hd.s2 (by decide) (dk_at ktX6_record_0 27 rfl) rfl ⟨by omega, by decide⟩ (hd.gc (by omega)) (b := 50) rfl ?_
      refine rc_p (p_iload 0 (dk_at ktX6_record_0 28 rfl) rfl (b := 52) rfl) ?_
      refine r_iald (j := k) (by have := hd.1; omega) (hd.sc (by omega)) (dk_at ktX6_record_0 29 rfl) rfl ⟨by omega, by decide⟩ (v := (nI (tn (σ (211 + 32 * p + k))))) ((hR9.at3 (q := 3) (r := (2 + p)) (k := k) (a := 211 + 32 * p + k) (lc_j (by omega) (by omega))).trans hwk.1) (b := 53) rfl ?_
      refine rc_p (p_istore (ls' := [(5, .int (nI (tn (σ (211 + 32 * p + k))))), (4, .int (nI k)), (3, .ref (d + 16)), (0, .ref bx), (1, .int i), (2, .int 0)]) (dk_at ktX6_record_0 30 rfl) (by decide) rfl (b := 55) rfl) ?_
      refine rc_p (p_iload_n 5 (dk_at ktX6_record_0 31 rfl) rfl rfl (b := 56) rfl) ?_
      refine r_if_ne (dk_at ktX6_record_0 32 rfl) (b := 65) (by decide) (b2 := 59) rfl (fun c56 => ?_) (fun c56 => ?_)
      · first | exact absurd c56 (by decide) | exact absurd (by decide) c56
      · skip
        refine rc_p (p_iload 0 (dk_at ktX6_record_0 33 rfl) rfl (b := 61) rfl) ?_
        refine r_iS (As := [.int (nI (tn (σ (211 + 32 * p + k))))]) (rest := []) (s_X2_kindOf (a := tn (σ (211 + 32 * p + k))) (by omega)) cw_X6_201 qs_X2_kindOf (dk_at ktX6_record_0 34 rfl) rfl rfl (Nat.le_of_ble_eq_true rfl) (by decide) (b := 64) rfl (fun v19 I16 J17 q18 => ?_)
        obtain ⟨rfl, rfl, rfl⟩ := q18
        refine r_iret (dk_at ktX6_record_0 35 rfl) rfl rfl ⟨_, rfl, ?_⟩
        refine ⟨cIn_t ok4, ?_, rfl, RelN.of hR9 (by omega), (FD.fb (os := [0, 1, 2, 3, 4, 5, 6, 7, 8, 9, 10, 11, 12, 13, 14, 15, 16, 17, 18]) (FD.tr FD.rf (hF10.mo (by simp <;> omega))) (by simp <;> omega) (by omega))⟩
        exact (if_neg c28).trans ((if_pos rfl).trans (by rw [ep, ek, tn_nI (by omega), tn_nI (by omega)]; exact (congrArg kindI hwk.1).trans (kind_n hwk.2)))
    · skip
      refine rc_p (p_iconst (v := (-1)) (dk_at ktX6_record_0 17 rfl) (by decide) (b := 32) rfl) ?_
      refine r_iret (dk_at ktX6_record_0 18 rfl) rfl rfl ⟨_, rfl, ?_⟩
      refine ⟨cIn_t ok4, ?_, rfl, RelN.of hR9 (by omega), (FD.fb (os := [0, 1, 2, 3, 4, 5, 6, 7, 8, 9, 10, 11, 12, 13, 14, 15, 16, 17, 18]) (FD.tr FD.rf (hF10.mo (by simp <;> omega))) (by simp <;> omega) (by omega))⟩
      exact if_pos c28
  · refine Sp.of (by decide) (ls := [(0, .ref bx), (1, .int i), (2, .int 1)]) (fun _ => rfl) (fun _ => Nat.le_of_ble_eq_true rfl) ?_
    refine rc_p (p_iload_n 2 (dk_at ktX6_record_0 0 rfl) rfl rfl (b := 1) rfl) ?_
    refine rc_p (p_iconst (v := 0) (dk_at ktX6_record_0 1 rfl) (by decide) (b := 2) rfl) ?_
    refine rc_p (p_iconst (v := 2) (dk_at ktX6_record_0 2 rfl) (by decide) (b := 3) rfl) ?_
    refine r_vSX (As := [.int 1, .int 0, .int 2]) (rest := []) (s_X6_requireRange 1 0 2) cw_X6_71 qs_X6_requireRange (dk_at ktX6_record_0 3 rfl) rfl rfl (Nat.le_of_ble_eq_true rfl) (by decide) (b := 6) rfl (fun _ _ _ h => ⟨Or.inl ⟨h.1, cIn_f h.2.1⟩, h.2.2⟩) (fun I20 J21 hq22 => ?_)
    obtain ⟨ok23, rfl, rfl⟩ := hq22
    refine rc_p (p_aload_n 0 (dk_at ktX6_record_0 4 rfl) rfl rfl (b := 7) rfl) ?_
    refine r_rV (As' := []) (rest := []) (s_X6_readLedger hB (σ := σ) hR hI) cw_X6_162 qi_X6_readLedger qv_X6_readLedger rfl hB.l0 hB.s0 (dk_at ktX6_record_0 5 rfl) rfl rfl (Nat.le_of_ble_eq_true rfl) (by decide) (b := 10) rfl (fun v27 I24 J25 q26 => ?_)
    obtain ⟨rfl, rfl, hR28, hL30, hF29⟩ := q26
    refine rc_p (p_astore_n (ls' := [(3, .ref (d + 16)), (0, .ref bx), (1, .int i), (2, .int 1)]) (dk_at ktX6_record_0 6 rfl) rfl (by decide) rfl (b := 11) rfl) ?_
    refine rc_p (p_aload_n 0 (dk_at ktX6_record_0 7 rfl) rfl rfl (b := 12) rfl) ?_
    refine rc_p (p_iload_n 2 (dk_at ktX6_record_0 8 rfl) rfl rfl (b := 13) rfl) ?_
    refine rc_p (p_aload_n 1 (dk_at ktX6_record_0 9 rfl) rfl rfl (b := 14) rfl) ?_
    refine r_geta fl_X6_27 rfl hB.l0 hB.s0 (dk_at ktX6_record_0 10 rfl) hB.g0_1 (b := 17) rfl ?_
    refine r_geta fl_X6_57 rfl hd.l0 hd.s0 (dk_at ktX6_record_0 11 rfl) hd.g0_0 (b := 20) rfl ?_
    refine r_iV (As' := [.int i, .ref (d + 1)]) (rest := []) (s_X2_placeOf hd (σ := σ) hR28 hI hL30 i) cw_X6_197 qi_X2_placeOf qv_X2_placeOf rfl (hd.lt 16 (by decide)) hd.s16 (dk_at ktX6_record_0 12 rfl) rfl rfl (Nat.le_of_ble_eq_true rfl) (by decide) (b := 23) rfl (fun v34 I31 J32 q33 => ?_)
    obtain ⟨rfl, rfl, rfl⟩ := q33
    refine rc_p (p_istore (ls' := [(4, .int (recAt σ i)), (3, .ref (d + 16)), (0, .ref bx), (1, .int i), (2, .int 1)]) (dk_at ktX6_record_0 13 rfl) (by decide) rfl (b := 25) rfl) ?_
    refine rc_p (p_iload 0 (dk_at ktX6_record_0 14 rfl) rfl (b := 27) rfl) ?_
    refine rc_p (p_iconst (v := (-1)) (dk_at ktX6_record_0 15 rfl) (by decide) (b := 28) rfl) ?_
    refine r_icmp_ne (dk_at ktX6_record_0 16 rfl) (b := 33) (by decide) (b2 := 31) rfl (fun c28 => ?_) (fun c28 => ?_)
    · skip
      obtain ⟨p, k, hp, ep, hk1, hk2, hk3, ek, _, _⟩ := recAt_n hI c28
      rw [ek]
      have hwk := wd_tn (hI.2.2.2.1 (211 + 32 * p + k) (by omega) (by omega))
      refine rc_p (p_aload_n 2 (dk_at ktX6_record_0 19 rfl) rfl rfl (b := 34) rfl) ?_
      refine r_geta fl_X6_27 rfl hB.l0 hB.s0 (dk_at ktX6_record_0 20 rfl) hB.g0_1 (b := 37) rfl ?_
      refine r_geta fl_X6_57 rfl hd.l0 hd.s0 (dk_at ktX6_record_0 21 rfl) hd.g0_0 (b := 40) rfl ?_
      refine r_geta fl_X6_141 rfl (hd.lt 1 (by decide)) hd.s1 (dk_at ktX6_record_0 22 rfl) hd.g1_0 (b := 43) rfl ?_
      refine rc_p (p_iconst (v := 2) (dk_at ktX6_record_0 23 rfl) (by decide) (b := 44) rfl) ?_
      refine rc_p (p_aload_n 1 (dk_at ktX6_record_0 24 rfl) rfl rfl (b := 45) rfl) ?_
      refine r_geti fl_X6_185 rfl (hd.lt 16 (by decide)) hd.s16 (dk_at ktX6_record_0 25 rfl) (v := (nI p)) (hL30.1.trans ep) (b := 48) rfl ?_
      refine rc_p (p_iadd (v := (nI (2 + p))) (dk_at ktX6_record_0 26 rfl) (nI_add 2 p) (b := 49) rfl) ?_
      refine r_aald (j := 2 + p) (id2 := (d + 3 + (2 + p))) (hd.lt 2 (by decide)) hd.s2 (by decide) (dk_at ktX6_record_0 27 rfl) rfl ⟨by omega, by decide⟩ (hd.gc (by omega)) (b := 50) rfl ?_
      refine rc_p (p_iload 0 (dk_at ktX6_record_0 28 rfl) rfl (b := 52) rfl) ?_
      refine r_iald (j := k) (by have := hd.1; omega) (hd.sc (by omega)) (dk_at ktX6_record_0 29 rfl) rfl ⟨by omega, by decide⟩ (v := (nI (tn (σ (211 + 32 * p + k))))) ((hR28.at3 (q := 3) (r := (2 + p)) (k := k) (a := 211 + 32 * p + k) (lc_j (by omega) (by omega))).trans hwk.1) (b := 53) rfl ?_
      refine rc_p (p_istore (ls' := [(5, .int (nI (tn (σ (211 + 32 * p + k))))), (4, .int (nI k)), (3, .ref (d + 16)), (0, .ref bx), (1, .int i), (2, .int 1)]) (dk_at ktX6_record_0 30 rfl) (by decide) rfl (b := 55) rfl) ?_
      refine rc_p (p_iload_n 5 (dk_at ktX6_record_0 31 rfl) rfl rfl (b := 56) rfl) ?_
      refine r_if_ne (dk_at ktX6_record_0 32 rfl) (b := 65) (by decide) (b2 := 59) rfl (fun c56 => ?_) (fun c56 => ?_)
      · skip
        refine rc_p (p_iload_n 5 (dk_at ktX6_record_0 36 rfl) rfl rfl (b := 66) rfl) ?_
        refine rc_p (p_iconst (v := 1) (dk_at ktX6_record_0 37 rfl) (by decide) (b := 67) rfl) ?_
        refine r_icmp_ne (dk_at ktX6_record_0 38 rfl) (b := 78) (by decide) (b2 := 70) rfl (fun c67 => ?_) (fun c67 => ?_)
        · first | exact absurd c67 (by decide) | exact absurd (by decide) c67
        · skip
          refine rc_p (p_iload 0 (dk_at ktX6_record_0 39 rfl) rfl (b := 72) rfl) ?_
          refine r_iS (As := [.int (nI (tn (σ (211 + 32 * p + k))))]) (rest := []) (s_X2_valueOf (a := tn (σ (211 + 32 * p + k))) (by omega)) cw_X6_204 qs_X2_valueOf (dk_at ktX6_record_0 40 rfl) rfl rfl (Nat.le_of_ble_eq_true rfl) (by decide) (b := 75) rfl (fun v38 I35 J36 q37 => ?_)
          obtain ⟨rfl, rfl, rfl⟩ := q37
          refine rc_p (p_goto (b := 80) (dk_at ktX6_record_0 41 rfl) (by decide)) ?_
          refine r_iret (dk_at ktX6_record_0 43 rfl) rfl rfl ⟨_, rfl, ?_⟩
          refine ⟨cIn_t ok23, ?_, rfl, RelN.of hR28 (by omega), (FD.fb (os := [0, 1, 2, 3, 4, 5, 6, 7, 8, 9, 10, 11, 12, 13, 14, 15, 16, 17, 18]) (FD.tr FD.rf (hF29.mo (by simp <;> omega))) (by simp <;> omega) (by omega))⟩
          exact (if_neg c28).trans (((if_neg (by decide)).trans (if_pos rfl)).trans (by rw [ep, ek, tn_nI (by omega), tn_nI (by omega)]; exact (congrArg valI hwk.1).trans (val_n hwk.2)))
      · first | exact absurd c56 (by decide) | exact absurd (by decide) c56
    · skip
      refine rc_p (p_iconst (v := (-1)) (dk_at ktX6_record_0 17 rfl) (by decide) (b := 32) rfl) ?_
      refine r_iret (dk_at ktX6_record_0 18 rfl) rfl rfl ⟨_, rfl, ?_⟩
      refine ⟨cIn_t ok23, ?_, rfl, RelN.of hR28 (by omega), (FD.fb (os := [0, 1, 2, 3, 4, 5, 6, 7, 8, 9, 10, 11, 12, 13, 14, 15, 16, 17, 18]) (FD.tr FD.rf (hF29.mo (by simp <;> omega))) (by simp <;> omega) (by omega))⟩
      exact if_pos c28
  · refine Sp.of (by decide) (ls := [(0, .ref bx), (1, .int i), (2, .int 2)]) (fun _ => rfl) (fun _ => Nat.le_of_ble_eq_true rfl) ?_
    refine rc_p (p_iload_n 2 (dk_at ktX6_record_0 0 rfl) rfl rfl (b := 1) rfl) ?_
    refine rc_p (p_iconst (v := 0) (dk_at ktX6_record_0 1 rfl) (by decide) (b := 2) rfl) ?_
    refine rc_p (p_iconst (v := 2) (dk_at ktX6_record_0 2 rfl) (by decide) (b := 3) rfl) ?_
    refine r_vSX (As := [.int 2, .int 0, .int 2]) (rest := []) (s_X6_requireRange 2 0 2) cw_X6_71 qs_X6_requireRange (dk_at ktX6_record_0 3 rfl) rfl rfl (Nat.le_of_ble_eq_true rfl) (by decide) (b := 6) rfl (fun _ _ _ h => ⟨Or.inl ⟨h.1, cIn_f h.2.1⟩, h.2.2⟩) (fun I39 J40 hq41 => ?_)
    obtain ⟨ok42, rfl, rfl⟩ := hq41
    refine rc_p (p_aload_n 0 (dk_at ktX6_record_0 4 rfl) rfl rfl (b := 7) rfl) ?_
    refine r_rV (As' := []) (rest := []) (s_X6_readLedger hB (σ := σ) hR hI) cw_X6_162 qi_X6_readLedger qv_X6_readLedger rfl hB.l0 hB.s0 (dk_at ktX6_record_0 5 rfl) rfl rfl (Nat.le_of_ble_eq_true rfl) (by decide) (b := 10) rfl (fun v46 I43 J44 q45 => ?_)
    obtain ⟨rfl, rfl, hR47, hL49, hF48⟩ := q45
    refine rc_p (p_astore_n (ls' := [(3, .ref (d + 16)), (0, .ref bx), (1, .int i), (2, .int 2)]) (dk_at ktX6_record_0 6 rfl) rfl (by decide) rfl (b := 11) rfl) ?_
    refine rc_p (p_aload_n 0 (dk_at ktX6_record_0 7 rfl) rfl rfl (b := 12) rfl) ?_
    refine rc_p (p_iload_n 2 (dk_at ktX6_record_0 8 rfl) rfl rfl (b := 13) rfl) ?_
    refine rc_p (p_aload_n 1 (dk_at ktX6_record_0 9 rfl) rfl rfl (b := 14) rfl) ?_
    refine r_geta fl_X6_27 rfl hB.l0 hB.s0 (dk_at ktX6_record_0 10 rfl) hB.g0_1 (b := 17) rfl ?_
    refine r_geta fl_X6_57 rfl hd.l0 hd.s0 (dk_at ktX6_record_0 11 rfl) hd.g0_0 (b := 20) rfl ?_
    refine r_iV (As' := [.int i, .ref (d + 1)]) (rest := []) (s_X2_placeOf hd (σ := σ) hR47 hI hL49 i) cw_X6_197 qi_X2_placeOf qv_X2_placeOf rfl (hd.lt 16 (by decide)) hd.s16 (dk_at ktX6_record_0 12 rfl) rfl rfl (Nat.le_of_ble_eq_true rfl) (by decide) (b := 23) rfl (fun v53 I50 J51 q52 => ?_)
    obtain ⟨rfl, rfl, rfl⟩ := q52
    refine rc_p (p_istore (ls' := [(4, .int (recAt σ i)), (3, .ref (d + 16)), (0, .ref bx), (1, .int i), (2, .int 2)]) (dk_at ktX6_record_0 13 rfl) (by decide) rfl (b := 25) rfl) ?_
    refine rc_p (p_iload 0 (dk_at ktX6_record_0 14 rfl) rfl (b := 27) rfl) ?_
    refine rc_p (p_iconst (v := (-1)) (dk_at ktX6_record_0 15 rfl) (by decide) (b := 28) rfl) ?_
    refine r_icmp_ne (dk_at ktX6_record_0 16 rfl) (b := 33) (by decide) (b2 := 31) rfl (fun c28 => ?_) (fun c28 => ?_)
    · skip
      obtain ⟨p, k, hp, ep, hk1, hk2, hk3, ek, _, _⟩ := recAt_n hI c28
      rw [ek]
      have hwk := wd_tn (hI.2.2.2.1 (211 + 32 * p + k) (by omega) (by omega))
      refine rc_p (p_aload_n 2 (dk_at ktX6_record_0 19 rfl) rfl rfl (b := 34) rfl) ?_
      refine r_geta fl_X6_27 rfl hB.l0 hB.s0 (dk_at ktX6_record_0 20 rfl) hB.g0_1 (b := 37) rfl ?_
      refine r_geta fl_X6_57 rfl hd.l0 hd.s0 (dk_at ktX6_record_0 21 rfl) hd.g0_0 (b := 40) rfl ?_
      refine r_geta fl_X6_141 rfl (hd.lt 1 (by decide)) hd.s1 (dk_at ktX6_record_0 22 rfl) hd.g1_0 (b := 43) rfl ?_
      refine rc_p (p_iconst (v := 2) (dk_at ktX6_record_0 23 rfl) (by decide) (b := 44) rfl) ?_
      refine rc_p (p_aload_n 1 (dk_at ktX6_record_0 24 rfl) rfl rfl (b := 45) rfl) ?_
      refine r_geti fl_X6_185 rfl (hd.lt 16 (by decide)) hd.s16 (dk_at ktX6_record_0 25 rfl) (v := (nI p)) (hL49.1.trans ep) (b := 48) rfl ?_
      refine rc_p (p_iadd (v := (nI (2 + p))) (dk_at ktX6_record_0 26 rfl) (nI_add 2 p) (b := 49) rfl) ?_
      refine r_aald (j := 2 + p) (id2 := (d + 3 + (2 + p))) (hd.lt 2 (by decide)) hd.s2 (by decide) (dk_at ktX6_record_0 27 rfl) rfl ⟨by omega, by decide⟩ (hd.gc (by omega)) (b := 50) rfl ?_
      refine rc_p (p_iload 0 (dk_at ktX6_record_0 28 rfl) rfl (b := 52) rfl) ?_
      refine r_iald (j := k) (by have := hd.1; omega) (hd.sc (by omega)) (dk_at ktX6_record_0 29 rfl) rfl ⟨by omega, by decide⟩ (v := (nI (tn (σ (211 + 32 * p + k))))) ((hR47.at3 (q := 3) (r := (2 + p)) (k := k) (a := 211 + 32 * p + k) (lc_j (by omega) (by omega))).trans hwk.1) (b := 53) rfl ?_
      refine rc_p (p_istore (ls' := [(5, .int (nI (tn (σ (211 + 32 * p + k))))), (4, .int (nI k)), (3, .ref (d + 16)), (0, .ref bx), (1, .int i), (2, .int 2)]) (dk_at ktX6_record_0 30 rfl) (by decide) rfl (b := 55) rfl) ?_
      refine rc_p (p_iload_n 5 (dk_at ktX6_record_0 31 rfl) rfl rfl (b := 56) rfl) ?_
      refine r_if_ne (dk_at ktX6_record_0 32 rfl) (b := 65) (by decide) (b2 := 59) rfl (fun c56 => ?_) (fun c56 => ?_)
      · skip
        refine rc_p (p_iload_n 5 (dk_at ktX6_record_0 36 rfl) rfl rfl (b := 66) rfl) ?_
        refine rc_p (p_iconst (v := 1) (dk_at ktX6_record_0 37 rfl) (by decide) (b := 67) rfl) ?_
        refine r_icmp_ne (dk_at ktX6_record_0 38 rfl) (b := 78) (by decide) (b2 := 70) rfl (fun c67 => ?_) (fun c67 => ?_)
        · skip
          refine rc_p (p_iload 1 (dk_at ktX6_record_0 42 rfl) rfl (b := 80) rfl) ?_
          refine r_iret (dk_at ktX6_record_0 43 rfl) rfl rfl ⟨_, rfl, ?_⟩
          refine ⟨cIn_t ok42, ?_, rfl, RelN.of hR47 (by omega), (FD.fb (os := [0, 1, 2, 3, 4, 5, 6, 7, 8, 9, 10, 11, 12, 13, 14, 15, 16, 17, 18]) (FD.tr FD.rf (hF48.mo (by simp <;> omega))) (by simp <;> omega) (by omega))⟩
          exact (if_neg c28).trans ((if_neg (by decide)).trans ((if_neg (by decide)).trans ek))
        · first | exact absurd c67 (by decide) | exact absurd (by decide) c67
      · first | exact absurd c56 (by decide) | exact absurd (by decide) c56
    · skip
      refine rc_p (p_iconst (v := (-1)) (dk_at ktX6_record_0 17 rfl) (by decide) (b := 32) rfl) ?_
      refine r_iret (dk_at ktX6_record_0 18 rfl) rfl rfl ⟨_, rfl, ?_⟩
      refine ⟨cIn_t ok42, ?_, rfl, RelN.of hR47 (by omega), (FD.fb (os := [0, 1, 2, 3, 4, 5, 6, 7, 8, 9, 10, 11, 12, 13, 14, 15, 16, 17, 18]) (FD.tr FD.rf (hF48.mo (by simp <;> omega))) (by simp <;> omega) (by omega))⟩
      exact if_pos c28
  · refine Sp.of (by decide) (ls := [(0, .ref bx), (1, .int i), (2, .int w)]) (fun _ => rfl) (fun _ => Nat.le_of_ble_eq_true rfl) ?_
    refine rc_p (p_iload_n 2 (dk_at ktX6_record_0 0 rfl) rfl rfl (b := 1) rfl) ?_
    refine rc_p (p_iconst (v := 0) (dk_at ktX6_record_0 1 rfl) (by decide) (b := 2) rfl) ?_
    refine rc_p (p_iconst (v := 2) (dk_at ktX6_record_0 2 rfl) (by decide) (b := 3) rfl) ?_
    refine r_vSX (As := [.int w, .int 0, .int 2]) (rest := []) (s_X6_requireRange w 0 2) cw_X6_71 qs_X6_requireRange (dk_at ktX6_record_0 3 rfl) rfl rfl (Nat.le_of_ble_eq_true rfl) (by decide) (b := 6) rfl (fun _ _ _ h => ⟨Or.inl ⟨h.1, cIn_f h.2.1⟩, h.2.2⟩) (fun I54 J55 hq56 => ?_)
    obtain ⟨ok57, rfl, rfl⟩ := hq56
    exact absurd (hw.symm.trans ok57) (by decide)
set_option maxRecDepth 4000 in
set_option maxHeartbeats 4000000 in
theorem s_X6_thriftyPages {n : Nat} {sh : mS} {G : mG} {I : mI} {J : mJ} {bx bt d be bf bg b0 b1 bv : Nat} {σ : sT} {T N : Nat} (hB : BootH n sh G bx bt d be bf bg b0 b1 bv) (hR : RelD d I σ T N) (hI : Inv σ) : Sp yX6_thriftyPages cX6_thriftyPages 3 (some FieldType.int) 2 75 0 0 [.ref bx] n sh G I J (Qi (fun r_ I_ J_ => a_tp σ = r_ ∧ J = J_ ∧ RelN d I_ (σ) (T + 0) ∧ FB d bg I I_)) (nX) := by
  have hd := hB.hD
  have hord := hB.ord
  have hb := hI.bd
  have hNs := hR.2.2.2.1
  have hN61 := hR.2.2.2.2.1
  have hTm := hR.2.2.2.2.2
  refine Sp.of (by decide) (ls := [(0, .ref bx)]) (fun _ => rfl) (fun _ => Nat.le_of_ble_eq_true rfl) ?_
  have cut27 : (σ 7 = 1 ∧ ¬ σ 4 = 0) → ∀ (r : Nat), r < 2 → σ 8 = nI r → ∀ (t p : Nat) (y : Int32), nW σ / nP σ - p < t → p ≤ nW σ / nP σ → y = orL (tpF σ (1 - r)) p → Rc RX6 cX6_thriftyPages 3 (some FieldType.int) 2 75 0 0 n sh G (Qi (fun r_ I_ J_ => a_tp σ = r_ ∧ J = J_ ∧ RelN d I_ (σ) (T + 0) ∧ FB d bg I I_)) (nX) 0 0 27 [(1, .int y), (2, .int (nI p)), (0, .ref bx)] [] I J := by
    intro hcond r hr er t
    have h16 := pgN_16 hI 0
    rw [pgN_n (by decide)] at h16
    induction t
    · intro p y h; omega
    rename_i t ih
    intro p y ht h1 hx
    subst hx
    refine rc_p (p_iload_n 1 (dk_at ktX6_thriftyPages_0 15 rfl) rfl rfl (b := 28) rfl) ?_
    refine rc_p (p_aload_n 2 (dk_at ktX6_thriftyPages_0 16 rfl) rfl rfl (b := 29) rfl) ?_
    refine r_geta fl_X6_27 rfl hB.l0 hB.s0 (dk_at ktX6_thriftyPages_0 17 rfl) hB.g0_1 (b := 32) rfl ?_
    refine r_geta fl_X6_57 rfl hd.l0 hd.s0 (dk_at ktX6_thriftyPages_0 18 rfl) hd.g0_0 (b := 35) rfl ?_
    refine r_geti fl_X6_156 rfl (hd.lt 1 (by decide)) hd.s1 (dk_at ktX6_thriftyPages_0 19 rfl) (v := (nI (nW σ / nP σ))) hR.2.1 (b := 38) rfl ?_
    refine r_icmp_ge (dk_at ktX6_thriftyPages_0 20 rfl) (b := 90) (by decide) (b2 := 41) rfl (fun c38 => ?_) (fun c38 => ?_)
    · have c38 : (nW σ / nP σ) ≤ p := (nI_leI (a := nW σ / nP σ) (b := p) (by omega) (by omega)).mp c38
      refine rc_p (p_iload_n 0 (dk_at ktX6_thriftyPages_0 46 rfl) rfl rfl (b := 91) rfl) ?_
      refine r_iret (dk_at ktX6_thriftyPages_0 47 rfl) rfl rfl ⟨_, rfl, ?_⟩
      refine ⟨?_, rfl, RelN.of hR (by omega), FB.rf⟩
      rw [a_tp, if_pos hcond, er, tn_nI (by omega), show nW σ / nP σ = p by omega]
    · have c38 : ¬ (nW σ / nP σ) ≤ p := fun h => c38 ((nI_leI (a := nW σ / nP σ) (b := p) (by omega) (by omega)).mpr h)
      refine rc_p (p_aload_n 2 (dk_at ktX6_thriftyPages_0 21 rfl) rfl rfl (b := 42) rfl) ?_
      refine r_geta fl_X6_27 rfl hB.l0 hB.s0 (dk_at ktX6_thriftyPages_0 22 rfl) hB.g0_1 (b := 45) rfl ?_
      refine r_geta fl_X6_57 rfl hd.l0 hd.s0 (dk_at ktX6_thriftyPages_0 23 rfl) hd.g0_0 (b := 48) rfl ?_
      refine rc_p (p_iconst (v := 1) (dk_at ktX6_thriftyPages_0 24 rfl) (by decide) (b := 49) rfl) ?_
      refine rc_p (p_aload_n 2 (dk_at ktX6_thriftyPages_0 25 rfl) rfl rfl (b := 50) rfl) ?_
      refine r_geta fl_X6_27 rfl hB.l0 hB.s0 (dk_at ktX6_thriftyPages_0 26 rfl) hB.g0_1 (b := 53) rfl ?_
      refine r_geti fl_X6_108 rfl hd.l0 hd.s0 (dk_at ktX6_thriftyPages_0 27 rfl) (v := (nI r)) ((hR.1 0 8 8 lc_0_8).trans er) (b := 56) rfl ?_
      refine rc_p (p_isub (v := (nI (1 - r))) (dk_at ktX6_thriftyPages_0 28 rfl) (pk_sub (a := 1) (b := r) (by omega)) (b := 57) rfl) ?_
      refine rc_p (p_iload_n 1 (dk_at ktX6_thriftyPages_0 29 rfl) rfl rfl (b := 58) rfl) ?_
      refine rc_p (p_aload_n 2 (dk_at ktX6_thriftyPages_0 30 rfl) rfl rfl (b := 59) rfl) ?_
      refine r_geta fl_X6_27 rfl hB.l0 hB.s0 (dk_at ktX6_thriftyPages_0 31 rfl) hB.g0_1 (b := 62) rfl ?_
      refine r_geta fl_X6_82 rfl hd.l0 hd.s0 (dk_at ktX6_thriftyPages_0 32 rfl) hd.g0_4 (b := 65) rfl ?_
      refine rc_p (p_aload_n 2 (dk_at ktX6_thriftyPages_0 33 rfl) rfl rfl (b := 66) rfl) ?_
      refine r_geta fl_X6_27 rfl hB.l0 hB.s0 (dk_at ktX6_thriftyPages_0 34 rfl) hB.g0_1 (b := 69) rfl ?_
      refine r_geti fl_X6_75 rfl hd.l0 hd.s0 (dk_at ktX6_thriftyPages_0 35 rfl) (v := (nI (nS σ))) ((hR.1 0 5 4 lc_0_5).trans (hI).w4) (b := 72) rfl ?_
      refine r_iV (As' := [.int (nI (1 - r)), .int (nI p), .ref (d + 18), .int (nI (nS σ))]) (rest := []) (s_X1_mustErase hd (σ := σ) hR hI (ar := d + 18) ⟨hd.lt 18 (by decide), hd.s18⟩ (1 - r) p (by omega) (by omega) (payS σ) (nS σ) (by omega) (fun j hj => (hR.1 18 (3 + j) (16 + (3 + j)) (lc_t (by omega) (by omega))).trans rfl)) cw_X6_231 qi_X1_mustErase qv_X1_mustErase rfl (hd.lt 1 (by decide)) hd.s1 (dk_at ktX6_thriftyPages_0 36 rfl) rfl rfl (Nat.le_of_ble_eq_true rfl) (by decide) (b := 75) rfl (fun v4 I1 J2 q3 => ?_)
      obtain ⟨rfl, rfl, rfl⟩ := q3
      refine r_if_eq (dk_at ktX6_thriftyPages_0 37 rfl) (b := 84) (by decide) (b2 := 78) rfl (fun c75 => ?_) (fun c75 => ?_)
      · have c75 := bi_f c75
        refine rc_p (p_iinc (j := 1) (v := (nI (p + 1))) (ls' := [(2, .int (nI (p + 1))), (1, .int (orL (tpF σ (1 - r)) p)), (0, .ref bx)]) (dk_at ktX6_thriftyPages_0 44 rfl) rfl (nI_add p 1) (by decide) rfl (b := 87) rfl) ?_
        refine rc_p (p_goto (b := 27) (dk_at ktX6_thriftyPages_0 45 rfl) (by decide)) ?_
        refine rc_sub [1, 0, 2] (ls' := [(1, .int (orL (tpF σ (1 - r)) p)), (2, .int (nI (p + 1))), (0, .ref bx)]) rfl ?_
        exact ih (p + 1) _ (by omega) (by omega) (by show _ = orL (tpF σ (1 - r)) p ||| tpF σ (1 - r) p; rw [tpF, if_neg (by rw [c75]; decide), Int32.or_zero])
      · have c75 := bi_t c75
        refine rc_p (p_iload_n 0 (dk_at ktX6_thriftyPages_0 38 rfl) rfl rfl (b := 79) rfl) ?_
        refine rc_p (p_iconst (v := 1) (dk_at ktX6_thriftyPages_0 39 rfl) (by decide) (b := 80) rfl) ?_
        refine rc_p (p_iload_n 1 (dk_at ktX6_thriftyPages_0 40 rfl) rfl rfl (b := 81) rfl) ?_
        refine rc_p (p_ishl (v := (1 <<< ((nI p) &&& 31))) (dk_at ktX6_thriftyPages_0 41 rfl) rfl (b := 82) rfl) ?_
        refine rc_p (p_ior (v := ((orL (tpF σ (1 - r)) p) ||| (1 <<< ((nI p) &&& 31)))) (dk_at ktX6_thriftyPages_0 42 rfl) rfl (b := 83) rfl) ?_
        refine rc_p (p_istore_n (ls' := [(1, .int ((orL (tpF σ (1 - r)) p) ||| (1 <<< ((nI p) &&& 31)))), (2, .int (nI p)), (0, .ref bx)]) (dk_at ktX6_thriftyPages_0 43 rfl) rfl (by decide) rfl (b := 84) rfl) ?_
        refine rc_p (p_iinc (j := 1) (v := (nI (p + 1))) (ls' := [(2, .int (nI (p + 1))), (1, .int ((orL (tpF σ (1 - r)) p) ||| (1 <<< ((nI p) &&& 31)))), (0, .ref bx)]) (dk_at ktX6_thriftyPages_0 44 rfl) rfl (nI_add p 1) (by decide) rfl (b := 87) rfl) ?_
        refine rc_p (p_goto (b := 27) (dk_at ktX6_thriftyPages_0 45 rfl) (by decide)) ?_
        refine rc_sub [1, 0, 2] (ls' := [(1, .int ((orL (tpF σ (1 - r)) p) ||| (1 <<< ((nI p) &&& 31)))), (2, .int (nI (p + 1))), (0, .ref bx)]) rfl ?_
        exact ih (p + 1) _ (by omega) (by omega) (by show _ = orL (tpF σ (1 - r)) p ||| tpF σ (1 - r) p; rw [tpF, if_pos c75]; rfl)
  refine rc_p (p_aload_n 0 (dk_at ktX6_thriftyPages_0 0 rfl) rfl rfl (b := 1) rfl) ?_
  refine r_geta fl_X6_27 rfl hB.l0 hB.s0 (dk_at ktX6_thriftyPages_0 1 rfl) hB.g0_1 (b := 4) rfl ?_
  refine r_geti fl_X6_108 rfl hd.l0 hd.s0 (dk_at ktX6_thriftyPages_0 2 rfl) (v := (σ 8)) (hR.1 0 8 8 lc_0_8) (b := 7) rfl ?_
  refine rc_p (p_iconst (v := (-1)) (dk_at ktX6_thriftyPages_0 3 rfl) (by decide) (b := 8) rfl) ?_
  refine r_icmp_eq (dk_at ktX6_thriftyPages_0 4 rfl) (b := 21) (by decide) (b2 := 11) rfl (fun c8 => ?_) (fun c8 => ?_)
  · skip
    refine rc_p (p_iconst (v := 0) (dk_at ktX6_thriftyPages_0 9 rfl) (by decide) (b := 22) rfl) ?_
    refine r_iret (dk_at ktX6_thriftyPages_0 10 rfl) rfl rfl ⟨_, rfl, ?_⟩
    refine ⟨?_, rfl, RelN.of hR (by omega), FB.rf⟩
    exact if_neg (fun g => by have := hI.2.2.1.run g.1; obtain ⟨r, hr, er⟩ := this; exact nI_nm1 (p := r) (by omega) (er.symm.trans c8))
  · skip
    refine rc_p (p_aload_n 0 (dk_at ktX6_thriftyPages_0 5 rfl) rfl rfl (b := 12) rfl) ?_
    refine r_geta fl_X6_27 rfl hB.l0 hB.s0 (dk_at ktX6_thriftyPages_0 6 rfl) hB.g0_1 (b := 15) rfl ?_
    refine r_geti fl_X6_75 rfl hd.l0 hd.s0 (dk_at ktX6_thriftyPages_0 7 rfl) (v := (σ 4)) (hR.1 0 5 4 lc_0_5) (b := 18) rfl ?_
    refine r_if_ne (dk_at ktX6_thriftyPages_0 8 rfl) (b := 23) (by decide) (b2 := 21) rfl (fun c18 => ?_) (fun c18 => ?_)
    · skip
      refine rc_p (p_iconst (v := 0) (dk_at ktX6_thriftyPages_0 11 rfl) (by decide) (b := 24) rfl) ?_
      refine rc_p (p_istore_n (ls' := [(1, .int 0), (0, .ref bx)]) (dk_at ktX6_thriftyPages_0 12 rfl) rfl (by decide) rfl (b := 25) rfl) ?_
      refine rc_p (p_iconst (v := 0) (dk_at ktX6_thriftyPages_0 13 rfl) (by decide) (b := 26) rfl) ?_
      refine rc_p (p_istore_n (ls' := [(2, .int 0), (1, .int 0), (0, .ref bx)]) (dk_at ktX6_thriftyPages_0 14 rfl) rfl (by decide) rfl (b := 27) rfl) ?_
      refine rc_sub [1, 0, 2] (ls' := [(1, .int 0), (2, .int 0), (0, .ref bx)]) rfl ?_
      have h7 : σ 7 = 1 := run_7 hI c8
      obtain ⟨r, hr, er⟩ := hI.2.2.1.run h7
      exact cut27 ⟨h7, c18⟩ r hr er (nW σ / nP σ + 1) 0 _ (Nat.lt_succ_self _) (Nat.zero_le _) rfl
    · skip
      refine rc_p (p_iconst (v := 0) (dk_at ktX6_thriftyPages_0 9 rfl) (by decide) (b := 22) rfl) ?_
      refine r_iret (dk_at ktX6_thriftyPages_0 10 rfl) rfl rfl ⟨_, rfl, ?_⟩
      refine ⟨?_, rfl, RelN.of hR (by omega), FB.rf⟩
      exact if_neg (fun g => g.2 c18)

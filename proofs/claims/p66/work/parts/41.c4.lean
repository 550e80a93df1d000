/-! THE CLASS: records -/
set_option maxRecDepth 4000 in
set_option maxHeartbeats 4000000 in
theorem s_X0_formatJournal {n : Nat} {sh : mS} {G : mG} {I : mI} {J : mJ} {d : Nat} {σ : sT} {T N : Nat} (hd : DevG n sh G d) (hR : RelD d I σ T N) (hI : Inv σ) (hT : T + 1 < 1000000)  : Sp yX0_formatJournal cX0_formatJournal 1 (some FieldType.boolean) 4 166 0 0 [.ref d] n sh G I J (Qi (fun r_ I_ J_ => bi ((fFormat σ).1) = r_ ∧ J = J_ ∧ RelE d I_ ((fFormat σ).2) T 1 N ∧ FD d [1, 3, 4, 5, 6, 8, 9, 10, 11, 12, 13, 14, 15] I I_)) nX := by
  refine Sp.of (by decide) (ls := [(0, .ref d)]) (fun _ => rfl) (fun _ => Nat.le_of_ble_eq_true rfl) ?_
  have hN := hR.2.2.2.2.1
  refine rc_p (p_aload_n 0 (dk_at ktX0_formatJournal_0 0 rfl) rfl rfl (b := 1) rfl) ?_
  refine r_geta fl_X0_12 rfl hd.l0 hd.s0 (dk_at ktX0_formatJournal_0 1 rfl) hd.g0_0 (b := 4) rfl ?_
  refine rc_p (p_iconst (v := 0) (dk_at ktX0_formatJournal_0 2 rfl) (by decide) (b := 5) rfl) ?_
  refine r_iV (As' := [.int 0]) (rest := []) (s_X1_eraseJournalPage hd (σ := σ) hR hI 0 (by omega)) cw_X0_104 qi_X1_eraseJournalPage qv_X1_eraseJournalPage rfl (hd.lt 1 (by decide)) hd.s1 (dk_at ktX0_formatJournal_0 3 rfl) rfl rfl (Nat.le_of_ble_eq_true rfl) (by decide) (b := 8) rfl (fun v4 I1 J2 q3 => ?_)
  obtain ⟨rfl, rfl, hR5, hF6⟩ := q3
  refine r_if_eq (dk_at ktX0_formatJournal_0 4 rfl) (b := 29) (by decide) (b2 := 11) rfl (fun c8 => ?_) (fun c8 => ?_)
  · have c8 := bi_f c8
    refine rc_p (p_iconst (v := 0) (dk_at ktX0_formatJournal_0 14 rfl) (by decide) (b := 30) rfl) ?_
    refine r_iret (dk_at ktX0_formatJournal_0 15 rfl) rfl rfl ⟨_, rfl, ?_⟩
    have he : fFormat σ = (false, (sErJ σ 0)) := by unfold fFormat; rw [sq_n (fErJ_e c8)]
    exact ⟨by rw [he]; rfl, rfl, by rw [he]; exact RelE.of hR5 (by omega), (FD.tr FD.rf (hF6.mo (by simp <;> omega)))⟩
  · have c8 := bi_t c8
    refine rc_p (p_aload_n 0 (dk_at ktX0_formatJournal_0 5 rfl) rfl rfl (b := 12) rfl) ?_
    refine r_geta fl_X0_12 rfl hd.l0 hd.s0 (dk_at ktX0_formatJournal_0 6 rfl) hd.g0_0 (b := 15) rfl ?_
    refine rc_p (p_iconst (v := 2) (dk_at ktX0_formatJournal_0 7 rfl) (by decide) (b := 16) rfl) ?_
    refine rc_p (p_iconst (v := 0) (dk_at ktX0_formatJournal_0 8 rfl) (by decide) (b := 17) rfl) ?_
    refine rc_p (p_bipush (v := 6) (dk_at ktX0_formatJournal_0 9 rfl) (by decide) (b := 19) rfl) ?_
    refine rc_p (p_iconst (v := 0) (dk_at ktX0_formatJournal_0 10 rfl) (by decide) (b := 20) rfl) ?_
    refine r_iS (As := [.int 6, .int 0]) (rest := [.int 0, .int 2, .ref (d + 1)]) (s_X2_wordOf 6 0) cw_X0_107 qs_X2_wordOf (dk_at ktX0_formatJournal_0 11 rfl) rfl rfl (Nat.le_of_ble_eq_true rfl) (by decide) (b := 23) rfl (fun v10 I7 J8 q9 => ?_)
    obtain ⟨rfl, rfl, rfl⟩ := q9
    refine r_iV (As' := [.int 2, .int 0, .int (wordI 6 0)]) (rest := []) (s_X1_write hd (σ := (sErJ σ 0)) hR5 (Inv.erj hI (by omega)) 2 0 (211) (by omega) (by omega) (lc_j0 (by decide)) (wordI 6 0)) cw_X0_111 qi_X1_write qv_X1_write rfl (hd.lt 1 (by decide)) hd.s1 (dk_at ktX0_formatJournal_0 12 rfl) rfl rfl (Nat.le_of_ble_eq_true rfl) (by decide) (b := 26) rfl (fun v14 I11 J12 q13 => ?_)
    obtain ⟨rfl, rfl, hR15, hF16⟩ := q13
    refine r_if_ne (dk_at ktX0_formatJournal_0 13 rfl) (b := 31) (by decide) (b2 := 29) rfl (fun c26 => ?_) (fun c26 => ?_)
    · have c26 := bi_t c26
      refine rc_p (p_aload_n 0 (dk_at ktX0_formatJournal_0 16 rfl) rfl rfl (b := 32) rfl) ?_
      refine rc_p (p_bipush (v := 6) (dk_at ktX0_formatJournal_0 17 rfl) (by decide) (b := 34) rfl) ?_
      refine rc_p (p_iconst (v := 0) (dk_at ktX0_formatJournal_0 18 rfl) (by decide) (b := 35) rfl) ?_
      refine r_vV (As' := [.int 6, .int 0]) (rest := []) (s_X0_note hd (σ := (sWr (sErJ σ 0) (211) (wordI 6 0))) hR15 (Inv.wr (Inv.erj hI (by omega)) (by omega) (by omega)) (by omega) 6 (by omega) 0) cw_X0_87 qi_X0_note qv_X0_note rfl hd.l0 hd.s0 (dk_at ktX0_formatJournal_0 19 rfl) rfl rfl (Nat.le_of_ble_eq_true rfl) (by decide) (b := 38) rfl (fun I17 J18 q19 => ?_)
      obtain ⟨rfl, hR21, hF22⟩ := q19
      refine rc_p (p_iconst (v := 1) (dk_at ktX0_formatJournal_0 20 rfl) (by decide) (b := 39) rfl) ?_
      refine r_iret (dk_at ktX0_formatJournal_0 21 rfl) rfl rfl ⟨_, rfl, ?_⟩
      have he : fFormat σ = (true, (sNote (sWr (sErJ σ 0) (211) (wordI 6 0)) 6 0)) := by unfold fFormat; rw [sq_e (fErJ_e c8), sq_e (fWr_e c26)]; rfl
      exact ⟨by rw [he]; rfl, rfl, by rw [he]; exact RelE.of hR21 (by omega), (FD.tr (FD.tr (FD.tr FD.rf (hF6.mo (by simp <;> omega))) (hF16.mo (by simp <;> omega))) (hF22.mo (by simp <;> omega)))⟩
    · have c26 := bi_f c26
      refine rc_p (p_iconst (v := 0) (dk_at ktX0_formatJournal_0 14 rfl) (by decide) (b := 30) rfl) ?_
      refine r_iret (dk_at ktX0_formatJournal_0 15 rfl) rfl rfl ⟨_, rfl, ?_⟩
      have he : fFormat σ = (false, (sWr (sErJ σ 0) (211) (wordI 6 0))) := by unfold fFormat; rw [sq_e (fErJ_e c8), sq_n (fWr_e c26)]
      exact ⟨by rw [he]; rfl, rfl, by rw [he]; exact RelE.of hR15 (by omega), (FD.tr (FD.tr FD.rf (hF6.mo (by simp <;> omega))) (hF16.mo (by simp <;> omega)))⟩
set_option maxRecDepth 4000 in
set_option maxHeartbeats 4000000 in
theorem s_X2_isBad {n : Nat} {sh : mS} {G : mG} {I : mI} {J : mJ} {d : Nat} (hd : DevG n sh G d){τ : sT} (hT : ∀ j, j < 5 → I (d + 16) (5 + j) = τ j) (s : Nat) : Sp yX2_isBad cX2_isBad 2 (some FieldType.boolean) 1 48 0 0 [.ref (d + 16), .int (nI s)] n sh G I J (Qi (fun r_ I_ J_ => bi (badB τ s) = r_ ∧ I = I_ ∧ J = J_)) nX := by
  refine Sp.of (by decide) (ls := [(0, .ref (d + 16)), (1, .int (nI s))]) (fun _ => rfl) (fun _ => Nat.le_of_ble_eq_true rfl) ?_
  refine rc_p (p_aload_n 0 (dk_at ktX2_isBad_0 0 rfl) rfl rfl (b := 1) rfl) ?_
  refine r_geti fl_X2_56 rfl (hd.lt 16 (by decide)) hd.s16 (dk_at ktX2_isBad_0 1 rfl) (v := (τ 4)) (hT 4 (by decide)) (b := 4) rfl ?_
  refine rc_p (p_iload_n 1 (dk_at ktX2_isBad_0 2 rfl) rfl rfl (b := 5) rfl) ?_
  refine rc_p (p_ishr (v := ((τ 4) >>> ((nI s) &&& 31))) (dk_at ktX2_isBad_0 3 rfl) rfl (b := 6) rfl) ?_
  refine rc_p (p_iconst (v := 1) (dk_at ktX2_isBad_0 4 rfl) (by decide) (b := 7) rfl) ?_
  refine rc_p (p_iand (v := (((τ 4) >>> ((nI s) &&& 31)) &&& 1)) (dk_at ktX2_isBad_0 5 rfl) rfl (b := 8) rfl) ?_
  refine r_if_eq (dk_at ktX2_isBad_0 6 rfl) (b := 15) (by decide) (b2 := 11) rfl (fun c8 => ?_) (fun c8 => ?_)
  · skip
    refine rc_p (p_iconst (v := 0) (dk_at ktX2_isBad_0 9 rfl) (by decide) (b := 16) rfl) ?_
    refine r_iret (dk_at ktX2_isBad_0 10 rfl) rfl rfl ⟨_, rfl, ?_⟩
    refine ⟨?_, rfl, rfl⟩
    simp_all [badB, bi]
  · skip
    refine rc_p (p_iconst (v := 1) (dk_at ktX2_isBad_0 7 rfl) (by decide) (b := 12) rfl) ?_
    refine rc_p (p_goto (b := 16) (dk_at ktX2_isBad_0 8 rfl) (by decide)) ?_
    refine r_iret (dk_at ktX2_isBad_0 10 rfl) rfl rfl ⟨_, rfl, ?_⟩
    refine ⟨?_, rfl, rfl⟩
    simp_all [badB, bi]
set_option maxRecDepth 4000 in
set_option maxHeartbeats 4000000 in
theorem s_X0_gatherRecords {n : Nat} {sh : mS} {G : mG} {I : mI} {J : mJ} {d : Nat} (hd : DevG n sh G d){τ : sT} (hT : ∀ j, j < 5 → I (d + 16) (5 + j) = τ j) (h3 : ∃ t, t ≤ 32 ∧ τ 3 = nI t) : Sp yX0_gatherRecords cX0_gatherRecords 3 (some FieldType.int) 2 96 0 0 [.ref d] n sh G I J (Qi (fun r_ I_ J_ => nI (recs τ).length = r_ ∧ J = J_ ∧ GA d I (recs τ) I_)) nX := by
  refine Sp.of (by decide) (ls := [(0, .ref d)]) (fun _ => rfl) (fun _ => Nat.le_of_ble_eq_true rfl) ?_
  have cut176 : ∀ (l : Nat) (pre : List Int32) (Iz : mI), l = pre.length → GA d I pre Iz → recs τ = pre → Rc RX0 cX0_gatherRecords 3 (some FieldType.int) 2 96 0 0 n sh G (Qi (fun r_ I_ J_ => nI (recs τ).length = r_ ∧ J = J_ ∧ GA d I (recs τ) I_)) nX 0 0 176 [(1, .int (nI l)), (0, .ref d)] [] Iz J := by
    intro l pre Iz hll hz hr
    subst hll
    refine rc_p (p_iload_n 0 (dk_at ktX0_gatherRecords_1 28 rfl) rfl rfl (b := 177) rfl) ?_
    refine r_iret (dk_at ktX0_gatherRecords_1 29 rfl) rfl rfl ⟨_, rfl, ?_⟩
    refine ⟨?_, rfl, ?_⟩
    · rw [hr]
    · rw [hr]; exact hz
  have cut134 : ∀ (t k l : Nat) (pre : List Int32) (Iz : mI), l = pre.length → 5 - k < t → GA d I pre Iz → k ≤ trN τ → recs τ = pre ++ List.replicate (trN τ - k) (wordI 4 (τ 2)) → Rc RX0 cX0_gatherRecords 3 (some FieldType.int) 2 96 0 0 n sh G (Qi (fun r_ I_ J_ => nI (recs τ).length = r_ ∧ J = J_ ∧ GA d I (recs τ) I_)) nX 0 0 134 [(2, .int (nI k)), (1, .int (nI l)), (0, .ref d)] [] Iz J := by
    intro t
    induction t
    · intro k l pre Iz _ h; omega
    rename_i t ih
    intro k l pre Iz hll ht hz h1 hr3
    subst hll
    have htr : trN τ ≤ 3 := Nat.min_le_left _ _
    obtain ⟨tq, htq, e3⟩ := h3
    have htr2 : trN τ = min 3 tq := by unfold trN; rw [e3, tn_nI (by omega)]
    refine rc_p (p_iload_n 0 (dk_at ktX0_gatherRecords_1 8 rfl) rfl rfl (b := 135) rfl) ?_
    refine rc_p (p_aload_n 2 (dk_at ktX0_gatherRecords_1 9 rfl) rfl rfl (b := 136) rfl) ?_
    refine r_geta fl_X0_28 rfl hd.l0 hd.s0 (dk_at ktX0_gatherRecords_1 10 rfl) hd.g0_2 (b := 139) rfl ?_
    refine r_geti fl_X0_131 rfl (hd.lt 16 (by decide)) hd.s16 (dk_at ktX0_gatherRecords_1 11 rfl) (v := (nI tq)) ((((congrFun hz.led 8).trans (hT 3 (by decide)))).trans e3) (b := 142) rfl ?_
    refine r_icmp_ge (dk_at ktX0_gatherRecords_1 12 rfl) (b := 176) (by decide) (b2 := 145) rfl (fun c142 => ?_) (fun c142 => ?_)
    · have c142 : tq ≤ k := (nI_leI (a := tq) (b := k) (by omega) (by omega)).mp c142
      refine rc_sub [1, 2] (ls' := [(1, .int (nI pre.length)), (0, .ref d)]) rfl ?_
      exact cut176 _ pre Iz rfl hz (by rw [hr3, show trN τ - k = 0 by omega]; exact List.append_nil _)
    · have c142 : ¬ tq ≤ k := fun h => c142 ((nI_leI (a := tq) (b := k) (by omega) (by omega)).mpr h)
      refine rc_p (p_iload_n 0 (dk_at ktX0_gatherRecords_1 13 rfl) rfl rfl (b := 146) rfl) ?_
      refine rc_p (p_iconst (v := 3) (dk_at ktX0_gatherRecords_1 14 rfl) (by decide) (b := 147) rfl) ?_
      refine r_icmp_ge (dk_at ktX0_gatherRecords_1 15 rfl) (b := 176) (by decide) (b2 := 150) rfl (fun c147 => ?_) (fun c147 => ?_)
      · have c147 : 3 ≤ k := (nI_leI (a := 3) (b := k) (by omega) (by omega)).mp c147
        refine rc_sub [1, 2] (ls' := [(1, .int (nI pre.length)), (0, .ref d)]) rfl ?_
        exact cut176 _ pre Iz rfl hz (by rw [hr3, show trN τ - k = 0 by omega]; exact List.append_nil _)
      · have c147 : ¬ 3 ≤ k := fun h => c147 ((nI_leI (a := 3) (b := k) (by omega) (by omega)).mpr h)
        have hlt : k < trN τ := by omega
        have hl2 := mv_len (show recs τ = pre ++ wordI 4 (τ 2) :: List.replicate (trN τ - (k + 1)) (wordI 4 (τ 2)) by rw [hr3, show trN τ - k = (trN τ - (k + 1)) + 1 by omega]; rfl)
        simp only [List.length_cons] at hl2
        refine rc_p (p_aload_n 2 (dk_at ktX0_gatherRecords_1 16 rfl) rfl rfl (b := 151) rfl) ?_
        refine r_geta fl_X0_32 rfl hd.l0 hd.s0 (dk_at ktX0_gatherRecords_1 17 rfl) hd.g0_3 (b := 154) rfl ?_
        refine rc_p (p_iload_n 1 (dk_at ktX0_gatherRecords_1 18 rfl) rfl rfl (b := 155) rfl) ?_
        refine rc_p (p_iinc (j := 1) (v := (nI (pre.length + 1))) (ls' := [(1, .int (nI (pre.length + 1))), (2, .int (nI k)), (0, .ref d)]) (dk_at ktX0_gatherRecords_1 19 rfl) rfl (nI_add pre.length 1) (by decide) rfl (b := 158) rfl) ?_
        refine rc_p (p_iconst (v := 4) (dk_at ktX0_gatherRecords_1 20 rfl) (by decide) (b := 159) rfl) ?_
        refine rc_p (p_aload_n 2 (dk_at ktX0_gatherRecords_1 21 rfl) rfl rfl (b := 160) rfl) ?_
        refine r_geta fl_X0_28 rfl hd.l0 hd.s0 (dk_at ktX0_gatherRecords_1 22 rfl) hd.g0_2 (b := 163) rfl ?_
        refine r_geti fl_X0_128 rfl (hd.lt 16 (by decide)) hd.s16 (dk_at ktX0_gatherRecords_1 23 rfl) (v := (τ 2)) ((congrFun hz.led 7).trans (hT 2 (by decide))) (b := 166) rfl ?_
        refine r_iS (As := [.int 4, .int (τ 2)]) (rest := [.int (nI pre.length), .ref (d + 17)]) (s_X2_wordOf 4 (τ 2)) cw_X0_107 qs_X2_wordOf (dk_at ktX0_gatherRecords_1 24 rfl) rfl rfl (Nat.le_of_ble_eq_true rfl) (by decide) (b := 169) rfl (fun v4 I1 J2 q3 => ?_)
        obtain ⟨rfl, rfl, rfl⟩ := q3
        refine r_iast (j := pre.length) (hd.lt 17 (by decide)) hd.s17 (dk_at ktX0_gatherRecords_1 25 rfl) rfl ⟨by omega, by decide⟩ (b := 170) rfl ?_
        refine rc_p (p_iinc (j := 1) (v := (nI (k + 1))) (ls' := [(2, .int (nI (k + 1))), (1, .int (nI (pre.length + 1))), (0, .ref d)]) (dk_at ktX0_gatherRecords_1 26 rfl) rfl (nI_add k 1) (by decide) rfl (b := 173) rfl) ?_
        refine rc_p (p_goto (b := 134) (dk_at ktX0_gatherRecords_1 27 rfl) (by decide)) ?_
        exact ih (k + 1) (pre.length + 1) (pre ++ [(wordI 4 (τ 2))]) (up2 Iz (d + 17) pre.length (wordI 4 (τ 2))) (by simp) (by omega) hz.push (by omega) (by rw [hr3, show trN τ - k = (trN τ - (k + 1)) + 1 by omega, List.append_assoc]; rfl)
  have cut101 : ∀ (l : Nat) (pre : List Int32) (Iz : mI), l = pre.length → GA d I pre Iz → recs τ = pre ++ rc4 τ → Rc RX0 cX0_gatherRecords 3 (some FieldType.int) 2 96 0 0 n sh G (Qi (fun r_ I_ J_ => nI (recs τ).length = r_ ∧ J = J_ ∧ GA d I (recs τ) I_)) nX 0 0 101 [(1, .int (nI l)), (0, .ref d)] [] Iz J := by
    intro l pre Iz hll hz hr
    subst hll
    have hl := mv_len hr
    refine rc_p (p_aload_n 1 (dk_at ktX0_gatherRecords_0 51 rfl) rfl rfl (b := 102) rfl) ?_
    refine r_geta fl_X0_28 rfl hd.l0 hd.s0 (dk_at ktX0_gatherRecords_0 52 rfl) hd.g0_2 (b := 105) rfl ?_
    refine r_geti fl_X0_128 rfl (hd.lt 16 (by decide)) hd.s16 (dk_at ktX0_gatherRecords_0 53 rfl) (v := (τ 2)) ((congrFun hz.led 7).trans (hT 2 (by decide))) (b := 108) rfl ?_
    refine rc_p (p_iconst (v := (-1)) (dk_at ktX0_gatherRecords_0 54 rfl) (by decide) (b := 109) rfl) ?_
    refine r_icmp_eq (dk_at ktX0_gatherRecords_0 55 rfl) (b := 176) (by decide) (b2 := 112) rfl (fun c109 => ?_) (fun c109 => ?_)
    · skip
      exact cut176 _ pre Iz rfl hz (by rw [hr, rc4, if_pos c109, List.append_nil])
    · skip
      have hl2 := mv_len (show recs τ = pre ++ wordI 3 (τ 2) :: List.replicate (trN τ) (wordI 4 (τ 2)) by rw [hr, rc4, if_neg c109])
      simp only [List.length_cons] at hl2
      refine rc_p (p_aload_n 1 (dk_at ktX0_gatherRecords_0 56 rfl) rfl rfl (b := 113) rfl) ?_
      refine r_geta fl_X0_32 rfl hd.l0 hd.s0 (dk_at ktX0_gatherRecords_0 57 rfl) hd.g0_3 (b := 116) rfl ?_
      refine rc_p (p_iload_n 0 (dk_at ktX0_gatherRecords_0 58 rfl) rfl rfl (b := 117) rfl) ?_
      refine rc_p (p_iinc (j := 0) (v := (nI (pre.length + 1))) (ls' := [(1, .int (nI (pre.length + 1))), (0, .ref d)]) (dk_at ktX0_gatherRecords_0 59 rfl) rfl (nI_add pre.length 1) (by decide) rfl (b := 120) rfl) ?_
      refine rc_p (p_iconst (v := 3) (dk_at ktX0_gatherRecords_1 0 rfl) (by decide) (b := 121) rfl) ?_
      refine rc_p (p_aload_n 1 (dk_at ktX0_gatherRecords_1 1 rfl) rfl rfl (b := 122) rfl) ?_
      refine r_geta fl_X0_28 rfl hd.l0 hd.s0 (dk_at ktX0_gatherRecords_1 2 rfl) hd.g0_2 (b := 125) rfl ?_
      refine r_geti fl_X0_128 rfl (hd.lt 16 (by decide)) hd.s16 (dk_at ktX0_gatherRecords_1 3 rfl) (v := (τ 2)) ((congrFun hz.led 7).trans (hT 2 (by decide))) (b := 128) rfl ?_
      refine r_iS (As := [.int 3, .int (τ 2)]) (rest := [.int (nI pre.length), .ref (d + 17)]) (s_X2_wordOf 3 (τ 2)) cw_X0_107 qs_X2_wordOf (dk_at ktX0_gatherRecords_1 4 rfl) rfl rfl (Nat.le_of_ble_eq_true rfl) (by decide) (b := 131) rfl (fun v8 I5 J6 q7 => ?_)
      obtain ⟨rfl, rfl, rfl⟩ := q7
      refine r_iast (j := pre.length) (hd.lt 17 (by decide)) hd.s17 (dk_at ktX0_gatherRecords_1 5 rfl) rfl ⟨by omega, by decide⟩ (b := 132) rfl ?_
      refine rc_p (p_iconst (v := 0) (dk_at ktX0_gatherRecords_1 6 rfl) (by decide) (b := 133) rfl) ?_
      refine rc_p (p_istore_n (ls' := [(2, .int 0), (1, .int (nI (pre.length + 1))), (0, .ref d)]) (dk_at ktX0_gatherRecords_1 7 rfl) rfl (by decide) rfl (b := 134) rfl) ?_
      exact cut134 1000 0 (pre.length + 1) (pre ++ [(wordI 3 (τ 2))]) (up2 Iz (d + 17) pre.length (wordI 3 (τ 2))) (by simp) (by omega) hz.push (Nat.zero_le _) (by rw [hr, rc4, if_neg c109, List.append_assoc]; first | done | rfl)
  have cut65 : ∀ (t s l : Nat) (pre : List Int32) (Iz : mI), l = pre.length → 2 - s < t → s ≤ 2 → GA d I pre Iz → recs τ = pre ++ rcS τ s → Rc RX0 cX0_gatherRecords 3 (some FieldType.int) 2 96 0 0 n sh G (Qi (fun r_ I_ J_ => nI (recs τ).length = r_ ∧ J = J_ ∧ GA d I (recs τ) I_)) nX 0 0 65 [(2, .int (nI s)), (1, .int (nI l)), (0, .ref d)] [] Iz J := by
    intro t
    induction t
    · intro s l pre Iz _ h; omega
    rename_i t ih
    intro s l pre Iz hll ht h1 hz hr
    subst hll
    have hl := mv_len hr
    refine rc_p (p_iload_n 0 (dk_at ktX0_gatherRecords_0 33 rfl) rfl rfl (b := 66) rfl) ?_
    refine rc_p (p_iconst (v := 1) (dk_at ktX0_gatherRecords_0 34 rfl) (by decide) (b := 67) rfl) ?_
    refine r_icmp_gt (dk_at ktX0_gatherRecords_0 35 rfl) (b := 101) (by decide) (b2 := 70) rfl (fun c67 => ?_) (fun c67 => ?_)
    · have c67 : 1 < s := (nI_ltI (a := 1) (b := s) (by omega) (by omega)).mp c67
      refine rc_sub [1, 2] (ls' := [(1, .int (nI pre.length)), (0, .ref d)]) rfl ?_
      exact cut101 _ pre Iz rfl hz (by rw [hr, show s = 2 by omega, rcS_2])
    · have c67 : ¬ 1 < s := fun h => c67 ((nI_ltI (a := 1) (b := s) (by omega) (by omega)).mpr h)
      refine rc_p (p_aload_n 2 (dk_at ktX0_gatherRecords_0 36 rfl) rfl rfl (b := 71) rfl) ?_
      refine r_geta fl_X0_28 rfl hd.l0 hd.s0 (dk_at ktX0_gatherRecords_0 37 rfl) hd.g0_2 (b := 74) rfl ?_
      refine rc_p (p_iload_n 0 (dk_at ktX0_gatherRecords_0 38 rfl) rfl rfl (b := 75) rfl) ?_
      refine r_iV (As' := [.int (nI s)]) (rest := []) (s_X2_isBad hd (τ := τ) (fun j hj => (congrFun hz.led (5 + j)).trans (hT j hj)) s) cw_X0_101 qi_X2_isBad qv_X2_isBad rfl (hd.lt 16 (by decide)) hd.s16 (dk_at ktX0_gatherRecords_0 39 rfl) rfl rfl (Nat.le_of_ble_eq_true rfl) (by decide) (b := 78) rfl (fun v12 I9 J10 q11 => ?_)
      obtain ⟨rfl, rfl, rfl⟩ := q11
      refine r_if_eq (dk_at ktX0_gatherRecords_0 40 rfl) (b := 95) (by decide) (b2 := 81) rfl (fun c78 => ?_) (fun c78 => ?_)
      · have c78 := bi_f c78
        refine rc_p (p_iinc (j := 0) (v := (nI (s + 1))) (ls' := [(2, .int (nI (s + 1))), (1, .int (nI pre.length)), (0, .ref d)]) (dk_at ktX0_gatherRecords_0 49 rfl) rfl (nI_add s 1) (by decide) rfl (b := 98) rfl) ?_
        refine rc_p (p_goto (b := 65) (dk_at ktX0_gatherRecords_0 50 rfl) (by decide)) ?_
        exact ih (s + 1) pre.length pre Iz rfl (by omega) (by omega) hz (by rw [hr, rcS_s (by omega), rc3_f c78]; first | done | rfl)
      · have c78 := bi_t c78
        have hl2 := mv_len (show recs τ = pre ++ wordI 5 (nI s) :: rcS τ (s + 1) by rw [hr, rcS_s (by omega), rc3_t c78]; rfl)
        simp only [List.length_cons] at hl2
        refine rc_p (p_aload_n 2 (dk_at ktX0_gatherRecords_0 41 rfl) rfl rfl (b := 82) rfl) ?_
        refine r_geta fl_X0_32 rfl hd.l0 hd.s0 (dk_at ktX0_gatherRecords_0 42 rfl) hd.g0_3 (b := 85) rfl ?_
        refine rc_p (p_iload_n 1 (dk_at ktX0_gatherRecords_0 43 rfl) rfl rfl (b := 86) rfl) ?_
        refine rc_p (p_iinc (j := 1) (v := (nI (pre.length + 1))) (ls' := [(1, .int (nI (pre.length + 1))), (2, .int (nI s)), (0, .ref d)]) (dk_at ktX0_gatherRecords_0 44 rfl) rfl (nI_add pre.length 1) (by decide) rfl (b := 89) rfl) ?_
        refine rc_p (p_iconst (v := 5) (dk_at ktX0_gatherRecords_0 45 rfl) (by decide) (b := 90) rfl) ?_
        refine rc_p (p_iload_n 1 (dk_at ktX0_gatherRecords_0 46 rfl) rfl rfl (b := 91) rfl) ?_
        refine r_iS (As := [.int 5, .int (nI s)]) (rest := [.int (nI pre.length), .ref (d + 17)]) (s_X2_wordOf 5 (nI s)) cw_X0_107 qs_X2_wordOf (dk_at ktX0_gatherRecords_0 47 rfl) rfl rfl (Nat.le_of_ble_eq_true rfl) (by decide) (b := 94) rfl (fun v16 I13 J14 q15 => ?_)
        obtain ⟨rfl, rfl, rfl⟩ := q15
        refine r_iast (j := pre.length) (hd.lt 17 (by decide)) hd.s17 (dk_at ktX0_gatherRecords_0 48 rfl) rfl ⟨by omega, by decide⟩ (b := 95) rfl ?_
        refine rc_p (p_iinc (j := 1) (v := (nI (s + 1))) (ls' := [(2, .int (nI (s + 1))), (1, .int (nI (pre.length + 1))), (0, .ref d)]) (dk_at ktX0_gatherRecords_0 49 rfl) rfl (nI_add s 1) (by decide) rfl (b := 98) rfl) ?_
        refine rc_p (p_goto (b := 65) (dk_at ktX0_gatherRecords_0 50 rfl) (by decide)) ?_
        exact ih (s + 1) (pre.length + 1) (pre ++ [(wordI 5 (nI s))]) (up2 Iz (d + 17) pre.length (wordI 5 (nI s))) (by simp) (by omega) (by omega) hz.push (by rw [hr, rcS_s (by omega), rc3_t c78, List.append_assoc]; first | done | rfl)
  have cut32 : ∀ (l : Nat) (pre : List Int32) (Iz : mI), l = pre.length → GA d I pre Iz → recs τ = pre ++ (rc2 τ ++ rcS τ 0) → Rc RX0 cX0_gatherRecords 3 (some FieldType.int) 2 96 0 0 n sh G (Qi (fun r_ I_ J_ => nI (recs τ).length = r_ ∧ J = J_ ∧ GA d I (recs τ) I_)) nX 0 0 32 [(1, .int (nI l)), (0, .ref d)] [] Iz J := by
    intro l pre Iz hll hz hr
    subst hll
    have hl := mv_len hr
    refine rc_p (p_aload_n 1 (dk_at ktX0_gatherRecords_0 16 rfl) rfl rfl (b := 33) rfl) ?_
    refine r_geta fl_X0_28 rfl hd.l0 hd.s0 (dk_at ktX0_gatherRecords_0 17 rfl) hd.g0_2 (b := 36) rfl ?_
    refine r_geti fl_X0_125 rfl (hd.lt 16 (by decide)) hd.s16 (dk_at ktX0_gatherRecords_0 18 rfl) (v := (τ 1)) ((congrFun hz.led 6).trans (hT 1 (by decide))) (b := 39) rfl ?_
    refine rc_p (p_iconst (v := (-1)) (dk_at ktX0_gatherRecords_0 19 rfl) (by decide) (b := 40) rfl) ?_
    refine r_icmp_eq (dk_at ktX0_gatherRecords_0 20 rfl) (b := 63) (by decide) (b2 := 43) rfl (fun c40 => ?_) (fun c40 => ?_)
    · skip
      refine rc_p (p_iconst (v := 0) (dk_at ktX0_gatherRecords_0 31 rfl) (by decide) (b := 64) rfl) ?_
      refine rc_p (p_istore_n (ls' := [(2, .int 0), (1, .int (nI pre.length)), (0, .ref d)]) (dk_at ktX0_gatherRecords_0 32 rfl) rfl (by decide) rfl (b := 65) rfl) ?_
      exact cut65 1000 0 pre.length pre Iz rfl (by omega) (by omega) hz (by rw [hr, rc2, if_pos c40]; first | done | rfl)
    · skip
      have hl2 := mv_len (show recs τ = pre ++ wordI 2 (τ 1) :: rcS τ 0 by rw [hr, rc2, if_neg c40]; rfl)
      simp only [List.length_cons] at hl2
      refine rc_p (p_aload_n 1 (dk_at ktX0_gatherRecords_0 21 rfl) rfl rfl (b := 44) rfl) ?_
      refine r_geta fl_X0_32 rfl hd.l0 hd.s0 (dk_at ktX0_gatherRecords_0 22 rfl) hd.g0_3 (b := 47) rfl ?_
      refine rc_p (p_iload_n 0 (dk_at ktX0_gatherRecords_0 23 rfl) rfl rfl (b := 48) rfl) ?_
      refine rc_p (p_iinc (j := 0) (v := (nI (pre.length + 1))) (ls' := [(1, .int (nI (pre.length + 1))), (0, .ref d)]) (dk_at ktX0_gatherRecords_0 24 rfl) rfl (nI_add pre.length 1) (by decide) rfl (b := 51) rfl) ?_
      refine rc_p (p_iconst (v := 2) (dk_at ktX0_gatherRecords_0 25 rfl) (by decide) (b := 52) rfl) ?_
      refine rc_p (p_aload_n 1 (dk_at ktX0_gatherRecords_0 26 rfl) rfl rfl (b := 53) rfl) ?_
      refine r_geta fl_X0_28 rfl hd.l0 hd.s0 (dk_at ktX0_gatherRecords_0 27 rfl) hd.g0_2 (b := 56) rfl ?_
      refine r_geti fl_X0_125 rfl (hd.lt 16 (by decide)) hd.s16 (dk_at ktX0_gatherRecords_0 28 rfl) (v := (τ 1)) ((congrFun hz.led 6).trans (hT 1 (by decide))) (b := 59) rfl ?_
      refine r_iS (As := [.int 2, .int (τ 1)]) (rest := [.int (nI pre.length), .ref (d + 17)]) (s_X2_wordOf 2 (τ 1)) cw_X0_107 qs_X2_wordOf (dk_at ktX0_gatherRecords_0 29 rfl) rfl rfl (Nat.le_of_ble_eq_true rfl) (by decide) (b := 62) rfl (fun v20 I17 J18 q19 => ?_)
      obtain ⟨rfl, rfl, rfl⟩ := q19
      refine r_iast (j := pre.length) (hd.lt 17 (by decide)) hd.s17 (dk_at ktX0_gatherRecords_0 30 rfl) rfl ⟨by omega, by decide⟩ (b := 63) rfl ?_
      refine rc_p (p_iconst (v := 0) (dk_at ktX0_gatherRecords_0 31 rfl) (by decide) (b := 64) rfl) ?_
      refine rc_p (p_istore_n (ls' := [(2, .int 0), (1, .int (nI (pre.length + 1))), (0, .ref d)]) (dk_at ktX0_gatherRecords_0 32 rfl) rfl (by decide) rfl (b := 65) rfl) ?_
      exact cut65 1000 0 (pre.length + 1) (pre ++ [(wordI 2 (τ 1))]) (up2 Iz (d + 17) pre.length (wordI 2 (τ 1))) (by simp) (by omega) (by omega) hz.push (by rw [hr, rc2, if_neg c40, List.append_assoc]; first | done | rfl)
  have hr : recs τ = [] ++ (rc1 τ ++ (rc2 τ ++ rcS τ 0)) := rfl
  have hn0 : ([] : List Int32).length = 0 := rfl
  refine rc_p (p_iconst (v := 0) (dk_at ktX0_gatherRecords_0 0 rfl) (by decide) (b := 1) rfl) ?_
  refine rc_p (p_istore_n (ls' := [(1, .int 0), (0, .ref d)]) (dk_at ktX0_gatherRecords_0 1 rfl) rfl (by decide) rfl (b := 2) rfl) ?_
  refine rc_p (p_aload_n 1 (dk_at ktX0_gatherRecords_0 2 rfl) rfl rfl (b := 3) rfl) ?_
  refine r_geta fl_X0_28 rfl hd.l0 hd.s0 (dk_at ktX0_gatherRecords_0 3 rfl) hd.g0_2 (b := 6) rfl ?_
  refine r_geti fl_X0_98 rfl (hd.lt 16 (by decide)) hd.s16 (dk_at ktX0_gatherRecords_0 4 rfl) (v := (τ 0)) (hT 0 (by decide)) (b := 9) rfl ?_
  refine r_if_le (dk_at ktX0_gatherRecords_0 5 rfl) (b := 32) (by decide) (b2 := 12) rfl (fun c9 => ?_) (fun c9 => ?_)
  · skip
    exact cut32 0 [] I rfl GA.nil (by rw [hr, rc1, if_neg (Int32.not_lt.mpr c9)]; rfl)
  · skip
    refine rc_p (p_aload_n 1 (dk_at ktX0_gatherRecords_0 6 rfl) rfl rfl (b := 13) rfl) ?_
    refine r_geta fl_X0_32 rfl hd.l0 hd.s0 (dk_at ktX0_gatherRecords_0 7 rfl) hd.g0_3 (b := 16) rfl ?_
    refine rc_p (p_iload_n 0 (dk_at ktX0_gatherRecords_0 8 rfl) rfl rfl (b := 17) rfl) ?_
    refine rc_p (p_iinc (j := 0) (v := 1) (ls' := [(1, .int 1), (0, .ref d)]) (dk_at ktX0_gatherRecords_0 9 rfl) rfl (by decide) (by decide) rfl (b := 20) rfl) ?_
    refine rc_p (p_iconst (v := 1) (dk_at ktX0_gatherRecords_0 10 rfl) (by decide) (b := 21) rfl) ?_
    refine rc_p (p_aload_n 1 (dk_at ktX0_gatherRecords_0 11 rfl) rfl rfl (b := 22) rfl) ?_
    refine r_geta fl_X0_28 rfl hd.l0 hd.s0 (dk_at ktX0_gatherRecords_0 12 rfl) hd.g0_2 (b := 25) rfl ?_
    refine r_geti fl_X0_98 rfl (hd.lt 16 (by decide)) hd.s16 (dk_at ktX0_gatherRecords_0 13 rfl) (v := (τ 0)) (hT 0 (by decide)) (b := 28) rfl ?_
    refine r_iS (As := [.int 1, .int (τ 0)]) (rest := [.int 0, .ref (d + 17)]) (s_X2_wordOf 1 (τ 0)) cw_X0_107 qs_X2_wordOf (dk_at ktX0_gatherRecords_0 14 rfl) rfl rfl (Nat.le_of_ble_eq_true rfl) (by decide) (b := 31) rfl (fun v24 I21 J22 q23 => ?_)
    obtain ⟨rfl, rfl, rfl⟩ := q23
    refine r_iast (j := 0) (hd.lt 17 (by decide)) hd.s17 (dk_at ktX0_gatherRecords_0 15 rfl) rfl ⟨by decide, by decide⟩ (b := 32) rfl ?_
    exact cut32 1 _ (up2 I (d + 17) 0 (wordI 1 (τ 0))) rfl GA.nil.push (by rw [hr, rc1, if_pos (Int32.not_le.mp c9)]; rfl)
set_option maxRecDepth 4000 in
set_option maxHeartbeats 4000000 in
theorem s_X0_moveRecords {n : Nat} {sh : mS} {G : mG} {I : mI} {J : mJ} {d : Nat} {σ : sT} {T N : Nat} (hd : DevG n sh G d) (hR : RelD d I σ T N) (hI : Inv σ) (hT : T + 1 < 1000000) (hL : LedR d I σ) (p : Nat) (hp : p < 2) (hA : activeI σ = nI p) : Sp yX0_moveRecords cX0_moveRecords 5 (some FieldType.boolean) 4 166 0 0 [.ref d] n sh G I J (Qi (fun r_ I_ J_ => bi ((fMoveP p σ).1) = r_ ∧ J = J_ ∧ RelE d I_ ((fMoveP p σ).2) T 1 N ∧ FD d [1, 3, 4, 5, 6, 8, 9, 10, 11, 12, 13, 14, 15, 16, 17] I I_)) nX := by
  refine Sp.of (by decide) (ls := [(0, .ref d)]) (fun _ => rfl) (fun _ => Nat.le_of_ble_eq_true rfl) ?_
  have cut35 : sHas σ = true → ∀ (t k : Nat) (Iz : mI) (σz : sT), (recs (told σ)).length - k < t → k ≤ (recs (told σ)).length → fWl (211 + 32 * (1 - p) + 1) ((recs (told σ)).take k) (sErJ σ (1 - p)) = (true, σz) → RelD d Iz σz T N → Inv σz → FD d [1, 3, 4, 5, 6, 8, 9, 10, 11, 12, 13, 14, 15, 16, 17] I Iz → (∀ j, j < (recs (told σ)).length → Iz (d + 17) j = (recs (told σ)).getD j 0) → Iz (d + 16) = I (d + 16) → Rc RX0 cX0_moveRecords 5 (some FieldType.boolean) 4 166 0 0 n sh G (Qi (fun r_ I_ J_ => bi ((fMoveP p σ).1) = r_ ∧ J = J_ ∧ RelE d I_ ((fMoveP p σ).2) T 1 N ∧ FD d [1, 3, 4, 5, 6, 8, 9, 10, 11, 12, 13, 14, 15, 16, 17] I I_)) nX 0 0 35 [(4, .int (nI k)), (0, .ref d), (1, .int (nI (1 - p))), (2, .int (nI (2 + (1 - p)))), (3, .int (nI ((recs (told σ)).length)))] [] Iz J := by
    have hb := hI.bd
    have hl8 := recs_len (told σ)
    intro hs t
    induction t
    · intro k Iz σz h; omega
    rename_i t ih
    intro k Iz σz ht h1 hE hRz hIz hFz hMz hLz
    have hN := hRz.2.2.2.2.1
    refine rc_p (p_iload 0 (dk_at ktX0_moveRecords_0 22 rfl) rfl (b := 37) rfl) ?_
    refine rc_p (p_iload_n 4 (dk_at ktX0_moveRecords_0 23 rfl) rfl rfl (b := 38) rfl) ?_
    refine r_icmp_ge (dk_at ktX0_moveRecords_0 24 rfl) (b := 71) (by decide) (b2 := 41) rfl (fun c38 => ?_) (fun c38 => ?_)
    · have c38 : ((recs (told σ)).length) ≤ k := (nI_leI (a := (recs (told σ)).length) (b := k) (by omega) (by omega)).mp c38
      refine rc_p (p_aload_n 1 (dk_at ktX0_moveRecords_0 41 rfl) rfl rfl (b := 72) rfl) ?_
      refine r_geta fl_X0_12 rfl hd.l0 hd.s0 (dk_at ktX0_moveRecords_0 42 rfl) hd.g0_0 (b := 75) rfl ?_
      refine rc_p (p_iload_n 3 (dk_at ktX0_moveRecords_0 43 rfl) rfl rfl (b := 76) rfl) ?_
      refine rc_p (p_iconst (v := 0) (dk_at ktX0_moveRecords_0 44 rfl) (by decide) (b := 77) rfl) ?_
      refine rc_p (p_bipush (v := 6) (dk_at ktX0_moveRecords_0 45 rfl) (by decide) (b := 79) rfl) ?_
      refine rc_p (p_aload_n 1 (dk_at ktX0_moveRecords_0 46 rfl) rfl rfl (b := 80) rfl) ?_
      refine r_geta fl_X0_28 rfl hd.l0 hd.s0 (dk_at ktX0_moveRecords_0 47 rfl) hd.g0_2 (b := 83) rfl ?_
      refine r_geti fl_X0_122 rfl (hd.lt 16 (by decide)) hd.s16 (dk_at ktX0_moveRecords_0 48 rfl) (v := (genI σ p)) ((congrFun hLz 1).trans (hL.2.2.1 p hp hA).1) (b := 86) rfl ?_
      refine rc_p (p_iconst (v := 1) (dk_at ktX0_moveRecords_0 49 rfl) (by decide) (b := 87) rfl) ?_
      refine rc_p (p_iadd (v := ((genI σ p) + 1)) (dk_at ktX0_moveRecords_0 50 rfl) rfl (b := 88) rfl) ?_
      refine rc_p (p_sipush (v := 255) (dk_at ktX0_moveRecords_0 51 rfl) (by decide) (b := 91) rfl) ?_
      refine rc_p (p_iand (v := ((genI σ p + 1) % 256)) (dk_at ktX0_moveRecords_0 52 rfl) (gnA hI hp) (b := 92) rfl) ?_
      refine r_iS (As := [.int 6, .int ((genI σ p + 1) % 256)]) (rest := [.int 0, .int (nI (2 + (1 - p))), .ref (d + 1)]) (s_X2_wordOf 6 ((genI σ p + 1) % 256)) cw_X0_107 qs_X2_wordOf (dk_at ktX0_moveRecords_0 53 rfl) rfl rfl (Nat.le_of_ble_eq_true rfl) (by decide) (b := 95) rfl (fun v4 I1 J2 q3 => ?_)
      obtain ⟨rfl, rfl, rfl⟩ := q3
      refine r_iV (As' := [.int (nI (2 + (1 - p))), .int 0, .int (wordI 6 ((genI σ p + 1) % 256))]) (rest := []) (s_X1_write hd (σ := σz) hRz hIz (2 + (1 - p)) 0 (211 + 32 * (1 - p)) (by omega) (by omega) (lc_j (by omega) (by decide)) (wordI 6 ((genI σ p + 1) % 256))) cw_X0_111 qi_X1_write qv_X1_write rfl (hd.lt 1 (by decide)) hd.s1 (dk_at ktX0_moveRecords_0 54 rfl) rfl rfl (Nat.le_of_ble_eq_true rfl) (by decide) (b := 98) rfl (fun v8 I5 J6 q7 => ?_)
      obtain ⟨rfl, rfl, hR9, hF10⟩ := q7
      refine r_if_ne (dk_at ktX0_moveRecords_0 55 rfl) (b := 103) (by decide) (b2 := 101) rfl (fun c98 => ?_) (fun c98 => ?_)
      · have c98 := bi_t c98
        refine rc_p (p_aload_n 1 (dk_at ktX0_moveRecords_0 58 rfl) rfl rfl (b := 104) rfl) ?_
        refine rc_p (p_iconst (v := 5) (dk_at ktX0_moveRecords_0 59 rfl) (by decide) (b := 105) rfl) ?_
        refine rc_p (p_iload_n 2 (dk_at ktX0_moveRecords_1 0 rfl) rfl rfl (b := 106) rfl) ?_
        refine r_vV (As' := [.int 5, .int (nI (1 - p))]) (rest := []) (s_X0_note hd (σ := (sWr σz (211 + 32 * (1 - p)) (wordI 6 ((genI σ p + 1) % 256)))) hR9 (Inv.wr hIz (by omega) (by omega)) (by omega) 5 (by omega) (nI (1 - p))) cw_X0_87 qi_X0_note qv_X0_note rfl hd.l0 hd.s0 (dk_at ktX0_moveRecords_1 1 rfl) rfl rfl (Nat.le_of_ble_eq_true rfl) (by decide) (b := 109) rfl (fun I11 J12 q13 => ?_)
        obtain ⟨rfl, hR15, hF16⟩ := q13
        refine rc_p (p_iconst (v := 1) (dk_at ktX0_moveRecords_1 2 rfl) (by decide) (b := 110) rfl) ?_
        refine r_iret (dk_at ktX0_moveRecords_1 3 rfl) rfl rfl ⟨_, rfl, ?_⟩
        have hk : k = (recs (told σ)).length := by omega
        subst hk
        rw [List.take_length] at hE
        have h0 : fMoveP p σ = sq (fWl (211 + 32 * (1 - p) + 1) (recs (told σ))) (sq (fWr (211 + 32 * (1 - p)) (wordI 6 ((genI σ p + 1) % 256))) (fNote 5 (nI (1 - p)))) (sErJ σ (1 - p)) := by
          unfold fMoveP; rw [sq_e (fErJ_e hs)]
        have he : fMoveP p σ = (true, (sNote (sWr σz (211 + 32 * (1 - p)) (wordI 6 ((genI σ p + 1) % 256))) 5 (nI (1 - p)))) := by
          rw [h0, sq_e hE, sq_e (fWr_e c98)]; rfl
        exact ⟨by rw [he]; rfl, rfl, by rw [he]; exact RelE.of hR15 (by omega), FD.tr (FD.tr hFz (hF10.mo (by simp <;> omega))) (hF16.mo (by simp))⟩
      · have c98 := bi_f c98
        refine rc_p (p_iconst (v := 0) (dk_at ktX0_moveRecords_0 56 rfl) (by decide) (b := 102) rfl) ?_
        refine r_iret (dk_at ktX0_moveRecords_0 57 rfl) rfl rfl ⟨_, rfl, ?_⟩
        have hk : k = (recs (told σ)).length := by omega
        subst hk
        rw [List.take_length] at hE
        have h0 : fMoveP p σ = sq (fWl (211 + 32 * (1 - p) + 1) (recs (told σ))) (sq (fWr (211 + 32 * (1 - p)) (wordI 6 ((genI σ p + 1) % 256))) (fNote 5 (nI (1 - p)))) (sErJ σ (1 - p)) := by
          unfold fMoveP; rw [sq_e (fErJ_e hs)]
        have he : fMoveP p σ = (false, (sWr σz (211 + 32 * (1 - p)) (wordI 6 ((genI σ p + 1) % 256)))) := by
          rw [h0, sq_e hE, sq_n (fWr_e c98)]
        exact ⟨by rw [he]; rfl, rfl, by rw [he]; exact RelE.of hR9 (by omega), FD.tr hFz (hF10.mo (by simp <;> omega))⟩
    · have c38 : ¬ ((recs (told σ)).length) ≤ k := fun h => c38 ((nI_leI (a := (recs (told σ)).length) (b := k) (by omega) (by omega)).mpr h)
      refine rc_p (p_aload_n 1 (dk_at ktX0_moveRecords_0 25 rfl) rfl rfl (b := 42) rfl) ?_
      refine r_geta fl_X0_12 rfl hd.l0 hd.s0 (dk_at ktX0_moveRecords_0 26 rfl) hd.g0_0 (b := 45) rfl ?_
      refine rc_p (p_iload_n 3 (dk_at ktX0_moveRecords_0 27 rfl) rfl rfl (b := 46) rfl) ?_
      refine rc_p (p_iconst (v := 1) (dk_at ktX0_moveRecords_0 28 rfl) (by decide) (b := 47) rfl) ?_
      refine rc_p (p_iload 0 (dk_at ktX0_moveRecords_0 29 rfl) rfl (b := 49) rfl) ?_
      refine rc_p (p_iadd (v := (nI (1 + k))) (dk_at ktX0_moveRecords_0 30 rfl) (nI_add 1 k) (b := 50) rfl) ?_
      refine rc_p (p_aload_n 1 (dk_at ktX0_moveRecords_0 31 rfl) rfl rfl (b := 51) rfl) ?_
      refine r_geta fl_X0_32 rfl hd.l0 hd.s0 (dk_at ktX0_moveRecords_0 32 rfl) hd.g0_3 (b := 54) rfl ?_
      refine rc_p (p_iload 0 (dk_at ktX0_moveRecords_0 33 rfl) rfl (b := 56) rfl) ?_
      refine r_iald (j := k) (hd.lt 17 (by decide)) hd.s17 (dk_at ktX0_moveRecords_0 34 rfl) rfl ⟨by omega, by decide⟩ (v := ((recs (told σ)).getD k 0)) (hMz k (by omega)) (b := 57) rfl ?_
      refine r_iV (As' := [.int (nI (2 + (1 - p))), .int (nI (1 + k)), .int ((recs (told σ)).getD k 0)]) (rest := []) (s_X1_write hd (σ := σz) hRz hIz (2 + (1 - p)) (1 + k) (211 + 32 * (1 - p) + (1 + k)) (by omega) (by omega) (lc_j (by omega) (by omega)) ((recs (told σ)).getD k 0)) cw_X0_111 qi_X1_write qv_X1_write rfl (hd.lt 1 (by decide)) hd.s1 (dk_at ktX0_moveRecords_0 35 rfl) rfl rfl (Nat.le_of_ble_eq_true rfl) (by decide) (b := 60) rfl (fun v20 I17 J18 q19 => ?_)
      obtain ⟨rfl, rfl, hR21, hF22⟩ := q19
      refine r_if_ne (dk_at ktX0_moveRecords_0 36 rfl) (b := 65) (by decide) (b2 := 63) rfl (fun c60 => ?_) (fun c60 => ?_)
      · have c60 := bi_t c60
        refine rc_p (p_iinc (j := 0) (v := (nI (k + 1))) (ls' := [(4, .int (nI (k + 1))), (0, .ref d), (1, .int (nI (1 - p))), (2, .int (nI (2 + (1 - p)))), (3, .int (nI ((recs (told σ)).length)))]) (dk_at ktX0_moveRecords_0 39 rfl) rfl (nI_add k 1) (by decide) rfl (b := 68) rfl) ?_
        refine rc_p (p_goto (b := 35) (dk_at ktX0_moveRecords_0 40 rfl) (by decide)) ?_
        exact ih (k + 1) I17 _ (by omega) (by omega) (by rw [wl_step (by omega) hE]; exact fWr_e c60) (by rw [Nat.add_assoc]; exact hR21) (by rw [Nat.add_assoc]; exact (Inv.wr hIz (by omega) (by omega))) (FD.tr hFz (hF22.mo (by simp <;> omega))) (fun j hj => (congrFun (hF22 _ (by simp; omega)) j).trans (hMz j hj)) ((hF22 _ (by simp; omega)).trans hLz)
      · have c60 := bi_f c60
        refine rc_p (p_iconst (v := 0) (dk_at ktX0_moveRecords_0 37 rfl) (by decide) (b := 64) rfl) ?_
        refine r_iret (dk_at ktX0_moveRecords_0 38 rfl) rfl rfl ⟨_, rfl, ?_⟩
        have h0 : fMoveP p σ = sq (fWl (211 + 32 * (1 - p) + 1) (recs (told σ))) (sq (fWr (211 + 32 * (1 - p)) (wordI 6 ((genI σ p + 1) % 256))) (fNote 5 (nI (1 - p)))) (sErJ σ (1 - p)) := by
          unfold fMoveP; rw [sq_e (fErJ_e hs)]
        have he : fMoveP p σ = (false, (sWr σz (211 + 32 * (1 - p) + (1 + k)) ((recs (told σ)).getD k 0))) := by
          rw [h0, sq_n (wl_stop (by omega) hE c60), Nat.add_assoc (211 + 32 * (1 - p))]
        exact ⟨by rw [he]; rfl, rfl, by rw [he]; exact RelE.of hR21 (by omega), FD.tr hFz (hF22.mo (by simp <;> omega))⟩
  have hb := hI.bd
  have hl8 := recs_len (told σ)
  have hN := hR.2.2.2.2.1
  refine rc_p (p_iconst (v := 1) (dk_at ktX0_moveRecords_0 0 rfl) (by decide) (b := 1) rfl) ?_
  refine rc_p (p_aload_n 0 (dk_at ktX0_moveRecords_0 1 rfl) rfl rfl (b := 2) rfl) ?_
  refine r_geta fl_X0_28 rfl hd.l0 hd.s0 (dk_at ktX0_moveRecords_0 2 rfl) hd.g0_2 (b := 5) rfl ?_
  refine r_geti fl_X0_115 rfl (hd.lt 16 (by decide)) hd.s16 (dk_at ktX0_moveRecords_0 3 rfl) (v := (nI p)) (hL.1.trans hA) (b := 8) rfl ?_
  refine rc_p (p_isub (v := (nI (1 - p))) (dk_at ktX0_moveRecords_0 4 rfl) (pk_sub (a := 1) (b := p) (by omega)) (b := 9) rfl) ?_
  refine rc_p (p_istore_n (ls' := [(1, .int (nI (1 - p))), (0, .ref d)]) (dk_at ktX0_moveRecords_0 5 rfl) rfl (by decide) rfl (b := 10) rfl) ?_
  refine rc_p (p_iconst (v := 2) (dk_at ktX0_moveRecords_0 6 rfl) (by decide) (b := 11) rfl) ?_
  refine rc_p (p_iload_n 0 (dk_at ktX0_moveRecords_0 7 rfl) rfl rfl (b := 12) rfl) ?_
  refine rc_p (p_iadd (v := (nI (2 + (1 - p)))) (dk_at ktX0_moveRecords_0 8 rfl) (nI_add 2 (1 - p)) (b := 13) rfl) ?_
  refine rc_p (p_istore_n (ls' := [(2, .int (nI (2 + (1 - p)))), (1, .int (nI (1 - p))), (0, .ref d)]) (dk_at ktX0_moveRecords_0 9 rfl) rfl (by decide) rfl (b := 14) rfl) ?_
  refine rc_p (p_aload_n 2 (dk_at ktX0_moveRecords_0 10 rfl) rfl rfl (b := 15) rfl) ?_
  refine r_geta fl_X0_12 rfl hd.l0 hd.s0 (dk_at ktX0_moveRecords_0 11 rfl) hd.g0_0 (b := 18) rfl ?_
  refine rc_p (p_iload_n 1 (dk_at ktX0_moveRecords_0 12 rfl) rfl rfl (b := 19) rfl) ?_
  refine r_iV (As' := [.int (nI (1 - p))]) (rest := []) (s_X1_eraseJournalPage hd (σ := σ) hR hI (1 - p) (by omega)) cw_X0_104 qi_X1_eraseJournalPage qv_X1_eraseJournalPage rfl (hd.lt 1 (by decide)) hd.s1 (dk_at ktX0_moveRecords_0 13 rfl) rfl rfl (Nat.le_of_ble_eq_true rfl) (by decide) (b := 22) rfl (fun v26 I23 J24 q25 => ?_)
  obtain ⟨rfl, rfl, hR27, hF28⟩ := q25
  refine r_if_ne (dk_at ktX0_moveRecords_0 14 rfl) (b := 27) (by decide) (b2 := 25) rfl (fun c22 => ?_) (fun c22 => ?_)
  · have c22 := bi_t c22
    have hs := c22
    refine rc_p (p_aload_n 2 (dk_at ktX0_moveRecords_0 17 rfl) rfl rfl (b := 28) rfl) ?_
    refine r_iV (As' := []) (rest := []) (s_X0_gatherRecords hd (τ := told σ) (fun j hj => (congrFun (hF28 _ (by simp; omega)) (5 + j)).trans (hL.2.2.2 j hj)) (told_3 hb.2.2.2.2.2.2.1)) cw_X0_118 qi_X0_gatherRecords qv_X0_gatherRecords rfl hd.l0 hd.s0 (dk_at ktX0_moveRecords_0 18 rfl) rfl rfl (Nat.le_of_ble_eq_true rfl) (by decide) (b := 31) rfl (fun v32 I29 J30 q31 => ?_)
    obtain ⟨rfl, rfl, hG33⟩ := q31
    refine rc_p (p_istore_n (ls' := [(3, .int (nI ((recs (told σ)).length))), (2, .int (nI (2 + (1 - p)))), (1, .int (nI (1 - p))), (0, .ref d)]) (dk_at ktX0_moveRecords_0 19 rfl) rfl (by decide) rfl (b := 32) rfl) ?_
    refine rc_p (p_iconst (v := 0) (dk_at ktX0_moveRecords_0 20 rfl) (by decide) (b := 33) rfl) ?_
    refine rc_p (p_istore (ls' := [(4, .int 0), (3, .int (nI ((recs (told σ)).length))), (2, .int (nI (2 + (1 - p)))), (1, .int (nI (1 - p))), (0, .ref d)]) (dk_at ktX0_moveRecords_0 21 rfl) (by decide) rfl (b := 35) rfl) ?_
    refine rc_sub [0, 4, 3, 2, 1] (ls' := [(4, .int 0), (0, .ref d), (1, .int (nI (1 - p))), (2, .int (nI (2 + (1 - p)))), (3, .int (nI ((recs (told σ)).length)))]) rfl ?_
    exact cut35 hs 1000 0 I29 (sErJ σ (1 - p)) (by omega) (Nat.zero_le _) rfl (hR27.skip (hG33.1.mo (by simp))) (Inv.erj hI (by omega)) (FD.tr (FD.tr FD.rf (hF28.mo (by simp <;> omega))) (hG33.1.mo (by simp <;> omega))) (hG33.2) ((hG33.led).trans (hF28 _ (by simp; omega)))
  · have c22 := bi_f c22
    refine rc_p (p_iconst (v := 0) (dk_at ktX0_moveRecords_0 15 rfl) (by decide) (b := 26) rfl) ?_
    refine r_iret (dk_at ktX0_moveRecords_0 16 rfl) rfl rfl ⟨_, rfl, ?_⟩
    have he : fMoveP p σ = (false, sErJ σ (1 - p)) := by
      unfold fMoveP; rw [sq_n (fErJ_e c22)]
    exact ⟨by rw [he]; rfl, rfl, by rw [he]; exact RelE.of hR27 (by omega), (FD.tr FD.rf (hF28.mo (by simp <;> omega)))⟩

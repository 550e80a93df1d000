/-! THE CLASS: its calls, of words and pages -/
set_option maxRecDepth 4000 in
set_option maxHeartbeats 4000000 in
theorem s_X6_stage {n : Nat} {sh : mS} {G : mG} {I : mI} {J : mJ} {bx bt d be bf bg b0 b1 bv : Nat} {σ : sT} {T N : Nat} (hB : BootH n sh G bx bt d be bf bg b0 b1 bv) (hR : RelD d I σ T N) (hI : Inv σ) (w : Int32) : Sp yX6_stage cX6_stage 2 (some FieldType.int) 7 310 1 6 [.ref bx, .int w] n sh G I J (Qi (fun r_ I_ J_ => cIn w 0 65535 = 0 ∧ a_stage σ w = r_ ∧ J = J_ ∧ RelN d I_ (t_stage σ w) (T + 0) ∧ FB d bg I I_)) (eX (cIn w 0 65535) I J) := by
  have hd := hB.hD
  have hord := hB.ord
  have hb := hI.bd
  have hNs := hR.2.2.2.1
  have hN61 := hR.2.2.2.2.1
  have hTm := hR.2.2.2.2.2
  refine Sp.of (by decide) (ls := [(0, .ref bx), (1, .int w)]) (fun _ => rfl) (fun _ => Nat.le_of_ble_eq_true rfl) ?_
  refine rc_p (p_iload_n 1 (dk_at ktX6_stage_0 0 rfl) rfl rfl (b := 1) rfl) ?_
  refine rc_p (p_iconst (v := 0) (dk_at ktX6_stage_0 1 rfl) (by decide) (b := 2) rfl) ?_
  refine rc_p (p_ldc (v := 65535) qk_TwinBoot_70 (dk_at ktX6_stage_0 2 rfl) (b := 4) rfl) ?_
  refine r_vSX (As := [.int w, .int 0, .int 65535]) (rest := []) (s_X6_requireRange w 0 65535) cw_X6_71 qs_X6_requireRange (dk_at ktX6_stage_0 3 rfl) rfl rfl (Nat.le_of_ble_eq_true rfl) (by decide) (b := 7) rfl (fun _ _ _ h => ⟨Or.inl ⟨h.1, cIn_f h.2.1⟩, h.2.2⟩) (fun I1 J2 hq3 => ?_)
  obtain ⟨ok4, rfl, rfl⟩ := hq3
  refine rc_p (p_aload_n 0 (dk_at ktX6_stage_0 4 rfl) rfl rfl (b := 8) rfl) ?_
  refine r_geta fl_X6_27 rfl hB.l0 hB.s0 (dk_at ktX6_stage_0 5 rfl) hB.g0_1 (b := 11) rfl ?_
  refine r_geti fl_X6_75 rfl hd.l0 hd.s0 (dk_at ktX6_stage_0 6 rfl) (v := (nI (nS σ))) ((hR.1 0 5 4 lc_0_5).trans (hI).w4) (b := 14) rfl ?_
  refine rc_p (p_aload_n 0 (dk_at ktX6_stage_0 7 rfl) rfl rfl (b := 15) rfl) ?_
  refine r_geta fl_X6_27 rfl hB.l0 hB.s0 (dk_at ktX6_stage_0 8 rfl) hB.g0_1 (b := 18) rfl ?_
  refine r_geta fl_X6_57 rfl hd.l0 hd.s0 (dk_at ktX6_stage_0 9 rfl) hd.g0_0 (b := 21) rfl ?_
  refine r_iV (As' := []) (rest := [.int (nI (nS σ))]) (s_X1_room hd (σ := σ) hR hI) cw_X6_78 qi_X1_room qv_X1_room rfl (hd.lt 1 (by decide)) hd.s1 (dk_at ktX6_stage_0 10 rfl) rfl rfl (Nat.le_of_ble_eq_true rfl) (by decide) (b := 24) rfl (fun v8 I5 J6 q7 => ?_)
  obtain ⟨rfl, rfl, rfl⟩ := q7
  refine r_icmp_lt (dk_at ktX6_stage_0 11 rfl) (b := 30) (by decide) (b2 := 27) rfl (fun c24 => ?_) (fun c24 => ?_)
  · have c24 : (nS σ) < (nW σ - 3) := (nI_ltI (a := nS σ) (b := nW σ - 3) (by omega) (by omega)).mp c24
    refine rc_p (p_aload_n 0 (dk_at ktX6_stage_0 14 rfl) rfl rfl (b := 31) rfl) ?_
    refine r_geta fl_X6_27 rfl hB.l0 hB.s0 (dk_at ktX6_stage_0 15 rfl) hB.g0_1 (b := 34) rfl ?_
    refine r_geta fl_X6_82 rfl hd.l0 hd.s0 (dk_at ktX6_stage_0 16 rfl) hd.g0_4 (b := 37) rfl ?_
    refine rc_p (p_iconst (v := 3) (dk_at ktX6_stage_0 17 rfl) (by decide) (b := 38) rfl) ?_
    refine rc_p (p_aload_n 0 (dk_at ktX6_stage_0 18 rfl) rfl rfl (b := 39) rfl) ?_
    refine r_geta fl_X6_27 rfl hB.l0 hB.s0 (dk_at ktX6_stage_0 19 rfl) hB.g0_1 (b := 42) rfl ?_
    refine r_geti fl_X6_75 rfl hd.l0 hd.s0 (dk_at ktX6_stage_0 20 rfl) (v := (nI (nS σ))) ((hR.1 0 5 4 lc_0_5).trans (hI).w4) (b := 45) rfl ?_
    refine rc_p (p_iadd (v := (nI (3 + (nS σ)))) (dk_at ktX6_stage_0 21 rfl) (nI_add 3 (nS σ)) (b := 46) rfl) ?_
    refine rc_p (p_iload_n 1 (dk_at ktX6_stage_0 22 rfl) rfl rfl (b := 47) rfl) ?_
    refine r_iast (j := 3 + (nS σ)) (hd.lt 18 (by decide)) hd.s18 (dk_at ktX6_stage_0 23 rfl) rfl ⟨by omega, by decide⟩ (b := 48) rfl ?_
    refine rc_p (p_aload_n 0 (dk_at ktX6_stage_0 24 rfl) rfl rfl (b := 49) rfl) ?_
    refine r_geta fl_X6_27 rfl hB.l0 hB.s0 (dk_at ktX6_stage_0 25 rfl) hB.g0_1 (b := 52) rfl ?_
    refine rc_p (p_dup (dk_at ktX6_stage_0 26 rfl) rfl (b := 53) rfl) ?_
    refine r_geti fl_X6_75 rfl hd.l0 hd.s0 (dk_at ktX6_stage_0 27 rfl) (v := (nI (nS σ))) ((up2_n (by omega)).trans ((hR.1 0 5 4 lc_0_5).trans (hI).w4)) (b := 56) rfl ?_
    refine rc_p (p_iconst (v := 1) (dk_at ktX6_stage_0 28 rfl) (by decide) (b := 57) rfl) ?_
    refine rc_p (p_iadd (v := (nI (nS σ + 1))) (dk_at ktX6_stage_0 29 rfl) (nI_add (nS σ) 1) (b := 58) rfl) ?_
    refine r_puti fl_X6_75 fw_X0_5 rfl hd.l0 hd.s0 rfl rfl (dk_at ktX6_stage_0 30 rfl) (b := 61) rfl ?_
    refine rc_p (p_aload_n 0 (dk_at ktX6_stage_0 31 rfl) rfl rfl (b := 62) rfl) ?_
    refine r_geta fl_X6_27 rfl hB.l0 hB.s0 (dk_at ktX6_stage_0 32 rfl) hB.g0_1 (b := 65) rfl ?_
    refine r_geti fl_X6_75 rfl hd.l0 hd.s0 (dk_at ktX6_stage_0 33 rfl) (v := (nI (nS σ + 1))) up2_s (b := 68) rfl ?_
    refine r_iret (dk_at ktX6_stage_0 34 rfl) rfl rfl ⟨_, rfl, ?_⟩
    have e1 := hR.stg (w := w) (by omega)
    refine ⟨cIn_t ok4, if_neg (by omega), rfl, ?_, FB.mo (FD.fb (os := [0, 1, 2, 3, 4, 5, 6, 7, 8, 9, 10, 11, 12, 13, 14, 15, 16, 17, 18]) (FD.up0 (FD.up FD.rf (by simp)) (by simp)) (by simp <;> omega) (by omega)) (Nat.le_refl _) (Nat.le_refl _)⟩
    rw [show t_stage σ w = upd (upd σ (19 + nS σ) w) 4 (nI (nS σ + 1)) from (if_pos ok4).trans (if_neg (by omega))]
    exact ⟨T, max N (nS σ + 1), by omega, e1⟩
  · have c24 : ¬ (nS σ) < (nW σ - 3) := fun h => c24 ((nI_ltI (a := nS σ) (b := nW σ - 3) (by omega) (by omega)).mpr h)
    refine rc_p (p_bipush (v := (-2)) (dk_at ktX6_stage_0 12 rfl) (by decide) (b := 29) rfl) ?_
    refine r_iret (dk_at ktX6_stage_0 13 rfl) rfl rfl ⟨_, rfl, ?_⟩
    refine ⟨cIn_t ok4, if_pos (by omega), rfl, ?_, FB.rf⟩
    rw [show t_stage σ w = σ from (if_pos ok4).trans (if_pos (by omega))]
    exact RelN.of hR (by omega)
set_option maxRecDepth 4000 in
set_option maxHeartbeats 4000000 in
theorem s_X6_word {n : Nat} {sh : mS} {G : mG} {I : mI} {J : mJ} {bx bt d be bf bg b0 b1 bv : Nat} {σ : sT} {T N : Nat} (hB : BootH n sh G bx bt d be bf bg b0 b1 bv) (hR : RelD d I σ T N) (hI : Inv σ) (s i : Int32) : Sp yX6_word cX6_word 3 (some FieldType.int) 8 330 1 6 [.ref bx, .int s, .int i] n sh G I J (Qi (fun r_ I_ J_ => cIn s 0 1 = 0 ∧ a_word σ s i = r_ ∧ J = J_ ∧ RelN d I_ (σ) (T + 0) ∧ FB d bg I I_)) (eX (cIn s 0 1) I J) := by
  have hd := hB.hD
  have hord := hB.ord
  have hb := hI.bd
  have hNs := hR.2.2.2.1
  have hN61 := hR.2.2.2.2.1
  have hTm := hR.2.2.2.2.2
  rcases inb_c i (nW σ) (by omega) with ⟨j, hj, rfl⟩ | hi
  · refine Sp.of (by decide) (ls := [(0, .ref bx), (1, .int s), (2, .int (nI j))]) (fun _ => rfl) (fun _ => Nat.le_of_ble_eq_true rfl) ?_
    refine rc_p (p_iload_n 1 (dk_at ktX6_word_0 0 rfl) rfl rfl (b := 1) rfl) ?_
    refine r_vSX (As := [.int s]) (rest := []) (s_X6_requireSlot s) cw_X6_134 qs_X6_requireSlot (dk_at ktX6_word_0 1 rfl) rfl rfl (Nat.le_of_ble_eq_true rfl) (by decide) (b := 4) rfl (fun _ _ _ h => ⟨Or.inl ⟨h.1, cIn_f h.2.1⟩, h.2.2⟩) (fun I1 J2 hq3 => ?_)
    obtain ⟨ok4, rfl, rfl⟩ := hq3
    obtain ⟨q, hq, rfl⟩ := sl_ok ok4
    refine rc_p (p_iload_n 2 (dk_at ktX6_word_0 2 rfl) rfl rfl (b := 5) rfl) ?_
    refine r_if_lt (dk_at ktX6_word_0 3 rfl) (b := 22) (by decide) (b2 := 8) rfl (fun c5 => ?_) (fun c5 => ?_)
    · have c5 : j < 0 := (nI_ltI (a := j) (b := 0) (by omega) (by omega)).mp c5
      omega
    · have c5 : ¬ j < 0 := fun h => c5 ((nI_ltI (a := j) (b := 0) (by omega) (by omega)).mpr h)
      refine rc_p (p_iload_n 2 (dk_at ktX6_word_0 4 rfl) rfl rfl (b := 9) rfl) ?_
      refine rc_p (p_aload_n 0 (dk_at ktX6_word_0 5 rfl) rfl rfl (b := 10) rfl) ?_
      refine r_geta fl_X6_27 rfl hB.l0 hB.s0 (dk_at ktX6_word_0 6 rfl) hB.g0_1 (b := 13) rfl ?_
      refine r_geta fl_X6_57 rfl hd.l0 hd.s0 (dk_at ktX6_word_0 7 rfl) hd.g0_0 (b := 16) rfl ?_
      refine r_geti fl_X6_86 rfl (hd.lt 1 (by decide)) hd.s1 (dk_at ktX6_word_0 8 rfl) (v := (nI (nW σ))) ((hR.1 1 2 0 lc_1_2).trans (hI).w0) (b := 19) rfl ?_
      refine r_icmp_lt (dk_at ktX6_word_0 9 rfl) (b := 24) (by decide) (b2 := 22) rfl (fun c19 => ?_) (fun c19 => ?_)
      · have c19 : j < (nW σ) := (nI_ltI (a := j) (b := nW σ) (by omega) (by omega)).mp c19
        refine rc_p (p_aload_n 0 (dk_at ktX6_word_0 12 rfl) rfl rfl (b := 25) rfl) ?_
        refine r_geta fl_X6_27 rfl hB.l0 hB.s0 (dk_at ktX6_word_0 13 rfl) hB.g0_1 (b := 28) rfl ?_
        refine r_geta fl_X6_57 rfl hd.l0 hd.s0 (dk_at ktX6_word_0 14 rfl) hd.g0_0 (b := 31) rfl ?_
        refine r_geta fl_X6_141 rfl (hd.lt 1 (by decide)) hd.s1 (dk_at ktX6_word_0 15 rfl) hd.g1_0 (b := 34) rfl ?_
        refine rc_p (p_iload_n 1 (dk_at ktX6_word_0 16 rfl) rfl rfl (b := 35) rfl) ?_
        refine r_aald (j := q) (id2 := (d + 3 + q)) (hd.lt 2 (by decide)) hd.s2 (by decide) (dk_at ktX6_word_0 17 rfl) rfl ⟨by omega, by decide⟩ (hd.gc (by omega)) (b := 36) rfl ?_
        refine rc_p (p_iload_n 2 (dk_at ktX6_word_0 18 rfl) rfl rfl (b := 37) rfl) ?_
        refine r_iald (j := j) (by have := hd.1; omega) (hd.sc (by omega)) (dk_at ktX6_word_0 19 rfl) rfl ⟨by omega, by decide⟩ (v := (σ (83 + 64 * q + j))) (hR.at3 (q := 3) (r := q) (k := j) (a := 83 + 64 * q + j) (lc_s (by omega) (by omega))) (b := 38) rfl ?_
        refine r_iret (dk_at ktX6_word_0 20 rfl) rfl rfl ⟨_, rfl, ?_⟩
        refine ⟨cIn_t ok4, ?_, rfl, RelN.of hR (by omega), FB.rf⟩
        unfold a_word; rw [if_pos (inb_t hj (by omega)), tn_nI (by omega), tn_nI (by omega)]; first | done | rfl
      · have c19 : ¬ j < (nW σ) := fun h => c19 ((nI_ltI (a := j) (b := nW σ) (by omega) (by omega)).mpr h)
        omega
  · refine Sp.of (by decide) (ls := [(0, .ref bx), (1, .int s), (2, .int i)]) (fun _ => rfl) (fun _ => Nat.le_of_ble_eq_true rfl) ?_
    refine rc_p (p_iload_n 1 (dk_at ktX6_word_0 0 rfl) rfl rfl (b := 1) rfl) ?_
    refine r_vSX (As := [.int s]) (rest := []) (s_X6_requireSlot s) cw_X6_134 qs_X6_requireSlot (dk_at ktX6_word_0 1 rfl) rfl rfl (Nat.le_of_ble_eq_true rfl) (by decide) (b := 4) rfl (fun _ _ _ h => ⟨Or.inl ⟨h.1, cIn_f h.2.1⟩, h.2.2⟩) (fun I5 J6 hq7 => ?_)
    obtain ⟨ok8, rfl, rfl⟩ := hq7
    obtain ⟨q, hq, rfl⟩ := sl_ok ok8
    refine rc_p (p_iload_n 2 (dk_at ktX6_word_0 2 rfl) rfl rfl (b := 5) rfl) ?_
    refine r_if_lt (dk_at ktX6_word_0 3 rfl) (b := 22) (by decide) (b2 := 8) rfl (fun c5 => ?_) (fun c5 => ?_)
    · skip
      refine rc_p (p_iconst (v := (-1)) (dk_at ktX6_word_0 10 rfl) (by decide) (b := 23) rfl) ?_
      refine r_iret (dk_at ktX6_word_0 11 rfl) rfl rfl ⟨_, rfl, ?_⟩
      refine ⟨cIn_t ok8, ?_, rfl, RelN.of hR (by omega), FB.rf⟩
      unfold a_word; rw [if_neg (by rw [hi]; decide)]
    · skip
      refine rc_p (p_iload_n 2 (dk_at ktX6_word_0 4 rfl) rfl rfl (b := 9) rfl) ?_
      refine rc_p (p_aload_n 0 (dk_at ktX6_word_0 5 rfl) rfl rfl (b := 10) rfl) ?_
      refine r_geta fl_X6_27 rfl hB.l0 hB.s0 (dk_at ktX6_word_0 6 rfl) hB.g0_1 (b := 13) rfl ?_
      refine r_geta fl_X6_57 rfl hd.l0 hd.s0 (dk_at ktX6_word_0 7 rfl) hd.g0_0 (b := 16) rfl ?_
      refine r_geti fl_X6_86 rfl (hd.lt 1 (by decide)) hd.s1 (dk_at ktX6_word_0 8 rfl) (v := (nI (nW σ))) ((hR.1 1 2 0 lc_1_2).trans (hI).w0) (b := 19) rfl ?_
      refine r_icmp_lt (dk_at ktX6_word_0 9 rfl) (b := 24) (by decide) (b2 := 22) rfl (fun c19 => ?_) (fun c19 => ?_)
      · skip
        exact (inb_lt hi c5 c19).elim
      · skip
        refine rc_p (p_iconst (v := (-1)) (dk_at ktX6_word_0 10 rfl) (by decide) (b := 23) rfl) ?_
        refine r_iret (dk_at ktX6_word_0 11 rfl) rfl rfl ⟨_, rfl, ?_⟩
        refine ⟨cIn_t ok8, ?_, rfl, RelN.of hR (by omega), FB.rf⟩
        unfold a_word; rw [if_neg (by rw [hi]; decide)]
set_option maxRecDepth 4000 in
set_option maxHeartbeats 4000000 in
theorem s_X6_journalWord {n : Nat} {sh : mS} {G : mG} {I : mI} {J : mJ} {bx bt d be bf bg b0 b1 bv : Nat} {σ : sT} {T N : Nat} (hB : BootH n sh G bx bt d be bf bg b0 b1 bv) (hR : RelD d I σ T N) (hI : Inv σ) (s i : Int32) : Sp yX6_journalWord cX6_journalWord 3 (some FieldType.int) 8 330 1 6 [.ref bx, .int s, .int i] n sh G I J (Qi (fun r_ I_ J_ => cIn s 0 1 = 0 ∧ a_jword σ s i = r_ ∧ J = J_ ∧ RelN d I_ (σ) (T + 0) ∧ FB d bg I I_)) (eX (cIn s 0 1) I J) := by
  have hd := hB.hD
  have hord := hB.ord
  have hb := hI.bd
  have hNs := hR.2.2.2.1
  have hN61 := hR.2.2.2.2.1
  have hTm := hR.2.2.2.2.2
  rcases inb_c i (nJ σ) (by omega) with ⟨j, hj, rfl⟩ | hi
  · refine Sp.of (by decide) (ls := [(0, .ref bx), (1, .int s), (2, .int (nI j))]) (fun _ => rfl) (fun _ => Nat.le_of_ble_eq_true rfl) ?_
    refine rc_p (p_iload_n 1 (dk_at ktX6_journalWord_0 0 rfl) rfl rfl (b := 1) rfl) ?_
    refine r_vSX (As := [.int s]) (rest := []) (s_X6_requireSlot s) cw_X6_134 qs_X6_requireSlot (dk_at ktX6_journalWord_0 1 rfl) rfl rfl (Nat.le_of_ble_eq_true rfl) (by decide) (b := 4) rfl (fun _ _ _ h => ⟨Or.inl ⟨h.1, cIn_f h.2.1⟩, h.2.2⟩) (fun I1 J2 hq3 => ?_)
    obtain ⟨ok4, rfl, rfl⟩ := hq3
    obtain ⟨q, hq, rfl⟩ := sl_ok ok4
    refine rc_p (p_iload_n 2 (dk_at ktX6_journalWord_0 2 rfl) rfl rfl (b := 5) rfl) ?_
    refine r_if_lt (dk_at ktX6_journalWord_0 3 rfl) (b := 22) (by decide) (b2 := 8) rfl (fun c5 => ?_) (fun c5 => ?_)
    · have c5 : j < 0 := (nI_ltI (a := j) (b := 0) (by omega) (by omega)).mp c5
      omega
    · have c5 : ¬ j < 0 := fun h => c5 ((nI_ltI (a := j) (b := 0) (by omega) (by omega)).mpr h)
      refine rc_p (p_iload_n 2 (dk_at ktX6_journalWord_0 4 rfl) rfl rfl (b := 9) rfl) ?_
      refine rc_p (p_aload_n 0 (dk_at ktX6_journalWord_0 5 rfl) rfl rfl (b := 10) rfl) ?_
      refine r_geta fl_X6_27 rfl hB.l0 hB.s0 (dk_at ktX6_journalWord_0 6 rfl) hB.g0_1 (b := 13) rfl ?_
      refine r_geta fl_X6_57 rfl hd.l0 hd.s0 (dk_at ktX6_journalWord_0 7 rfl) hd.g0_0 (b := 16) rfl ?_
      refine r_geti fl_X6_92 rfl (hd.lt 1 (by decide)) hd.s1 (dk_at ktX6_journalWord_0 8 rfl) (v := (nI (nJ σ))) ((hR.1 1 5 2 lc_1_5).trans (hI).w2) (b := 19) rfl ?_
      refine r_icmp_lt (dk_at ktX6_journalWord_0 9 rfl) (b := 24) (by decide) (b2 := 22) rfl (fun c19 => ?_) (fun c19 => ?_)
      · have c19 : j < (nJ σ) := (nI_ltI (a := j) (b := nJ σ) (by omega) (by omega)).mp c19
        refine rc_p (p_aload_n 0 (dk_at ktX6_journalWord_0 12 rfl) rfl rfl (b := 25) rfl) ?_
        refine r_geta fl_X6_27 rfl hB.l0 hB.s0 (dk_at ktX6_journalWord_0 13 rfl) hB.g0_1 (b := 28) rfl ?_
        refine r_geta fl_X6_57 rfl hd.l0 hd.s0 (dk_at ktX6_journalWord_0 14 rfl) hd.g0_0 (b := 31) rfl ?_
        refine r_geta fl_X6_141 rfl (hd.lt 1 (by decide)) hd.s1 (dk_at ktX6_journalWord_0 15 rfl) hd.g1_0 (b := 34) rfl ?_
        refine rc_p (p_iconst (v := 2) (dk_at ktX6_journalWord_0 16 rfl) (by decide) (b := 35) rfl) ?_
        refine rc_p (p_iload_n 1 (dk_at ktX6_journalWord_0 17 rfl) rfl rfl (b := 36) rfl) ?_
        refine rc_p (p_iadd (v := (nI (2 + q))) (dk_at ktX6_journalWord_0 18 rfl) (nI_add 2 q) (b := 37) rfl) ?_
        refine r_aald (j := 2 + q) (id2 := (d + 3 + (2 + q))) (hd.lt 2 (by decide)) hd.s2 (by decide) (dk_at ktX6_journalWord_0 19 rfl) rfl ⟨by omega, by decide⟩ (hd.gc (by omega)) (b := 38) rfl ?_
        refine rc_p (p_iload_n 2 (dk_at ktX6_journalWord_0 20 rfl) rfl rfl (b := 39) rfl) ?_
        refine r_iald (j := j) (by have := hd.1; omega) (hd.sc (by omega)) (dk_at ktX6_journalWord_0 21 rfl) rfl ⟨by omega, by decide⟩ (v := (σ (211 + 32 * q + j))) (hR.at3 (q := 3) (r := (2 + q)) (k := j) (a := 211 + 32 * q + j) (lc_j (by omega) (by omega))) (b := 40) rfl ?_
        refine r_iret (dk_at ktX6_journalWord_0 22 rfl) rfl rfl ⟨_, rfl, ?_⟩
        refine ⟨cIn_t ok4, ?_, rfl, RelN.of hR (by omega), FB.rf⟩
        unfold a_jword; rw [if_pos (inb_t hj (by omega)), tn_nI (by omega), tn_nI (by omega)]; first | done | rfl
      · have c19 : ¬ j < (nJ σ) := fun h => c19 ((nI_ltI (a := j) (b := nJ σ) (by omega) (by omega)).mpr h)
        omega
  · refine Sp.of (by decide) (ls := [(0, .ref bx), (1, .int s), (2, .int i)]) (fun _ => rfl) (fun _ => Nat.le_of_ble_eq_true rfl) ?_
    refine rc_p (p_iload_n 1 (dk_at ktX6_journalWord_0 0 rfl) rfl rfl (b := 1) rfl) ?_
    refine r_vSX (As := [.int s]) (rest := []) (s_X6_requireSlot s) cw_X6_134 qs_X6_requireSlot (dk_at ktX6_journalWord_0 1 rfl) rfl rfl (Nat.le_of_ble_eq_true rfl) (by decide) (b := 4) rfl (fun _ _ _ h => ⟨Or.inl ⟨h.1, cIn_f h.2.1⟩, h.2.2⟩) (fun I5 J6 hq7 => ?_)
    obtain ⟨ok8, rfl, rfl⟩ := hq7
    obtain ⟨q, hq, rfl⟩ := sl_ok ok8
    refine rc_p (p_iload_n 2 (dk_at ktX6_journalWord_0 2 rfl) rfl rfl (b := 5) rfl) ?_
    refine r_if_lt (dk_at ktX6_journalWord_0 3 rfl) (b := 22) (by decide) (b2 := 8) rfl (fun c5 => ?_) (fun c5 => ?_)
    · skip
      refine rc_p (p_iconst (v := (-1)) (dk_at ktX6_journalWord_0 10 rfl) (by decide) (b := 23) rfl) ?_
      refine r_iret (dk_at ktX6_journalWord_0 11 rfl) rfl rfl ⟨_, rfl, ?_⟩
      refine ⟨cIn_t ok8, ?_, rfl, RelN.of hR (by omega), FB.rf⟩
      unfold a_jword; rw [if_neg (by rw [hi]; decide)]
    · skip
      refine rc_p (p_iload_n 2 (dk_at ktX6_journalWord_0 4 rfl) rfl rfl (b := 9) rfl) ?_
      refine rc_p (p_aload_n 0 (dk_at ktX6_journalWord_0 5 rfl) rfl rfl (b := 10) rfl) ?_
      refine r_geta fl_X6_27 rfl hB.l0 hB.s0 (dk_at ktX6_journalWord_0 6 rfl) hB.g0_1 (b := 13) rfl ?_
      refine r_geta fl_X6_57 rfl hd.l0 hd.s0 (dk_at ktX6_journalWord_0 7 rfl) hd.g0_0 (b := 16) rfl ?_
      refine r_geti fl_X6_92 rfl (hd.lt 1 (by decide)) hd.s1 (dk_at ktX6_journalWord_0 8 rfl) (v := (nI (nJ σ))) ((hR.1 1 5 2 lc_1_5).trans (hI).w2) (b := 19) rfl ?_
      refine r_icmp_lt (dk_at ktX6_journalWord_0 9 rfl) (b := 24) (by decide) (b2 := 22) rfl (fun c19 => ?_) (fun c19 => ?_)
      · skip
        exact (inb_lt hi c5 c19).elim
      · skip
        refine rc_p (p_iconst (v := (-1)) (dk_at ktX6_journalWord_0 10 rfl) (by decide) (b := 23) rfl) ?_
        refine r_iret (dk_at ktX6_journalWord_0 11 rfl) rfl rfl ⟨_, rfl, ?_⟩
        refine ⟨cIn_t ok8, ?_, rfl, RelN.of hR (by omega), FB.rf⟩
        unfold a_jword; rw [if_neg (by rw [hi]; decide)]
set_option maxRecDepth 4000 in
set_option maxHeartbeats 4000000 in
theorem s_X1_pagesOf {n : Nat} {sh : mS} {G : mG} {I : mI} {J : mJ} {d : Nat} {σ : sT} {T N : Nat} (hd : DevG n sh G d) (hR : RelD d I σ T N) (hI : Inv σ) (a : Int32) : Sp yX1_pagesOf cX1_pagesOf 2 (some FieldType.int) 1 48 0 0 [.ref (d + 1), .int a] n sh G I J (Qi (fun r_ I_ J_ => nI (pgN σ a) = r_ ∧ I = I_ ∧ J = J_)) nX := by
  refine Sp.of (by decide) (ls := [(0, .ref (d + 1)), (1, .int a)]) (fun _ => rfl) (fun _ => Nat.le_of_ble_eq_true rfl) ?_
  refine rc_p (p_iload_n 1 (dk_at ktX1_pagesOf_0 0 rfl) rfl rfl (b := 1) rfl) ?_
  refine rc_p (p_iconst (v := 2) (dk_at ktX1_pagesOf_0 1 rfl) (by decide) (b := 2) rfl) ?_
  refine r_icmp_ne (dk_at ktX1_pagesOf_0 2 rfl) (b := 9) (by decide) (b2 := 5) rfl (fun c2 => ?_) (fun c2 => ?_)
  · skip
    refine rc_p (p_aload_n 0 (dk_at ktX1_pagesOf_0 5 rfl) rfl rfl (b := 10) rfl) ?_
    refine r_geti fl_X1_30 rfl (hd.lt 1 (by decide)) hd.s1 (dk_at ktX1_pagesOf_0 6 rfl) (v := (nI (nW σ / nP σ))) hR.2.1 (b := 13) rfl ?_
    refine r_iret (dk_at ktX1_pagesOf_0 7 rfl) rfl rfl ⟨_, rfl, ?_⟩
    refine ⟨?_, rfl, rfl⟩
    simp_all [pgN] <;> rfl
  · skip
    refine rc_p (p_iconst (v := 2) (dk_at ktX1_pagesOf_0 3 rfl) (by decide) (b := 6) rfl) ?_
    refine rc_p (p_goto (b := 13) (dk_at ktX1_pagesOf_0 4 rfl) (by decide)) ?_
    refine r_iret (dk_at ktX1_pagesOf_0 7 rfl) rfl rfl ⟨_, rfl, ?_⟩
    refine ⟨?_, rfl, rfl⟩
    simp_all [pgN] <;> rfl
set_option maxRecDepth 4000 in
set_option maxHeartbeats 4000000 in
theorem s_X6_wear {n : Nat} {sh : mS} {G : mG} {I : mI} {J : mJ} {bx bt d be bf bg b0 b1 bv : Nat} {σ : sT} {T N : Nat} (hB : BootH n sh G bx bt d be bf bg b0 b1 bv) (hR : RelD d I σ T N) (hI : Inv σ) (a p : Int32) : Sp yX6_wear cX6_wear 3 (some FieldType.int) 7 310 2 12 [.ref bx, .int a, .int p] n sh G I J (Qi (fun r_ I_ J_ => cWear σ a p = 0 ∧ a_wear σ a p = r_ ∧ J = J_ ∧ RelN d I_ (σ) (T + 0) ∧ FB d bg I I_)) (eX (cWear σ a p) I J) := by
  have hd := hB.hD
  have hord := hB.ord
  have hb := hI.bd
  have hNs := hR.2.2.2.1
  have hN61 := hR.2.2.2.2.1
  have hTm := hR.2.2.2.2.2
  have key : (a = 0 ∧ ((∃ j, j < pgN σ 0 ∧ p = nI j) ∨ inb p (pgN σ 0) = false)) ∨ (a = 1 ∧ ((∃ j, j < pgN σ 1 ∧ p = nI j) ∨ inb p (pgN σ 1) = false)) ∨ (a = 2 ∧ ((∃ j, j < pgN σ 2 ∧ p = nI j) ∨ inb p (pgN σ 2) = false)) ∨ inI a 0 2 = false := by
    have h0 := pgN_16 hI 0; have h1 := pgN_16 hI 1; have h2 := pgN_16 hI 2
    rcases ar_c a with h | h | h | h
    · exact Or.inl ⟨h, inb_c p _ (by omega)⟩
    · exact Or.inr (Or.inl ⟨h, inb_c p _ (by omega)⟩)
    · exact Or.inr (Or.inr (Or.inl ⟨h, inb_c p _ (by omega)⟩))
    · exact Or.inr (Or.inr (Or.inr h))
  rcases key with ⟨rfl, ⟨j, hj, rfl⟩ | hi⟩ | ⟨rfl, ⟨j, hj, rfl⟩ | hi⟩ | ⟨rfl, ⟨j, hj, rfl⟩ | hi⟩ | hw
  · have hpg := pgN_16 hI 0
    refine Sp.of (by decide) (ls := [(0, .ref bx), (1, .int 0), (2, .int (nI j))]) (fun _ => rfl) (fun _ => Nat.le_of_ble_eq_true rfl) ?_
    refine rc_p (p_iload_n 1 (dk_at ktX6_wear_0 0 rfl) rfl rfl (b := 1) rfl) ?_
    refine rc_p (p_iconst (v := 0) (dk_at ktX6_wear_0 1 rfl) (by decide) (b := 2) rfl) ?_
    refine rc_p (p_iconst (v := 2) (dk_at ktX6_wear_0 2 rfl) (by decide) (b := 3) rfl) ?_
    refine r_vSX (As := [.int 0, .int 0, .int 2]) (rest := []) (s_X6_requireRange 0 0 2) cw_X6_71 qs_X6_requireRange (dk_at ktX6_wear_0 3 rfl) rfl rfl (Nat.le_of_ble_eq_true rfl) (by decide) (b := 6) rfl (fun _ _ _ h => ⟨Or.inl ⟨h.1, cWear_1 h.2.1⟩, h.2.2⟩) (fun I1 J2 hq3 => ?_)
    obtain ⟨ok4, rfl, rfl⟩ := hq3
    refine rc_p (p_iload_n 2 (dk_at ktX6_wear_0 4 rfl) rfl rfl (b := 7) rfl) ?_
    refine rc_p (p_aload_n 0 (dk_at ktX6_wear_0 5 rfl) rfl rfl (b := 8) rfl) ?_
    refine r_geta fl_X6_27 rfl hB.l0 hB.s0 (dk_at ktX6_wear_0 6 rfl) hB.g0_1 (b := 11) rfl ?_
    refine r_geta fl_X6_57 rfl hd.l0 hd.s0 (dk_at ktX6_wear_0 7 rfl) hd.g0_0 (b := 14) rfl ?_
    refine rc_p (p_iload_n 1 (dk_at ktX6_wear_0 8 rfl) rfl rfl (b := 15) rfl) ?_
    refine r_iV (As' := [.int 0]) (rest := [.int (nI j)]) (s_X1_pagesOf hd (σ := σ) hR hI 0) cw_X6_145 qi_X1_pagesOf qv_X1_pagesOf rfl (hd.lt 1 (by decide)) hd.s1 (dk_at ktX6_wear_0 9 rfl) rfl rfl (Nat.le_of_ble_eq_true rfl) (by decide) (b := 18) rfl (fun v8 I5 J6 q7 => ?_)
    obtain ⟨rfl, rfl, rfl⟩ := q7
    refine r_vSX (As := [.int (nI j), .int (nI (pgN σ 0))]) (rest := []) (s_X6_requireIndex (nI j) (pgN σ 0)) cw_X6_149 qs_X6_requireIndex (dk_at ktX6_wear_0 10 rfl) rfl rfl (Nat.le_of_ble_eq_true rfl) (by decide) (b := 21) rfl (fun _ _ _ h => ⟨Or.inr ⟨h.1, cWear_2 ok4 h.2.1⟩, h.2.2⟩) (fun I9 J10 hq11 => ?_)
    obtain ⟨ok12, rfl, rfl⟩ := hq11
    refine rc_p (p_aload_n 0 (dk_at ktX6_wear_0 11 rfl) rfl rfl (b := 22) rfl) ?_
    refine r_geta fl_X6_27 rfl hB.l0 hB.s0 (dk_at ktX6_wear_0 12 rfl) hB.g0_1 (b := 25) rfl ?_
    refine r_geta fl_X6_57 rfl hd.l0 hd.s0 (dk_at ktX6_wear_0 13 rfl) hd.g0_0 (b := 28) rfl ?_
    refine r_geta fl_X6_153 rfl (hd.lt 1 (by decide)) hd.s1 (dk_at ktX6_wear_0 14 rfl) hd.g1_1 (b := 31) rfl ?_
    refine rc_p (p_iload_n 1 (dk_at ktX6_wear_0 15 rfl) rfl rfl (b := 32) rfl) ?_
    refine r_aald (j := 0) (id2 := (d + 8)) (hd.lt 7 (by decide)) hd.s7 (by decide) (dk_at ktX6_wear_0 16 rfl) rfl ⟨by decide, by decide⟩ hd.g7_0 (b := 33) rfl ?_
    refine rc_p (p_iload_n 2 (dk_at ktX6_wear_0 17 rfl) rfl rfl (b := 34) rfl) ?_
    refine r_iald (j := j) (hd.lt 8 (by decide)) hd.s8 (dk_at ktX6_wear_0 18 rfl) rfl ⟨by omega, by decide⟩ (v := (σ (275 + j))) (hR.1 8 j (275 + j) (lc_w0 (by omega))) (b := 35) rfl ?_
    refine r_iret (dk_at ktX6_wear_0 19 rfl) rfl rfl ⟨_, rfl, ?_⟩
    refine ⟨cWear_0 ok4 ok12, ?_, rfl, RelN.of hR (by omega), FB.rf⟩
    exact congrArg σ (by (rw [tn_nI (by omega), show tn 0 = 0 from rfl]) <;> omega)
  · have hpg := pgN_16 hI 0
    refine Sp.of (by decide) (ls := [(0, .ref bx), (1, .int 0), (2, .int p)]) (fun _ => rfl) (fun _ => Nat.le_of_ble_eq_true rfl) ?_
    refine rc_p (p_iload_n 1 (dk_at ktX6_wear_0 0 rfl) rfl rfl (b := 1) rfl) ?_
    refine rc_p (p_iconst (v := 0) (dk_at ktX6_wear_0 1 rfl) (by decide) (b := 2) rfl) ?_
    refine rc_p (p_iconst (v := 2) (dk_at ktX6_wear_0 2 rfl) (by decide) (b := 3) rfl) ?_
    refine r_vSX (As := [.int 0, .int 0, .int 2]) (rest := []) (s_X6_requireRange 0 0 2) cw_X6_71 qs_X6_requireRange (dk_at ktX6_wear_0 3 rfl) rfl rfl (Nat.le_of_ble_eq_true rfl) (by decide) (b := 6) rfl (fun _ _ _ h => ⟨Or.inl ⟨h.1, cWear_1 h.2.1⟩, h.2.2⟩) (fun I13 J14 hq15 => ?_)
    obtain ⟨ok16, rfl, rfl⟩ := hq15
    refine rc_p (p_iload_n 2 (dk_at ktX6_wear_0 4 rfl) rfl rfl (b := 7) rfl) ?_
    refine rc_p (p_aload_n 0 (dk_at ktX6_wear_0 5 rfl) rfl rfl (b := 8) rfl) ?_
    refine r_geta fl_X6_27 rfl hB.l0 hB.s0 (dk_at ktX6_wear_0 6 rfl) hB.g0_1 (b := 11) rfl ?_
    refine r_geta fl_X6_57 rfl hd.l0 hd.s0 (dk_at ktX6_wear_0 7 rfl) hd.g0_0 (b := 14) rfl ?_
    refine rc_p (p_iload_n 1 (dk_at ktX6_wear_0 8 rfl) rfl rfl (b := 15) rfl) ?_
    refine r_iV (As' := [.int 0]) (rest := [.int p]) (s_X1_pagesOf hd (σ := σ) hR hI 0) cw_X6_145 qi_X1_pagesOf qv_X1_pagesOf rfl (hd.lt 1 (by decide)) hd.s1 (dk_at ktX6_wear_0 9 rfl) rfl rfl (Nat.le_of_ble_eq_true rfl) (by decide) (b := 18) rfl (fun v20 I17 J18 q19 => ?_)
    obtain ⟨rfl, rfl, rfl⟩ := q19
    refine r_vSX (As := [.int p, .int (nI (pgN σ 0))]) (rest := []) (s_X6_requireIndex p (pgN σ 0)) cw_X6_149 qs_X6_requireIndex (dk_at ktX6_wear_0 10 rfl) rfl rfl (Nat.le_of_ble_eq_true rfl) (by decide) (b := 21) rfl (fun _ _ _ h => ⟨Or.inr ⟨h.1, cWear_2 ok16 h.2.1⟩, h.2.2⟩) (fun I21 J22 hq23 => ?_)
    obtain ⟨ok24, rfl, rfl⟩ := hq23
    exact absurd (hi.symm.trans ok24) (by decide)
  · have hpg := pgN_16 hI 1
    refine Sp.of (by decide) (ls := [(0, .ref bx), (1, .int 1), (2, .int (nI j))]) (fun _ => rfl) (fun _ => Nat.le_of_ble_eq_true rfl) ?_
    refine rc_p (p_iload_n 1 (dk_at ktX6_wear_0 0 rfl) rfl rfl (b := 1) rfl) ?_
    refine rc_p (p_iconst (v := 0) (dk_at ktX6_wear_0 1 rfl) (by decide) (b := 2) rfl) ?_
    refine rc_p (p_iconst (v := 2) (dk_at ktX6_wear_0 2 rfl) (by decide) (b := 3) rfl) ?_
    refine r_vSX (As := [.int 1, .int 0, .int 2]) (rest := []) (s_X6_requireRange 1 0 2) cw_X6_71 qs_X6_requireRange (dk_at ktX6_wear_0 3 rfl) rfl rfl (Nat.le_of_ble_eq_true rfl) (by decide) (b := 6) rfl (fun _ _ _ h => ⟨Or.inl ⟨h.1, cWear_1 h.2.1⟩, h.2.2⟩) (fun I25 J26 hq27 => ?_)
    obtain ⟨ok28, rfl, rfl⟩ := hq27
    refine rc_p (p_iload_n 2 (dk_at ktX6_wear_0 4 rfl) rfl rfl (b := 7) rfl) ?_
    refine rc_p (p_aload_n 0 (dk_at ktX6_wear_0 5 rfl) rfl rfl (b := 8) rfl) ?_
    refine r_geta fl_X6_27 rfl hB.l0 hB.s0 (dk_at ktX6_wear_0 6 rfl) hB.g0_1 (b := 11) rfl ?_
    refine r_geta fl_X6_57 rfl hd.l0 hd.s0 (dk_at ktX6_wear_0 7 rfl) hd.g0_0 (b := 14) rfl ?_
    refine rc_p (p_iload_n 1 (dk_at ktX6_wear_0 8 rfl) rfl rfl (b := 15) rfl) ?_
    refine r_iV (As' := [.int 1]) (rest := [.int (nI j)]) (s_X1_pagesOf hd (σ := σ) hR hI 1) cw_X6_145 qi_X1_pagesOf qv_X1_pagesOf rfl (hd.lt 1 (by decide)) hd.s1 (dk_at ktX6_wear_0 9 rfl) rfl rfl (Nat.le_of_ble_eq_true rfl) (by decide) (b := 18) rfl (fun v32 I29 J30 q31 => ?_)
    obtain ⟨rfl, rfl, rfl⟩ := q31
    refine r_vSX (As := [.int (nI j), .int (nI (pgN σ 1))]) (rest := []) (s_X6_requireIndex (nI j) (pgN σ 1)) cw_X6_149 qs_X6_requireIndex (dk_at ktX6_wear_0 10 rfl) rfl rfl (Nat.le_of_ble_eq_true rfl) (by decide) (b := 21) rfl (fun _ _ _ h => ⟨Or.inr ⟨h.1, cWear_2 ok28 h.2.1⟩, h.2.2⟩) (fun I33 J34 hq35 => ?_)
    obtain ⟨ok36, rfl, rfl⟩ := hq35
    refine rc_p (p_aload_n 0 (dk_at ktX6_wear_0 11 rfl) rfl rfl (b := 22) rfl) ?_
    refine r_geta fl_X6_27 rfl hB.l0 hB.s0 (dk_at ktX6_wear_0 12 rfl) hB.g0_1 (b := 25) rfl ?_
    refine r_geta fl_X6_57 rfl hd.l0 hd.s0 (dk_at ktX6_wear_0 13 rfl) hd.g0_0 (b := 28) rfl ?_
    refine r_geta fl_X6_153 rfl (hd.lt 1 (by decide)) hd.s1 (dk_at ktX6_wear_0 14 rfl) hd.g1_1 (b := 31) rfl ?_
    refine rc_p (p_iload_n 1 (dk_at ktX6_wear_0 15 rfl) rfl rfl (b := 32) rfl) ?_
    refine r_aald (j := 1) (id2 := (d + 9)) (hd.lt 7 (by decide)) hd.s7 (by decide) (dk_at ktX6_wear_0 16 rfl) rfl ⟨by decide, by decide⟩ hd.g7_1 (b := 33) rfl ?_
    refine rc_p (p_iload_n 2 (dk_at ktX6_wear_0 17 rfl) rfl rfl (b := 34) rfl) ?_
    refine r_iald (j := j) (hd.lt 9 (by decide)) hd.s9 (dk_at ktX6_wear_0 18 rfl) rfl ⟨by omega, by decide⟩ (v := (σ (291 + j))) (hR.1 9 j (291 + j) (lc_w1 (by omega))) (b := 35) rfl ?_
    refine r_iret (dk_at ktX6_wear_0 19 rfl) rfl rfl ⟨_, rfl, ?_⟩
    refine ⟨cWear_0 ok28 ok36, ?_, rfl, RelN.of hR (by omega), FB.rf⟩
    exact congrArg σ (by (rw [tn_nI (by omega), show tn 1 = 1 from rfl]) <;> omega)
  · have hpg := pgN_16 hI 1
    refine Sp.of (by decide) (ls := [(0, .ref bx), (1, .int 1), (2, .int p)]) (fun _ => rfl) (fun _ => Nat.le_of_ble_eq_true rfl) ?_
    refine rc_p (p_iload_n 1 (dk_at ktX6_wear_0 0 rfl) rfl rfl (b := 1) rfl) ?_
    refine rc_p (p_iconst (v := 0) (dk_at ktX6_wear_0 1 rfl) (by decide) (b := 2) rfl) ?_
    refine rc_p (p_iconst (v := 2) (dk_at ktX6_wear_0 2 rfl) (by decide) (b := 3) rfl) ?_
    refine r_vSX (As := [.int 1, .int 0, .int 2]) (rest := []) (s_X6_requireRange 1 0 2) cw_X6_71 qs_X6_requireRange (dk_at ktX6_wear_0 3 rfl) rfl rfl (Nat.le_of_ble_eq_true rfl) (by decide) (b := 6) rfl (fun _ _ _ h => ⟨Or.inl ⟨h.1, cWear_1 h.2.1⟩, h.2.2⟩) (fun I37 J38 hq39 => ?_)
    obtain ⟨ok40, rfl, rfl⟩ := hq39
    refine rc_p (p_iload_n 2 (dk_at ktX6_wear_0 4 rfl) rfl rfl (b := 7) rfl) ?_
    refine rc_p (p_aload_n 0 (dk_at ktX6_wear_0 5 rfl) rfl rfl (b := 8) rfl) ?_
    refine r_geta fl_X6_27 rfl hB.l0 hB.s0 (dk_at ktX6_wear_0 6 rfl) hB.g0_1 (b := 11) rfl ?_
    refine r_geta fl_X6_57 rfl hd.l0 hd.s0 (dk_at ktX6_wear_0 7 rfl) hd.g0_0 (b := 14) rfl ?_
    refine rc_p (p_iload_n 1 (dk_at ktX6_wear_0 8 rfl) rfl rfl (b := 15) rfl) ?_
    refine r_iV (As' := [.int 1]) (rest := [.int p]) (s_X1_pagesOf hd (σ := σ) hR hI 1) cw_X6_145 qi_X1_pagesOf qv_X1_pagesOf rfl (hd.lt 1 (by decide)) hd.s1 (dk_at ktX6_wear_0 9 rfl) rfl rfl (Nat.le_of_ble_eq_true rfl) (by decide) (b := 18) rfl (fun v44 I41 J42 q43 => ?_)
    obtain ⟨rfl, rfl, rfl⟩ := q43
    refine r_vSX (As := [.int p, .int (nI (pgN σ 1))]) (rest := []) (s_X6_requireIndex p (pgN σ 1)) cw_X6_149 qs_X6_requireIndex (dk_at ktX6_wear_0 10 rfl) rfl rfl (Nat.le_of_ble_eq_true rfl) (by decide) (b := 21) rfl (fun _ _ _ h => ⟨Or.inr ⟨h.1, cWear_2 ok40 h.2.1⟩, h.2.2⟩) (fun I45 J46 hq47 => ?_)
    obtain ⟨ok48, rfl, rfl⟩ := hq47
    exact absurd (hi.symm.trans ok48) (by decide)
  · have hpg := pgN_16 hI 2
    have hp2 : pgN σ 2 = 2 := pgN_2
    refine Sp.of (by decide) (ls := [(0, .ref bx), (1, .int 2), (2, .int (nI j))]) (fun _ => rfl) (fun _ => Nat.le_of_ble_eq_true rfl) ?_
    refine rc_p (p_iload_n 1 (dk_at ktX6_wear_0 0 rfl) rfl rfl (b := 1) rfl) ?_
    refine rc_p (p_iconst (v := 0) (dk_at ktX6_wear_0 1 rfl) (by decide) (b := 2) rfl) ?_
    refine rc_p (p_iconst (v := 2) (dk_at ktX6_wear_0 2 rfl) (by decide) (b := 3) rfl) ?_
    refine r_vSX (As := [.int 2, .int 0, .int 2]) (rest := []) (s_X6_requireRange 2 0 2) cw_X6_71 qs_X6_requireRange (dk_at ktX6_wear_0 3 rfl) rfl rfl (Nat.le_of_ble_eq_true rfl) (by decide) (b := 6) rfl (fun _ _ _ h => ⟨Or.inl ⟨h.1, cWear_1 h.2.1⟩, h.2.2⟩) (fun I49 J50 hq51 => ?_)
    obtain ⟨ok52, rfl, rfl⟩ := hq51
    refine rc_p (p_iload_n 2 (dk_at ktX6_wear_0 4 rfl) rfl rfl (b := 7) rfl) ?_
    refine rc_p (p_aload_n 0 (dk_at ktX6_wear_0 5 rfl) rfl rfl (b := 8) rfl) ?_
    refine r_geta fl_X6_27 rfl hB.l0 hB.s0 (dk_at ktX6_wear_0 6 rfl) hB.g0_1 (b := 11) rfl ?_
    refine r_geta fl_X6_57 rfl hd.l0 hd.s0 (dk_at ktX6_wear_0 7 rfl) hd.g0_0 (b := 14) rfl ?_
    refine rc_p (p_iload_n 1 (dk_at ktX6_wear_0 8 rfl) rfl rfl (b := 15) rfl) ?_
    refine r_iV (As' := [.int 2]) (rest := [.int (nI j)]) (s_X1_pagesOf hd (σ := σ) hR hI 2) cw_X6_145 qi_X1_pagesOf qv_X1_pagesOf rfl (hd.lt 1 (by decide)) hd.s1 (dk_at ktX6_wear_0 9 rfl) rfl rfl (Nat.le_of_ble_eq_true rfl) (by decide) (b := 18) rfl (fun v56 I53 J54 q55 => ?_)
    obtain ⟨rfl, rfl, rfl⟩ := q55
    refine r_vSX (As := [.int (nI j), .int (nI (pgN σ 2))]) (rest := []) (s_X6_requireIndex (nI j) (pgN σ 2)) cw_X6_149 qs_X6_requireIndex (dk_at ktX6_wear_0 10 rfl) rfl rfl (Nat.le_of_ble_eq_true rfl) (by decide) (b := 21) rfl (fun _ _ _ h => ⟨Or.inr ⟨h.1, cWear_2 ok52 h.2.1⟩, h.2.2⟩) (fun I57 J58 hq59 => ?_)
    obtain ⟨ok60, rfl, rfl⟩ := hq59
    refine rc_p (p_aload_n 0 (dk_at ktX6_wear_0 11 rfl) rfl rfl (b := 22) rfl) ?_
    refine r_geta fl_X6_27 rfl hB.l0 hB.s0 (dk_at ktX6_wear_0 12 rfl) hB.g0_1 (b := 25) rfl ?_
    refine r_geta fl_X6_57 rfl hd.l0 hd.s0 (dk_at ktX6_wear_0 13 rfl) hd.g0_0 (b := 28) rfl ?_
    refine r_geta fl_X6_153 rfl (hd.lt 1 (by decide)) hd.s1 (dk_at ktX6_wear_0 14 rfl) hd.g1_1 (b := 31) rfl ?_
    refine rc_p (p_iload_n 1 (dk_at ktX6_wear_0 15 rfl) rfl rfl (b := 32) rfl) ?_
    refine r_aald (j := 2) (id2 := (d + 10)) (hd.lt 7 (by decide)) hd.s7 (by decide) (dk_at ktX6_wear_0 16 rfl) rfl ⟨by decide, by decide⟩ hd.g7_2 (b := 33) rfl ?_
    refine rc_p (p_iload_n 2 (dk_at ktX6_wear_0 17 rfl) rfl rfl (b := 34) rfl) ?_
    refine r_iald (j := j) (hd.lt 10 (by decide)) hd.s10 (dk_at ktX6_wear_0 18 rfl) rfl ⟨by omega, by decide⟩ (v := (σ (307 + j))) (hR.1 10 j (307 + j) (lc_w2 (by omega))) (b := 35) rfl ?_
    refine r_iret (dk_at ktX6_wear_0 19 rfl) rfl rfl ⟨_, rfl, ?_⟩
    refine ⟨cWear_0 ok52 ok60, ?_, rfl, RelN.of hR (by omega), FB.rf⟩
    exact congrArg σ (by (rw [tn_nI (by omega), show tn 2 = 2 from rfl]) <;> omega)
  · have hpg := pgN_16 hI 2
    have hp2 : pgN σ 2 = 2 := pgN_2
    refine Sp.of (by decide) (ls := [(0, .ref bx), (1, .int 2), (2, .int p)]) (fun _ => rfl) (fun _ => Nat.le_of_ble_eq_true rfl) ?_
    refine rc_p (p_iload_n 1 (dk_at ktX6_wear_0 0 rfl) rfl rfl (b := 1) rfl) ?_
    refine rc_p (p_iconst (v := 0) (dk_at ktX6_wear_0 1 rfl) (by decide) (b := 2) rfl) ?_
    refine rc_p (p_iconst (v := 2) (dk_at ktX6_wear_0 2 rfl) (by decide) (b := 3) rfl) ?_
    refine r_vSX (As := [.int 2, .int 0, .int 2]) (rest := []) (s_X6_requireRange 2 0 2) cw_X6_71 qs_X6_requireRange (dk_at ktX6_wear_0 3 rfl) rfl rfl (Nat.le_of_ble_eq_true rfl) (by decide) (b := 6) rfl (fun _ _ _ h => ⟨Or.inl ⟨h.1, cWear_1 h.2.1⟩, h.2.2⟩) (fun I61 J62 hq63 => ?_)
    obtain ⟨ok64, rfl, rfl⟩ := hq63
    refine rc_p (p_iload_n 2 (dk_at ktX6_wear_0 4 rfl) rfl rfl (b := 7) rfl) ?_
    refine rc_p (p_aload_n 0 (dk_at ktX6_wear_0 5 rfl) rfl rfl (b := 8) rfl) ?_
    refine r_geta fl_X6_27 rfl hB.l0 hB.s0 (dk_at ktX6_wear_0 6 rfl) hB.g0_1 (b := 11) rfl ?_
    refine r_geta fl_X6_57 rfl hd.l0 hd.s0 (dk_at ktX6_wear_0 7 rfl) hd.g0_0 (b := 14) rfl ?_
    refine rc_p (p_iload_n 1 (dk_at ktX6_wear_0 8 rfl) rfl rfl (b := 15) rfl) ?_
    refine r_iV (As' := [.int 2]) (rest := [.int p]) (s_X1_pagesOf hd (σ := σ) hR hI 2) cw_X6_145 qi_X1_pagesOf qv_X1_pagesOf rfl (hd.lt 1 (by decide)) hd.s1 (dk_at ktX6_wear_0 9 rfl) rfl rfl (Nat.le_of_ble_eq_true rfl) (by decide) (b := 18) rfl (fun v68 I65 J66 q67 => ?_)
    obtain ⟨rfl, rfl, rfl⟩ := q67
    refine r_vSX (As := [.int p, .int (nI (pgN σ 2))]) (rest := []) (s_X6_requireIndex p (pgN σ 2)) cw_X6_149 qs_X6_requireIndex (dk_at ktX6_wear_0 10 rfl) rfl rfl (Nat.le_of_ble_eq_true rfl) (by decide) (b := 21) rfl (fun _ _ _ h => ⟨Or.inr ⟨h.1, cWear_2 ok64 h.2.1⟩, h.2.2⟩) (fun I69 J70 hq71 => ?_)
    obtain ⟨ok72, rfl, rfl⟩ := hq71
    exact absurd (hi.symm.trans ok72) (by decide)
  · refine Sp.of (by decide) (ls := [(0, .ref bx), (1, .int a), (2, .int p)]) (fun _ => rfl) (fun _ => Nat.le_of_ble_eq_true rfl) ?_
    refine rc_p (p_iload_n 1 (dk_at ktX6_wear_0 0 rfl) rfl rfl (b := 1) rfl) ?_
    refine rc_p (p_iconst (v := 0) (dk_at ktX6_wear_0 1 rfl) (by decide) (b := 2) rfl) ?_
    refine rc_p (p_iconst (v := 2) (dk_at ktX6_wear_0 2 rfl) (by decide) (b := 3) rfl) ?_
    refine r_vSX (As := [.int a, .int 0, .int 2]) (rest := []) (s_X6_requireRange a 0 2) cw_X6_71 qs_X6_requireRange (dk_at ktX6_wear_0 3 rfl) rfl rfl (Nat.le_of_ble_eq_true rfl) (by decide) (b := 6) rfl (fun _ _ _ h => ⟨Or.inl ⟨h.1, cWear_1 h.2.1⟩, h.2.2⟩) (fun I73 J74 hq75 => ?_)
    obtain ⟨ok76, rfl, rfl⟩ := hq75
    exact absurd (hw.symm.trans ok76) (by decide)
set_option maxRecDepth 4000 in
set_option maxHeartbeats 4000000 in
theorem s_X6_mostWorn {n : Nat} {sh : mS} {G : mG} {I : mI} {J : mJ} {bx bt d be bf bg b0 b1 bv : Nat} {σ : sT} {T N : Nat} (hB : BootH n sh G bx bt d be bf bg b0 b1 bv) (hR : RelD d I σ T N) (hI : Inv σ) : Sp yX6_mostWorn cX6_mostWorn 6 (some FieldType.int) 2 69 0 0 [.ref bx] n sh G I J (Qi (fun r_ I_ J_ => (mwAr σ 3).1 = r_ ∧ J = J_ ∧ RelN d I_ (σ) (T + 0) ∧ FB d bg I I_)) (nX) := by
  have hd := hB.hD
  have hord := hB.ord
  have hb := hI.bd
  have hNs := hR.2.2.2.1
  have hN61 := hR.2.2.2.2.1
  have hTm := hR.2.2.2.2.2
  refine Sp.of (by decide) (ls := [(0, .ref bx)]) (fun _ => rfl) (fun _ => Nat.le_of_ble_eq_true rfl) ?_
  have cut24 : ∀ (t a : Nat), (∀ (a : Nat) (x : Int32 × Int32), 3 - a < t → a ≤ 3 → x = mwAr σ a → Rc RX6 cX6_mostWorn 6 (some FieldType.int) 2 69 0 0 n sh G (Qi (fun r_ I_ J_ => (mwAr σ 3).1 = r_ ∧ J = J_ ∧ RelN d I_ (σ) (T + 0) ∧ FB d bg I I_)) (nX) 0 0 15 [(1, .ref (d + 1)), (2, .int x.1), (3, .int x.2), (4, .int (nI a)), (0, .ref bx)] [] I J) → (a < 3 ∧ 3 - (a + 1) < t) → ∀ (u p : Nat) (x : Int32 × Int32), pgN σ (nI a) - p < u → p ≤ pgN σ (nI a) → mwPg σ a p (mwAr σ a) = x → Rc RX6 cX6_mostWorn 6 (some FieldType.int) 2 69 0 0 n sh G (Qi (fun r_ I_ J_ => (mwAr σ 3).1 = r_ ∧ J = J_ ∧ RelN d I_ (σ) (T + 0) ∧ FB d bg I I_)) (nX) 0 0 24 [(1, .ref (d + 1)), (2, .int x.1), (3, .int x.2), (5, .int (nI p)), (4, .int (nI a)), (0, .ref bx)] [] I J := by
    intro t a iha ha u
    induction u
    · intro p x h; omega
    rename_i u ih
    intro p x hu h1 hx
    have h16 := pgN_16 hI (nI a)
    have hbd : p < pgN σ (nI a) → 275 + 16 * a + p < 309 := pg_bd hI ha.1
    refine rc_p (p_iload 3 (dk_at ktX6_mostWorn_0 15 rfl) rfl (b := 26) rfl) ?_
    refine rc_p (p_aload_n 0 (dk_at ktX6_mostWorn_0 16 rfl) rfl rfl (b := 27) rfl) ?_
    refine rc_p (p_iload 4 (dk_at ktX6_mostWorn_0 17 rfl) rfl (b := 29) rfl) ?_
    refine r_iV (As' := [.int (nI a)]) (rest := [.int (nI p)]) (s_X1_pagesOf hd (σ := σ) hR hI (nI a)) cw_X6_145 qi_X1_pagesOf qv_X1_pagesOf rfl (hd.lt 1 (by decide)) hd.s1 (dk_at ktX6_mostWorn_0 18 rfl) rfl rfl (Nat.le_of_ble_eq_true rfl) (by decide) (b := 32) rfl (fun v4 I1 J2 q3 => ?_)
    obtain ⟨rfl, rfl, rfl⟩ := q3
    refine r_icmp_ge (dk_at ktX6_mostWorn_0 19 rfl) (b := 75) (by decide) (b2 := 35) rfl (fun c32 => ?_) (fun c32 => ?_)
    · have c32 : (pgN σ (nI a)) ≤ p := (nI_leI (a := pgN σ (nI a)) (b := p) (by omega) (by omega)).mp c32
      refine rc_p (p_iinc (j := 4) (v := (nI (a + 1))) (ls' := [(4, .int (nI (a + 1))), (1, .ref (d + 1)), (2, .int x.1), (3, .int x.2), (5, .int (nI p)), (0, .ref bx)]) (dk_at ktX6_mostWorn_0 43 rfl) rfl (nI_add a 1) (by decide) rfl (b := 78) rfl) ?_
      refine rc_p (p_goto (b := 15) (dk_at ktX6_mostWorn_0 44 rfl) (by decide)) ?_
      refine rc_sub [1, 2, 3, 0, 5] (ls' := [(1, .ref (d + 1)), (2, .int x.1), (3, .int x.2), (4, .int (nI (a + 1))), (0, .ref bx)]) rfl ?_
      exact iha (a + 1) _ (by omega) (by omega) (by show _ = mwPg σ a (pgN σ (nI a)) (mwAr σ a); rw [← hx, show pgN σ (nI a) = p by omega])
    · have c32 : ¬ (pgN σ (nI a)) ≤ p := fun h => c32 ((nI_leI (a := pgN σ (nI a)) (b := p) (by omega) (by omega)).mpr h)
      have hbd := hbd (by omega)
      refine rc_p (p_aload_n 0 (dk_at ktX6_mostWorn_0 20 rfl) rfl rfl (b := 36) rfl) ?_
      refine r_geta fl_X6_153 rfl (hd.lt 1 (by decide)) hd.s1 (dk_at ktX6_mostWorn_0 21 rfl) hd.g1_1 (b := 39) rfl ?_
      refine rc_p (p_iload 4 (dk_at ktX6_mostWorn_0 22 rfl) rfl (b := 41) rfl) ?_
      refine r_aald (j := a) (id2 := (d + 8 + a)) (hd.lt 7 (by decide)) hd.s7 (by decide) (dk_at ktX6_mostWorn_0 23 rfl) rfl ⟨by omega, by decide⟩ (hd.gw (by omega)) (b := 42) rfl ?_
      refine rc_p (p_iload 3 (dk_at ktX6_mostWorn_0 24 rfl) rfl (b := 44) rfl) ?_
      refine r_iald (j := p) (by have := hd.1; omega) (hd.sw (by omega)) (dk_at ktX6_mostWorn_0 25 rfl) rfl ⟨by omega, by decide⟩ (v := (σ (275 + 16 * a + p))) (hR.at3 (q := 8) (r := a) (k := p) (a := 275 + 16 * a + p) (lc_wx (by omega) (by omega))) (b := 45) rfl ?_
      refine rc_p (p_iload_n 2 (dk_at ktX6_mostWorn_0 26 rfl) rfl rfl (b := 46) rfl) ?_
      refine r_icmp_le (dk_at ktX6_mostWorn_0 27 rfl) (b := 69) (by decide) (b2 := 49) rfl (fun c46 => ?_) (fun c46 => ?_)
      · skip
        refine rc_p (p_iinc (j := 3) (v := (nI (p + 1))) (ls' := [(5, .int (nI (p + 1))), (1, .ref (d + 1)), (2, .int x.1), (3, .int x.2), (4, .int (nI a)), (0, .ref bx)]) (dk_at ktX6_mostWorn_0 41 rfl) rfl (nI_add p 1) (by decide) rfl (b := 72) rfl) ?_
        refine rc_p (p_goto (b := 24) (dk_at ktX6_mostWorn_0 42 rfl) (by decide)) ?_
        refine rc_sub [1, 2, 3, 0, 4, 5] (ls' := [(1, .ref (d + 1)), (2, .int x.1), (3, .int x.2), (5, .int (nI (p + 1))), (4, .int (nI a)), (0, .ref bx)]) rfl ?_
        exact ih (p + 1) x (by omega) (by omega) (mw_n hx (Int32.not_lt.mpr c46))
      · skip
        refine rc_p (p_aload_n 0 (dk_at ktX6_mostWorn_0 28 rfl) rfl rfl (b := 50) rfl) ?_
        refine r_geta fl_X6_153 rfl (hd.lt 1 (by decide)) hd.s1 (dk_at ktX6_mostWorn_0 29 rfl) hd.g1_1 (b := 53) rfl ?_
        refine rc_p (p_iload 4 (dk_at ktX6_mostWorn_0 30 rfl) rfl (b := 55) rfl) ?_
        refine r_aald (j := a) (id2 := (d + 8 + a)) (hd.lt 7 (by decide)) hd.s7 (by decide) (dk_at ktX6_mostWorn_0 31 rfl) rfl ⟨by omega, by decide⟩ (hd.gw (by omega)) (b := 56) rfl ?_
        refine rc_p (p_iload 3 (dk_at ktX6_mostWorn_0 32 rfl) rfl (b := 58) rfl) ?_
        refine r_iald (j := p) (by have := hd.1; omega) (hd.sw (by omega)) (dk_at ktX6_mostWorn_0 33 rfl) rfl ⟨by omega, by decide⟩ (v := (σ (275 + 16 * a + p))) (hR.at3 (q := 8) (r := a) (k := p) (a := 275 + 16 * a + p) (lc_wx (by omega) (by omega))) (b := 59) rfl ?_
        refine rc_p (p_istore_n (ls' := [(3, .int (σ (275 + 16 * a + p))), (1, .ref (d + 1)), (2, .int x.1), (5, .int (nI p)), (4, .int (nI a)), (0, .ref bx)]) (dk_at ktX6_mostWorn_0 34 rfl) rfl (by decide) rfl (b := 60) rfl) ?_
        refine rc_p (p_bipush (v := 100) (dk_at ktX6_mostWorn_0 35 rfl) (by decide) (b := 62) rfl) ?_
        refine rc_p (p_iload 4 (dk_at ktX6_mostWorn_0 36 rfl) rfl (b := 64) rfl) ?_
        refine rc_p (p_imul (v := (nI (100 * a))) (dk_at ktX6_mostWorn_0 37 rfl) (pk_mul 100 a) (b := 65) rfl) ?_
        refine rc_p (p_iload 3 (dk_at ktX6_mostWorn_0 38 rfl) rfl (b := 67) rfl) ?_
        refine rc_p (p_iadd (v := (nI (100 * a + p))) (dk_at ktX6_mostWorn_0 39 rfl) (nI_add (100 * a) p) (b := 68) rfl) ?_
        refine rc_p (p_istore_n (ls' := [(2, .int (nI (100 * a + p))), (3, .int (σ (275 + 16 * a + p))), (1, .ref (d + 1)), (5, .int (nI p)), (4, .int (nI a)), (0, .ref bx)]) (dk_at ktX6_mostWorn_0 40 rfl) rfl (by decide) rfl (b := 69) rfl) ?_
        refine rc_p (p_iinc (j := 3) (v := (nI (p + 1))) (ls' := [(5, .int (nI (p + 1))), (2, .int (nI (100 * a + p))), (3, .int (σ (275 + 16 * a + p))), (1, .ref (d + 1)), (4, .int (nI a)), (0, .ref bx)]) (dk_at ktX6_mostWorn_0 41 rfl) rfl (nI_add p 1) (by decide) rfl (b := 72) rfl) ?_
        refine rc_p (p_goto (b := 24) (dk_at ktX6_mostWorn_0 42 rfl) (by decide)) ?_
        refine rc_sub [3, 1, 2, 0, 4, 5] (ls' := [(1, .ref (d + 1)), (2, .int (nI (100 * a + p))), (3, .int (σ (275 + 16 * a + p))), (5, .int (nI (p + 1))), (4, .int (nI a)), (0, .ref bx)]) rfl ?_
        exact ih (p + 1) (nI (100 * a + p), σ (275 + 16 * a + p)) (by omega) (by omega) (mw_y hx (Int32.not_le.mp c46))
  have cut15 : ∀ (t a : Nat) (x : Int32 × Int32), 3 - a < t → a ≤ 3 → x = mwAr σ a → Rc RX6 cX6_mostWorn 6 (some FieldType.int) 2 69 0 0 n sh G (Qi (fun r_ I_ J_ => (mwAr σ 3).1 = r_ ∧ J = J_ ∧ RelN d I_ (σ) (T + 0) ∧ FB d bg I I_)) (nX) 0 0 15 [(1, .ref (d + 1)), (2, .int x.1), (3, .int x.2), (4, .int (nI a)), (0, .ref bx)] [] I J := by
    intro t
    induction t
    · intro a x h; omega
    rename_i t iha
    intro a x ht h1 hx
    refine rc_p (p_iload 3 (dk_at ktX6_mostWorn_0 10 rfl) rfl (b := 17) rfl) ?_
    refine rc_p (p_iconst (v := 2) (dk_at ktX6_mostWorn_0 11 rfl) (by decide) (b := 18) rfl) ?_
    refine r_icmp_gt (dk_at ktX6_mostWorn_0 12 rfl) (b := 81) (by decide) (b2 := 21) rfl (fun c18 => ?_) (fun c18 => ?_)
    · have c18 : 2 < a := (nI_ltI (a := 2) (b := a) (by omega) (by omega)).mp c18
      refine rc_p (p_iload_n 1 (dk_at ktX6_mostWorn_0 45 rfl) rfl rfl (b := 82) rfl) ?_
      refine r_iret (dk_at ktX6_mostWorn_0 46 rfl) rfl rfl ⟨_, rfl, ?_⟩
      refine ⟨?_, rfl, RelN.of hR (by omega), FB.rf⟩
      rw [hx, show a = 3 by omega]
    · have c18 : ¬ 2 < a := fun h => c18 ((nI_ltI (a := 2) (b := a) (by omega) (by omega)).mpr h)
      refine rc_p (p_iconst (v := 0) (dk_at ktX6_mostWorn_0 13 rfl) (by decide) (b := 22) rfl) ?_
      refine rc_p (p_istore (ls' := [(5, .int 0), (1, .ref (d + 1)), (2, .int x.1), (3, .int x.2), (4, .int (nI a)), (0, .ref bx)]) (dk_at ktX6_mostWorn_0 14 rfl) (by decide) rfl (b := 24) rfl) ?_
      refine rc_sub [1, 2, 3, 0, 4, 5] (ls' := [(1, .ref (d + 1)), (2, .int x.1), (3, .int x.2), (5, .int 0), (4, .int (nI a)), (0, .ref bx)]) rfl ?_
      exact cut24 t a iha (by omega) (pgN σ (nI a) + 1) 0 x (by omega) (Nat.zero_le _) hx.symm
  refine rc_p (p_aload_n 0 (dk_at ktX6_mostWorn_0 0 rfl) rfl rfl (b := 1) rfl) ?_
  refine r_geta fl_X6_27 rfl hB.l0 hB.s0 (dk_at ktX6_mostWorn_0 1 rfl) hB.g0_1 (b := 4) rfl ?_
  refine r_geta fl_X6_57 rfl hd.l0 hd.s0 (dk_at ktX6_mostWorn_0 2 rfl) hd.g0_0 (b := 7) rfl ?_
  refine rc_p (p_astore_n (ls' := [(1, .ref (d + 1)), (0, .ref bx)]) (dk_at ktX6_mostWorn_0 3 rfl) rfl (by decide) rfl (b := 8) rfl) ?_
  refine rc_p (p_iconst (v := 0) (dk_at ktX6_mostWorn_0 4 rfl) (by decide) (b := 9) rfl) ?_
  refine rc_p (p_istore_n (ls' := [(2, .int 0), (1, .ref (d + 1)), (0, .ref bx)]) (dk_at ktX6_mostWorn_0 5 rfl) rfl (by decide) rfl (b := 10) rfl) ?_
  refine rc_p (p_iconst (v := (-1)) (dk_at ktX6_mostWorn_0 6 rfl) (by decide) (b := 11) rfl) ?_
  refine rc_p (p_istore_n (ls' := [(3, .int (-1)), (2, .int 0), (1, .ref (d + 1)), (0, .ref bx)]) (dk_at ktX6_mostWorn_0 7 rfl) rfl (by decide) rfl (b := 12) rfl) ?_
  refine rc_p (p_iconst (v := 0) (dk_at ktX6_mostWorn_0 8 rfl) (by decide) (b := 13) rfl) ?_
  refine rc_p (p_istore (ls' := [(4, .int 0), (3, .int (-1)), (2, .int 0), (1, .ref (d + 1)), (0, .ref bx)]) (dk_at ktX6_mostWorn_0 9 rfl) (by decide) rfl (b := 15) rfl) ?_
  refine rc_sub [3, 2, 1, 0, 4] (ls' := [(1, .ref (d + 1)), (2, .int 0), (3, .int (-1)), (4, .int 0), (0, .ref bx)]) rfl ?_
  exact cut15 1000 0 (0, -1) (by omega) (by omega) rfl

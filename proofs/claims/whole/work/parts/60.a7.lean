/-! THE REFERENCE: its calls, predictions over many cuts -/
set_option maxRecDepth 4000 in
set_option maxHeartbeats 4000000 in
theorem s_X7_slotAfterCut {n : Nat} {sh : mS} {G : mG} {I : mI} {J : mJ} {m : Nat} {σ : sT} (hm : ModG n sh G m) (hR : RelW (I (m + 1)) σ) (hI : Inv σ) (v c : Int32) : Sp yX7_slotAfterCut cX7_slotAfterCut 4 (some FieldType.int) 12 576 0 0 [.ref m, .int v, .int c] n sh G I J (Qi (fun r_ I_ J_ => (cSac v c = 0 → a_sac v c (-1) σ = r_) ∧ I_ m 6 = cSac v c ∧ J = J_ ∧ RelW (I_ (m + 1)) (σ) ∧ FF m [1, 2, 8] [6, 18, 19, 20, 21, 22, 23, 24, 26, 27] I I_)) nX := by
  have hb := hI.bd
  refine Sp.of (by decide) (ls := [(0, .ref m), (1, .int v), (2, .int c)]) (fun _ => rfl) (fun _ => Nat.le_of_ble_eq_true rfl) ?_
  refine rc_p (p_aload_n 0 (dk_at ktX7_slotAfterCut_0 0 rfl) rfl rfl (b := 1) rfl) ?_
  refine rc_p (p_iconst (v := 0) (dk_at ktX7_slotAfterCut_0 1 rfl) (by decide) (b := 2) rfl) ?_
  refine r_puti fl_X7_46 fw_X7_6 rfl hm.l0 hm.s0 rfl rfl (dk_at ktX7_slotAfterCut_0 2 rfl) (b := 5) rfl ?_
  refine rc_p (p_aload_n 0 (dk_at ktX7_slotAfterCut_0 3 rfl) rfl rfl (b := 6) rfl) ?_
  refine rc_p (p_iload_n 1 (dk_at ktX7_slotAfterCut_0 4 rfl) rfl rfl (b := 7) rfl) ?_
  refine rc_p (p_i2l (v := (Int32.toInt64 v)) (dk_at ktX7_slotAfterCut_0 5 rfl) rfl (b := 8) rfl) ?_
  refine rc_p (p_lconst (v := 1) (dk_at ktX7_slotAfterCut_0 6 rfl) (by decide) (b := 9) rfl) ?_
  refine rc_p (p_ldc2 (v := 255) ql_TwinBootModel_57 (dk_at ktX7_slotAfterCut_0 7 rfl) (b := 12) rfl) ?_
  refine r_iS (As := [.long (Int32.toInt64 v), .long 1, .long 255]) (rest := [.ref m]) (s_X7_in (Int32.toInt64 v) 1 255) cw_X7_73 qs_X7_in (dk_at ktX7_slotAfterCut_0 8 rfl) rfl rfl (Nat.le_of_ble_eq_true rfl) (by decide) (b := 15) rfl (fun v4 I1 J2 q3 => ?_)
  obtain ⟨rfl, rfl, rfl⟩ := q3
  refine r_val (y := bi (inI v 1 255)) (congrArg bi (inJ_I v 1 255)) ?_
  refine r_if_eq (dk_at ktX7_slotAfterCut_0 9 rfl) (b := 30) (by decide) (b2 := 18) rfl (fun c15 => ?_) (fun c15 => ?_)
  · have c15 := bi_f c15
    refine rc_p (p_iconst (v := 1) (dk_at ktX7_slotAfterCut_0 16 rfl) (by decide) (b := 31) rfl) ?_
    refine rc_p (p_goto (b := 35) (dk_at ktX7_slotAfterCut_0 17 rfl) (by decide)) ?_
    refine rc_p (p_iconst (v := 1) (dk_at ktX7_slotAfterCut_0 19 rfl) (by decide) (b := 36) rfl) ?_
    refine r_iV (As' := [.int 1, .int 1]) (rest := []) (s_X7_throwsIf hm (σ := σ) (by rw [up2_off (by omega)]; exact hR) hI up2_s true 1 (by decide)) cw_X7_190 qi_X7_throwsIf qv_X7_throwsIf rfl hm.l0 hm.s0 (dk_at ktX7_slotAfterCut_0 20 rfl) rfl rfl (Nat.le_of_ble_eq_true rfl) (by decide) (b := 39) rfl (fun v8 I5 J6 q7 => ?_)
    obtain ⟨rfl, rfl, hR9, hF10, h611⟩ := q7
    refine r_val (y := 1) rfl ?_
    refine r_if_eq (dk_at ktX7_slotAfterCut_0 21 rfl) (b := 44) (by decide) (b2 := 42) rfl (fun c39 => ?_) (fun c39 => ?_)
    · first | exact absurd c39 (by decide) | exact absurd (by decide) c39
    · skip
      refine rc_p (p_iconst (v := 0) (dk_at ktX7_slotAfterCut_0 22 rfl) (by decide) (b := 43) rfl) ?_
      refine r_iret (dk_at ktX7_slotAfterCut_0 23 rfl) rfl rfl ⟨_, rfl, ?_⟩
      have hcd : cSac v c = 1 := if_neg (fun q => by rw [show inI v 1 255 = false from c15] at q; exact absurd q.1 (by decide))
      refine ⟨fun hz => ?_, ?_, rfl, ?_, (FF.tr (FF.uf FF.rf (by decide)) (hF10.mo (by decide) (by decide)))⟩
      · exact absurd (hz.symm.trans hcd) (by decide)
      · exact Eq.trans h611 (by exact hcd.symm)
      · exact hR9
  · have c15 := bi_t c15
    refine rc_p (p_iload_n 2 (dk_at ktX7_slotAfterCut_0 10 rfl) rfl rfl (b := 19) rfl) ?_
    refine rc_p (p_i2l (v := (Int32.toInt64 c)) (dk_at ktX7_slotAfterCut_0 11 rfl) rfl (b := 20) rfl) ?_
    refine rc_p (p_lconst (v := 0) (dk_at ktX7_slotAfterCut_0 12 rfl) (by decide) (b := 21) rfl) ?_
    refine rc_p (p_ldc2 (v := 1000) ql_TwinBootModel_404 (dk_at ktX7_slotAfterCut_0 13 rfl) (b := 24) rfl) ?_
    refine r_iS (As := [.long (Int32.toInt64 c), .long 0, .long 1000]) (rest := [.ref m]) (s_X7_in (Int32.toInt64 c) 0 1000) cw_X7_73 qs_X7_in (dk_at ktX7_slotAfterCut_0 14 rfl) rfl rfl (Nat.le_of_ble_eq_true rfl) (by decide) (b := 27) rfl (fun v15 I12 J13 q14 => ?_)
    obtain ⟨rfl, rfl, rfl⟩ := q14
    refine r_val (y := bi (inI c 0 1000)) (congrArg bi (inJ_I c 0 1000)) ?_
    refine r_if_ne (dk_at ktX7_slotAfterCut_0 15 rfl) (b := 34) (by decide) (b2 := 30) rfl (fun c27 => ?_) (fun c27 => ?_)
    · have c27 := bi_t c27
      refine rc_p (p_iconst (v := 0) (dk_at ktX7_slotAfterCut_0 18 rfl) (by decide) (b := 35) rfl) ?_
      refine rc_p (p_iconst (v := 1) (dk_at ktX7_slotAfterCut_0 19 rfl) (by decide) (b := 36) rfl) ?_
      refine r_iV (As' := [.int 0, .int 1]) (rest := []) (s_X7_throwsIf hm (σ := σ) (by rw [up2_off (by omega)]; exact hR) hI up2_s false 1 (by decide)) cw_X7_190 qi_X7_throwsIf qv_X7_throwsIf rfl hm.l0 hm.s0 (dk_at ktX7_slotAfterCut_0 20 rfl) rfl rfl (Nat.le_of_ble_eq_true rfl) (by decide) (b := 39) rfl (fun v19 I16 J17 q18 => ?_)
      obtain ⟨rfl, rfl, hR20, hF21, h622⟩ := q18
      refine r_val (y := 0) rfl ?_
      refine r_if_eq (dk_at ktX7_slotAfterCut_0 21 rfl) (b := 44) (by decide) (b2 := 42) rfl (fun c39 => ?_) (fun c39 => ?_)
      · skip
        refine rc_p (p_aload_n 0 (dk_at ktX7_slotAfterCut_0 24 rfl) rfl rfl (b := 45) rfl) ?_
        refine rc_p (p_iload_n 1 (dk_at ktX7_slotAfterCut_0 25 rfl) rfl rfl (b := 46) rfl) ?_
        refine r_iV (As' := [.int v]) (rest := []) (s_X7_errorOf hm (σ := σ) hR20 hI v) cw_X7_340 qi_X7_errorOf qv_X7_errorOf rfl hm.l0 hm.s0 (dk_at ktX7_slotAfterCut_0 26 rfl) rfl rfl (Nat.le_of_ble_eq_true rfl) (by decide) (b := 49) rfl (fun v26 I23 J24 q25 => ?_)
        obtain ⟨ee30, rfl, hR29, hT27, hF28⟩ := q25
        refine rc_p (p_istore_n (ls' := [(3, .int v26), (0, .ref m), (1, .int v), (2, .int c)]) (dk_at ktX7_slotAfterCut_0 27 rfl) rfl (by decide) rfl (b := 50) rfl) ?_
        refine rc_p (p_iload_n 0 (dk_at ktX7_slotAfterCut_0 28 rfl) rfl rfl (b := 51) rfl) ?_
        refine r_if_eq (dk_at ktX7_slotAfterCut_0 29 rfl) (b := 58) (by decide) (b2 := 54) rfl (fun c51 => ?_) (fun c51 => ?_)
        · skip
          refine rc_p (p_aload_n 1 (dk_at ktX7_slotAfterCut_0 32 rfl) rfl rfl (b := 59) rfl) ?_
          refine rc_p (p_iload_n 2 (dk_at ktX7_slotAfterCut_0 33 rfl) rfl rfl (b := 60) rfl) ?_
          refine rc_p (p_iload_n 3 (dk_at ktX7_slotAfterCut_0 34 rfl) rfl rfl (b := 61) rfl) ?_
          refine rc_p (p_iconst (v := (-1)) (dk_at ktX7_slotAfterCut_0 35 rfl) (by decide) (b := 62) rfl) ?_
          refine rc_p (p_iconst (v := 0) (dk_at ktX7_slotAfterCut_0 36 rfl) (by decide) (b := 63) rfl) ?_
          refine rc_p (p_iconst (v := (-1)) (dk_at ktX7_slotAfterCut_0 37 rfl) (by decide) (b := 64) rfl) ?_
          refine r_iV (As' := [.int v, .int c, .int (-1), .int 0, .int (-1)]) (rest := []) (s_X7_after hm (σ := σ) (show RelW (I23 (m + 1)) σ from hR29) hI v false c (-1) (in_i (b := 1000) c27) m1_i) cw_X7_406 qi_X7_after qv_X7_after rfl hm.l0 hm.s0 (dk_at ktX7_slotAfterCut_0 38 rfl) rfl rfl (Nat.le_of_ble_eq_true rfl) (by decide) (b := 67) rfl (fun v34 I31 J32 q33 => ?_)
          obtain ⟨ef35, rfl, hR36, h2737, hF38⟩ := q33
          refine r_iret (dk_at ktX7_slotAfterCut_0 39 rfl) rfl rfl ⟨_, rfl, ?_⟩
          have hcd : cSac v c = 0 := if_pos ⟨c15, c27⟩
          refine ⟨fun _ => ?_, Eq.trans (((hF38.2 6 (by decide))).trans (((hF28.2 6 (by decide))).trans h622)) (by exact hcd.symm), rfl, hR36, (FF.tr (FF.tr (FF.tr (FF.uf FF.rf (by decide)) (hF21.mo (by decide) (by decide))) (hF28.mo (by decide) (by decide))) (hF38.mo (by decide) (by decide)))⟩
          exact (if_pos (ee30.trans c51)).trans ef35
        · skip
          refine rc_p (p_iload_n 0 (dk_at ktX7_slotAfterCut_0 30 rfl) rfl rfl (b := 55) rfl) ?_
          refine rc_p (p_goto (b := 67) (dk_at ktX7_slotAfterCut_0 31 rfl) (by decide)) ?_
          refine r_iret (dk_at ktX7_slotAfterCut_0 39 rfl) rfl rfl ⟨_, rfl, ?_⟩
          have hcd : cSac v c = 0 := if_pos ⟨c15, c27⟩
          refine ⟨fun _ => ?_, Eq.trans (((hF28.2 6 (by decide))).trans h622) (by exact hcd.symm), rfl, hR29, (FF.tr (FF.tr (FF.uf FF.rf (by decide)) (hF21.mo (by decide) (by decide))) (hF28.mo (by decide) (by decide)))⟩
          exact (if_neg (fun q => c51 (ee30.symm.trans q))).trans ee30
      · first | exact absurd c39 (by decide) | exact absurd (by decide) c39
    · have c27 := bi_f c27
      refine rc_p (p_iconst (v := 1) (dk_at ktX7_slotAfterCut_0 16 rfl) (by decide) (b := 31) rfl) ?_
      refine rc_p (p_goto (b := 35) (dk_at ktX7_slotAfterCut_0 17 rfl) (by decide)) ?_
      refine rc_p (p_iconst (v := 1) (dk_at ktX7_slotAfterCut_0 19 rfl) (by decide) (b := 36) rfl) ?_
      refine r_iV (As' := [.int 1, .int 1]) (rest := []) (s_X7_throwsIf hm (σ := σ) (by rw [up2_off (by omega)]; exact hR) hI up2_s true 1 (by decide)) cw_X7_190 qi_X7_throwsIf qv_X7_throwsIf rfl hm.l0 hm.s0 (dk_at ktX7_slotAfterCut_0 20 rfl) rfl rfl (Nat.le_of_ble_eq_true rfl) (by decide) (b := 39) rfl (fun v42 I39 J40 q41 => ?_)
      obtain ⟨rfl, rfl, hR43, hF44, h645⟩ := q41
      refine r_val (y := 1) rfl ?_
      refine r_if_eq (dk_at ktX7_slotAfterCut_0 21 rfl) (b := 44) (by decide) (b2 := 42) rfl (fun c39 => ?_) (fun c39 => ?_)
      · first | exact absurd c39 (by decide) | exact absurd (by decide) c39
      · skip
        refine rc_p (p_iconst (v := 0) (dk_at ktX7_slotAfterCut_0 22 rfl) (by decide) (b := 43) rfl) ?_
        refine r_iret (dk_at ktX7_slotAfterCut_0 23 rfl) rfl rfl ⟨_, rfl, ?_⟩
        have hcd : cSac v c = 1 := if_neg (fun q => by rw [show inI c 0 1000 = false from c27] at q; exact absurd q.2 (by decide))
        refine ⟨fun hz => ?_, ?_, rfl, ?_, (FF.tr (FF.uf FF.rf (by decide)) (hF44.mo (by decide) (by decide)))⟩
        · exact absurd (hz.symm.trans hcd) (by decide)
        · exact Eq.trans h645 (by exact hcd.symm)
        · exact hR43
set_option maxRecDepth 4000 in
set_option maxHeartbeats 4000000 in
theorem s_X7_slotAfterTwoCuts {n : Nat} {sh : mS} {G : mG} {I : mI} {J : mJ} {m : Nat} {σ : sT} (hm : ModG n sh G m) (hR : RelW (I (m + 1)) σ) (hI : Inv σ) (v c d : Int32) : Sp yX7_slotAfterTwoCuts cX7_slotAfterTwoCuts 5 (some FieldType.int) 12 576 0 0 [.ref m, .int v, .int c, .int d] n sh G I J (Qi (fun r_ I_ J_ => (cTwo v c d = 0 → a_sac v c d σ = r_) ∧ I_ m 6 = cTwo v c d ∧ J = J_ ∧ RelW (I_ (m + 1)) (σ) ∧ FF m [1, 2, 8] [6, 18, 19, 20, 21, 22, 23, 24, 26, 27] I I_)) nX := by
  have hb := hI.bd
  refine Sp.of (by decide) (ls := [(0, .ref m), (1, .int v), (2, .int c), (3, .int d)]) (fun _ => rfl) (fun _ => Nat.le_of_ble_eq_true rfl) ?_
  refine rc_p (p_aload_n 0 (dk_at ktX7_slotAfterTwoCuts_0 0 rfl) rfl rfl (b := 1) rfl) ?_
  refine rc_p (p_iconst (v := 0) (dk_at ktX7_slotAfterTwoCuts_0 1 rfl) (by decide) (b := 2) rfl) ?_
  refine r_puti fl_X7_46 fw_X7_6 rfl hm.l0 hm.s0 rfl rfl (dk_at ktX7_slotAfterTwoCuts_0 2 rfl) (b := 5) rfl ?_
  refine rc_p (p_aload_n 0 (dk_at ktX7_slotAfterTwoCuts_0 3 rfl) rfl rfl (b := 6) rfl) ?_
  refine rc_p (p_iload_n 1 (dk_at ktX7_slotAfterTwoCuts_0 4 rfl) rfl rfl (b := 7) rfl) ?_
  refine rc_p (p_i2l (v := (Int32.toInt64 v)) (dk_at ktX7_slotAfterTwoCuts_0 5 rfl) rfl (b := 8) rfl) ?_
  refine rc_p (p_lconst (v := 1) (dk_at ktX7_slotAfterTwoCuts_0 6 rfl) (by decide) (b := 9) rfl) ?_
  refine rc_p (p_ldc2 (v := 255) ql_TwinBootModel_57 (dk_at ktX7_slotAfterTwoCuts_0 7 rfl) (b := 12) rfl) ?_
  refine r_iS (As := [.long (Int32.toInt64 v), .long 1, .long 255]) (rest := [.ref m]) (s_X7_in (Int32.toInt64 v) 1 255) cw_X7_73 qs_X7_in (dk_at ktX7_slotAfterTwoCuts_0 8 rfl) rfl rfl (Nat.le_of_ble_eq_true rfl) (by decide) (b := 15) rfl (fun v4 I1 J2 q3 => ?_)
  obtain ⟨rfl, rfl, rfl⟩ := q3
  refine r_val (y := bi (inI v 1 255)) (congrArg bi (inJ_I v 1 255)) ?_
  refine r_if_eq (dk_at ktX7_slotAfterTwoCuts_0 9 rfl) (b := 42) (by decide) (b2 := 18) rfl (fun c15 => ?_) (fun c15 => ?_)
  · have c15 := bi_f c15
    refine rc_p (p_iconst (v := 1) (dk_at ktX7_slotAfterTwoCuts_0 22 rfl) (by decide) (b := 43) rfl) ?_
    refine rc_p (p_goto (b := 47) (dk_at ktX7_slotAfterTwoCuts_0 23 rfl) (by decide)) ?_
    refine rc_p (p_iconst (v := 1) (dk_at ktX7_slotAfterTwoCuts_0 25 rfl) (by decide) (b := 48) rfl) ?_
    refine r_iV (As' := [.int 1, .int 1]) (rest := []) (s_X7_throwsIf hm (σ := σ) (by rw [up2_off (by omega)]; exact hR) hI up2_s true 1 (by decide)) cw_X7_190 qi_X7_throwsIf qv_X7_throwsIf rfl hm.l0 hm.s0 (dk_at ktX7_slotAfterTwoCuts_0 26 rfl) rfl rfl (Nat.le_of_ble_eq_true rfl) (by decide) (b := 51) rfl (fun v8 I5 J6 q7 => ?_)
    obtain ⟨rfl, rfl, hR9, hF10, h611⟩ := q7
    refine r_val (y := 1) rfl ?_
    refine r_if_eq (dk_at ktX7_slotAfterTwoCuts_0 27 rfl) (b := 56) (by decide) (b2 := 54) rfl (fun c51 => ?_) (fun c51 => ?_)
    · first | exact absurd c51 (by decide) | exact absurd (by decide) c51
    · skip
      refine rc_p (p_iconst (v := 0) (dk_at ktX7_slotAfterTwoCuts_0 28 rfl) (by decide) (b := 55) rfl) ?_
      refine r_iret (dk_at ktX7_slotAfterTwoCuts_0 29 rfl) rfl rfl ⟨_, rfl, ?_⟩
      have hcd : cTwo v c d = 1 := if_neg (fun q => by rw [show inI v 1 255 = false from c15] at q; exact absurd q.1 (by decide))
      refine ⟨fun hz => ?_, ?_, rfl, ?_, (FF.tr (FF.uf FF.rf (by decide)) (hF10.mo (by decide) (by decide)))⟩
      · exact absurd (hz.symm.trans hcd) (by decide)
      · exact Eq.trans h611 (by exact hcd.symm)
      · exact hR9
  · have c15 := bi_t c15
    refine rc_p (p_iload_n 2 (dk_at ktX7_slotAfterTwoCuts_0 10 rfl) rfl rfl (b := 19) rfl) ?_
    refine rc_p (p_i2l (v := (Int32.toInt64 c)) (dk_at ktX7_slotAfterTwoCuts_0 11 rfl) rfl (b := 20) rfl) ?_
    refine rc_p (p_lconst (v := 0) (dk_at ktX7_slotAfterTwoCuts_0 12 rfl) (by decide) (b := 21) rfl) ?_
    refine rc_p (p_ldc2 (v := 1000) ql_TwinBootModel_404 (dk_at ktX7_slotAfterTwoCuts_0 13 rfl) (b := 24) rfl) ?_
    refine r_iS (As := [.long (Int32.toInt64 c), .long 0, .long 1000]) (rest := [.ref m]) (s_X7_in (Int32.toInt64 c) 0 1000) cw_X7_73 qs_X7_in (dk_at ktX7_slotAfterTwoCuts_0 14 rfl) rfl rfl (Nat.le_of_ble_eq_true rfl) (by decide) (b := 27) rfl (fun v15 I12 J13 q14 => ?_)
    obtain ⟨rfl, rfl, rfl⟩ := q14
    refine r_val (y := bi (inI c 0 1000)) (congrArg bi (inJ_I c 0 1000)) ?_
    refine r_if_eq (dk_at ktX7_slotAfterTwoCuts_0 15 rfl) (b := 42) (by decide) (b2 := 30) rfl (fun c27 => ?_) (fun c27 => ?_)
    · have c27 := bi_f c27
      refine rc_p (p_iconst (v := 1) (dk_at ktX7_slotAfterTwoCuts_0 22 rfl) (by decide) (b := 43) rfl) ?_
      refine rc_p (p_goto (b := 47) (dk_at ktX7_slotAfterTwoCuts_0 23 rfl) (by decide)) ?_
      refine rc_p (p_iconst (v := 1) (dk_at ktX7_slotAfterTwoCuts_0 25 rfl) (by decide) (b := 48) rfl) ?_
      refine r_iV (As' := [.int 1, .int 1]) (rest := []) (s_X7_throwsIf hm (σ := σ) (by rw [up2_off (by omega)]; exact hR) hI up2_s true 1 (by decide)) cw_X7_190 qi_X7_throwsIf qv_X7_throwsIf rfl hm.l0 hm.s0 (dk_at ktX7_slotAfterTwoCuts_0 26 rfl) rfl rfl (Nat.le_of_ble_eq_true rfl) (by decide) (b := 51) rfl (fun v19 I16 J17 q18 => ?_)
      obtain ⟨rfl, rfl, hR20, hF21, h622⟩ := q18
      refine r_val (y := 1) rfl ?_
      refine r_if_eq (dk_at ktX7_slotAfterTwoCuts_0 27 rfl) (b := 56) (by decide) (b2 := 54) rfl (fun c51 => ?_) (fun c51 => ?_)
      · first | exact absurd c51 (by decide) | exact absurd (by decide) c51
      · skip
        refine rc_p (p_iconst (v := 0) (dk_at ktX7_slotAfterTwoCuts_0 28 rfl) (by decide) (b := 55) rfl) ?_
        refine r_iret (dk_at ktX7_slotAfterTwoCuts_0 29 rfl) rfl rfl ⟨_, rfl, ?_⟩
        have hcd : cTwo v c d = 1 := if_neg (fun q => by rw [show inI c 0 1000 = false from c27] at q; exact absurd q.2.1 (by decide))
        refine ⟨fun hz => ?_, ?_, rfl, ?_, (FF.tr (FF.uf FF.rf (by decide)) (hF21.mo (by decide) (by decide)))⟩
        · exact absurd (hz.symm.trans hcd) (by decide)
        · exact Eq.trans h622 (by exact hcd.symm)
        · exact hR20
    · have c27 := bi_t c27
      refine rc_p (p_iload_n 3 (dk_at ktX7_slotAfterTwoCuts_0 16 rfl) rfl rfl (b := 31) rfl) ?_
      refine rc_p (p_i2l (v := (Int32.toInt64 d)) (dk_at ktX7_slotAfterTwoCuts_0 17 rfl) rfl (b := 32) rfl) ?_
      refine rc_p (p_lconst (v := 0) (dk_at ktX7_slotAfterTwoCuts_0 18 rfl) (by decide) (b := 33) rfl) ?_
      refine rc_p (p_ldc2 (v := 1000) ql_TwinBootModel_404 (dk_at ktX7_slotAfterTwoCuts_0 19 rfl) (b := 36) rfl) ?_
      refine r_iS (As := [.long (Int32.toInt64 d), .long 0, .long 1000]) (rest := [.ref m]) (s_X7_in (Int32.toInt64 d) 0 1000) cw_X7_73 qs_X7_in (dk_at ktX7_slotAfterTwoCuts_0 20 rfl) rfl rfl (Nat.le_of_ble_eq_true rfl) (by decide) (b := 39) rfl (fun v26 I23 J24 q25 => ?_)
      obtain ⟨rfl, rfl, rfl⟩ := q25
      refine r_val (y := bi (inI d 0 1000)) (congrArg bi (inJ_I d 0 1000)) ?_
      refine r_if_ne (dk_at ktX7_slotAfterTwoCuts_0 21 rfl) (b := 46) (by decide) (b2 := 42) rfl (fun c39 => ?_) (fun c39 => ?_)
      · have c39 := bi_t c39
        refine rc_p (p_iconst (v := 0) (dk_at ktX7_slotAfterTwoCuts_0 24 rfl) (by decide) (b := 47) rfl) ?_
        refine rc_p (p_iconst (v := 1) (dk_at ktX7_slotAfterTwoCuts_0 25 rfl) (by decide) (b := 48) rfl) ?_
        refine r_iV (As' := [.int 0, .int 1]) (rest := []) (s_X7_throwsIf hm (σ := σ) (by rw [up2_off (by omega)]; exact hR) hI up2_s false 1 (by decide)) cw_X7_190 qi_X7_throwsIf qv_X7_throwsIf rfl hm.l0 hm.s0 (dk_at ktX7_slotAfterTwoCuts_0 26 rfl) rfl rfl (Nat.le_of_ble_eq_true rfl) (by decide) (b := 51) rfl (fun v30 I27 J28 q29 => ?_)
        obtain ⟨rfl, rfl, hR31, hF32, h633⟩ := q29
        refine r_val (y := 0) rfl ?_
        refine r_if_eq (dk_at ktX7_slotAfterTwoCuts_0 27 rfl) (b := 56) (by decide) (b2 := 54) rfl (fun c51 => ?_) (fun c51 => ?_)
        · skip
          refine rc_p (p_aload_n 0 (dk_at ktX7_slotAfterTwoCuts_0 30 rfl) rfl rfl (b := 57) rfl) ?_
          refine rc_p (p_iload_n 1 (dk_at ktX7_slotAfterTwoCuts_0 31 rfl) rfl rfl (b := 58) rfl) ?_
          refine r_iV (As' := [.int v]) (rest := []) (s_X7_errorOf hm (σ := σ) hR31 hI v) cw_X7_340 qi_X7_errorOf qv_X7_errorOf rfl hm.l0 hm.s0 (dk_at ktX7_slotAfterTwoCuts_0 32 rfl) rfl rfl (Nat.le_of_ble_eq_true rfl) (by decide) (b := 61) rfl (fun v37 I34 J35 q36 => ?_)
          obtain ⟨ee41, rfl, hR40, hT38, hF39⟩ := q36
          refine rc_p (p_istore (ls' := [(4, .int v37), (0, .ref m), (1, .int v), (2, .int c), (3, .int d)]) (dk_at ktX7_slotAfterTwoCuts_0 33 rfl) (by decide) rfl (b := 63) rfl) ?_
          refine rc_p (p_iload 0 (dk_at ktX7_slotAfterTwoCuts_0 34 rfl) rfl (b := 65) rfl) ?_
          refine r_if_eq (dk_at ktX7_slotAfterTwoCuts_0 35 rfl) (b := 73) (by decide) (b2 := 68) rfl (fun c65 => ?_) (fun c65 => ?_)
          · skip
            refine rc_p (p_aload_n 1 (dk_at ktX7_slotAfterTwoCuts_0 38 rfl) rfl rfl (b := 74) rfl) ?_
            refine rc_p (p_iload_n 2 (dk_at ktX7_slotAfterTwoCuts_0 39 rfl) rfl rfl (b := 75) rfl) ?_
            refine rc_p (p_iload_n 3 (dk_at ktX7_slotAfterTwoCuts_0 40 rfl) rfl rfl (b := 76) rfl) ?_
            refine rc_p (p_iload_n 4 (dk_at ktX7_slotAfterTwoCuts_0 41 rfl) rfl rfl (b := 77) rfl) ?_
            refine rc_p (p_iconst (v := 0) (dk_at ktX7_slotAfterTwoCuts_0 42 rfl) (by decide) (b := 78) rfl) ?_
            refine rc_p (p_iconst (v := (-1)) (dk_at ktX7_slotAfterTwoCuts_0 43 rfl) (by decide) (b := 79) rfl) ?_
            refine r_iV (As' := [.int v, .int c, .int d, .int 0, .int (-1)]) (rest := []) (s_X7_after hm (σ := σ) (show RelW (I34 (m + 1)) σ from hR40) hI v false c d (in_i (b := 1000) c27) (in_i (b := 1000) c39)) cw_X7_406 qi_X7_after qv_X7_after rfl hm.l0 hm.s0 (dk_at ktX7_slotAfterTwoCuts_0 44 rfl) rfl rfl (Nat.le_of_ble_eq_true rfl) (by decide) (b := 82) rfl (fun v45 I42 J43 q44 => ?_)
            obtain ⟨ef46, rfl, hR47, h2748, hF49⟩ := q44
            refine r_iret (dk_at ktX7_slotAfterTwoCuts_0 45 rfl) rfl rfl ⟨_, rfl, ?_⟩
            have hcd : cTwo v c d = 0 := if_pos ⟨c15, c27, c39⟩
            refine ⟨fun _ => ?_, Eq.trans (((hF49.2 6 (by decide))).trans (((hF39.2 6 (by decide))).trans h633)) (by exact hcd.symm), rfl, hR47, (FF.tr (FF.tr (FF.tr (FF.uf FF.rf (by decide)) (hF32.mo (by decide) (by decide))) (hF39.mo (by decide) (by decide))) (hF49.mo (by decide) (by decide)))⟩
            exact (if_pos (ee41.trans c65)).trans ef46
          · skip
            refine rc_p (p_iload 0 (dk_at ktX7_slotAfterTwoCuts_0 36 rfl) rfl (b := 70) rfl) ?_
            refine rc_p (p_goto (b := 82) (dk_at ktX7_slotAfterTwoCuts_0 37 rfl) (by decide)) ?_
            refine r_iret (dk_at ktX7_slotAfterTwoCuts_0 45 rfl) rfl rfl ⟨_, rfl, ?_⟩
            have hcd : cTwo v c d = 0 := if_pos ⟨c15, c27, c39⟩
            refine ⟨fun _ => ?_, Eq.trans (((hF39.2 6 (by decide))).trans h633) (by exact hcd.symm), rfl, hR40, (FF.tr (FF.tr (FF.uf FF.rf (by decide)) (hF32.mo (by decide) (by decide))) (hF39.mo (by decide) (by decide)))⟩
            exact (if_neg (fun q => c65 (ee41.symm.trans q))).trans ee41
        · first | exact absurd c51 (by decide) | exact absurd (by decide) c51
      · have c39 := bi_f c39
        refine rc_p (p_iconst (v := 1) (dk_at ktX7_slotAfterTwoCuts_0 22 rfl) (by decide) (b := 43) rfl) ?_
        refine rc_p (p_goto (b := 47) (dk_at ktX7_slotAfterTwoCuts_0 23 rfl) (by decide)) ?_
        refine rc_p (p_iconst (v := 1) (dk_at ktX7_slotAfterTwoCuts_0 25 rfl) (by decide) (b := 48) rfl) ?_
        refine r_iV (As' := [.int 1, .int 1]) (rest := []) (s_X7_throwsIf hm (σ := σ) (by rw [up2_off (by omega)]; exact hR) hI up2_s true 1 (by decide)) cw_X7_190 qi_X7_throwsIf qv_X7_throwsIf rfl hm.l0 hm.s0 (dk_at ktX7_slotAfterTwoCuts_0 26 rfl) rfl rfl (Nat.le_of_ble_eq_true rfl) (by decide) (b := 51) rfl (fun v53 I50 J51 q52 => ?_)
        obtain ⟨rfl, rfl, hR54, hF55, h656⟩ := q52
        refine r_val (y := 1) rfl ?_
        refine r_if_eq (dk_at ktX7_slotAfterTwoCuts_0 27 rfl) (b := 56) (by decide) (b2 := 54) rfl (fun c51 => ?_) (fun c51 => ?_)
        · first | exact absurd c51 (by decide) | exact absurd (by decide) c51
        · skip
          refine rc_p (p_iconst (v := 0) (dk_at ktX7_slotAfterTwoCuts_0 28 rfl) (by decide) (b := 55) rfl) ?_
          refine r_iret (dk_at ktX7_slotAfterTwoCuts_0 29 rfl) rfl rfl ⟨_, rfl, ?_⟩
          have hcd : cTwo v c d = 1 := if_neg (fun q => by rw [show inI d 0 1000 = false from c39] at q; exact absurd q.2.2 (by decide))
          refine ⟨fun hz => ?_, ?_, rfl, ?_, (FF.tr (FF.uf FF.rf (by decide)) (hF55.mo (by decide) (by decide)))⟩
          · exact absurd (hz.symm.trans hcd) (by decide)
          · exact Eq.trans h656 (by exact hcd.symm)
          · exact hR54
set_option maxRecDepth 4000 in
set_option maxHeartbeats 4000000 in
theorem s_X7_toldAfterCut {n : Nat} {sh : mS} {G : mG} {I : mI} {J : mJ} {m : Nat} {σ : sT} (hm : ModG n sh G m) (hR : RelW (I (m + 1)) σ) (hI : Inv σ) (v c w : Int32) : Sp yX7_toldAfterCut cX7_toldAfterCut 6 (some FieldType.int) 12 576 0 0 [.ref m, .int v, .int c, .int w] n sh G I J (Qi (fun r_ I_ J_ => (cTac v c w = 0 → a_tac v c w σ = r_) ∧ I_ m 6 = cTac v c w ∧ J = J_ ∧ RelW (I_ (m + 1)) (σ) ∧ FF m [1, 2, 8] [6, 18, 19, 20, 21, 22, 23, 24, 26, 27] I I_)) nX := by
  have hb := hI.bd
  rcases tl_c w with rfl | rfl | rfl | rfl | rfl | hw
  · refine Sp.of (by decide) (ls := [(0, .ref m), (1, .int v), (2, .int c), (3, .int 0)]) (fun _ => rfl) (fun _ => Nat.le_of_ble_eq_true rfl) ?_
    refine rc_p (p_aload_n 0 (dk_at ktX7_toldAfterCut_0 0 rfl) rfl rfl (b := 1) rfl) ?_
    refine rc_p (p_iconst (v := 0) (dk_at ktX7_toldAfterCut_0 1 rfl) (by decide) (b := 2) rfl) ?_
    refine r_puti fl_X7_46 fw_X7_6 rfl hm.l0 hm.s0 rfl rfl (dk_at ktX7_toldAfterCut_0 2 rfl) (b := 5) rfl ?_
    refine rc_p (p_aload_n 0 (dk_at ktX7_toldAfterCut_0 3 rfl) rfl rfl (b := 6) rfl) ?_
    refine rc_p (p_iload_n 1 (dk_at ktX7_toldAfterCut_0 4 rfl) rfl rfl (b := 7) rfl) ?_
    refine rc_p (p_i2l (v := (Int32.toInt64 v)) (dk_at ktX7_toldAfterCut_0 5 rfl) rfl (b := 8) rfl) ?_
    refine rc_p (p_lconst (v := 1) (dk_at ktX7_toldAfterCut_0 6 rfl) (by decide) (b := 9) rfl) ?_
    refine rc_p (p_ldc2 (v := 255) ql_TwinBootModel_57 (dk_at ktX7_toldAfterCut_0 7 rfl) (b := 12) rfl) ?_
    refine r_iS (As := [.long (Int32.toInt64 v), .long 1, .long 255]) (rest := [.ref m]) (s_X7_in (Int32.toInt64 v) 1 255) cw_X7_73 qs_X7_in (dk_at ktX7_toldAfterCut_0 8 rfl) rfl rfl (Nat.le_of_ble_eq_true rfl) (by decide) (b := 15) rfl (fun v4 I1 J2 q3 => ?_)
    obtain ⟨rfl, rfl, rfl⟩ := q3
    refine r_val (y := bi (inI v 1 255)) (congrArg bi (inJ_I v 1 255)) ?_
    refine r_if_eq (dk_at ktX7_toldAfterCut_0 9 rfl) (b := 42) (by decide) (b2 := 18) rfl (fun c15 => ?_) (fun c15 => ?_)
    · have c15 := bi_f c15
      refine rc_p (p_iconst (v := 1) (dk_at ktX7_toldAfterCut_0 22 rfl) (by decide) (b := 43) rfl) ?_
      refine rc_p (p_goto (b := 47) (dk_at ktX7_toldAfterCut_0 23 rfl) (by decide)) ?_
      refine rc_p (p_iconst (v := 1) (dk_at ktX7_toldAfterCut_0 25 rfl) (by decide) (b := 48) rfl) ?_
      refine r_iV (As' := [.int 1, .int 1]) (rest := []) (s_X7_throwsIf hm (σ := σ) (by rw [up2_off (by omega)]; exact hR) hI up2_s true 1 (by decide)) cw_X7_190 qi_X7_throwsIf qv_X7_throwsIf rfl hm.l0 hm.s0 (dk_at ktX7_toldAfterCut_0 26 rfl) rfl rfl (Nat.le_of_ble_eq_true rfl) (by decide) (b := 51) rfl (fun v8 I5 J6 q7 => ?_)
      obtain ⟨rfl, rfl, hR9, hF10, h611⟩ := q7
      refine r_val (y := 1) rfl ?_
      refine r_if_eq (dk_at ktX7_toldAfterCut_0 27 rfl) (b := 56) (by decide) (b2 := 54) rfl (fun c51 => ?_) (fun c51 => ?_)
      · first | exact absurd c51 (by decide) | exact absurd (by decide) c51
      · skip
        refine rc_p (p_iconst (v := 0) (dk_at ktX7_toldAfterCut_0 28 rfl) (by decide) (b := 55) rfl) ?_
        refine r_iret (dk_at ktX7_toldAfterCut_0 29 rfl) rfl rfl ⟨_, rfl, ?_⟩
        have hcd : cTac v c 0 = 1 := if_neg (fun q => by rw [show inI v 1 255 = false from c15] at q; exact absurd q.1 (by decide))
        refine ⟨fun hz => ?_, ?_, rfl, ?_, (FF.tr (FF.uf FF.rf (by decide)) (hF10.mo (by decide) (by decide)))⟩
        · exact absurd (hz.symm.trans hcd) (by decide)
        · exact Eq.trans h611 (by exact hcd.symm)
        · exact hR9
    · have c15 := bi_t c15
      refine rc_p (p_iload_n 2 (dk_at ktX7_toldAfterCut_0 10 rfl) rfl rfl (b := 19) rfl) ?_
      refine rc_p (p_i2l (v := (Int32.toInt64 c)) (dk_at ktX7_toldAfterCut_0 11 rfl) rfl (b := 20) rfl) ?_
      refine rc_p (p_lconst (v := 0) (dk_at ktX7_toldAfterCut_0 12 rfl) (by decide) (b := 21) rfl) ?_
      refine rc_p (p_ldc2 (v := 1000) ql_TwinBootModel_404 (dk_at ktX7_toldAfterCut_0 13 rfl) (b := 24) rfl) ?_
      refine r_iS (As := [.long (Int32.toInt64 c), .long 0, .long 1000]) (rest := [.ref m]) (s_X7_in (Int32.toInt64 c) 0 1000) cw_X7_73 qs_X7_in (dk_at ktX7_toldAfterCut_0 14 rfl) rfl rfl (Nat.le_of_ble_eq_true rfl) (by decide) (b := 27) rfl (fun v15 I12 J13 q14 => ?_)
      obtain ⟨rfl, rfl, rfl⟩ := q14
      refine r_val (y := bi (inI c 0 1000)) (congrArg bi (inJ_I c 0 1000)) ?_
      refine r_if_eq (dk_at ktX7_toldAfterCut_0 15 rfl) (b := 42) (by decide) (b2 := 30) rfl (fun c27 => ?_) (fun c27 => ?_)
      · have c27 := bi_f c27
        refine rc_p (p_iconst (v := 1) (dk_at ktX7_toldAfterCut_0 22 rfl) (by decide) (b := 43) rfl) ?_
        refine rc_p (p_goto (b := 47) (dk_at ktX7_toldAfterCut_0 23 rfl) (by decide)) ?_
        refine rc_p (p_iconst (v := 1) (dk_at ktX7_toldAfterCut_0 25 rfl) (by decide) (b := 48) rfl) ?_
        refine r_iV (As' := [.int 1, .int 1]) (rest := []) (s_X7_throwsIf hm (σ := σ) (by rw [up2_off (by omega)]; exact hR) hI up2_s true 1 (by decide)) cw_X7_190 qi_X7_throwsIf qv_X7_throwsIf rfl hm.l0 hm.s0 (dk_at ktX7_toldAfterCut_0 26 rfl) rfl rfl (Nat.le_of_ble_eq_true rfl) (by decide) (b := 51) rfl (fun v19 I16 J17 q18 => ?_)
        obtain ⟨rfl, rfl, hR20, hF21, h622⟩ := q18
        refine r_val (y := 1) rfl ?_
        refine r_if_eq (dk_at ktX7_toldAfterCut_0 27 rfl) (b := 56) (by decide) (b2 := 54) rfl (fun c51 => ?_) (fun c51 => ?_)
        · first | exact absurd c51 (by decide) | exact absurd (by decide) c51
        · skip
          refine rc_p (p_iconst (v := 0) (dk_at ktX7_toldAfterCut_0 28 rfl) (by decide) (b := 55) rfl) ?_
          refine r_iret (dk_at ktX7_toldAfterCut_0 29 rfl) rfl rfl ⟨_, rfl, ?_⟩
          have hcd : cTac v c 0 = 1 := if_neg (fun q => by rw [show inI c 0 1000 = false from c27] at q; exact absurd q.2.1 (by decide))
          refine ⟨fun hz => ?_, ?_, rfl, ?_, (FF.tr (FF.uf FF.rf (by decide)) (hF21.mo (by decide) (by decide)))⟩
          · exact absurd (hz.symm.trans hcd) (by decide)
          · exact Eq.trans h622 (by exact hcd.symm)
          · exact hR20
      · have c27 := bi_t c27
        refine rc_p (p_iload_n 3 (dk_at ktX7_toldAfterCut_0 16 rfl) rfl rfl (b := 31) rfl) ?_
        refine rc_p (p_i2l (v := (Int32.toInt64 0)) (dk_at ktX7_toldAfterCut_0 17 rfl) rfl (b := 32) rfl) ?_
        refine rc_p (p_lconst (v := 0) (dk_at ktX7_toldAfterCut_0 18 rfl) (by decide) (b := 33) rfl) ?_
        refine rc_p (p_ldc2 (v := 4) ql_TwinBootModel_383 (dk_at ktX7_toldAfterCut_0 19 rfl) (b := 36) rfl) ?_
        refine r_iS (As := [.long (Int32.toInt64 0), .long 0, .long 4]) (rest := [.ref m]) (s_X7_in (Int32.toInt64 0) 0 4) cw_X7_73 qs_X7_in (dk_at ktX7_toldAfterCut_0 20 rfl) rfl rfl (Nat.le_of_ble_eq_true rfl) (by decide) (b := 39) rfl (fun v26 I23 J24 q25 => ?_)
        obtain ⟨rfl, rfl, rfl⟩ := q25
        refine r_val (y := bi (inI 0 0 4)) (congrArg bi (inJ_I 0 0 4)) ?_
        refine r_val (y := 1) (by decide) ?_
        refine r_if_ne (dk_at ktX7_toldAfterCut_0 21 rfl) (b := 46) (by decide) (b2 := 42) rfl (fun c39 => ?_) (fun c39 => ?_)
        · skip
          refine rc_p (p_iconst (v := 0) (dk_at ktX7_toldAfterCut_0 24 rfl) (by decide) (b := 47) rfl) ?_
          refine rc_p (p_iconst (v := 1) (dk_at ktX7_toldAfterCut_0 25 rfl) (by decide) (b := 48) rfl) ?_
          refine r_iV (As' := [.int 0, .int 1]) (rest := []) (s_X7_throwsIf hm (σ := σ) (by rw [up2_off (by omega)]; exact hR) hI up2_s false 1 (by decide)) cw_X7_190 qi_X7_throwsIf qv_X7_throwsIf rfl hm.l0 hm.s0 (dk_at ktX7_toldAfterCut_0 26 rfl) rfl rfl (Nat.le_of_ble_eq_true rfl) (by decide) (b := 51) rfl (fun v30 I27 J28 q29 => ?_)
          obtain ⟨rfl, rfl, hR31, hF32, h633⟩ := q29
          refine r_val (y := 0) rfl ?_
          refine r_if_eq (dk_at ktX7_toldAfterCut_0 27 rfl) (b := 56) (by decide) (b2 := 54) rfl (fun c51 => ?_) (fun c51 => ?_)
          · skip
            refine rc_p (p_aload_n 0 (dk_at ktX7_toldAfterCut_0 30 rfl) rfl rfl (b := 57) rfl) ?_
            refine rc_p (p_iload_n 1 (dk_at ktX7_toldAfterCut_0 31 rfl) rfl rfl (b := 58) rfl) ?_
            refine r_iV (As' := [.int v]) (rest := []) (s_X7_errorOf hm (σ := σ) hR31 hI v) cw_X7_340 qi_X7_errorOf qv_X7_errorOf rfl hm.l0 hm.s0 (dk_at ktX7_toldAfterCut_0 32 rfl) rfl rfl (Nat.le_of_ble_eq_true rfl) (by decide) (b := 61) rfl (fun v37 I34 J35 q36 => ?_)
            obtain ⟨ee41, rfl, hR40, hT38, hF39⟩ := q36
            refine rc_p (p_istore (ls' := [(4, .int v37), (0, .ref m), (1, .int v), (2, .int c), (3, .int 0)]) (dk_at ktX7_toldAfterCut_0 33 rfl) (by decide) rfl (b := 63) rfl) ?_
            refine rc_p (p_iload 0 (dk_at ktX7_toldAfterCut_0 34 rfl) rfl (b := 65) rfl) ?_
            refine r_if_eq (dk_at ktX7_toldAfterCut_0 35 rfl) (b := 74) (by decide) (b2 := 68) rfl (fun c65 => ?_) (fun c65 => ?_)
            · skip
              refine rc_p (p_aload_n 1 (dk_at ktX7_toldAfterCut_0 40 rfl) rfl rfl (b := 75) rfl) ?_
              refine rc_p (p_iload_n 2 (dk_at ktX7_toldAfterCut_0 41 rfl) rfl rfl (b := 76) rfl) ?_
              refine rc_p (p_iload_n 3 (dk_at ktX7_toldAfterCut_0 42 rfl) rfl rfl (b := 77) rfl) ?_
              refine rc_p (p_iconst (v := (-1)) (dk_at ktX7_toldAfterCut_0 43 rfl) (by decide) (b := 78) rfl) ?_
              refine rc_p (p_iconst (v := 0) (dk_at ktX7_toldAfterCut_0 44 rfl) (by decide) (b := 79) rfl) ?_
              refine rc_p (p_iload_n 4 (dk_at ktX7_toldAfterCut_0 45 rfl) rfl rfl (b := 80) rfl) ?_
              refine r_iV (As' := [.int v, .int c, .int (-1), .int 0, .int 0]) (rest := []) (s_X7_afterT hm (σ := σ) (show RelW (I34 (m + 1)) σ from hR40) hI v false c (-1) (in_i (b := 1000) c27) m1_i 0 (by omega)) cw_X7_406 qi_X7_after qv_X7_after rfl hm.l0 hm.s0 (dk_at ktX7_toldAfterCut_0 46 rfl) rfl rfl (Nat.le_of_ble_eq_true rfl) (by decide) (b := 83) rfl (fun v45 I42 J43 q44 => ?_)
              obtain ⟨ef46, rfl, hR47, h2748, hF49⟩ := q44
              refine rc_p (p_istore (ls' := [(5, .int v45), (4, .int v37), (0, .ref m), (1, .int v), (2, .int c), (3, .int 0)]) (dk_at ktX7_toldAfterCut_0 47 rfl) (by decide) rfl (b := 85) rfl) ?_
              refine rc_p (p_aload_n 2 (dk_at ktX7_toldAfterCut_0 48 rfl) rfl rfl (b := 86) rfl) ?_
              refine r_geti fl_X7_398 rfl hm.l0 hm.s0 (dk_at ktX7_toldAfterCut_0 49 rfl) (v := (bi (decide ((fUpd v false (upd σ 6 c)).1 = -4)))) h2748 (b := 89) rfl ?_
              refine r_if_eq (dk_at ktX7_toldAfterCut_0 50 rfl) (b := 97) (by decide) (b2 := 92) rfl (fun c89 => ?_) (fun c89 => ?_)
              · have c89 := bi_f c89
                refine rc_p (p_bipush (v := (-102)) (dk_at ktX7_toldAfterCut_0 53 rfl) (by decide) (b := 99) rfl) ?_
                refine r_iret (dk_at ktX7_toldAfterCut_0 54 rfl) rfl rfl ⟨_, rfl, ?_⟩
                have hcd : cTac v c 0 = 0 := if_pos ⟨c15, c27, by decide⟩
                refine ⟨fun _ => ?_, Eq.trans (((hF49.2 6 (by decide))).trans (((hF39.2 6 (by decide))).trans h633)) (by exact hcd.symm), rfl, hR47, (FF.tr (FF.tr (FF.tr (FF.uf FF.rf (by decide)) (hF32.mo (by decide) (by decide))) (hF39.mo (by decide) (by decide))) (hF49.mo (by decide) (by decide)))⟩
                have he0 := ee41.trans c65
                unfold a_tac; rw [if_pos he0, if_neg (by simpa using c89)]
              · have c89 := bi_t c89
                refine rc_p (p_iload 0 (dk_at ktX7_toldAfterCut_0 51 rfl) rfl (b := 94) rfl) ?_
                refine rc_p (p_goto (b := 99) (dk_at ktX7_toldAfterCut_0 52 rfl) (by decide)) ?_
                refine r_iret (dk_at ktX7_toldAfterCut_0 54 rfl) rfl rfl ⟨_, rfl, ?_⟩
                have hcd : cTac v c 0 = 0 := if_pos ⟨c15, c27, by decide⟩
                refine ⟨fun _ => ?_, Eq.trans (((hF49.2 6 (by decide))).trans (((hF39.2 6 (by decide))).trans h633)) (by exact hcd.symm), rfl, hR47, (FF.tr (FF.tr (FF.tr (FF.uf FF.rf (by decide)) (hF32.mo (by decide) (by decide))) (hF39.mo (by decide) (by decide))) (hF49.mo (by decide) (by decide)))⟩
                have he0 := ee41.trans c65
                unfold a_tac; rw [if_pos he0, if_pos (by simpa using c89)]; exact ef46
            · skip
              refine rc_p (p_iload 0 (dk_at ktX7_toldAfterCut_0 36 rfl) rfl (b := 70) rfl) ?_
              refine rc_p (p_bipush (v := 100) (dk_at ktX7_toldAfterCut_0 37 rfl) (by decide) (b := 72) rfl) ?_
              refine rc_p (p_isub (v := (v37 - 100)) (dk_at ktX7_toldAfterCut_0 38 rfl) rfl (b := 73) rfl) ?_
              refine r_iret (dk_at ktX7_toldAfterCut_0 39 rfl) rfl rfl ⟨_, rfl, ?_⟩
              have hcd : cTac v c 0 = 0 := if_pos ⟨c15, c27, by decide⟩
              refine ⟨fun _ => ?_, Eq.trans (((hF39.2 6 (by decide))).trans h633) (by exact hcd.symm), rfl, hR40, (FF.tr (FF.tr (FF.uf FF.rf (by decide)) (hF32.mo (by decide) (by decide))) (hF39.mo (by decide) (by decide)))⟩
              unfold a_tac; rw [if_neg (fun q => c65 (ee41.symm.trans q)), ee41]
          · first | exact absurd c51 (by decide) | exact absurd (by decide) c51
        · first | exact absurd c39 (by decide) | exact absurd (by decide) c39
  · refine Sp.of (by decide) (ls := [(0, .ref m), (1, .int v), (2, .int c), (3, .int 1)]) (fun _ => rfl) (fun _ => Nat.le_of_ble_eq_true rfl) ?_
    refine rc_p (p_aload_n 0 (dk_at ktX7_toldAfterCut_0 0 rfl) rfl rfl (b := 1) rfl) ?_
    refine rc_p (p_iconst (v := 0) (dk_at ktX7_toldAfterCut_0 1 rfl) (by decide) (b := 2) rfl) ?_
    refine r_puti fl_X7_46 fw_X7_6 rfl hm.l0 hm.s0 rfl rfl (dk_at ktX7_toldAfterCut_0 2 rfl) (b := 5) rfl ?_
    refine rc_p (p_aload_n 0 (dk_at ktX7_toldAfterCut_0 3 rfl) rfl rfl (b := 6) rfl) ?_
    refine rc_p (p_iload_n 1 (dk_at ktX7_toldAfterCut_0 4 rfl) rfl rfl (b := 7) rfl) ?_
    refine rc_p (p_i2l (v := (Int32.toInt64 v)) (dk_at ktX7_toldAfterCut_0 5 rfl) rfl (b := 8) rfl) ?_
    refine rc_p (p_lconst (v := 1) (dk_at ktX7_toldAfterCut_0 6 rfl) (by decide) (b := 9) rfl) ?_
    refine rc_p (p_ldc2 (v := 255) ql_TwinBootModel_57 (dk_at ktX7_toldAfterCut_0 7 rfl) (b := 12) rfl) ?_
    refine r_iS (As := [.long (Int32.toInt64 v), .long 1, .long 255]) (rest := [.ref m]) (s_X7_in (Int32.toInt64 v) 1 255) cw_X7_73 qs_X7_in (dk_at ktX7_toldAfterCut_0 8 rfl) rfl rfl (Nat.le_of_ble_eq_true rfl) (by decide) (b := 15) rfl (fun v53 I50 J51 q52 => ?_)
    obtain ⟨rfl, rfl, rfl⟩ := q52
    refine r_val (y := bi (inI v 1 255)) (congrArg bi (inJ_I v 1 255)) ?_
    refine r_if_eq (dk_at ktX7_toldAfterCut_0 9 rfl) (b := 42) (by decide) (b2 := 18) rfl (fun c15 => ?_) (fun c15 => ?_)
    · have c15 := bi_f c15
      refine rc_p (p_iconst (v := 1) (dk_at ktX7_toldAfterCut_0 22 rfl) (by decide) (b := 43) rfl) ?_
      refine rc_p (p_goto (b := 47) (dk_at ktX7_toldAfterCut_0 23 rfl) (by decide)) ?_
      refine rc_p (p_iconst (v := 1) (dk_at ktX7_toldAfterCut_0 25 rfl) (by decide) (b := 48) rfl) ?_
      refine r_iV (As' := [.int 1, .int 1]) (rest := []) (s_X7_throwsIf hm (σ := σ) (by rw [up2_off (by omega)]; exact hR) hI up2_s true 1 (by decide)) cw_X7_190 qi_X7_throwsIf qv_X7_throwsIf rfl hm.l0 hm.s0 (dk_at ktX7_toldAfterCut_0 26 rfl) rfl rfl (Nat.le_of_ble_eq_true rfl) (by decide) (b := 51) rfl (fun v57 I54 J55 q56 => ?_)
      obtain ⟨rfl, rfl, hR58, hF59, h660⟩ := q56
      refine r_val (y := 1) rfl ?_
      refine r_if_eq (dk_at ktX7_toldAfterCut_0 27 rfl) (b := 56) (by decide) (b2 := 54) rfl (fun c51 => ?_) (fun c51 => ?_)
      · first | exact absurd c51 (by decide) | exact absurd (by decide) c51
      · skip
        refine rc_p (p_iconst (v := 0) (dk_at ktX7_toldAfterCut_0 28 rfl) (by decide) (b := 55) rfl) ?_
        refine r_iret (dk_at ktX7_toldAfterCut_0 29 rfl) rfl rfl ⟨_, rfl, ?_⟩
        have hcd : cTac v c 1 = 1 := if_neg (fun q => by rw [show inI v 1 255 = false from c15] at q; exact absurd q.1 (by decide))
        refine ⟨fun hz => ?_, ?_, rfl, ?_, (FF.tr (FF.uf FF.rf (by decide)) (hF59.mo (by decide) (by decide)))⟩
        · exact absurd (hz.symm.trans hcd) (by decide)
        · exact Eq.trans h660 (by exact hcd.symm)
        · exact hR58
    · have c15 := bi_t c15
      refine rc_p (p_iload_n 2 (dk_at ktX7_toldAfterCut_0 10 rfl) rfl rfl (b := 19) rfl) ?_
      refine rc_p (p_i2l (v := (Int32.toInt64 c)) (dk_at ktX7_toldAfterCut_0 11 rfl) rfl (b := 20) rfl) ?_
      refine rc_p (p_lconst (v := 0) (dk_at ktX7_toldAfterCut_0 12 rfl) (by decide) (b := 21) rfl) ?_
      refine rc_p (p_ldc2 (v := 1000) ql_TwinBootModel_404 (dk_at ktX7_toldAfterCut_0 13 rfl) (b := 24) rfl) ?_
      refine r_iS (As := [.long (Int32.toInt64 c), .long 0, .long 1000]) (rest := [.ref m]) (s_X7_in (Int32.toInt64 c) 0 1000) cw_X7_73 qs_X7_in (dk_at ktX7_toldAfterCut_0 14 rfl) rfl rfl (Nat.le_of_ble_eq_true rfl) (by decide) (b := 27) rfl (fun v64 I61 J62 q63 => ?_)
      obtain ⟨rfl, rfl, rfl⟩ := q63
      refine r_val (y := bi (inI c 0 1000)) (congrArg bi (inJ_I c 0 1000)) ?_
      refine r_if_eq (dk_at ktX7_toldAfterCut_0 15 rfl) (b := 42) (by decide) (b2 := 30) rfl (fun c27 => ?_) (fun c27 => ?_)
      · have c27 := bi_f c27
        refine rc_p (p_iconst (v := 1) (dk_at ktX7_toldAfterCut_0 22 rfl) (by decide) (b := 43) rfl) ?_
        refine rc_p (p_goto (b := 47) (dk_at ktX7_toldAfterCut_0 23 rfl) (by decide)) ?_
        refine rc_p (p_iconst (v := 1) (dk_at ktX7_toldAfterCut_0 25 rfl) (by decide) (b := 48) rfl) ?_
        refine r_iV (As' := [.int 1, .int 1]) (rest := []) (s_X7_throwsIf hm (σ := σ) (by rw [up2_off (by omega)]; exact hR) hI up2_s true 1 (by decide)) cw_X7_190 qi_X7_throwsIf qv_X7_throwsIf rfl hm.l0 hm.s0 (dk_at ktX7_toldAfterCut_0 26 rfl) rfl rfl (Nat.le_of_ble_eq_true rfl) (by decide) (b := 51) rfl (fun v68 I65 J66 q67 => ?_)
        obtain ⟨rfl, rfl, hR69, hF70, h671⟩ := q67
        refine r_val (y := 1) rfl ?_
        refine r_if_eq (dk_at ktX7_toldAfterCut_0 27 rfl) (b := 56) (by decide) (b2 := 54) rfl (fun c51 => ?_) (fun c51 => ?_)
        · first | exact absurd c51 (by decide) | exact absurd (by decide) c51
        · skip
          refine rc_p (p_iconst (v := 0) (dk_at ktX7_toldAfterCut_0 28 rfl) (by decide) (b := 55) rfl) ?_
          refine r_iret (dk_at ktX7_toldAfterCut_0 29 rfl) rfl rfl ⟨_, rfl, ?_⟩
          have hcd : cTac v c 1 = 1 := if_neg (fun q => by rw [show inI c 0 1000 = false from c27] at q; exact absurd q.2.1 (by decide))
          refine ⟨fun hz => ?_, ?_, rfl, ?_, (FF.tr (FF.uf FF.rf (by decide)) (hF70.mo (by decide) (by decide)))⟩
          · exact absurd (hz.symm.trans hcd) (by decide)
          · exact Eq.trans h671 (by exact hcd.symm)
          · exact hR69
      · have c27 := bi_t c27
        refine rc_p (p_iload_n 3 (dk_at ktX7_toldAfterCut_0 16 rfl) rfl rfl (b := 31) rfl) ?_
        refine rc_p (p_i2l (v := (Int32.toInt64 1)) (dk_at ktX7_toldAfterCut_0 17 rfl) rfl (b := 32) rfl) ?_
        refine rc_p (p_lconst (v := 0) (dk_at ktX7_toldAfterCut_0 18 rfl) (by decide) (b := 33) rfl) ?_
        refine rc_p (p_ldc2 (v := 4) ql_TwinBootModel_383 (dk_at ktX7_toldAfterCut_0 19 rfl) (b := 36) rfl) ?_
        refine r_iS (As := [.long (Int32.toInt64 1), .long 0, .long 4]) (rest := [.ref m]) (s_X7_in (Int32.toInt64 1) 0 4) cw_X7_73 qs_X7_in (dk_at ktX7_toldAfterCut_0 20 rfl) rfl rfl (Nat.le_of_ble_eq_true rfl) (by decide) (b := 39) rfl (fun v75 I72 J73 q74 => ?_)
        obtain ⟨rfl, rfl, rfl⟩ := q74
        refine r_val (y := bi (inI 1 0 4)) (congrArg bi (inJ_I 1 0 4)) ?_
        refine r_val (y := 1) (by decide) ?_
        refine r_if_ne (dk_at ktX7_toldAfterCut_0 21 rfl) (b := 46) (by decide) (b2 := 42) rfl (fun c39 => ?_) (fun c39 => ?_)
        · skip
          refine rc_p (p_iconst (v := 0) (dk_at ktX7_toldAfterCut_0 24 rfl) (by decide) (b := 47) rfl) ?_
          refine rc_p (p_iconst (v := 1) (dk_at ktX7_toldAfterCut_0 25 rfl) (by decide) (b := 48) rfl) ?_
          refine r_iV (As' := [.int 0, .int 1]) (rest := []) (s_X7_throwsIf hm (σ := σ) (by rw [up2_off (by omega)]; exact hR) hI up2_s false 1 (by decide)) cw_X7_190 qi_X7_throwsIf qv_X7_throwsIf rfl hm.l0 hm.s0 (dk_at ktX7_toldAfterCut_0 26 rfl) rfl rfl (Nat.le_of_ble_eq_true rfl) (by decide) (b := 51) rfl (fun v79 I76 J77 q78 => ?_)
          obtain ⟨rfl, rfl, hR80, hF81, h682⟩ := q78
          refine r_val (y := 0) rfl ?_
          refine r_if_eq (dk_at ktX7_toldAfterCut_0 27 rfl) (b := 56) (by decide) (b2 := 54) rfl (fun c51 => ?_) (fun c51 => ?_)
          · skip
            refine rc_p (p_aload_n 0 (dk_at ktX7_toldAfterCut_0 30 rfl) rfl rfl (b := 57) rfl) ?_
            refine rc_p (p_iload_n 1 (dk_at ktX7_toldAfterCut_0 31 rfl) rfl rfl (b := 58) rfl) ?_
            refine r_iV (As' := [.int v]) (rest := []) (s_X7_errorOf hm (σ := σ) hR80 hI v) cw_X7_340 qi_X7_errorOf qv_X7_errorOf rfl hm.l0 hm.s0 (dk_at ktX7_toldAfterCut_0 32 rfl) rfl rfl (Nat.le_of_ble_eq_true rfl) (by decide) (b := 61) rfl (fun v86 I83 J84 q85 => ?_)
            obtain ⟨ee90, rfl, hR89, hT87, hF88⟩ := q85
            refine rc_p (p_istore (ls' := [(4, .int v86), (0, .ref m), (1, .int v), (2, .int c), (3, .int 1)]) (dk_at ktX7_toldAfterCut_0 33 rfl) (by decide) rfl (b := 63) rfl) ?_
            refine rc_p (p_iload 0 (dk_at ktX7_toldAfterCut_0 34 rfl) rfl (b := 65) rfl) ?_
            refine r_if_eq (dk_at ktX7_toldAfterCut_0 35 rfl) (b := 74) (by decide) (b2 := 68) rfl (fun c65 => ?_) (fun c65 => ?_)
            · skip
              refine rc_p (p_aload_n 1 (dk_at ktX7_toldAfterCut_0 40 rfl) rfl rfl (b := 75) rfl) ?_
              refine rc_p (p_iload_n 2 (dk_at ktX7_toldAfterCut_0 41 rfl) rfl rfl (b := 76) rfl) ?_
              refine rc_p (p_iload_n 3 (dk_at ktX7_toldAfterCut_0 42 rfl) rfl rfl (b := 77) rfl) ?_
              refine rc_p (p_iconst (v := (-1)) (dk_at ktX7_toldAfterCut_0 43 rfl) (by decide) (b := 78) rfl) ?_
              refine rc_p (p_iconst (v := 0) (dk_at ktX7_toldAfterCut_0 44 rfl) (by decide) (b := 79) rfl) ?_
              refine rc_p (p_iload_n 4 (dk_at ktX7_toldAfterCut_0 45 rfl) rfl rfl (b := 80) rfl) ?_
              refine r_iV (As' := [.int v, .int c, .int (-1), .int 0, .int 1]) (rest := []) (s_X7_afterT hm (σ := σ) (show RelW (I83 (m + 1)) σ from hR89) hI v false c (-1) (in_i (b := 1000) c27) m1_i 1 (by omega)) cw_X7_406 qi_X7_after qv_X7_after rfl hm.l0 hm.s0 (dk_at ktX7_toldAfterCut_0 46 rfl) rfl rfl (Nat.le_of_ble_eq_true rfl) (by decide) (b := 83) rfl (fun v94 I91 J92 q93 => ?_)
              obtain ⟨ef95, rfl, hR96, h2797, hF98⟩ := q93
              refine rc_p (p_istore (ls' := [(5, .int v94), (4, .int v86), (0, .ref m), (1, .int v), (2, .int c), (3, .int 1)]) (dk_at ktX7_toldAfterCut_0 47 rfl) (by decide) rfl (b := 85) rfl) ?_
              refine rc_p (p_aload_n 2 (dk_at ktX7_toldAfterCut_0 48 rfl) rfl rfl (b := 86) rfl) ?_
              refine r_geti fl_X7_398 rfl hm.l0 hm.s0 (dk_at ktX7_toldAfterCut_0 49 rfl) (v := (bi (decide ((fUpd v false (upd σ 6 c)).1 = -4)))) h2797 (b := 89) rfl ?_
              refine r_if_eq (dk_at ktX7_toldAfterCut_0 50 rfl) (b := 97) (by decide) (b2 := 92) rfl (fun c89 => ?_) (fun c89 => ?_)
              · have c89 := bi_f c89
                refine rc_p (p_bipush (v := (-102)) (dk_at ktX7_toldAfterCut_0 53 rfl) (by decide) (b := 99) rfl) ?_
                refine r_iret (dk_at ktX7_toldAfterCut_0 54 rfl) rfl rfl ⟨_, rfl, ?_⟩
                have hcd : cTac v c 1 = 0 := if_pos ⟨c15, c27, by decide⟩
                refine ⟨fun _ => ?_, Eq.trans (((hF98.2 6 (by decide))).trans (((hF88.2 6 (by decide))).trans h682)) (by exact hcd.symm), rfl, hR96, (FF.tr (FF.tr (FF.tr (FF.uf FF.rf (by decide)) (hF81.mo (by decide) (by decide))) (hF88.mo (by decide) (by decide))) (hF98.mo (by decide) (by decide)))⟩
                have he0 := ee90.trans c65
                unfold a_tac; rw [if_pos he0, if_neg (by simpa using c89)]
              · have c89 := bi_t c89
                refine rc_p (p_iload 0 (dk_at ktX7_toldAfterCut_0 51 rfl) rfl (b := 94) rfl) ?_
                refine rc_p (p_goto (b := 99) (dk_at ktX7_toldAfterCut_0 52 rfl) (by decide)) ?_
                refine r_iret (dk_at ktX7_toldAfterCut_0 54 rfl) rfl rfl ⟨_, rfl, ?_⟩
                have hcd : cTac v c 1 = 0 := if_pos ⟨c15, c27, by decide⟩
                refine ⟨fun _ => ?_, Eq.trans (((hF98.2 6 (by decide))).trans (((hF88.2 6 (by decide))).trans h682)) (by exact hcd.symm), rfl, hR96, (FF.tr (FF.tr (FF.tr (FF.uf FF.rf (by decide)) (hF81.mo (by decide) (by decide))) (hF88.mo (by decide) (by decide))) (hF98.mo (by decide) (by decide)))⟩
                have he0 := ee90.trans c65
                unfold a_tac; rw [if_pos he0, if_pos (by simpa using c89)]; exact ef95
            · skip
              refine rc_p (p_iload 0 (dk_at ktX7_toldAfterCut_0 36 rfl) rfl (b := 70) rfl) ?_
              refine rc_p (p_bipush (v := 100) (dk_at ktX7_toldAfterCut_0 37 rfl) (by decide) (b := 72) rfl) ?_
              refine rc_p (p_isub (v := (v86 - 100)) (dk_at ktX7_toldAfterCut_0 38 rfl) rfl (b := 73) rfl) ?_
              refine r_iret (dk_at ktX7_toldAfterCut_0 39 rfl) rfl rfl ⟨_, rfl, ?_⟩
              have hcd : cTac v c 1 = 0 := if_pos ⟨c15, c27, by decide⟩
              refine ⟨fun _ => ?_, Eq.trans (((hF88.2 6 (by decide))).trans h682) (by exact hcd.symm), rfl, hR89, (FF.tr (FF.tr (FF.uf FF.rf (by decide)) (hF81.mo (by decide) (by decide))) (hF88.mo (by decide) (by decide)))⟩
              unfold a_tac; rw [if_neg (fun q => c65 (ee90.symm.trans q)), ee90]
          · first | exact absurd c51 (by decide) | exact absurd (by decide) c51
        · first | exact absurd c39 (by decide) | exact absurd (by decide) c39
  · refine Sp.of (by decide) (ls := [(0, .ref m), (1, .int v), (2, .int c), (3, .int 2)]) (fun _ => rfl) (fun _ => Nat.le_of_ble_eq_true rfl) ?_
    refine rc_p (p_aload_n 0 (dk_at ktX7_toldAfterCut_0 0 rfl) rfl rfl (b := 1) rfl) ?_
    refine rc_p (p_iconst (v := 0) (dk_at ktX7_toldAfterCut_0 1 rfl) (by decide) (b := 2) rfl) ?_
    refine r_puti fl_X7_46 fw_X7_6 rfl hm.l0 hm.s0 rfl rfl (dk_at ktX7_toldAfterCut_0 2 rfl) (b := 5) rfl ?_
    refine rc_p (p_aload_n 0 (dk_at ktX7_toldAfterCut_0 3 rfl) rfl rfl (b := 6) rfl) ?_
    refine rc_p (p_iload_n 1 (dk_at ktX7_toldAfterCut_0 4 rfl) rfl rfl (b := 7) rfl) ?_
    refine rc_p (p_i2l (v := (Int32.toInt64 v)) (dk_at ktX7_toldAfterCut_0 5 rfl) rfl (b := 8) rfl) ?_
    refine rc_p (p_lconst (v := 1) (dk_at ktX7_toldAfterCut_0 6 rfl) (by decide) (b := 9) rfl) ?_
    refine rc_p (p_ldc2 (v := 255) ql_TwinBootModel_57 (dk_at ktX7_toldAfterCut_0 7 rfl) (b := 12) rfl) ?_
    refine r_iS (As := [.long (Int32.toInt64 v), .long 1, .long 255]) (rest := [.ref m]) (s_X7_in (Int32.toInt64 v) 1 255) cw_X7_73 qs_X7_in (dk_at ktX7_toldAfterCut_0 8 rfl) rfl rfl (Nat.le_of_ble_eq_true rfl) (by decide) (b := 15) rfl (fun v102 I99 J100 q101 => ?_)
    obtain ⟨rfl, rfl, rfl⟩ := q101
    refine r_val (y := bi (inI v 1 255)) (congrArg bi (inJ_I v 1 255)) ?_
    refine r_if_eq (dk_at ktX7_toldAfterCut_0 9 rfl) (b := 42) (by decide) (b2 := 18) rfl (fun c15 => ?_) (fun c15 => ?_)
    · have c15 := bi_f c15
      refine rc_p (p_iconst (v := 1) (dk_at ktX7_toldAfterCut_0 22 rfl) (by decide) (b := 43) rfl) ?_
      refine rc_p (p_goto (b := 47) (dk_at ktX7_toldAfterCut_0 23 rfl) (by decide)) ?_
      refine rc_p (p_iconst (v := 1) (dk_at ktX7_toldAfterCut_0 25 rfl) (by decide) (b := 48) rfl) ?_
      refine r_iV (As' := [.int 1, .int 1]) (rest := []) (s_X7_throwsIf hm (σ := σ) (by rw [up2_off (by omega)]; exact hR) hI up2_s true 1 (by decide)) cw_X7_190 qi_X7_throwsIf qv_X7_throwsIf rfl hm.l0 hm.s0 (dk_at ktX7_toldAfterCut_0 26 rfl) rfl rfl (Nat.le_of_ble_eq_true rfl) (by decide) (b := 51) rfl (fun v106 I103 J104 q105 => ?_)
      obtain ⟨rfl, rfl, hR107, hF108, h6109⟩ := q105
      refine r_val (y := 1) rfl ?_
      refine r_if_eq (dk_at ktX7_toldAfterCut_0 27 rfl) (b := 56) (by decide) (b2 := 54) rfl (fun c51 => ?_) (fun c51 => ?_)
      · first | exact absurd c51 (by decide) | exact absurd (by decide) c51
      · skip
        refine rc_p (p_iconst (v := 0) (dk_at ktX7_toldAfterCut_0 28 rfl) (by decide) (b := 55) rfl) ?_
        refine r_iret (dk_at ktX7_toldAfterCut_0 29 rfl) rfl rfl ⟨_, rfl, ?_⟩
        have hcd : cTac v c 2 = 1 := if_neg (fun q => by rw [show inI v 1 255 = false from c15] at q; exact absurd q.1 (by decide))
        refine ⟨fun hz => ?_, ?_, rfl, ?_, (FF.tr (FF.uf FF.rf (by decide)) (hF108.mo (by decide) (by decide)))⟩
        · exact absurd (hz.symm.trans hcd) (by decide)
        · exact Eq.trans h6109 (by exact hcd.symm)
        · exact hR107
    · have c15 := bi_t c15
      refine rc_p (p_iload_n 2 (dk_at ktX7_toldAfterCut_0 10 rfl) rfl rfl (b := 19) rfl) ?_
      refine rc_p (p_i2l (v := (Int32.toInt64 c)) (dk_at ktX7_toldAfterCut_0 11 rfl) rfl (b := 20) rfl) ?_
      refine rc_p (p_lconst (v := 0) (dk_at ktX7_toldAfterCut_0 12 rfl) (by decide) (b := 21) rfl) ?_
      refine rc_p (p_ldc2 (v := 1000) ql_TwinBootModel_404 (dk_at ktX7_toldAfterCut_0 13 rfl) (b := 24) rfl) ?_
      refine r_iS (As := [.long (Int32.toInt64 c), .long 0, .long 1000]) (rest := [.ref m]) (s_X7_in (Int32.toInt64 c) 0 1000) cw_X7_73 qs_X7_in (dk_at ktX7_toldAfterCut_0 14 rfl) rfl rfl (Nat.le_of_ble_eq_true rfl) (by decide) (b := 27) rfl (fun v113 I110 J111 q112 => ?_)
      obtain ⟨rfl, rfl, rfl⟩ := q112
      refine r_val (y := bi (inI c 0 1000)) (congrArg bi (inJ_I c 0 1000)) ?_
      refine r_if_eq (dk_at ktX7_toldAfterCut_0 15 rfl) (b := 42) (by decide) (b2 := 30) rfl (fun c27 => ?_) (fun c27 => ?_)
      · have c27 := bi_f c27
        refine rc_p (p_iconst (v := 1) (dk_at ktX7_toldAfterCut_0 22 rfl) (by decide) (b := 43) rfl) ?_
        refine rc_p (p_goto (b := 47) (dk_at ktX7_toldAfterCut_0 23 rfl) (by decide)) ?_
        refine rc_p (p_iconst (v := 1) (dk_at ktX7_toldAfterCut_0 25 rfl) (by decide) (b := 48) rfl) ?_
        refine r_iV (As' := [.int 1, .int 1]) (rest := []) (s_X7_throwsIf hm (σ := σ) (by rw [up2_off (by omega)]; exact hR) hI up2_s true 1 (by decide)) cw_X7_190 qi_X7_throwsIf qv_X7_throwsIf rfl hm.l0 hm.s0 (dk_at ktX7_toldAfterCut_0 26 rfl) rfl rfl (Nat.le_of_ble_eq_true rfl) (by decide) (b := 51) rfl (fun v117 I114 J115 q116 => ?_)
        obtain ⟨rfl, rfl, hR118, hF119, h6120⟩ := q116
        refine r_val (y := 1) rfl ?_
        refine r_if_eq (dk_at ktX7_toldAfterCut_0 27 rfl) (b := 56) (by decide) (b2 := 54) rfl (fun c51 => ?_) (fun c51 => ?_)
        · first | exact absurd c51 (by decide) | exact absurd (by decide) c51
        · skip
          refine rc_p (p_iconst (v := 0) (dk_at ktX7_toldAfterCut_0 28 rfl) (by decide) (b := 55) rfl) ?_
          refine r_iret (dk_at ktX7_toldAfterCut_0 29 rfl) rfl rfl ⟨_, rfl, ?_⟩
          have hcd : cTac v c 2 = 1 := if_neg (fun q => by rw [show inI c 0 1000 = false from c27] at q; exact absurd q.2.1 (by decide))
          refine ⟨fun hz => ?_, ?_, rfl, ?_, (FF.tr (FF.uf FF.rf (by decide)) (hF119.mo (by decide) (by decide)))⟩
          · exact absurd (hz.symm.trans hcd) (by decide)
          · exact Eq.trans h6120 (by exact hcd.symm)
          · exact hR118
      · have c27 := bi_t c27
        refine rc_p (p_iload_n 3 (dk_at ktX7_toldAfterCut_0 16 rfl) rfl rfl (b := 31) rfl) ?_
        refine rc_p (p_i2l (v := (Int32.toInt64 2)) (dk_at ktX7_toldAfterCut_0 17 rfl) rfl (b := 32) rfl) ?_
        refine rc_p (p_lconst (v := 0) (dk_at ktX7_toldAfterCut_0 18 rfl) (by decide) (b := 33) rfl) ?_
        refine rc_p (p_ldc2 (v := 4) ql_TwinBootModel_383 (dk_at ktX7_toldAfterCut_0 19 rfl) (b := 36) rfl) ?_
        refine r_iS (As := [.long (Int32.toInt64 2), .long 0, .long 4]) (rest := [.ref m]) (s_X7_in (Int32.toInt64 2) 0 4) cw_X7_73 qs_X7_in (dk_at ktX7_toldAfterCut_0 20 rfl) rfl rfl (Nat.le_of_ble_eq_true rfl) (by decide) (b := 39) rfl (fun v124 I121 J122 q123 => ?_)
        obtain ⟨rfl, rfl, rfl⟩ := q123
        refine r_val (y := bi (inI 2 0 4)) (congrArg bi (inJ_I 2 0 4)) ?_
        refine r_val (y := 1) (by decide) ?_
        refine r_if_ne (dk_at ktX7_toldAfterCut_0 21 rfl) (b := 46) (by decide) (b2 := 42) rfl (fun c39 => ?_) (fun c39 => ?_)
        · skip
          refine rc_p (p_iconst (v := 0) (dk_at ktX7_toldAfterCut_0 24 rfl) (by decide) (b := 47) rfl) ?_
          refine rc_p (p_iconst (v := 1) (dk_at ktX7_toldAfterCut_0 25 rfl) (by decide) (b := 48) rfl) ?_
          refine r_iV (As' := [.int 0, .int 1]) (rest := []) (s_X7_throwsIf hm (σ := σ) (by rw [up2_off (by omega)]; exact hR) hI up2_s false 1 (by decide)) cw_X7_190 qi_X7_throwsIf qv_X7_throwsIf rfl hm.l0 hm.s0 (dk_at ktX7_toldAfterCut_0 26 rfl) rfl rfl (Nat.le_of_ble_eq_true rfl) (by decide) (b := 51) rfl (fun v128 I125 J126 q127 => ?_)
          obtain ⟨rfl, rfl, hR129, hF130, h6131⟩ := q127
          refine r_val (y := 0) rfl ?_
          refine r_if_eq (dk_at ktX7_toldAfterCut_0 27 rfl) (b := 56) (by decide) (b2 := 54) rfl (fun c51 => ?_) (fun c51 => ?_)
          · skip
            refine rc_p (p_aload_n 0 (dk_at ktX7_toldAfterCut_0 30 rfl) rfl rfl (b := 57) rfl) ?_
            refine rc_p (p_iload_n 1 (dk_at ktX7_toldAfterCut_0 31 rfl) rfl rfl (b := 58) rfl) ?_
            refine r_iV (As' := [.int v]) (rest := []) (s_X7_errorOf hm (σ := σ) hR129 hI v) cw_X7_340 qi_X7_errorOf qv_X7_errorOf rfl hm.l0 hm.s0 (dk_at ktX7_toldAfterCut_0 32 rfl) rfl rfl (Nat.le_of_ble_eq_true rfl) (by decide) (b := 61) rfl (fun v135 I132 J133 q134 => ?_)
            obtain ⟨ee139, rfl, hR138, hT136, hF137⟩ := q134
            refine rc_p (p_istore (ls' := [(4, .int v135), (0, .ref m), (1, .int v), (2, .int c), (3, .int 2)]) (dk_at ktX7_toldAfterCut_0 33 rfl) (by decide) rfl (b := 63) rfl) ?_
            refine rc_p (p_iload 0 (dk_at ktX7_toldAfterCut_0 34 rfl) rfl (b := 65) rfl) ?_
            refine r_if_eq (dk_at ktX7_toldAfterCut_0 35 rfl) (b := 74) (by decide) (b2 := 68) rfl (fun c65 => ?_) (fun c65 => ?_)
            · skip
              refine rc_p (p_aload_n 1 (dk_at ktX7_toldAfterCut_0 40 rfl) rfl rfl (b := 75) rfl) ?_
              refine rc_p (p_iload_n 2 (dk_at ktX7_toldAfterCut_0 41 rfl) rfl rfl (b := 76) rfl) ?_
              refine rc_p (p_iload_n 3 (dk_at ktX7_toldAfterCut_0 42 rfl) rfl rfl (b := 77) rfl) ?_
              refine rc_p (p_iconst (v := (-1)) (dk_at ktX7_toldAfterCut_0 43 rfl) (by decide) (b := 78) rfl) ?_
              refine rc_p (p_iconst (v := 0) (dk_at ktX7_toldAfterCut_0 44 rfl) (by decide) (b := 79) rfl) ?_
              refine rc_p (p_iload_n 4 (dk_at ktX7_toldAfterCut_0 45 rfl) rfl rfl (b := 80) rfl) ?_
              refine r_iV (As' := [.int v, .int c, .int (-1), .int 0, .int 2]) (rest := []) (s_X7_afterT hm (σ := σ) (show RelW (I132 (m + 1)) σ from hR138) hI v false c (-1) (in_i (b := 1000) c27) m1_i 2 (by omega)) cw_X7_406 qi_X7_after qv_X7_after rfl hm.l0 hm.s0 (dk_at ktX7_toldAfterCut_0 46 rfl) rfl rfl (Nat.le_of_ble_eq_true rfl) (by decide) (b := 83) rfl (fun v143 I140 J141 q142 => ?_)
              obtain ⟨ef144, rfl, hR145, h27146, hF147⟩ := q142
              refine rc_p (p_istore (ls' := [(5, .int v143), (4, .int v135), (0, .ref m), (1, .int v), (2, .int c), (3, .int 2)]) (dk_at ktX7_toldAfterCut_0 47 rfl) (by decide) rfl (b := 85) rfl) ?_
              refine rc_p (p_aload_n 2 (dk_at ktX7_toldAfterCut_0 48 rfl) rfl rfl (b := 86) rfl) ?_
              refine r_geti fl_X7_398 rfl hm.l0 hm.s0 (dk_at ktX7_toldAfterCut_0 49 rfl) (v := (bi (decide ((fUpd v false (upd σ 6 c)).1 = -4)))) h27146 (b := 89) rfl ?_
              refine r_if_eq (dk_at ktX7_toldAfterCut_0 50 rfl) (b := 97) (by decide) (b2 := 92) rfl (fun c89 => ?_) (fun c89 => ?_)
              · have c89 := bi_f c89
                refine rc_p (p_bipush (v := (-102)) (dk_at ktX7_toldAfterCut_0 53 rfl) (by decide) (b := 99) rfl) ?_
                refine r_iret (dk_at ktX7_toldAfterCut_0 54 rfl) rfl rfl ⟨_, rfl, ?_⟩
                have hcd : cTac v c 2 = 0 := if_pos ⟨c15, c27, by decide⟩
                refine ⟨fun _ => ?_, Eq.trans (((hF147.2 6 (by decide))).trans (((hF137.2 6 (by decide))).trans h6131)) (by exact hcd.symm), rfl, hR145, (FF.tr (FF.tr (FF.tr (FF.uf FF.rf (by decide)) (hF130.mo (by decide) (by decide))) (hF137.mo (by decide) (by decide))) (hF147.mo (by decide) (by decide)))⟩
                have he0 := ee139.trans c65
                unfold a_tac; rw [if_pos he0, if_neg (by simpa using c89)]
              · have c89 := bi_t c89
                refine rc_p (p_iload 0 (dk_at ktX7_toldAfterCut_0 51 rfl) rfl (b := 94) rfl) ?_
                refine rc_p (p_goto (b := 99) (dk_at ktX7_toldAfterCut_0 52 rfl) (by decide)) ?_
                refine r_iret (dk_at ktX7_toldAfterCut_0 54 rfl) rfl rfl ⟨_, rfl, ?_⟩
                have hcd : cTac v c 2 = 0 := if_pos ⟨c15, c27, by decide⟩
                refine ⟨fun _ => ?_, Eq.trans (((hF147.2 6 (by decide))).trans (((hF137.2 6 (by decide))).trans h6131)) (by exact hcd.symm), rfl, hR145, (FF.tr (FF.tr (FF.tr (FF.uf FF.rf (by decide)) (hF130.mo (by decide) (by decide))) (hF137.mo (by decide) (by decide))) (hF147.mo (by decide) (by decide)))⟩
                have he0 := ee139.trans c65
                unfold a_tac; rw [if_pos he0, if_pos (by simpa using c89)]; exact ef144
            · skip
              refine rc_p (p_iload 0 (dk_at ktX7_toldAfterCut_0 36 rfl) rfl (b := 70) rfl) ?_
              refine rc_p (p_bipush (v := 100) (dk_at ktX7_toldAfterCut_0 37 rfl) (by decide) (b := 72) rfl) ?_
              refine rc_p (p_isub (v := (v135 - 100)) (dk_at ktX7_toldAfterCut_0 38 rfl) rfl (b := 73) rfl) ?_
              refine r_iret (dk_at ktX7_toldAfterCut_0 39 rfl) rfl rfl ⟨_, rfl, ?_⟩
              have hcd : cTac v c 2 = 0 := if_pos ⟨c15, c27, by decide⟩
              refine ⟨fun _ => ?_, Eq.trans (((hF137.2 6 (by decide))).trans h6131) (by exact hcd.symm), rfl, hR138, (FF.tr (FF.tr (FF.uf FF.rf (by decide)) (hF130.mo (by decide) (by decide))) (hF137.mo (by decide) (by decide)))⟩
              unfold a_tac; rw [if_neg (fun q => c65 (ee139.symm.trans q)), ee139]
          · first | exact absurd c51 (by decide) | exact absurd (by decide) c51
        · first | exact absurd c39 (by decide) | exact absurd (by decide) c39
  · refine Sp.of (by decide) (ls := [(0, .ref m), (1, .int v), (2, .int c), (3, .int 3)]) (fun _ => rfl) (fun _ => Nat.le_of_ble_eq_true rfl) ?_
    refine rc_p (p_aload_n 0 (dk_at ktX7_toldAfterCut_0 0 rfl) rfl rfl (b := 1) rfl) ?_
    refine rc_p (p_iconst (v := 0) (dk_at ktX7_toldAfterCut_0 1 rfl) (by decide) (b := 2) rfl) ?_
    refine r_puti fl_X7_46 fw_X7_6 rfl hm.l0 hm.s0 rfl rfl (dk_at ktX7_toldAfterCut_0 2 rfl) (b := 5) rfl ?_
    refine rc_p (p_aload_n 0 (dk_at ktX7_toldAfterCut_0 3 rfl) rfl rfl (b := 6) rfl) ?_
    refine rc_p (p_iload_n 1 (dk_at ktX7_toldAfterCut_0 4 rfl) rfl rfl (b := 7) rfl) ?_
    refine rc_p (p_i2l (v := (Int32.toInt64 v)) (dk_at ktX7_toldAfterCut_0 5 rfl) rfl (b := 8) rfl) ?_
    refine rc_p (p_lconst (v := 1) (dk_at ktX7_toldAfterCut_0 6 rfl) (by decide) (b := 9) rfl) ?_
    refine rc_p (p_ldc2 (v := 255) ql_TwinBootModel_57 (dk_at ktX7_toldAfterCut_0 7 rfl) (b := 12) rfl) ?_
    refine r_iS (As := [.long (Int32.toInt64 v), .long 1, .long 255]) (rest := [.ref m]) (s_X7_in (Int32.toInt64 v) 1 255) cw_X7_73 qs_X7_in (dk_at ktX7_toldAfterCut_0 8 rfl) rfl rfl (Nat.le_of_ble_eq_true rfl) (by decide) (b := 15) rfl (fun v151 I148 J149 q150 => ?_)
    obtain ⟨rfl, rfl, rfl⟩ := q150
    refine r_val (y := bi (inI v 1 255)) (congrArg bi (inJ_I v 1 255)) ?_
    refine r_if_eq (dk_at ktX7_toldAfterCut_0 9 rfl) (b := 42) (by decide) (b2 := 18) rfl (fun c15 => ?_) (fun c15 => ?_)
    · have c15 := bi_f c15
      refine rc_p (p_iconst (v := 1) (dk_at ktX7_toldAfterCut_0 22 rfl) (by decide) (b := 43) rfl) ?_
      refine rc_p (p_goto (b := 47) (dk_at ktX7_toldAfterCut_0 23 rfl) (by decide)) ?_
      refine rc_p (p_iconst (v := 1) (dk_at ktX7_toldAfterCut_0 25 rfl) (by decide) (b := 48) rfl) ?_
      refine r_iV (As' := [.int 1, .int 1]) (rest := []) (s_X7_throwsIf hm (σ := σ) (by rw [up2_off (by omega)]; exact hR) hI up2_s true 1 (by decide)) cw_X7_190 qi_X7_throwsIf qv_X7_throwsIf rfl hm.l0 hm.s0 (dk_at ktX7_toldAfterCut_0 26 rfl) rfl rfl (Nat.le_of_ble_eq_true rfl) (by decide) (b := 51) rfl (fun v155 I152 J153 q154 => ?_)
      obtain ⟨rfl, rfl, hR156, hF157, h6158⟩ := q154
      refine r_val (y := 1) rfl ?_
      refine r_if_eq (dk_at ktX7_toldAfterCut_0 27 rfl) (b := 56) (by decide) (b2 := 54) rfl (fun c51 => ?_) (fun c51 => ?_)
      · first | exact absurd c51 (by decide) | exact absurd (by decide) c51
      · skip
        refine rc_p (p_iconst (v := 0) (dk_at ktX7_toldAfterCut_0 28 rfl) (by decide) (b := 55) rfl) ?_
        refine r_iret (dk_at ktX7_toldAfterCut_0 29 rfl) rfl rfl ⟨_, rfl, ?_⟩
        have hcd : cTac v c 3 = 1 := if_neg (fun q => by rw [show inI v 1 255 = false from c15] at q; exact absurd q.1 (by decide))
        refine ⟨fun hz => ?_, ?_, rfl, ?_, (FF.tr (FF.uf FF.rf (by decide)) (hF157.mo (by decide) (by decide)))⟩
        · exact absurd (hz.symm.trans hcd) (by decide)
        · exact Eq.trans h6158 (by exact hcd.symm)
        · exact hR156
    · have c15 := bi_t c15
      refine rc_p (p_iload_n 2 (dk_at ktX7_toldAfterCut_0 10 rfl) rfl rfl (b := 19) rfl) ?_
      refine rc_p (p_i2l (v := (Int32.toInt64 c)) (dk_at ktX7_toldAfterCut_0 11 rfl) rfl (b := 20) rfl) ?_
      refine rc_p (p_lconst (v := 0) (dk_at ktX7_toldAfterCut_0 12 rfl) (by decide) (b := 21) rfl) ?_
      refine rc_p (p_ldc2 (v := 1000) ql_TwinBootModel_404 (dk_at ktX7_toldAfterCut_0 13 rfl) (b := 24) rfl) ?_
      refine r_iS (As := [.long (Int32.toInt64 c), .long 0, .long 1000]) (rest := [.ref m]) (s_X7_in (Int32.toInt64 c) 0 1000) cw_X7_73 qs_X7_in (dk_at ktX7_toldAfterCut_0 14 rfl) rfl rfl (Nat.le_of_ble_eq_true rfl) (by decide) (b := 27) rfl (fun v162 I159 J160 q161 => ?_)
      obtain ⟨rfl, rfl, rfl⟩ := q161
      refine r_val (y := bi (inI c 0 1000)) (congrArg bi (inJ_I c 0 1000)) ?_
      refine r_if_eq (dk_at ktX7_toldAfterCut_0 15 rfl) (b := 42) (by decide) (b2 := 30) rfl (fun c27 => ?_) (fun c27 => ?_)
      · have c27 := bi_f c27
        refine rc_p (p_iconst (v := 1) (dk_at ktX7_toldAfterCut_0 22 rfl) (by decide) (b := 43) rfl) ?_
        refine rc_p (p_goto (b := 47) (dk_at ktX7_toldAfterCut_0 23 rfl) (by decide)) ?_
        refine rc_p (p_iconst (v := 1) (dk_at ktX7_toldAfterCut_0 25 rfl) (by decide) (b := 48) rfl) ?_
        refine r_iV (As' := [.int 1, .int 1]) (rest := []) (s_X7_throwsIf hm (σ := σ) (by rw [up2_off (by omega)]; exact hR) hI up2_s true 1 (by decide)) cw_X7_190 qi_X7_throwsIf qv_X7_throwsIf rfl hm.l0 hm.s0 (dk_at ktX7_toldAfterCut_0 26 rfl) rfl rfl (Nat.le_of_ble_eq_true rfl) (by decide) (b := 51) rfl (fun v166 I163 J164 q165 => ?_)
        obtain ⟨rfl, rfl, hR167, hF168, h6169⟩ := q165
        refine r_val (y := 1) rfl ?_
        refine r_if_eq (dk_at ktX7_toldAfterCut_0 27 rfl) (b := 56) (by decide) (b2 := 54) rfl (fun c51 => ?_) (fun c51 => ?_)
        · first | exact absurd c51 (by decide) | exact absurd (by decide) c51
        · skip
          refine rc_p (p_iconst (v := 0) (dk_at ktX7_toldAfterCut_0 28 rfl) (by decide) (b := 55) rfl) ?_
          refine r_iret (dk_at ktX7_toldAfterCut_0 29 rfl) rfl rfl ⟨_, rfl, ?_⟩
          have hcd : cTac v c 3 = 1 := if_neg (fun q => by rw [show inI c 0 1000 = false from c27] at q; exact absurd q.2.1 (by decide))
          refine ⟨fun hz => ?_, ?_, rfl, ?_, (FF.tr (FF.uf FF.rf (by decide)) (hF168.mo (by decide) (by decide)))⟩
          · exact absurd (hz.symm.trans hcd) (by decide)
          · exact Eq.trans h6169 (by exact hcd.symm)
          · exact hR167
      · have c27 := bi_t c27
        refine rc_p (p_iload_n 3 (dk_at ktX7_toldAfterCut_0 16 rfl) rfl rfl (b := 31) rfl) ?_
        refine rc_p (p_i2l (v := (Int32.toInt64 3)) (dk_at ktX7_toldAfterCut_0 17 rfl) rfl (b := 32) rfl) ?_
        refine rc_p (p_lconst (v := 0) (dk_at ktX7_toldAfterCut_0 18 rfl) (by decide) (b := 33) rfl) ?_
        refine rc_p (p_ldc2 (v := 4) ql_TwinBootModel_383 (dk_at ktX7_toldAfterCut_0 19 rfl) (b := 36) rfl) ?_
        refine r_iS (As := [.long (Int32.toInt64 3), .long 0, .long 4]) (rest := [.ref m]) (s_X7_in (Int32.toInt64 3) 0 4) cw_X7_73 qs_X7_in (dk_at ktX7_toldAfterCut_0 20 rfl) rfl rfl (Nat.le_of_ble_eq_true rfl) (by decide) (b := 39) rfl (fun v173 I170 J171 q172 => ?_)
        obtain ⟨rfl, rfl, rfl⟩ := q172
        refine r_val (y := bi (inI 3 0 4)) (congrArg bi (inJ_I 3 0 4)) ?_
        refine r_val (y := 1) (by decide) ?_
        refine r_if_ne (dk_at ktX7_toldAfterCut_0 21 rfl) (b := 46) (by decide) (b2 := 42) rfl (fun c39 => ?_) (fun c39 => ?_)
        · skip
          refine rc_p (p_iconst (v := 0) (dk_at ktX7_toldAfterCut_0 24 rfl) (by decide) (b := 47) rfl) ?_
          refine rc_p (p_iconst (v := 1) (dk_at ktX7_toldAfterCut_0 25 rfl) (by decide) (b := 48) rfl) ?_
          refine r_iV (As' := [.int 0, .int 1]) (rest := []) (s_X7_throwsIf hm (σ := σ) (by rw [up2_off (by omega)]; exact hR) hI up2_s false 1 (by decide)) cw_X7_190 qi_X7_throwsIf qv_X7_throwsIf rfl hm.l0 hm.s0 (dk_at ktX7_toldAfterCut_0 26 rfl) rfl rfl (Nat.le_of_ble_eq_true rfl) (by decide) (b := 51) rfl (fun v177 I174 J175 q176 => ?_)
          obtain ⟨rfl, rfl, hR178, hF179, h6180⟩ := q176
          refine r_val (y := 0) rfl ?_
          refine r_if_eq (dk_at ktX7_toldAfterCut_0 27 rfl) (b := 56) (by decide) (b2 := 54) rfl (fun c51 => ?_) (fun c51 => ?_)
          · skip
            refine rc_p (p_aload_n 0 (dk_at ktX7_toldAfterCut_0 30 rfl) rfl rfl (b := 57) rfl) ?_
            refine rc_p (p_iload_n 1 (dk_at ktX7_toldAfterCut_0 31 rfl) rfl rfl (b := 58) rfl) ?_
            refine r_iV (As' := [.int v]) (rest := []) (s_X7_errorOf hm (σ := σ) hR178 hI v) cw_X7_340 qi_X7_errorOf qv_X7_errorOf rfl hm.l0 hm.s0 (dk_at ktX7_toldAfterCut_0 32 rfl) rfl rfl (Nat.le_of_ble_eq_true rfl) (by decide) (b := 61) rfl (fun v184 I181 J182 q183 => ?_)
            obtain ⟨ee188, rfl, hR187, hT185, hF186⟩ := q183
            refine rc_p (p_istore (ls' := [(4, .int v184), (0, .ref m), (1, .int v), (2, .int c), (3, .int 3)]) (dk_at ktX7_toldAfterCut_0 33 rfl) (by decide) rfl (b := 63) rfl) ?_
            refine rc_p (p_iload 0 (dk_at ktX7_toldAfterCut_0 34 rfl) rfl (b := 65) rfl) ?_
            refine r_if_eq (dk_at ktX7_toldAfterCut_0 35 rfl) (b := 74) (by decide) (b2 := 68) rfl (fun c65 => ?_) (fun c65 => ?_)
            · skip
              refine rc_p (p_aload_n 1 (dk_at ktX7_toldAfterCut_0 40 rfl) rfl rfl (b := 75) rfl) ?_
              refine rc_p (p_iload_n 2 (dk_at ktX7_toldAfterCut_0 41 rfl) rfl rfl (b := 76) rfl) ?_
              refine rc_p (p_iload_n 3 (dk_at ktX7_toldAfterCut_0 42 rfl) rfl rfl (b := 77) rfl) ?_
              refine rc_p (p_iconst (v := (-1)) (dk_at ktX7_toldAfterCut_0 43 rfl) (by decide) (b := 78) rfl) ?_
              refine rc_p (p_iconst (v := 0) (dk_at ktX7_toldAfterCut_0 44 rfl) (by decide) (b := 79) rfl) ?_
              refine rc_p (p_iload_n 4 (dk_at ktX7_toldAfterCut_0 45 rfl) rfl rfl (b := 80) rfl) ?_
              refine r_iV (As' := [.int v, .int c, .int (-1), .int 0, .int 3]) (rest := []) (s_X7_afterT hm (σ := σ) (show RelW (I181 (m + 1)) σ from hR187) hI v false c (-1) (in_i (b := 1000) c27) m1_i 3 (by omega)) cw_X7_406 qi_X7_after qv_X7_after rfl hm.l0 hm.s0 (dk_at ktX7_toldAfterCut_0 46 rfl) rfl rfl (Nat.le_of_ble_eq_true rfl) (by decide) (b := 83) rfl (fun v192 I189 J190 q191 => ?_)
              obtain ⟨ef193, rfl, hR194, h27195, hF196⟩ := q191
              refine rc_p (p_istore (ls' := [(5, .int v192), (4, .int v184), (0, .ref m), (1, .int v), (2, .int c), (3, .int 3)]) (dk_at ktX7_toldAfterCut_0 47 rfl) (by decide) rfl (b := 85) rfl) ?_
              refine rc_p (p_aload_n 2 (dk_at ktX7_toldAfterCut_0 48 rfl) rfl rfl (b := 86) rfl) ?_
              refine r_geti fl_X7_398 rfl hm.l0 hm.s0 (dk_at ktX7_toldAfterCut_0 49 rfl) (v := (bi (decide ((fUpd v false (upd σ 6 c)).1 = -4)))) h27195 (b := 89) rfl ?_
              refine r_if_eq (dk_at ktX7_toldAfterCut_0 50 rfl) (b := 97) (by decide) (b2 := 92) rfl (fun c89 => ?_) (fun c89 => ?_)
              · have c89 := bi_f c89
                refine rc_p (p_bipush (v := (-102)) (dk_at ktX7_toldAfterCut_0 53 rfl) (by decide) (b := 99) rfl) ?_
                refine r_iret (dk_at ktX7_toldAfterCut_0 54 rfl) rfl rfl ⟨_, rfl, ?_⟩
                have hcd : cTac v c 3 = 0 := if_pos ⟨c15, c27, by decide⟩
                refine ⟨fun _ => ?_, Eq.trans (((hF196.2 6 (by decide))).trans (((hF186.2 6 (by decide))).trans h6180)) (by exact hcd.symm), rfl, hR194, (FF.tr (FF.tr (FF.tr (FF.uf FF.rf (by decide)) (hF179.mo (by decide) (by decide))) (hF186.mo (by decide) (by decide))) (hF196.mo (by decide) (by decide)))⟩
                have he0 := ee188.trans c65
                unfold a_tac; rw [if_pos he0, if_neg (by simpa using c89)]
              · have c89 := bi_t c89
                refine rc_p (p_iload 0 (dk_at ktX7_toldAfterCut_0 51 rfl) rfl (b := 94) rfl) ?_
                refine rc_p (p_goto (b := 99) (dk_at ktX7_toldAfterCut_0 52 rfl) (by decide)) ?_
                refine r_iret (dk_at ktX7_toldAfterCut_0 54 rfl) rfl rfl ⟨_, rfl, ?_⟩
                have hcd : cTac v c 3 = 0 := if_pos ⟨c15, c27, by decide⟩
                refine ⟨fun _ => ?_, Eq.trans (((hF196.2 6 (by decide))).trans (((hF186.2 6 (by decide))).trans h6180)) (by exact hcd.symm), rfl, hR194, (FF.tr (FF.tr (FF.tr (FF.uf FF.rf (by decide)) (hF179.mo (by decide) (by decide))) (hF186.mo (by decide) (by decide))) (hF196.mo (by decide) (by decide)))⟩
                have he0 := ee188.trans c65
                unfold a_tac; rw [if_pos he0, if_pos (by simpa using c89)]; exact ef193
            · skip
              refine rc_p (p_iload 0 (dk_at ktX7_toldAfterCut_0 36 rfl) rfl (b := 70) rfl) ?_
              refine rc_p (p_bipush (v := 100) (dk_at ktX7_toldAfterCut_0 37 rfl) (by decide) (b := 72) rfl) ?_
              refine rc_p (p_isub (v := (v184 - 100)) (dk_at ktX7_toldAfterCut_0 38 rfl) rfl (b := 73) rfl) ?_
              refine r_iret (dk_at ktX7_toldAfterCut_0 39 rfl) rfl rfl ⟨_, rfl, ?_⟩
              have hcd : cTac v c 3 = 0 := if_pos ⟨c15, c27, by decide⟩
              refine ⟨fun _ => ?_, Eq.trans (((hF186.2 6 (by decide))).trans h6180) (by exact hcd.symm), rfl, hR187, (FF.tr (FF.tr (FF.uf FF.rf (by decide)) (hF179.mo (by decide) (by decide))) (hF186.mo (by decide) (by decide)))⟩
              unfold a_tac; rw [if_neg (fun q => c65 (ee188.symm.trans q)), ee188]
          · first | exact absurd c51 (by decide) | exact absurd (by decide) c51
        · first | exact absurd c39 (by decide) | exact absurd (by decide) c39
  · refine Sp.of (by decide) (ls := [(0, .ref m), (1, .int v), (2, .int c), (3, .int 4)]) (fun _ => rfl) (fun _ => Nat.le_of_ble_eq_true rfl) ?_
    refine rc_p (p_aload_n 0 (dk_at ktX7_toldAfterCut_0 0 rfl) rfl rfl (b := 1) rfl) ?_
    refine rc_p (p_iconst (v := 0) (dk_at ktX7_toldAfterCut_0 1 rfl) (by decide) (b := 2) rfl) ?_
    refine r_puti fl_X7_46 fw_X7_6 rfl hm.l0 hm.s0 rfl rfl (dk_at ktX7_toldAfterCut_0 2 rfl) (b := 5) rfl ?_
    refine rc_p (p_aload_n 0 (dk_at ktX7_toldAfterCut_0 3 rfl) rfl rfl (b := 6) rfl) ?_
    refine rc_p (p_iload_n 1 (dk_at ktX7_toldAfterCut_0 4 rfl) rfl rfl (b := 7) rfl) ?_
    refine rc_p (p_i2l (v := (Int32.toInt64 v)) (dk_at ktX7_toldAfterCut_0 5 rfl) rfl (b := 8) rfl) ?_
    refine rc_p (p_lconst (v := 1) (dk_at ktX7_toldAfterCut_0 6 rfl) (by decide) (b := 9) rfl) ?_
    refine rc_p (p_ldc2 (v := 255) ql_TwinBootModel_57 (dk_at ktX7_toldAfterCut_0 7 rfl) (b := 12) rfl) ?_
    refine r_iS (As := [.long (Int32.toInt64 v), .long 1, .long 255]) (rest := [.ref m]) (s_X7_in (Int32.toInt64 v) 1 255) cw_X7_73 qs_X7_in (dk_at ktX7_toldAfterCut_0 8 rfl) rfl rfl (Nat.le_of_ble_eq_true rfl) (by decide) (b := 15) rfl (fun v200 I197 J198 q199 => ?_)
    obtain ⟨rfl, rfl, rfl⟩ := q199
    refine r_val (y := bi (inI v 1 255)) (congrArg bi (inJ_I v 1 255)) ?_
    refine r_if_eq (dk_at ktX7_toldAfterCut_0 9 rfl) (b := 42) (by decide) (b2 := 18) rfl (fun c15 => ?_) (fun c15 => ?_)
    · have c15 := bi_f c15
      refine rc_p (p_iconst (v := 1) (dk_at ktX7_toldAfterCut_0 22 rfl) (by decide) (b := 43) rfl) ?_
      refine rc_p (p_goto (b := 47) (dk_at ktX7_toldAfterCut_0 23 rfl) (by decide)) ?_
      refine rc_p (p_iconst (v := 1) (dk_at ktX7_toldAfterCut_0 25 rfl) (by decide) (b := 48) rfl) ?_
      refine r_iV (As' := [.int 1, .int 1]) (rest := []) (s_X7_throwsIf hm (σ := σ) (by rw [up2_off (by omega)]; exact hR) hI up2_s true 1 (by decide)) cw_X7_190 qi_X7_throwsIf qv_X7_throwsIf rfl hm.l0 hm.s0 (dk_at ktX7_toldAfterCut_0 26 rfl) rfl rfl (Nat.le_of_ble_eq_true rfl) (by decide) (b := 51) rfl (fun v204 I201 J202 q203 => ?_)
      obtain ⟨rfl, rfl, hR205, hF206, h6207⟩ := q203
      refine r_val (y := 1) rfl ?_
      refine r_if_eq (dk_at ktX7_toldAfterCut_0 27 rfl) (b := 56) (by decide) (b2 := 54) rfl (fun c51 => ?_) (fun c51 => ?_)
      · first | exact absurd c51 (by decide) | exact absurd (by decide) c51
      · skip
        refine rc_p (p_iconst (v := 0) (dk_at ktX7_toldAfterCut_0 28 rfl) (by decide) (b := 55) rfl) ?_
        refine r_iret (dk_at ktX7_toldAfterCut_0 29 rfl) rfl rfl ⟨_, rfl, ?_⟩
        have hcd : cTac v c 4 = 1 := if_neg (fun q => by rw [show inI v 1 255 = false from c15] at q; exact absurd q.1 (by decide))
        refine ⟨fun hz => ?_, ?_, rfl, ?_, (FF.tr (FF.uf FF.rf (by decide)) (hF206.mo (by decide) (by decide)))⟩
        · exact absurd (hz.symm.trans hcd) (by decide)
        · exact Eq.trans h6207 (by exact hcd.symm)
        · exact hR205
    · have c15 := bi_t c15
      refine rc_p (p_iload_n 2 (dk_at ktX7_toldAfterCut_0 10 rfl) rfl rfl (b := 19) rfl) ?_
      refine rc_p (p_i2l (v := (Int32.toInt64 c)) (dk_at ktX7_toldAfterCut_0 11 rfl) rfl (b := 20) rfl) ?_
      refine rc_p (p_lconst (v := 0) (dk_at ktX7_toldAfterCut_0 12 rfl) (by decide) (b := 21) rfl) ?_
      refine rc_p (p_ldc2 (v := 1000) ql_TwinBootModel_404 (dk_at ktX7_toldAfterCut_0 13 rfl) (b := 24) rfl) ?_
      refine r_iS (As := [.long (Int32.toInt64 c), .long 0, .long 1000]) (rest := [.ref m]) (s_X7_in (Int32.toInt64 c) 0 1000) cw_X7_73 qs_X7_in (dk_at ktX7_toldAfterCut_0 14 rfl) rfl rfl (Nat.le_of_ble_eq_true rfl) (by decide) (b := 27) rfl (fun v211 I208 J209 q210 => ?_)
      obtain ⟨rfl, rfl, rfl⟩ := q210
      refine r_val (y := bi (inI c 0 1000)) (congrArg bi (inJ_I c 0 1000)) ?_
      refine r_if_eq (dk_at ktX7_toldAfterCut_0 15 rfl) (b := 42) (by decide) (b2 := 30) rfl (fun c27 => ?_) (fun c27 => ?_)
      · have c27 := bi_f c27
        refine rc_p (p_iconst (v := 1) (dk_at ktX7_toldAfterCut_0 22 rfl) (by decide) (b := 43) rfl) ?_
        refine rc_p (p_goto (b := 47) (dk_at ktX7_toldAfterCut_0 23 rfl) (by decide)) ?_
        refine rc_p (p_iconst (v := 1) (dk_at ktX7_toldAfterCut_0 25 rfl) (by decide) (b := 48) rfl) ?_
        refine r_iV (As' := [.int 1, .int 1]) (rest := []) (s_X7_throwsIf hm (σ := σ) (by rw [up2_off (by omega)]; exact hR) hI up2_s true 1 (by decide)) cw_X7_190 qi_X7_throwsIf qv_X7_throwsIf rfl hm.l0 hm.s0 (dk_at ktX7_toldAfterCut_0 26 rfl) rfl rfl (Nat.le_of_ble_eq_true rfl) (by decide) (b := 51) rfl (fun v215 I212 J213 q214 => ?_)
        obtain ⟨rfl, rfl, hR216, hF217, h6218⟩ := q214
        refine r_val (y := 1) rfl ?_
        refine r_if_eq (dk_at ktX7_toldAfterCut_0 27 rfl) (b := 56) (by decide) (b2 := 54) rfl (fun c51 => ?_) (fun c51 => ?_)
        · first | exact absurd c51 (by decide) | exact absurd (by decide) c51
        · skip
          refine rc_p (p_iconst (v := 0) (dk_at ktX7_toldAfterCut_0 28 rfl) (by decide) (b := 55) rfl) ?_
          refine r_iret (dk_at ktX7_toldAfterCut_0 29 rfl) rfl rfl ⟨_, rfl, ?_⟩
          have hcd : cTac v c 4 = 1 := if_neg (fun q => by rw [show inI c 0 1000 = false from c27] at q; exact absurd q.2.1 (by decide))
          refine ⟨fun hz => ?_, ?_, rfl, ?_, (FF.tr (FF.uf FF.rf (by decide)) (hF217.mo (by decide) (by decide)))⟩
          · exact absurd (hz.symm.trans hcd) (by decide)
          · exact Eq.trans h6218 (by exact hcd.symm)
          · exact hR216
      · have c27 := bi_t c27
        refine rc_p (p_iload_n 3 (dk_at ktX7_toldAfterCut_0 16 rfl) rfl rfl (b := 31) rfl) ?_
        refine rc_p (p_i2l (v := (Int32.toInt64 4)) (dk_at ktX7_toldAfterCut_0 17 rfl) rfl (b := 32) rfl) ?_
        refine rc_p (p_lconst (v := 0) (dk_at ktX7_toldAfterCut_0 18 rfl) (by decide) (b := 33) rfl) ?_
        refine rc_p (p_ldc2 (v := 4) ql_TwinBootModel_383 (dk_at ktX7_toldAfterCut_0 19 rfl) (b := 36) rfl) ?_
        refine r_iS (As := [.long (Int32.toInt64 4), .long 0, .long 4]) (rest := [.ref m]) (s_X7_in (Int32.toInt64 4) 0 4) cw_X7_73 qs_X7_in (dk_at ktX7_toldAfterCut_0 20 rfl) rfl rfl (Nat.le_of_ble_eq_true rfl) (by decide) (b := 39) rfl (fun v222 I219 J220 q221 => ?_)
        obtain ⟨rfl, rfl, rfl⟩ := q221
        refine r_val (y := bi (inI 4 0 4)) (congrArg bi (inJ_I 4 0 4)) ?_
        refine r_val (y := 1) (by decide) ?_
        refine r_if_ne (dk_at ktX7_toldAfterCut_0 21 rfl) (b := 46) (by decide) (b2 := 42) rfl (fun c39 => ?_) (fun c39 => ?_)
        · skip
          refine rc_p (p_iconst (v := 0) (dk_at ktX7_toldAfterCut_0 24 rfl) (by decide) (b := 47) rfl) ?_
          refine rc_p (p_iconst (v := 1) (dk_at ktX7_toldAfterCut_0 25 rfl) (by decide) (b := 48) rfl) ?_
          refine r_iV (As' := [.int 0, .int 1]) (rest := []) (s_X7_throwsIf hm (σ := σ) (by rw [up2_off (by omega)]; exact hR) hI up2_s false 1 (by decide)) cw_X7_190 qi_X7_throwsIf qv_X7_throwsIf rfl hm.l0 hm.s0 (dk_at ktX7_toldAfterCut_0 26 rfl) rfl rfl (Nat.le_of_ble_eq_true rfl) (by decide) (b := 51) rfl (fun v226 I223 J224 q225 => ?_)
          obtain ⟨rfl, rfl, hR227, hF228, h6229⟩ := q225
          refine r_val (y := 0) rfl ?_
          refine r_if_eq (dk_at ktX7_toldAfterCut_0 27 rfl) (b := 56) (by decide) (b2 := 54) rfl (fun c51 => ?_) (fun c51 => ?_)
          · skip
            refine rc_p (p_aload_n 0 (dk_at ktX7_toldAfterCut_0 30 rfl) rfl rfl (b := 57) rfl) ?_
            refine rc_p (p_iload_n 1 (dk_at ktX7_toldAfterCut_0 31 rfl) rfl rfl (b := 58) rfl) ?_
            refine r_iV (As' := [.int v]) (rest := []) (s_X7_errorOf hm (σ := σ) hR227 hI v) cw_X7_340 qi_X7_errorOf qv_X7_errorOf rfl hm.l0 hm.s0 (dk_at ktX7_toldAfterCut_0 32 rfl) rfl rfl (Nat.le_of_ble_eq_true rfl) (by decide) (b := 61) rfl (fun v233 I230 J231 q232 => ?_)
            obtain ⟨ee237, rfl, hR236, hT234, hF235⟩ := q232
            refine rc_p (p_istore (ls' := [(4, .int v233), (0, .ref m), (1, .int v), (2, .int c), (3, .int 4)]) (dk_at ktX7_toldAfterCut_0 33 rfl) (by decide) rfl (b := 63) rfl) ?_
            refine rc_p (p_iload 0 (dk_at ktX7_toldAfterCut_0 34 rfl) rfl (b := 65) rfl) ?_
            refine r_if_eq (dk_at ktX7_toldAfterCut_0 35 rfl) (b := 74) (by decide) (b2 := 68) rfl (fun c65 => ?_) (fun c65 => ?_)
            · skip
              refine rc_p (p_aload_n 1 (dk_at ktX7_toldAfterCut_0 40 rfl) rfl rfl (b := 75) rfl) ?_
              refine rc_p (p_iload_n 2 (dk_at ktX7_toldAfterCut_0 41 rfl) rfl rfl (b := 76) rfl) ?_
              refine rc_p (p_iload_n 3 (dk_at ktX7_toldAfterCut_0 42 rfl) rfl rfl (b := 77) rfl) ?_
              refine rc_p (p_iconst (v := (-1)) (dk_at ktX7_toldAfterCut_0 43 rfl) (by decide) (b := 78) rfl) ?_
              refine rc_p (p_iconst (v := 0) (dk_at ktX7_toldAfterCut_0 44 rfl) (by decide) (b := 79) rfl) ?_
              refine rc_p (p_iload_n 4 (dk_at ktX7_toldAfterCut_0 45 rfl) rfl rfl (b := 80) rfl) ?_
              refine r_iV (As' := [.int v, .int c, .int (-1), .int 0, .int 4]) (rest := []) (s_X7_afterT hm (σ := σ) (show RelW (I230 (m + 1)) σ from hR236) hI v false c (-1) (in_i (b := 1000) c27) m1_i 4 (by omega)) cw_X7_406 qi_X7_after qv_X7_after rfl hm.l0 hm.s0 (dk_at ktX7_toldAfterCut_0 46 rfl) rfl rfl (Nat.le_of_ble_eq_true rfl) (by decide) (b := 83) rfl (fun v241 I238 J239 q240 => ?_)
              obtain ⟨ef242, rfl, hR243, h27244, hF245⟩ := q240
              refine rc_p (p_istore (ls' := [(5, .int v241), (4, .int v233), (0, .ref m), (1, .int v), (2, .int c), (3, .int 4)]) (dk_at ktX7_toldAfterCut_0 47 rfl) (by decide) rfl (b := 85) rfl) ?_
              refine rc_p (p_aload_n 2 (dk_at ktX7_toldAfterCut_0 48 rfl) rfl rfl (b := 86) rfl) ?_
              refine r_geti fl_X7_398 rfl hm.l0 hm.s0 (dk_at ktX7_toldAfterCut_0 49 rfl) (v := (bi (decide ((fUpd v false (upd σ 6 c)).1 = -4)))) h27244 (b := 89) rfl ?_
              refine r_if_eq (dk_at ktX7_toldAfterCut_0 50 rfl) (b := 97) (by decide) (b2 := 92) rfl (fun c89 => ?_) (fun c89 => ?_)
              · have c89 := bi_f c89
                refine rc_p (p_bipush (v := (-102)) (dk_at ktX7_toldAfterCut_0 53 rfl) (by decide) (b := 99) rfl) ?_
                refine r_iret (dk_at ktX7_toldAfterCut_0 54 rfl) rfl rfl ⟨_, rfl, ?_⟩
                have hcd : cTac v c 4 = 0 := if_pos ⟨c15, c27, by decide⟩
                refine ⟨fun _ => ?_, Eq.trans (((hF245.2 6 (by decide))).trans (((hF235.2 6 (by decide))).trans h6229)) (by exact hcd.symm), rfl, hR243, (FF.tr (FF.tr (FF.tr (FF.uf FF.rf (by decide)) (hF228.mo (by decide) (by decide))) (hF235.mo (by decide) (by decide))) (hF245.mo (by decide) (by decide)))⟩
                have he0 := ee237.trans c65
                unfold a_tac; rw [if_pos he0, if_neg (by simpa using c89)]
              · have c89 := bi_t c89
                refine rc_p (p_iload 0 (dk_at ktX7_toldAfterCut_0 51 rfl) rfl (b := 94) rfl) ?_
                refine rc_p (p_goto (b := 99) (dk_at ktX7_toldAfterCut_0 52 rfl) (by decide)) ?_
                refine r_iret (dk_at ktX7_toldAfterCut_0 54 rfl) rfl rfl ⟨_, rfl, ?_⟩
                have hcd : cTac v c 4 = 0 := if_pos ⟨c15, c27, by decide⟩
                refine ⟨fun _ => ?_, Eq.trans (((hF245.2 6 (by decide))).trans (((hF235.2 6 (by decide))).trans h6229)) (by exact hcd.symm), rfl, hR243, (FF.tr (FF.tr (FF.tr (FF.uf FF.rf (by decide)) (hF228.mo (by decide) (by decide))) (hF235.mo (by decide) (by decide))) (hF245.mo (by decide) (by decide)))⟩
                have he0 := ee237.trans c65
                unfold a_tac; rw [if_pos he0, if_pos (by simpa using c89)]; exact ef242
            · skip
              refine rc_p (p_iload 0 (dk_at ktX7_toldAfterCut_0 36 rfl) rfl (b := 70) rfl) ?_
              refine rc_p (p_bipush (v := 100) (dk_at ktX7_toldAfterCut_0 37 rfl) (by decide) (b := 72) rfl) ?_
              refine rc_p (p_isub (v := (v233 - 100)) (dk_at ktX7_toldAfterCut_0 38 rfl) rfl (b := 73) rfl) ?_
              refine r_iret (dk_at ktX7_toldAfterCut_0 39 rfl) rfl rfl ⟨_, rfl, ?_⟩
              have hcd : cTac v c 4 = 0 := if_pos ⟨c15, c27, by decide⟩
              refine ⟨fun _ => ?_, Eq.trans (((hF235.2 6 (by decide))).trans h6229) (by exact hcd.symm), rfl, hR236, (FF.tr (FF.tr (FF.uf FF.rf (by decide)) (hF228.mo (by decide) (by decide))) (hF235.mo (by decide) (by decide)))⟩
              unfold a_tac; rw [if_neg (fun q => c65 (ee237.symm.trans q)), ee237]
          · first | exact absurd c51 (by decide) | exact absurd (by decide) c51
        · first | exact absurd c39 (by decide) | exact absurd (by decide) c39
  · refine Sp.of (by decide) (ls := [(0, .ref m), (1, .int v), (2, .int c), (3, .int w)]) (fun _ => rfl) (fun _ => Nat.le_of_ble_eq_true rfl) ?_
    refine rc_p (p_aload_n 0 (dk_at ktX7_toldAfterCut_0 0 rfl) rfl rfl (b := 1) rfl) ?_
    refine rc_p (p_iconst (v := 0) (dk_at ktX7_toldAfterCut_0 1 rfl) (by decide) (b := 2) rfl) ?_
    refine r_puti fl_X7_46 fw_X7_6 rfl hm.l0 hm.s0 rfl rfl (dk_at ktX7_toldAfterCut_0 2 rfl) (b := 5) rfl ?_
    refine rc_p (p_aload_n 0 (dk_at ktX7_toldAfterCut_0 3 rfl) rfl rfl (b := 6) rfl) ?_
    refine rc_p (p_iload_n 1 (dk_at ktX7_toldAfterCut_0 4 rfl) rfl rfl (b := 7) rfl) ?_
    refine rc_p (p_i2l (v := (Int32.toInt64 v)) (dk_at ktX7_toldAfterCut_0 5 rfl) rfl (b := 8) rfl) ?_
    refine rc_p (p_lconst (v := 1) (dk_at ktX7_toldAfterCut_0 6 rfl) (by decide) (b := 9) rfl) ?_
    refine rc_p (p_ldc2 (v := 255) ql_TwinBootModel_57 (dk_at ktX7_toldAfterCut_0 7 rfl) (b := 12) rfl) ?_
    refine r_iS (As := [.long (Int32.toInt64 v), .long 1, .long 255]) (rest := [.ref m]) (s_X7_in (Int32.toInt64 v) 1 255) cw_X7_73 qs_X7_in (dk_at ktX7_toldAfterCut_0 8 rfl) rfl rfl (Nat.le_of_ble_eq_true rfl) (by decide) (b := 15) rfl (fun v249 I246 J247 q248 => ?_)
    obtain ⟨rfl, rfl, rfl⟩ := q248
    refine r_val (y := bi (inI v 1 255)) (congrArg bi (inJ_I v 1 255)) ?_
    refine r_if_eq (dk_at ktX7_toldAfterCut_0 9 rfl) (b := 42) (by decide) (b2 := 18) rfl (fun c15 => ?_) (fun c15 => ?_)
    · have c15 := bi_f c15
      refine rc_p (p_iconst (v := 1) (dk_at ktX7_toldAfterCut_0 22 rfl) (by decide) (b := 43) rfl) ?_
      refine rc_p (p_goto (b := 47) (dk_at ktX7_toldAfterCut_0 23 rfl) (by decide)) ?_
      refine rc_p (p_iconst (v := 1) (dk_at ktX7_toldAfterCut_0 25 rfl) (by decide) (b := 48) rfl) ?_
      refine r_iV (As' := [.int 1, .int 1]) (rest := []) (s_X7_throwsIf hm (σ := σ) (by rw [up2_off (by omega)]; exact hR) hI up2_s true 1 (by decide)) cw_X7_190 qi_X7_throwsIf qv_X7_throwsIf rfl hm.l0 hm.s0 (dk_at ktX7_toldAfterCut_0 26 rfl) rfl rfl (Nat.le_of_ble_eq_true rfl) (by decide) (b := 51) rfl (fun v253 I250 J251 q252 => ?_)
      obtain ⟨rfl, rfl, hR254, hF255, h6256⟩ := q252
      refine r_val (y := 1) rfl ?_
      refine r_if_eq (dk_at ktX7_toldAfterCut_0 27 rfl) (b := 56) (by decide) (b2 := 54) rfl (fun c51 => ?_) (fun c51 => ?_)
      · first | exact absurd c51 (by decide) | exact absurd (by decide) c51
      · skip
        refine rc_p (p_iconst (v := 0) (dk_at ktX7_toldAfterCut_0 28 rfl) (by decide) (b := 55) rfl) ?_
        refine r_iret (dk_at ktX7_toldAfterCut_0 29 rfl) rfl rfl ⟨_, rfl, ?_⟩
        have hcd : cTac v c w = 1 := if_neg (fun q => by rw [show inI v 1 255 = false from c15] at q; exact absurd q.1 (by decide))
        refine ⟨fun hz => ?_, ?_, rfl, ?_, (FF.tr (FF.uf FF.rf (by decide)) (hF255.mo (by decide) (by decide)))⟩
        · exact absurd (hz.symm.trans hcd) (by decide)
        · exact Eq.trans h6256 (by exact hcd.symm)
        · exact hR254
    · have c15 := bi_t c15
      refine rc_p (p_iload_n 2 (dk_at ktX7_toldAfterCut_0 10 rfl) rfl rfl (b := 19) rfl) ?_
      refine rc_p (p_i2l (v := (Int32.toInt64 c)) (dk_at ktX7_toldAfterCut_0 11 rfl) rfl (b := 20) rfl) ?_
      refine rc_p (p_lconst (v := 0) (dk_at ktX7_toldAfterCut_0 12 rfl) (by decide) (b := 21) rfl) ?_
      refine rc_p (p_ldc2 (v := 1000) ql_TwinBootModel_404 (dk_at ktX7_toldAfterCut_0 13 rfl) (b := 24) rfl) ?_
      refine r_iS (As := [.long (Int32.toInt64 c), .long 0, .long 1000]) (rest := [.ref m]) (s_X7_in (Int32.toInt64 c) 0 1000) cw_X7_73 qs_X7_in (dk_at ktX7_toldAfterCut_0 14 rfl) rfl rfl (Nat.le_of_ble_eq_true rfl) (by decide) (b := 27) rfl (fun v260 I257 J258 q259 => ?_)
      obtain ⟨rfl, rfl, rfl⟩ := q259
      refine r_val (y := bi (inI c 0 1000)) (congrArg bi (inJ_I c 0 1000)) ?_
      refine r_if_eq (dk_at ktX7_toldAfterCut_0 15 rfl) (b := 42) (by decide) (b2 := 30) rfl (fun c27 => ?_) (fun c27 => ?_)
      · have c27 := bi_f c27
        refine rc_p (p_iconst (v := 1) (dk_at ktX7_toldAfterCut_0 22 rfl) (by decide) (b := 43) rfl) ?_
        refine rc_p (p_goto (b := 47) (dk_at ktX7_toldAfterCut_0 23 rfl) (by decide)) ?_
        refine rc_p (p_iconst (v := 1) (dk_at ktX7_toldAfterCut_0 25 rfl) (by decide) (b := 48) rfl) ?_
        refine r_iV (As' := [.int 1, .int 1]) (rest := []) (s_X7_throwsIf hm (σ := σ) (by rw [up2_off (by omega)]; exact hR) hI up2_s true 1 (by decide)) cw_X7_190 qi_X7_throwsIf qv_X7_throwsIf rfl hm.l0 hm.s0 (dk_at ktX7_toldAfterCut_0 26 rfl) rfl rfl (Nat.le_of_ble_eq_true rfl) (by decide) (b := 51) rfl (fun v264 I261 J262 q263 => ?_)
        obtain ⟨rfl, rfl, hR265, hF266, h6267⟩ := q263
        refine r_val (y := 1) rfl ?_
        refine r_if_eq (dk_at ktX7_toldAfterCut_0 27 rfl) (b := 56) (by decide) (b2 := 54) rfl (fun c51 => ?_) (fun c51 => ?_)
        · first | exact absurd c51 (by decide) | exact absurd (by decide) c51
        · skip
          refine rc_p (p_iconst (v := 0) (dk_at ktX7_toldAfterCut_0 28 rfl) (by decide) (b := 55) rfl) ?_
          refine r_iret (dk_at ktX7_toldAfterCut_0 29 rfl) rfl rfl ⟨_, rfl, ?_⟩
          have hcd : cTac v c w = 1 := if_neg (fun q => by rw [show inI c 0 1000 = false from c27] at q; exact absurd q.2.1 (by decide))
          refine ⟨fun hz => ?_, ?_, rfl, ?_, (FF.tr (FF.uf FF.rf (by decide)) (hF266.mo (by decide) (by decide)))⟩
          · exact absurd (hz.symm.trans hcd) (by decide)
          · exact Eq.trans h6267 (by exact hcd.symm)
          · exact hR265
      · have c27 := bi_t c27
        refine rc_p (p_iload_n 3 (dk_at ktX7_toldAfterCut_0 16 rfl) rfl rfl (b := 31) rfl) ?_
        refine rc_p (p_i2l (v := (Int32.toInt64 w)) (dk_at ktX7_toldAfterCut_0 17 rfl) rfl (b := 32) rfl) ?_
        refine rc_p (p_lconst (v := 0) (dk_at ktX7_toldAfterCut_0 18 rfl) (by decide) (b := 33) rfl) ?_
        refine rc_p (p_ldc2 (v := 4) ql_TwinBootModel_383 (dk_at ktX7_toldAfterCut_0 19 rfl) (b := 36) rfl) ?_
        refine r_iS (As := [.long (Int32.toInt64 w), .long 0, .long 4]) (rest := [.ref m]) (s_X7_in (Int32.toInt64 w) 0 4) cw_X7_73 qs_X7_in (dk_at ktX7_toldAfterCut_0 20 rfl) rfl rfl (Nat.le_of_ble_eq_true rfl) (by decide) (b := 39) rfl (fun v271 I268 J269 q270 => ?_)
        obtain ⟨rfl, rfl, rfl⟩ := q270
        refine r_val (y := bi (inI w 0 4)) (congrArg bi (inJ_I w 0 4)) ?_
        refine r_val (y := 0) (by rw [hw]; rfl) ?_
        refine r_if_ne (dk_at ktX7_toldAfterCut_0 21 rfl) (b := 46) (by decide) (b2 := 42) rfl (fun c39 => ?_) (fun c39 => ?_)
        · first | exact absurd c39 (by decide) | exact absurd (by decide) c39
        · skip
          refine rc_p (p_iconst (v := 1) (dk_at ktX7_toldAfterCut_0 22 rfl) (by decide) (b := 43) rfl) ?_
          refine rc_p (p_goto (b := 47) (dk_at ktX7_toldAfterCut_0 23 rfl) (by decide)) ?_
          refine rc_p (p_iconst (v := 1) (dk_at ktX7_toldAfterCut_0 25 rfl) (by decide) (b := 48) rfl) ?_
          refine r_iV (As' := [.int 1, .int 1]) (rest := []) (s_X7_throwsIf hm (σ := σ) (by rw [up2_off (by omega)]; exact hR) hI up2_s true 1 (by decide)) cw_X7_190 qi_X7_throwsIf qv_X7_throwsIf rfl hm.l0 hm.s0 (dk_at ktX7_toldAfterCut_0 26 rfl) rfl rfl (Nat.le_of_ble_eq_true rfl) (by decide) (b := 51) rfl (fun v275 I272 J273 q274 => ?_)
          obtain ⟨rfl, rfl, hR276, hF277, h6278⟩ := q274
          refine r_val (y := 1) rfl ?_
          refine r_if_eq (dk_at ktX7_toldAfterCut_0 27 rfl) (b := 56) (by decide) (b2 := 54) rfl (fun c51 => ?_) (fun c51 => ?_)
          · first | exact absurd c51 (by decide) | exact absurd (by decide) c51
          · skip
            refine rc_p (p_iconst (v := 0) (dk_at ktX7_toldAfterCut_0 28 rfl) (by decide) (b := 55) rfl) ?_
            refine r_iret (dk_at ktX7_toldAfterCut_0 29 rfl) rfl rfl ⟨_, rfl, ?_⟩
            have hcd : cTac v c w = 1 := if_neg (fun q => by rw [hw] at q; exact absurd q.2.2 (by decide))
            refine ⟨fun hz => ?_, ?_, rfl, ?_, (FF.tr (FF.uf FF.rf (by decide)) (hF277.mo (by decide) (by decide)))⟩
            · exact absurd (hz.symm.trans hcd) (by decide)
            · exact Eq.trans h6278 (by exact hcd.symm)
            · exact hR276
set_option maxRecDepth 4000 in
set_option maxHeartbeats 4000000 in
theorem s_X7_firstUnsafe {n : Nat} {sh : mS} {G : mG} {I : mI} {J : mJ} {m : Nat} {σ : sT} (hm : ModG n sh G m) (hR : RelW (I (m + 1)) σ) (hI : Inv σ) (v : Int32) (thr : Bool) : Sp yX7_firstUnsafe cX7_firstUnsafe 6 (some FieldType.int) 12 576 0 0 [.ref m, .int v, .int (bi thr)] n sh G I J (Qi (fun r_ I_ J_ => (cIn v 1 255 = 0 → a_fu v thr σ = r_) ∧ I_ m 6 = cIn v 1 255 ∧ J = J_ ∧ RelW (I_ (m + 1)) (σ) ∧ FF m [1, 2, 8] [6, 18, 19, 20, 21, 22, 23, 24, 26, 27] I I_)) nX := by
  have hb := hI.bd
  rcases Bool.eq_false_or_eq_true (inI v 1 255) with hib | hw
  · refine Sp.of (by decide) (ls := [(0, .ref m), (1, .int v), (2, .int (bi thr))]) (fun _ => rfl) (fun _ => Nat.le_of_ble_eq_true rfl) ?_
    have cut31 : errU v σ = 0 → ∀ (t c : Nat) (y : Int32) (Iz : mI), RelW (Iz (m + 1)) σ → Iz m 6 = 0 → FF m [1, 2, 8] [6, 18, 19, 20, 21, 22, 23, 24, 26, 27] I Iz → 100 - c < t → (¬ y = -2 → c ≤ 93 ∧ a_fu v thr σ = fuS v thr σ (1001 - c) c) → (y = -2 → a_fu v thr σ = -1) → Rc RX7 cX7_firstUnsafe 6 (some FieldType.int) 12 576 0 0 n sh G (Qi (fun r_ I_ J_ => (cIn v 1 255 = 0 → a_fu v thr σ = r_) ∧ I_ m 6 = cIn v 1 255 ∧ J = J_ ∧ RelW (I_ (m + 1)) (σ) ∧ FF m [1, 2, 8] [6, 18, 19, 20, 21, 22, 23, 24, 26, 27] I I_)) nX 0 0 31 [(4, .int y), (5, .int (nI c)), (0, .ref m), (1, .int v), (2, .int (bi thr))] [] Iz J := by
      intro he0 t
      induction t
      · intro c y Iz _ _ _ h; omega
      rename_i t ih
      intro c y Iz hRz h6z hFz ht h1 h2
      refine rc_p (p_iload 0 (dk_at ktX7_firstUnsafe_0 20 rfl) rfl (b := 33) rfl) ?_
      refine rc_p (p_bipush (v := (-2)) (dk_at ktX7_firstUnsafe_0 21 rfl) (by decide) (b := 35) rfl) ?_
      refine r_icmp_eq (dk_at ktX7_firstUnsafe_0 22 rfl) (b := 65) (by decide) (b2 := 38) rfl (fun c35 => ?_) (fun c35 => ?_)
      · skip
        refine rc_p (p_iconst (v := (-1)) (dk_at ktX7_firstUnsafe_0 38 rfl) (by decide) (b := 66) rfl) ?_
        refine r_iret (dk_at ktX7_firstUnsafe_0 39 rfl) rfl rfl ⟨_, rfl, ?_⟩
        refine ⟨fun _ => ?_, Eq.trans h6z (by exact (cIn_t hib).symm), rfl, (show RelW (Iz (m + 1)) σ from hRz), hFz⟩
        exact h2 c35
      · skip
        have hx := h1 c35
        refine rc_p (p_aload_n 2 (dk_at ktX7_firstUnsafe_0 23 rfl) rfl rfl (b := 39) rfl) ?_
        refine rc_p (p_iload_n 3 (dk_at ktX7_firstUnsafe_0 24 rfl) rfl rfl (b := 40) rfl) ?_
        refine rc_p (p_iload 1 (dk_at ktX7_firstUnsafe_0 25 rfl) rfl (b := 42) rfl) ?_
        refine rc_p (p_iconst (v := (-1)) (dk_at ktX7_firstUnsafe_0 26 rfl) (by decide) (b := 43) rfl) ?_
        refine rc_p (p_iload_n 4 (dk_at ktX7_firstUnsafe_0 27 rfl) rfl rfl (b := 44) rfl) ?_
        refine rc_p (p_iconst (v := (-1)) (dk_at ktX7_firstUnsafe_0 28 rfl) (by decide) (b := 45) rfl) ?_
        refine r_iV (As' := [.int v, .int (nI c), .int (-1), .int (bi thr), .int (-1)]) (rest := []) (s_X7_after hm (σ := σ) (show RelW (Iz (m + 1)) σ from hRz) hI v thr (nI c) (-1) (n_i (by omega)) m1_i) cw_X7_406 qi_X7_after qv_X7_after rfl hm.l0 hm.s0 (dk_at ktX7_firstUnsafe_0 29 rfl) rfl rfl (Nat.le_of_ble_eq_true rfl) (by decide) (b := 48) rfl (fun v4 I1 J2 q3 => ?_)
        obtain ⟨ef5, rfl, hR6, h277, hF8⟩ := q3
        refine rc_p (p_istore (ls' := [(4, .int v4), (5, .int (nI c)), (0, .ref m), (1, .int v), (2, .int (bi thr))]) (dk_at ktX7_firstUnsafe_0 30 rfl) (by decide) rfl (b := 50) rfl) ?_
        refine rc_p (p_iload 0 (dk_at ktX7_firstUnsafe_0 31 rfl) rfl (b := 52) rfl) ?_
        refine rc_p (p_iconst (v := (-1)) (dk_at ktX7_firstUnsafe_0 32 rfl) (by decide) (b := 53) rfl) ?_
        refine r_icmp_ne (dk_at ktX7_firstUnsafe_0 33 rfl) (b := 59) (by decide) (b2 := 56) rfl (fun c53 => ?_) (fun c53 => ?_)
        · skip
          refine rc_p (p_iinc (j := 1) (v := (nI (c + 1))) (ls' := [(5, .int (nI (c + 1))), (4, .int v4), (0, .ref m), (1, .int v), (2, .int (bi thr))]) (dk_at ktX7_firstUnsafe_0 36 rfl) rfl (nI_add c 1) (by decide) rfl (b := 62) rfl) ?_
          refine rc_p (p_goto (b := 31) (dk_at ktX7_firstUnsafe_0 37 rfl) (by decide)) ?_
          refine rc_sub [1, 0, 2, 3, 4] (ls' := [(4, .int v4), (5, .int (nI (c + 1))), (0, .ref m), (1, .int v), (2, .int (bi thr))]) rfl ?_
          have hg : ¬ v4 = -2 → a_fu v thr σ = fuS v thr σ (1001 - (c + 1)) (c + 1) := fun q => hx.2.trans (fuS_g (by omega) (fun q2 => c53 (ef5.symm.trans q2)) (fun q2 => q (ef5.symm.trans q2)))
          exact ih (c + 1) _ I1 (show RelW (I1 (m + 1)) σ from hR6) (((hF8.2 6 (by decide))).trans h6z) (FF.tr hFz (hF8.mo (by decide) (by decide))) (by omega) (fun q => ⟨by have := fuA_lt (thr := thr) (c := c) hI he0 (by omega) (fun q2 => q (ef5.symm.trans q2)); omega, hg q⟩) (fun q => hx.2.trans (fuS_e (by omega) (ef5.trans q)))
        · skip
          refine rc_p (p_iload 1 (dk_at ktX7_firstUnsafe_0 34 rfl) rfl (b := 58) rfl) ?_
          refine r_iret (dk_at ktX7_firstUnsafe_0 35 rfl) rfl rfl ⟨_, rfl, ?_⟩
          refine ⟨fun _ => ?_, Eq.trans (((hF8.2 6 (by decide))).trans h6z) (by exact (cIn_t hib).symm), rfl, (show RelW (I1 (m + 1)) σ from hR6), (FF.tr hFz (hF8.mo (by decide) (by decide)))⟩
          exact hx.2.trans (fuS_h (by omega) (ef5.trans c53))
    refine rc_p (p_aload_n 0 (dk_at ktX7_firstUnsafe_0 0 rfl) rfl rfl (b := 1) rfl) ?_
    refine rc_p (p_iload_n 1 (dk_at ktX7_firstUnsafe_0 1 rfl) rfl rfl (b := 2) rfl) ?_
    refine r_iV (As' := [.int v]) (rest := []) (s_X7_noVersion hm (σ := σ) hR hI v) cw_X7_352 qi_X7_noVersion qv_X7_noVersion rfl hm.l0 hm.s0 (dk_at ktX7_firstUnsafe_0 2 rfl) rfl rfl (Nat.le_of_ble_eq_true rfl) (by decide) (b := 5) rfl (fun v12 I9 J10 q11 => ?_)
    obtain ⟨rfl, rfl, hR13, hF14, h615⟩ := q11
    refine r_val (y := 0) (by rw [hib]; rfl) ?_
    have h616 : I9 m 6 = 0 := h615.trans (by rw [hib]; rfl)
    refine r_if_eq (dk_at ktX7_firstUnsafe_0 3 rfl) (b := 10) (by decide) (b2 := 8) rfl (fun c5 => ?_) (fun c5 => ?_)
    · skip
      refine rc_p (p_aload_n 0 (dk_at ktX7_firstUnsafe_0 6 rfl) rfl rfl (b := 11) rfl) ?_
      refine rc_p (p_iload_n 1 (dk_at ktX7_firstUnsafe_0 7 rfl) rfl rfl (b := 12) rfl) ?_
      refine r_iV (As' := [.int v]) (rest := []) (s_X7_errorOf hm (σ := σ) hR13 hI v) cw_X7_340 qi_X7_errorOf qv_X7_errorOf rfl hm.l0 hm.s0 (dk_at ktX7_firstUnsafe_0 8 rfl) rfl rfl (Nat.le_of_ble_eq_true rfl) (by decide) (b := 15) rfl (fun v20 I17 J18 q19 => ?_)
      obtain ⟨ee24, rfl, hR23, hT21, hF22⟩ := q19
      refine rc_p (p_istore_n (ls' := [(3, .int v20), (0, .ref m), (1, .int v), (2, .int (bi thr))]) (dk_at ktX7_firstUnsafe_0 9 rfl) rfl (by decide) rfl (b := 16) rfl) ?_
      refine rc_p (p_iload_n 0 (dk_at ktX7_firstUnsafe_0 10 rfl) rfl rfl (b := 17) rfl) ?_
      refine r_if_eq (dk_at ktX7_firstUnsafe_0 11 rfl) (b := 25) (by decide) (b2 := 20) rfl (fun c17 => ?_) (fun c17 => ?_)
      · skip
        refine rc_p (p_iconst (v := 0) (dk_at ktX7_firstUnsafe_0 16 rfl) (by decide) (b := 26) rfl) ?_
        refine rc_p (p_istore (ls' := [(4, .int 0), (3, .int v20), (0, .ref m), (1, .int v), (2, .int (bi thr))]) (dk_at ktX7_firstUnsafe_0 17 rfl) (by decide) rfl (b := 28) rfl) ?_
        refine rc_p (p_iconst (v := 0) (dk_at ktX7_firstUnsafe_0 18 rfl) (by decide) (b := 29) rfl) ?_
        refine rc_p (p_istore (ls' := [(5, .int 0), (4, .int 0), (3, .int v20), (0, .ref m), (1, .int v), (2, .int (bi thr))]) (dk_at ktX7_firstUnsafe_0 19 rfl) (by decide) rfl (b := 31) rfl) ?_
        refine rc_sub [1, 0, 3, 4, 5] (ls' := [(4, .int 0), (5, .int 0), (0, .ref m), (1, .int v), (2, .int (bi thr))]) rfl ?_
        have he0 : errU v σ = 0 := ee24.trans c17
        exact cut31 he0 1000 0 _ I17 (show RelW (I17 (m + 1)) σ from hR23) (((hF22.2 6 (by decide))).trans h616) (FF.tr (FF.tr FF.rf (hF14.mo (by decide) (by decide))) (hF22.mo (by decide) (by decide))) (by omega) (fun _ => ⟨by omega, if_pos he0⟩) (fun q => absurd q (by decide))
      · skip
        refine rc_p (p_iload_n 0 (dk_at ktX7_firstUnsafe_0 12 rfl) rfl rfl (b := 21) rfl) ?_
        refine rc_p (p_bipush (v := 100) (dk_at ktX7_firstUnsafe_0 13 rfl) (by decide) (b := 23) rfl) ?_
        refine rc_p (p_isub (v := (v20 - 100)) (dk_at ktX7_firstUnsafe_0 14 rfl) rfl (b := 24) rfl) ?_
        refine r_iret (dk_at ktX7_firstUnsafe_0 15 rfl) rfl rfl ⟨_, rfl, ?_⟩
        refine ⟨fun _ => ?_, Eq.trans (((hF22.2 6 (by decide))).trans h616) (by exact (cIn_t hib).symm), rfl, (show RelW (I17 (m + 1)) σ from hR23), (FF.tr (FF.tr FF.rf (hF14.mo (by decide) (by decide))) (hF22.mo (by decide) (by decide)))⟩
        unfold a_fu; rw [if_neg (fun q => c17 (ee24.symm.trans q)), ee24]
    · first | exact absurd c5 (by decide) | exact absurd (by decide) c5
  · refine Sp.of (by decide) (ls := [(0, .ref m), (1, .int v), (2, .int (bi thr))]) (fun _ => rfl) (fun _ => Nat.le_of_ble_eq_true rfl) ?_
    refine rc_p (p_aload_n 0 (dk_at ktX7_firstUnsafe_0 0 rfl) rfl rfl (b := 1) rfl) ?_
    refine rc_p (p_iload_n 1 (dk_at ktX7_firstUnsafe_0 1 rfl) rfl rfl (b := 2) rfl) ?_
    refine r_iV (As' := [.int v]) (rest := []) (s_X7_noVersion hm (σ := σ) hR hI v) cw_X7_352 qi_X7_noVersion qv_X7_noVersion rfl hm.l0 hm.s0 (dk_at ktX7_firstUnsafe_0 2 rfl) rfl rfl (Nat.le_of_ble_eq_true rfl) (by decide) (b := 5) rfl (fun v28 I25 J26 q27 => ?_)
    obtain ⟨rfl, rfl, hR29, hF30, h631⟩ := q27
    refine r_val (y := 1) (by rw [hw]; rfl) ?_
    have h632 : I25 m 6 = 1 := h631.trans (by rw [hw]; rfl)
    refine r_if_eq (dk_at ktX7_firstUnsafe_0 3 rfl) (b := 10) (by decide) (b2 := 8) rfl (fun c5 => ?_) (fun c5 => ?_)
    · first | exact absurd c5 (by decide) | exact absurd (by decide) c5
    · skip
      refine rc_p (p_iconst (v := 0) (dk_at ktX7_firstUnsafe_0 4 rfl) (by decide) (b := 9) rfl) ?_
      refine r_iret (dk_at ktX7_firstUnsafe_0 5 rfl) rfl rfl ⟨_, rfl, ?_⟩
      refine ⟨fun hz => ?_, ?_, rfl, ?_, (hF30.mo (by decide) (by decide))⟩
      · exact absurd (hz.symm.trans (cIn_f hw)) (by decide)
      · exact Eq.trans h632 (by exact (cIn_f hw).symm)
      · exact hR29
set_option maxRecDepth 4000 in
set_option maxHeartbeats 4000000 in
theorem s_X7_firstUnsafeCut {n : Nat} {sh : mS} {G : mG} {I : mI} {J : mJ} {m : Nat} {σ : sT} (hm : ModG n sh G m) (hR : RelW (I (m + 1)) σ) (hI : Inv σ) (v : Int32) : Sp yX7_firstUnsafeCut cX7_firstUnsafeCut 2 (some FieldType.int) 13 624 0 0 [.ref m, .int v] n sh G I J (Qi (fun r_ I_ J_ => (cIn v 1 255 = 0 → a_fu v false σ = r_) ∧ I_ m 6 = cIn v 1 255 ∧ J = J_ ∧ RelW (I_ (m + 1)) (σ) ∧ FF m [1, 2, 8] [6, 18, 19, 20, 21, 22, 23, 24, 26, 27] I I_)) nX := by
  have hb := hI.bd
  refine Sp.of (by decide) (ls := [(0, .ref m), (1, .int v)]) (fun _ => rfl) (fun _ => Nat.le_of_ble_eq_true rfl) ?_
  refine rc_p (p_aload_n 0 (dk_at ktX7_firstUnsafeCut_0 0 rfl) rfl rfl (b := 1) rfl) ?_
  refine rc_p (p_iload_n 1 (dk_at ktX7_firstUnsafeCut_0 1 rfl) rfl rfl (b := 2) rfl) ?_
  refine rc_p (p_iconst (v := 0) (dk_at ktX7_firstUnsafeCut_0 2 rfl) (by decide) (b := 3) rfl) ?_
  refine r_iV (As' := [.int v, .int 0]) (rest := []) (s_X7_firstUnsafe hm (σ := σ) hR hI v false) cw_X7_410 qi_X7_firstUnsafe qv_X7_firstUnsafe rfl hm.l0 hm.s0 (dk_at ktX7_firstUnsafeCut_0 3 rfl) rfl rfl (Nat.le_of_ble_eq_true rfl) (by decide) (b := 6) rfl (fun v4 I1 J2 q3 => ?_)
  refine r_iret (dk_at ktX7_firstUnsafeCut_0 4 rfl) rfl rfl ⟨_, rfl, ?_⟩
  exact q3
set_option maxRecDepth 4000 in
set_option maxHeartbeats 4000000 in
theorem s_X7_firstUnsafeThriftyCut {n : Nat} {sh : mS} {G : mG} {I : mI} {J : mJ} {m : Nat} {σ : sT} (hm : ModG n sh G m) (hR : RelW (I (m + 1)) σ) (hI : Inv σ) (v : Int32) : Sp yX7_firstUnsafeThriftyCut cX7_firstUnsafeThriftyCut 2 (some FieldType.int) 13 624 0 0 [.ref m, .int v] n sh G I J (Qi (fun r_ I_ J_ => (cIn v 1 255 = 0 → a_fu v true σ = r_) ∧ I_ m 6 = cIn v 1 255 ∧ J = J_ ∧ RelW (I_ (m + 1)) (σ) ∧ FF m [1, 2, 8] [6, 18, 19, 20, 21, 22, 23, 24, 26, 27] I I_)) nX := by
  have hb := hI.bd
  refine Sp.of (by decide) (ls := [(0, .ref m), (1, .int v)]) (fun _ => rfl) (fun _ => Nat.le_of_ble_eq_true rfl) ?_
  refine rc_p (p_aload_n 0 (dk_at ktX7_firstUnsafeThriftyCut_0 0 rfl) rfl rfl (b := 1) rfl) ?_
  refine rc_p (p_iload_n 1 (dk_at ktX7_firstUnsafeThriftyCut_0 1 rfl) rfl rfl (b := 2) rfl) ?_
  refine rc_p (p_iconst (v := 1) (dk_at ktX7_firstUnsafeThriftyCut_0 2 rfl) (by decide) (b := 3) rfl) ?_
  refine r_iV (As' := [.int v, .int 1]) (rest := []) (s_X7_firstUnsafe hm (σ := σ) hR hI v true) cw_X7_410 qi_X7_firstUnsafe qv_X7_firstUnsafe rfl hm.l0 hm.s0 (dk_at ktX7_firstUnsafeThriftyCut_0 3 rfl) rfl rfl (Nat.le_of_ble_eq_true rfl) (by decide) (b := 6) rfl (fun v4 I1 J2 q3 => ?_)
  refine r_iret (dk_at ktX7_firstUnsafeThriftyCut_0 4 rfl) rfl rfl ⟨_, rfl, ?_⟩
  exact q3
set_option maxRecDepth 4000 in
set_option maxHeartbeats 4000000 in
theorem s_X7_cutsToNew {n : Nat} {sh : mS} {G : mG} {I : mI} {J : mJ} {m : Nat} {σ : sT} (hm : ModG n sh G m) (hR : RelW (I (m + 1)) σ) (hI : Inv σ) (v : Int32)  : Sp yX7_cutsToNew cX7_cutsToNew 6 (some FieldType.int) 12 576 0 0 [.ref m, .int v] n sh G I J (Qi (fun r_ I_ J_ => (cIn v 1 255 = 0 → a_cn v σ = r_) ∧ I_ m 6 = cIn v 1 255 ∧ J = J_ ∧ RelW (I_ (m + 1)) (σ) ∧ FF m [1, 2, 8] [6, 18, 19, 20, 21, 22, 23, 24, 26, 27] I I_)) nX := by
  have hb := hI.bd
  rcases Bool.eq_false_or_eq_true (inI v 1 255) with hib | hw
  · refine Sp.of (by decide) (ls := [(0, .ref m), (1, .int v)]) (fun _ => rfl) (fun _ => Nat.le_of_ble_eq_true rfl) ?_
    have cut30 : errU v σ = 0 → ∀ (t c : Nat) (x y : Int32) (Iz : mI), RelW (Iz (m + 1)) σ → Iz m 6 = 0 → FF m [1, 2, 8] [6, 18, 19, 20, 21, 22, 23, 24, 26, 27] I Iz → 100 - c < t → (¬ y = -2 → c ≤ 93 ∧ a_cn v σ = cnS v σ (1001 - c) c x) → (y = -2 → a_cn v σ = x) → Rc RX7 cX7_cutsToNew 6 (some FieldType.int) 12 576 0 0 n sh G (Qi (fun r_ I_ J_ => (cIn v 1 255 = 0 → a_cn v σ = r_) ∧ I_ m 6 = cIn v 1 255 ∧ J = J_ ∧ RelW (I_ (m + 1)) (σ) ∧ FF m [1, 2, 8] [6, 18, 19, 20, 21, 22, 23, 24, 26, 27] I I_)) nX 0 0 30 [(3, .int x), (4, .int (nI c)), (5, .int y), (0, .ref m), (1, .int v)] [] Iz J := by
      intro he0 t
      induction t
      · intro c x y Iz _ _ _ h; omega
      rename_i t ih
      intro c x y Iz hRz h6z hFz ht h1 h2
      have h18 : ¬ (-2 : Int32) = 1 - σ 8 := by rcases hI.2.2.1 with ⟨_, q⟩ | ⟨_, q | q⟩ | ⟨_, q⟩ <;> rw [q] <;> decide
      refine rc_p (p_iload 2 (dk_at ktX7_cutsToNew_0 20 rfl) rfl (b := 32) rfl) ?_
      refine rc_p (p_bipush (v := (-2)) (dk_at ktX7_cutsToNew_0 21 rfl) (by decide) (b := 34) rfl) ?_
      refine r_icmp_eq (dk_at ktX7_cutsToNew_0 22 rfl) (b := 77) (by decide) (b2 := 37) rfl (fun c34 => ?_) (fun c34 => ?_)
      · skip
        refine rc_p (p_iload_n 0 (dk_at ktX7_cutsToNew_0 47 rfl) rfl rfl (b := 78) rfl) ?_
        refine r_iret (dk_at ktX7_cutsToNew_0 48 rfl) rfl rfl ⟨_, rfl, ?_⟩
        refine ⟨fun _ => ?_, Eq.trans h6z (by exact (cIn_t hib).symm), rfl, (show RelW (Iz (m + 1)) σ from hRz), hFz⟩
        exact h2 c34
      · skip
        have hx := h1 c34
        refine rc_p (p_aload_n 3 (dk_at ktX7_cutsToNew_0 23 rfl) rfl rfl (b := 38) rfl) ?_
        refine rc_p (p_iload_n 4 (dk_at ktX7_cutsToNew_0 24 rfl) rfl rfl (b := 39) rfl) ?_
        refine rc_p (p_iload 1 (dk_at ktX7_cutsToNew_0 25 rfl) rfl (b := 41) rfl) ?_
        refine rc_p (p_iconst (v := (-1)) (dk_at ktX7_cutsToNew_0 26 rfl) (by decide) (b := 42) rfl) ?_
        refine rc_p (p_iconst (v := 0) (dk_at ktX7_cutsToNew_0 27 rfl) (by decide) (b := 43) rfl) ?_
        refine rc_p (p_iconst (v := (-1)) (dk_at ktX7_cutsToNew_0 28 rfl) (by decide) (b := 44) rfl) ?_
        refine r_iV (As' := [.int v, .int (nI c), .int (-1), .int 0, .int (-1)]) (rest := []) (s_X7_after hm (σ := σ) (show RelW (Iz (m + 1)) σ from hRz) hI v false (nI c) (-1) (n_i (by omega)) m1_i) cw_X7_406 qi_X7_after qv_X7_after rfl hm.l0 hm.s0 (dk_at ktX7_cutsToNew_0 29 rfl) rfl rfl (Nat.le_of_ble_eq_true rfl) (by decide) (b := 47) rfl (fun v4 I1 J2 q3 => ?_)
        obtain ⟨ef5, rfl, hR6, h277, hF8⟩ := q3
        refine rc_p (p_istore (ls' := [(5, .int v4), (3, .int x), (4, .int (nI c)), (0, .ref m), (1, .int v)]) (dk_at ktX7_cutsToNew_0 30 rfl) (by decide) rfl (b := 49) rfl) ?_
        refine rc_p (p_iload_n 1 (dk_at ktX7_cutsToNew_0 31 rfl) rfl rfl (b := 50) rfl) ?_
        refine rc_p (p_iload 0 (dk_at ktX7_cutsToNew_0 32 rfl) rfl (b := 52) rfl) ?_
        refine rc_p (p_iconst (v := 1) (dk_at ktX7_cutsToNew_0 33 rfl) (by decide) (b := 53) rfl) ?_
        refine rc_p (p_aload_n 3 (dk_at ktX7_cutsToNew_0 34 rfl) rfl rfl (b := 54) rfl) ?_
        refine r_geta fl_X7_9 rfl hm.l0 hm.s0 (dk_at ktX7_cutsToNew_0 35 rfl) hm.g0_0 (b := 57) rfl ?_
        refine rc_p (p_bipush (v := 8) (dk_at ktX7_cutsToNew_0 36 rfl) (by decide) (b := 59) rfl) ?_
        refine r_iald (j := 8) (hm.lt 1 (by decide)) hm.s1 (dk_at ktX7_cutsToNew_0 37 rfl) rfl ⟨by decide, by decide⟩ (v := (σ 8)) (hR6.1 8 (by decide)) (b := 60) rfl ?_
        refine rc_p (p_isub (v := (1 - (σ 8))) (dk_at ktX7_cutsToNew_0 38 rfl) rfl (b := 61) rfl) ?_
        refine r_icmp_ne (dk_at ktX7_cutsToNew_0 39 rfl) (b := 68) (by decide) (b2 := 64) rfl (fun c61 => ?_) (fun c61 => ?_)
        · skip
          refine rc_p (p_iconst (v := 0) (dk_at ktX7_cutsToNew_0 42 rfl) (by decide) (b := 69) rfl) ?_
          refine rc_p (p_iadd (v := (x + 0)) (dk_at ktX7_cutsToNew_0 43 rfl) rfl (b := 70) rfl) ?_
          refine rc_p (p_istore_n (ls' := [(3, .int (x + 0)), (5, .int v4), (4, .int (nI c)), (0, .ref m), (1, .int v)]) (dk_at ktX7_cutsToNew_0 44 rfl) rfl (by decide) rfl (b := 71) rfl) ?_
          refine rc_p (p_iinc (j := 2) (v := (nI (c + 1))) (ls' := [(4, .int (nI (c + 1))), (3, .int (x + 0)), (5, .int v4), (0, .ref m), (1, .int v)]) (dk_at ktX7_cutsToNew_0 45 rfl) rfl (nI_add c 1) (by decide) rfl (b := 74) rfl) ?_
          refine rc_p (p_goto (b := 30) (dk_at ktX7_cutsToNew_0 46 rfl) (by decide)) ?_
          refine rc_sub [1, 0, 2, 3, 4] (ls' := [(3, .int (x + 0)), (4, .int (nI (c + 1))), (5, .int v4), (0, .ref m), (1, .int v)]) rfl ?_
          have hy : (x + 0) = if fuA v false σ c = 1 - σ 8 then x + 1 else x := Eq.trans (Int32.add_zero x : (x + 0) = _) (if_neg (fun q => c61 (ef5.symm.trans q))).symm
          exact ih (c + 1) _ _ I1 (show RelW (I1 (m + 1)) σ from hR6) (((hF8.2 6 (by decide))).trans h6z) (FF.tr hFz (hF8.mo (by decide) (by decide))) (by omega) (fun q => ⟨by have := fuA_lt (thr := false) (c := c) hI he0 (by omega) (fun q2 => q (ef5.symm.trans q2)); omega, hx.2.trans (cnS_g (by omega) (fun q2 => q (ef5.symm.trans q2)) hy)⟩) (fun q => by
            have e2 : fuA v false σ c = -2 := ef5.trans q
            rw [hy, if_neg (by rw [e2]; exact h18)]
            exact hx.2.trans (cnS_e (by omega) e2))
        · skip
          refine rc_p (p_iconst (v := 1) (dk_at ktX7_cutsToNew_0 40 rfl) (by decide) (b := 65) rfl) ?_
          refine rc_p (p_goto (b := 69) (dk_at ktX7_cutsToNew_0 41 rfl) (by decide)) ?_
          refine rc_p (p_iadd (v := (x + 1)) (dk_at ktX7_cutsToNew_0 43 rfl) rfl (b := 70) rfl) ?_
          refine rc_p (p_istore_n (ls' := [(3, .int (x + 1)), (5, .int v4), (4, .int (nI c)), (0, .ref m), (1, .int v)]) (dk_at ktX7_cutsToNew_0 44 rfl) rfl (by decide) rfl (b := 71) rfl) ?_
          refine rc_p (p_iinc (j := 2) (v := (nI (c + 1))) (ls' := [(4, .int (nI (c + 1))), (3, .int (x + 1)), (5, .int v4), (0, .ref m), (1, .int v)]) (dk_at ktX7_cutsToNew_0 45 rfl) rfl (nI_add c 1) (by decide) rfl (b := 74) rfl) ?_
          refine rc_p (p_goto (b := 30) (dk_at ktX7_cutsToNew_0 46 rfl) (by decide)) ?_
          refine rc_sub [1, 0, 2, 3, 4] (ls' := [(3, .int (x + 1)), (4, .int (nI (c + 1))), (5, .int v4), (0, .ref m), (1, .int v)]) rfl ?_
          have hy : (x + 1) = if fuA v false σ c = 1 - σ 8 then x + 1 else x := Eq.trans (rfl : (x + 1) = _) (if_pos (ef5.trans c61)).symm
          exact ih (c + 1) _ _ I1 (show RelW (I1 (m + 1)) σ from hR6) (((hF8.2 6 (by decide))).trans h6z) (FF.tr hFz (hF8.mo (by decide) (by decide))) (by omega) (fun q => ⟨by have := fuA_lt (thr := false) (c := c) hI he0 (by omega) (fun q2 => q (ef5.symm.trans q2)); omega, hx.2.trans (cnS_g (by omega) (fun q2 => q (ef5.symm.trans q2)) hy)⟩) (fun q => by
            have e2 : fuA v false σ c = -2 := ef5.trans q
            rw [hy, if_neg (by rw [e2]; exact h18)]
            exact hx.2.trans (cnS_e (by omega) e2))
    refine rc_p (p_aload_n 0 (dk_at ktX7_cutsToNew_0 0 rfl) rfl rfl (b := 1) rfl) ?_
    refine rc_p (p_iload_n 1 (dk_at ktX7_cutsToNew_0 1 rfl) rfl rfl (b := 2) rfl) ?_
    refine r_iV (As' := [.int v]) (rest := []) (s_X7_noVersion hm (σ := σ) hR hI v) cw_X7_352 qi_X7_noVersion qv_X7_noVersion rfl hm.l0 hm.s0 (dk_at ktX7_cutsToNew_0 2 rfl) rfl rfl (Nat.le_of_ble_eq_true rfl) (by decide) (b := 5) rfl (fun v12 I9 J10 q11 => ?_)
    obtain ⟨rfl, rfl, hR13, hF14, h615⟩ := q11
    refine r_val (y := 0) (by rw [hib]; rfl) ?_
    have h616 : I9 m 6 = 0 := h615.trans (by rw [hib]; rfl)
    refine r_if_eq (dk_at ktX7_cutsToNew_0 3 rfl) (b := 10) (by decide) (b2 := 8) rfl (fun c5 => ?_) (fun c5 => ?_)
    · skip
      refine rc_p (p_aload_n 0 (dk_at ktX7_cutsToNew_0 6 rfl) rfl rfl (b := 11) rfl) ?_
      refine rc_p (p_iload_n 1 (dk_at ktX7_cutsToNew_0 7 rfl) rfl rfl (b := 12) rfl) ?_
      refine r_iV (As' := [.int v]) (rest := []) (s_X7_errorOf hm (σ := σ) hR13 hI v) cw_X7_340 qi_X7_errorOf qv_X7_errorOf rfl hm.l0 hm.s0 (dk_at ktX7_cutsToNew_0 8 rfl) rfl rfl (Nat.le_of_ble_eq_true rfl) (by decide) (b := 15) rfl (fun v20 I17 J18 q19 => ?_)
      obtain ⟨ee24, rfl, hR23, hT21, hF22⟩ := q19
      refine rc_p (p_istore_n (ls' := [(2, .int v20), (0, .ref m), (1, .int v)]) (dk_at ktX7_cutsToNew_0 9 rfl) rfl (by decide) rfl (b := 16) rfl) ?_
      refine rc_p (p_iload_n 0 (dk_at ktX7_cutsToNew_0 10 rfl) rfl rfl (b := 17) rfl) ?_
      refine r_if_eq (dk_at ktX7_cutsToNew_0 11 rfl) (b := 22) (by decide) (b2 := 20) rfl (fun c17 => ?_) (fun c17 => ?_)
      · skip
        refine rc_p (p_iconst (v := 0) (dk_at ktX7_cutsToNew_0 14 rfl) (by decide) (b := 23) rfl) ?_
        refine rc_p (p_istore_n (ls' := [(3, .int 0), (2, .int v20), (0, .ref m), (1, .int v)]) (dk_at ktX7_cutsToNew_0 15 rfl) rfl (by decide) rfl (b := 24) rfl) ?_
        refine rc_p (p_iconst (v := 0) (dk_at ktX7_cutsToNew_0 16 rfl) (by decide) (b := 25) rfl) ?_
        refine rc_p (p_istore (ls' := [(4, .int 0), (3, .int 0), (2, .int v20), (0, .ref m), (1, .int v)]) (dk_at ktX7_cutsToNew_0 17 rfl) (by decide) rfl (b := 27) rfl) ?_
        refine rc_p (p_iconst (v := 0) (dk_at ktX7_cutsToNew_0 18 rfl) (by decide) (b := 28) rfl) ?_
        refine rc_p (p_istore (ls' := [(5, .int 0), (4, .int 0), (3, .int 0), (2, .int v20), (0, .ref m), (1, .int v)]) (dk_at ktX7_cutsToNew_0 19 rfl) (by decide) rfl (b := 30) rfl) ?_
        refine rc_sub [2, 1, 0, 4, 5] (ls' := [(3, .int 0), (4, .int 0), (5, .int 0), (0, .ref m), (1, .int v)]) rfl ?_
        have he0 : errU v σ = 0 := ee24.trans c17
        exact cut30 he0 1000 0 _ _ I17 (show RelW (I17 (m + 1)) σ from hR23) (((hF22.2 6 (by decide))).trans h616) (FF.tr (FF.tr FF.rf (hF14.mo (by decide) (by decide))) (hF22.mo (by decide) (by decide))) (by omega) (fun _ => ⟨by omega, if_pos he0⟩) (fun q => absurd q (by decide))
      · skip
        refine rc_p (p_iload_n 0 (dk_at ktX7_cutsToNew_0 12 rfl) rfl rfl (b := 21) rfl) ?_
        refine r_iret (dk_at ktX7_cutsToNew_0 13 rfl) rfl rfl ⟨_, rfl, ?_⟩
        refine ⟨fun _ => ?_, Eq.trans (((hF22.2 6 (by decide))).trans h616) (by exact (cIn_t hib).symm), rfl, (show RelW (I17 (m + 1)) σ from hR23), (FF.tr (FF.tr FF.rf (hF14.mo (by decide) (by decide))) (hF22.mo (by decide) (by decide)))⟩
        unfold a_cn; rw [if_neg (fun q => c17 (ee24.symm.trans q)), ee24]
    · first | exact absurd c5 (by decide) | exact absurd (by decide) c5
  · refine Sp.of (by decide) (ls := [(0, .ref m), (1, .int v)]) (fun _ => rfl) (fun _ => Nat.le_of_ble_eq_true rfl) ?_
    refine rc_p (p_aload_n 0 (dk_at ktX7_cutsToNew_0 0 rfl) rfl rfl (b := 1) rfl) ?_
    refine rc_p (p_iload_n 1 (dk_at ktX7_cutsToNew_0 1 rfl) rfl rfl (b := 2) rfl) ?_
    refine r_iV (As' := [.int v]) (rest := []) (s_X7_noVersion hm (σ := σ) hR hI v) cw_X7_352 qi_X7_noVersion qv_X7_noVersion rfl hm.l0 hm.s0 (dk_at ktX7_cutsToNew_0 2 rfl) rfl rfl (Nat.le_of_ble_eq_true rfl) (by decide) (b := 5) rfl (fun v28 I25 J26 q27 => ?_)
    obtain ⟨rfl, rfl, hR29, hF30, h631⟩ := q27
    refine r_val (y := 1) (by rw [hw]; rfl) ?_
    have h632 : I25 m 6 = 1 := h631.trans (by rw [hw]; rfl)
    refine r_if_eq (dk_at ktX7_cutsToNew_0 3 rfl) (b := 10) (by decide) (b2 := 8) rfl (fun c5 => ?_) (fun c5 => ?_)
    · first | exact absurd c5 (by decide) | exact absurd (by decide) c5
    · skip
      refine rc_p (p_iconst (v := 0) (dk_at ktX7_cutsToNew_0 4 rfl) (by decide) (b := 9) rfl) ?_
      refine r_iret (dk_at ktX7_cutsToNew_0 5 rfl) rfl rfl ⟨_, rfl, ?_⟩
      refine ⟨fun hz => ?_, ?_, rfl, ?_, (hF30.mo (by decide) (by decide))⟩
      · exact absurd (hz.symm.trans (cIn_f hw)) (by decide)
      · exact Eq.trans h632 (by exact (cIn_f hw).symm)
      · exact hR29
set_option maxRecDepth 4000 in
set_option maxHeartbeats 4000000 in
theorem s_X7_longestOldRun {n : Nat} {sh : mS} {G : mG} {I : mI} {J : mJ} {m : Nat} {σ : sT} (hm : ModG n sh G m) (hR : RelW (I (m + 1)) σ) (hI : Inv σ) (v : Int32)  : Sp yX7_longestOldRun cX7_longestOldRun 7 (some FieldType.int) 12 576 0 0 [.ref m, .int v] n sh G I J (Qi (fun r_ I_ J_ => (cIn v 1 255 = 0 → a_lo v σ = r_) ∧ I_ m 6 = cIn v 1 255 ∧ J = J_ ∧ RelW (I_ (m + 1)) (σ) ∧ FF m [1, 2, 8] [6, 18, 19, 20, 21, 22, 23, 24, 26, 27] I I_)) nX := by
  have hb := hI.bd
  rcases Bool.eq_false_or_eq_true (inI v 1 255) with hib | hw
  · refine Sp.of (by decide) (ls := [(0, .ref m), (1, .int v)]) (fun _ => rfl) (fun _ => Nat.le_of_ble_eq_true rfl) ?_
    have cut33 : errU v σ = 0 → ∀ (t c r q : Nat) (y : Int32) (Iz : mI), RelW (Iz (m + 1)) σ → Iz m 6 = 0 → FF m [1, 2, 8] [6, 18, 19, 20, 21, 22, 23, 24, 26, 27] I Iz → 100 - c < t → (¬ y = -2 → c ≤ 93 ∧ r ≤ c ∧ q ≤ c ∧ a_lo v σ = nI (loS v σ (1001 - c) c r q)) → (y = -2 → a_lo v σ = nI q) → Rc RX7 cX7_longestOldRun 7 (some FieldType.int) 12 576 0 0 n sh G (Qi (fun r_ I_ J_ => (cIn v 1 255 = 0 → a_lo v σ = r_) ∧ I_ m 6 = cIn v 1 255 ∧ J = J_ ∧ RelW (I_ (m + 1)) (σ) ∧ FF m [1, 2, 8] [6, 18, 19, 20, 21, 22, 23, 24, 26, 27] I I_)) nX 0 0 33 [(3, .int (nI q)), (4, .int (nI r)), (5, .int (nI c)), (6, .int y), (0, .ref m), (1, .int v)] [] Iz J := by
      intro he0 t
      induction t
      · intro c r q y Iz _ _ _ h; omega
      rename_i t ih
      intro c r q y Iz hRz h6z hFz ht h1 h2
      have h18 : ¬ (-2 : Int32) = σ 8 := by rcases hI.2.2.1 with ⟨_, q⟩ | ⟨_, q | q⟩ | ⟨_, q⟩ <;> rw [q] <;> decide
      refine rc_p (p_iload 3 (dk_at ktX7_longestOldRun_0 22 rfl) rfl (b := 35) rfl) ?_
      refine rc_p (p_bipush (v := (-2)) (dk_at ktX7_longestOldRun_0 23 rfl) (by decide) (b := 37) rfl) ?_
      refine r_icmp_eq (dk_at ktX7_longestOldRun_0 24 rfl) (b := 87) (by decide) (b2 := 40) rfl (fun c37 => ?_) (fun c37 => ?_)
      · skip
        refine rc_p (p_iload_n 0 (dk_at ktX7_longestOldRun_0 51 rfl) rfl rfl (b := 88) rfl) ?_
        refine r_iret (dk_at ktX7_longestOldRun_0 52 rfl) rfl rfl ⟨_, rfl, ?_⟩
        refine ⟨fun _ => ?_, Eq.trans h6z (by exact (cIn_t hib).symm), rfl, (show RelW (Iz (m + 1)) σ from hRz), hFz⟩
        exact h2 c37
      · skip
        have hx := h1 c37
        refine rc_p (p_aload_n 4 (dk_at ktX7_longestOldRun_0 25 rfl) rfl rfl (b := 41) rfl) ?_
        refine rc_p (p_iload_n 5 (dk_at ktX7_longestOldRun_0 26 rfl) rfl rfl (b := 42) rfl) ?_
        refine rc_p (p_iload 2 (dk_at ktX7_longestOldRun_0 27 rfl) rfl (b := 44) rfl) ?_
        refine rc_p (p_iconst (v := (-1)) (dk_at ktX7_longestOldRun_0 28 rfl) (by decide) (b := 45) rfl) ?_
        refine rc_p (p_iconst (v := 0) (dk_at ktX7_longestOldRun_0 29 rfl) (by decide) (b := 46) rfl) ?_
        refine rc_p (p_iconst (v := (-1)) (dk_at ktX7_longestOldRun_0 30 rfl) (by decide) (b := 47) rfl) ?_
        refine r_iV (As' := [.int v, .int (nI c), .int (-1), .int 0, .int (-1)]) (rest := []) (s_X7_after hm (σ := σ) (show RelW (Iz (m + 1)) σ from hRz) hI v false (nI c) (-1) (n_i (by omega)) m1_i) cw_X7_406 qi_X7_after qv_X7_after rfl hm.l0 hm.s0 (dk_at ktX7_longestOldRun_0 31 rfl) rfl rfl (Nat.le_of_ble_eq_true rfl) (by decide) (b := 50) rfl (fun v4 I1 J2 q3 => ?_)
        obtain ⟨ef5, rfl, hR6, h277, hF8⟩ := q3
        refine rc_p (p_istore (ls' := [(6, .int v4), (3, .int (nI q)), (4, .int (nI r)), (5, .int (nI c)), (0, .ref m), (1, .int v)]) (dk_at ktX7_longestOldRun_0 32 rfl) (by decide) rfl (b := 52) rfl) ?_
        refine rc_p (p_iload 0 (dk_at ktX7_longestOldRun_0 33 rfl) rfl (b := 54) rfl) ?_
        refine rc_p (p_aload_n 4 (dk_at ktX7_longestOldRun_0 34 rfl) rfl rfl (b := 55) rfl) ?_
        refine r_geta fl_X7_9 rfl hm.l0 hm.s0 (dk_at ktX7_longestOldRun_0 35 rfl) hm.g0_0 (b := 58) rfl ?_
        refine rc_p (p_bipush (v := 8) (dk_at ktX7_longestOldRun_0 36 rfl) (by decide) (b := 60) rfl) ?_
        refine r_iald (j := 8) (hm.lt 1 (by decide)) hm.s1 (dk_at ktX7_longestOldRun_0 37 rfl) rfl ⟨by decide, by decide⟩ (v := (σ 8)) (hR6.1 8 (by decide)) (b := 61) rfl ?_
        refine r_icmp_ne (dk_at ktX7_longestOldRun_0 38 rfl) (b := 71) (by decide) (b2 := 64) rfl (fun c61 => ?_) (fun c61 => ?_)
        · skip
          refine rc_p (p_iconst (v := 0) (dk_at ktX7_longestOldRun_0 43 rfl) (by decide) (b := 72) rfl) ?_
          refine rc_p (p_istore (ls' := [(4, .int 0), (6, .int v4), (3, .int (nI q)), (5, .int (nI c)), (0, .ref m), (1, .int v)]) (dk_at ktX7_longestOldRun_0 44 rfl) (by decide) rfl (b := 74) rfl) ?_
          refine rc_p (p_iload_n 2 (dk_at ktX7_longestOldRun_0 45 rfl) rfl rfl (b := 75) rfl) ?_
          refine rc_p (p_iload 0 (dk_at ktX7_longestOldRun_0 46 rfl) rfl (b := 77) rfl) ?_
          refine r_mmax (v := (if (nI q) < 0 then 0 else (nI q))) qm_X7_232 qmax_s qmath_n qmax_c (dk_at ktX7_longestOldRun_0 47 rfl) ⟨by decide, Nat.le_of_ble_eq_true rfl⟩ rfl (b := 80) rfl ?_
          refine r_val (y := nI q) ((max_nI (a := q) (b := 0) (by omega) (by decide)).trans (congrArg nI (Nat.max_eq_left (Nat.zero_le _)))) ?_
          refine rc_p (p_istore_n (ls' := [(3, .int (nI q)), (4, .int 0), (6, .int v4), (5, .int (nI c)), (0, .ref m), (1, .int v)]) (dk_at ktX7_longestOldRun_0 48 rfl) rfl (by decide) rfl (b := 81) rfl) ?_
          refine rc_p (p_iinc (j := 3) (v := (nI (c + 1))) (ls' := [(5, .int (nI (c + 1))), (3, .int (nI q)), (4, .int 0), (6, .int v4), (0, .ref m), (1, .int v)]) (dk_at ktX7_longestOldRun_0 49 rfl) rfl (nI_add c 1) (by decide) rfl (b := 84) rfl) ?_
          refine rc_p (p_goto (b := 33) (dk_at ktX7_longestOldRun_0 50 rfl) (by decide)) ?_
          refine rc_sub [1, 2, 0, 3, 4, 5] (ls' := [(3, .int (nI q)), (4, .int 0), (5, .int (nI (c + 1))), (6, .int v4), (0, .ref m), (1, .int v)]) rfl ?_
          have hy : loR v σ c r = 0 := if_neg (fun q => c61 (ef5.symm.trans q))
          have hL : ¬ fuA v false σ c = -2 → loS v σ (1001 - c) c r q = loS v σ (1001 - (c + 1)) (c + 1) (0) (q) := fun q2 => by
            have := loS_g (r := r) (m := q) (by omega) q2
            rw [hy, Nat.max_eq_left (Nat.zero_le _)] at this
            exact this
          exact ih (c + 1) (0) (q) _ I1 (show RelW (I1 (m + 1)) σ from hR6) (((hF8.2 6 (by decide))).trans h6z) (FF.tr hFz (hF8.mo (by decide) (by decide))) (by omega) (fun q => ⟨by have := fuA_lt (thr := false) (c := c) hI he0 (by omega) (fun q2 => q (ef5.symm.trans q2)); omega, by omega, by omega, hx.2.2.2.trans (congrArg nI (hL (fun q2 => q (ef5.symm.trans q2))))⟩) (fun q => by
            have e2 : fuA v false σ c = -2 := ef5.trans q
            exact hx.2.2.2.trans (congrArg nI (loS_e (by omega) e2)))
        · skip
          refine rc_p (p_iload 2 (dk_at ktX7_longestOldRun_0 39 rfl) rfl (b := 66) rfl) ?_
          refine rc_p (p_iconst (v := 1) (dk_at ktX7_longestOldRun_0 40 rfl) (by decide) (b := 67) rfl) ?_
          refine rc_p (p_iadd (v := (nI (r + 1))) (dk_at ktX7_longestOldRun_0 41 rfl) (nI_add r 1) (b := 68) rfl) ?_
          refine rc_p (p_goto (b := 72) (dk_at ktX7_longestOldRun_0 42 rfl) (by decide)) ?_
          refine rc_p (p_istore (ls' := [(4, .int (nI (r + 1))), (6, .int v4), (3, .int (nI q)), (5, .int (nI c)), (0, .ref m), (1, .int v)]) (dk_at ktX7_longestOldRun_0 44 rfl) (by decide) rfl (b := 74) rfl) ?_
          refine rc_p (p_iload_n 2 (dk_at ktX7_longestOldRun_0 45 rfl) rfl rfl (b := 75) rfl) ?_
          refine rc_p (p_iload 0 (dk_at ktX7_longestOldRun_0 46 rfl) rfl (b := 77) rfl) ?_
          refine r_mmax (v := (if (nI q) < (nI (r + 1)) then (nI (r + 1)) else (nI q))) qm_X7_232 qmax_s qmath_n qmax_c (dk_at ktX7_longestOldRun_0 47 rfl) ⟨by decide, Nat.le_of_ble_eq_true rfl⟩ rfl (b := 80) rfl ?_
          refine r_val (y := nI (max q (r + 1))) (max_nI (by omega) (by omega)) ?_
          refine rc_p (p_istore_n (ls' := [(3, .int (nI (max q (r + 1)))), (4, .int (nI (r + 1))), (6, .int v4), (5, .int (nI c)), (0, .ref m), (1, .int v)]) (dk_at ktX7_longestOldRun_0 48 rfl) rfl (by decide) rfl (b := 81) rfl) ?_
          refine rc_p (p_iinc (j := 3) (v := (nI (c + 1))) (ls' := [(5, .int (nI (c + 1))), (3, .int (nI (max q (r + 1)))), (4, .int (nI (r + 1))), (6, .int v4), (0, .ref m), (1, .int v)]) (dk_at ktX7_longestOldRun_0 49 rfl) rfl (nI_add c 1) (by decide) rfl (b := 84) rfl) ?_
          refine rc_p (p_goto (b := 33) (dk_at ktX7_longestOldRun_0 50 rfl) (by decide)) ?_
          refine rc_sub [1, 2, 0, 3, 4, 5] (ls' := [(3, .int (nI (max q (r + 1)))), (4, .int (nI (r + 1))), (5, .int (nI (c + 1))), (6, .int v4), (0, .ref m), (1, .int v)]) rfl ?_
          have hy : loR v σ c r = r + 1 := if_pos (ef5.trans c61)
          have hL : ¬ fuA v false σ c = -2 → loS v σ (1001 - c) c r q = loS v σ (1001 - (c + 1)) (c + 1) (r + 1) (max q (r + 1)) := fun q2 => by
            have := loS_g (r := r) (m := q) (by omega) q2
            rw [hy] at this
            exact this
          exact ih (c + 1) (r + 1) (max q (r + 1)) _ I1 (show RelW (I1 (m + 1)) σ from hR6) (((hF8.2 6 (by decide))).trans h6z) (FF.tr hFz (hF8.mo (by decide) (by decide))) (by omega) (fun q => ⟨by have := fuA_lt (thr := false) (c := c) hI he0 (by omega) (fun q2 => q (ef5.symm.trans q2)); omega, by omega, by omega, hx.2.2.2.trans (congrArg nI (hL (fun q2 => q (ef5.symm.trans q2))))⟩) (fun q => by
            have e2 : fuA v false σ c = -2 := ef5.trans q
            exact absurd (e2.symm.trans (ef5.trans c61)) h18)
    refine rc_p (p_aload_n 0 (dk_at ktX7_longestOldRun_0 0 rfl) rfl rfl (b := 1) rfl) ?_
    refine rc_p (p_iload_n 1 (dk_at ktX7_longestOldRun_0 1 rfl) rfl rfl (b := 2) rfl) ?_
    refine r_iV (As' := [.int v]) (rest := []) (s_X7_noVersion hm (σ := σ) hR hI v) cw_X7_352 qi_X7_noVersion qv_X7_noVersion rfl hm.l0 hm.s0 (dk_at ktX7_longestOldRun_0 2 rfl) rfl rfl (Nat.le_of_ble_eq_true rfl) (by decide) (b := 5) rfl (fun v12 I9 J10 q11 => ?_)
    obtain ⟨rfl, rfl, hR13, hF14, h615⟩ := q11
    refine r_val (y := 0) (by rw [hib]; rfl) ?_
    have h616 : I9 m 6 = 0 := h615.trans (by rw [hib]; rfl)
    refine r_if_eq (dk_at ktX7_longestOldRun_0 3 rfl) (b := 10) (by decide) (b2 := 8) rfl (fun c5 => ?_) (fun c5 => ?_)
    · skip
      refine rc_p (p_aload_n 0 (dk_at ktX7_longestOldRun_0 6 rfl) rfl rfl (b := 11) rfl) ?_
      refine rc_p (p_iload_n 1 (dk_at ktX7_longestOldRun_0 7 rfl) rfl rfl (b := 12) rfl) ?_
      refine r_iV (As' := [.int v]) (rest := []) (s_X7_errorOf hm (σ := σ) hR13 hI v) cw_X7_340 qi_X7_errorOf qv_X7_errorOf rfl hm.l0 hm.s0 (dk_at ktX7_longestOldRun_0 8 rfl) rfl rfl (Nat.le_of_ble_eq_true rfl) (by decide) (b := 15) rfl (fun v20 I17 J18 q19 => ?_)
      obtain ⟨ee24, rfl, hR23, hT21, hF22⟩ := q19
      refine rc_p (p_istore_n (ls' := [(2, .int v20), (0, .ref m), (1, .int v)]) (dk_at ktX7_longestOldRun_0 9 rfl) rfl (by decide) rfl (b := 16) rfl) ?_
      refine rc_p (p_iload_n 0 (dk_at ktX7_longestOldRun_0 10 rfl) rfl rfl (b := 17) rfl) ?_
      refine r_if_eq (dk_at ktX7_longestOldRun_0 11 rfl) (b := 22) (by decide) (b2 := 20) rfl (fun c17 => ?_) (fun c17 => ?_)
      · skip
        refine rc_p (p_iconst (v := 0) (dk_at ktX7_longestOldRun_0 14 rfl) (by decide) (b := 23) rfl) ?_
        refine rc_p (p_istore_n (ls' := [(3, .int 0), (2, .int v20), (0, .ref m), (1, .int v)]) (dk_at ktX7_longestOldRun_0 15 rfl) rfl (by decide) rfl (b := 24) rfl) ?_
        refine rc_p (p_iconst (v := 0) (dk_at ktX7_longestOldRun_0 16 rfl) (by decide) (b := 25) rfl) ?_
        refine rc_p (p_istore (ls' := [(4, .int 0), (3, .int 0), (2, .int v20), (0, .ref m), (1, .int v)]) (dk_at ktX7_longestOldRun_0 17 rfl) (by decide) rfl (b := 27) rfl) ?_
        refine rc_p (p_iconst (v := 0) (dk_at ktX7_longestOldRun_0 18 rfl) (by decide) (b := 28) rfl) ?_
        refine rc_p (p_istore (ls' := [(5, .int 0), (4, .int 0), (3, .int 0), (2, .int v20), (0, .ref m), (1, .int v)]) (dk_at ktX7_longestOldRun_0 19 rfl) (by decide) rfl (b := 30) rfl) ?_
        refine rc_p (p_iconst (v := 0) (dk_at ktX7_longestOldRun_0 20 rfl) (by decide) (b := 31) rfl) ?_
        refine rc_p (p_istore (ls' := [(6, .int 0), (5, .int 0), (4, .int 0), (3, .int 0), (2, .int v20), (0, .ref m), (1, .int v)]) (dk_at ktX7_longestOldRun_0 21 rfl) (by decide) rfl (b := 33) rfl) ?_
        refine rc_sub [3, 2, 1, 0, 5, 6] (ls' := [(3, .int 0), (4, .int 0), (5, .int 0), (6, .int 0), (0, .ref m), (1, .int v)]) rfl ?_
        have he0 : errU v σ = 0 := ee24.trans c17
        exact cut33 he0 1000 0 0 0 _ I17 (show RelW (I17 (m + 1)) σ from hR23) (((hF22.2 6 (by decide))).trans h616) (FF.tr (FF.tr FF.rf (hF14.mo (by decide) (by decide))) (hF22.mo (by decide) (by decide))) (by omega) (fun _ => ⟨by omega, by omega, by omega, if_pos he0⟩) (fun q => absurd q (by decide))
      · skip
        refine rc_p (p_iload_n 0 (dk_at ktX7_longestOldRun_0 12 rfl) rfl rfl (b := 21) rfl) ?_
        refine r_iret (dk_at ktX7_longestOldRun_0 13 rfl) rfl rfl ⟨_, rfl, ?_⟩
        refine ⟨fun _ => ?_, Eq.trans (((hF22.2 6 (by decide))).trans h616) (by exact (cIn_t hib).symm), rfl, (show RelW (I17 (m + 1)) σ from hR23), (FF.tr (FF.tr FF.rf (hF14.mo (by decide) (by decide))) (hF22.mo (by decide) (by decide)))⟩
        unfold a_lo; rw [if_neg (fun q => c17 (ee24.symm.trans q)), ee24]
    · first | exact absurd c5 (by decide) | exact absurd (by decide) c5
  · refine Sp.of (by decide) (ls := [(0, .ref m), (1, .int v)]) (fun _ => rfl) (fun _ => Nat.le_of_ble_eq_true rfl) ?_
    refine rc_p (p_aload_n 0 (dk_at ktX7_longestOldRun_0 0 rfl) rfl rfl (b := 1) rfl) ?_
    refine rc_p (p_iload_n 1 (dk_at ktX7_longestOldRun_0 1 rfl) rfl rfl (b := 2) rfl) ?_
    refine r_iV (As' := [.int v]) (rest := []) (s_X7_noVersion hm (σ := σ) hR hI v) cw_X7_352 qi_X7_noVersion qv_X7_noVersion rfl hm.l0 hm.s0 (dk_at ktX7_longestOldRun_0 2 rfl) rfl rfl (Nat.le_of_ble_eq_true rfl) (by decide) (b := 5) rfl (fun v28 I25 J26 q27 => ?_)
    obtain ⟨rfl, rfl, hR29, hF30, h631⟩ := q27
    refine r_val (y := 1) (by rw [hw]; rfl) ?_
    have h632 : I25 m 6 = 1 := h631.trans (by rw [hw]; rfl)
    refine r_if_eq (dk_at ktX7_longestOldRun_0 3 rfl) (b := 10) (by decide) (b2 := 8) rfl (fun c5 => ?_) (fun c5 => ?_)
    · first | exact absurd c5 (by decide) | exact absurd (by decide) c5
    · skip
      refine rc_p (p_iconst (v := 0) (dk_at ktX7_longestOldRun_0 4 rfl) (by decide) (b := 9) rfl) ?_
      refine r_iret (dk_at ktX7_longestOldRun_0 5 rfl) rfl rfl ⟨_, rfl, ?_⟩
      refine ⟨fun hz => ?_, ?_, rfl, ?_, (hF30.mo (by decide) (by decide))⟩
      · exact absurd (hz.symm.trans (cIn_f hw)) (by decide)
      · exact Eq.trans h632 (by exact (cIn_f hw).symm)
      · exact hR29

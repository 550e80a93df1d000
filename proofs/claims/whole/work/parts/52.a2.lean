/-! THE REFERENCE: its calls, more of them -/
set_option maxRecDepth 4000 in
set_option maxHeartbeats 4000000 in
theorem s_X7_off {n : Nat} {sh : mS} {G : mG} {I : mI} {J : mJ} {m : Nat} {σ : sT} (hm : ModG n sh G m) (hR : RelW (I (m + 1)) σ) (hI : Inv σ)  : Sp yX7_off cX7_off 2 (some FieldType.boolean) 1 48 0 0 [.ref m] n sh G I J (Qi (fun r_ I_ J_ => (0 = 0 → bi (!decide (σ 7 = 0)) = r_) ∧ I_ m 6 = 0 ∧ J = J_ ∧ RelW (I_ (m + 1)) (sOff σ) ∧ FF m [1, 2, 8] [6, 18, 19, 20, 21, 22, 23, 24, 26, 27] I I_)) nX := by
  have hb := hI.bd
  refine Sp.of (by decide) (ls := [(0, .ref m)]) (fun _ => rfl) (fun _ => Nat.le_of_ble_eq_true rfl) ?_
  refine rc_p (p_aload_n 0 (dk_at ktX7_off_0 0 rfl) rfl rfl (b := 1) rfl) ?_
  refine rc_p (p_iconst (v := 0) (dk_at ktX7_off_0 1 rfl) (by decide) (b := 2) rfl) ?_
  refine r_puti fl_X7_46 fw_X7_6 rfl hm.l0 hm.s0 rfl rfl (dk_at ktX7_off_0 2 rfl) (b := 5) rfl ?_
  refine rc_p (p_aload_n 0 (dk_at ktX7_off_0 3 rfl) rfl rfl (b := 6) rfl) ?_
  refine r_geta fl_X7_9 rfl hm.l0 hm.s0 (dk_at ktX7_off_0 4 rfl) hm.g0_0 (b := 9) rfl ?_
  refine rc_p (p_bipush (v := 7) (dk_at ktX7_off_0 5 rfl) (by decide) (b := 11) rfl) ?_
  refine r_iald (j := 7) (hm.lt 1 (by decide)) hm.s1 (dk_at ktX7_off_0 6 rfl) rfl ⟨by decide, by decide⟩ (v := (σ 7)) ((up2_n (by omega)).trans (hR.1 7 (by decide))) (b := 12) rfl ?_
  refine r_if_eq (dk_at ktX7_off_0 7 rfl) (b := 19) (by decide) (b2 := 15) rfl (fun c12 => ?_) (fun c12 => ?_)
  · skip
    refine rc_p (p_iconst (v := 0) (dk_at ktX7_off_0 10 rfl) (by decide) (b := 20) rfl) ?_
    refine rc_p (p_istore_n (ls' := [(1, .int 0), (0, .ref m)]) (dk_at ktX7_off_0 11 rfl) rfl (by decide) rfl (b := 21) rfl) ?_
    refine rc_p (p_aload_n 1 (dk_at ktX7_off_0 12 rfl) rfl rfl (b := 22) rfl) ?_
    refine r_geta fl_X7_9 rfl hm.l0 hm.s0 (dk_at ktX7_off_0 13 rfl) hm.g0_0 (b := 25) rfl ?_
    refine rc_p (p_bipush (v := 7) (dk_at ktX7_off_0 14 rfl) (by decide) (b := 27) rfl) ?_
    refine rc_p (p_iconst (v := 0) (dk_at ktX7_off_0 15 rfl) (by decide) (b := 28) rfl) ?_
    refine r_iast (j := 7) (hm.lt 1 (by decide)) hm.s1 (dk_at ktX7_off_0 16 rfl) rfl ⟨by decide, by decide⟩ (b := 29) rfl ?_
    refine rc_p (p_aload_n 1 (dk_at ktX7_off_0 17 rfl) rfl rfl (b := 30) rfl) ?_
    refine r_geta fl_X7_9 rfl hm.l0 hm.s0 (dk_at ktX7_off_0 18 rfl) hm.g0_0 (b := 33) rfl ?_
    refine rc_p (p_bipush (v := 8) (dk_at ktX7_off_0 19 rfl) (by decide) (b := 35) rfl) ?_
    refine rc_p (p_iconst (v := (-1)) (dk_at ktX7_off_0 20 rfl) (by decide) (b := 36) rfl) ?_
    refine r_iast (j := 8) (hm.lt 1 (by decide)) hm.s1 (dk_at ktX7_off_0 21 rfl) rfl ⟨by decide, by decide⟩ (b := 37) rfl ?_
    refine rc_p (p_iload_n 0 (dk_at ktX7_off_0 22 rfl) rfl rfl (b := 38) rfl) ?_
    refine r_iret (dk_at ktX7_off_0 23 rfl) rfl rfl ⟨_, rfl, ?_⟩
    refine ⟨fun hz => ?_, ?_, rfl, ?_, (FF.ua (FF.ua (FF.uf FF.rf (by decide)) (by decide) (by decide)) (by decide) (by decide))⟩
    · simp_all [bi]
    · exact Eq.trans ((up2_n (by omega)).trans ((up2_n (by omega)).trans up2_s)) (by rfl)
    · exact (by rw [up2_row]; exact RelW.up (by rw [up2_row]; exact RelW.up (by rw [up2_off (by omega)]; exact hR) (by first | decide | omega) (by first | decide | omega)) (by first | decide | omega) (by first | decide | omega))
  · skip
    refine rc_p (p_iconst (v := 1) (dk_at ktX7_off_0 8 rfl) (by decide) (b := 16) rfl) ?_
    refine rc_p (p_goto (b := 20) (dk_at ktX7_off_0 9 rfl) (by decide)) ?_
    refine rc_p (p_istore_n (ls' := [(1, .int 1), (0, .ref m)]) (dk_at ktX7_off_0 11 rfl) rfl (by decide) rfl (b := 21) rfl) ?_
    refine rc_p (p_aload_n 1 (dk_at ktX7_off_0 12 rfl) rfl rfl (b := 22) rfl) ?_
    refine r_geta fl_X7_9 rfl hm.l0 hm.s0 (dk_at ktX7_off_0 13 rfl) hm.g0_0 (b := 25) rfl ?_
    refine rc_p (p_bipush (v := 7) (dk_at ktX7_off_0 14 rfl) (by decide) (b := 27) rfl) ?_
    refine rc_p (p_iconst (v := 0) (dk_at ktX7_off_0 15 rfl) (by decide) (b := 28) rfl) ?_
    refine r_iast (j := 7) (hm.lt 1 (by decide)) hm.s1 (dk_at ktX7_off_0 16 rfl) rfl ⟨by decide, by decide⟩ (b := 29) rfl ?_
    refine rc_p (p_aload_n 1 (dk_at ktX7_off_0 17 rfl) rfl rfl (b := 30) rfl) ?_
    refine r_geta fl_X7_9 rfl hm.l0 hm.s0 (dk_at ktX7_off_0 18 rfl) hm.g0_0 (b := 33) rfl ?_
    refine rc_p (p_bipush (v := 8) (dk_at ktX7_off_0 19 rfl) (by decide) (b := 35) rfl) ?_
    refine rc_p (p_iconst (v := (-1)) (dk_at ktX7_off_0 20 rfl) (by decide) (b := 36) rfl) ?_
    refine r_iast (j := 8) (hm.lt 1 (by decide)) hm.s1 (dk_at ktX7_off_0 21 rfl) rfl ⟨by decide, by decide⟩ (b := 37) rfl ?_
    refine rc_p (p_iload_n 0 (dk_at ktX7_off_0 22 rfl) rfl rfl (b := 38) rfl) ?_
    refine r_iret (dk_at ktX7_off_0 23 rfl) rfl rfl ⟨_, rfl, ?_⟩
    refine ⟨fun hz => ?_, ?_, rfl, ?_, (FF.ua (FF.ua (FF.uf FF.rf (by decide)) (by decide) (by decide)) (by decide) (by decide))⟩
    · simp_all [bi]
    · exact Eq.trans ((up2_n (by omega)).trans ((up2_n (by omega)).trans up2_s)) (by rfl)
    · exact (by rw [up2_row]; exact RelW.up (by rw [up2_row]; exact RelW.up (by rw [up2_off (by omega)]; exact hR) (by first | decide | omega) (by first | decide | omega)) (by first | decide | omega) (by first | decide | omega))
set_option maxRecDepth 4000 in
set_option maxHeartbeats 4000000 in
theorem s_X7_setPower {n : Nat} {sh : mS} {G : mG} {I : mI} {J : mJ} {m : Nat} {σ : sT} (hm : ModG n sh G m) (hR : RelW (I (m + 1)) σ) (hI : Inv σ) (p : Int32) : Sp yX7_setPower cX7_setPower 3 (some FieldType.int) 2 96 0 0 [.ref m, .int p] n sh G I J (Qi (fun r_ I_ J_ => (cIn p (-1) 100000 = 0 → σ 6 = r_) ∧ I_ m 6 = cIn p (-1) 100000 ∧ J = J_ ∧ RelW (I_ (m + 1)) (t_power σ p) ∧ FF m [1, 2, 8] [6, 18, 19, 20, 21, 22, 23, 24, 26, 27] I I_)) nX := by
  have hb := hI.bd
  refine Sp.of (by decide) (ls := [(0, .ref m), (1, .int p)]) (fun _ => rfl) (fun _ => Nat.le_of_ble_eq_true rfl) ?_
  refine rc_p (p_aload_n 0 (dk_at ktX7_setPower_0 0 rfl) rfl rfl (b := 1) rfl) ?_
  refine rc_p (p_iconst (v := 0) (dk_at ktX7_setPower_0 1 rfl) (by decide) (b := 2) rfl) ?_
  refine r_puti fl_X7_46 fw_X7_6 rfl hm.l0 hm.s0 rfl rfl (dk_at ktX7_setPower_0 2 rfl) (b := 5) rfl ?_
  refine rc_p (p_aload_n 0 (dk_at ktX7_setPower_0 3 rfl) rfl rfl (b := 6) rfl) ?_
  refine rc_p (p_iload_n 1 (dk_at ktX7_setPower_0 4 rfl) rfl rfl (b := 7) rfl) ?_
  refine rc_p (p_i2l (v := (Int32.toInt64 p)) (dk_at ktX7_setPower_0 5 rfl) rfl (b := 8) rfl) ?_
  refine rc_p (p_ldc2 (v := -1) ql_TwinBootModel_300 (dk_at ktX7_setPower_0 6 rfl) (b := 11) rfl) ?_
  refine rc_p (p_ldc2 (v := 100000) ql_TwinBootModel_302 (dk_at ktX7_setPower_0 7 rfl) (b := 14) rfl) ?_
  refine r_iS (As := [.long (Int32.toInt64 p), .long (-1), .long 100000]) (rest := [.ref m]) (s_X7_in (Int32.toInt64 p) (-1) 100000) cw_X7_73 qs_X7_in (dk_at ktX7_setPower_0 8 rfl) rfl rfl (Nat.le_of_ble_eq_true rfl) (by decide) (b := 17) rfl (fun v4 I1 J2 q3 => ?_)
  obtain ⟨rfl, rfl, rfl⟩ := q3
  refine r_val (y := bi (inI p (-1) 100000)) (congrArg bi (inJ_I p (-1) 100000)) ?_
  refine r_if_ne (dk_at ktX7_setPower_0 9 rfl) (b := 24) (by decide) (b2 := 20) rfl (fun c17 => ?_) (fun c17 => ?_)
  · have c17 := bi_t c17
    refine rc_p (p_iconst (v := 0) (dk_at ktX7_setPower_0 12 rfl) (by decide) (b := 25) rfl) ?_
    refine rc_p (p_iconst (v := 1) (dk_at ktX7_setPower_0 13 rfl) (by decide) (b := 26) rfl) ?_
    refine r_iV (As' := [.int 0, .int 1]) (rest := []) (s_X7_throwsIf hm (σ := σ) (by rw [up2_off (by omega)]; exact hR) hI up2_s false 1 (by decide)) cw_X7_190 qi_X7_throwsIf qv_X7_throwsIf rfl hm.l0 hm.s0 (dk_at ktX7_setPower_0 14 rfl) rfl rfl (Nat.le_of_ble_eq_true rfl) (by decide) (b := 29) rfl (fun v8 I5 J6 q7 => ?_)
    obtain ⟨rfl, rfl, hR9, hF10, h611⟩ := q7
    refine r_val (y := 0) rfl ?_
    refine r_if_eq (dk_at ktX7_setPower_0 15 rfl) (b := 34) (by decide) (b2 := 32) rfl (fun c29 => ?_) (fun c29 => ?_)
    · skip
      refine rc_p (p_aload_n 0 (dk_at ktX7_setPower_0 18 rfl) rfl rfl (b := 35) rfl) ?_
      refine r_geta fl_X7_9 rfl hm.l0 hm.s0 (dk_at ktX7_setPower_0 19 rfl) hm.g0_0 (b := 38) rfl ?_
      refine rc_p (p_bipush (v := 6) (dk_at ktX7_setPower_0 20 rfl) (by decide) (b := 40) rfl) ?_
      refine r_iald (j := 6) (hm.lt 1 (by decide)) hm.s1 (dk_at ktX7_setPower_0 21 rfl) rfl ⟨by decide, by decide⟩ (v := (σ 6)) (hR9.1 6 (by decide)) (b := 41) rfl ?_
      refine rc_p (p_istore_n (ls' := [(2, .int (σ 6)), (0, .ref m), (1, .int p)]) (dk_at ktX7_setPower_0 22 rfl) rfl (by decide) rfl (b := 42) rfl) ?_
      refine rc_p (p_aload_n 1 (dk_at ktX7_setPower_0 23 rfl) rfl rfl (b := 43) rfl) ?_
      refine r_geta fl_X7_9 rfl hm.l0 hm.s0 (dk_at ktX7_setPower_0 24 rfl) hm.g0_0 (b := 46) rfl ?_
      refine rc_p (p_bipush (v := 6) (dk_at ktX7_setPower_0 25 rfl) (by decide) (b := 48) rfl) ?_
      refine rc_p (p_iload_n 2 (dk_at ktX7_setPower_0 26 rfl) rfl rfl (b := 49) rfl) ?_
      refine r_iast (j := 6) (hm.lt 1 (by decide)) hm.s1 (dk_at ktX7_setPower_0 27 rfl) rfl ⟨by decide, by decide⟩ (b := 50) rfl ?_
      refine rc_p (p_iload_n 0 (dk_at ktX7_setPower_0 28 rfl) rfl rfl (b := 51) rfl) ?_
      refine r_iret (dk_at ktX7_setPower_0 29 rfl) rfl rfl ⟨_, rfl, ?_⟩
      refine ⟨fun hz => ?_, ?_, rfl, ?_, (FF.ua (FF.tr (FF.uf FF.rf (by decide)) (hF10.mo (by decide) (by decide))) (by decide) (by decide))⟩
      · rfl
      · exact Eq.trans ((up2_n (by omega)).trans h611) (by exact (cIn_t c17).symm)
      · rw [show t_power σ p = upd σ 6 p from if_pos c17]; exact (by rw [up2_row]; exact RelW.up hR9 (by first | decide | omega) (by first | decide | omega))
    · first | exact absurd c29 (by decide) | exact absurd (by decide) c29
  · have c17 := bi_f c17
    refine rc_p (p_iconst (v := 1) (dk_at ktX7_setPower_0 10 rfl) (by decide) (b := 21) rfl) ?_
    refine rc_p (p_goto (b := 25) (dk_at ktX7_setPower_0 11 rfl) (by decide)) ?_
    refine rc_p (p_iconst (v := 1) (dk_at ktX7_setPower_0 13 rfl) (by decide) (b := 26) rfl) ?_
    refine r_iV (As' := [.int 1, .int 1]) (rest := []) (s_X7_throwsIf hm (σ := σ) (by rw [up2_off (by omega)]; exact hR) hI up2_s true 1 (by decide)) cw_X7_190 qi_X7_throwsIf qv_X7_throwsIf rfl hm.l0 hm.s0 (dk_at ktX7_setPower_0 14 rfl) rfl rfl (Nat.le_of_ble_eq_true rfl) (by decide) (b := 29) rfl (fun v15 I12 J13 q14 => ?_)
    obtain ⟨rfl, rfl, hR16, hF17, h618⟩ := q14
    refine r_val (y := 1) rfl ?_
    refine r_if_eq (dk_at ktX7_setPower_0 15 rfl) (b := 34) (by decide) (b2 := 32) rfl (fun c29 => ?_) (fun c29 => ?_)
    · first | exact absurd c29 (by decide) | exact absurd (by decide) c29
    · skip
      refine rc_p (p_iconst (v := 0) (dk_at ktX7_setPower_0 16 rfl) (by decide) (b := 33) rfl) ?_
      refine r_iret (dk_at ktX7_setPower_0 17 rfl) rfl rfl ⟨_, rfl, ?_⟩
      refine ⟨fun hz => ?_, ?_, rfl, ?_, (FF.tr (FF.uf FF.rf (by decide)) (hF17.mo (by decide) (by decide)))⟩
      · exact absurd (hz.symm.trans (cIn_f c17)) (by decide)
      · exact Eq.trans h618 (by exact (cIn_f c17).symm)
      · rw [show t_power σ p = σ from if_neg (by rw [c17]; decide)]; exact hR16
set_option maxRecDepth 4000 in
set_option maxHeartbeats 4000000 in
theorem s_X7_stage {n : Nat} {sh : mS} {G : mG} {I : mI} {J : mJ} {m : Nat} {σ : sT} (hm : ModG n sh G m) (hR : RelW (I (m + 1)) σ) (hI : Inv σ) (w : Int32) : Sp yX7_stage cX7_stage 2 (some FieldType.int) 2 96 0 0 [.ref m, .int w] n sh G I J (Qi (fun r_ I_ J_ => (cIn w 0 65535 = 0 → a_stage σ w = r_) ∧ I_ m 6 = cIn w 0 65535 ∧ J = J_ ∧ RelW (I_ (m + 1)) (t_stage σ w) ∧ FF m [1, 2, 8] [6, 18, 19, 20, 21, 22, 23, 24, 26, 27] I I_)) nX := by
  have hb := hI.bd
  refine Sp.of (by decide) (ls := [(0, .ref m), (1, .int w)]) (fun _ => rfl) (fun _ => Nat.le_of_ble_eq_true rfl) ?_
  refine rc_p (p_aload_n 0 (dk_at ktX7_stage_0 0 rfl) rfl rfl (b := 1) rfl) ?_
  refine rc_p (p_iconst (v := 0) (dk_at ktX7_stage_0 1 rfl) (by decide) (b := 2) rfl) ?_
  refine r_puti fl_X7_46 fw_X7_6 rfl hm.l0 hm.s0 rfl rfl (dk_at ktX7_stage_0 2 rfl) (b := 5) rfl ?_
  refine rc_p (p_aload_n 0 (dk_at ktX7_stage_0 3 rfl) rfl rfl (b := 6) rfl) ?_
  refine rc_p (p_iload_n 1 (dk_at ktX7_stage_0 4 rfl) rfl rfl (b := 7) rfl) ?_
  refine rc_p (p_i2l (v := (Int32.toInt64 w)) (dk_at ktX7_stage_0 5 rfl) rfl (b := 8) rfl) ?_
  refine rc_p (p_lconst (v := 0) (dk_at ktX7_stage_0 6 rfl) (by decide) (b := 9) rfl) ?_
  refine rc_p (p_ldc2 (v := 65535) ql_TwinBootModel_188 (dk_at ktX7_stage_0 7 rfl) (b := 12) rfl) ?_
  refine r_iS (As := [.long (Int32.toInt64 w), .long 0, .long 65535]) (rest := [.ref m]) (s_X7_in (Int32.toInt64 w) 0 65535) cw_X7_73 qs_X7_in (dk_at ktX7_stage_0 8 rfl) rfl rfl (Nat.le_of_ble_eq_true rfl) (by decide) (b := 15) rfl (fun v4 I1 J2 q3 => ?_)
  obtain ⟨rfl, rfl, rfl⟩ := q3
  refine r_val (y := bi (inI w 0 65535)) (congrArg bi (inJ_I w 0 65535)) ?_
  refine r_if_ne (dk_at ktX7_stage_0 9 rfl) (b := 22) (by decide) (b2 := 18) rfl (fun c15 => ?_) (fun c15 => ?_)
  · have c15 := bi_t c15
    refine rc_p (p_iconst (v := 0) (dk_at ktX7_stage_0 12 rfl) (by decide) (b := 23) rfl) ?_
    refine rc_p (p_iconst (v := 1) (dk_at ktX7_stage_0 13 rfl) (by decide) (b := 24) rfl) ?_
    refine r_iV (As' := [.int 0, .int 1]) (rest := []) (s_X7_throwsIf hm (σ := σ) (by rw [up2_off (by omega)]; exact hR) hI up2_s false 1 (by decide)) cw_X7_190 qi_X7_throwsIf qv_X7_throwsIf rfl hm.l0 hm.s0 (dk_at ktX7_stage_0 14 rfl) rfl rfl (Nat.le_of_ble_eq_true rfl) (by decide) (b := 27) rfl (fun v8 I5 J6 q7 => ?_)
    obtain ⟨rfl, rfl, hR9, hF10, h611⟩ := q7
    refine r_val (y := 0) rfl ?_
    refine r_if_eq (dk_at ktX7_stage_0 15 rfl) (b := 32) (by decide) (b2 := 30) rfl (fun c27 => ?_) (fun c27 => ?_)
    · skip
      refine rc_p (p_aload_n 0 (dk_at ktX7_stage_0 18 rfl) rfl rfl (b := 33) rfl) ?_
      refine r_geta fl_X7_9 rfl hm.l0 hm.s0 (dk_at ktX7_stage_0 19 rfl) hm.g0_0 (b := 36) rfl ?_
      refine rc_p (p_iconst (v := 4) (dk_at ktX7_stage_0 20 rfl) (by decide) (b := 37) rfl) ?_
      refine r_iald (j := 4) (hm.lt 1 (by decide)) hm.s1 (dk_at ktX7_stage_0 21 rfl) rfl ⟨by decide, by decide⟩ (v := (nI (nS σ))) ((hR9.1 4 (by decide)).trans hI.w4) (b := 38) rfl ?_
      refine rc_p (p_aload_n 0 (dk_at ktX7_stage_0 22 rfl) rfl rfl (b := 39) rfl) ?_
      refine r_geta fl_X7_9 rfl hm.l0 hm.s0 (dk_at ktX7_stage_0 23 rfl) hm.g0_0 (b := 42) rfl ?_
      refine rc_p (p_iconst (v := 0) (dk_at ktX7_stage_0 24 rfl) (by decide) (b := 43) rfl) ?_
      refine r_iald (j := 0) (hm.lt 1 (by decide)) hm.s1 (dk_at ktX7_stage_0 25 rfl) rfl ⟨by decide, by decide⟩ (v := (nI (nW σ))) ((hR9.1 0 (by decide)).trans hI.w0) (b := 44) rfl ?_
      refine rc_p (p_iconst (v := 3) (dk_at ktX7_stage_0 26 rfl) (by decide) (b := 45) rfl) ?_
      refine rc_p (p_isub (v := (nI (nW σ - 3))) (dk_at ktX7_stage_0 27 rfl) (pk_sub (a := nW σ) (b := 3) (by omega)) (b := 46) rfl) ?_
      refine r_icmp_ne (dk_at ktX7_stage_0 28 rfl) (b := 52) (by decide) (b2 := 49) rfl (fun c46 => ?_) (fun c46 => ?_)
      · have c46 : ¬ (nS σ) = (nW σ - 3) := fun h => c46 ((nI_eq (a := nS σ) (b := nW σ - 3) (by omega) (by omega)).mpr h)
        refine rc_p (p_aload_n 0 (dk_at ktX7_stage_0 31 rfl) rfl rfl (b := 53) rfl) ?_
        refine r_geta fl_X7_9 rfl hm.l0 hm.s0 (dk_at ktX7_stage_0 32 rfl) hm.g0_0 (b := 56) rfl ?_
        refine rc_p (p_bipush (v := 19) (dk_at ktX7_stage_0 33 rfl) (by decide) (b := 58) rfl) ?_
        refine rc_p (p_aload_n 0 (dk_at ktX7_stage_0 34 rfl) rfl rfl (b := 59) rfl) ?_
        refine r_geta fl_X7_9 rfl hm.l0 hm.s0 (dk_at ktX7_stage_0 35 rfl) hm.g0_0 (b := 62) rfl ?_
        refine rc_p (p_iconst (v := 4) (dk_at ktX7_stage_0 36 rfl) (by decide) (b := 63) rfl) ?_
        refine r_iald (j := 4) (hm.lt 1 (by decide)) hm.s1 (dk_at ktX7_stage_0 37 rfl) rfl ⟨by decide, by decide⟩ (v := (nI (nS σ))) ((hR9.1 4 (by decide)).trans hI.w4) (b := 64) rfl ?_
        refine rc_p (p_iadd (v := (nI (19 + (nS σ)))) (dk_at ktX7_stage_0 38 rfl) (nI_add 19 (nS σ)) (b := 65) rfl) ?_
        refine rc_p (p_iload_n 1 (dk_at ktX7_stage_0 39 rfl) rfl rfl (b := 66) rfl) ?_
        refine r_iast (j := 19 + (nS σ)) (hm.lt 1 (by decide)) hm.s1 (dk_at ktX7_stage_0 40 rfl) rfl ⟨by omega, by decide⟩ (b := 67) rfl ?_
        refine rc_p (p_aload_n 0 (dk_at ktX7_stage_0 41 rfl) rfl rfl (b := 68) rfl) ?_
        refine r_geta fl_X7_9 rfl hm.l0 hm.s0 (dk_at ktX7_stage_0 42 rfl) hm.g0_0 (b := 71) rfl ?_
        refine rc_p (p_iconst (v := 4) (dk_at ktX7_stage_0 43 rfl) (by decide) (b := 72) rfl) ?_
        refine rc_p (p_dup2 (dk_at ktX7_stage_0 44 rfl) rfl rfl (b := 73) rfl) ?_
        refine r_iald (j := 4) (hm.lt 1 (by decide)) hm.s1 (dk_at ktX7_stage_0 45 rfl) rfl ⟨by decide, by decide⟩ (v := (nI (nS σ))) ((up2_n (by omega)).trans ((hR9.1 4 (by decide)).trans hI.w4)) (b := 74) rfl ?_
        refine rc_p (p_iconst (v := 1) (dk_at ktX7_stage_0 46 rfl) (by decide) (b := 75) rfl) ?_
        refine rc_p (p_iadd (v := (nI (nS σ + 1))) (dk_at ktX7_stage_0 47 rfl) (nI_add (nS σ) 1) (b := 76) rfl) ?_
        refine r_iast (j := 4) (hm.lt 1 (by decide)) hm.s1 (dk_at ktX7_stage_0 48 rfl) rfl ⟨by decide, by decide⟩ (b := 77) rfl ?_
        refine rc_p (p_aload_n 0 (dk_at ktX7_stage_0 49 rfl) rfl rfl (b := 78) rfl) ?_
        refine r_geta fl_X7_9 rfl hm.l0 hm.s0 (dk_at ktX7_stage_0 50 rfl) hm.g0_0 (b := 81) rfl ?_
        refine rc_p (p_iconst (v := 4) (dk_at ktX7_stage_0 51 rfl) (by decide) (b := 82) rfl) ?_
        refine r_iald (j := 4) (hm.lt 1 (by decide)) hm.s1 (dk_at ktX7_stage_0 52 rfl) rfl ⟨by decide, by decide⟩ (v := (nI (nS σ + 1))) up2_s (b := 83) rfl ?_
        refine r_iret (dk_at ktX7_stage_0 53 rfl) rfl rfl ⟨_, rfl, ?_⟩
        refine ⟨fun hz => ?_, ?_, rfl, ?_, (FF.ua (FF.ua (FF.tr (FF.uf FF.rf (by decide)) (hF10.mo (by decide) (by decide))) (by decide) (by decide)) (by decide) (by decide))⟩
        · exact if_neg (by omega)
        · exact Eq.trans ((up2_n (by omega)).trans ((up2_n (by omega)).trans h611)) (by exact (cIn_t c15).symm)
        · rw [show t_stage σ w = upd (upd σ (19 + nS σ) w) 4 (nI (nS σ + 1)) from (if_pos c15).trans (if_neg (by omega))]; exact (by rw [up2_row]; exact RelW.up (by rw [up2_row]; exact RelW.up hR9 (by first | decide | omega) (by first | decide | omega)) (by first | decide | omega) (by first | decide | omega))
      · have c46 : (nS σ) = (nW σ - 3) := (nI_eq (a := nS σ) (b := nW σ - 3) (by omega) (by omega)).mp c46
        refine rc_p (p_bipush (v := (-2)) (dk_at ktX7_stage_0 29 rfl) (by decide) (b := 51) rfl) ?_
        refine r_iret (dk_at ktX7_stage_0 30 rfl) rfl rfl ⟨_, rfl, ?_⟩
        refine ⟨fun hz => ?_, ?_, rfl, ?_, (FF.tr (FF.uf FF.rf (by decide)) (hF10.mo (by decide) (by decide)))⟩
        · exact if_pos (by omega)
        · exact Eq.trans h611 (by exact (cIn_t c15).symm)
        · rw [show t_stage σ w = σ from (if_pos c15).trans (if_pos (by omega))]; exact hR9
    · first | exact absurd c27 (by decide) | exact absurd (by decide) c27
  · have c15 := bi_f c15
    refine rc_p (p_iconst (v := 1) (dk_at ktX7_stage_0 10 rfl) (by decide) (b := 19) rfl) ?_
    refine rc_p (p_goto (b := 23) (dk_at ktX7_stage_0 11 rfl) (by decide)) ?_
    refine rc_p (p_iconst (v := 1) (dk_at ktX7_stage_0 13 rfl) (by decide) (b := 24) rfl) ?_
    refine r_iV (As' := [.int 1, .int 1]) (rest := []) (s_X7_throwsIf hm (σ := σ) (by rw [up2_off (by omega)]; exact hR) hI up2_s true 1 (by decide)) cw_X7_190 qi_X7_throwsIf qv_X7_throwsIf rfl hm.l0 hm.s0 (dk_at ktX7_stage_0 14 rfl) rfl rfl (Nat.le_of_ble_eq_true rfl) (by decide) (b := 27) rfl (fun v15 I12 J13 q14 => ?_)
    obtain ⟨rfl, rfl, hR16, hF17, h618⟩ := q14
    refine r_val (y := 1) rfl ?_
    refine r_if_eq (dk_at ktX7_stage_0 15 rfl) (b := 32) (by decide) (b2 := 30) rfl (fun c27 => ?_) (fun c27 => ?_)
    · first | exact absurd c27 (by decide) | exact absurd (by decide) c27
    · skip
      refine rc_p (p_iconst (v := 0) (dk_at ktX7_stage_0 16 rfl) (by decide) (b := 31) rfl) ?_
      refine r_iret (dk_at ktX7_stage_0 17 rfl) rfl rfl ⟨_, rfl, ?_⟩
      refine ⟨fun hz => ?_, ?_, rfl, ?_, (FF.tr (FF.uf FF.rf (by decide)) (hF17.mo (by decide) (by decide)))⟩
      · exact absurd (hz.symm.trans (cIn_f c15)) (by decide)
      · exact Eq.trans h618 (by exact (cIn_f c15).symm)
      · rw [show t_stage σ w = σ from if_neg (by rw [c15]; decide)]; exact hR16
set_option maxRecDepth 4000 in
set_option maxHeartbeats 4000000 in
theorem s_X7_staged {n : Nat} {sh : mS} {G : mG} {I : mI} {J : mJ} {m : Nat} {σ : sT} (hm : ModG n sh G m) (hR : RelW (I (m + 1)) σ) (hI : Inv σ) (i : Int32) : Sp yX7_staged cX7_staged 2 (some FieldType.int) 2 96 0 0 [.ref m, .int i] n sh G I J (Qi (fun r_ I_ J_ => (0 = 0 → a_staged σ i = r_) ∧ I_ m 6 = 0 ∧ J = J_ ∧ RelW (I_ (m + 1)) (σ) ∧ FF m [1, 2, 8] [6, 18, 19, 20, 21, 22, 23, 24, 26, 27] I I_)) nX := by
  have hb := hI.bd
  rcases inb_c i (nS σ) (by omega) with ⟨j, hj, rfl⟩ | hi
  · have hib : inI (nI j) 0 (nI (nS σ) - 1) = true := (inb_inI (by omega)).trans (inb_t hj (by omega))
    refine Sp.of (by decide) (ls := [(0, .ref m), (1, .int (nI j))]) (fun _ => rfl) (fun _ => Nat.le_of_ble_eq_true rfl) ?_
    refine rc_p (p_aload_n 0 (dk_at ktX7_staged_0 0 rfl) rfl rfl (b := 1) rfl) ?_
    refine rc_p (p_iconst (v := 0) (dk_at ktX7_staged_0 1 rfl) (by decide) (b := 2) rfl) ?_
    refine r_puti fl_X7_46 fw_X7_6 rfl hm.l0 hm.s0 rfl rfl (dk_at ktX7_staged_0 2 rfl) (b := 5) rfl ?_
    refine rc_p (p_iload_n 1 (dk_at ktX7_staged_0 3 rfl) rfl rfl (b := 6) rfl) ?_
    refine rc_p (p_i2l (v := (Int32.toInt64 (nI j))) (dk_at ktX7_staged_0 4 rfl) rfl (b := 7) rfl) ?_
    refine rc_p (p_lconst (v := 0) (dk_at ktX7_staged_0 5 rfl) (by decide) (b := 8) rfl) ?_
    refine rc_p (p_aload_n 0 (dk_at ktX7_staged_0 6 rfl) rfl rfl (b := 9) rfl) ?_
    refine r_geta fl_X7_9 rfl hm.l0 hm.s0 (dk_at ktX7_staged_0 7 rfl) hm.g0_0 (b := 12) rfl ?_
    refine rc_p (p_iconst (v := 4) (dk_at ktX7_staged_0 8 rfl) (by decide) (b := 13) rfl) ?_
    refine r_iald (j := 4) (hm.lt 1 (by decide)) hm.s1 (dk_at ktX7_staged_0 9 rfl) rfl ⟨by decide, by decide⟩ (v := (nI (nS σ))) ((up2_n (by omega)).trans ((hR.1 4 (by decide)).trans hI.w4)) (b := 14) rfl ?_
    refine rc_p (p_iconst (v := 1) (dk_at ktX7_staged_0 10 rfl) (by decide) (b := 15) rfl) ?_
    refine rc_p (p_isub (v := ((nI (nS σ)) - 1)) (dk_at ktX7_staged_0 11 rfl) rfl (b := 16) rfl) ?_
    refine rc_p (p_i2l (v := (Int32.toInt64 ((nI (nS σ)) - 1))) (dk_at ktX7_staged_0 12 rfl) rfl (b := 17) rfl) ?_
    refine r_iS (As := [.long (Int32.toInt64 (nI j)), .long 0, .long (Int32.toInt64 ((nI (nS σ)) - 1))]) (rest := []) (s_X7_in (Int32.toInt64 (nI j)) 0 (Int32.toInt64 ((nI (nS σ)) - 1))) cw_X7_73 qs_X7_in (dk_at ktX7_staged_0 13 rfl) rfl rfl (Nat.le_of_ble_eq_true rfl) (by decide) (b := 20) rfl (fun v4 I1 J2 q3 => ?_)
    obtain ⟨rfl, rfl, rfl⟩ := q3
    refine r_val (y := bi (inI (nI j) 0 ((nI (nS σ)) - 1))) (congrArg bi (inJ_I (nI j) 0 ((nI (nS σ)) - 1))) ?_
    refine r_val (y := 1) (by rw [hib]; rfl) ?_
    refine r_if_eq (dk_at ktX7_staged_0 14 rfl) (b := 35) (by decide) (b2 := 23) rfl (fun c20 => ?_) (fun c20 => ?_)
    · first | exact absurd c20 (by decide) | exact absurd (by decide) c20
    · skip
      refine rc_p (p_aload_n 0 (dk_at ktX7_staged_0 15 rfl) rfl rfl (b := 24) rfl) ?_
      refine r_geta fl_X7_9 rfl hm.l0 hm.s0 (dk_at ktX7_staged_0 16 rfl) hm.g0_0 (b := 27) rfl ?_
      refine rc_p (p_bipush (v := 19) (dk_at ktX7_staged_0 17 rfl) (by decide) (b := 29) rfl) ?_
      refine rc_p (p_iload_n 1 (dk_at ktX7_staged_0 18 rfl) rfl rfl (b := 30) rfl) ?_
      refine rc_p (p_iadd (v := (nI (19 + j))) (dk_at ktX7_staged_0 19 rfl) (nI_add 19 j) (b := 31) rfl) ?_
      refine r_iald (j := 19 + j) (hm.lt 1 (by decide)) hm.s1 (dk_at ktX7_staged_0 20 rfl) rfl ⟨by omega, by decide⟩ (v := (σ (19 + j))) ((up2_n (by omega)).trans (hR.1 (19 + j) (by omega))) (b := 32) rfl ?_
      refine rc_p (p_goto (b := 36) (dk_at ktX7_staged_0 21 rfl) (by decide)) ?_
      refine r_iret (dk_at ktX7_staged_0 23 rfl) rfl rfl ⟨_, rfl, ?_⟩
      refine ⟨fun hz => ?_, ?_, rfl, ?_, (FF.uf FF.rf (by decide))⟩
      · unfold a_staged; rw [if_pos (inb_t hj (by omega)), tn_nI (by omega)]; first | done | rfl
      · exact Eq.trans up2_s (by rfl)
      · exact (by rw [up2_off (by omega)]; exact hR)
  · have hib : inI i 0 (nI (nS σ) - 1) = false := (inb_inI (by omega)).trans hi
    refine Sp.of (by decide) (ls := [(0, .ref m), (1, .int i)]) (fun _ => rfl) (fun _ => Nat.le_of_ble_eq_true rfl) ?_
    refine rc_p (p_aload_n 0 (dk_at ktX7_staged_0 0 rfl) rfl rfl (b := 1) rfl) ?_
    refine rc_p (p_iconst (v := 0) (dk_at ktX7_staged_0 1 rfl) (by decide) (b := 2) rfl) ?_
    refine r_puti fl_X7_46 fw_X7_6 rfl hm.l0 hm.s0 rfl rfl (dk_at ktX7_staged_0 2 rfl) (b := 5) rfl ?_
    refine rc_p (p_iload_n 1 (dk_at ktX7_staged_0 3 rfl) rfl rfl (b := 6) rfl) ?_
    refine rc_p (p_i2l (v := (Int32.toInt64 i)) (dk_at ktX7_staged_0 4 rfl) rfl (b := 7) rfl) ?_
    refine rc_p (p_lconst (v := 0) (dk_at ktX7_staged_0 5 rfl) (by decide) (b := 8) rfl) ?_
    refine rc_p (p_aload_n 0 (dk_at ktX7_staged_0 6 rfl) rfl rfl (b := 9) rfl) ?_
    refine r_geta fl_X7_9 rfl hm.l0 hm.s0 (dk_at ktX7_staged_0 7 rfl) hm.g0_0 (b := 12) rfl ?_
    refine rc_p (p_iconst (v := 4) (dk_at ktX7_staged_0 8 rfl) (by decide) (b := 13) rfl) ?_
    refine r_iald (j := 4) (hm.lt 1 (by decide)) hm.s1 (dk_at ktX7_staged_0 9 rfl) rfl ⟨by decide, by decide⟩ (v := (nI (nS σ))) ((up2_n (by omega)).trans ((hR.1 4 (by decide)).trans hI.w4)) (b := 14) rfl ?_
    refine rc_p (p_iconst (v := 1) (dk_at ktX7_staged_0 10 rfl) (by decide) (b := 15) rfl) ?_
    refine rc_p (p_isub (v := ((nI (nS σ)) - 1)) (dk_at ktX7_staged_0 11 rfl) rfl (b := 16) rfl) ?_
    refine rc_p (p_i2l (v := (Int32.toInt64 ((nI (nS σ)) - 1))) (dk_at ktX7_staged_0 12 rfl) rfl (b := 17) rfl) ?_
    refine r_iS (As := [.long (Int32.toInt64 i), .long 0, .long (Int32.toInt64 ((nI (nS σ)) - 1))]) (rest := []) (s_X7_in (Int32.toInt64 i) 0 (Int32.toInt64 ((nI (nS σ)) - 1))) cw_X7_73 qs_X7_in (dk_at ktX7_staged_0 13 rfl) rfl rfl (Nat.le_of_ble_eq_true rfl) (by decide) (b := 20) rfl (fun v8 I5 J6 q7 => ?_)
    obtain ⟨rfl, rfl, rfl⟩ := q7
    refine r_val (y := bi (inI i 0 ((nI (nS σ)) - 1))) (congrArg bi (inJ_I i 0 ((nI (nS σ)) - 1))) ?_
    refine r_val (y := 0) (by rw [hib]; rfl) ?_
    refine r_if_eq (dk_at ktX7_staged_0 14 rfl) (b := 35) (by decide) (b2 := 23) rfl (fun c20 => ?_) (fun c20 => ?_)
    · skip
      refine rc_p (p_iconst (v := (-1)) (dk_at ktX7_staged_0 22 rfl) (by decide) (b := 36) rfl) ?_
      refine r_iret (dk_at ktX7_staged_0 23 rfl) rfl rfl ⟨_, rfl, ?_⟩
      refine ⟨fun hz => ?_, ?_, rfl, ?_, (FF.uf FF.rf (by decide))⟩
      · unfold a_staged; rw [if_neg (by rw [hi]; decide)]
      · exact Eq.trans up2_s (by rfl)
      · exact (by rw [up2_off (by omega)]; exact hR)
    · first | exact absurd c20 (by decide) | exact absurd (by decide) c20
set_option maxRecDepth 4000 in
set_option maxHeartbeats 4000000 in
theorem s_X7_word {n : Nat} {sh : mS} {G : mG} {I : mI} {J : mJ} {m : Nat} {σ : sT} (hm : ModG n sh G m) (hR : RelW (I (m + 1)) σ) (hI : Inv σ) (s i : Int32) : Sp yX7_word cX7_word 3 (some FieldType.int) 3 144 0 0 [.ref m, .int s, .int i] n sh G I J (Qi (fun r_ I_ J_ => (cIn s 0 1 = 0 → a_word σ s i = r_) ∧ I_ m 6 = cIn s 0 1 ∧ J = J_ ∧ RelW (I_ (m + 1)) (σ) ∧ FF m [1, 2, 8] [6, 18, 19, 20, 21, 22, 23, 24, 26, 27] I I_)) nX := by
  have hb := hI.bd
  rcases sl_c s with rfl | rfl | hs <;> rcases inb_c i (nW σ) (by omega) with ⟨j, hj, rfl⟩ | hi
  · have hib : inI (nI j) 0 (nI (nW σ) - 1) = true := (inb_inI (by omega)).trans (inb_t hj (by omega))
    refine Sp.of (by decide) (ls := [(0, .ref m), (1, .int 0), (2, .int (nI j))]) (fun _ => rfl) (fun _ => Nat.le_of_ble_eq_true rfl) ?_
    refine rc_p (p_aload_n 0 (dk_at ktX7_word_0 0 rfl) rfl rfl (b := 1) rfl) ?_
    refine rc_p (p_iload_n 1 (dk_at ktX7_word_0 1 rfl) rfl rfl (b := 2) rfl) ?_
    refine r_iV (As' := [.int 0]) (rest := []) (s_X7_noOne hm (σ := σ) hR hI 0) cw_X7_362 qi_X7_noOne qv_X7_noOne rfl hm.l0 hm.s0 (dk_at ktX7_word_0 2 rfl) rfl rfl (Nat.le_of_ble_eq_true rfl) (by decide) (b := 5) rfl (fun v4 I1 J2 q3 => ?_)
    obtain ⟨rfl, rfl, hR5, hF6, h67⟩ := q3
    refine r_val (y := 0) (by decide) ?_
    have h68 : I1 m 6 = 0 := h67.trans (by decide)
    refine r_if_eq (dk_at ktX7_word_0 3 rfl) (b := 10) (by decide) (b2 := 8) rfl (fun c5 => ?_) (fun c5 => ?_)
    · skip
      refine rc_p (p_iload_n 2 (dk_at ktX7_word_0 6 rfl) rfl rfl (b := 11) rfl) ?_
      refine rc_p (p_i2l (v := (Int32.toInt64 (nI j))) (dk_at ktX7_word_0 7 rfl) rfl (b := 12) rfl) ?_
      refine rc_p (p_lconst (v := 0) (dk_at ktX7_word_0 8 rfl) (by decide) (b := 13) rfl) ?_
      refine rc_p (p_aload_n 0 (dk_at ktX7_word_0 9 rfl) rfl rfl (b := 14) rfl) ?_
      refine r_geta fl_X7_9 rfl hm.l0 hm.s0 (dk_at ktX7_word_0 10 rfl) hm.g0_0 (b := 17) rfl ?_
      refine rc_p (p_iconst (v := 0) (dk_at ktX7_word_0 11 rfl) (by decide) (b := 18) rfl) ?_
      refine r_iald (j := 0) (hm.lt 1 (by decide)) hm.s1 (dk_at ktX7_word_0 12 rfl) rfl ⟨by decide, by decide⟩ (v := (nI (nW σ))) ((hR5.1 0 (by decide)).trans hI.w0) (b := 19) rfl ?_
      refine rc_p (p_iconst (v := 1) (dk_at ktX7_word_0 13 rfl) (by decide) (b := 20) rfl) ?_
      refine rc_p (p_isub (v := ((nI (nW σ)) - 1)) (dk_at ktX7_word_0 14 rfl) rfl (b := 21) rfl) ?_
      refine rc_p (p_i2l (v := (Int32.toInt64 ((nI (nW σ)) - 1))) (dk_at ktX7_word_0 15 rfl) rfl (b := 22) rfl) ?_
      refine r_iS (As := [.long (Int32.toInt64 (nI j)), .long 0, .long (Int32.toInt64 ((nI (nW σ)) - 1))]) (rest := []) (s_X7_in (Int32.toInt64 (nI j)) 0 (Int32.toInt64 ((nI (nW σ)) - 1))) cw_X7_73 qs_X7_in (dk_at ktX7_word_0 16 rfl) rfl rfl (Nat.le_of_ble_eq_true rfl) (by decide) (b := 25) rfl (fun v12 I9 J10 q11 => ?_)
      obtain ⟨rfl, rfl, rfl⟩ := q11
      refine r_val (y := bi (inI (nI j) 0 ((nI (nW σ)) - 1))) (congrArg bi (inJ_I (nI j) 0 ((nI (nW σ)) - 1))) ?_
      refine r_val (y := 1) (by rw [hib]; rfl) ?_
      refine r_if_eq (dk_at ktX7_word_0 17 rfl) (b := 42) (by decide) (b2 := 28) rfl (fun c25 => ?_) (fun c25 => ?_)
      · first | exact absurd c25 (by decide) | exact absurd (by decide) c25
      · skip
        refine rc_p (p_aload_n 0 (dk_at ktX7_word_0 18 rfl) rfl rfl (b := 29) rfl) ?_
        refine r_geta fl_X7_9 rfl hm.l0 hm.s0 (dk_at ktX7_word_0 19 rfl) hm.g0_0 (b := 32) rfl ?_
        refine rc_p (p_iload_n 1 (dk_at ktX7_word_0 20 rfl) rfl rfl (b := 33) rfl) ?_
        refine r_iS (As := [.int 0]) (rest := [.ref (m + 1)]) (s_X7_slotAt 0) cw_X7_197 qs_X7_slotAt (dk_at ktX7_word_0 21 rfl) rfl rfl (Nat.le_of_ble_eq_true rfl) (by decide) (b := 36) rfl (fun v16 I13 J14 q15 => ?_)
        obtain ⟨rfl, rfl, rfl⟩ := q15
        refine rc_p (p_iload_n 2 (dk_at ktX7_word_0 22 rfl) rfl rfl (b := 37) rfl) ?_
        refine rc_p (p_iadd (v := (nI (83 + 64 * 0 + j))) (dk_at ktX7_word_0 23 rfl) (nI_add (83 + 64 * 0) j) (b := 38) rfl) ?_
        refine r_iald (j := 83 + 64 * 0 + j) (hm.lt 1 (by decide)) hm.s1 (dk_at ktX7_word_0 24 rfl) rfl ⟨by omega, by decide⟩ (v := (σ (83 + 64 * 0 + j))) (hR5.1 (83 + 64 * 0 + j) (by omega)) (b := 39) rfl ?_
        refine rc_p (p_goto (b := 43) (dk_at ktX7_word_0 25 rfl) (by decide)) ?_
        refine r_iret (dk_at ktX7_word_0 27 rfl) rfl rfl ⟨_, rfl, ?_⟩
        refine ⟨fun hz => ?_, ?_, rfl, ?_, (hF6.mo (by decide) (by decide))⟩
        · unfold a_word; rw [if_pos (inb_t hj (by omega)), tn_nI (by omega)]; first | done | rfl
        · exact Eq.trans h68 (by first | rfl | decide)
        · exact hR5
    · first | exact absurd c5 (by decide) | exact absurd (by decide) c5
  · have hib : inI i 0 (nI (nW σ) - 1) = false := (inb_inI (by omega)).trans hi
    refine Sp.of (by decide) (ls := [(0, .ref m), (1, .int 0), (2, .int i)]) (fun _ => rfl) (fun _ => Nat.le_of_ble_eq_true rfl) ?_
    refine rc_p (p_aload_n 0 (dk_at ktX7_word_0 0 rfl) rfl rfl (b := 1) rfl) ?_
    refine rc_p (p_iload_n 1 (dk_at ktX7_word_0 1 rfl) rfl rfl (b := 2) rfl) ?_
    refine r_iV (As' := [.int 0]) (rest := []) (s_X7_noOne hm (σ := σ) hR hI 0) cw_X7_362 qi_X7_noOne qv_X7_noOne rfl hm.l0 hm.s0 (dk_at ktX7_word_0 2 rfl) rfl rfl (Nat.le_of_ble_eq_true rfl) (by decide) (b := 5) rfl (fun v20 I17 J18 q19 => ?_)
    obtain ⟨rfl, rfl, hR21, hF22, h623⟩ := q19
    refine r_val (y := 0) (by decide) ?_
    have h624 : I17 m 6 = 0 := h623.trans (by decide)
    refine r_if_eq (dk_at ktX7_word_0 3 rfl) (b := 10) (by decide) (b2 := 8) rfl (fun c5 => ?_) (fun c5 => ?_)
    · skip
      refine rc_p (p_iload_n 2 (dk_at ktX7_word_0 6 rfl) rfl rfl (b := 11) rfl) ?_
      refine rc_p (p_i2l (v := (Int32.toInt64 i)) (dk_at ktX7_word_0 7 rfl) rfl (b := 12) rfl) ?_
      refine rc_p (p_lconst (v := 0) (dk_at ktX7_word_0 8 rfl) (by decide) (b := 13) rfl) ?_
      refine rc_p (p_aload_n 0 (dk_at ktX7_word_0 9 rfl) rfl rfl (b := 14) rfl) ?_
      refine r_geta fl_X7_9 rfl hm.l0 hm.s0 (dk_at ktX7_word_0 10 rfl) hm.g0_0 (b := 17) rfl ?_
      refine rc_p (p_iconst (v := 0) (dk_at ktX7_word_0 11 rfl) (by decide) (b := 18) rfl) ?_
      refine r_iald (j := 0) (hm.lt 1 (by decide)) hm.s1 (dk_at ktX7_word_0 12 rfl) rfl ⟨by decide, by decide⟩ (v := (nI (nW σ))) ((hR21.1 0 (by decide)).trans hI.w0) (b := 19) rfl ?_
      refine rc_p (p_iconst (v := 1) (dk_at ktX7_word_0 13 rfl) (by decide) (b := 20) rfl) ?_
      refine rc_p (p_isub (v := ((nI (nW σ)) - 1)) (dk_at ktX7_word_0 14 rfl) rfl (b := 21) rfl) ?_
      refine rc_p (p_i2l (v := (Int32.toInt64 ((nI (nW σ)) - 1))) (dk_at ktX7_word_0 15 rfl) rfl (b := 22) rfl) ?_
      refine r_iS (As := [.long (Int32.toInt64 i), .long 0, .long (Int32.toInt64 ((nI (nW σ)) - 1))]) (rest := []) (s_X7_in (Int32.toInt64 i) 0 (Int32.toInt64 ((nI (nW σ)) - 1))) cw_X7_73 qs_X7_in (dk_at ktX7_word_0 16 rfl) rfl rfl (Nat.le_of_ble_eq_true rfl) (by decide) (b := 25) rfl (fun v28 I25 J26 q27 => ?_)
      obtain ⟨rfl, rfl, rfl⟩ := q27
      refine r_val (y := bi (inI i 0 ((nI (nW σ)) - 1))) (congrArg bi (inJ_I i 0 ((nI (nW σ)) - 1))) ?_
      refine r_val (y := 0) (by rw [hib]; rfl) ?_
      refine r_if_eq (dk_at ktX7_word_0 17 rfl) (b := 42) (by decide) (b2 := 28) rfl (fun c25 => ?_) (fun c25 => ?_)
      · skip
        refine rc_p (p_iconst (v := (-1)) (dk_at ktX7_word_0 26 rfl) (by decide) (b := 43) rfl) ?_
        refine r_iret (dk_at ktX7_word_0 27 rfl) rfl rfl ⟨_, rfl, ?_⟩
        refine ⟨fun hz => ?_, ?_, rfl, ?_, (hF22.mo (by decide) (by decide))⟩
        · unfold a_word; rw [if_neg (by rw [hi]; decide)]
        · exact Eq.trans h624 (by first | rfl | decide)
        · exact hR21
      · first | exact absurd c25 (by decide) | exact absurd (by decide) c25
    · first | exact absurd c5 (by decide) | exact absurd (by decide) c5
  · have hib : inI (nI j) 0 (nI (nW σ) - 1) = true := (inb_inI (by omega)).trans (inb_t hj (by omega))
    refine Sp.of (by decide) (ls := [(0, .ref m), (1, .int 1), (2, .int (nI j))]) (fun _ => rfl) (fun _ => Nat.le_of_ble_eq_true rfl) ?_
    refine rc_p (p_aload_n 0 (dk_at ktX7_word_0 0 rfl) rfl rfl (b := 1) rfl) ?_
    refine rc_p (p_iload_n 1 (dk_at ktX7_word_0 1 rfl) rfl rfl (b := 2) rfl) ?_
    refine r_iV (As' := [.int 1]) (rest := []) (s_X7_noOne hm (σ := σ) hR hI 1) cw_X7_362 qi_X7_noOne qv_X7_noOne rfl hm.l0 hm.s0 (dk_at ktX7_word_0 2 rfl) rfl rfl (Nat.le_of_ble_eq_true rfl) (by decide) (b := 5) rfl (fun v32 I29 J30 q31 => ?_)
    obtain ⟨rfl, rfl, hR33, hF34, h635⟩ := q31
    refine r_val (y := 0) (by decide) ?_
    have h636 : I29 m 6 = 0 := h635.trans (by decide)
    refine r_if_eq (dk_at ktX7_word_0 3 rfl) (b := 10) (by decide) (b2 := 8) rfl (fun c5 => ?_) (fun c5 => ?_)
    · skip
      refine rc_p (p_iload_n 2 (dk_at ktX7_word_0 6 rfl) rfl rfl (b := 11) rfl) ?_
      refine rc_p (p_i2l (v := (Int32.toInt64 (nI j))) (dk_at ktX7_word_0 7 rfl) rfl (b := 12) rfl) ?_
      refine rc_p (p_lconst (v := 0) (dk_at ktX7_word_0 8 rfl) (by decide) (b := 13) rfl) ?_
      refine rc_p (p_aload_n 0 (dk_at ktX7_word_0 9 rfl) rfl rfl (b := 14) rfl) ?_
      refine r_geta fl_X7_9 rfl hm.l0 hm.s0 (dk_at ktX7_word_0 10 rfl) hm.g0_0 (b := 17) rfl ?_
      refine rc_p (p_iconst (v := 0) (dk_at ktX7_word_0 11 rfl) (by decide) (b := 18) rfl) ?_
      refine r_iald (j := 0) (hm.lt 1 (by decide)) hm.s1 (dk_at ktX7_word_0 12 rfl) rfl ⟨by decide, by decide⟩ (v := (nI (nW σ))) ((hR33.1 0 (by decide)).trans hI.w0) (b := 19) rfl ?_
      refine rc_p (p_iconst (v := 1) (dk_at ktX7_word_0 13 rfl) (by decide) (b := 20) rfl) ?_
      refine rc_p (p_isub (v := ((nI (nW σ)) - 1)) (dk_at ktX7_word_0 14 rfl) rfl (b := 21) rfl) ?_
      refine rc_p (p_i2l (v := (Int32.toInt64 ((nI (nW σ)) - 1))) (dk_at ktX7_word_0 15 rfl) rfl (b := 22) rfl) ?_
      refine r_iS (As := [.long (Int32.toInt64 (nI j)), .long 0, .long (Int32.toInt64 ((nI (nW σ)) - 1))]) (rest := []) (s_X7_in (Int32.toInt64 (nI j)) 0 (Int32.toInt64 ((nI (nW σ)) - 1))) cw_X7_73 qs_X7_in (dk_at ktX7_word_0 16 rfl) rfl rfl (Nat.le_of_ble_eq_true rfl) (by decide) (b := 25) rfl (fun v40 I37 J38 q39 => ?_)
      obtain ⟨rfl, rfl, rfl⟩ := q39
      refine r_val (y := bi (inI (nI j) 0 ((nI (nW σ)) - 1))) (congrArg bi (inJ_I (nI j) 0 ((nI (nW σ)) - 1))) ?_
      refine r_val (y := 1) (by rw [hib]; rfl) ?_
      refine r_if_eq (dk_at ktX7_word_0 17 rfl) (b := 42) (by decide) (b2 := 28) rfl (fun c25 => ?_) (fun c25 => ?_)
      · first | exact absurd c25 (by decide) | exact absurd (by decide) c25
      · skip
        refine rc_p (p_aload_n 0 (dk_at ktX7_word_0 18 rfl) rfl rfl (b := 29) rfl) ?_
        refine r_geta fl_X7_9 rfl hm.l0 hm.s0 (dk_at ktX7_word_0 19 rfl) hm.g0_0 (b := 32) rfl ?_
        refine rc_p (p_iload_n 1 (dk_at ktX7_word_0 20 rfl) rfl rfl (b := 33) rfl) ?_
        refine r_iS (As := [.int 1]) (rest := [.ref (m + 1)]) (s_X7_slotAt 1) cw_X7_197 qs_X7_slotAt (dk_at ktX7_word_0 21 rfl) rfl rfl (Nat.le_of_ble_eq_true rfl) (by decide) (b := 36) rfl (fun v44 I41 J42 q43 => ?_)
        obtain ⟨rfl, rfl, rfl⟩ := q43
        refine rc_p (p_iload_n 2 (dk_at ktX7_word_0 22 rfl) rfl rfl (b := 37) rfl) ?_
        refine rc_p (p_iadd (v := (nI (83 + 64 * 1 + j))) (dk_at ktX7_word_0 23 rfl) (nI_add (83 + 64 * 1) j) (b := 38) rfl) ?_
        refine r_iald (j := 83 + 64 * 1 + j) (hm.lt 1 (by decide)) hm.s1 (dk_at ktX7_word_0 24 rfl) rfl ⟨by omega, by decide⟩ (v := (σ (83 + 64 * 1 + j))) (hR33.1 (83 + 64 * 1 + j) (by omega)) (b := 39) rfl ?_
        refine rc_p (p_goto (b := 43) (dk_at ktX7_word_0 25 rfl) (by decide)) ?_
        refine r_iret (dk_at ktX7_word_0 27 rfl) rfl rfl ⟨_, rfl, ?_⟩
        refine ⟨fun hz => ?_, ?_, rfl, ?_, (hF34.mo (by decide) (by decide))⟩
        · unfold a_word; rw [if_pos (inb_t hj (by omega)), tn_nI (by omega)]; first | done | rfl
        · exact Eq.trans h636 (by first | rfl | decide)
        · exact hR33
    · first | exact absurd c5 (by decide) | exact absurd (by decide) c5
  · have hib : inI i 0 (nI (nW σ) - 1) = false := (inb_inI (by omega)).trans hi
    refine Sp.of (by decide) (ls := [(0, .ref m), (1, .int 1), (2, .int i)]) (fun _ => rfl) (fun _ => Nat.le_of_ble_eq_true rfl) ?_
    refine rc_p (p_aload_n 0 (dk_at ktX7_word_0 0 rfl) rfl rfl (b := 1) rfl) ?_
    refine rc_p (p_iload_n 1 (dk_at ktX7_word_0 1 rfl) rfl rfl (b := 2) rfl) ?_
    refine r_iV (As' := [.int 1]) (rest := []) (s_X7_noOne hm (σ := σ) hR hI 1) cw_X7_362 qi_X7_noOne qv_X7_noOne rfl hm.l0 hm.s0 (dk_at ktX7_word_0 2 rfl) rfl rfl (Nat.le_of_ble_eq_true rfl) (by decide) (b := 5) rfl (fun v48 I45 J46 q47 => ?_)
    obtain ⟨rfl, rfl, hR49, hF50, h651⟩ := q47
    refine r_val (y := 0) (by decide) ?_
    have h652 : I45 m 6 = 0 := h651.trans (by decide)
    refine r_if_eq (dk_at ktX7_word_0 3 rfl) (b := 10) (by decide) (b2 := 8) rfl (fun c5 => ?_) (fun c5 => ?_)
    · skip
      refine rc_p (p_iload_n 2 (dk_at ktX7_word_0 6 rfl) rfl rfl (b := 11) rfl) ?_
      refine rc_p (p_i2l (v := (Int32.toInt64 i)) (dk_at ktX7_word_0 7 rfl) rfl (b := 12) rfl) ?_
      refine rc_p (p_lconst (v := 0) (dk_at ktX7_word_0 8 rfl) (by decide) (b := 13) rfl) ?_
      refine rc_p (p_aload_n 0 (dk_at ktX7_word_0 9 rfl) rfl rfl (b := 14) rfl) ?_
      refine r_geta fl_X7_9 rfl hm.l0 hm.s0 (dk_at ktX7_word_0 10 rfl) hm.g0_0 (b := 17) rfl ?_
      refine rc_p (p_iconst (v := 0) (dk_at ktX7_word_0 11 rfl) (by decide) (b := 18) rfl) ?_
      refine r_iald (j := 0) (hm.lt 1 (by decide)) hm.s1 (dk_at ktX7_word_0 12 rfl) rfl ⟨by decide, by decide⟩ (v := (nI (nW σ))) ((hR49.1 0 (by decide)).trans hI.w0) (b := 19) rfl ?_
      refine rc_p (p_iconst (v := 1) (dk_at ktX7_word_0 13 rfl) (by decide) (b := 20) rfl) ?_
      refine rc_p (p_isub (v := ((nI (nW σ)) - 1)) (dk_at ktX7_word_0 14 rfl) rfl (b := 21) rfl) ?_
      refine rc_p (p_i2l (v := (Int32.toInt64 ((nI (nW σ)) - 1))) (dk_at ktX7_word_0 15 rfl) rfl (b := 22) rfl) ?_
      refine r_iS (As := [.long (Int32.toInt64 i), .long 0, .long (Int32.toInt64 ((nI (nW σ)) - 1))]) (rest := []) (s_X7_in (Int32.toInt64 i) 0 (Int32.toInt64 ((nI (nW σ)) - 1))) cw_X7_73 qs_X7_in (dk_at ktX7_word_0 16 rfl) rfl rfl (Nat.le_of_ble_eq_true rfl) (by decide) (b := 25) rfl (fun v56 I53 J54 q55 => ?_)
      obtain ⟨rfl, rfl, rfl⟩ := q55
      refine r_val (y := bi (inI i 0 ((nI (nW σ)) - 1))) (congrArg bi (inJ_I i 0 ((nI (nW σ)) - 1))) ?_
      refine r_val (y := 0) (by rw [hib]; rfl) ?_
      refine r_if_eq (dk_at ktX7_word_0 17 rfl) (b := 42) (by decide) (b2 := 28) rfl (fun c25 => ?_) (fun c25 => ?_)
      · skip
        refine rc_p (p_iconst (v := (-1)) (dk_at ktX7_word_0 26 rfl) (by decide) (b := 43) rfl) ?_
        refine r_iret (dk_at ktX7_word_0 27 rfl) rfl rfl ⟨_, rfl, ?_⟩
        refine ⟨fun hz => ?_, ?_, rfl, ?_, (hF50.mo (by decide) (by decide))⟩
        · unfold a_word; rw [if_neg (by rw [hi]; decide)]
        · exact Eq.trans h652 (by first | rfl | decide)
        · exact hR49
      · first | exact absurd c25 (by decide) | exact absurd (by decide) c25
    · first | exact absurd c5 (by decide) | exact absurd (by decide) c5
  · refine Sp.of (by decide) (ls := [(0, .ref m), (1, .int s), (2, .int (nI j))]) (fun _ => rfl) (fun _ => Nat.le_of_ble_eq_true rfl) ?_
    refine rc_p (p_aload_n 0 (dk_at ktX7_word_0 0 rfl) rfl rfl (b := 1) rfl) ?_
    refine rc_p (p_iload_n 1 (dk_at ktX7_word_0 1 rfl) rfl rfl (b := 2) rfl) ?_
    refine r_iV (As' := [.int s]) (rest := []) (s_X7_noOne hm (σ := σ) hR hI s) cw_X7_362 qi_X7_noOne qv_X7_noOne rfl hm.l0 hm.s0 (dk_at ktX7_word_0 2 rfl) rfl rfl (Nat.le_of_ble_eq_true rfl) (by decide) (b := 5) rfl (fun v60 I57 J58 q59 => ?_)
    obtain ⟨rfl, rfl, hR61, hF62, h663⟩ := q59
    refine r_val (y := 1) (by rw [hs]; rfl) ?_
    have h664 : I57 m 6 = 1 := h663.trans (by rw [hs]; rfl)
    refine r_if_eq (dk_at ktX7_word_0 3 rfl) (b := 10) (by decide) (b2 := 8) rfl (fun c5 => ?_) (fun c5 => ?_)
    · first | exact absurd c5 (by decide) | exact absurd (by decide) c5
    · skip
      refine rc_p (p_iconst (v := 0) (dk_at ktX7_word_0 4 rfl) (by decide) (b := 9) rfl) ?_
      refine r_iret (dk_at ktX7_word_0 5 rfl) rfl rfl ⟨_, rfl, ?_⟩
      refine ⟨fun hz => ?_, ?_, rfl, ?_, (hF62.mo (by decide) (by decide))⟩
      · exact absurd (hz.symm.trans (cIn_f hs)) (by decide)
      · exact Eq.trans h664 (by exact (cIn_f hs).symm)
      · exact hR61
  · refine Sp.of (by decide) (ls := [(0, .ref m), (1, .int s), (2, .int i)]) (fun _ => rfl) (fun _ => Nat.le_of_ble_eq_true rfl) ?_
    refine rc_p (p_aload_n 0 (dk_at ktX7_word_0 0 rfl) rfl rfl (b := 1) rfl) ?_
    refine rc_p (p_iload_n 1 (dk_at ktX7_word_0 1 rfl) rfl rfl (b := 2) rfl) ?_
    refine r_iV (As' := [.int s]) (rest := []) (s_X7_noOne hm (σ := σ) hR hI s) cw_X7_362 qi_X7_noOne qv_X7_noOne rfl hm.l0 hm.s0 (dk_at ktX7_word_0 2 rfl) rfl rfl (Nat.le_of_ble_eq_true rfl) (by decide) (b := 5) rfl (fun v68 I65 J66 q67 => ?_)
    obtain ⟨rfl, rfl, hR69, hF70, h671⟩ := q67
    refine r_val (y := 1) (by rw [hs]; rfl) ?_
    have h672 : I65 m 6 = 1 := h671.trans (by rw [hs]; rfl)
    refine r_if_eq (dk_at ktX7_word_0 3 rfl) (b := 10) (by decide) (b2 := 8) rfl (fun c5 => ?_) (fun c5 => ?_)
    · first | exact absurd c5 (by decide) | exact absurd (by decide) c5
    · skip
      refine rc_p (p_iconst (v := 0) (dk_at ktX7_word_0 4 rfl) (by decide) (b := 9) rfl) ?_
      refine r_iret (dk_at ktX7_word_0 5 rfl) rfl rfl ⟨_, rfl, ?_⟩
      refine ⟨fun hz => ?_, ?_, rfl, ?_, (hF70.mo (by decide) (by decide))⟩
      · exact absurd (hz.symm.trans (cIn_f hs)) (by decide)
      · exact Eq.trans h672 (by exact (cIn_f hs).symm)
      · exact hR69
set_option maxRecDepth 4000 in
set_option maxHeartbeats 4000000 in
theorem s_X7_journalWord {n : Nat} {sh : mS} {G : mG} {I : mI} {J : mJ} {m : Nat} {σ : sT} (hm : ModG n sh G m) (hR : RelW (I (m + 1)) σ) (hI : Inv σ) (s i : Int32) : Sp yX7_journalWord cX7_journalWord 3 (some FieldType.int) 3 144 0 0 [.ref m, .int s, .int i] n sh G I J (Qi (fun r_ I_ J_ => (cIn s 0 1 = 0 → a_jword σ s i = r_) ∧ I_ m 6 = cIn s 0 1 ∧ J = J_ ∧ RelW (I_ (m + 1)) (σ) ∧ FF m [1, 2, 8] [6, 18, 19, 20, 21, 22, 23, 24, 26, 27] I I_)) nX := by
  have hb := hI.bd
  rcases sl_c s with rfl | rfl | hs <;> rcases inb_c i (nJ σ) (by omega) with ⟨j, hj, rfl⟩ | hi
  · have hib : inI (nI j) 0 (nI (nJ σ) - 1) = true := (inb_inI (by omega)).trans (inb_t hj (by omega))
    refine Sp.of (by decide) (ls := [(0, .ref m), (1, .int 0), (2, .int (nI j))]) (fun _ => rfl) (fun _ => Nat.le_of_ble_eq_true rfl) ?_
    refine rc_p (p_aload_n 0 (dk_at ktX7_journalWord_0 0 rfl) rfl rfl (b := 1) rfl) ?_
    refine rc_p (p_iload_n 1 (dk_at ktX7_journalWord_0 1 rfl) rfl rfl (b := 2) rfl) ?_
    refine r_iV (As' := [.int 0]) (rest := []) (s_X7_noOne hm (σ := σ) hR hI 0) cw_X7_362 qi_X7_noOne qv_X7_noOne rfl hm.l0 hm.s0 (dk_at ktX7_journalWord_0 2 rfl) rfl rfl (Nat.le_of_ble_eq_true rfl) (by decide) (b := 5) rfl (fun v4 I1 J2 q3 => ?_)
    obtain ⟨rfl, rfl, hR5, hF6, h67⟩ := q3
    refine r_val (y := 0) (by decide) ?_
    have h68 : I1 m 6 = 0 := h67.trans (by decide)
    refine r_if_eq (dk_at ktX7_journalWord_0 3 rfl) (b := 10) (by decide) (b2 := 8) rfl (fun c5 => ?_) (fun c5 => ?_)
    · skip
      refine rc_p (p_iload_n 2 (dk_at ktX7_journalWord_0 6 rfl) rfl rfl (b := 11) rfl) ?_
      refine rc_p (p_i2l (v := (Int32.toInt64 (nI j))) (dk_at ktX7_journalWord_0 7 rfl) rfl (b := 12) rfl) ?_
      refine rc_p (p_lconst (v := 0) (dk_at ktX7_journalWord_0 8 rfl) (by decide) (b := 13) rfl) ?_
      refine rc_p (p_aload_n 0 (dk_at ktX7_journalWord_0 9 rfl) rfl rfl (b := 14) rfl) ?_
      refine r_geta fl_X7_9 rfl hm.l0 hm.s0 (dk_at ktX7_journalWord_0 10 rfl) hm.g0_0 (b := 17) rfl ?_
      refine rc_p (p_iconst (v := 2) (dk_at ktX7_journalWord_0 11 rfl) (by decide) (b := 18) rfl) ?_
      refine r_iald (j := 2) (hm.lt 1 (by decide)) hm.s1 (dk_at ktX7_journalWord_0 12 rfl) rfl ⟨by decide, by decide⟩ (v := (nI (nJ σ))) ((hR5.1 2 (by decide)).trans hI.w2) (b := 19) rfl ?_
      refine rc_p (p_iconst (v := 1) (dk_at ktX7_journalWord_0 13 rfl) (by decide) (b := 20) rfl) ?_
      refine rc_p (p_isub (v := ((nI (nJ σ)) - 1)) (dk_at ktX7_journalWord_0 14 rfl) rfl (b := 21) rfl) ?_
      refine rc_p (p_i2l (v := (Int32.toInt64 ((nI (nJ σ)) - 1))) (dk_at ktX7_journalWord_0 15 rfl) rfl (b := 22) rfl) ?_
      refine r_iS (As := [.long (Int32.toInt64 (nI j)), .long 0, .long (Int32.toInt64 ((nI (nJ σ)) - 1))]) (rest := []) (s_X7_in (Int32.toInt64 (nI j)) 0 (Int32.toInt64 ((nI (nJ σ)) - 1))) cw_X7_73 qs_X7_in (dk_at ktX7_journalWord_0 16 rfl) rfl rfl (Nat.le_of_ble_eq_true rfl) (by decide) (b := 25) rfl (fun v12 I9 J10 q11 => ?_)
      obtain ⟨rfl, rfl, rfl⟩ := q11
      refine r_val (y := bi (inI (nI j) 0 ((nI (nJ σ)) - 1))) (congrArg bi (inJ_I (nI j) 0 ((nI (nJ σ)) - 1))) ?_
      refine r_val (y := 1) (by rw [hib]; rfl) ?_
      refine r_if_eq (dk_at ktX7_journalWord_0 17 rfl) (b := 42) (by decide) (b2 := 28) rfl (fun c25 => ?_) (fun c25 => ?_)
      · first | exact absurd c25 (by decide) | exact absurd (by decide) c25
      · skip
        refine rc_p (p_aload_n 0 (dk_at ktX7_journalWord_0 18 rfl) rfl rfl (b := 29) rfl) ?_
        refine r_geta fl_X7_9 rfl hm.l0 hm.s0 (dk_at ktX7_journalWord_0 19 rfl) hm.g0_0 (b := 32) rfl ?_
        refine rc_p (p_iload_n 1 (dk_at ktX7_journalWord_0 20 rfl) rfl rfl (b := 33) rfl) ?_
        refine r_iS (As := [.int 0]) (rest := [.ref (m + 1)]) (s_X7_pageAt 0) cw_X7_216 qs_X7_pageAt (dk_at ktX7_journalWord_0 21 rfl) rfl rfl (Nat.le_of_ble_eq_true rfl) (by decide) (b := 36) rfl (fun v16 I13 J14 q15 => ?_)
        obtain ⟨rfl, rfl, rfl⟩ := q15
        refine rc_p (p_iload_n 2 (dk_at ktX7_journalWord_0 22 rfl) rfl rfl (b := 37) rfl) ?_
        refine rc_p (p_iadd (v := (nI (211 + 32 * 0 + j))) (dk_at ktX7_journalWord_0 23 rfl) (nI_add (211 + 32 * 0) j) (b := 38) rfl) ?_
        refine r_iald (j := 211 + 32 * 0 + j) (hm.lt 1 (by decide)) hm.s1 (dk_at ktX7_journalWord_0 24 rfl) rfl ⟨by omega, by decide⟩ (v := (σ (211 + 32 * 0 + j))) (hR5.1 (211 + 32 * 0 + j) (by omega)) (b := 39) rfl ?_
        refine rc_p (p_goto (b := 43) (dk_at ktX7_journalWord_0 25 rfl) (by decide)) ?_
        refine r_iret (dk_at ktX7_journalWord_0 27 rfl) rfl rfl ⟨_, rfl, ?_⟩
        refine ⟨fun hz => ?_, ?_, rfl, ?_, (hF6.mo (by decide) (by decide))⟩
        · unfold a_jword; rw [if_pos (inb_t hj (by omega)), tn_nI (by omega)]; first | done | rfl
        · exact Eq.trans h68 (by first | rfl | decide)
        · exact hR5
    · first | exact absurd c5 (by decide) | exact absurd (by decide) c5
  · have hib : inI i 0 (nI (nJ σ) - 1) = false := (inb_inI (by omega)).trans hi
    refine Sp.of (by decide) (ls := [(0, .ref m), (1, .int 0), (2, .int i)]) (fun _ => rfl) (fun _ => Nat.le_of_ble_eq_true rfl) ?_
    refine rc_p (p_aload_n 0 (dk_at ktX7_journalWord_0 0 rfl) rfl rfl (b := 1) rfl) ?_
    refine rc_p (p_iload_n 1 (dk_at ktX7_journalWord_0 1 rfl) rfl rfl (b := 2) rfl) ?_
    refine r_iV (As' := [.int 0]) (rest := []) (s_X7_noOne hm (σ := σ) hR hI 0) cw_X7_362 qi_X7_noOne qv_X7_noOne rfl hm.l0 hm.s0 (dk_at ktX7_journalWord_0 2 rfl) rfl rfl (Nat.le_of_ble_eq_true rfl) (by decide) (b := 5) rfl (fun v20 I17 J18 q19 => ?_)
    obtain ⟨rfl, rfl, hR21, hF22, h623⟩ := q19
    refine r_val (y := 0) (by decide) ?_
    have h624 : I17 m 6 = 0 := h623.trans (by decide)
    refine r_if_eq (dk_at ktX7_journalWord_0 3 rfl) (b := 10) (by decide) (b2 := 8) rfl (fun c5 => ?_) (fun c5 => ?_)
    · skip
      refine rc_p (p_iload_n 2 (dk_at ktX7_journalWord_0 6 rfl) rfl rfl (b := 11) rfl) ?_
      refine rc_p (p_i2l (v := (Int32.toInt64 i)) (dk_at ktX7_journalWord_0 7 rfl) rfl (b := 12) rfl) ?_
      refine rc_p (p_lconst (v := 0) (dk_at ktX7_journalWord_0 8 rfl) (by decide) (b := 13) rfl) ?_
      refine rc_p (p_aload_n 0 (dk_at ktX7_journalWord_0 9 rfl) rfl rfl (b := 14) rfl) ?_
      refine r_geta fl_X7_9 rfl hm.l0 hm.s0 (dk_at ktX7_journalWord_0 10 rfl) hm.g0_0 (b := 17) rfl ?_
      refine rc_p (p_iconst (v := 2) (dk_at ktX7_journalWord_0 11 rfl) (by decide) (b := 18) rfl) ?_
      refine r_iald (j := 2) (hm.lt 1 (by decide)) hm.s1 (dk_at ktX7_journalWord_0 12 rfl) rfl ⟨by decide, by decide⟩ (v := (nI (nJ σ))) ((hR21.1 2 (by decide)).trans hI.w2) (b := 19) rfl ?_
      refine rc_p (p_iconst (v := 1) (dk_at ktX7_journalWord_0 13 rfl) (by decide) (b := 20) rfl) ?_
      refine rc_p (p_isub (v := ((nI (nJ σ)) - 1)) (dk_at ktX7_journalWord_0 14 rfl) rfl (b := 21) rfl) ?_
      refine rc_p (p_i2l (v := (Int32.toInt64 ((nI (nJ σ)) - 1))) (dk_at ktX7_journalWord_0 15 rfl) rfl (b := 22) rfl) ?_
      refine r_iS (As := [.long (Int32.toInt64 i), .long 0, .long (Int32.toInt64 ((nI (nJ σ)) - 1))]) (rest := []) (s_X7_in (Int32.toInt64 i) 0 (Int32.toInt64 ((nI (nJ σ)) - 1))) cw_X7_73 qs_X7_in (dk_at ktX7_journalWord_0 16 rfl) rfl rfl (Nat.le_of_ble_eq_true rfl) (by decide) (b := 25) rfl (fun v28 I25 J26 q27 => ?_)
      obtain ⟨rfl, rfl, rfl⟩ := q27
      refine r_val (y := bi (inI i 0 ((nI (nJ σ)) - 1))) (congrArg bi (inJ_I i 0 ((nI (nJ σ)) - 1))) ?_
      refine r_val (y := 0) (by rw [hib]; rfl) ?_
      refine r_if_eq (dk_at ktX7_journalWord_0 17 rfl) (b := 42) (by decide) (b2 := 28) rfl (fun c25 => ?_) (fun c25 => ?_)
      · skip
        refine rc_p (p_iconst (v := (-1)) (dk_at ktX7_journalWord_0 26 rfl) (by decide) (b := 43) rfl) ?_
        refine r_iret (dk_at ktX7_journalWord_0 27 rfl) rfl rfl ⟨_, rfl, ?_⟩
        refine ⟨fun hz => ?_, ?_, rfl, ?_, (hF22.mo (by decide) (by decide))⟩
        · unfold a_jword; rw [if_neg (by rw [hi]; decide)]
        · exact Eq.trans h624 (by first | rfl | decide)
        · exact hR21
      · first | exact absurd c25 (by decide) | exact absurd (by decide) c25
    · first | exact absurd c5 (by decide) | exact absurd (by decide) c5
  · have hib : inI (nI j) 0 (nI (nJ σ) - 1) = true := (inb_inI (by omega)).trans (inb_t hj (by omega))
    refine Sp.of (by decide) (ls := [(0, .ref m), (1, .int 1), (2, .int (nI j))]) (fun _ => rfl) (fun _ => Nat.le_of_ble_eq_true rfl) ?_
    refine rc_p (p_aload_n 0 (dk_at ktX7_journalWord_0 0 rfl) rfl rfl (b := 1) rfl) ?_
    refine rc_p (p_iload_n 1 (dk_at ktX7_journalWord_0 1 rfl) rfl rfl (b := 2) rfl) ?_
    refine r_iV (As' := [.int 1]) (rest := []) (s_X7_noOne hm (σ := σ) hR hI 1) cw_X7_362 qi_X7_noOne qv_X7_noOne rfl hm.l0 hm.s0 (dk_at ktX7_journalWord_0 2 rfl) rfl rfl (Nat.le_of_ble_eq_true rfl) (by decide) (b := 5) rfl (fun v32 I29 J30 q31 => ?_)
    obtain ⟨rfl, rfl, hR33, hF34, h635⟩ := q31
    refine r_val (y := 0) (by decide) ?_
    have h636 : I29 m 6 = 0 := h635.trans (by decide)
    refine r_if_eq (dk_at ktX7_journalWord_0 3 rfl) (b := 10) (by decide) (b2 := 8) rfl (fun c5 => ?_) (fun c5 => ?_)
    · skip
      refine rc_p (p_iload_n 2 (dk_at ktX7_journalWord_0 6 rfl) rfl rfl (b := 11) rfl) ?_
      refine rc_p (p_i2l (v := (Int32.toInt64 (nI j))) (dk_at ktX7_journalWord_0 7 rfl) rfl (b := 12) rfl) ?_
      refine rc_p (p_lconst (v := 0) (dk_at ktX7_journalWord_0 8 rfl) (by decide) (b := 13) rfl) ?_
      refine rc_p (p_aload_n 0 (dk_at ktX7_journalWord_0 9 rfl) rfl rfl (b := 14) rfl) ?_
      refine r_geta fl_X7_9 rfl hm.l0 hm.s0 (dk_at ktX7_journalWord_0 10 rfl) hm.g0_0 (b := 17) rfl ?_
      refine rc_p (p_iconst (v := 2) (dk_at ktX7_journalWord_0 11 rfl) (by decide) (b := 18) rfl) ?_
      refine r_iald (j := 2) (hm.lt 1 (by decide)) hm.s1 (dk_at ktX7_journalWord_0 12 rfl) rfl ⟨by decide, by decide⟩ (v := (nI (nJ σ))) ((hR33.1 2 (by decide)).trans hI.w2) (b := 19) rfl ?_
      refine rc_p (p_iconst (v := 1) (dk_at ktX7_journalWord_0 13 rfl) (by decide) (b := 20) rfl) ?_
      refine rc_p (p_isub (v := ((nI (nJ σ)) - 1)) (dk_at ktX7_journalWord_0 14 rfl) rfl (b := 21) rfl) ?_
      refine rc_p (p_i2l (v := (Int32.toInt64 ((nI (nJ σ)) - 1))) (dk_at ktX7_journalWord_0 15 rfl) rfl (b := 22) rfl) ?_
      refine r_iS (As := [.long (Int32.toInt64 (nI j)), .long 0, .long (Int32.toInt64 ((nI (nJ σ)) - 1))]) (rest := []) (s_X7_in (Int32.toInt64 (nI j)) 0 (Int32.toInt64 ((nI (nJ σ)) - 1))) cw_X7_73 qs_X7_in (dk_at ktX7_journalWord_0 16 rfl) rfl rfl (Nat.le_of_ble_eq_true rfl) (by decide) (b := 25) rfl (fun v40 I37 J38 q39 => ?_)
      obtain ⟨rfl, rfl, rfl⟩ := q39
      refine r_val (y := bi (inI (nI j) 0 ((nI (nJ σ)) - 1))) (congrArg bi (inJ_I (nI j) 0 ((nI (nJ σ)) - 1))) ?_
      refine r_val (y := 1) (by rw [hib]; rfl) ?_
      refine r_if_eq (dk_at ktX7_journalWord_0 17 rfl) (b := 42) (by decide) (b2 := 28) rfl (fun c25 => ?_) (fun c25 => ?_)
      · first | exact absurd c25 (by decide) | exact absurd (by decide) c25
      · skip
        refine rc_p (p_aload_n 0 (dk_at ktX7_journalWord_0 18 rfl) rfl rfl (b := 29) rfl) ?_
        refine r_geta fl_X7_9 rfl hm.l0 hm.s0 (dk_at ktX7_journalWord_0 19 rfl) hm.g0_0 (b := 32) rfl ?_
        refine rc_p (p_iload_n 1 (dk_at ktX7_journalWord_0 20 rfl) rfl rfl (b := 33) rfl) ?_
        refine r_iS (As := [.int 1]) (rest := [.ref (m + 1)]) (s_X7_pageAt 1) cw_X7_216 qs_X7_pageAt (dk_at ktX7_journalWord_0 21 rfl) rfl rfl (Nat.le_of_ble_eq_true rfl) (by decide) (b := 36) rfl (fun v44 I41 J42 q43 => ?_)
        obtain ⟨rfl, rfl, rfl⟩ := q43
        refine rc_p (p_iload_n 2 (dk_at ktX7_journalWord_0 22 rfl) rfl rfl (b := 37) rfl) ?_
        refine rc_p (p_iadd (v := (nI (211 + 32 * 1 + j))) (dk_at ktX7_journalWord_0 23 rfl) (nI_add (211 + 32 * 1) j) (b := 38) rfl) ?_
        refine r_iald (j := 211 + 32 * 1 + j) (hm.lt 1 (by decide)) hm.s1 (dk_at ktX7_journalWord_0 24 rfl) rfl ⟨by omega, by decide⟩ (v := (σ (211 + 32 * 1 + j))) (hR33.1 (211 + 32 * 1 + j) (by omega)) (b := 39) rfl ?_
        refine rc_p (p_goto (b := 43) (dk_at ktX7_journalWord_0 25 rfl) (by decide)) ?_
        refine r_iret (dk_at ktX7_journalWord_0 27 rfl) rfl rfl ⟨_, rfl, ?_⟩
        refine ⟨fun hz => ?_, ?_, rfl, ?_, (hF34.mo (by decide) (by decide))⟩
        · unfold a_jword; rw [if_pos (inb_t hj (by omega)), tn_nI (by omega)]; first | done | rfl
        · exact Eq.trans h636 (by first | rfl | decide)
        · exact hR33
    · first | exact absurd c5 (by decide) | exact absurd (by decide) c5
  · have hib : inI i 0 (nI (nJ σ) - 1) = false := (inb_inI (by omega)).trans hi
    refine Sp.of (by decide) (ls := [(0, .ref m), (1, .int 1), (2, .int i)]) (fun _ => rfl) (fun _ => Nat.le_of_ble_eq_true rfl) ?_
    refine rc_p (p_aload_n 0 (dk_at ktX7_journalWord_0 0 rfl) rfl rfl (b := 1) rfl) ?_
    refine rc_p (p_iload_n 1 (dk_at ktX7_journalWord_0 1 rfl) rfl rfl (b := 2) rfl) ?_
    refine r_iV (As' := [.int 1]) (rest := []) (s_X7_noOne hm (σ := σ) hR hI 1) cw_X7_362 qi_X7_noOne qv_X7_noOne rfl hm.l0 hm.s0 (dk_at ktX7_journalWord_0 2 rfl) rfl rfl (Nat.le_of_ble_eq_true rfl) (by decide) (b := 5) rfl (fun v48 I45 J46 q47 => ?_)
    obtain ⟨rfl, rfl, hR49, hF50, h651⟩ := q47
    refine r_val (y := 0) (by decide) ?_
    have h652 : I45 m 6 = 0 := h651.trans (by decide)
    refine r_if_eq (dk_at ktX7_journalWord_0 3 rfl) (b := 10) (by decide) (b2 := 8) rfl (fun c5 => ?_) (fun c5 => ?_)
    · skip
      refine rc_p (p_iload_n 2 (dk_at ktX7_journalWord_0 6 rfl) rfl rfl (b := 11) rfl) ?_
      refine rc_p (p_i2l (v := (Int32.toInt64 i)) (dk_at ktX7_journalWord_0 7 rfl) rfl (b := 12) rfl) ?_
      refine rc_p (p_lconst (v := 0) (dk_at ktX7_journalWord_0 8 rfl) (by decide) (b := 13) rfl) ?_
      refine rc_p (p_aload_n 0 (dk_at ktX7_journalWord_0 9 rfl) rfl rfl (b := 14) rfl) ?_
      refine r_geta fl_X7_9 rfl hm.l0 hm.s0 (dk_at ktX7_journalWord_0 10 rfl) hm.g0_0 (b := 17) rfl ?_
      refine rc_p (p_iconst (v := 2) (dk_at ktX7_journalWord_0 11 rfl) (by decide) (b := 18) rfl) ?_
      refine r_iald (j := 2) (hm.lt 1 (by decide)) hm.s1 (dk_at ktX7_journalWord_0 12 rfl) rfl ⟨by decide, by decide⟩ (v := (nI (nJ σ))) ((hR49.1 2 (by decide)).trans hI.w2) (b := 19) rfl ?_
      refine rc_p (p_iconst (v := 1) (dk_at ktX7_journalWord_0 13 rfl) (by decide) (b := 20) rfl) ?_
      refine rc_p (p_isub (v := ((nI (nJ σ)) - 1)) (dk_at ktX7_journalWord_0 14 rfl) rfl (b := 21) rfl) ?_
      refine rc_p (p_i2l (v := (Int32.toInt64 ((nI (nJ σ)) - 1))) (dk_at ktX7_journalWord_0 15 rfl) rfl (b := 22) rfl) ?_
      refine r_iS (As := [.long (Int32.toInt64 i), .long 0, .long (Int32.toInt64 ((nI (nJ σ)) - 1))]) (rest := []) (s_X7_in (Int32.toInt64 i) 0 (Int32.toInt64 ((nI (nJ σ)) - 1))) cw_X7_73 qs_X7_in (dk_at ktX7_journalWord_0 16 rfl) rfl rfl (Nat.le_of_ble_eq_true rfl) (by decide) (b := 25) rfl (fun v56 I53 J54 q55 => ?_)
      obtain ⟨rfl, rfl, rfl⟩ := q55
      refine r_val (y := bi (inI i 0 ((nI (nJ σ)) - 1))) (congrArg bi (inJ_I i 0 ((nI (nJ σ)) - 1))) ?_
      refine r_val (y := 0) (by rw [hib]; rfl) ?_
      refine r_if_eq (dk_at ktX7_journalWord_0 17 rfl) (b := 42) (by decide) (b2 := 28) rfl (fun c25 => ?_) (fun c25 => ?_)
      · skip
        refine rc_p (p_iconst (v := (-1)) (dk_at ktX7_journalWord_0 26 rfl) (by decide) (b := 43) rfl) ?_
        refine r_iret (dk_at ktX7_journalWord_0 27 rfl) rfl rfl ⟨_, rfl, ?_⟩
        refine ⟨fun hz => ?_, ?_, rfl, ?_, (hF50.mo (by decide) (by decide))⟩
        · unfold a_jword; rw [if_neg (by rw [hi]; decide)]
        · exact Eq.trans h652 (by first | rfl | decide)
        · exact hR49
      · first | exact absurd c25 (by decide) | exact absurd (by decide) c25
    · first | exact absurd c5 (by decide) | exact absurd (by decide) c5
  · refine Sp.of (by decide) (ls := [(0, .ref m), (1, .int s), (2, .int (nI j))]) (fun _ => rfl) (fun _ => Nat.le_of_ble_eq_true rfl) ?_
    refine rc_p (p_aload_n 0 (dk_at ktX7_journalWord_0 0 rfl) rfl rfl (b := 1) rfl) ?_
    refine rc_p (p_iload_n 1 (dk_at ktX7_journalWord_0 1 rfl) rfl rfl (b := 2) rfl) ?_
    refine r_iV (As' := [.int s]) (rest := []) (s_X7_noOne hm (σ := σ) hR hI s) cw_X7_362 qi_X7_noOne qv_X7_noOne rfl hm.l0 hm.s0 (dk_at ktX7_journalWord_0 2 rfl) rfl rfl (Nat.le_of_ble_eq_true rfl) (by decide) (b := 5) rfl (fun v60 I57 J58 q59 => ?_)
    obtain ⟨rfl, rfl, hR61, hF62, h663⟩ := q59
    refine r_val (y := 1) (by rw [hs]; rfl) ?_
    have h664 : I57 m 6 = 1 := h663.trans (by rw [hs]; rfl)
    refine r_if_eq (dk_at ktX7_journalWord_0 3 rfl) (b := 10) (by decide) (b2 := 8) rfl (fun c5 => ?_) (fun c5 => ?_)
    · first | exact absurd c5 (by decide) | exact absurd (by decide) c5
    · skip
      refine rc_p (p_iconst (v := 0) (dk_at ktX7_journalWord_0 4 rfl) (by decide) (b := 9) rfl) ?_
      refine r_iret (dk_at ktX7_journalWord_0 5 rfl) rfl rfl ⟨_, rfl, ?_⟩
      refine ⟨fun hz => ?_, ?_, rfl, ?_, (hF62.mo (by decide) (by decide))⟩
      · exact absurd (hz.symm.trans (cIn_f hs)) (by decide)
      · exact Eq.trans h664 (by exact (cIn_f hs).symm)
      · exact hR61
  · refine Sp.of (by decide) (ls := [(0, .ref m), (1, .int s), (2, .int i)]) (fun _ => rfl) (fun _ => Nat.le_of_ble_eq_true rfl) ?_
    refine rc_p (p_aload_n 0 (dk_at ktX7_journalWord_0 0 rfl) rfl rfl (b := 1) rfl) ?_
    refine rc_p (p_iload_n 1 (dk_at ktX7_journalWord_0 1 rfl) rfl rfl (b := 2) rfl) ?_
    refine r_iV (As' := [.int s]) (rest := []) (s_X7_noOne hm (σ := σ) hR hI s) cw_X7_362 qi_X7_noOne qv_X7_noOne rfl hm.l0 hm.s0 (dk_at ktX7_journalWord_0 2 rfl) rfl rfl (Nat.le_of_ble_eq_true rfl) (by decide) (b := 5) rfl (fun v68 I65 J66 q67 => ?_)
    obtain ⟨rfl, rfl, hR69, hF70, h671⟩ := q67
    refine r_val (y := 1) (by rw [hs]; rfl) ?_
    have h672 : I65 m 6 = 1 := h671.trans (by rw [hs]; rfl)
    refine r_if_eq (dk_at ktX7_journalWord_0 3 rfl) (b := 10) (by decide) (b2 := 8) rfl (fun c5 => ?_) (fun c5 => ?_)
    · first | exact absurd c5 (by decide) | exact absurd (by decide) c5
    · skip
      refine rc_p (p_iconst (v := 0) (dk_at ktX7_journalWord_0 4 rfl) (by decide) (b := 9) rfl) ?_
      refine r_iret (dk_at ktX7_journalWord_0 5 rfl) rfl rfl ⟨_, rfl, ?_⟩
      refine ⟨fun hz => ?_, ?_, rfl, ?_, (hF70.mo (by decide) (by decide))⟩
      · exact absurd (hz.symm.trans (cIn_f hs)) (by decide)
      · exact Eq.trans h672 (by exact (cIn_f hs).symm)
      · exact hR69
set_option maxRecDepth 4000 in
set_option maxHeartbeats 4000000 in
theorem s_X7_isWhole {n : Nat} {sh : mS} {G : mG} {I : mI} {J : mJ} {m : Nat} {σ : sT} (hm : ModG n sh G m) (hR : RelW (I (m + 1)) σ) (hI : Inv σ) (s : Int32) : Sp yX7_isWhole cX7_isWhole 2 (some FieldType.boolean) 5 240 0 0 [.ref m, .int s] n sh G I J (Qi (fun r_ I_ J_ => (cIn s 0 1 = 0 → bi (wholeB σ (tn s)) = r_) ∧ I_ m 6 = cIn s 0 1 ∧ J = J_ ∧ RelW (I_ (m + 1)) (σ) ∧ FF m [1, 2, 8] [6, 18, 19, 20, 21, 22, 23, 24, 26, 27] I I_)) nX := by
  have hb := hI.bd
  rcases sl_c s with rfl | rfl | hs
  · refine Sp.of (by decide) (ls := [(0, .ref m), (1, .int 0)]) (fun _ => rfl) (fun _ => Nat.le_of_ble_eq_true rfl) ?_
    refine rc_p (p_aload_n 0 (dk_at ktX7_isWhole_0 0 rfl) rfl rfl (b := 1) rfl) ?_
    refine rc_p (p_iload_n 1 (dk_at ktX7_isWhole_0 1 rfl) rfl rfl (b := 2) rfl) ?_
    refine r_iV (As' := [.int 0]) (rest := []) (s_X7_noOne hm (σ := σ) hR hI 0) cw_X7_362 qi_X7_noOne qv_X7_noOne rfl hm.l0 hm.s0 (dk_at ktX7_isWhole_0 2 rfl) rfl rfl (Nat.le_of_ble_eq_true rfl) (by decide) (b := 5) rfl (fun v4 I1 J2 q3 => ?_)
    obtain ⟨rfl, rfl, hR5, hF6, h67⟩ := q3
    refine r_val (y := 0) (by decide) ?_
    have h68 : I1 m 6 = 0 := h67.trans (by decide)
    refine r_if_ne (dk_at ktX7_isWhole_0 3 rfl) (b := 20) (by decide) (b2 := 8) rfl (fun c5 => ?_) (fun c5 => ?_)
    · first | exact absurd c5 (by decide) | exact absurd (by decide) c5
    · skip
      refine rc_p (p_aload_n 0 (dk_at ktX7_isWhole_0 4 rfl) rfl rfl (b := 9) rfl) ?_
      refine rc_p (p_iload_n 1 (dk_at ktX7_isWhole_0 5 rfl) rfl rfl (b := 10) rfl) ?_
      refine r_iV (As' := [.int 0]) (rest := []) (s_X7_wholeAt hm (σ := σ) hR5 hI 0 (by omega)) cw_X7_185 qi_X7_wholeAt qv_X7_wholeAt rfl hm.l0 hm.s0 (dk_at ktX7_isWhole_0 6 rfl) rfl rfl (Nat.le_of_ble_eq_true rfl) (by decide) (b := 13) rfl (fun v12 I9 J10 q11 => ?_)
      obtain ⟨rfl, rfl, rfl⟩ := q11
      refine r_if_eq (dk_at ktX7_isWhole_0 7 rfl) (b := 20) (by decide) (b2 := 16) rfl (fun c13 => ?_) (fun c13 => ?_)
      · have c13 := bi_f c13
        refine rc_p (p_iconst (v := 0) (dk_at ktX7_isWhole_0 10 rfl) (by decide) (b := 21) rfl) ?_
        refine r_iret (dk_at ktX7_isWhole_0 11 rfl) rfl rfl ⟨_, rfl, ?_⟩
        refine ⟨fun hz => ?_, ?_, rfl, ?_, (hF6.mo (by decide) (by decide))⟩
        · first | rfl | simp_all [bi, show tn 0 = 0 from rfl, show tn 1 = 1 from rfl]
        · exact Eq.trans h68 (by first | rfl | decide)
        · exact hR5
      · have c13 := bi_t c13
        refine rc_p (p_iconst (v := 1) (dk_at ktX7_isWhole_0 8 rfl) (by decide) (b := 17) rfl) ?_
        refine rc_p (p_goto (b := 21) (dk_at ktX7_isWhole_0 9 rfl) (by decide)) ?_
        refine r_iret (dk_at ktX7_isWhole_0 11 rfl) rfl rfl ⟨_, rfl, ?_⟩
        refine ⟨fun hz => ?_, ?_, rfl, ?_, (hF6.mo (by decide) (by decide))⟩
        · first | rfl | simp_all [bi, show tn 0 = 0 from rfl, show tn 1 = 1 from rfl]
        · exact Eq.trans h68 (by first | rfl | decide)
        · exact hR5
  · refine Sp.of (by decide) (ls := [(0, .ref m), (1, .int 1)]) (fun _ => rfl) (fun _ => Nat.le_of_ble_eq_true rfl) ?_
    refine rc_p (p_aload_n 0 (dk_at ktX7_isWhole_0 0 rfl) rfl rfl (b := 1) rfl) ?_
    refine rc_p (p_iload_n 1 (dk_at ktX7_isWhole_0 1 rfl) rfl rfl (b := 2) rfl) ?_
    refine r_iV (As' := [.int 1]) (rest := []) (s_X7_noOne hm (σ := σ) hR hI 1) cw_X7_362 qi_X7_noOne qv_X7_noOne rfl hm.l0 hm.s0 (dk_at ktX7_isWhole_0 2 rfl) rfl rfl (Nat.le_of_ble_eq_true rfl) (by decide) (b := 5) rfl (fun v16 I13 J14 q15 => ?_)
    obtain ⟨rfl, rfl, hR17, hF18, h619⟩ := q15
    refine r_val (y := 0) (by decide) ?_
    have h620 : I13 m 6 = 0 := h619.trans (by decide)
    refine r_if_ne (dk_at ktX7_isWhole_0 3 rfl) (b := 20) (by decide) (b2 := 8) rfl (fun c5 => ?_) (fun c5 => ?_)
    · first | exact absurd c5 (by decide) | exact absurd (by decide) c5
    · skip
      refine rc_p (p_aload_n 0 (dk_at ktX7_isWhole_0 4 rfl) rfl rfl (b := 9) rfl) ?_
      refine rc_p (p_iload_n 1 (dk_at ktX7_isWhole_0 5 rfl) rfl rfl (b := 10) rfl) ?_
      refine r_iV (As' := [.int 1]) (rest := []) (s_X7_wholeAt hm (σ := σ) hR17 hI 1 (by omega)) cw_X7_185 qi_X7_wholeAt qv_X7_wholeAt rfl hm.l0 hm.s0 (dk_at ktX7_isWhole_0 6 rfl) rfl rfl (Nat.le_of_ble_eq_true rfl) (by decide) (b := 13) rfl (fun v24 I21 J22 q23 => ?_)
      obtain ⟨rfl, rfl, rfl⟩ := q23
      refine r_if_eq (dk_at ktX7_isWhole_0 7 rfl) (b := 20) (by decide) (b2 := 16) rfl (fun c13 => ?_) (fun c13 => ?_)
      · have c13 := bi_f c13
        refine rc_p (p_iconst (v := 0) (dk_at ktX7_isWhole_0 10 rfl) (by decide) (b := 21) rfl) ?_
        refine r_iret (dk_at ktX7_isWhole_0 11 rfl) rfl rfl ⟨_, rfl, ?_⟩
        refine ⟨fun hz => ?_, ?_, rfl, ?_, (hF18.mo (by decide) (by decide))⟩
        · first | rfl | simp_all [bi, show tn 0 = 0 from rfl, show tn 1 = 1 from rfl]
        · exact Eq.trans h620 (by first | rfl | decide)
        · exact hR17
      · have c13 := bi_t c13
        refine rc_p (p_iconst (v := 1) (dk_at ktX7_isWhole_0 8 rfl) (by decide) (b := 17) rfl) ?_
        refine rc_p (p_goto (b := 21) (dk_at ktX7_isWhole_0 9 rfl) (by decide)) ?_
        refine r_iret (dk_at ktX7_isWhole_0 11 rfl) rfl rfl ⟨_, rfl, ?_⟩
        refine ⟨fun hz => ?_, ?_, rfl, ?_, (hF18.mo (by decide) (by decide))⟩
        · first | rfl | simp_all [bi, show tn 0 = 0 from rfl, show tn 1 = 1 from rfl]
        · exact Eq.trans h620 (by first | rfl | decide)
        · exact hR17
  · refine Sp.of (by decide) (ls := [(0, .ref m), (1, .int s)]) (fun _ => rfl) (fun _ => Nat.le_of_ble_eq_true rfl) ?_
    refine rc_p (p_aload_n 0 (dk_at ktX7_isWhole_0 0 rfl) rfl rfl (b := 1) rfl) ?_
    refine rc_p (p_iload_n 1 (dk_at ktX7_isWhole_0 1 rfl) rfl rfl (b := 2) rfl) ?_
    refine r_iV (As' := [.int s]) (rest := []) (s_X7_noOne hm (σ := σ) hR hI s) cw_X7_362 qi_X7_noOne qv_X7_noOne rfl hm.l0 hm.s0 (dk_at ktX7_isWhole_0 2 rfl) rfl rfl (Nat.le_of_ble_eq_true rfl) (by decide) (b := 5) rfl (fun v28 I25 J26 q27 => ?_)
    obtain ⟨rfl, rfl, hR29, hF30, h631⟩ := q27
    refine r_val (y := 1) (by rw [hs]; rfl) ?_
    have h632 : I25 m 6 = 1 := h631.trans (by rw [hs]; rfl)
    refine r_if_ne (dk_at ktX7_isWhole_0 3 rfl) (b := 20) (by decide) (b2 := 8) rfl (fun c5 => ?_) (fun c5 => ?_)
    · skip
      refine rc_p (p_iconst (v := 0) (dk_at ktX7_isWhole_0 10 rfl) (by decide) (b := 21) rfl) ?_
      refine r_iret (dk_at ktX7_isWhole_0 11 rfl) rfl rfl ⟨_, rfl, ?_⟩
      refine ⟨fun hz => ?_, ?_, rfl, ?_, (hF30.mo (by decide) (by decide))⟩
      · exact absurd (hz.symm.trans (cIn_f hs)) (by decide)
      · exact Eq.trans h632 (by exact (cIn_f hs).symm)
      · exact hR29
    · first | exact absurd c5 (by decide) | exact absurd (by decide) c5
set_option maxRecDepth 4000 in
set_option maxHeartbeats 4000000 in
theorem s_X7_isBootable {n : Nat} {sh : mS} {G : mG} {I : mI} {J : mJ} {m : Nat} {σ : sT} (hm : ModG n sh G m) (hR : RelW (I (m + 1)) σ) (hI : Inv σ) (s : Int32) : Sp yX7_isBootable cX7_isBootable 2 (some FieldType.boolean) 7 336 0 0 [.ref m, .int s] n sh G I J (Qi (fun r_ I_ J_ => (cIn s 0 1 = 0 → bi (canB σ (tn s)) = r_) ∧ I_ m 6 = cIn s 0 1 ∧ J = J_ ∧ RelW (I_ (m + 1)) (σ) ∧ FF m [1, 2, 8] [6, 18, 19, 20, 21, 22, 23, 24, 26, 27] I I_)) nX := by
  have hb := hI.bd
  rcases sl_c s with rfl | rfl | hs
  · refine Sp.of (by decide) (ls := [(0, .ref m), (1, .int 0)]) (fun _ => rfl) (fun _ => Nat.le_of_ble_eq_true rfl) ?_
    refine rc_p (p_aload_n 0 (dk_at ktX7_isBootable_0 0 rfl) rfl rfl (b := 1) rfl) ?_
    refine rc_p (p_iload_n 1 (dk_at ktX7_isBootable_0 1 rfl) rfl rfl (b := 2) rfl) ?_
    refine r_iV (As' := [.int 0]) (rest := []) (s_X7_noOne hm (σ := σ) hR hI 0) cw_X7_362 qi_X7_noOne qv_X7_noOne rfl hm.l0 hm.s0 (dk_at ktX7_isBootable_0 2 rfl) rfl rfl (Nat.le_of_ble_eq_true rfl) (by decide) (b := 5) rfl (fun v4 I1 J2 q3 => ?_)
    obtain ⟨rfl, rfl, hR5, hF6, h67⟩ := q3
    refine r_val (y := 0) (by decide) ?_
    have h68 : I1 m 6 = 0 := h67.trans (by decide)
    refine r_if_ne (dk_at ktX7_isBootable_0 3 rfl) (b := 20) (by decide) (b2 := 8) rfl (fun c5 => ?_) (fun c5 => ?_)
    · first | exact absurd c5 (by decide) | exact absurd (by decide) c5
    · skip
      refine rc_p (p_aload_n 0 (dk_at ktX7_isBootable_0 4 rfl) rfl rfl (b := 9) rfl) ?_
      refine rc_p (p_iload_n 1 (dk_at ktX7_isBootable_0 5 rfl) rfl rfl (b := 10) rfl) ?_
      refine r_iV (As' := [.int 0]) (rest := []) (s_X7_canBoot hm (σ := σ) hR5 hI 0 (by omega)) cw_X7_304 qi_X7_canBoot qv_X7_canBoot rfl hm.l0 hm.s0 (dk_at ktX7_isBootable_0 6 rfl) rfl rfl (Nat.le_of_ble_eq_true rfl) (by decide) (b := 13) rfl (fun v12 I9 J10 q11 => ?_)
      obtain ⟨rfl, rfl, hR15, hT13, hF14⟩ := q11
      refine r_if_eq (dk_at ktX7_isBootable_0 7 rfl) (b := 20) (by decide) (b2 := 16) rfl (fun c13 => ?_) (fun c13 => ?_)
      · have c13 := bi_f c13
        refine rc_p (p_iconst (v := 0) (dk_at ktX7_isBootable_0 10 rfl) (by decide) (b := 21) rfl) ?_
        refine r_iret (dk_at ktX7_isBootable_0 11 rfl) rfl rfl ⟨_, rfl, ?_⟩
        refine ⟨fun hz => ?_, ?_, rfl, ?_, (FF.tr (hF6.mo (by decide) (by decide)) (hF14.mo (by decide) (by decide)))⟩
        · first | rfl | simp_all [bi, show tn 0 = 0 from rfl, show tn 1 = 1 from rfl]
        · exact Eq.trans (((hF14.2 6 (by decide))).trans h68) (by first | rfl | decide)
        · exact hR15
      · have c13 := bi_t c13
        refine rc_p (p_iconst (v := 1) (dk_at ktX7_isBootable_0 8 rfl) (by decide) (b := 17) rfl) ?_
        refine rc_p (p_goto (b := 21) (dk_at ktX7_isBootable_0 9 rfl) (by decide)) ?_
        refine r_iret (dk_at ktX7_isBootable_0 11 rfl) rfl rfl ⟨_, rfl, ?_⟩
        refine ⟨fun hz => ?_, ?_, rfl, ?_, (FF.tr (hF6.mo (by decide) (by decide)) (hF14.mo (by decide) (by decide)))⟩
        · first | rfl | simp_all [bi, show tn 0 = 0 from rfl, show tn 1 = 1 from rfl]
        · exact Eq.trans (((hF14.2 6 (by decide))).trans h68) (by first | rfl | decide)
        · exact hR15
  · refine Sp.of (by decide) (ls := [(0, .ref m), (1, .int 1)]) (fun _ => rfl) (fun _ => Nat.le_of_ble_eq_true rfl) ?_
    refine rc_p (p_aload_n 0 (dk_at ktX7_isBootable_0 0 rfl) rfl rfl (b := 1) rfl) ?_
    refine rc_p (p_iload_n 1 (dk_at ktX7_isBootable_0 1 rfl) rfl rfl (b := 2) rfl) ?_
    refine r_iV (As' := [.int 1]) (rest := []) (s_X7_noOne hm (σ := σ) hR hI 1) cw_X7_362 qi_X7_noOne qv_X7_noOne rfl hm.l0 hm.s0 (dk_at ktX7_isBootable_0 2 rfl) rfl rfl (Nat.le_of_ble_eq_true rfl) (by decide) (b := 5) rfl (fun v19 I16 J17 q18 => ?_)
    obtain ⟨rfl, rfl, hR20, hF21, h622⟩ := q18
    refine r_val (y := 0) (by decide) ?_
    have h623 : I16 m 6 = 0 := h622.trans (by decide)
    refine r_if_ne (dk_at ktX7_isBootable_0 3 rfl) (b := 20) (by decide) (b2 := 8) rfl (fun c5 => ?_) (fun c5 => ?_)
    · first | exact absurd c5 (by decide) | exact absurd (by decide) c5
    · skip
      refine rc_p (p_aload_n 0 (dk_at ktX7_isBootable_0 4 rfl) rfl rfl (b := 9) rfl) ?_
      refine rc_p (p_iload_n 1 (dk_at ktX7_isBootable_0 5 rfl) rfl rfl (b := 10) rfl) ?_
      refine r_iV (As' := [.int 1]) (rest := []) (s_X7_canBoot hm (σ := σ) hR20 hI 1 (by omega)) cw_X7_304 qi_X7_canBoot qv_X7_canBoot rfl hm.l0 hm.s0 (dk_at ktX7_isBootable_0 6 rfl) rfl rfl (Nat.le_of_ble_eq_true rfl) (by decide) (b := 13) rfl (fun v27 I24 J25 q26 => ?_)
      obtain ⟨rfl, rfl, hR30, hT28, hF29⟩ := q26
      refine r_if_eq (dk_at ktX7_isBootable_0 7 rfl) (b := 20) (by decide) (b2 := 16) rfl (fun c13 => ?_) (fun c13 => ?_)
      · have c13 := bi_f c13
        refine rc_p (p_iconst (v := 0) (dk_at ktX7_isBootable_0 10 rfl) (by decide) (b := 21) rfl) ?_
        refine r_iret (dk_at ktX7_isBootable_0 11 rfl) rfl rfl ⟨_, rfl, ?_⟩
        refine ⟨fun hz => ?_, ?_, rfl, ?_, (FF.tr (hF21.mo (by decide) (by decide)) (hF29.mo (by decide) (by decide)))⟩
        · first | rfl | simp_all [bi, show tn 0 = 0 from rfl, show tn 1 = 1 from rfl]
        · exact Eq.trans (((hF29.2 6 (by decide))).trans h623) (by first | rfl | decide)
        · exact hR30
      · have c13 := bi_t c13
        refine rc_p (p_iconst (v := 1) (dk_at ktX7_isBootable_0 8 rfl) (by decide) (b := 17) rfl) ?_
        refine rc_p (p_goto (b := 21) (dk_at ktX7_isBootable_0 9 rfl) (by decide)) ?_
        refine r_iret (dk_at ktX7_isBootable_0 11 rfl) rfl rfl ⟨_, rfl, ?_⟩
        refine ⟨fun hz => ?_, ?_, rfl, ?_, (FF.tr (hF21.mo (by decide) (by decide)) (hF29.mo (by decide) (by decide)))⟩
        · first | rfl | simp_all [bi, show tn 0 = 0 from rfl, show tn 1 = 1 from rfl]
        · exact Eq.trans (((hF29.2 6 (by decide))).trans h623) (by first | rfl | decide)
        · exact hR30
  · refine Sp.of (by decide) (ls := [(0, .ref m), (1, .int s)]) (fun _ => rfl) (fun _ => Nat.le_of_ble_eq_true rfl) ?_
    refine rc_p (p_aload_n 0 (dk_at ktX7_isBootable_0 0 rfl) rfl rfl (b := 1) rfl) ?_
    refine rc_p (p_iload_n 1 (dk_at ktX7_isBootable_0 1 rfl) rfl rfl (b := 2) rfl) ?_
    refine r_iV (As' := [.int s]) (rest := []) (s_X7_noOne hm (σ := σ) hR hI s) cw_X7_362 qi_X7_noOne qv_X7_noOne rfl hm.l0 hm.s0 (dk_at ktX7_isBootable_0 2 rfl) rfl rfl (Nat.le_of_ble_eq_true rfl) (by decide) (b := 5) rfl (fun v34 I31 J32 q33 => ?_)
    obtain ⟨rfl, rfl, hR35, hF36, h637⟩ := q33
    refine r_val (y := 1) (by rw [hs]; rfl) ?_
    have h638 : I31 m 6 = 1 := h637.trans (by rw [hs]; rfl)
    refine r_if_ne (dk_at ktX7_isBootable_0 3 rfl) (b := 20) (by decide) (b2 := 8) rfl (fun c5 => ?_) (fun c5 => ?_)
    · skip
      refine rc_p (p_iconst (v := 0) (dk_at ktX7_isBootable_0 10 rfl) (by decide) (b := 21) rfl) ?_
      refine r_iret (dk_at ktX7_isBootable_0 11 rfl) rfl rfl ⟨_, rfl, ?_⟩
      refine ⟨fun hz => ?_, ?_, rfl, ?_, (hF36.mo (by decide) (by decide))⟩
      · exact absurd (hz.symm.trans (cIn_f hs)) (by decide)
      · exact Eq.trans h638 (by exact (cIn_f hs).symm)
      · exact hR35
    · first | exact absurd c5 (by decide) | exact absurd (by decide) c5
set_option maxRecDepth 4000 in
set_option maxHeartbeats 4000000 in
theorem s_X7_checksum {n : Nat} {sh : mS} {G : mG} {I : mI} {J : mJ} {m : Nat} {σ : sT} (hm : ModG n sh G m) (hR : RelW (I (m + 1)) σ) (hI : Inv σ) (s : Int32) : Sp yX7_checksum cX7_checksum 2 (some FieldType.int) 4 192 0 0 [.ref m, .int s] n sh G I J (Qi (fun r_ I_ J_ => (cIn s 0 1 = 0 → sumS σ (tn s) = r_) ∧ I_ m 6 = cIn s 0 1 ∧ J = J_ ∧ RelW (I_ (m + 1)) (σ) ∧ FF m [1, 2, 8] [6, 18, 19, 20, 21, 22, 23, 24, 26, 27] I I_)) nX := by
  have hb := hI.bd
  rcases sl_c s with rfl | rfl | hs
  · refine Sp.of (by decide) (ls := [(0, .ref m), (1, .int 0)]) (fun _ => rfl) (fun _ => Nat.le_of_ble_eq_true rfl) ?_
    refine rc_p (p_aload_n 0 (dk_at ktX7_checksum_0 0 rfl) rfl rfl (b := 1) rfl) ?_
    refine rc_p (p_iload_n 1 (dk_at ktX7_checksum_0 1 rfl) rfl rfl (b := 2) rfl) ?_
    refine r_iV (As' := [.int 0]) (rest := []) (s_X7_noOne hm (σ := σ) hR hI 0) cw_X7_362 qi_X7_noOne qv_X7_noOne rfl hm.l0 hm.s0 (dk_at ktX7_checksum_0 2 rfl) rfl rfl (Nat.le_of_ble_eq_true rfl) (by decide) (b := 5) rfl (fun v4 I1 J2 q3 => ?_)
    obtain ⟨rfl, rfl, hR5, hF6, h67⟩ := q3
    refine r_val (y := 0) (by decide) ?_
    have h68 : I1 m 6 = 0 := h67.trans (by decide)
    refine r_if_eq (dk_at ktX7_checksum_0 3 rfl) (b := 12) (by decide) (b2 := 8) rfl (fun c5 => ?_) (fun c5 => ?_)
    · skip
      refine rc_p (p_aload_n 0 (dk_at ktX7_checksum_0 6 rfl) rfl rfl (b := 13) rfl) ?_
      refine rc_p (p_iload_n 1 (dk_at ktX7_checksum_0 7 rfl) rfl rfl (b := 14) rfl) ?_
      refine r_iV (As' := [.int 0]) (rest := []) (s_X7_sumAt hm (σ := σ) hR5 hI 0 (by omega)) cw_X7_203 qi_X7_sumAt qv_X7_sumAt rfl hm.l0 hm.s0 (dk_at ktX7_checksum_0 8 rfl) rfl rfl (Nat.le_of_ble_eq_true rfl) (by decide) (b := 17) rfl (fun v12 I9 J10 q11 => ?_)
      obtain ⟨rfl, rfl, rfl⟩ := q11
      refine r_iret (dk_at ktX7_checksum_0 9 rfl) rfl rfl ⟨_, rfl, ?_⟩
      refine ⟨fun hz => ?_, ?_, rfl, ?_, (hF6.mo (by decide) (by decide))⟩
      · first | rfl | simp_all [bi, show tn 0 = 0 from rfl, show tn 1 = 1 from rfl]
      · exact Eq.trans h68 (by first | rfl | decide)
      · exact hR5
    · first | exact absurd c5 (by decide) | exact absurd (by decide) c5
  · refine Sp.of (by decide) (ls := [(0, .ref m), (1, .int 1)]) (fun _ => rfl) (fun _ => Nat.le_of_ble_eq_true rfl) ?_
    refine rc_p (p_aload_n 0 (dk_at ktX7_checksum_0 0 rfl) rfl rfl (b := 1) rfl) ?_
    refine rc_p (p_iload_n 1 (dk_at ktX7_checksum_0 1 rfl) rfl rfl (b := 2) rfl) ?_
    refine r_iV (As' := [.int 1]) (rest := []) (s_X7_noOne hm (σ := σ) hR hI 1) cw_X7_362 qi_X7_noOne qv_X7_noOne rfl hm.l0 hm.s0 (dk_at ktX7_checksum_0 2 rfl) rfl rfl (Nat.le_of_ble_eq_true rfl) (by decide) (b := 5) rfl (fun v16 I13 J14 q15 => ?_)
    obtain ⟨rfl, rfl, hR17, hF18, h619⟩ := q15
    refine r_val (y := 0) (by decide) ?_
    have h620 : I13 m 6 = 0 := h619.trans (by decide)
    refine r_if_eq (dk_at ktX7_checksum_0 3 rfl) (b := 12) (by decide) (b2 := 8) rfl (fun c5 => ?_) (fun c5 => ?_)
    · skip
      refine rc_p (p_aload_n 0 (dk_at ktX7_checksum_0 6 rfl) rfl rfl (b := 13) rfl) ?_
      refine rc_p (p_iload_n 1 (dk_at ktX7_checksum_0 7 rfl) rfl rfl (b := 14) rfl) ?_
      refine r_iV (As' := [.int 1]) (rest := []) (s_X7_sumAt hm (σ := σ) hR17 hI 1 (by omega)) cw_X7_203 qi_X7_sumAt qv_X7_sumAt rfl hm.l0 hm.s0 (dk_at ktX7_checksum_0 8 rfl) rfl rfl (Nat.le_of_ble_eq_true rfl) (by decide) (b := 17) rfl (fun v24 I21 J22 q23 => ?_)
      obtain ⟨rfl, rfl, rfl⟩ := q23
      refine r_iret (dk_at ktX7_checksum_0 9 rfl) rfl rfl ⟨_, rfl, ?_⟩
      refine ⟨fun hz => ?_, ?_, rfl, ?_, (hF18.mo (by decide) (by decide))⟩
      · first | rfl | simp_all [bi, show tn 0 = 0 from rfl, show tn 1 = 1 from rfl]
      · exact Eq.trans h620 (by first | rfl | decide)
      · exact hR17
    · first | exact absurd c5 (by decide) | exact absurd (by decide) c5
  · refine Sp.of (by decide) (ls := [(0, .ref m), (1, .int s)]) (fun _ => rfl) (fun _ => Nat.le_of_ble_eq_true rfl) ?_
    refine rc_p (p_aload_n 0 (dk_at ktX7_checksum_0 0 rfl) rfl rfl (b := 1) rfl) ?_
    refine rc_p (p_iload_n 1 (dk_at ktX7_checksum_0 1 rfl) rfl rfl (b := 2) rfl) ?_
    refine r_iV (As' := [.int s]) (rest := []) (s_X7_noOne hm (σ := σ) hR hI s) cw_X7_362 qi_X7_noOne qv_X7_noOne rfl hm.l0 hm.s0 (dk_at ktX7_checksum_0 2 rfl) rfl rfl (Nat.le_of_ble_eq_true rfl) (by decide) (b := 5) rfl (fun v28 I25 J26 q27 => ?_)
    obtain ⟨rfl, rfl, hR29, hF30, h631⟩ := q27
    refine r_val (y := 1) (by rw [hs]; rfl) ?_
    have h632 : I25 m 6 = 1 := h631.trans (by rw [hs]; rfl)
    refine r_if_eq (dk_at ktX7_checksum_0 3 rfl) (b := 12) (by decide) (b2 := 8) rfl (fun c5 => ?_) (fun c5 => ?_)
    · first | exact absurd c5 (by decide) | exact absurd (by decide) c5
    · skip
      refine rc_p (p_iconst (v := 0) (dk_at ktX7_checksum_0 4 rfl) (by decide) (b := 9) rfl) ?_
      refine rc_p (p_goto (b := 17) (dk_at ktX7_checksum_0 5 rfl) (by decide)) ?_
      refine r_iret (dk_at ktX7_checksum_0 9 rfl) rfl rfl ⟨_, rfl, ?_⟩
      refine ⟨fun hz => ?_, ?_, rfl, ?_, (hF30.mo (by decide) (by decide))⟩
      · exact absurd (hz.symm.trans (cIn_f hs)) (by decide)
      · exact Eq.trans h632 (by exact (cIn_f hs).symm)
      · exact hR29

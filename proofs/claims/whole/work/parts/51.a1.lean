/-! THE REFERENCE: its calls -/
set_option maxRecDepth 4000 in
set_option maxHeartbeats 4000000 in
theorem s_X7_throwsIf {n : Nat} {sh : mS} {G : mG} {I : mI} {J : mJ} {m : Nat} {σ : sT} (hm : ModG n sh G m) (hR : RelW (I (m + 1)) σ) (hI : Inv σ) (hT0 : I m 6 = 0) (b : Bool) (c : Int32) (hc : ¬ c = 0) : Sp yX7_throwsIf cX7_throwsIf 3 (some FieldType.boolean) 1 48 0 0 [.ref m, .int (bi b), .int c] n sh G I J (Qi (fun r_ I_ J_ => bi b = r_ ∧ J = J_ ∧ RelW (I_ (m + 1)) σ ∧ FF m [] [6] I I_ ∧ I_ m 6 = if b = true then c else 0)) nX := by
  refine Sp.of (by decide) (ls := [(0, .ref m), (1, .int (bi b)), (2, .int c)]) (fun _ => rfl) (fun _ => Nat.le_of_ble_eq_true rfl) ?_
  refine rc_p (p_aload_n 0 (dk_at ktX7_throwsIf_0 0 rfl) rfl rfl (b := 1) rfl) ?_
  refine r_geti fl_X7_46 rfl hm.l0 hm.s0 (dk_at ktX7_throwsIf_0 1 rfl) (v := 0) hT0 (b := 4) rfl ?_
  refine r_if_ne (dk_at ktX7_throwsIf_0 2 rfl) (b := 16) (by decide) (b2 := 7) rfl (fun c4 => ?_) (fun c4 => ?_)
  · first | exact absurd c4 (by decide) | exact absurd (by decide) c4
  · skip
    refine rc_p (p_iload_n 1 (dk_at ktX7_throwsIf_0 3 rfl) rfl rfl (b := 8) rfl) ?_
    refine r_if_eq (dk_at ktX7_throwsIf_0 4 rfl) (b := 16) (by decide) (b2 := 11) rfl (fun c8 => ?_) (fun c8 => ?_)
    · have c8 := bi_f c8
      refine rc_p (p_aload_n 0 (dk_at ktX7_throwsIf_0 8 rfl) rfl rfl (b := 17) rfl) ?_
      refine r_geti fl_X7_46 rfl hm.l0 hm.s0 (dk_at ktX7_throwsIf_0 9 rfl) (v := 0) hT0 (b := 20) rfl ?_
      refine r_if_eq (dk_at ktX7_throwsIf_0 10 rfl) (b := 27) (by decide) (b2 := 23) rfl (fun c20 => ?_) (fun c20 => ?_)
      · skip
        refine rc_p (p_iconst (v := 0) (dk_at ktX7_throwsIf_0 13 rfl) (by decide) (b := 28) rfl) ?_
        refine r_iret (dk_at ktX7_throwsIf_0 14 rfl) rfl rfl ⟨_, rfl, ?_⟩
        refine ⟨?_, rfl, hR, ?_, ?_⟩
        · simp_all [bi]
        · repeat (first | exact FF.rf | refine FF.uf ?_ (by decide))
        · simp_all [up2]
      · first | exact absurd c20 (by decide) | exact absurd (by decide) c20
    · have c8 := bi_t c8
      refine rc_p (p_aload_n 0 (dk_at ktX7_throwsIf_0 5 rfl) rfl rfl (b := 12) rfl) ?_
      refine rc_p (p_iload_n 2 (dk_at ktX7_throwsIf_0 6 rfl) rfl rfl (b := 13) rfl) ?_
      refine r_puti fl_X7_46 fw_X7_6 rfl hm.l0 hm.s0 rfl rfl (dk_at ktX7_throwsIf_0 7 rfl) (b := 16) rfl ?_
      refine rc_p (p_aload_n 0 (dk_at ktX7_throwsIf_0 8 rfl) rfl rfl (b := 17) rfl) ?_
      refine r_geti fl_X7_46 rfl hm.l0 hm.s0 (dk_at ktX7_throwsIf_0 9 rfl) (v := c) up2_s (b := 20) rfl ?_
      refine r_if_eq (dk_at ktX7_throwsIf_0 10 rfl) (b := 27) (by decide) (b2 := 23) rfl (fun c20 => ?_) (fun c20 => ?_)
      · skip
        refine rc_p (p_iconst (v := 0) (dk_at ktX7_throwsIf_0 13 rfl) (by decide) (b := 28) rfl) ?_
        refine r_iret (dk_at ktX7_throwsIf_0 14 rfl) rfl rfl ⟨_, rfl, ?_⟩
        refine ⟨?_, rfl, (by rw [up2_off (by omega)]; exact hR), ?_, ?_⟩
        · simp_all [bi]
        · repeat (first | exact FF.rf | refine FF.uf ?_ (by decide))
        · simp_all [up2]
      · skip
        refine rc_p (p_iconst (v := 1) (dk_at ktX7_throwsIf_0 11 rfl) (by decide) (b := 24) rfl) ?_
        refine rc_p (p_goto (b := 28) (dk_at ktX7_throwsIf_0 12 rfl) (by decide)) ?_
        refine r_iret (dk_at ktX7_throwsIf_0 14 rfl) rfl rfl ⟨_, rfl, ?_⟩
        refine ⟨?_, rfl, (by rw [up2_off (by omega)]; exact hR), ?_, ?_⟩
        · simp_all [bi]
        · repeat (first | exact FF.rf | refine FF.uf ?_ (by decide))
        · simp_all [up2]
set_option maxRecDepth 4000 in
set_option maxHeartbeats 4000000 in
theorem s_X7_noOne {n : Nat} {sh : mS} {G : mG} {I : mI} {J : mJ} {m : Nat} {σ : sT} (hm : ModG n sh G m) (hR : RelW (I (m + 1)) σ) (hI : Inv σ) (s : Int32) : Sp yX7_noOne cX7_noOne 2 (some FieldType.boolean) 2 96 0 0 [.ref m, .int s] n sh G I J (Qi (fun r_ I_ J_ => bi (!(inI s 0 1)) = r_ ∧ J = J_ ∧ RelW (I_ (m + 1)) σ ∧ FF m [] [6] I I_ ∧ I_ m 6 = if inI s 0 1 = true then 0 else 1)) nX := by
  refine Sp.of (by decide) (ls := [(0, .ref m), (1, .int s)]) (fun _ => rfl) (fun _ => Nat.le_of_ble_eq_true rfl) ?_
  refine rc_p (p_aload_n 0 (dk_at ktX7_noOne_0 0 rfl) rfl rfl (b := 1) rfl) ?_
  refine rc_p (p_iconst (v := 0) (dk_at ktX7_noOne_0 1 rfl) (by decide) (b := 2) rfl) ?_
  refine r_puti fl_X7_46 fw_X7_6 rfl hm.l0 hm.s0 rfl rfl (dk_at ktX7_noOne_0 2 rfl) (b := 5) rfl ?_
  refine rc_p (p_aload_n 0 (dk_at ktX7_noOne_0 3 rfl) rfl rfl (b := 6) rfl) ?_
  refine rc_p (p_iload_n 1 (dk_at ktX7_noOne_0 4 rfl) rfl rfl (b := 7) rfl) ?_
  refine rc_p (p_i2l (v := (Int32.toInt64 s)) (dk_at ktX7_noOne_0 5 rfl) rfl (b := 8) rfl) ?_
  refine rc_p (p_lconst (v := 0) (dk_at ktX7_noOne_0 6 rfl) (by decide) (b := 9) rfl) ?_
  refine rc_p (p_lconst (v := 1) (dk_at ktX7_noOne_0 7 rfl) (by decide) (b := 10) rfl) ?_
  refine r_iS (As := [.long (Int32.toInt64 s), .long 0, .long 1]) (rest := [.ref m]) (s_X7_in (Int32.toInt64 s) 0 1) cw_X7_73 qs_X7_in (dk_at ktX7_noOne_0 8 rfl) rfl rfl (Nat.le_of_ble_eq_true rfl) (by decide) (b := 13) rfl (fun v4 I1 J2 q3 => ?_)
  obtain ⟨rfl, rfl, rfl⟩ := q3
  refine r_val (y := bi (inI s 0 1)) (congrArg bi (inJ_I s 0 1)) ?_
  refine r_if_ne (dk_at ktX7_noOne_0 9 rfl) (b := 20) (by decide) (b2 := 16) rfl (fun c13 => ?_) (fun c13 => ?_)
  · have c13 := bi_t c13
    refine rc_p (p_iconst (v := 0) (dk_at ktX7_noOne_0 12 rfl) (by decide) (b := 21) rfl) ?_
    refine rc_p (p_iconst (v := 1) (dk_at ktX7_noOne_0 13 rfl) (by decide) (b := 22) rfl) ?_
    refine r_iV (As' := [.int 0, .int 1]) (rest := []) (s_X7_throwsIf hm (σ := σ) (by rw [up2_off (by omega)]; exact hR) hI up2_s false 1 (by decide)) cw_X7_190 qi_X7_throwsIf qv_X7_throwsIf rfl hm.l0 hm.s0 (dk_at ktX7_noOne_0 14 rfl) rfl rfl (Nat.le_of_ble_eq_true rfl) (by decide) (b := 25) rfl (fun v8 I5 J6 q7 => ?_)
    obtain ⟨rfl, rfl, hR9, hF10, h611⟩ := q7
    refine r_val (y := 0) rfl ?_
    refine r_iret (dk_at ktX7_noOne_0 15 rfl) rfl rfl ⟨_, rfl, ?_⟩
    refine ⟨?_, rfl, hR9, ?_, ?_⟩
    · simp_all [bi]
    · exact (FF.tr (FF.uf FF.rf (by decide)) (hF10.mo (by decide) (by decide)))
    · rw [h611]; simp_all
  · have c13 := bi_f c13
    refine rc_p (p_iconst (v := 1) (dk_at ktX7_noOne_0 10 rfl) (by decide) (b := 17) rfl) ?_
    refine rc_p (p_goto (b := 21) (dk_at ktX7_noOne_0 11 rfl) (by decide)) ?_
    refine rc_p (p_iconst (v := 1) (dk_at ktX7_noOne_0 13 rfl) (by decide) (b := 22) rfl) ?_
    refine r_iV (As' := [.int 1, .int 1]) (rest := []) (s_X7_throwsIf hm (σ := σ) (by rw [up2_off (by omega)]; exact hR) hI up2_s true 1 (by decide)) cw_X7_190 qi_X7_throwsIf qv_X7_throwsIf rfl hm.l0 hm.s0 (dk_at ktX7_noOne_0 14 rfl) rfl rfl (Nat.le_of_ble_eq_true rfl) (by decide) (b := 25) rfl (fun v15 I12 J13 q14 => ?_)
    obtain ⟨rfl, rfl, hR16, hF17, h618⟩ := q14
    refine r_val (y := 1) rfl ?_
    refine r_iret (dk_at ktX7_noOne_0 15 rfl) rfl rfl ⟨_, rfl, ?_⟩
    refine ⟨?_, rfl, hR16, ?_, ?_⟩
    · simp_all [bi]
    · exact (FF.tr (FF.uf FF.rf (by decide)) (hF17.mo (by decide) (by decide)))
    · rw [h618]; simp_all
set_option maxRecDepth 4000 in
set_option maxHeartbeats 4000000 in
theorem s_X7_noVersion {n : Nat} {sh : mS} {G : mG} {I : mI} {J : mJ} {m : Nat} {σ : sT} (hm : ModG n sh G m) (hR : RelW (I (m + 1)) σ) (hI : Inv σ) (v : Int32) : Sp yX7_noVersion cX7_noVersion 2 (some FieldType.boolean) 2 96 0 0 [.ref m, .int v] n sh G I J (Qi (fun r_ I_ J_ => bi (!(inI v 1 255)) = r_ ∧ J = J_ ∧ RelW (I_ (m + 1)) σ ∧ FF m [] [6] I I_ ∧ I_ m 6 = if inI v 1 255 = true then 0 else 1)) nX := by
  refine Sp.of (by decide) (ls := [(0, .ref m), (1, .int v)]) (fun _ => rfl) (fun _ => Nat.le_of_ble_eq_true rfl) ?_
  refine rc_p (p_aload_n 0 (dk_at ktX7_noVersion_0 0 rfl) rfl rfl (b := 1) rfl) ?_
  refine rc_p (p_iconst (v := 0) (dk_at ktX7_noVersion_0 1 rfl) (by decide) (b := 2) rfl) ?_
  refine r_puti fl_X7_46 fw_X7_6 rfl hm.l0 hm.s0 rfl rfl (dk_at ktX7_noVersion_0 2 rfl) (b := 5) rfl ?_
  refine rc_p (p_aload_n 0 (dk_at ktX7_noVersion_0 3 rfl) rfl rfl (b := 6) rfl) ?_
  refine rc_p (p_iload_n 1 (dk_at ktX7_noVersion_0 4 rfl) rfl rfl (b := 7) rfl) ?_
  refine rc_p (p_i2l (v := (Int32.toInt64 v)) (dk_at ktX7_noVersion_0 5 rfl) rfl (b := 8) rfl) ?_
  refine rc_p (p_lconst (v := 1) (dk_at ktX7_noVersion_0 6 rfl) (by decide) (b := 9) rfl) ?_
  refine rc_p (p_ldc2 (v := 255) ql_TwinBootModel_57 (dk_at ktX7_noVersion_0 7 rfl) (b := 12) rfl) ?_
  refine r_iS (As := [.long (Int32.toInt64 v), .long 1, .long 255]) (rest := [.ref m]) (s_X7_in (Int32.toInt64 v) 1 255) cw_X7_73 qs_X7_in (dk_at ktX7_noVersion_0 8 rfl) rfl rfl (Nat.le_of_ble_eq_true rfl) (by decide) (b := 15) rfl (fun v4 I1 J2 q3 => ?_)
  obtain ⟨rfl, rfl, rfl⟩ := q3
  refine r_val (y := bi (inI v 1 255)) (congrArg bi (inJ_I v 1 255)) ?_
  refine r_if_ne (dk_at ktX7_noVersion_0 9 rfl) (b := 22) (by decide) (b2 := 18) rfl (fun c15 => ?_) (fun c15 => ?_)
  · have c15 := bi_t c15
    refine rc_p (p_iconst (v := 0) (dk_at ktX7_noVersion_0 12 rfl) (by decide) (b := 23) rfl) ?_
    refine rc_p (p_iconst (v := 1) (dk_at ktX7_noVersion_0 13 rfl) (by decide) (b := 24) rfl) ?_
    refine r_iV (As' := [.int 0, .int 1]) (rest := []) (s_X7_throwsIf hm (σ := σ) (by rw [up2_off (by omega)]; exact hR) hI up2_s false 1 (by decide)) cw_X7_190 qi_X7_throwsIf qv_X7_throwsIf rfl hm.l0 hm.s0 (dk_at ktX7_noVersion_0 14 rfl) rfl rfl (Nat.le_of_ble_eq_true rfl) (by decide) (b := 27) rfl (fun v8 I5 J6 q7 => ?_)
    obtain ⟨rfl, rfl, hR9, hF10, h611⟩ := q7
    refine r_val (y := 0) rfl ?_
    refine r_iret (dk_at ktX7_noVersion_0 15 rfl) rfl rfl ⟨_, rfl, ?_⟩
    refine ⟨?_, rfl, hR9, ?_, ?_⟩
    · simp_all [bi]
    · exact (FF.tr (FF.uf FF.rf (by decide)) (hF10.mo (by decide) (by decide)))
    · rw [h611]; simp_all
  · have c15 := bi_f c15
    refine rc_p (p_iconst (v := 1) (dk_at ktX7_noVersion_0 10 rfl) (by decide) (b := 19) rfl) ?_
    refine rc_p (p_goto (b := 23) (dk_at ktX7_noVersion_0 11 rfl) (by decide)) ?_
    refine rc_p (p_iconst (v := 1) (dk_at ktX7_noVersion_0 13 rfl) (by decide) (b := 24) rfl) ?_
    refine r_iV (As' := [.int 1, .int 1]) (rest := []) (s_X7_throwsIf hm (σ := σ) (by rw [up2_off (by omega)]; exact hR) hI up2_s true 1 (by decide)) cw_X7_190 qi_X7_throwsIf qv_X7_throwsIf rfl hm.l0 hm.s0 (dk_at ktX7_noVersion_0 14 rfl) rfl rfl (Nat.le_of_ble_eq_true rfl) (by decide) (b := 27) rfl (fun v15 I12 J13 q14 => ?_)
    obtain ⟨rfl, rfl, hR16, hF17, h618⟩ := q14
    refine r_val (y := 1) rfl ?_
    refine r_iret (dk_at ktX7_noVersion_0 15 rfl) rfl rfl ⟨_, rfl, ?_⟩
    refine ⟨?_, rfl, hR16, ?_, ?_⟩
    · simp_all [bi]
    · exact (FF.tr (FF.uf FF.rf (by decide)) (hF17.mo (by decide) (by decide)))
    · rw [h618]; simp_all
set_option maxRecDepth 4000 in
set_option maxHeartbeats 4000000 in
theorem s_X7_power {n : Nat} {sh : mS} {G : mG} {I : mI} {J : mJ} {m : Nat} {σ : sT} (hm : ModG n sh G m) (hR : RelW (I (m + 1)) σ) (hI : Inv σ)  : Sp yX7_power cX7_power 1 (some FieldType.int) 1 48 0 0 [.ref m] n sh G I J (Qi (fun r_ I_ J_ => (0 = 0 → σ 6 = r_) ∧ I_ m 6 = 0 ∧ J = J_ ∧ RelW (I_ (m + 1)) (σ) ∧ FF m [1, 2, 8] [6, 18, 19, 20, 21, 22, 23, 24, 26, 27] I I_)) nX := by
  have hb := hI.bd
  refine Sp.of (by decide) (ls := [(0, .ref m)]) (fun _ => rfl) (fun _ => Nat.le_of_ble_eq_true rfl) ?_
  refine rc_p (p_aload_n 0 (dk_at ktX7_power_0 0 rfl) rfl rfl (b := 1) rfl) ?_
  refine rc_p (p_iconst (v := 0) (dk_at ktX7_power_0 1 rfl) (by decide) (b := 2) rfl) ?_
  refine r_puti fl_X7_46 fw_X7_6 rfl hm.l0 hm.s0 rfl rfl (dk_at ktX7_power_0 2 rfl) (b := 5) rfl ?_
  refine rc_p (p_aload_n 0 (dk_at ktX7_power_0 3 rfl) rfl rfl (b := 6) rfl) ?_
  refine r_geta fl_X7_9 rfl hm.l0 hm.s0 (dk_at ktX7_power_0 4 rfl) hm.g0_0 (b := 9) rfl ?_
  refine rc_p (p_bipush (v := 6) (dk_at ktX7_power_0 5 rfl) (by decide) (b := 11) rfl) ?_
  refine r_iald (j := 6) (hm.lt 1 (by decide)) hm.s1 (dk_at ktX7_power_0 6 rfl) rfl ⟨by decide, by decide⟩ (v := (σ 6)) ((up2_n (by omega)).trans (hR.1 6 (by decide))) (b := 12) rfl ?_
  refine r_iret (dk_at ktX7_power_0 7 rfl) rfl rfl ⟨_, rfl, ?_⟩
  refine ⟨fun hz => ?_, ?_, rfl, ?_, (FF.uf FF.rf (by decide))⟩
  · rfl
  · exact Eq.trans up2_s (by rfl)
  · exact (by rw [up2_off (by omega)]; exact hR)
set_option maxRecDepth 4000 in
set_option maxHeartbeats 4000000 in
theorem s_X7_running {n : Nat} {sh : mS} {G : mG} {I : mI} {J : mJ} {m : Nat} {σ : sT} (hm : ModG n sh G m) (hR : RelW (I (m + 1)) σ) (hI : Inv σ)  : Sp yX7_running cX7_running 1 (some FieldType.int) 1 48 0 0 [.ref m] n sh G I J (Qi (fun r_ I_ J_ => (0 = 0 → σ 8 = r_) ∧ I_ m 6 = 0 ∧ J = J_ ∧ RelW (I_ (m + 1)) (σ) ∧ FF m [1, 2, 8] [6, 18, 19, 20, 21, 22, 23, 24, 26, 27] I I_)) nX := by
  have hb := hI.bd
  refine Sp.of (by decide) (ls := [(0, .ref m)]) (fun _ => rfl) (fun _ => Nat.le_of_ble_eq_true rfl) ?_
  refine rc_p (p_aload_n 0 (dk_at ktX7_running_0 0 rfl) rfl rfl (b := 1) rfl) ?_
  refine rc_p (p_iconst (v := 0) (dk_at ktX7_running_0 1 rfl) (by decide) (b := 2) rfl) ?_
  refine r_puti fl_X7_46 fw_X7_6 rfl hm.l0 hm.s0 rfl rfl (dk_at ktX7_running_0 2 rfl) (b := 5) rfl ?_
  refine rc_p (p_aload_n 0 (dk_at ktX7_running_0 3 rfl) rfl rfl (b := 6) rfl) ?_
  refine r_geta fl_X7_9 rfl hm.l0 hm.s0 (dk_at ktX7_running_0 4 rfl) hm.g0_0 (b := 9) rfl ?_
  refine rc_p (p_bipush (v := 8) (dk_at ktX7_running_0 5 rfl) (by decide) (b := 11) rfl) ?_
  refine r_iald (j := 8) (hm.lt 1 (by decide)) hm.s1 (dk_at ktX7_running_0 6 rfl) rfl ⟨by decide, by decide⟩ (v := (σ 8)) ((up2_n (by omega)).trans (hR.1 8 (by decide))) (b := 12) rfl ?_
  refine r_iret (dk_at ktX7_running_0 7 rfl) rfl rfl ⟨_, rfl, ?_⟩
  refine ⟨fun hz => ?_, ?_, rfl, ?_, (FF.uf FF.rf (by decide))⟩
  · rfl
  · exact Eq.trans up2_s (by rfl)
  · exact (by rw [up2_off (by omega)]; exact hR)
set_option maxRecDepth 4000 in
set_option maxHeartbeats 4000000 in
theorem s_X7_state {n : Nat} {sh : mS} {G : mG} {I : mI} {J : mJ} {m : Nat} {σ : sT} (hm : ModG n sh G m) (hR : RelW (I (m + 1)) σ) (hI : Inv σ)  : Sp yX7_state cX7_state 1 (some FieldType.int) 1 48 0 0 [.ref m] n sh G I J (Qi (fun r_ I_ J_ => (0 = 0 → σ 7 = r_) ∧ I_ m 6 = 0 ∧ J = J_ ∧ RelW (I_ (m + 1)) (σ) ∧ FF m [1, 2, 8] [6, 18, 19, 20, 21, 22, 23, 24, 26, 27] I I_)) nX := by
  have hb := hI.bd
  refine Sp.of (by decide) (ls := [(0, .ref m)]) (fun _ => rfl) (fun _ => Nat.le_of_ble_eq_true rfl) ?_
  refine rc_p (p_aload_n 0 (dk_at ktX7_state_0 0 rfl) rfl rfl (b := 1) rfl) ?_
  refine rc_p (p_iconst (v := 0) (dk_at ktX7_state_0 1 rfl) (by decide) (b := 2) rfl) ?_
  refine r_puti fl_X7_46 fw_X7_6 rfl hm.l0 hm.s0 rfl rfl (dk_at ktX7_state_0 2 rfl) (b := 5) rfl ?_
  refine rc_p (p_aload_n 0 (dk_at ktX7_state_0 3 rfl) rfl rfl (b := 6) rfl) ?_
  refine r_geta fl_X7_9 rfl hm.l0 hm.s0 (dk_at ktX7_state_0 4 rfl) hm.g0_0 (b := 9) rfl ?_
  refine rc_p (p_bipush (v := 7) (dk_at ktX7_state_0 5 rfl) (by decide) (b := 11) rfl) ?_
  refine r_iald (j := 7) (hm.lt 1 (by decide)) hm.s1 (dk_at ktX7_state_0 6 rfl) rfl ⟨by decide, by decide⟩ (v := (σ 7)) ((up2_n (by omega)).trans (hR.1 7 (by decide))) (b := 12) rfl ?_
  refine r_iret (dk_at ktX7_state_0 7 rfl) rfl rfl ⟨_, rfl, ?_⟩
  refine ⟨fun hz => ?_, ?_, rfl, ?_, (FF.uf FF.rf (by decide))⟩
  · rfl
  · exact Eq.trans up2_s (by rfl)
  · exact (by rw [up2_off (by omega)]; exact hR)
set_option maxRecDepth 4000 in
set_option maxHeartbeats 4000000 in
theorem s_X7_operations {n : Nat} {sh : mS} {G : mG} {I : mI} {J : mJ} {m : Nat} {σ : sT} (hm : ModG n sh G m) (hR : RelW (I (m + 1)) σ) (hI : Inv σ)  : Sp yX7_operations cX7_operations 1 (some FieldType.int) 1 48 0 0 [.ref m] n sh G I J (Qi (fun r_ I_ J_ => (0 = 0 → σ 9 = r_) ∧ I_ m 6 = 0 ∧ J = J_ ∧ RelW (I_ (m + 1)) (σ) ∧ FF m [1, 2, 8] [6, 18, 19, 20, 21, 22, 23, 24, 26, 27] I I_)) nX := by
  have hb := hI.bd
  refine Sp.of (by decide) (ls := [(0, .ref m)]) (fun _ => rfl) (fun _ => Nat.le_of_ble_eq_true rfl) ?_
  refine rc_p (p_aload_n 0 (dk_at ktX7_operations_0 0 rfl) rfl rfl (b := 1) rfl) ?_
  refine rc_p (p_iconst (v := 0) (dk_at ktX7_operations_0 1 rfl) (by decide) (b := 2) rfl) ?_
  refine r_puti fl_X7_46 fw_X7_6 rfl hm.l0 hm.s0 rfl rfl (dk_at ktX7_operations_0 2 rfl) (b := 5) rfl ?_
  refine rc_p (p_aload_n 0 (dk_at ktX7_operations_0 3 rfl) rfl rfl (b := 6) rfl) ?_
  refine r_geta fl_X7_9 rfl hm.l0 hm.s0 (dk_at ktX7_operations_0 4 rfl) hm.g0_0 (b := 9) rfl ?_
  refine rc_p (p_bipush (v := 9) (dk_at ktX7_operations_0 5 rfl) (by decide) (b := 11) rfl) ?_
  refine r_iald (j := 9) (hm.lt 1 (by decide)) hm.s1 (dk_at ktX7_operations_0 6 rfl) rfl ⟨by decide, by decide⟩ (v := (σ 9)) ((up2_n (by omega)).trans (hR.1 9 (by decide))) (b := 12) rfl ?_
  refine r_iret (dk_at ktX7_operations_0 7 rfl) rfl rfl ⟨_, rfl, ?_⟩
  refine ⟨fun hz => ?_, ?_, rfl, ?_, (FF.uf FF.rf (by decide))⟩
  · rfl
  · exact Eq.trans up2_s (by rfl)
  · exact (by rw [up2_off (by omega)]; exact hR)
set_option maxRecDepth 4000 in
set_option maxHeartbeats 4000000 in
theorem s_X7_logSize {n : Nat} {sh : mS} {G : mG} {I : mI} {J : mJ} {m : Nat} {σ : sT} (hm : ModG n sh G m) (hR : RelW (I (m + 1)) σ) (hI : Inv σ)  : Sp yX7_logSize cX7_logSize 1 (some FieldType.int) 1 48 0 0 [.ref m] n sh G I J (Qi (fun r_ I_ J_ => (0 = 0 → σ 10 = r_) ∧ I_ m 6 = 0 ∧ J = J_ ∧ RelW (I_ (m + 1)) (σ) ∧ FF m [1, 2, 8] [6, 18, 19, 20, 21, 22, 23, 24, 26, 27] I I_)) nX := by
  have hb := hI.bd
  refine Sp.of (by decide) (ls := [(0, .ref m)]) (fun _ => rfl) (fun _ => Nat.le_of_ble_eq_true rfl) ?_
  refine rc_p (p_aload_n 0 (dk_at ktX7_logSize_0 0 rfl) rfl rfl (b := 1) rfl) ?_
  refine rc_p (p_iconst (v := 0) (dk_at ktX7_logSize_0 1 rfl) (by decide) (b := 2) rfl) ?_
  refine r_puti fl_X7_46 fw_X7_6 rfl hm.l0 hm.s0 rfl rfl (dk_at ktX7_logSize_0 2 rfl) (b := 5) rfl ?_
  refine rc_p (p_aload_n 0 (dk_at ktX7_logSize_0 3 rfl) rfl rfl (b := 6) rfl) ?_
  refine r_geta fl_X7_9 rfl hm.l0 hm.s0 (dk_at ktX7_logSize_0 4 rfl) hm.g0_0 (b := 9) rfl ?_
  refine rc_p (p_bipush (v := 10) (dk_at ktX7_logSize_0 5 rfl) (by decide) (b := 11) rfl) ?_
  refine r_iald (j := 10) (hm.lt 1 (by decide)) hm.s1 (dk_at ktX7_logSize_0 6 rfl) rfl ⟨by decide, by decide⟩ (v := (nI (nL σ))) ((up2_n (by omega)).trans ((hR.1 10 (by decide)).trans hI.w10)) (b := 12) rfl ?_
  refine r_iret (dk_at ktX7_logSize_0 7 rfl) rfl rfl ⟨_, rfl, ?_⟩
  refine ⟨fun hz => ?_, ?_, rfl, ?_, (FF.uf FF.rf (by decide))⟩
  · exact hI.w10
  · exact Eq.trans up2_s (by rfl)
  · exact (by rw [up2_off (by omega)]; exact hR)
set_option maxRecDepth 4000 in
set_option maxHeartbeats 4000000 in
theorem s_X7_clearStaged {n : Nat} {sh : mS} {G : mG} {I : mI} {J : mJ} {m : Nat} {σ : sT} (hm : ModG n sh G m) (hR : RelW (I (m + 1)) σ) (hI : Inv σ)  : Sp yX7_clearStaged cX7_clearStaged 2 (some FieldType.int) 1 48 0 0 [.ref m] n sh G I J (Qi (fun r_ I_ J_ => (0 = 0 → σ 4 = r_) ∧ I_ m 6 = 0 ∧ J = J_ ∧ RelW (I_ (m + 1)) (upd σ 4 0) ∧ FF m [1, 2, 8] [6, 18, 19, 20, 21, 22, 23, 24, 26, 27] I I_)) nX := by
  have hb := hI.bd
  refine Sp.of (by decide) (ls := [(0, .ref m)]) (fun _ => rfl) (fun _ => Nat.le_of_ble_eq_true rfl) ?_
  refine rc_p (p_aload_n 0 (dk_at ktX7_clearStaged_0 0 rfl) rfl rfl (b := 1) rfl) ?_
  refine rc_p (p_iconst (v := 0) (dk_at ktX7_clearStaged_0 1 rfl) (by decide) (b := 2) rfl) ?_
  refine r_puti fl_X7_46 fw_X7_6 rfl hm.l0 hm.s0 rfl rfl (dk_at ktX7_clearStaged_0 2 rfl) (b := 5) rfl ?_
  refine rc_p (p_aload_n 0 (dk_at ktX7_clearStaged_0 3 rfl) rfl rfl (b := 6) rfl) ?_
  refine r_geta fl_X7_9 rfl hm.l0 hm.s0 (dk_at ktX7_clearStaged_0 4 rfl) hm.g0_0 (b := 9) rfl ?_
  refine rc_p (p_iconst (v := 4) (dk_at ktX7_clearStaged_0 5 rfl) (by decide) (b := 10) rfl) ?_
  refine r_iald (j := 4) (hm.lt 1 (by decide)) hm.s1 (dk_at ktX7_clearStaged_0 6 rfl) rfl ⟨by decide, by decide⟩ (v := (nI (nS σ))) ((up2_n (by omega)).trans ((hR.1 4 (by decide)).trans hI.w4)) (b := 11) rfl ?_
  refine rc_p (p_istore_n (ls' := [(1, .int (nI (nS σ))), (0, .ref m)]) (dk_at ktX7_clearStaged_0 7 rfl) rfl (by decide) rfl (b := 12) rfl) ?_
  refine rc_p (p_aload_n 1 (dk_at ktX7_clearStaged_0 8 rfl) rfl rfl (b := 13) rfl) ?_
  refine r_geta fl_X7_9 rfl hm.l0 hm.s0 (dk_at ktX7_clearStaged_0 9 rfl) hm.g0_0 (b := 16) rfl ?_
  refine rc_p (p_iconst (v := 4) (dk_at ktX7_clearStaged_0 10 rfl) (by decide) (b := 17) rfl) ?_
  refine rc_p (p_iconst (v := 0) (dk_at ktX7_clearStaged_0 11 rfl) (by decide) (b := 18) rfl) ?_
  refine r_iast (j := 4) (hm.lt 1 (by decide)) hm.s1 (dk_at ktX7_clearStaged_0 12 rfl) rfl ⟨by decide, by decide⟩ (b := 19) rfl ?_
  refine rc_p (p_iload_n 0 (dk_at ktX7_clearStaged_0 13 rfl) rfl rfl (b := 20) rfl) ?_
  refine r_iret (dk_at ktX7_clearStaged_0 14 rfl) rfl rfl ⟨_, rfl, ?_⟩
  refine ⟨fun hz => ?_, ?_, rfl, ?_, (FF.ua (FF.uf FF.rf (by decide)) (by decide) (by decide))⟩
  · exact hI.w4
  · exact Eq.trans ((up2_n (by omega)).trans up2_s) (by rfl)
  · exact (by rw [up2_row]; exact RelW.up (by rw [up2_off (by omega)]; exact hR) (by first | decide | omega) (by first | decide | omega))
set_option maxRecDepth 4000 in
set_option maxHeartbeats 4000000 in
theorem s_X7_activePage {n : Nat} {sh : mS} {G : mG} {I : mI} {J : mJ} {m : Nat} {σ : sT} (hm : ModG n sh G m) (hR : RelW (I (m + 1)) σ) (hI : Inv σ)  : Sp yX7_activePage cX7_activePage 1 (some FieldType.int) 5 240 0 0 [.ref m] n sh G I J (Qi (fun r_ I_ J_ => (0 = 0 → activeI σ = r_) ∧ I_ m 6 = 0 ∧ J = J_ ∧ RelW (I_ (m + 1)) (σ) ∧ FF m [1, 2, 8] [6, 18, 19, 20, 21, 22, 23, 24, 26, 27] I I_)) nX := by
  have hb := hI.bd
  refine Sp.of (by decide) (ls := [(0, .ref m)]) (fun _ => rfl) (fun _ => Nat.le_of_ble_eq_true rfl) ?_
  refine rc_p (p_aload_n 0 (dk_at ktX7_activePage_0 0 rfl) rfl rfl (b := 1) rfl) ?_
  refine rc_p (p_iconst (v := 0) (dk_at ktX7_activePage_0 1 rfl) (by decide) (b := 2) rfl) ?_
  refine r_puti fl_X7_46 fw_X7_6 rfl hm.l0 hm.s0 rfl rfl (dk_at ktX7_activePage_0 2 rfl) (b := 5) rfl ?_
  refine rc_p (p_aload_n 0 (dk_at ktX7_activePage_0 3 rfl) rfl rfl (b := 6) rfl) ?_
  refine r_iV (As' := []) (rest := []) (s_X7_active hm (σ := σ) (by rw [up2_off (by omega)]; exact hR) hI) cw_X7_245 qi_X7_active qv_X7_active rfl hm.l0 hm.s0 (dk_at ktX7_activePage_0 4 rfl) rfl rfl (Nat.le_of_ble_eq_true rfl) (by decide) (b := 9) rfl (fun v4 I1 J2 q3 => ?_)
  obtain ⟨ea5, rfl, rfl⟩ := q3
  refine r_iret (dk_at ktX7_activePage_0 5 rfl) rfl rfl ⟨_, rfl, ?_⟩
  refine ⟨fun hz => ?_, ?_, rfl, ?_, (FF.uf FF.rf (by decide))⟩
  · exact ea5
  · exact Eq.trans up2_s (by rfl)
  · exact (by rw [up2_off (by omega)]; exact hR)

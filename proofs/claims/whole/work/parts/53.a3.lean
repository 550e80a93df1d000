/-! THE REFERENCE: its calls, the actions -/
set_option maxRecDepth 4000 in
set_option maxHeartbeats 4000000 in
theorem s_X7_update {n : Nat} {sh : mS} {G : mG} {I : mI} {J : mJ} {m : Nat} {σ : sT} (hm : ModG n sh G m) (hR : RelW (I (m + 1)) σ) (hI : Inv σ) (v : Int32) : Sp yX7_update cX7_update 2 (some FieldType.int) 9 432 0 0 [.ref m, .int v] n sh G I J (Qi (fun r_ I_ J_ => (cIn v 1 255 = 0 → (fUpd v false σ).1 = r_) ∧ I_ m 6 = cIn v 1 255 ∧ J = J_ ∧ RelW (I_ (m + 1)) (t_upd v false σ) ∧ FF m [1, 2, 8] [6, 18, 19, 20, 21, 22, 23, 24, 26, 27] I I_)) nX := by
  have hb := hI.bd
  refine Sp.of (by decide) (ls := [(0, .ref m), (1, .int v)]) (fun _ => rfl) (fun _ => Nat.le_of_ble_eq_true rfl) ?_
  refine rc_p (p_aload_n 0 (dk_at ktX7_update_0 0 rfl) rfl rfl (b := 1) rfl) ?_
  refine rc_p (p_iload_n 1 (dk_at ktX7_update_0 1 rfl) rfl rfl (b := 2) rfl) ?_
  refine r_iV (As' := [.int v]) (rest := []) (s_X7_noVersion hm (σ := σ) hR hI v) cw_X7_352 qi_X7_noVersion qv_X7_noVersion rfl hm.l0 hm.s0 (dk_at ktX7_update_0 2 rfl) rfl rfl (Nat.le_of_ble_eq_true rfl) (by decide) (b := 5) rfl (fun v4 I1 J2 q3 => ?_)
  obtain ⟨rfl, rfl, hR5, hF6, h67⟩ := q3
  refine r_if_eq (dk_at ktX7_update_0 3 rfl) (b := 12) (by decide) (b2 := 8) rfl (fun c5 => ?_) (fun c5 => ?_)
  · have c5 := bi_f c5
    refine rc_p (p_aload_n 0 (dk_at ktX7_update_0 6 rfl) rfl rfl (b := 13) rfl) ?_
    refine rc_p (p_iload_n 1 (dk_at ktX7_update_0 7 rfl) rfl rfl (b := 14) rfl) ?_
    refine rc_p (p_iconst (v := 0) (dk_at ktX7_update_0 8 rfl) (by decide) (b := 15) rfl) ?_
    refine r_iV (As' := [.int v, .int 0]) (rest := []) (s_X7_updates hm (σ := σ) hR5 hI v false) cw_X7_355 qi_X7_updates qv_X7_updates rfl hm.l0 hm.s0 (dk_at ktX7_update_0 9 rfl) rfl rfl (Nat.le_of_ble_eq_true rfl) (by decide) (b := 18) rfl (fun v11 I8 J9 q10 => ?_)
    obtain ⟨eq14, rfl, hR12, hF13⟩ := q10
    refine r_iret (dk_at ktX7_update_0 10 rfl) rfl rfl ⟨_, rfl, ?_⟩
    refine ⟨fun hz => ?_, ?_, rfl, ?_, (FF.tr (hF6.mo (by decide) (by decide)) (hF13.mo (by decide) (by decide)))⟩
    · exact eq14
    · exact Eq.trans (((hF13.2 6 (by decide))).trans h67) (by rw [cIn_t (by simpa using c5)]; simp_all)
    · rw [show t_upd v false σ = (fUpd v false σ).2 from if_pos (by simpa using c5)]; exact hR12
  · have c5 := bi_t c5
    refine rc_p (p_iconst (v := 0) (dk_at ktX7_update_0 4 rfl) (by decide) (b := 9) rfl) ?_
    refine rc_p (p_goto (b := 18) (dk_at ktX7_update_0 5 rfl) (by decide)) ?_
    refine r_iret (dk_at ktX7_update_0 10 rfl) rfl rfl ⟨_, rfl, ?_⟩
    refine ⟨fun hz => ?_, ?_, rfl, ?_, (hF6.mo (by decide) (by decide))⟩
    · exact absurd (hz.symm.trans (cIn_f (by simpa using c5))) (by decide)
    · exact Eq.trans h67 (by rw [cIn_f (by simpa using c5)]; simp_all)
    · rw [show t_upd v false σ = σ from if_neg (by simpa using c5)]; exact hR5
set_option maxRecDepth 4000 in
set_option maxHeartbeats 4000000 in
theorem s_X7_thriftyUpdate {n : Nat} {sh : mS} {G : mG} {I : mI} {J : mJ} {m : Nat} {σ : sT} (hm : ModG n sh G m) (hR : RelW (I (m + 1)) σ) (hI : Inv σ) (v : Int32) : Sp yX7_thriftyUpdate cX7_thriftyUpdate 2 (some FieldType.int) 9 432 0 0 [.ref m, .int v] n sh G I J (Qi (fun r_ I_ J_ => (cIn v 1 255 = 0 → (fUpd v true σ).1 = r_) ∧ I_ m 6 = cIn v 1 255 ∧ J = J_ ∧ RelW (I_ (m + 1)) (t_upd v true σ) ∧ FF m [1, 2, 8] [6, 18, 19, 20, 21, 22, 23, 24, 26, 27] I I_)) nX := by
  have hb := hI.bd
  refine Sp.of (by decide) (ls := [(0, .ref m), (1, .int v)]) (fun _ => rfl) (fun _ => Nat.le_of_ble_eq_true rfl) ?_
  refine rc_p (p_aload_n 0 (dk_at ktX7_thriftyUpdate_0 0 rfl) rfl rfl (b := 1) rfl) ?_
  refine rc_p (p_iload_n 1 (dk_at ktX7_thriftyUpdate_0 1 rfl) rfl rfl (b := 2) rfl) ?_
  refine r_iV (As' := [.int v]) (rest := []) (s_X7_noVersion hm (σ := σ) hR hI v) cw_X7_352 qi_X7_noVersion qv_X7_noVersion rfl hm.l0 hm.s0 (dk_at ktX7_thriftyUpdate_0 2 rfl) rfl rfl (Nat.le_of_ble_eq_true rfl) (by decide) (b := 5) rfl (fun v4 I1 J2 q3 => ?_)
  obtain ⟨rfl, rfl, hR5, hF6, h67⟩ := q3
  refine r_if_eq (dk_at ktX7_thriftyUpdate_0 3 rfl) (b := 12) (by decide) (b2 := 8) rfl (fun c5 => ?_) (fun c5 => ?_)
  · have c5 := bi_f c5
    refine rc_p (p_aload_n 0 (dk_at ktX7_thriftyUpdate_0 6 rfl) rfl rfl (b := 13) rfl) ?_
    refine rc_p (p_iload_n 1 (dk_at ktX7_thriftyUpdate_0 7 rfl) rfl rfl (b := 14) rfl) ?_
    refine rc_p (p_iconst (v := 1) (dk_at ktX7_thriftyUpdate_0 8 rfl) (by decide) (b := 15) rfl) ?_
    refine r_iV (As' := [.int v, .int 1]) (rest := []) (s_X7_updates hm (σ := σ) hR5 hI v true) cw_X7_355 qi_X7_updates qv_X7_updates rfl hm.l0 hm.s0 (dk_at ktX7_thriftyUpdate_0 9 rfl) rfl rfl (Nat.le_of_ble_eq_true rfl) (by decide) (b := 18) rfl (fun v11 I8 J9 q10 => ?_)
    obtain ⟨eq14, rfl, hR12, hF13⟩ := q10
    refine r_iret (dk_at ktX7_thriftyUpdate_0 10 rfl) rfl rfl ⟨_, rfl, ?_⟩
    refine ⟨fun hz => ?_, ?_, rfl, ?_, (FF.tr (hF6.mo (by decide) (by decide)) (hF13.mo (by decide) (by decide)))⟩
    · exact eq14
    · exact Eq.trans (((hF13.2 6 (by decide))).trans h67) (by rw [cIn_t (by simpa using c5)]; simp_all)
    · rw [show t_upd v true σ = (fUpd v true σ).2 from if_pos (by simpa using c5)]; exact hR12
  · have c5 := bi_t c5
    refine rc_p (p_iconst (v := 0) (dk_at ktX7_thriftyUpdate_0 4 rfl) (by decide) (b := 9) rfl) ?_
    refine rc_p (p_goto (b := 18) (dk_at ktX7_thriftyUpdate_0 5 rfl) (by decide)) ?_
    refine r_iret (dk_at ktX7_thriftyUpdate_0 10 rfl) rfl rfl ⟨_, rfl, ?_⟩
    refine ⟨fun hz => ?_, ?_, rfl, ?_, (hF6.mo (by decide) (by decide))⟩
    · exact absurd (hz.symm.trans (cIn_f (by simpa using c5))) (by decide)
    · exact Eq.trans h67 (by rw [cIn_f (by simpa using c5)]; simp_all)
    · rw [show t_upd v true σ = σ from if_neg (by simpa using c5)]; exact hR5
set_option maxRecDepth 4000 in
set_option maxHeartbeats 4000000 in
theorem s_X7_boot {n : Nat} {sh : mS} {G : mG} {I : mI} {J : mJ} {m : Nat} {σ : sT} (hm : ModG n sh G m) (hR : RelW (I (m + 1)) σ) (hI : Inv σ)  : Sp yX7_boot cX7_boot 1 (some FieldType.int) 10 480 0 0 [.ref m] n sh G I J (Qi (fun r_ I_ J_ => (0 = 0 → (fBoot σ).1 = r_) ∧ I_ m 6 = 0 ∧ J = J_ ∧ RelW (I_ (m + 1)) ((fBoot σ).2) ∧ FF m [1, 2, 8] [6, 18, 19, 20, 21, 22, 23, 24, 26, 27] I I_)) nX := by
  have hb := hI.bd
  refine Sp.of (by decide) (ls := [(0, .ref m)]) (fun _ => rfl) (fun _ => Nat.le_of_ble_eq_true rfl) ?_
  refine rc_p (p_aload_n 0 (dk_at ktX7_boot_0 0 rfl) rfl rfl (b := 1) rfl) ?_
  refine rc_p (p_iconst (v := 0) (dk_at ktX7_boot_0 1 rfl) (by decide) (b := 2) rfl) ?_
  refine r_puti fl_X7_46 fw_X7_6 rfl hm.l0 hm.s0 rfl rfl (dk_at ktX7_boot_0 2 rfl) (b := 5) rfl ?_
  refine rc_p (p_aload_n 0 (dk_at ktX7_boot_0 3 rfl) rfl rfl (b := 6) rfl) ?_
  refine r_iV (As' := []) (rest := []) (s_X7_boots hm (σ := σ) (by rw [up2_off (by omega)]; exact hR) hI) cw_X7_319 qi_X7_boots qv_X7_boots rfl hm.l0 hm.s0 (dk_at ktX7_boot_0 4 rfl) rfl rfl (Nat.le_of_ble_eq_true rfl) (by decide) (b := 9) rfl (fun v4 I1 J2 q3 => ?_)
  obtain ⟨eq7, rfl, hR5, hF6⟩ := q3
  refine r_iret (dk_at ktX7_boot_0 5 rfl) rfl rfl ⟨_, rfl, ?_⟩
  refine ⟨fun hz => ?_, ?_, rfl, ?_, (FF.tr (FF.uf FF.rf (by decide)) (hF6.mo (by decide) (by decide)))⟩
  · exact eq7
  · exact Eq.trans (((hF6.2 6 (by decide))).trans up2_s) (by rfl)
  · exact hR5
set_option maxRecDepth 4000 in
set_option maxHeartbeats 4000000 in
theorem s_X7_confirm {n : Nat} {sh : mS} {G : mG} {I : mI} {J : mJ} {m : Nat} {σ : sT} (hm : ModG n sh G m) (hR : RelW (I (m + 1)) σ) (hI : Inv σ)  : Sp yX7_confirm cX7_confirm 1 (some FieldType.int) 9 432 0 0 [.ref m] n sh G I J (Qi (fun r_ I_ J_ => (0 = 0 → (fCon σ).1 = r_) ∧ I_ m 6 = 0 ∧ J = J_ ∧ RelW (I_ (m + 1)) ((fCon σ).2) ∧ FF m [1, 2, 8] [6, 18, 19, 20, 21, 22, 23, 24, 26, 27] I I_)) nX := by
  have hb := hI.bd
  refine Sp.of (by decide) (ls := [(0, .ref m)]) (fun _ => rfl) (fun _ => Nat.le_of_ble_eq_true rfl) ?_
  refine rc_p (p_aload_n 0 (dk_at ktX7_confirm_0 0 rfl) rfl rfl (b := 1) rfl) ?_
  refine rc_p (p_iconst (v := 0) (dk_at ktX7_confirm_0 1 rfl) (by decide) (b := 2) rfl) ?_
  refine r_puti fl_X7_46 fw_X7_6 rfl hm.l0 hm.s0 rfl rfl (dk_at ktX7_confirm_0 2 rfl) (b := 5) rfl ?_
  refine rc_p (p_aload_n 0 (dk_at ktX7_confirm_0 3 rfl) rfl rfl (b := 6) rfl) ?_
  refine r_iV (As' := []) (rest := []) (s_X7_confirms hm (σ := σ) (by rw [up2_off (by omega)]; exact hR) hI) cw_X7_359 qi_X7_confirms qv_X7_confirms rfl hm.l0 hm.s0 (dk_at ktX7_confirm_0 4 rfl) rfl rfl (Nat.le_of_ble_eq_true rfl) (by decide) (b := 9) rfl (fun v4 I1 J2 q3 => ?_)
  obtain ⟨eq7, rfl, hR5, hF6⟩ := q3
  refine r_iret (dk_at ktX7_confirm_0 5 rfl) rfl rfl ⟨_, rfl, ?_⟩
  refine ⟨fun hz => ?_, ?_, rfl, ?_, (FF.tr (FF.uf FF.rf (by decide)) (hF6.mo (by decide) (by decide)))⟩
  · exact eq7
  · exact Eq.trans (((hF6.2 6 (by decide))).trans up2_s) (by rfl)
  · exact hR5
set_option maxRecDepth 4000 in
set_option maxHeartbeats 4000000 in
theorem s_X7_moveJournal {n : Nat} {sh : mS} {G : mG} {I : mI} {J : mJ} {m : Nat} {σ : sT} (hm : ModG n sh G m) (hR : RelW (I (m + 1)) σ) (hI : Inv σ)  : Sp yX7_moveJournal cX7_moveJournal 1 (some FieldType.int) 7 336 0 0 [.ref m] n sh G I J (Qi (fun r_ I_ J_ => (0 = 0 → (fMvj σ).1 = r_) ∧ I_ m 6 = 0 ∧ J = J_ ∧ RelW (I_ (m + 1)) ((fMvj σ).2) ∧ FF m [1, 2, 8] [6, 18, 19, 20, 21, 22, 23, 24, 26, 27] I I_)) nX := by
  have hb := hI.bd
  refine Sp.of (by decide) (ls := [(0, .ref m)]) (fun _ => rfl) (fun _ => Nat.le_of_ble_eq_true rfl) ?_
  refine rc_p (p_aload_n 0 (dk_at ktX7_moveJournal_0 0 rfl) rfl rfl (b := 1) rfl) ?_
  refine rc_p (p_iconst (v := 0) (dk_at ktX7_moveJournal_0 1 rfl) (by decide) (b := 2) rfl) ?_
  refine r_puti fl_X7_46 fw_X7_6 rfl hm.l0 hm.s0 rfl rfl (dk_at ktX7_moveJournal_0 2 rfl) (b := 5) rfl ?_
  refine rc_p (p_aload_n 0 (dk_at ktX7_moveJournal_0 3 rfl) rfl rfl (b := 6) rfl) ?_
  refine r_geta fl_X7_9 rfl hm.l0 hm.s0 (dk_at ktX7_moveJournal_0 4 rfl) hm.g0_0 (b := 9) rfl ?_
  refine rc_p (p_bipush (v := 7) (dk_at ktX7_moveJournal_0 5 rfl) (by decide) (b := 11) rfl) ?_
  refine r_iald (j := 7) (hm.lt 1 (by decide)) hm.s1 (dk_at ktX7_moveJournal_0 6 rfl) rfl ⟨by decide, by decide⟩ (v := (σ 7)) ((up2_n (by omega)).trans (hR.1 7 (by decide))) (b := 12) rfl ?_
  refine r_if_eq (dk_at ktX7_moveJournal_0 7 rfl) (b := 23) (by decide) (b2 := 15) rfl (fun c12 => ?_) (fun c12 => ?_)
  · skip
    refine rc_p (p_bipush (v := (-3)) (dk_at ktX7_moveJournal_0 12 rfl) (by decide) (b := 25) rfl) ?_
    refine r_iret (dk_at ktX7_moveJournal_0 13 rfl) rfl rfl ⟨_, rfl, ?_⟩
    refine ⟨fun hz => ?_, ?_, rfl, ?_, (FF.uf FF.rf (by decide))⟩
    · rw [fMvj_n (Or.inl c12)]
    · exact Eq.trans up2_s (by rfl)
    · rw [fMvj_n (Or.inl c12)]; exact (by rw [up2_off (by omega)]; exact hR)
  · skip
    refine rc_p (p_aload_n 0 (dk_at ktX7_moveJournal_0 8 rfl) rfl rfl (b := 16) rfl) ?_
    refine r_iV (As' := []) (rest := []) (s_X7_active hm (σ := σ) (by rw [up2_off (by omega)]; exact hR) hI) cw_X7_245 qi_X7_active qv_X7_active rfl hm.l0 hm.s0 (dk_at ktX7_moveJournal_0 9 rfl) rfl rfl (Nat.le_of_ble_eq_true rfl) (by decide) (b := 19) rfl (fun v4 I1 J2 q3 => ?_)
    obtain ⟨ea5, rfl, rfl⟩ := q3
    refine rc_p (p_iconst (v := (-1)) (dk_at ktX7_moveJournal_0 10 rfl) (by decide) (b := 20) rfl) ?_
    refine r_icmp_ne (dk_at ktX7_moveJournal_0 11 rfl) (b := 26) (by decide) (b2 := 23) rfl (fun c20 => ?_) (fun c20 => ?_)
    · skip
      obtain ⟨p, hp, hA0⟩ := act_n ea5 c20
      have hA : activeI σ = nI p := ea5.trans hA0
      refine rc_p (p_aload_n 0 (dk_at ktX7_moveJournal_0 14 rfl) rfl rfl (b := 27) rfl) ?_
      refine rc_p (p_iconst (v := 0) (dk_at ktX7_moveJournal_0 15 rfl) (by decide) (b := 28) rfl) ?_
      refine r_puti fl_X7_258 fw_X7_23 rfl hm.l0 hm.s0 rfl rfl (dk_at ktX7_moveJournal_0 16 rfl) (b := 31) rfl ?_
      refine rc_p (p_aload_n 0 (dk_at ktX7_moveJournal_0 17 rfl) rfl rfl (b := 32) rfl) ?_
      refine r_iV (As' := []) (rest := []) (s_X7_movesJournal hm (σ := σ) (by rw [up2_off (by omega)]; exact (by rw [up2_off (by omega)]; exact hR)) hI up2_s p hp hA) cw_X7_297 qi_X7_movesJournal qv_X7_movesJournal rfl hm.l0 hm.s0 (dk_at ktX7_moveJournal_0 18 rfl) rfl rfl (Nat.le_of_ble_eq_true rfl) (by decide) (b := 35) rfl (fun v9 I6 J7 q8 => ?_)
      obtain ⟨rfl, rfl, hR10, hF11, hC12⟩ := q8
      refine r_if_eq (dk_at ktX7_moveJournal_0 19 rfl) (b := 45) (by decide) (b2 := 38) rfl (fun c35 => ?_) (fun c35 => ?_)
      · have c35 := bi_f c35
        have hR13 : RelW (I6 (m + 1)) (sCut ((fMoveP p σ).2)) := by rw [c35] at hR10; exact hR10
        have hC14 : I6 m 23 = 1 := by rw [c35] at hC12; exact hC12
        refine rc_p (p_bipush (v := (-4)) (dk_at ktX7_moveJournal_0 23 rfl) (by decide) (b := 47) rfl) ?_
        refine r_iret (dk_at ktX7_moveJournal_0 24 rfl) rfl rfl ⟨_, rfl, ?_⟩
        refine ⟨fun hz => ?_, ?_, rfl, ?_, (FF.tr (FF.uf (FF.uf FF.rf (by decide)) (by decide)) (hF11.mo (by decide) (by decide)))⟩
        · rw [fMvj_f c12 hp hA (pr_e c35)]
        · exact Eq.trans (((hF11.2 6 (by decide))).trans ((up2_n (by omega)).trans up2_s)) (by rfl)
        · rw [fMvj_f c12 hp hA (pr_e c35)]; exact hR13
      · have c35 := bi_t c35
        have hR15 : RelW (I6 (m + 1)) ((fMoveP p σ).2) := by rw [c35] at hR10; exact hR10
        have hC16 : I6 m 23 = 0 := by rw [c35] at hC12; exact hC12
        refine rc_p (p_aload_n 0 (dk_at ktX7_moveJournal_0 20 rfl) rfl rfl (b := 39) rfl) ?_
        refine r_iV (As' := []) (rest := []) (s_X7_active hm (σ := ((fMoveP p σ).2)) hR15 (Inv.mvp hI hp)) cw_X7_245 qi_X7_active qv_X7_active rfl hm.l0 hm.s0 (dk_at ktX7_moveJournal_0 21 rfl) rfl rfl (Nat.le_of_ble_eq_true rfl) (by decide) (b := 42) rfl (fun v20 I17 J18 q19 => ?_)
        obtain ⟨ea21, rfl, rfl⟩ := q19
        refine rc_p (p_goto (b := 47) (dk_at ktX7_moveJournal_0 22 rfl) (by decide)) ?_
        refine r_iret (dk_at ktX7_moveJournal_0 24 rfl) rfl rfl ⟨_, rfl, ?_⟩
        refine ⟨fun hz => ?_, ?_, rfl, ?_, (FF.tr (FF.uf (FF.uf FF.rf (by decide)) (by decide)) (hF11.mo (by decide) (by decide)))⟩
        · rw [fMvj_t c12 hp hA (pr_e c35)]; exact ea21
        · exact Eq.trans (((hF11.2 6 (by decide))).trans ((up2_n (by omega)).trans up2_s)) (by rfl)
        · rw [fMvj_t c12 hp hA (pr_e c35)]; exact hR15
    · skip
      refine rc_p (p_bipush (v := (-3)) (dk_at ktX7_moveJournal_0 12 rfl) (by decide) (b := 25) rfl) ?_
      refine r_iret (dk_at ktX7_moveJournal_0 13 rfl) rfl rfl ⟨_, rfl, ?_⟩
      refine ⟨fun hz => ?_, ?_, rfl, ?_, (FF.uf FF.rf (by decide))⟩
      · rw [fMvj_n (Or.inr (ea5.trans c20))]
      · exact Eq.trans up2_s (by rfl)
      · rw [fMvj_n (Or.inr (ea5.trans c20))]; exact (by rw [up2_off (by omega)]; exact hR)
set_option maxRecDepth 4000 in
set_option maxHeartbeats 4000000 in
theorem s_X7_mirror {n : Nat} {sh : mS} {G : mG} {I : mI} {J : mJ} {m : Nat} {σ : sT} (hm : ModG n sh G m) (hR : RelW (I (m + 1)) σ) (hI : Inv σ) : Sp yX7_mirror cX7_mirror 5 (some FieldType.int) 9 432 0 0 [.ref m] n sh G I J (Qi (fun r_ I_ J_ => (0 = 0 → (fMir σ).1 = r_) ∧ I_ m 6 = 0 ∧ J = J_ ∧ RelW (I_ (m + 1)) ((fMir σ).2) ∧ FF m [1, 2, 8] [6, 18, 19, 20, 21, 22, 23, 24, 26, 27] I I_)) nX := by
  have hb := hI.bd
  refine Sp.of (by decide) (ls := [(0, .ref m)]) (fun _ => rfl) (fun _ => Nat.le_of_ble_eq_true rfl) ?_
  have cut70 : ∀ (r : Nat), r < 2 → σ 8 = nI r → goodB σ = true → wholeB σ r = true → ∀ (t k : Nat) (Iz : mI), tn (σ (83 + 64 * r + 1)) - k < t → k ≤ tn (σ (83 + 64 * r + 1)) → RelW (Iz (m + 1)) σ → Iz m 23 = 0 → FF m [1, 2, 8] [6, 18, 19, 20, 21, 22, 23, 24, 26, 27] I Iz → Iz m 26 = nI (tn (σ (83 + 64 * r + 1))) → Iz m 6 = 0 → (∀ j, j < k → Iz (m + 8) (3 + j) = σ (83 + 64 * r + (3 + j))) → Rc RX7 cX7_mirror 5 (some FieldType.int) 9 432 0 0 n sh G (Qi (fun r_ I_ J_ => (0 = 0 → (fMir σ).1 = r_) ∧ I_ m 6 = 0 ∧ J = J_ ∧ RelW (I_ (m + 1)) ((fMir σ).2) ∧ FF m [1, 2, 8] [6, 18, 19, 20, 21, 22, 23, 24, 26, 27] I I_)) nX 0 0 70 [(4, .int (nI k)), (0, .ref m), (1, .int (σ 9)), (2, .int (nI r)), (3, .int (nI (83 + 64 * r)))] [] Iz J := by
    have hb := hI.bd
    intro r hr er c9 c23
    have htn := toldB_n hb.2.1 (wholeB_n c23)
    intro t
    induction t
    · intro k Iz h; omega
    rename_i t ih
    intro k Iz ht h1 hRz hCz hFz h26 h6z hq
    refine rc_p (p_iload 0 (dk_at ktX7_mirror_0 41 rfl) rfl (b := 72) rfl) ?_
    refine rc_p (p_aload_n 1 (dk_at ktX7_mirror_0 42 rfl) rfl rfl (b := 73) rfl) ?_
    refine r_geti fl_X7_322 rfl hm.l0 hm.s0 (dk_at ktX7_mirror_0 43 rfl) (v := (nI (tn (σ (83 + 64 * r + 1))))) h26 (b := 76) rfl ?_
    refine r_icmp_ge (dk_at ktX7_mirror_0 44 rfl) (b := 105) (by decide) (b2 := 79) rfl (fun c76 => ?_) (fun c76 => ?_)
    · have c76 : (tn (σ (83 + 64 * r + 1))) ≤ k := (nI_leI (a := tn (σ (83 + 64 * r + 1))) (b := k) (by omega) (by omega)).mp c76
      refine rc_p (p_aload_n 1 (dk_at ktX7_mirror_1 1 rfl) rfl rfl (b := 106) rfl) ?_
      refine rc_p (p_iconst (v := 1) (dk_at ktX7_mirror_1 2 rfl) (by decide) (b := 107) rfl) ?_
      refine rc_p (p_iload_n 3 (dk_at ktX7_mirror_1 3 rfl) rfl rfl (b := 108) rfl) ?_
      refine rc_p (p_isub (v := (nI (1 - r))) (dk_at ktX7_mirror_1 4 rfl) (pk_sub (a := 1) (b := r) (by omega)) (b := 109) rfl) ?_
      refine rc_p (p_aload_n 1 (dk_at ktX7_mirror_1 5 rfl) rfl rfl (b := 110) rfl) ?_
      refine r_geta fl_X7_9 rfl hm.l0 hm.s0 (dk_at ktX7_mirror_1 6 rfl) hm.g0_0 (b := 113) rfl ?_
      refine rc_p (p_iload_n 4 (dk_at ktX7_mirror_1 7 rfl) rfl rfl (b := 114) rfl) ?_
      refine r_iald (j := 83 + 64 * r) (hm.lt 1 (by decide)) hm.s1 (dk_at ktX7_mirror_1 8 rfl) rfl ⟨by omega, by decide⟩ (v := (σ (83 + 64 * r))) (hRz.1 (83 + 64 * r) (by omega)) (b := 115) rfl ?_
      refine r_iV (As' := [.int (nI (1 - r)), .int (σ (83 + 64 * r))]) (rest := []) (s_X7_writesImage hm (σ := σ) hRz hI hCz (1 - r) (by omega) (fun j => σ (83 + 64 * r + j)) (tn (σ (83 + 64 * r + 1))) (by omega) ⟨h26, fun j hj => hq j (by omega)⟩ (σ (83 + 64 * r))) cw_X7_349 qi_X7_writesImage qv_X7_writesImage rfl hm.l0 hm.s0 (dk_at ktX7_mirror_1 9 rfl) rfl rfl (Nat.le_of_ble_eq_true rfl) (by decide) (b := 118) rfl (fun v4 I1 J2 q3 => ?_)
      obtain ⟨rfl, rfl, hR5, hF6, hC7⟩ := q3
      refine r_if_eq (dk_at ktX7_mirror_1 10 rfl) (b := 142) (by decide) (b2 := 121) rfl (fun c118 => ?_) (fun c118 => ?_)
      · have c118 := bi_f c118
        have hR8 : RelW (I1 (m + 1)) (sCut ((fImg (1 - r) false (fun j => σ (83 + 64 * r + j)) (tn (σ (83 + 64 * r + 1))) (σ (83 + 64 * r)) σ).2)) := by rw [c118] at hR5; exact hR5
        have hC9 : I1 m 23 = 1 := by rw [c118] at hC7; exact hC7
        refine rc_p (p_bipush (v := (-4)) (dk_at ktX7_mirror_1 23 rfl) (by decide) (b := 144) rfl) ?_
        refine r_iret (dk_at ktX7_mirror_1 24 rfl) rfl rfl ⟨_, rfl, ?_⟩
        have e1 : sq (fImg (1 - r) false (fun j => σ (83 + 64 * r + j)) (tn (σ (83 + 64 * r + 1))) (σ (83 + 64 * r))) (fApp 2 (nI r)) σ = (false, (fImg (1 - r) false (fun j => σ (83 + 64 * r + j)) (tn (σ (83 + 64 * r + 1))) (σ (83 + 64 * r)) σ).2) := by
          rw [sq_n (f := fImg (1 - r) false (fun j => σ (83 + 64 * r + j)) (tn (σ (83 + 64 * r + 1))) (σ (83 + 64 * r))) (pr_e c118)]
        have he := (fMir_y c9 hr er c23).trans (let_f e1)
        exact ⟨fun _ => congrArg Prod.fst he, (((hF6.2 6 (by decide))).trans h6z), rfl, by rw [he]; exact hR8, (FF.tr hFz (hF6.mo (by decide) (by decide)))⟩
      · have c118 := bi_t c118
        have hR10 : RelW (I1 (m + 1)) ((fImg (1 - r) false (fun j => σ (83 + 64 * r + j)) (tn (σ (83 + 64 * r + 1))) (σ (83 + 64 * r)) σ).2) := by rw [c118] at hR5; exact hR5
        have hC11 : I1 m 23 = 0 := by rw [c118] at hC7; exact hC7
        refine rc_p (p_aload_n 1 (dk_at ktX7_mirror_1 11 rfl) rfl rfl (b := 122) rfl) ?_
        refine rc_p (p_iconst (v := 2) (dk_at ktX7_mirror_1 12 rfl) (by decide) (b := 123) rfl) ?_
        refine rc_p (p_iload_n 3 (dk_at ktX7_mirror_1 13 rfl) rfl rfl (b := 124) rfl) ?_
        refine r_iV (As' := [.int 2, .int (nI r)]) (rest := []) (s_X7_appends hm (σ := ((fImg (1 - r) false (fun j => σ (83 + 64 * r + j)) (tn (σ (83 + 64 * r + 1))) (σ (83 + 64 * r)) σ).2)) hR10 (Inv.img hI (by omega) (by omega)) hC11 2 (by decide) (nI r)) cw_X7_307 qi_X7_appends qv_X7_appends rfl hm.l0 hm.s0 (dk_at ktX7_mirror_1 14 rfl) rfl rfl (Nat.le_of_ble_eq_true rfl) (by decide) (b := 127) rfl (fun v15 I12 J13 q14 => ?_)
        obtain ⟨rfl, rfl, hR16, hF17, hC18⟩ := q14
        refine r_if_eq (dk_at ktX7_mirror_1 15 rfl) (b := 142) (by decide) (b2 := 130) rfl (fun c127 => ?_) (fun c127 => ?_)
        · have c127 := bi_f c127
          have hR19 : RelW (I12 (m + 1)) (sCut ((fApp 2 (nI r) ((fImg (1 - r) false (fun j => σ (83 + 64 * r + j)) (tn (σ (83 + 64 * r + 1))) (σ (83 + 64 * r)) σ).2)).2)) := by rw [c127] at hR16; exact hR16
          have hC20 : I12 m 23 = 1 := by rw [c127] at hC18; exact hC18
          refine rc_p (p_bipush (v := (-4)) (dk_at ktX7_mirror_1 23 rfl) (by decide) (b := 144) rfl) ?_
          refine r_iret (dk_at ktX7_mirror_1 24 rfl) rfl rfl ⟨_, rfl, ?_⟩
          have e1 : sq (fImg (1 - r) false (fun j => σ (83 + 64 * r + j)) (tn (σ (83 + 64 * r + 1))) (σ (83 + 64 * r))) (fApp 2 (nI r)) σ = (false, (fApp 2 (nI r) (fImg (1 - r) false (fun j => σ (83 + 64 * r + j)) (tn (σ (83 + 64 * r + 1))) (σ (83 + 64 * r)) σ).2).2) := by
            rw [sq_e (f := fImg (1 - r) false (fun j => σ (83 + 64 * r + j)) (tn (σ (83 + 64 * r + 1))) (σ (83 + 64 * r))) (pr_e c118)]; exact pr_e c127
          have he := (fMir_y c9 hr er c23).trans (let_f e1)
          exact ⟨fun _ => congrArg Prod.fst he, (((hF17.2 6 (by decide))).trans (((hF6.2 6 (by decide))).trans h6z)), rfl, by rw [he]; exact hR19, (FF.tr (FF.tr hFz (hF6.mo (by decide) (by decide))) (hF17.mo (by decide) (by decide)))⟩
        · have c127 := bi_t c127
          have hR21 : RelW (I12 (m + 1)) ((fApp 2 (nI r) ((fImg (1 - r) false (fun j => σ (83 + 64 * r + j)) (tn (σ (83 + 64 * r + 1))) (σ (83 + 64 * r)) σ).2)).2) := by rw [c127] at hR16; exact hR16
          have hC22 : I12 m 23 = 0 := by rw [c127] at hC18; exact hC18
          refine rc_p (p_aload_n 1 (dk_at ktX7_mirror_1 16 rfl) rfl rfl (b := 131) rfl) ?_
          refine r_geta fl_X7_9 rfl hm.l0 hm.s0 (dk_at ktX7_mirror_1 17 rfl) hm.g0_0 (b := 134) rfl ?_
          refine rc_p (p_bipush (v := 9) (dk_at ktX7_mirror_1 18 rfl) (by decide) (b := 136) rfl) ?_
          refine r_iald (j := 9) (hm.lt 1 (by decide)) hm.s1 (dk_at ktX7_mirror_1 19 rfl) rfl ⟨by decide, by decide⟩ (v := (((fApp 2 (nI r) ((fImg (1 - r) false (fun j => σ (83 + 64 * r + j)) (tn (σ (83 + 64 * r + 1))) (σ (83 + 64 * r)) σ).2)).2) 9)) (hR21.1 9 (by decide)) (b := 137) rfl ?_
          refine rc_p (p_iload_n 2 (dk_at ktX7_mirror_1 20 rfl) rfl rfl (b := 138) rfl) ?_
          refine rc_p (p_isub (v := ((((fApp 2 (nI r) ((fImg (1 - r) false (fun j => σ (83 + 64 * r + j)) (tn (σ (83 + 64 * r + 1))) (σ (83 + 64 * r)) σ).2)).2) 9) - (σ 9))) (dk_at ktX7_mirror_1 21 rfl) rfl (b := 139) rfl) ?_
          refine rc_p (p_goto (b := 144) (dk_at ktX7_mirror_1 22 rfl) (by decide)) ?_
          refine r_iret (dk_at ktX7_mirror_1 24 rfl) rfl rfl ⟨_, rfl, ?_⟩
          have e1 : sq (fImg (1 - r) false (fun j => σ (83 + 64 * r + j)) (tn (σ (83 + 64 * r + 1))) (σ (83 + 64 * r))) (fApp 2 (nI r)) σ = (true, (fApp 2 (nI r) (fImg (1 - r) false (fun j => σ (83 + 64 * r + j)) (tn (σ (83 + 64 * r + 1))) (σ (83 + 64 * r)) σ).2).2) := by
            rw [sq_e (f := fImg (1 - r) false (fun j => σ (83 + 64 * r + j)) (tn (σ (83 + 64 * r + 1))) (σ (83 + 64 * r))) (pr_e c118)]; exact pr_e c127
          have he := (fMir_y c9 hr er c23).trans (let_t e1)
          exact ⟨fun _ => congrArg Prod.fst he, (((hF17.2 6 (by decide))).trans (((hF6.2 6 (by decide))).trans h6z)), rfl, by rw [he]; exact hR21, (FF.tr (FF.tr hFz (hF6.mo (by decide) (by decide))) (hF17.mo (by decide) (by decide)))⟩
    · have c76 : ¬ (tn (σ (83 + 64 * r + 1))) ≤ k := fun h => c76 ((nI_leI (a := tn (σ (83 + 64 * r + 1))) (b := k) (by omega) (by omega)).mpr h)
      refine rc_p (p_aload_n 1 (dk_at ktX7_mirror_0 45 rfl) rfl rfl (b := 80) rfl) ?_
      refine r_geta fl_X7_36 rfl hm.l0 hm.s0 (dk_at ktX7_mirror_0 46 rfl) hm.g0_25 (b := 83) rfl ?_
      refine rc_p (p_iconst (v := 3) (dk_at ktX7_mirror_0 47 rfl) (by decide) (b := 84) rfl) ?_
      refine rc_p (p_iload 0 (dk_at ktX7_mirror_0 48 rfl) rfl (b := 86) rfl) ?_
      refine rc_p (p_iadd (v := (nI (3 + k))) (dk_at ktX7_mirror_0 49 rfl) (nI_add 3 k) (b := 87) rfl) ?_
      refine rc_p (p_aload_n 1 (dk_at ktX7_mirror_0 50 rfl) rfl rfl (b := 88) rfl) ?_
      refine r_geta fl_X7_9 rfl hm.l0 hm.s0 (dk_at ktX7_mirror_0 51 rfl) hm.g0_0 (b := 91) rfl ?_
      refine rc_p (p_iload_n 4 (dk_at ktX7_mirror_0 52 rfl) rfl rfl (b := 92) rfl) ?_
      refine rc_p (p_iconst (v := 3) (dk_at ktX7_mirror_0 53 rfl) (by decide) (b := 93) rfl) ?_
      refine rc_p (p_iadd (v := (nI (83 + 64 * r + 3))) (dk_at ktX7_mirror_0 54 rfl) (nI_add (83 + 64 * r) 3) (b := 94) rfl) ?_
      refine rc_p (p_iload 0 (dk_at ktX7_mirror_0 55 rfl) rfl (b := 96) rfl) ?_
      refine rc_p (p_iadd (v := (nI (83 + 64 * r + 3 + k))) (dk_at ktX7_mirror_0 56 rfl) (nI_add (83 + 64 * r + 3) k) (b := 97) rfl) ?_
      refine r_iald (j := 83 + 64 * r + 3 + k) (hm.lt 1 (by decide)) hm.s1 (dk_at ktX7_mirror_0 57 rfl) rfl ⟨by omega, by decide⟩ (v := (σ (83 + 64 * r + 3 + k))) (hRz.1 (83 + 64 * r + 3 + k) (by omega)) (b := 98) rfl ?_
      refine r_iast (j := 3 + k) (hm.lt 8 (by decide)) hm.s8 (dk_at ktX7_mirror_0 58 rfl) rfl ⟨by omega, by decide⟩ (b := 99) rfl ?_
      refine rc_p (p_iinc (j := 0) (v := (nI (k + 1))) (ls' := [(4, .int (nI (k + 1))), (0, .ref m), (1, .int (σ 9)), (2, .int (nI r)), (3, .int (nI (83 + 64 * r)))]) (dk_at ktX7_mirror_0 59 rfl) rfl (nI_add k 1) (by decide) rfl (b := 102) rfl) ?_
      refine rc_p (p_goto (b := 70) (dk_at ktX7_mirror_1 0 rfl) (by decide)) ?_
      exact ih (k + 1) _ (by omega) (by omega) (by rw [up2_off (by omega)]; exact hRz) (by rw [up2_a (by omega)]; exact hCz) (FF.ua hFz (by decide) (by decide)) (by rw [up2_a (by omega)]; exact h26) (by rw [up2_a (by omega)]; exact h6z) (fun j hj => by
        by_cases e : j = k
        · subst e; rw [up2_s]; show σ _ = σ (83 + 64 * r + (3 + j)); rw [← Nat.add_assoc]
        · rw [up2_k (by omega)]; exact hq j (by omega))
  refine rc_p (p_aload_n 0 (dk_at ktX7_mirror_0 0 rfl) rfl rfl (b := 1) rfl) ?_
  refine rc_p (p_iconst (v := 0) (dk_at ktX7_mirror_0 1 rfl) (by decide) (b := 2) rfl) ?_
  refine r_puti fl_X7_46 fw_X7_6 rfl hm.l0 hm.s0 rfl rfl (dk_at ktX7_mirror_0 2 rfl) (b := 5) rfl ?_
  refine rc_p (p_aload_n 0 (dk_at ktX7_mirror_0 3 rfl) rfl rfl (b := 6) rfl) ?_
  refine r_iV (As' := []) (rest := []) (s_X7_runsGood hm (σ := σ) (by rw [up2_off (by omega)]; exact hR) hI) cw_X7_337 qi_X7_runsGood qv_X7_runsGood rfl hm.l0 hm.s0 (dk_at ktX7_mirror_0 4 rfl) rfl rfl (Nat.le_of_ble_eq_true rfl) (by decide) (b := 9) rfl (fun v26 I23 J24 q25 => ?_)
  obtain ⟨rfl, rfl, hR29, hT27, hF28⟩ := q25
  refine r_if_eq (dk_at ktX7_mirror_0 5 rfl) (b := 26) (by decide) (b2 := 12) rfl (fun c9 => ?_) (fun c9 => ?_)
  · have c9 := bi_f c9
    refine rc_p (p_bipush (v := (-3)) (dk_at ktX7_mirror_0 13 rfl) (by decide) (b := 28) rfl) ?_
    refine r_iret (dk_at ktX7_mirror_0 14 rfl) rfl rfl ⟨_, rfl, ?_⟩
    have he := fMir_n (σ := σ) (fun q => by rw [c9] at q; exact absurd q.1 (by decide))
    exact ⟨fun _ => congrArg Prod.fst he, (((hF28.2 6 (by decide))).trans up2_s), rfl, by rw [he]; exact hR29, (FF.tr (FF.uf FF.rf (by decide)) (hF28.mo (by decide) (by decide)))⟩
  · have c9 := bi_t c9
    obtain ⟨r, hr, er⟩ := hI.2.2.1.run (goodB_t c9).1
    refine rc_p (p_aload_n 0 (dk_at ktX7_mirror_0 6 rfl) rfl rfl (b := 13) rfl) ?_
    refine rc_p (p_aload_n 0 (dk_at ktX7_mirror_0 7 rfl) rfl rfl (b := 14) rfl) ?_
    refine r_geta fl_X7_9 rfl hm.l0 hm.s0 (dk_at ktX7_mirror_0 8 rfl) hm.g0_0 (b := 17) rfl ?_
    refine rc_p (p_bipush (v := 8) (dk_at ktX7_mirror_0 9 rfl) (by decide) (b := 19) rfl) ?_
    refine r_iald (j := 8) (hm.lt 1 (by decide)) hm.s1 (dk_at ktX7_mirror_0 10 rfl) rfl ⟨by decide, by decide⟩ (v := (nI r)) ((hR29.1 8 (by decide)).trans er) (b := 20) rfl ?_
    refine r_iV (As' := [.int (nI r)]) (rest := []) (s_X7_wholeAt hm (σ := σ) hR29 hI r (by omega)) cw_X7_185 qi_X7_wholeAt qv_X7_wholeAt rfl hm.l0 hm.s0 (dk_at ktX7_mirror_0 11 rfl) rfl rfl (Nat.le_of_ble_eq_true rfl) (by decide) (b := 23) rfl (fun v33 I30 J31 q32 => ?_)
    obtain ⟨rfl, rfl, rfl⟩ := q32
    refine r_if_ne (dk_at ktX7_mirror_0 12 rfl) (b := 29) (by decide) (b2 := 26) rfl (fun c23 => ?_) (fun c23 => ?_)
    · have c23 := bi_t c23
      have htn := toldB_n hb.2.1 (wholeB_n c23)
      refine rc_p (p_aload_n 0 (dk_at ktX7_mirror_0 15 rfl) rfl rfl (b := 30) rfl) ?_
      refine rc_p (p_iconst (v := 0) (dk_at ktX7_mirror_0 16 rfl) (by decide) (b := 31) rfl) ?_
      refine r_puti fl_X7_258 fw_X7_23 rfl hm.l0 hm.s0 rfl rfl (dk_at ktX7_mirror_0 17 rfl) (b := 34) rfl ?_
      refine rc_p (p_aload_n 0 (dk_at ktX7_mirror_0 18 rfl) rfl rfl (b := 35) rfl) ?_
      refine r_geta fl_X7_9 rfl hm.l0 hm.s0 (dk_at ktX7_mirror_0 19 rfl) hm.g0_0 (b := 38) rfl ?_
      refine rc_p (p_bipush (v := 9) (dk_at ktX7_mirror_0 20 rfl) (by decide) (b := 40) rfl) ?_
      refine r_iald (j := 9) (hm.lt 1 (by decide)) hm.s1 (dk_at ktX7_mirror_0 21 rfl) rfl ⟨by decide, by decide⟩ (v := (σ 9)) ((up2_n (by omega)).trans (hR29.1 9 (by decide))) (b := 41) rfl ?_
      refine rc_p (p_istore_n (ls' := [(1, .int (σ 9)), (0, .ref m)]) (dk_at ktX7_mirror_0 22 rfl) rfl (by decide) rfl (b := 42) rfl) ?_
      refine rc_p (p_aload_n 1 (dk_at ktX7_mirror_0 23 rfl) rfl rfl (b := 43) rfl) ?_
      refine r_geta fl_X7_9 rfl hm.l0 hm.s0 (dk_at ktX7_mirror_0 24 rfl) hm.g0_0 (b := 46) rfl ?_
      refine rc_p (p_bipush (v := 8) (dk_at ktX7_mirror_0 25 rfl) (by decide) (b := 48) rfl) ?_
      refine r_iald (j := 8) (hm.lt 1 (by decide)) hm.s1 (dk_at ktX7_mirror_0 26 rfl) rfl ⟨by decide, by decide⟩ (v := (nI r)) ((up2_n (by omega)).trans ((hR29.1 8 (by decide)).trans er)) (b := 49) rfl ?_
      refine rc_p (p_istore_n (ls' := [(2, .int (nI r)), (1, .int (σ 9)), (0, .ref m)]) (dk_at ktX7_mirror_0 27 rfl) rfl (by decide) rfl (b := 50) rfl) ?_
      refine rc_p (p_iload_n 0 (dk_at ktX7_mirror_0 28 rfl) rfl rfl (b := 51) rfl) ?_
      refine r_iS (As := [.int (nI r)]) (rest := []) (s_X7_slotAt r) cw_X7_197 qs_X7_slotAt (dk_at ktX7_mirror_0 29 rfl) rfl rfl (Nat.le_of_ble_eq_true rfl) (by decide) (b := 54) rfl (fun v37 I34 J35 q36 => ?_)
      obtain ⟨rfl, rfl, rfl⟩ := q36
      refine rc_p (p_istore_n (ls' := [(3, .int (nI (83 + 64 * r))), (2, .int (nI r)), (1, .int (σ 9)), (0, .ref m)]) (dk_at ktX7_mirror_0 30 rfl) rfl (by decide) rfl (b := 55) rfl) ?_
      refine rc_p (p_aload_n 3 (dk_at ktX7_mirror_0 31 rfl) rfl rfl (b := 56) rfl) ?_
      refine rc_p (p_aload_n 3 (dk_at ktX7_mirror_0 32 rfl) rfl rfl (b := 57) rfl) ?_
      refine r_geta fl_X7_9 rfl hm.l0 hm.s0 (dk_at ktX7_mirror_0 33 rfl) hm.g0_0 (b := 60) rfl ?_
      refine rc_p (p_iload_n 0 (dk_at ktX7_mirror_0 34 rfl) rfl rfl (b := 61) rfl) ?_
      refine rc_p (p_iconst (v := 1) (dk_at ktX7_mirror_0 35 rfl) (by decide) (b := 62) rfl) ?_
      refine rc_p (p_iadd (v := (nI (83 + 64 * r + 1))) (dk_at ktX7_mirror_0 36 rfl) (nI_add (83 + 64 * r) 1) (b := 63) rfl) ?_
      refine r_iald (j := 83 + 64 * r + 1) (hm.lt 1 (by decide)) hm.s1 (dk_at ktX7_mirror_0 37 rfl) rfl ⟨by omega, by decide⟩ (v := (nI (tn (σ (83 + 64 * r + 1))))) (((show RelW ((up2 I23 m 23 0) (m + 1)) σ from (by rw [up2_off (by omega)]; exact hR29)).1 (83 + 64 * r + 1) (by omega)).trans htn.1) (b := 64) rfl ?_
      refine r_puti fl_X7_322 fw_X7_26 rfl hm.l0 hm.s0 rfl rfl (dk_at ktX7_mirror_0 38 rfl) (b := 67) rfl ?_
      refine rc_p (p_iconst (v := 0) (dk_at ktX7_mirror_0 39 rfl) (by decide) (b := 68) rfl) ?_
      refine rc_p (p_istore (ls' := [(4, .int 0), (3, .int (nI (83 + 64 * r))), (2, .int (nI r)), (1, .int (σ 9)), (0, .ref m)]) (dk_at ktX7_mirror_0 40 rfl) (by decide) rfl (b := 70) rfl) ?_
      refine rc_sub [0, 4, 3, 2, 1] (ls' := [(4, .int 0), (0, .ref m), (1, .int (σ 9)), (2, .int (nI r)), (3, .int (nI (83 + 64 * r)))]) rfl ?_
      exact cut70 r hr er c9 c23 1000 0 _ (by omega) (Nat.zero_le _) (by rw [up2_off (by omega)]; exact (by rw [up2_off (by omega)]; exact hR29)) ((up2_n (by omega)).trans up2_s) (FF.uf (FF.uf (FF.tr (FF.uf FF.rf (by decide)) (hF28.mo (by decide) (by decide))) (by decide)) (by decide)) up2_s ((up2_n (by omega)).trans ((up2_n (by omega)).trans (((hF28.2 6 (by decide))).trans up2_s))) (fun j hj => absurd hj (by omega))
    · have c23 := bi_f c23
      refine rc_p (p_bipush (v := (-3)) (dk_at ktX7_mirror_0 13 rfl) (by decide) (b := 28) rfl) ?_
      refine r_iret (dk_at ktX7_mirror_0 14 rfl) rfl rfl ⟨_, rfl, ?_⟩
      have he := fMir_n (σ := σ) (fun q => by have := q.2; rw [er, tn_nI (by omega), c23] at this; exact absurd this (by decide))
      exact ⟨fun _ => congrArg Prod.fst he, (((hF28.2 6 (by decide))).trans up2_s), rfl, by rw [he]; exact hR29, (FF.tr (FF.uf FF.rf (by decide)) (hF28.mo (by decide) (by decide)))⟩

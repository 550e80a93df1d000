/-! THE REFERENCE: updates, mirrors, confirmations -/
set_option maxRecDepth 4000 in
set_option maxHeartbeats 4000000 in
theorem s_X7_runsGood {n : Nat} {sh : mS} {G : mG} {I : mI} {J : mJ} {m : Nat} {σ : sT} (hm : ModG n sh G m) (hR : RelW (I (m + 1)) σ) (hI : Inv σ)  : Sp yX7_runsGood cX7_runsGood 1 (some FieldType.boolean) 6 288 0 0 [.ref m] n sh G I J (Qi (fun r_ I_ J_ => bi (goodB σ) = r_ ∧ J = J_ ∧ RelW (I_ (m + 1)) σ ∧ (∀ j, j < 5 → I_ m (18 + j) = told σ j) ∧ FF m [] [18, 19, 20, 21, 22] I I_)) nX := by
  refine Sp.of (by decide) (ls := [(0, .ref m)]) (fun _ => rfl) (fun _ => Nat.le_of_ble_eq_true rfl) ?_
  refine rc_p (p_aload_n 0 (dk_at ktX7_runsGood_0 0 rfl) rfl rfl (b := 1) rfl) ?_
  refine r_vV (As' := []) (rest := []) (s_X7_tells hm (σ := σ) hR hI) cw_X7_255 qi_X7_tells qv_X7_tells rfl hm.l0 hm.s0 (dk_at ktX7_runsGood_0 1 rfl) rfl rfl (Nat.le_of_ble_eq_true rfl) (by decide) (b := 4) rfl (fun I1 J2 q3 => ?_)
  obtain ⟨rfl, hR7, hT5, hF6⟩ := q3
  refine rc_p (p_aload_n 0 (dk_at ktX7_runsGood_0 2 rfl) rfl rfl (b := 5) rfl) ?_
  refine r_geta fl_X7_9 rfl hm.l0 hm.s0 (dk_at ktX7_runsGood_0 3 rfl) hm.g0_0 (b := 8) rfl ?_
  refine rc_p (p_bipush (v := 7) (dk_at ktX7_runsGood_0 4 rfl) (by decide) (b := 10) rfl) ?_
  refine r_iald (j := 7) (hm.lt 1 (by decide)) hm.s1 (dk_at ktX7_runsGood_0 5 rfl) rfl ⟨by decide, by decide⟩ (v := (σ 7)) (hR7.1 7 (by decide)) (b := 11) rfl ?_
  refine rc_p (p_iconst (v := 1) (dk_at ktX7_runsGood_0 6 rfl) (by decide) (b := 12) rfl) ?_
  refine r_icmp_ne (dk_at ktX7_runsGood_0 7 rfl) (b := 33) (by decide) (b2 := 15) rfl (fun c12 => ?_) (fun c12 => ?_)
  · skip
    refine rc_p (p_iconst (v := 0) (dk_at ktX7_runsGood_0 17 rfl) (by decide) (b := 34) rfl) ?_
    refine r_iret (dk_at ktX7_runsGood_0 18 rfl) rfl rfl ⟨_, rfl, ?_⟩
    refine ⟨?_, rfl, hR7, hT5, hF6⟩
    simp_all [goodB, bi]
  · skip
    refine rc_p (p_aload_n 0 (dk_at ktX7_runsGood_0 8 rfl) rfl rfl (b := 16) rfl) ?_
    refine r_geti fl_X7_240 rfl hm.l0 hm.s0 (dk_at ktX7_runsGood_0 9 rfl) (v := ((told σ) 1)) (hT5 1 (by decide)) (b := 19) rfl ?_
    refine rc_p (p_aload_n 0 (dk_at ktX7_runsGood_0 10 rfl) rfl rfl (b := 20) rfl) ?_
    refine r_geta fl_X7_9 rfl hm.l0 hm.s0 (dk_at ktX7_runsGood_0 11 rfl) hm.g0_0 (b := 23) rfl ?_
    refine rc_p (p_bipush (v := 8) (dk_at ktX7_runsGood_0 12 rfl) (by decide) (b := 25) rfl) ?_
    refine r_iald (j := 8) (hm.lt 1 (by decide)) hm.s1 (dk_at ktX7_runsGood_0 13 rfl) rfl ⟨by decide, by decide⟩ (v := (σ 8)) (hR7.1 8 (by decide)) (b := 26) rfl ?_
    refine r_icmp_ne (dk_at ktX7_runsGood_0 14 rfl) (b := 33) (by decide) (b2 := 29) rfl (fun c26 => ?_) (fun c26 => ?_)
    · skip
      refine rc_p (p_iconst (v := 0) (dk_at ktX7_runsGood_0 17 rfl) (by decide) (b := 34) rfl) ?_
      refine r_iret (dk_at ktX7_runsGood_0 18 rfl) rfl rfl ⟨_, rfl, ?_⟩
      refine ⟨?_, rfl, hR7, hT5, hF6⟩
      simp_all [goodB, bi]
    · skip
      refine rc_p (p_iconst (v := 1) (dk_at ktX7_runsGood_0 15 rfl) (by decide) (b := 30) rfl) ?_
      refine rc_p (p_goto (b := 34) (dk_at ktX7_runsGood_0 16 rfl) (by decide)) ?_
      refine r_iret (dk_at ktX7_runsGood_0 18 rfl) rfl rfl ⟨_, rfl, ?_⟩
      refine ⟨?_, rfl, hR7, hT5, hF6⟩
      simp_all [goodB, bi]
set_option maxRecDepth 4000 in
set_option maxHeartbeats 4000000 in
theorem s_X7_errorOf {n : Nat} {sh : mS} {G : mG} {I : mI} {J : mJ} {m : Nat} {σ : sT} (hm : ModG n sh G m) (hR : RelW (I (m + 1)) σ) (hI : Inv σ) (v : Int32) : Sp yX7_errorOf cX7_errorOf 2 (some FieldType.int) 7 336 0 0 [.ref m, .int v] n sh G I J (Qi (fun r_ I_ J_ => errU v σ = r_ ∧ J = J_ ∧ RelW (I_ (m + 1)) σ ∧ (∀ j, j < 5 → I_ m (18 + j) = told σ j) ∧ FF m [] [18, 19, 20, 21, 22] I I_)) nX := by
  refine Sp.of (by decide) (ls := [(0, .ref m), (1, .int v)]) (fun _ => rfl) (fun _ => Nat.le_of_ble_eq_true rfl) ?_
  refine rc_p (p_aload_n 0 (dk_at ktX7_errorOf_0 0 rfl) rfl rfl (b := 1) rfl) ?_
  refine r_iV (As' := []) (rest := []) (s_X7_runsGood hm (σ := σ) hR hI) cw_X7_337 qi_X7_runsGood qv_X7_runsGood rfl hm.l0 hm.s0 (dk_at ktX7_errorOf_0 1 rfl) rfl rfl (Nat.le_of_ble_eq_true rfl) (by decide) (b := 4) rfl (fun v4 I1 J2 q3 => ?_)
  obtain ⟨rfl, rfl, hR7, hT5, hF6⟩ := q3
  refine r_if_eq (dk_at ktX7_errorOf_0 2 rfl) (b := 16) (by decide) (b2 := 7) rfl (fun c4 => ?_) (fun c4 => ?_)
  · have c4 := bi_f c4
    refine rc_p (p_bipush (v := (-3)) (dk_at ktX7_errorOf_0 8 rfl) (by decide) (b := 18) rfl) ?_
    refine r_iret (dk_at ktX7_errorOf_0 9 rfl) rfl rfl ⟨_, rfl, ?_⟩
    refine ⟨?_, rfl, hR7, hT5, hF6⟩
    unfold errU
    simp_all [goodB, ← Int32.not_le]
  · have c4 := bi_t c4
    refine rc_p (p_aload_n 0 (dk_at ktX7_errorOf_0 3 rfl) rfl rfl (b := 8) rfl) ?_
    refine r_geta fl_X7_9 rfl hm.l0 hm.s0 (dk_at ktX7_errorOf_0 4 rfl) hm.g0_0 (b := 11) rfl ?_
    refine rc_p (p_iconst (v := 4) (dk_at ktX7_errorOf_0 5 rfl) (by decide) (b := 12) rfl) ?_
    refine r_iald (j := 4) (hm.lt 1 (by decide)) hm.s1 (dk_at ktX7_errorOf_0 6 rfl) rfl ⟨by decide, by decide⟩ (v := (σ 4)) (hR7.1 4 (by decide)) (b := 13) rfl ?_
    refine r_if_ne (dk_at ktX7_errorOf_0 7 rfl) (b := 19) (by decide) (b2 := 16) rfl (fun c13 => ?_) (fun c13 => ?_)
    · skip
      refine rc_p (p_iload_n 1 (dk_at ktX7_errorOf_0 10 rfl) rfl rfl (b := 20) rfl) ?_
      refine rc_p (p_aload_n 0 (dk_at ktX7_errorOf_0 11 rfl) rfl rfl (b := 21) rfl) ?_
      refine r_geti fl_X7_230 rfl hm.l0 hm.s0 (dk_at ktX7_errorOf_0 12 rfl) (v := ((told σ) 0)) (hT5 0 (by decide)) (b := 24) rfl ?_
      refine r_icmp_ge (dk_at ktX7_errorOf_0 13 rfl) (b := 32) (by decide) (b2 := 27) rfl (fun c24 => ?_) (fun c24 => ?_)
      · skip
        refine rc_p (p_iconst (v := 0) (dk_at ktX7_errorOf_0 16 rfl) (by decide) (b := 33) rfl) ?_
        refine r_iret (dk_at ktX7_errorOf_0 17 rfl) rfl rfl ⟨_, rfl, ?_⟩
        refine ⟨?_, rfl, hR7, hT5, hF6⟩
        unfold errU
        simp_all [goodB, ← Int32.not_le]
      · skip
        refine rc_p (p_bipush (v := (-5)) (dk_at ktX7_errorOf_0 14 rfl) (by decide) (b := 29) rfl) ?_
        refine rc_p (p_goto (b := 33) (dk_at ktX7_errorOf_0 15 rfl) (by decide)) ?_
        refine r_iret (dk_at ktX7_errorOf_0 17 rfl) rfl rfl ⟨_, rfl, ?_⟩
        refine ⟨?_, rfl, hR7, hT5, hF6⟩
        unfold errU
        simp_all [goodB, ← Int32.not_le]
    · skip
      refine rc_p (p_bipush (v := (-3)) (dk_at ktX7_errorOf_0 8 rfl) (by decide) (b := 18) rfl) ?_
      refine r_iret (dk_at ktX7_errorOf_0 9 rfl) rfl rfl ⟨_, rfl, ?_⟩
      refine ⟨?_, rfl, hR7, hT5, hF6⟩
      unfold errU
      simp_all [goodB, ← Int32.not_le]
set_option maxRecDepth 4000 in
set_option maxHeartbeats 4000000 in
theorem s_X7_updates {n : Nat} {sh : mS} {G : mG} {I : mI} {J : mJ} {m : Nat} {σ : sT} (hm : ModG n sh G m) (hR : RelW (I (m + 1)) σ) (hI : Inv σ) (v : Int32) (thr : Bool) : Sp yX7_updates cX7_updates 7 (some FieldType.int) 8 384 0 0 [.ref m, .int v, .int (bi thr)] n sh G I J (Qi (fun r_ I_ J_ => (fUpd v thr σ).1 = r_ ∧ J = J_ ∧ RelW (I_ (m + 1)) (fUpd v thr σ).2 ∧ FF m [1, 8] [18, 19, 20, 21, 22, 23, 24, 26] I I_)) nX := by
  refine Sp.of (by decide) (ls := [(0, .ref m), (1, .int v), (2, .int (bi thr))]) (fun _ => rfl) (fun _ => Nat.le_of_ble_eq_true rfl) ?_
  have hb := hI.bd
  refine rc_p (p_aload_n 0 (dk_at ktX7_updates_0 0 rfl) rfl rfl (b := 1) rfl) ?_
  refine rc_p (p_iload_n 1 (dk_at ktX7_updates_0 1 rfl) rfl rfl (b := 2) rfl) ?_
  refine r_iV (As' := [.int v]) (rest := []) (s_X7_errorOf hm (σ := σ) hR hI v) cw_X7_340 qi_X7_errorOf qv_X7_errorOf rfl hm.l0 hm.s0 (dk_at ktX7_updates_0 2 rfl) rfl rfl (Nat.le_of_ble_eq_true rfl) (by decide) (b := 5) rfl (fun v4 I1 J2 q3 => ?_)
  obtain ⟨ee8, rfl, hR7, hT5, hF6⟩ := q3
  refine rc_p (p_istore_n (ls' := [(3, .int v4), (0, .ref m), (1, .int v), (2, .int (bi thr))]) (dk_at ktX7_updates_0 3 rfl) rfl (by decide) rfl (b := 6) rfl) ?_
  refine rc_p (p_iload_n 0 (dk_at ktX7_updates_0 4 rfl) rfl rfl (b := 7) rfl) ?_
  refine r_if_eq (dk_at ktX7_updates_0 5 rfl) (b := 12) (by decide) (b2 := 10) rfl (fun c7 => ?_) (fun c7 => ?_)
  · skip
    have herr : errU v σ = 0 := ee8.trans c7
    obtain ⟨h7, hg1, hs4, hfl⟩ := errU_0 herr
    obtain ⟨r, hr, er⟩ := hI.2.2.1.run h7
    refine rc_p (p_aload_n 1 (dk_at ktX7_updates_0 8 rfl) rfl rfl (b := 13) rfl) ?_
    refine rc_p (p_iconst (v := 0) (dk_at ktX7_updates_0 9 rfl) (by decide) (b := 14) rfl) ?_
    refine r_puti fl_X7_258 fw_X7_23 rfl hm.l0 hm.s0 rfl rfl (dk_at ktX7_updates_0 10 rfl) (b := 17) rfl ?_
    refine rc_p (p_aload_n 1 (dk_at ktX7_updates_0 11 rfl) rfl rfl (b := 18) rfl) ?_
    refine r_geta fl_X7_9 rfl hm.l0 hm.s0 (dk_at ktX7_updates_0 12 rfl) hm.g0_0 (b := 21) rfl ?_
    refine rc_p (p_bipush (v := 9) (dk_at ktX7_updates_0 13 rfl) (by decide) (b := 23) rfl) ?_
    refine r_iald (j := 9) (hm.lt 1 (by decide)) hm.s1 (dk_at ktX7_updates_0 14 rfl) rfl ⟨by decide, by decide⟩ (v := (σ 9)) ((up2_n (by omega)).trans (hR7.1 9 (by decide))) (b := 24) rfl ?_
    refine rc_p (p_istore (ls' := [(4, .int (σ 9)), (3, .int v4), (0, .ref m), (1, .int v), (2, .int (bi thr))]) (dk_at ktX7_updates_0 15 rfl) (by decide) rfl (b := 26) rfl) ?_
    refine rc_p (p_iconst (v := 1) (dk_at ktX7_updates_0 16 rfl) (by decide) (b := 27) rfl) ?_
    refine rc_p (p_aload_n 2 (dk_at ktX7_updates_0 17 rfl) rfl rfl (b := 28) rfl) ?_
    refine r_geta fl_X7_9 rfl hm.l0 hm.s0 (dk_at ktX7_updates_0 18 rfl) hm.g0_0 (b := 31) rfl ?_
    refine rc_p (p_bipush (v := 8) (dk_at ktX7_updates_0 19 rfl) (by decide) (b := 33) rfl) ?_
    refine r_iald (j := 8) (hm.lt 1 (by decide)) hm.s1 (dk_at ktX7_updates_0 20 rfl) rfl ⟨by decide, by decide⟩ (v := (nI r)) ((up2_n (by omega)).trans ((hR7.1 8 (by decide)).trans er)) (b := 34) rfl ?_
    refine rc_p (p_isub (v := (nI (1 - r))) (dk_at ktX7_updates_0 21 rfl) (pk_sub (a := 1) (b := r) (by omega)) (b := 35) rfl) ?_
    refine rc_p (p_istore (ls' := [(5, .int (nI (1 - r))), (4, .int (σ 9)), (3, .int v4), (0, .ref m), (1, .int v), (2, .int (bi thr))]) (dk_at ktX7_updates_0 22 rfl) (by decide) rfl (b := 37) rfl) ?_
    refine rc_p (p_aload_n 3 (dk_at ktX7_updates_0 23 rfl) rfl rfl (b := 38) rfl) ?_
    refine r_vV (As' := []) (rest := []) (s_X7_takesStaged hm (σ := σ) (by rw [up2_off (by omega)]; exact hR7) hI) cw_X7_343 qi_X7_takesStaged qv_X7_takesStaged rfl hm.l0 hm.s0 (dk_at ktX7_updates_0 24 rfl) rfl rfl (Nat.le_of_ble_eq_true rfl) (by decide) (b := 41) rfl (fun I9 J10 q11 => ?_)
    obtain ⟨rfl, hR13, hF14, hP15⟩ := q11
    refine rc_p (p_iload_n 5 (dk_at ktX7_updates_0 25 rfl) rfl rfl (b := 42) rfl) ?_
    refine r_if_eq (dk_at ktX7_updates_0 26 rfl) (b := 55) (by decide) (b2 := 45) rfl (fun c42 => ?_) (fun c42 => ?_)
    · have c42 := bi_f c42
      refine rc_p (p_aload_n 3 (dk_at ktX7_updates_0 32 rfl) rfl rfl (b := 56) rfl) ?_
      refine rc_p (p_iload 0 (dk_at ktX7_updates_0 33 rfl) rfl (b := 58) rfl) ?_
      refine rc_p (p_iload_n 4 (dk_at ktX7_updates_0 34 rfl) rfl rfl (b := 59) rfl) ?_
      refine r_iV (As' := [.int (nI (1 - r)), .int v]) (rest := []) (s_X7_writesImage hm (σ := σ) hR13 hI (((hF14.2 23 (by decide))).trans up2_s) (1 - r) (by omega) (payS σ) (nS σ) (by omega) hP15 v) cw_X7_349 qi_X7_writesImage qv_X7_writesImage rfl hm.l0 hm.s0 (dk_at ktX7_updates_0 35 rfl) rfl rfl (Nat.le_of_ble_eq_true rfl) (by decide) (b := 62) rfl (fun v19 I16 J17 q18 => ?_)
      obtain ⟨rfl, rfl, hR20, hF21, hC22⟩ := q18
      refine rc_p (p_istore (ls' := [(6, .int (bi ((fImg (1 - r) false (payS σ) (nS σ) v σ).1))), (5, .int (nI (1 - r))), (4, .int (σ 9)), (3, .int v4), (0, .ref m), (1, .int v), (2, .int (bi thr))]) (dk_at ktX7_updates_0 36 rfl) (by decide) rfl (b := 64) rfl) ?_
      refine rc_p (p_iload 0 (dk_at ktX7_updates_0 37 rfl) rfl (b := 66) rfl) ?_
      refine r_if_eq (dk_at ktX7_updates_0 38 rfl) (b := 79) (by decide) (b2 := 69) rfl (fun c66 => ?_) (fun c66 => ?_)
      · have c66 := bi_f c66
        have hR23 : RelW (I16 (m + 1)) (sCut ((fImg (1 - r) false (payS σ) (nS σ) v σ).2)) := by rw [c66] at hR20; exact hR20
        have hC24 : I16 m 23 = 1 := by rw [c66] at hC22; exact hC22
        refine rc_p (p_bipush (v := (-4)) (dk_at ktX7_updates_0 44 rfl) (by decide) (b := 81) rfl) ?_
        refine r_iret (dk_at ktX7_updates_0 45 rfl) rfl rfl ⟨_, rfl, ?_⟩
        subst c42
        have e1 : opU v false (1 - r) σ = (false, (fImg (1 - r) false (payS σ) (nS σ) v σ).2) := by
          unfold opU; rw [sq_n (f := fImg (1 - r) false (payS σ) (nS σ) v) (pr_e c66)]
        have he := (fUpd_0 (thr := false) herr hr er).trans (endU_f e1)
        exact ⟨congrArg Prod.fst he, rfl, by rw [he]; exact hR23, (FF.tr (FF.tr (FF.uf (hF6.mo (by decide) (by decide)) (by decide)) (hF14.mo (by decide) (by decide))) (hF21.mo (by decide) (by decide)))⟩
      · have c66 := bi_t c66
        have hR25 : RelW (I16 (m + 1)) ((fImg (1 - r) false (payS σ) (nS σ) v σ).2) := by rw [c66] at hR20; exact hR20
        have hC26 : I16 m 23 = 0 := by rw [c66] at hC22; exact hC22
        refine rc_p (p_aload_n 4 (dk_at ktX7_updates_0 39 rfl) rfl rfl (b := 70) rfl) ?_
        refine rc_p (p_iconst (v := 3) (dk_at ktX7_updates_0 40 rfl) (by decide) (b := 71) rfl) ?_
        refine rc_p (p_iload 1 (dk_at ktX7_updates_0 41 rfl) rfl (b := 73) rfl) ?_
        refine r_iV (As' := [.int 3, .int (nI (1 - r))]) (rest := []) (s_X7_appends hm (σ := ((fImg (1 - r) false (payS σ) (nS σ) v σ).2)) hR25 (Inv.img hI (by omega) (by omega)) hC26 3 (by decide) (nI (1 - r))) cw_X7_307 qi_X7_appends qv_X7_appends rfl hm.l0 hm.s0 (dk_at ktX7_updates_0 42 rfl) rfl rfl (Nat.le_of_ble_eq_true rfl) (by decide) (b := 76) rfl (fun v30 I27 J28 q29 => ?_)
        obtain ⟨rfl, rfl, hR31, hF32, hC33⟩ := q29
        refine r_if_ne (dk_at ktX7_updates_0 43 rfl) (b := 82) (by decide) (b2 := 79) rfl (fun c76 => ?_) (fun c76 => ?_)
        · have c76 := bi_t c76
          have hR34 : RelW (I27 (m + 1)) ((fApp 3 (nI (1 - r)) ((fImg (1 - r) false (payS σ) (nS σ) v σ).2)).2) := by rw [c76] at hR31; exact hR31
          have hC35 : I27 m 23 = 0 := by rw [c76] at hC33; exact hC33
          refine rc_p (p_aload_n 4 (dk_at ktX7_updates_0 46 rfl) rfl rfl (b := 83) rfl) ?_
          refine r_geta fl_X7_9 rfl hm.l0 hm.s0 (dk_at ktX7_updates_0 47 rfl) hm.g0_0 (b := 86) rfl ?_
          refine rc_p (p_iconst (v := 4) (dk_at ktX7_updates_0 48 rfl) (by decide) (b := 87) rfl) ?_
          refine rc_p (p_iconst (v := 0) (dk_at ktX7_updates_0 49 rfl) (by decide) (b := 88) rfl) ?_
          refine r_iast (j := 4) (hm.lt 1 (by decide)) hm.s1 (dk_at ktX7_updates_0 50 rfl) rfl ⟨by decide, by decide⟩ (b := 89) rfl ?_
          refine rc_p (p_aload_n 4 (dk_at ktX7_updates_0 51 rfl) rfl rfl (b := 90) rfl) ?_
          refine r_geta fl_X7_9 rfl hm.l0 hm.s0 (dk_at ktX7_updates_0 52 rfl) hm.g0_0 (b := 93) rfl ?_
          refine rc_p (p_bipush (v := 9) (dk_at ktX7_updates_0 53 rfl) (by decide) (b := 95) rfl) ?_
          refine r_iald (j := 9) (hm.lt 1 (by decide)) hm.s1 (dk_at ktX7_updates_0 54 rfl) rfl ⟨by decide, by decide⟩ (v := (((fApp 3 (nI (1 - r)) ((fImg (1 - r) false (payS σ) (nS σ) v σ).2)).2) 9)) ((up2_n (by omega)).trans (hR34.1 9 (by decide))) (b := 96) rfl ?_
          refine rc_p (p_iload 2 (dk_at ktX7_updates_0 55 rfl) rfl (b := 98) rfl) ?_
          refine rc_p (p_isub (v := ((((fApp 3 (nI (1 - r)) ((fImg (1 - r) false (payS σ) (nS σ) v σ).2)).2) 9) - (σ 9))) (dk_at ktX7_updates_0 56 rfl) rfl (b := 99) rfl) ?_
          refine r_iret (dk_at ktX7_updates_0 57 rfl) rfl rfl ⟨_, rfl, ?_⟩
          subst c42
          have e1 : opU v false (1 - r) σ = (true, (fApp 3 (nI (1 - r)) (fImg (1 - r) false (payS σ) (nS σ) v σ).2).2) := by
            unfold opU; rw [sq_e (f := fImg (1 - r) false (payS σ) (nS σ) v) (pr_e c66)]; exact pr_e c76
          have he := (fUpd_0 (thr := false) herr hr er).trans (endU_t e1)
          exact ⟨congrArg Prod.fst he, rfl, by rw [he]; exact (by rw [up2_row]; exact RelW.up hR34 (by first | decide | omega) (by first | decide | omega)), (FF.ua (FF.tr (FF.tr (FF.tr (FF.uf (hF6.mo (by decide) (by decide)) (by decide)) (hF14.mo (by decide) (by decide))) (hF21.mo (by decide) (by decide))) (hF32.mo (by decide) (by decide))) (by decide) (by decide))⟩
        · have c76 := bi_f c76
          have hR36 : RelW (I27 (m + 1)) (sCut ((fApp 3 (nI (1 - r)) ((fImg (1 - r) false (payS σ) (nS σ) v σ).2)).2)) := by rw [c76] at hR31; exact hR31
          have hC37 : I27 m 23 = 1 := by rw [c76] at hC33; exact hC33
          refine rc_p (p_bipush (v := (-4)) (dk_at ktX7_updates_0 44 rfl) (by decide) (b := 81) rfl) ?_
          refine r_iret (dk_at ktX7_updates_0 45 rfl) rfl rfl ⟨_, rfl, ?_⟩
          subst c42
          have e1 : opU v false (1 - r) σ = (false, (fApp 3 (nI (1 - r)) (fImg (1 - r) false (payS σ) (nS σ) v σ).2).2) := by
            unfold opU; rw [sq_e (f := fImg (1 - r) false (payS σ) (nS σ) v) (pr_e c66)]; exact pr_e c76
          have he := (fUpd_0 (thr := false) herr hr er).trans (endU_f e1)
          exact ⟨congrArg Prod.fst he, rfl, by rw [he]; exact hR36, (FF.tr (FF.tr (FF.tr (FF.uf (hF6.mo (by decide) (by decide)) (by decide)) (hF14.mo (by decide) (by decide))) (hF21.mo (by decide) (by decide))) (hF32.mo (by decide) (by decide)))⟩
    · have c42 := bi_t c42
      refine rc_p (p_aload_n 3 (dk_at ktX7_updates_0 27 rfl) rfl rfl (b := 46) rfl) ?_
      refine rc_p (p_iload 0 (dk_at ktX7_updates_0 28 rfl) rfl (b := 48) rfl) ?_
      refine rc_p (p_iload_n 4 (dk_at ktX7_updates_0 29 rfl) rfl rfl (b := 49) rfl) ?_
      refine r_iV (As' := [.int (nI (1 - r)), .int v]) (rest := []) (s_X7_writesThriftily hm (σ := σ) hR13 hI (((hF14.2 23 (by decide))).trans up2_s) (1 - r) (by omega) (payS σ) (nS σ) (by omega) hP15 v) cw_X7_346 qi_X7_writesThriftily qv_X7_writesThriftily rfl hm.l0 hm.s0 (dk_at ktX7_updates_0 30 rfl) rfl rfl (Nat.le_of_ble_eq_true rfl) (by decide) (b := 52) rfl (fun v41 I38 J39 q40 => ?_)
      obtain ⟨rfl, rfl, hR42, hF43, hC44⟩ := q40
      refine rc_p (p_goto (b := 62) (dk_at ktX7_updates_0 31 rfl) (by decide)) ?_
      refine rc_p (p_istore (ls' := [(6, .int (bi ((fImg (1 - r) true (payS σ) (nS σ) v σ).1))), (5, .int (nI (1 - r))), (4, .int (σ 9)), (3, .int v4), (0, .ref m), (1, .int v), (2, .int (bi thr))]) (dk_at ktX7_updates_0 36 rfl) (by decide) rfl (b := 64) rfl) ?_
      refine rc_p (p_iload 0 (dk_at ktX7_updates_0 37 rfl) rfl (b := 66) rfl) ?_
      refine r_if_eq (dk_at ktX7_updates_0 38 rfl) (b := 79) (by decide) (b2 := 69) rfl (fun c66 => ?_) (fun c66 => ?_)
      · have c66 := bi_f c66
        have hR45 : RelW (I38 (m + 1)) (sCut ((fImg (1 - r) true (payS σ) (nS σ) v σ).2)) := by rw [c66] at hR42; exact hR42
        have hC46 : I38 m 23 = 1 := by rw [c66] at hC44; exact hC44
        refine rc_p (p_bipush (v := (-4)) (dk_at ktX7_updates_0 44 rfl) (by decide) (b := 81) rfl) ?_
        refine r_iret (dk_at ktX7_updates_0 45 rfl) rfl rfl ⟨_, rfl, ?_⟩
        subst c42
        have e1 : opU v true (1 - r) σ = (false, (fImg (1 - r) true (payS σ) (nS σ) v σ).2) := by
          unfold opU; rw [sq_n (f := fImg (1 - r) true (payS σ) (nS σ) v) (pr_e c66)]
        have he := (fUpd_0 (thr := true) herr hr er).trans (endU_f e1)
        exact ⟨congrArg Prod.fst he, rfl, by rw [he]; exact hR45, (FF.tr (FF.tr (FF.uf (hF6.mo (by decide) (by decide)) (by decide)) (hF14.mo (by decide) (by decide))) (hF43.mo (by decide) (by decide)))⟩
      · have c66 := bi_t c66
        have hR47 : RelW (I38 (m + 1)) ((fImg (1 - r) true (payS σ) (nS σ) v σ).2) := by rw [c66] at hR42; exact hR42
        have hC48 : I38 m 23 = 0 := by rw [c66] at hC44; exact hC44
        refine rc_p (p_aload_n 4 (dk_at ktX7_updates_0 39 rfl) rfl rfl (b := 70) rfl) ?_
        refine rc_p (p_iconst (v := 3) (dk_at ktX7_updates_0 40 rfl) (by decide) (b := 71) rfl) ?_
        refine rc_p (p_iload 1 (dk_at ktX7_updates_0 41 rfl) rfl (b := 73) rfl) ?_
        refine r_iV (As' := [.int 3, .int (nI (1 - r))]) (rest := []) (s_X7_appends hm (σ := ((fImg (1 - r) true (payS σ) (nS σ) v σ).2)) hR47 (Inv.img hI (by omega) (by omega)) hC48 3 (by decide) (nI (1 - r))) cw_X7_307 qi_X7_appends qv_X7_appends rfl hm.l0 hm.s0 (dk_at ktX7_updates_0 42 rfl) rfl rfl (Nat.le_of_ble_eq_true rfl) (by decide) (b := 76) rfl (fun v52 I49 J50 q51 => ?_)
        obtain ⟨rfl, rfl, hR53, hF54, hC55⟩ := q51
        refine r_if_ne (dk_at ktX7_updates_0 43 rfl) (b := 82) (by decide) (b2 := 79) rfl (fun c76 => ?_) (fun c76 => ?_)
        · have c76 := bi_t c76
          have hR56 : RelW (I49 (m + 1)) ((fApp 3 (nI (1 - r)) ((fImg (1 - r) true (payS σ) (nS σ) v σ).2)).2) := by rw [c76] at hR53; exact hR53
          have hC57 : I49 m 23 = 0 := by rw [c76] at hC55; exact hC55
          refine rc_p (p_aload_n 4 (dk_at ktX7_updates_0 46 rfl) rfl rfl (b := 83) rfl) ?_
          refine r_geta fl_X7_9 rfl hm.l0 hm.s0 (dk_at ktX7_updates_0 47 rfl) hm.g0_0 (b := 86) rfl ?_
          refine rc_p (p_iconst (v := 4) (dk_at ktX7_updates_0 48 rfl) (by decide) (b := 87) rfl) ?_
          refine rc_p (p_iconst (v := 0) (dk_at ktX7_updates_0 49 rfl) (by decide) (b := 88) rfl) ?_
          refine r_iast (j := 4) (hm.lt 1 (by decide)) hm.s1 (dk_at ktX7_updates_0 50 rfl) rfl ⟨by decide, by decide⟩ (b := 89) rfl ?_
          refine rc_p (p_aload_n 4 (dk_at ktX7_updates_0 51 rfl) rfl rfl (b := 90) rfl) ?_
          refine r_geta fl_X7_9 rfl hm.l0 hm.s0 (dk_at ktX7_updates_0 52 rfl) hm.g0_0 (b := 93) rfl ?_
          refine rc_p (p_bipush (v := 9) (dk_at ktX7_updates_0 53 rfl) (by decide) (b := 95) rfl) ?_
          refine r_iald (j := 9) (hm.lt 1 (by decide)) hm.s1 (dk_at ktX7_updates_0 54 rfl) rfl ⟨by decide, by decide⟩ (v := (((fApp 3 (nI (1 - r)) ((fImg (1 - r) true (payS σ) (nS σ) v σ).2)).2) 9)) ((up2_n (by omega)).trans (hR56.1 9 (by decide))) (b := 96) rfl ?_
          refine rc_p (p_iload 2 (dk_at ktX7_updates_0 55 rfl) rfl (b := 98) rfl) ?_
          refine rc_p (p_isub (v := ((((fApp 3 (nI (1 - r)) ((fImg (1 - r) true (payS σ) (nS σ) v σ).2)).2) 9) - (σ 9))) (dk_at ktX7_updates_0 56 rfl) rfl (b := 99) rfl) ?_
          refine r_iret (dk_at ktX7_updates_0 57 rfl) rfl rfl ⟨_, rfl, ?_⟩
          subst c42
          have e1 : opU v true (1 - r) σ = (true, (fApp 3 (nI (1 - r)) (fImg (1 - r) true (payS σ) (nS σ) v σ).2).2) := by
            unfold opU; rw [sq_e (f := fImg (1 - r) true (payS σ) (nS σ) v) (pr_e c66)]; exact pr_e c76
          have he := (fUpd_0 (thr := true) herr hr er).trans (endU_t e1)
          exact ⟨congrArg Prod.fst he, rfl, by rw [he]; exact (by rw [up2_row]; exact RelW.up hR56 (by first | decide | omega) (by first | decide | omega)), (FF.ua (FF.tr (FF.tr (FF.tr (FF.uf (hF6.mo (by decide) (by decide)) (by decide)) (hF14.mo (by decide) (by decide))) (hF43.mo (by decide) (by decide))) (hF54.mo (by decide) (by decide))) (by decide) (by decide))⟩
        · have c76 := bi_f c76
          have hR58 : RelW (I49 (m + 1)) (sCut ((fApp 3 (nI (1 - r)) ((fImg (1 - r) true (payS σ) (nS σ) v σ).2)).2)) := by rw [c76] at hR53; exact hR53
          have hC59 : I49 m 23 = 1 := by rw [c76] at hC55; exact hC55
          refine rc_p (p_bipush (v := (-4)) (dk_at ktX7_updates_0 44 rfl) (by decide) (b := 81) rfl) ?_
          refine r_iret (dk_at ktX7_updates_0 45 rfl) rfl rfl ⟨_, rfl, ?_⟩
          subst c42
          have e1 : opU v true (1 - r) σ = (false, (fApp 3 (nI (1 - r)) (fImg (1 - r) true (payS σ) (nS σ) v σ).2).2) := by
            unfold opU; rw [sq_e (f := fImg (1 - r) true (payS σ) (nS σ) v) (pr_e c66)]; exact pr_e c76
          have he := (fUpd_0 (thr := true) herr hr er).trans (endU_f e1)
          exact ⟨congrArg Prod.fst he, rfl, by rw [he]; exact hR58, (FF.tr (FF.tr (FF.tr (FF.uf (hF6.mo (by decide) (by decide)) (by decide)) (hF14.mo (by decide) (by decide))) (hF43.mo (by decide) (by decide))) (hF54.mo (by decide) (by decide)))⟩
  · skip
    refine rc_p (p_iload_n 0 (dk_at ktX7_updates_0 6 rfl) rfl rfl (b := 11) rfl) ?_
    refine r_iret (dk_at ktX7_updates_0 7 rfl) rfl rfl ⟨_, rfl, ?_⟩
    have he := fUpd_e (thr := thr) (show ¬ errU v σ = 0 by rw [ee8]; exact c7)
    exact ⟨(congrArg Prod.fst he).trans ee8, rfl, by rw [he]; exact hR7, (hF6.mo (by decide) (by decide))⟩
set_option maxRecDepth 4000 in
set_option maxHeartbeats 4000000 in
theorem s_X7_confirms {n : Nat} {sh : mS} {G : mG} {I : mI} {J : mJ} {m : Nat} {σ : sT} (hm : ModG n sh G m) (hR : RelW (I (m + 1)) σ) (hI : Inv σ)  : Sp yX7_confirms cX7_confirms 3 (some FieldType.int) 8 384 0 0 [.ref m] n sh G I J (Qi (fun r_ I_ J_ => (fCon σ).1 = r_ ∧ J = J_ ∧ RelW (I_ (m + 1)) (fCon σ).2 ∧ FF m [1] [18, 19, 20, 21, 22, 23, 24] I I_)) nX := by
  refine Sp.of (by decide) (ls := [(0, .ref m)]) (fun _ => rfl) (fun _ => Nat.le_of_ble_eq_true rfl) ?_
  have hb := hI.bd
  refine rc_p (p_aload_n 0 (dk_at ktX7_confirms_0 0 rfl) rfl rfl (b := 1) rfl) ?_
  refine r_vV (As' := []) (rest := []) (s_X7_tells hm (σ := σ) hR hI) cw_X7_255 qi_X7_tells qv_X7_tells rfl hm.l0 hm.s0 (dk_at ktX7_confirms_0 1 rfl) rfl rfl (Nat.le_of_ble_eq_true rfl) (by decide) (b := 4) rfl (fun I1 J2 q3 => ?_)
  obtain ⟨rfl, hR7, hT5, hF6⟩ := q3
  refine rc_p (p_aload_n 0 (dk_at ktX7_confirms_0 2 rfl) rfl rfl (b := 5) rfl) ?_
  refine r_geta fl_X7_9 rfl hm.l0 hm.s0 (dk_at ktX7_confirms_0 3 rfl) hm.g0_0 (b := 8) rfl ?_
  refine rc_p (p_bipush (v := 7) (dk_at ktX7_confirms_0 4 rfl) (by decide) (b := 10) rfl) ?_
  refine r_iald (j := 7) (hm.lt 1 (by decide)) hm.s1 (dk_at ktX7_confirms_0 5 rfl) rfl ⟨by decide, by decide⟩ (v := (σ 7)) (hR7.1 7 (by decide)) (b := 11) rfl ?_
  refine rc_p (p_iconst (v := 1) (dk_at ktX7_confirms_0 6 rfl) (by decide) (b := 12) rfl) ?_
  refine r_icmp_ne (dk_at ktX7_confirms_0 7 rfl) (b := 29) (by decide) (b2 := 15) rfl (fun c12 => ?_) (fun c12 => ?_)
  · skip
    refine rc_p (p_bipush (v := (-3)) (dk_at ktX7_confirms_0 15 rfl) (by decide) (b := 31) rfl) ?_
    refine r_iret (dk_at ktX7_confirms_0 16 rfl) rfl rfl ⟨_, rfl, ?_⟩
    have he := fCon_n (σ := σ) (fun q => c12 q.1)
    exact ⟨congrArg Prod.fst he, rfl, by rw [he]; exact hR7, (hF6.mo (by decide) (by decide))⟩
  · skip
    obtain ⟨r, hr, er⟩ := hI.2.2.1.run c12
    refine rc_p (p_aload_n 0 (dk_at ktX7_confirms_0 8 rfl) rfl rfl (b := 16) rfl) ?_
    refine r_geti fl_X7_235 rfl hm.l0 hm.s0 (dk_at ktX7_confirms_0 9 rfl) (v := ((told σ) 2)) (hT5 2 (by decide)) (b := 19) rfl ?_
    refine rc_p (p_aload_n 0 (dk_at ktX7_confirms_0 10 rfl) rfl rfl (b := 20) rfl) ?_
    refine r_geta fl_X7_9 rfl hm.l0 hm.s0 (dk_at ktX7_confirms_0 11 rfl) hm.g0_0 (b := 23) rfl ?_
    refine rc_p (p_bipush (v := 8) (dk_at ktX7_confirms_0 12 rfl) (by decide) (b := 25) rfl) ?_
    refine r_iald (j := 8) (hm.lt 1 (by decide)) hm.s1 (dk_at ktX7_confirms_0 13 rfl) rfl ⟨by decide, by decide⟩ (v := (nI r)) ((hR7.1 8 (by decide)).trans er) (b := 26) rfl ?_
    refine r_icmp_eq (dk_at ktX7_confirms_0 14 rfl) (b := 32) (by decide) (b2 := 29) rfl (fun c26 => ?_) (fun c26 => ?_)
    · skip
      refine rc_p (p_aload_n 0 (dk_at ktX7_confirms_0 17 rfl) rfl rfl (b := 33) rfl) ?_
      refine rc_p (p_iconst (v := 0) (dk_at ktX7_confirms_0 18 rfl) (by decide) (b := 34) rfl) ?_
      refine r_puti fl_X7_258 fw_X7_23 rfl hm.l0 hm.s0 rfl rfl (dk_at ktX7_confirms_0 19 rfl) (b := 37) rfl ?_
      refine rc_p (p_aload_n 0 (dk_at ktX7_confirms_0 20 rfl) rfl rfl (b := 38) rfl) ?_
      refine r_geta fl_X7_9 rfl hm.l0 hm.s0 (dk_at ktX7_confirms_0 21 rfl) hm.g0_0 (b := 41) rfl ?_
      refine rc_p (p_aload_n 0 (dk_at ktX7_confirms_0 22 rfl) rfl rfl (b := 42) rfl) ?_
      refine r_geta fl_X7_9 rfl hm.l0 hm.s0 (dk_at ktX7_confirms_0 23 rfl) hm.g0_0 (b := 45) rfl ?_
      refine rc_p (p_bipush (v := 8) (dk_at ktX7_confirms_0 24 rfl) (by decide) (b := 47) rfl) ?_
      refine r_iald (j := 8) (hm.lt 1 (by decide)) hm.s1 (dk_at ktX7_confirms_0 25 rfl) rfl ⟨by decide, by decide⟩ (v := (nI r)) ((up2_n (by omega)).trans ((hR7.1 8 (by decide)).trans er)) (b := 48) rfl ?_
      refine r_iS (As := [.int (nI r)]) (rest := [.ref (m + 1)]) (s_X7_slotAt r) cw_X7_197 qs_X7_slotAt (dk_at ktX7_confirms_0 26 rfl) rfl rfl (Nat.le_of_ble_eq_true rfl) (by decide) (b := 51) rfl (fun v11 I8 J9 q10 => ?_)
      obtain ⟨rfl, rfl, rfl⟩ := q10
      refine r_iald (j := 83 + 64 * r) (hm.lt 1 (by decide)) hm.s1 (dk_at ktX7_confirms_0 27 rfl) rfl ⟨by omega, by decide⟩ (v := (σ (83 + 64 * r))) ((up2_n (by omega)).trans (hR7.1 (83 + 64 * r) (by omega))) (b := 52) rfl ?_
      refine rc_p (p_istore_n (ls' := [(1, .int (σ (83 + 64 * r))), (0, .ref m)]) (dk_at ktX7_confirms_0 28 rfl) rfl (by decide) rfl (b := 53) rfl) ?_
      refine rc_p (p_iload_n 0 (dk_at ktX7_confirms_0 29 rfl) rfl rfl (b := 54) rfl) ?_
      refine rc_p (p_aload_n 1 (dk_at ktX7_confirms_0 30 rfl) rfl rfl (b := 55) rfl) ?_
      refine r_geti fl_X7_230 rfl hm.l0 hm.s0 (dk_at ktX7_confirms_0 31 rfl) (v := ((told σ) 0)) ((up2_n (by omega)).trans (hT5 0 (by decide))) (b := 58) rfl ?_
      refine r_icmp_le (dk_at ktX7_confirms_0 32 rfl) (b := 65) (by decide) (b2 := 61) rfl (fun c58 => ?_) (fun c58 => ?_)
      · skip
        refine rc_p (p_iconst (v := 0) (dk_at ktX7_confirms_0 35 rfl) (by decide) (b := 66) rfl) ?_
        refine rc_p (p_istore_n (ls' := [(2, .int 0), (1, .int (σ (83 + 64 * r))), (0, .ref m)]) (dk_at ktX7_confirms_0 36 rfl) rfl (by decide) rfl (b := 67) rfl) ?_
        refine rc_p (p_aload_n 2 (dk_at ktX7_confirms_0 37 rfl) rfl rfl (b := 68) rfl) ?_
        refine rc_p (p_iconst (v := 2) (dk_at ktX7_confirms_0 38 rfl) (by decide) (b := 69) rfl) ?_
        refine rc_p (p_aload_n 2 (dk_at ktX7_confirms_0 39 rfl) rfl rfl (b := 70) rfl) ?_
        refine r_geta fl_X7_9 rfl hm.l0 hm.s0 (dk_at ktX7_confirms_0 40 rfl) hm.g0_0 (b := 73) rfl ?_
        refine rc_p (p_bipush (v := 8) (dk_at ktX7_confirms_0 41 rfl) (by decide) (b := 75) rfl) ?_
        refine r_iald (j := 8) (hm.lt 1 (by decide)) hm.s1 (dk_at ktX7_confirms_0 42 rfl) rfl ⟨by decide, by decide⟩ (v := (nI r)) ((up2_n (by omega)).trans ((hR7.1 8 (by decide)).trans er)) (b := 76) rfl ?_
        refine r_iV (As' := [.int 2, .int (nI r)]) (rest := []) (s_X7_appends hm (σ := σ) (by rw [up2_off (by omega)]; exact hR7) hI up2_s 2 (by decide) (nI r)) cw_X7_307 qi_X7_appends qv_X7_appends rfl hm.l0 hm.s0 (dk_at ktX7_confirms_0 43 rfl) rfl rfl (Nat.le_of_ble_eq_true rfl) (by decide) (b := 79) rfl (fun v15 I12 J13 q14 => ?_)
        obtain ⟨rfl, rfl, hR16, hF17, hC18⟩ := q14
        refine r_if_eq (dk_at ktX7_confirms_0 44 rfl) (b := 95) (by decide) (b2 := 82) rfl (fun c79 => ?_) (fun c79 => ?_)
        · have c79 := bi_f c79
          have hR19 : RelW (I12 (m + 1)) (sCut ((fApp 2 (nI r) σ).2)) := by rw [c79] at hR16; exact hR16
          have hC20 : I12 m 23 = 1 := by rw [c79] at hC18; exact hC18
          refine rc_p (p_bipush (v := (-4)) (dk_at ktX7_confirms_0 52 rfl) (by decide) (b := 97) rfl) ?_
          refine r_iret (dk_at ktX7_confirms_0 53 rfl) rfl rfl ⟨_, rfl, ?_⟩
          have e1 : opC (σ (83 + 64 * r)) r σ = (false, (fApp 2 (nI r) σ).2) := by
            unfold opC; rw [sq_n (f := fApp 2 (nI r)) (pr_e c79)]
          have he := (fCon_y ⟨c12, c26.trans er.symm⟩ hr er).trans (let_f e1)
          exact ⟨congrArg Prod.fst he, rfl, by rw [he]; exact hR19, (FF.tr (FF.uf (hF6.mo (by decide) (by decide)) (by decide)) (hF17.mo (by decide) (by decide)))⟩
        · have c79 := bi_t c79
          have hR21 : RelW (I12 (m + 1)) ((fApp 2 (nI r) σ).2) := by rw [c79] at hR16; exact hR16
          have hC22 : I12 m 23 = 0 := by rw [c79] at hC18; exact hC18
          refine rc_p (p_iload_n 0 (dk_at ktX7_confirms_0 45 rfl) rfl rfl (b := 83) rfl) ?_
          refine r_if_eq (dk_at ktX7_confirms_0 46 rfl) (b := 98) (by decide) (b2 := 86) rfl (fun c83 => ?_) (fun c83 => ?_)
          · skip
            refine rc_p (p_aload_n 2 (dk_at ktX7_confirms_0 54 rfl) rfl rfl (b := 99) rfl) ?_
            refine r_vV (As' := []) (rest := []) (s_X7_tells hm (σ := ((fApp 2 (nI r) σ).2)) hR21 (Inv.app hI)) cw_X7_255 qi_X7_tells qv_X7_tells rfl hm.l0 hm.s0 (dk_at ktX7_confirms_0 55 rfl) rfl rfl (Nat.le_of_ble_eq_true rfl) (by decide) (b := 102) rfl (fun I23 J24 q25 => ?_)
            obtain ⟨rfl, hR29, hT27, hF28⟩ := q25
            refine rc_p (p_aload_n 2 (dk_at ktX7_confirms_0 56 rfl) rfl rfl (b := 103) rfl) ?_
            refine r_geti fl_X7_230 rfl hm.l0 hm.s0 (dk_at ktX7_confirms_0 57 rfl) (v := ((told ((fApp 2 (nI r) σ).2)) 0)) (hT27 0 (by decide)) (b := 106) rfl ?_
            refine r_iret (dk_at ktX7_confirms_0 58 rfl) rfl rfl ⟨_, rfl, ?_⟩
            have e1 : opC (σ (83 + 64 * r)) r σ = (true, (fApp 2 (nI r) σ).2) := by
              unfold opC; rw [sq_e (f := fApp 2 (nI r)) (pr_e c79), if_neg (Int32.not_lt.mpr c58)]; rfl
            have he := (fCon_y ⟨c12, c26.trans er.symm⟩ hr er).trans (letc_t e1)
            exact ⟨congrArg Prod.fst he, rfl, by rw [he]; exact hR29, (FF.tr (FF.tr (FF.uf (hF6.mo (by decide) (by decide)) (by decide)) (hF17.mo (by decide) (by decide))) (hF28.mo (by decide) (by decide)))⟩
          · first | exact absurd c83 (by decide) | exact absurd (by decide) c83
      · skip
        refine rc_p (p_iconst (v := 1) (dk_at ktX7_confirms_0 33 rfl) (by decide) (b := 62) rfl) ?_
        refine rc_p (p_goto (b := 66) (dk_at ktX7_confirms_0 34 rfl) (by decide)) ?_
        refine rc_p (p_istore_n (ls' := [(2, .int 1), (1, .int (σ (83 + 64 * r))), (0, .ref m)]) (dk_at ktX7_confirms_0 36 rfl) rfl (by decide) rfl (b := 67) rfl) ?_
        refine rc_p (p_aload_n 2 (dk_at ktX7_confirms_0 37 rfl) rfl rfl (b := 68) rfl) ?_
        refine rc_p (p_iconst (v := 2) (dk_at ktX7_confirms_0 38 rfl) (by decide) (b := 69) rfl) ?_
        refine rc_p (p_aload_n 2 (dk_at ktX7_confirms_0 39 rfl) rfl rfl (b := 70) rfl) ?_
        refine r_geta fl_X7_9 rfl hm.l0 hm.s0 (dk_at ktX7_confirms_0 40 rfl) hm.g0_0 (b := 73) rfl ?_
        refine rc_p (p_bipush (v := 8) (dk_at ktX7_confirms_0 41 rfl) (by decide) (b := 75) rfl) ?_
        refine r_iald (j := 8) (hm.lt 1 (by decide)) hm.s1 (dk_at ktX7_confirms_0 42 rfl) rfl ⟨by decide, by decide⟩ (v := (nI r)) ((up2_n (by omega)).trans ((hR7.1 8 (by decide)).trans er)) (b := 76) rfl ?_
        refine r_iV (As' := [.int 2, .int (nI r)]) (rest := []) (s_X7_appends hm (σ := σ) (by rw [up2_off (by omega)]; exact hR7) hI up2_s 2 (by decide) (nI r)) cw_X7_307 qi_X7_appends qv_X7_appends rfl hm.l0 hm.s0 (dk_at ktX7_confirms_0 43 rfl) rfl rfl (Nat.le_of_ble_eq_true rfl) (by decide) (b := 79) rfl (fun v33 I30 J31 q32 => ?_)
        obtain ⟨rfl, rfl, hR34, hF35, hC36⟩ := q32
        refine r_if_eq (dk_at ktX7_confirms_0 44 rfl) (b := 95) (by decide) (b2 := 82) rfl (fun c79 => ?_) (fun c79 => ?_)
        · have c79 := bi_f c79
          have hR37 : RelW (I30 (m + 1)) (sCut ((fApp 2 (nI r) σ).2)) := by rw [c79] at hR34; exact hR34
          have hC38 : I30 m 23 = 1 := by rw [c79] at hC36; exact hC36
          refine rc_p (p_bipush (v := (-4)) (dk_at ktX7_confirms_0 52 rfl) (by decide) (b := 97) rfl) ?_
          refine r_iret (dk_at ktX7_confirms_0 53 rfl) rfl rfl ⟨_, rfl, ?_⟩
          have e1 : opC (σ (83 + 64 * r)) r σ = (false, (fApp 2 (nI r) σ).2) := by
            unfold opC; rw [sq_n (f := fApp 2 (nI r)) (pr_e c79)]
          have he := (fCon_y ⟨c12, c26.trans er.symm⟩ hr er).trans (let_f e1)
          exact ⟨congrArg Prod.fst he, rfl, by rw [he]; exact hR37, (FF.tr (FF.uf (hF6.mo (by decide) (by decide)) (by decide)) (hF35.mo (by decide) (by decide)))⟩
        · have c79 := bi_t c79
          have hR39 : RelW (I30 (m + 1)) ((fApp 2 (nI r) σ).2) := by rw [c79] at hR34; exact hR34
          have hC40 : I30 m 23 = 0 := by rw [c79] at hC36; exact hC36
          refine rc_p (p_iload_n 0 (dk_at ktX7_confirms_0 45 rfl) rfl rfl (b := 83) rfl) ?_
          refine r_if_eq (dk_at ktX7_confirms_0 46 rfl) (b := 98) (by decide) (b2 := 86) rfl (fun c83 => ?_) (fun c83 => ?_)
          · first | exact absurd c83 (by decide) | exact absurd (by decide) c83
          · skip
            refine rc_p (p_aload_n 2 (dk_at ktX7_confirms_0 47 rfl) rfl rfl (b := 87) rfl) ?_
            refine rc_p (p_iconst (v := 1) (dk_at ktX7_confirms_0 48 rfl) (by decide) (b := 88) rfl) ?_
            refine rc_p (p_iload_n 1 (dk_at ktX7_confirms_0 49 rfl) rfl rfl (b := 89) rfl) ?_
            refine r_iV (As' := [.int 1, .int (σ (83 + 64 * r))]) (rest := []) (s_X7_appends hm (σ := ((fApp 2 (nI r) σ).2)) hR39 (Inv.app hI) hC40 1 (by decide) (σ (83 + 64 * r))) cw_X7_307 qi_X7_appends qv_X7_appends rfl hm.l0 hm.s0 (dk_at ktX7_confirms_0 50 rfl) rfl rfl (Nat.le_of_ble_eq_true rfl) (by decide) (b := 92) rfl (fun v44 I41 J42 q43 => ?_)
            obtain ⟨rfl, rfl, hR45, hF46, hC47⟩ := q43
            refine r_if_ne (dk_at ktX7_confirms_0 51 rfl) (b := 98) (by decide) (b2 := 95) rfl (fun c92 => ?_) (fun c92 => ?_)
            · have c92 := bi_t c92
              have hR48 : RelW (I41 (m + 1)) ((fApp 1 (σ (83 + 64 * r)) ((fApp 2 (nI r) σ).2)).2) := by rw [c92] at hR45; exact hR45
              have hC49 : I41 m 23 = 0 := by rw [c92] at hC47; exact hC47
              refine rc_p (p_aload_n 2 (dk_at ktX7_confirms_0 54 rfl) rfl rfl (b := 99) rfl) ?_
              refine r_vV (As' := []) (rest := []) (s_X7_tells hm (σ := ((fApp 1 (σ (83 + 64 * r)) ((fApp 2 (nI r) σ).2)).2)) hR48 (Inv.app (Inv.app hI))) cw_X7_255 qi_X7_tells qv_X7_tells rfl hm.l0 hm.s0 (dk_at ktX7_confirms_0 55 rfl) rfl rfl (Nat.le_of_ble_eq_true rfl) (by decide) (b := 102) rfl (fun I50 J51 q52 => ?_)
              obtain ⟨rfl, hR56, hT54, hF55⟩ := q52
              refine rc_p (p_aload_n 2 (dk_at ktX7_confirms_0 56 rfl) rfl rfl (b := 103) rfl) ?_
              refine r_geti fl_X7_230 rfl hm.l0 hm.s0 (dk_at ktX7_confirms_0 57 rfl) (v := ((told ((fApp 1 (σ (83 + 64 * r)) ((fApp 2 (nI r) σ).2)).2)) 0)) (hT54 0 (by decide)) (b := 106) rfl ?_
              refine r_iret (dk_at ktX7_confirms_0 58 rfl) rfl rfl ⟨_, rfl, ?_⟩
              have e1 : opC (σ (83 + 64 * r)) r σ = (true, (fApp 1 (σ (83 + 64 * r)) (fApp 2 (nI r) σ).2).2) := by
                unfold opC; rw [sq_e (f := fApp 2 (nI r)) (pr_e c79), if_pos (Int32.not_le.mp c58)]; exact pr_e c92
              have he := (fCon_y ⟨c12, c26.trans er.symm⟩ hr er).trans (letc_t e1)
              exact ⟨congrArg Prod.fst he, rfl, by rw [he]; exact hR56, (FF.tr (FF.tr (FF.tr (FF.uf (hF6.mo (by decide) (by decide)) (by decide)) (hF35.mo (by decide) (by decide))) (hF46.mo (by decide) (by decide))) (hF55.mo (by decide) (by decide)))⟩
            · have c92 := bi_f c92
              have hR57 : RelW (I41 (m + 1)) (sCut ((fApp 1 (σ (83 + 64 * r)) ((fApp 2 (nI r) σ).2)).2)) := by rw [c92] at hR45; exact hR45
              have hC58 : I41 m 23 = 1 := by rw [c92] at hC47; exact hC47
              refine rc_p (p_bipush (v := (-4)) (dk_at ktX7_confirms_0 52 rfl) (by decide) (b := 97) rfl) ?_
              refine r_iret (dk_at ktX7_confirms_0 53 rfl) rfl rfl ⟨_, rfl, ?_⟩
              have e1 : opC (σ (83 + 64 * r)) r σ = (false, (fApp 1 (σ (83 + 64 * r)) (fApp 2 (nI r) σ).2).2) := by
                unfold opC; rw [sq_e (f := fApp 2 (nI r)) (pr_e c79), if_pos (Int32.not_le.mp c58)]; exact pr_e c92
              have he := (fCon_y ⟨c12, c26.trans er.symm⟩ hr er).trans (let_f e1)
              exact ⟨congrArg Prod.fst he, rfl, by rw [he]; exact hR57, (FF.tr (FF.tr (FF.uf (hF6.mo (by decide) (by decide)) (by decide)) (hF35.mo (by decide) (by decide))) (hF46.mo (by decide) (by decide)))⟩
    · skip
      refine rc_p (p_bipush (v := (-3)) (dk_at ktX7_confirms_0 15 rfl) (by decide) (b := 31) rfl) ?_
      refine r_iret (dk_at ktX7_confirms_0 16 rfl) rfl rfl ⟨_, rfl, ?_⟩
      have he := fCon_n (σ := σ) (fun q => c26 (q.2.trans er))
      exact ⟨congrArg Prod.fst he, rfl, by rw [he]; exact hR7, (hF6.mo (by decide) (by decide))⟩

/-! THE REFERENCE: updates, mirrors, confirmations -/
set_option maxRecDepth 4000 in
set_option maxHeartbeats 4000000 in
theorem s_X7_runsGood {n : Nat} {sh : mS} {G : mG} {I : mI} {J : mJ} {m : Nat} {σ : sT} (hm : ModG n sh G m) (hR : RelW (I (m + 1)) σ) (hI : Inv σ)  : Sp yX7_runsGood cX7_runsGood 1 (some FieldType.boolean) 6 288 0 0 [.ref m] n sh G I J (Qi (fun r_ I_ J_ => bi (goodB σ) = r_ ∧ J = J_ ∧ RelW (I_ (m + 1)) σ ∧ (∀ j, j < 5 → I_ m (18 + j) = told σ j) ∧ FF m [] [18, 19, 20, 21, 22] I I_)) nX := by
  refine Sp.of (by decide) (ls := [(0, .ref m)]) (fun _ => rfl) (fun _ => Nat.le_of_ble_eq_true rfl) ?_
  refine rc_p (p_aload_n 0 (dk_at ktX7_runsGood_0 0 rfl) rfl rfl (b := 1) rfl) ?_
  refine r_vV (As' := []) (rest := []) (s_X7_tells hm (σ := σ) hR hI) cw_X7_255 qi_X7_tells qv_X7_tells rfl hm.l0 hm.s0 (dk_at ktX7_runsGood_0 1 rfl) rfl rfl (Nat.le_of_ble_eq_true rfl) (by decide) (b := 4) rfl (fun I1 J2 q3 => ?_)
  obtain ⟨rfl, hR7, hT5, hF6⟩ := q3
  refine rc_p (p_aload_n 0 (dk_at ktX7_runsGood_0 2 rfl) rfl rfl (b := 5) rfl) ?_
  refine r_geta fl_X7_9 rfl hm.l0 hm.s0 (dk_at ktX7_runsGood_0 3 rfl) hm.g0_0 (b := 8) rfl ?_
  refine rc_p (p_bipush (v := 7) (dk_at ktX7_runsGood_0 4 rfl) (by decide) (b := 10) rfl) ?_
  refine r_iald (j := 7) (hm.lt 1 (by decide)) hm.s1 (dk_at ktX7_runsGood_0 5 rfl) rfl ⟨by decide, by decide⟩ (v := (σ 7)) (hR7.1 7 (by decide)) (b := 11) rfl ?_
  refine rc_p (p_iconst (v := 1) (dk_at ktX7_runsGood_0 6 rfl) (by decide) (b := 12) rfl) ?_
  refine r_icmp_ne (dk_at ktX7_runsGood_0 7 rfl) (b := 33) (by decide) (b2 := 15) rfl (fun c12 => ?_) (fun c12 => ?_)
  · skip
    refine rc_p (p_iconst (v := 0) (dk_at ktX7_runsGood_0 17 rfl) (by decide) (b := 34) rfl) ?_
    refine r_iret (dk_at ktX7_runsGood_0 18 rfl) rfl rfl ⟨_, rfl, ?_⟩
    refine ⟨?_, rfl, hR7, hT5, hF6⟩
    simp_all [goodB, bi]
  · skip
    refine rc_p (p_aload_n 0 (dk_at ktX7_runsGood_0 8 rfl) rfl rfl (b := 16) rfl) ?_
    refine r_geti fl_X7_240 rfl hm.l0 hm.s0 (dk_at ktX7_runsGood_0 9 rfl) (v := ((told σ) 1)) (hT5 1 (by decide)) (b := 19) rfl ?_
    refine rc_p (p_aload_n 0 (dk_at ktX7_runsGood_0 10 rfl) rfl rfl (b := 20) rfl) ?_
    refine r_geta fl_X7_9 rfl hm.l0 hm.s0 (dk_at ktX7_runsGood_0 11 rfl) hm.g0_0 (b := 23) rfl ?_
    refine rc_p (p_bipush (v := 8) (dk_at ktX7_runsGood_0 12 rfl) (by decide) (b := 25) rfl) ?_
    refine r_iald (j := 8) (hm.lt 1 (by decide)) hm.s1 (dk_at ktX7_runsGood_0 13 rfl) rfl ⟨by decide, by decide⟩ (v := (σ 8)) (hR7.1 8 (by decide)) (b := 26) rfl ?_
    refine r_icmp_ne (dk_at ktX7_runsGood_0 14 rfl) (b := 33) (by decide) (b2 := 29) rfl (fun c26 => ?_) (fun c26 => ?_)
    · skip
      refine rc_p (p_iconst (v := 0) (dk_at ktX7_runsGood_0 17 rfl) (by decide) (b := 34) rfl) ?_
      refine r_iret (dk_at ktX7_runsGood_0 18 rfl) rfl rfl ⟨_, rfl, ?_⟩
      refine ⟨?_, rfl, hR7, hT5, hF6⟩
      simp_all [goodB, bi]
    · skip
      refine rc_p (p_iconst (v := 1) (dk_at ktX7_runsGood_0 15 rfl) (by decide) (b := 30) rfl) ?_
      refine rc_p (p_goto (b := 34) (dk_at ktX7_runsGood_0 16 rfl) (by decide)) ?_
      refine r_iret (dk_at ktX7_runsGood_0 18 rfl) rfl rfl ⟨_, rfl, ?_⟩
      refine ⟨?_, rfl, hR7, hT5, hF6⟩
      simp_all [goodB, bi]
set_option maxRecDepth 4000 in
set_option maxHeartbeats 4000000 in
theorem s_X7_errorOf {n : Nat} {sh : mS} {G : mG} {I : mI} {J : mJ} {m : Nat} {σ : sT} (hm : ModG n sh G m) (hR : RelW (I (m + 1)) σ) (hI : Inv σ) (v : Int32) : Sp yX7_errorOf cX7_errorOf 2 (some FieldType.int) 7 336 0 0 [.ref m, .int v] n sh G I J (Qi (fun r_ I_ J_ => errU v σ = r_ ∧ J = J_ ∧ RelW (I_ (m + 1)) σ ∧ (∀ j, j < 5 → I_ m (18 + j) = told σ j) ∧ FF m [] [18, 19, 20, 21, 22] I I_)) nX := by
  refine Sp.of (by decide) (ls := [(0, .ref m), (1, .int v)]) (fun _ => rfl) (fun _ => Nat.le_of_ble_eq_true rfl) ?_
  refine rc_p (p_aload_n 0 (dk_at ktX7_errorOf_0 0 rfl) rfl rfl (b := 1) rfl) ?_
  refine r_iV (As' := []) (rest := []) (s_X7_runsGood hm (σ := σ) hR hI) cw_X7_337 qi_X7_runsGood qv_X7_runsGood rfl hm.l0 hm.s0 (dk_at ktX7_errorOf_0 1 rfl) rfl rfl (Nat.le_of_ble_eq_true rfl) (by decide) (b := 4) rfl (fun v4 I1 J2 q3 => ?_)
  obtain ⟨rfl, rfl, hR7, hT5, hF6⟩ := q3
  refine r_if_eq (dk_at ktX7_errorOf_0 2 rfl) (b := 16) (by decide) (b2 := 7) rfl (fun c4 => ?_) (fun c4 => ?_)
  · have c4 := bi_f c4
    refine rc_p (p_bipush (v := (-3)) (dk_at ktX7_errorOf_0 8 rfl) (by decide) (b := 18) rfl) ?_
    refine r_iret (dk_at ktX7_errorOf_0 9 rfl) rfl rfl ⟨_, rfl, ?_⟩
    refine ⟨?_, rfl, hR7, hT5, hF6⟩
    unfold errU
    simp_all [goodB, ← Int32.not_le]
  · have c4 := bi_t c4
    refine rc_p (p_aload_n 0 (dk_at ktX7_errorOf_0 3 rfl) rfl rfl (b := 8) rfl) ?_
    refine r_geta fl_X7_9 rfl hm.l0 hm.s0 (dk_at ktX7_errorOf_0 4 rfl) hm.g0_0 (b := 11) rfl ?_
    refine rc_p (p_iconst (v := 4) (dk_at ktX7_errorOf_0 5 rfl) (by decide) (b := 12) rfl) ?_
    refine r_iald (j := 4) (hm.lt 1 (by decide)) hm.s1 (dk_at ktX7_errorOf_0 6 rfl) rfl ⟨by decide, by decide⟩ (v := (σ 4)) (hR7.1 4 (by decide)) (b := 13) rfl ?_
    refine r_if_ne (dk_at ktX7_errorOf_0 7 rfl) (b := 19) (by decide) (b2 := 16) rfl (fun c13 => ?_) (fun c13 => ?_)
    · skip
      refine rc_p (p_iload_n 1 (dk_at ktX7_errorOf_0 10 rfl) rfl rfl (b := 20) rfl) ?_
      refine rc_p (p_aload_n 0 (dk_at ktX7_errorOf_0 11 rfl) rfl rfl (b := 21) rfl) ?_
      refine r_geti fl_X7_230 rfl hm.l0 hm.s0 (dk_at ktX7_errorOf_0 12 rfl) (v := ((told σ) 0)) (hT5 0 (by decide)) (b := 24) rfl ?_
      refine r_icmp_ge (dk_at ktX7_errorOf_0 13 rfl) (b := 32) (by decide) (b2 := 27) rfl (fun c24 => ?_) (fun c24 => ?_)
      · skip
        refine rc_p (p_iconst (v := 0) (dk_at ktX7_errorOf_0 16 rfl) (by decide) (b := 33) rfl) ?_
        refine r_iret (dk_at ktX7_errorOf_0 17 rfl) rfl rfl ⟨_, rfl, ?_⟩
        refine ⟨?_, rfl, hR7, hT5, hF6⟩
        unfold errU
        simp_all [goodB, ← Int32.not_le]
      · skip
        refine rc_p (p_bipush (v := (-5)) (dk_at ktX7_errorOf_0 14 rfl) (by decide) (b := 29) rfl) ?_
        refine rc_p (p_goto (b := 33) (dk_at ktX7_errorOf_0 15 rfl) (by decide)) ?_
        refine r_iret (dk_at ktX7_errorOf_0 17 rfl) rfl rfl ⟨_, rfl, ?_⟩
        refine ⟨?_, rfl, hR7, hT5, hF6⟩
        unfold errU
        simp_all [goodB, ← Int32.not_le]
    · skip
      refine rc_p (p_bipush (v := (-3)) (dk_at ktX7_errorOf_0 8 rfl) (by decide) (b := 18) rfl) ?_
      refine r_iret (dk_at ktX7_errorOf_0 9 rfl) rfl rfl ⟨_, rfl, ?_⟩
      refine ⟨?_, rfl, hR7, hT5, hF6⟩
      unfold errU
      simp_all [goodB, ← Int32.not_le]
set_option maxRecDepth 4000 in
set_option maxHeartbeats 4000000 in
theorem s_X7_updates {n : Nat} {sh : mS} {G : mG} {I : mI} {J : mJ} {m : Nat} {σ : sT} (hm : ModG n sh G m) (hR : RelW (I (m + 1)) σ) (hI : Inv σ) (v : Int32) (thr : Bool) : Sp yX7_updates cX7_updates 7 (some FieldType.int) 8 384 0 0 [.ref m, .int v, .int (bi thr)] n sh G I J (Qi (fun r_ I_ J_ => (fUpd v thr σ).1 = r_ ∧ J = J_ ∧ RelW (I_ (m + 1)) (fUpd v thr σ).2 ∧ FF m [1, 8] [18, 19, 20, 21, 22, 23, 24, 26] I I_)) nX := by
  refine Sp.of (by decide) (ls := [(0, .ref m), (1, .int v), (2, .int (bi thr))]) (fun _ => rfl) (fun _ => Nat.le_of_ble_eq_true rfl) ?_
  have hb := hI.bd
  refine rc_p (p_aload_n 0 (dk_at ktX7_updates_0 0 rfl) rfl rfl (b := 1) rfl) ?_
  refine rc_p (p_iload_n 1 (dk_at ktX7_updates_0 1 rfl) rfl rfl (b := 2) rfl) ?_
  refine r_iV (As' := [.int v]) (rest := []) (s_X7_errorOf hm (σ := σ) hR hI v) cw_X7_340 qi_X7_errorOf qv_X7_errorOf rfl hm.l0 hm.s0 (dk_at ktX7_updates_0 2 rfl) rfl rfl (Nat.le_of_ble_eq_true rfl) (by decide) (b := 5) rfl (fun v4 I1 J2 q3 => ?_)
  obtain ⟨ee8, rfl, hR7, hT5, hF6⟩ := q3
  refine rc_p (p_istore_n (ls' := [(3, .int v4), (0, .ref m), (1, .int v), (2, .int (bi thr))]) (dk_at ktX7_updates_0 3 rfl) rfl (by decide) rfl (b := 6) rfl) ?_
  refine rc_p (p_iload_n 0 (dk_at ktX7_updates_0 4 rfl) rfl rfl (b := 7) rfl) ?_
  refine r_if_eq (dk_at ktX7_updates_0 5 rfl) (b := 12) (by decide) (b2 := 10) rfl (fun c7 => ?_) (fun c7 => ?_)
  · skip
    have herr : errU v σ = 0 := ee8.trans c7
    obtain ⟨h7, hg1, hs4, hfl⟩ := errU_0 herr
    obtain ⟨r, hr, er⟩ := hI.2.2.1.run h7
    refine rc_p (p_aload_n 1 (dk_at ktX7_updates_0 8 rfl) rfl rfl (b := 13) rfl) ?_
    refine rc_p (p_iconst (v := 0) (dk_at ktX7_updates_0 9 rfl) (by decide) (b := 14) rfl) ?_
    refine r_puti fl_X7_258 fw_X7_23 rfl hm.l0 hm.s0 rfl rfl (dk_at ktX7_updates_0 10 rfl) (b := 17) rfl ?_
    refine rc_p (p_aload_n 1 (dk_at ktX7_updates_0 11 rfl) rfl rfl (b := 18) rfl) ?_
    refine r_geta fl_X7_9 rfl hm.l0 hm.s0 (dk_at ktX7_updates_0 12 rfl) hm.g0_0 (b := 21) rfl ?_
    refine rc_p (p_bipush (v := 9) (dk_at ktX7_updates_0 13 rfl) (by decide) (b := 23) rfl) ?_
    refine r_iald (j := 9) (hm.lt 1 (by decide)) hm.s1 (dk_at ktX7_updates_0 14 rfl) rfl ⟨by decide, by decide⟩ (v := (σ 9)) ((up2_n (by omega)).trans (hR7.1 9 (by decide))) (b := 24) rfl ?_
    refine rc_p (p_istore (ls' := [(4, .int (σ 9)), (3, .int v4), (0, .ref m), (1, .int v), (2, .int (bi thr))]) (dk_at ktX7_updates_0 15 rfl) (by decide) rfl (b := 26) rfl) ?_
    refine rc_p (p_iconst (v := 1) (dk_at ktX7_updates_0 16 rfl) (by decide) (b := 27) rfl) ?_
    refine rc_p (p_aload_n 2 (dk_at ktX7_updates_0 17 rfl) rfl rfl (b := 28) rfl) ?_
    refine r_geta fl_X7_9 rfl hm.l0 hm.s0 (dk_at ktX7_updates_0 18 rfl) hm.g0_0 (b := 31) rfl ?_
    refine rc_p (p_bipush (v := 8) (dk_at ktX7_updates_0 19 rfl) (by decide) (b := 33) rfl) ?_
    refine r_iald (j := 8) (hm.lt 1 (by decide)) hm.s1 (dk_at ktX7_updates_0 20 rfl) rfl ⟨by decide, by decide⟩ (v := (nI r)) ((up2_n (by omega)).trans ((hR7.1 8 (by decide)).trans er)) (b := 34) rfl ?_
    refine rc_p (p_isub (v := (nI (1 - r))) (dk_at ktX7_updates_0 21 rfl) (pk_sub (a := 1) (b := r) (by omega)) (b := 35) rfl) ?_
    refine rc_p (p_istore (ls' := [(5, .int (nI (1 - r))), (4, .int (σ 9)), (3, .int v4), (0, .ref m), (1, .int v), (2, .int (bi thr))]) (dk_at ktX7_updates_0 22 rfl) (by decide) rfl (b := 37) rfl) ?_
    refine rc_p (p_aload_n 3 (dk_at ktX7_updates_0 23 rfl) rfl rfl (b := 38) rfl) ?_
    refine r_vV (As' := []) (rest := []) (s_X7_takesStaged hm (σ := σ) (by rw [up2_off (by omega)]; exact hR7) hI) cw_X7_343 qi_X7_takesStaged qv_X7_takesStaged rfl hm.l0 hm.s0 (dk_at ktX7_updates_0 24 rfl) rfl rfl (Nat.le_of_ble_eq_true rfl) (by decide) (b := 41) rfl (fun I9 J10 q11 => ?_)
    obtain ⟨rfl, hR13, hF14, hP15⟩ := q11
    refine rc_p (p_iload_n 5 (dk_at ktX7_updates_0 25 rfl) rfl rfl (b := 42) rfl) ?_
    refine r_if_eq (dk_at ktX7_updates_0 26 rfl) (b := 55) (by decide) (b2 := 45) rfl (fun c42 => ?_) (fun c42 => ?_)
    · have c42 := bi_f c42
      refine rc_p (p_aload_n 3 (dk_at ktX7_updates_0 32 rfl) rfl rfl (b := 56) rfl) ?_
      refine rc_p (p_iload 0 (dk_at ktX7_updates_0 33 rfl) rfl (b := 58) rfl) ?_
      refine rc_p (p_iload_n 4 (dk_at ktX7_updates_0 34 rfl) rfl rfl (b := 59) rfl) ?_
      refine r_iV (As' := [.int (nI (1 - r)), .int v]) (rest := []) (s_X7_writesImage hm (σ := σ) hR13 hI (((hF14.2 23 (by decide))).trans up2_s) (1 - r) (by omega) (payS σ) (nS σ) (by omega) hP15 v) cw_X7_349 qi_X7_writesImage qv_X7_writesImage rfl hm.l0 hm.s0 (dk_at ktX7_updates_0 35 rfl) rfl rfl (Nat.le_of_ble_eq_true rfl) (by decide) (b := 62) rfl (fun v19 I16 J17 q18 => ?_)
      obtain ⟨rfl, rfl, hR20, hF21, hC22⟩ := q18
      refine rc_p (p_istore (ls' := [(6, .int (bi ((fImg (1 - r) false (payS σ) (nS σ) v σ).1))), (5, .int (nI (1 - r))), (4, .int (σ 9)), (3, .int v4), (0, .ref m), (1, .int v), (2, .int (bi thr))]) (dk_at ktX7_updates_0 36 rfl) (by decide) rfl (b := 64) rfl) ?_
      refine rc_p (p_iload 0 (dk_at ktX7_updates_0 37 rfl) rfl (b := 66) rfl) ?_
      refine r_if_eq (dk_at ktX7_updates_0 38 rfl) (b := 79) (by decide) (b2 := 69) rfl (fun c66 => ?_) (fun c66 => ?_)
      · have c66 := bi_f c66
        have hR23 : RelW (I16 (m + 1)) (sCut ((fImg (1 - r) false (payS σ) (nS σ) v σ).2)) := by rw [c66] at hR20; exact hR20
        have hC24 : I16 m 23 = 1 := by rw [c66] at hC22; exact hC22
        refine rc_p (p_bipush (v := (-4)) (dk_at ktX7_updates_0 44 rfl) (by decide) (b := 81) rfl) ?_
        refine r_iret (dk_at ktX7_updates_0 45 rfl) rfl rfl ⟨_, rfl, ?_⟩
        subst c42
        have e1 : opU v false (1 - r) σ = (false, (fImg (1 - r) false (payS σ) (nS σ) v σ).2) := by
          unfold opU; rw [sq_n (f := fImg (1 - r) false (payS σ) (nS σ) v) (pr_e c66)]
        have he := (fUpd_0 (thr := false) herr hr er).trans (endU_f e1)
        exact ⟨congrArg Prod.fst he, rfl, by rw [he]; exact hR23, (FF.tr (FF.tr (FF.uf (hF6.mo (by decide) (by decide)) (by decide)) (hF14.mo (by decide) (by decide))) (hF21.mo (by decide) (by decide)))⟩
      · have c66 := bi_t c66
        have hR25 : RelW (I16 (m + 1)) ((fImg (1 - r) false (payS σ) (nS σ) v σ).2) := by rw [c66] at hR20; exact hR20
        have hC26 : I16 m 23 = 0 := by rw [c66] at hC22; exact hC22
        refine rc_p (p_aload_n 4 (dk_at ktX7_updates_0 39 rfl) rfl rfl (b := 70) rfl) ?_
        refine rc_p (p_iconst (v := 3) (dk_at ktX7_updates_0 40 rfl) (by decide) (b := 71) rfl) ?_
        refine rc_p (p_iload 1 (dk_at ktX7_updates_0 41 rfl) rfl (b := 73) rfl) ?_
        refine r_iV (As' := [.int 3, .int (nI (1 - r))]) (rest := []) (s_X7_appends hm (σ := ((fImg (1 - r) false (payS σ) (nS σ) v σ).2)) hR25 (Inv.img hI (by omega) (by omega)) hC26 3 (by decide) (nI (1 - r))) cw_X7_307 qi_X7_appends qv_X7_appends rfl hm.l0 hm.s0 (dk_at ktX7_updates_0 42 rfl) rfl rfl (Nat.le_of_ble_eq_true rfl) (by decide) (b := 76) rfl (fun v30 I27 J28 q29 => ?_)
        obtain ⟨rfl, rfl, hR31, hF32, hC33⟩ := q29
        refine r_if_ne (dk_at ktX7_updates_0 43 rfl) (b := 82) (by decide) (b2 := 79) rfl (fun c76 => ?_) (fun c76 => ?_)
        · have c76 := bi_t c76
          have hR34 : RelW (I27 (m + 1)) ((fApp 3 (nI (1 - r)) ((fImg (1 - r) false (payS σ) (nS σ) v σ).2)).2) := by rw [c76] at hR31; exact hR31
          have hC35 : I27 m 23 = 0 := by rw [c76] at hC33; exact hC33
          refine rc_p (p_aload_n 4 (dk_at ktX7_updates_0 46 rfl) rfl rfl (b := 83) rfl) ?_
          refine r_geta fl_X7_9 rfl hm.l0 hm.s0 (dk_at ktX7_updates_0 47 rfl) hm.g0_0 (b := 86) rfl ?_
          refine rc_p (p_iconst (v := 4) (dk_at ktX7_updates_0 48 rfl) (by decide) (b := 87) rfl) ?_
          refine rc_p (p_iconst (v := 0) (dk_at ktX7_updates_0 49 rfl) (by decide) (b := 88) rfl) ?_
          refine r_iast (j := 4) (hm.lt 1 (by decide)) hm.s1 (dk_at ktX7_updates_0 50 rfl) rfl ⟨by decide, by decide⟩ (b := 89) rfl ?_
          refine rc_p (p_aload_n 4 (dk_at ktX7_updates_0 51 rfl) rfl rfl (b := 90) rfl) ?_
          refine r_geta fl_X7_9 rfl hm.l0 hm.s0 (dk_at ktX7_updates_0 52 rfl) hm.g0_0 (b := 93) rfl ?_
          refine rc_p (p_bipush (v := 9) (dk_at ktX7_updates_0 53 rfl) (by decide) (b := 95) rfl) ?_
          refine r_iald (j := 9) (hm.lt 1 (by decide)) hm.s1 (dk_at ktX7_updates_0 54 rfl) rfl ⟨by decide, by decide⟩ (v := (((fApp 3 (nI (1 - r)) ((fImg (1 - r) false (payS σ) (nS σ) v σ).2)).2) 9)) ((up2_n (by omega)).trans (hR34.1 9 (by decide))) (b := 96) rfl ?_
          refine rc_p (p_iload 2 (dk_at ktX7_updates_0 55 rfl) rfl (b := 98) rfl) ?_
          refine rc_p (p_isub (v := ((((fApp 3 (nI (1 - r)) ((fImg (1 - r) false (payS σ) (nS σ) v σ).2)).2) 9) - (σ 9))) (dk_at ktX7_updates_0 56 rfl) rfl (b := 99) rfl) ?_
          refine r_iret (dk_at ktX7_updates_0 57 rfl) rfl rfl ⟨_, rfl, ?_⟩
          subst c42
          have e1 : opU v false (1 - r) σ = (true, (fApp 3 (nI (1 - r)) (fImg (1 - r) false (payS σ) (nS σ) v σ).2).2) := by
            unfold opU; rw [sq_e (f := fImg (1 - r) false (payS σ) (nS σ) v) (pr_e c66)]; exact pr_e c76
          have he := (fUpd_0 (thr := false) herr hr er).trans (endU_t e1)
          exact ⟨congrArg Prod.fst he, rfl, by rw [he]; exact (by rw [up2_row]; exact RelW.up hR34 (by first | decide | omega) (by first | decide | omega)), (FF.ua (FF.tr (FF.tr (FF.tr (FF.uf (hF6.mo (by decide) (by decide)) (by decide)) (hF14.mo (by decide) (by decide))) (hF21.mo (by decide) (by decide))) (hF32.mo (by decide) (by decide))) (by decide) (by decide))⟩
        · have c76 := bi_f c76
          have hR36 : RelW (I27 (m + 1)) (sCut ((fApp 3 (nI (1 - r)) ((fImg (1 - r) false (payS σ) (nS σ) v σ).2)).2)) := by rw [c76] at hR31; exact hR31
          have hC37 : I27 m 23 = 1 := by rw [c76] at hC33; exact hC33
          refine rc_p (p_bipush (v := (-4)) (dk_at ktX7_updates_0 44 rfl) (by decide) (b := 81) rfl) ?_
          refine r_iret (dk_at ktX7_updates_0 45 rfl) rfl rfl ⟨_, rfl, ?_⟩
          subst c42
          have e1 : opU v false (1 - r) σ = (false, (fApp 3 (nI (1 - r)) (fImg (1 - r) false (payS σ) (nS σ) v σ).2).2) := by
            unfold opU; rw [sq_e (f := fImg (1 - r) false (payS σ) (nS σ) v) (pr_e c66)]; exact pr_e c76
          have he := (fUpd_0 (thr := false) herr hr er).trans (endU_f e1)
          exact ⟨congrArg Prod.fst he, rfl, by rw [he]; exact hR36, (FF.tr (FF.tr (FF.tr (FF.uf (hF6.mo (by decide) (by decide)) (by decide)) (hF14.mo (by decide) (by decide))) (hF21.mo (by decide) (by decide))) (hF32.mo (by decide) (by decide)))⟩
    · have c42 := bi_t c42
      refine rc_p (p_aload_n 3 (dk_at ktX7_updates_0 27 rfl) rfl rfl (b := 46) rfl) ?_
      refine rc_p (p_iload 0 (dk_at ktX7_updates_0 28 rfl) rfl (b := 48) rfl) ?_
      refine rc_p (p_iload_n 4 (dk_at ktX7_updates_0 29 rfl) rfl rfl (b := 49) rfl) ?_
      refine r_iV (As' := [.int (nI (1 - r)), .int v]) (rest := []) (s_X7_writesThriftily hm (σ := σ) hR13 hI (((hF14.2 23 (by decide))).trans up2_s) (1 - r) (by omega) (payS σ) (nS σ) (by omega) hP15 v) cw_X7_346 qi_X7_writesThriftily qv_X7_writesThriftily rfl hm.l0 hm.s0 (dk_at ktX7_updates_0 30 rfl) rfl rfl (Nat.le_of_ble_eq_true rfl) (by decide) (b := 52) rfl (fun v41 I38 J39 q40 => ?_)
      obtain ⟨rfl, rfl, hR42, hF43, hC44⟩ := q40
      refine rc_p (p_goto (b := 62) (dk_at ktX7_updates_0 31 rfl) (by decide)) ?_
      refine rc_p (p_istore (ls' := [(6, .int (bi ((fImg (1 - r) true (payS σ) (nS σ) v σ).1))), (5, .int (nI (1 - r))), (4, .int (σ 9)), (3, .int v4), (0, .ref m), (1, .int v), (2, .int (bi thr))]) (dk_at ktX7_updates_0 36 rfl) (by decide) rfl (b := 64) rfl) ?_
      refine rc_p (p_iload 0 (dk_at ktX7_updates_0 37 rfl) rfl (b := 66) rfl) ?_
      refine r_if_eq (dk_at ktX7_updates_0 38 rfl) (b := 79) (by decide) (b2 := 69) rfl (fun c66 => ?_) (fun c66 => ?_)
      · have c66 := bi_f c66
        have hR45 : RelW (I38 (m + 1)) (sCut ((fImg (1 - r) true (payS σ) (nS σ) v σ).2)) := by rw [c66] at hR42; exact hR42
        have hC46 : I38 m 23 = 1 := by rw [c66] at hC44; exact hC44
        refine rc_p (p_bipush (v := (-4)) (dk_at ktX7_updates_0 44 rfl) (by decide) (b := 81) rfl) ?_
        refine r_iret (dk_at ktX7_updates_0 45 rfl) rfl rfl ⟨_, rfl, ?_⟩
        subst c42
        have e1 : opU v true (1 - r) σ = (false, (fImg (1 - r) true (payS σ) (nS σ) v σ).2) := by
          unfold opU; rw [sq_n (f := fImg (1 - r) true (payS σ) (nS σ) v) (pr_e c66)]
        have he := (fUpd_0 (thr := true) herr hr er).trans (endU_f e1)
        exact ⟨congrArg Prod.fst he, rfl, by rw [he]; exact hR45, (FF.tr (FF.tr (FF.uf (hF6.mo (by decide) (by decide)) (by decide)) (hF14.mo (by decide) (by decide))) (hF43.mo (by decide) (by decide)))⟩
      · have c66 := bi_t c66
        have hR47 : RelW (I38 (m + 1)) ((fImg (1 - r) true (payS σ) (nS σ) v σ).2) := by rw [c66] at hR42; exact hR42
        have hC48 : I38 m 23 = 0 := by rw [c66] at hC44; exact hC44
        refine rc_p (p_aload_n 4 (dk_at ktX7_updates_0 39 rfl) rfl rfl (b := 70) rfl) ?_
        refine rc_p (p_iconst (v := 3) (dk_at ktX7_updates_0 40 rfl) (by decide) (b := 71) rfl) ?_
        refine rc_p (p_iload 1 (dk_at ktX7_updates_0 41 rfl) rfl (b := 73) rfl) ?_
        refine r_iV (As' := [.int 3, .int (nI (1 - r))]) (rest := []) (s_X7_appends hm (σ := ((fImg (1 - r) true (payS σ) (nS σ) v σ).2)) hR47 (Inv.img hI (by omega) (by omega)) hC48 3 (by decide) (nI (1 - r))) cw_X7_307 qi_X7_appends qv_X7_appends rfl hm.l0 hm.s0 (dk_at ktX7_updates_0 42 rfl) rfl rfl (Nat.le_of_ble_eq_true rfl) (by decide) (b := 76) rfl (fun v52 I49 J50 q51 => ?_)
        obtain ⟨rfl, rfl, hR53, hF54, hC55⟩ := q51
        refine r_if_ne (dk_at ktX7_updates_0 43 rfl) (b := 82) (by decide) (b2 := 79) rfl (fun c76 => ?_) (fun c76 => ?_)
        · have c76 := bi_t c76
          have hR56 : RelW (I49 (m + 1)) ((fApp 3 (nI (1 - r)) ((fImg (1 - r) true (payS σ) (nS σ) v σ).2)).2) := by rw [c76] at hR53; exact hR53
          have hC57 : I49 m 23 = 0 := by rw [c76] at hC55; exact hC55
          refine rc_p (p_aload_n 4 (dk_at ktX7_updates_0 46 rfl) rfl rfl (b := 83) rfl) ?_
          refine r_geta fl_X7_9 rfl hm.l0 hm.s0 (dk_at ktX7_updates_0 47 rfl) hm.g0_0 (b := 86) rfl ?_
          refine rc_p (p_iconst (v := 4) (dk_at ktX7_updates_0 48 rfl) (by decide) (b := 87) rfl) ?_
          refine rc_p (p_iconst (v := 0) (dk_at ktX7_updates_0 49 rfl) (by decide) (b := 88) rfl) ?_
          refine r_iast (j := 4) (hm.lt 1 (by decide)) hm.s1 (dk_at ktX7_updates_0 50 rfl) rfl ⟨by decide, by decide⟩ (b := 89) rfl ?_
          refine rc_p (p_aload_n 4 (dk_at ktX7_updates_0 51 rfl) rfl rfl (b := 90) rfl) ?_
          refine r_geta fl_X7_9 rfl hm.l0 hm.s0 (dk_at ktX7_updates_0 52 rfl) hm.g0_0 (b := 93) rfl ?_
          refine rc_p (p_bipush (v := 9) (dk_at ktX7_updates_0 53 rfl) (by decide) (b := 95) rfl) ?_
          refine r_iald (j := 9) (hm.lt 1 (by decide)) hm.s1 (dk_at ktX7_updates_0 54 rfl) rfl ⟨by decide, by decide⟩ (v := (((fApp 3 (nI (1 - r)) ((fImg (1 - r) true (payS σ) (nS σ) v σ).2)).2) 9)) ((up2_n (by omega)).trans (hR56.1 9 (by decide))) (b := 96) rfl ?_
          refine rc_p (p_iload 2 (dk_at ktX7_updates_0 55 rfl) rfl (b := 98) rfl) ?_
          refine rc_p (p_isub (v := ((((fApp 3 (nI (1 - r)) ((fImg (1 - r) true (payS σ) (nS σ) v σ).2)).2) 9) - (σ 9))) (dk_at ktX7_updates_0 56 rfl) rfl (b := 99) rfl) ?_
          refine r_iret (dk_at ktX7_updates_0 57 rfl) rfl rfl ⟨_, rfl, ?_⟩
          subst c42
          have e1 : opU v true (1 - r) σ = (true, (fApp 3 (nI (1 - r)) (fImg (1 - r) true (payS σ) (nS σ) v σ).2).2) := by
            unfold opU; rw [sq_e (f := fImg (1 - r) true (payS σ) (nS σ) v) (pr_e c66)]; exact pr_e c76
          have he := (fUpd_0 (thr := true) herr hr er).trans (endU_t e1)
          exact ⟨congrArg Prod.fst he, rfl, by rw [he]; exact (by rw [up2_row]; exact RelW.up hR56 (by first | decide | omega) (by first | decide | omega)), (FF.ua (FF.tr (FF.tr (FF.tr (FF.uf (hF6.mo (by decide) (by decide)) (by decide)) (hF14.mo (by decide) (by decide))) (hF43.mo (by decide) (by decide))) (hF54.mo (by decide) (by decide))) (by decide) (by decide))⟩
        · have c76 := bi_f c76
          have hR58 : RelW (I49 (m + 1)) (sCut ((fApp 3 (nI (1 - r)) ((fImg (1 - r) true (payS σ) (nS σ) v σ).2)).2)) := by rw [c76] at hR53; exact hR53
          have hC59 : I49 m 23 = 1 := by rw [c76] at hC55; exact hC55
          refine rc_p (p_bipush (v := (-4)) (dk_at ktX7_updates_0 44 rfl) (by decide) (b := 81) rfl) ?_
          refine r_iret (dk_at ktX7_updates_0 45 rfl) rfl rfl ⟨_, rfl, ?_⟩
          subst c42
          have e1 : opU v true (1 - r) σ = (false, (fApp 3 (nI (1 - r)) (fImg (1 - r) true (payS σ) (nS σ) v σ).2).2) := by
            unfold opU; rw [sq_e (f := fImg (1 - r) true (payS σ) (nS σ) v) (pr_e c66)]; exact pr_e c76
          have he := (fUpd_0 (thr := true) herr hr er).trans (endU_f e1)
          exact ⟨congrArg Prod.fst he, rfl, by rw [he]; exact hR58, (FF.tr (FF.tr (FF.tr (FF.uf (hF6.mo (by decide) (by decide)) (by decide)) (hF14.mo (by decide) (by decide))) (hF43.mo (by decide) (by decide))) (hF54.mo (by decide) (by decide)))⟩
  · skip
    refine rc_p (p_iload_n 0 (dk_at ktX7_updates_0 6 rfl) rfl rfl (b := 11) rfl) ?_
    refine r_iret (dk_at ktX7_updates_0 7 rfl) rfl rfl ⟨_, rfl, ?_⟩
    have he := fUpd_e (thr := thr) (show ¬ errU v σ = 0 by rw [ee8]; exact c7)
    exact ⟨(congrArg Prod.fst he).trans ee8, rfl, by rw [he]; exact hR7, (hF6.mo (by decide) (by decide))⟩
set_option maxRecDepth 4000 in
set_option maxHeartbeats 4000000 in
theorem s_X7_confirms {n : Nat} {sh : mS} {G : mG} {I : mI} {J : mJ} {m : Nat} {σ : sT} (hm : ModG n sh G m) (hR : RelW (I (m + 1)) σ) (hI : Inv σ)  : Sp yX7_confirms cX7_confirms 3 (some FieldType.int) 8 384 0 0 [.ref m] n sh G I J (Qi (fun r_ I_ J_ => (fCon σ).1 = r_ ∧ J = J_ ∧ RelW (I_ (m + 1)) (fCon σ).2 ∧ FF m [1] [18, 19, 20, 21, 22, 23, 24] I I_)) nX := by
  refine Sp.of (by decide) (ls := [(0, .ref m)]) (fun _ => rfl) (fun _ => Nat.le_of_ble_eq_true rfl) ?_
  have hb := hI.bd
  refine rc_p (p_aload_n 0 (dk_at ktX7_confirms_0 0 rfl) rfl rfl (b := 1) rfl) ?_
  refine r_vV (As' := []) (rest := []) (s_X7_tells hm (σ := σ) hR hI) cw_X7_255 qi_X7_tells qv_X7_tells rfl hm.l0 hm.s0 (dk_at ktX7_confirms_0 1 rfl) rfl rfl (Nat.le_of_ble_eq_true rfl) (by decide) (b := 4) rfl (fun I1 J2 q3 => ?_)
  obtain ⟨rfl, hR7, hT5, hF6⟩ := q3
  refine rc_p (p_aload_n 0 (dk_at ktX7_confirms_0 2 rfl) rfl rfl (b := 5) rfl) ?_
  refine r_geta fl_X7_9 rfl hm.l0 hm.s0 (dk_at ktX7_confirms_0 3 rfl) hm.g0_0 (b := 8) rfl ?_
  refine rc_p (p_bipush (v := 7) (dk_at ktX7_confirms_0 4 rfl) (by decide) (b := 10) rfl) ?_
  refine r_iald (j := 7) (hm.lt 1 (by decide)) hm.s1 (dk_at ktX7_confirms_0 5 rfl) rfl ⟨by decide, by decide⟩ (v := (σ 7)) (hR7.1 7 (by decide)) (b := 11) rfl ?_
  refine rc_p (p_iconst (v := 1) (dk_at ktX7_confirms_0 6 rfl) (by decide) (b := 12) rfl) ?_
  refine r_icmp_ne (dk_at ktX7_confirms_0 7 rfl) (b := 29) (by decide) (b2 := 15) rfl (fun c12 => ?_) (fun c12 => ?_)
  · skip
    refine rc_p (p_bipush (v := (-3)) (dk_at ktX7_confirms_0 15 rfl) (by decide) (b := 31) rfl) ?_
    refine r_iret (dk_at ktX7_confirms_0 16 rfl) rfl rfl ⟨_, rfl, ?_⟩
    have he := fCon_n (σ := σ) (fun q => c12 q.1)
    exact ⟨congrArg Prod.fst he, rfl, by rw [he]; exact hR7, (hF6.mo (by decide) (by decide))⟩
  · skip
    obtain ⟨r, hr, er⟩ := hI.2.2.1.run c12
    refine rc_p (p_aload_n 0 (dk_at ktX7_confirms_0 8 rfl) rfl rfl (b := 16) rfl) ?_
    refine r_geti fl_X7_235 rfl hm.l0 hm.s0 (dk_at ktX7_confirms_0 9 rfl) (v := ((told σ) 2)) (hT5 2 (by decide)) (b := 19) rfl ?_
    refine rc_p (p_aload_n 0 (dk_at ktX7_confirms_0 10 rfl) rfl rfl (b := 20) rfl) ?_
    refine r_geta fl_X7_9 rfl hm.l0 hm.s0 (dk_at ktX7_confirms_0 11 rfl) hm.g0_0 (b := 23) rfl ?_
    refine rc_p (p_bipush (v := 8) (dk_at ktX7_confirms_0 12 rfl) (by decide) (b := 25) rfl) ?_
    refine r_iald (j := 8) (hm.lt 1 (by decide)) hm.s1 (dk_at ktX7_confirms_0 13 rfl) rfl ⟨by decide, by decide⟩ (v := (nI r)) ((hR7.1 8 (by decide)).trans er) (b := 26) rfl ?_
    refine r_icmp_eq (dk_at ktX7_confirms_0 14 rfl) (b := 32) (by decide) (b2 := 29) rfl (fun c26 => ?_) (fun c26 => ?_)
    · skip
      refine rc_p (p_aload_n 0 (dk_at ktX7_confirms_0 17 rfl) rfl rfl (b := 33) rfl) ?_
      refine rc_p (p_iconst (v := 0) (dk_at ktX7_confirms_0 18 rfl) (by decide) (b := 34) rfl) ?_
      refine r_puti fl_X7_258 fw_X7_23 rfl hm.l0 hm.s0 rfl rfl (dk_at ktX7_confirms_0 19 rfl) (b := 37) rfl ?_
      refine rc_p (p_aload_n 0 (dk_at ktX7_confirms_0 20 rfl) rfl rfl (b := 38) rfl) ?_
      refine r_geta fl_X7_9 rfl hm.l0 hm.s0 (dk_at ktX7_confirms_0 21 rfl) hm.g0_0 (b := 41) rfl ?_
      refine rc_p (p_aload_n 0 (dk_at ktX7_confirms_0 22 rfl) rfl rfl (b := 42) rfl) ?_
      refine r_geta fl_X7_9 rfl hm.l0 hm.s0 (dk_at ktX7_confirms_0 23 rfl) hm.g0_0 (b := 45) rfl ?_
      refine rc_p (p_bipush (v := 8) (dk_at ktX7_confirms_0 24 rfl) (by decide) (b := 47) rfl) ?_
      refine r_iald (j := 8) (hm.lt 1 (by decide)) hm.s1 (dk_at ktX7_confirms_0 25 rfl) rfl ⟨by decide, by decide⟩ (v := (nI r)) ((up2_n (by omega)).trans ((hR7.1 8 (by decide)).trans er)) (b := 48) rfl ?_
      refine r_iS (As := [.int (nI r)]) (rest := [.ref (m + 1)]) (s_X7_slotAt r) cw_X7_197 qs_X7_slotAt (dk_at ktX7_confirms_0 26 rfl) rfl rfl (Nat.le_of_ble_eq_true rfl) (by decide) (b := 51) rfl (fun v11 I8 J9 q10 => ?_)
      obtain ⟨rfl, rfl, rfl⟩ := q10
      refine r_iald (j := 83 + 64 * r) (hm.lt 1 (by decide)) hm.s1 (dk_at ktX7_confirms_0 27 rfl) rfl ⟨by omega, by decide⟩ (v := (σ (83 + 64 * r))) ((up2_n (by omega)).trans (hR7.1 (83 + 64 * r) (by omega))) (b := 52) rfl ?_
      refine rc_p (p_istore_n (ls' := [(1, .int (σ (83 + 64 * r))), (0, .ref m)]) (dk_at ktX7_confirms_0 28 rfl) rfl (by decide) rfl (b := 53) rfl) ?_
      refine rc_p (p_iload_n 0 (dk_at ktX7_confirms_0 29 rfl) rfl rfl (b := 54) rfl) ?_
      refine rc_p (p_aload_n 1 (dk_at ktX7_confirms_0 30 rfl) rfl rfl (b := 55) rfl) ?_
      refine r_geti fl_X7_230 rfl hm.l0 hm.s0 (dk_at ktX7_confirms_0 31 rfl) (v := ((told σ) 0)) ((up2_n (by omega)).trans (hT5 0 (by decide))) (b := 58) rfl ?_
      refine r_icmp_le (dk_at ktX7_confirms_0 32 rfl) (b := 65) (by decide) (b2 := 61) rfl (fun c58 => ?_) (fun c58 => ?_)
      · skip
        refine rc_p (p_iconst (v := 0) (dk_at ktX7_confirms_0 35 rfl) (by decide) (b := 66) rfl) ?_
        refine rc_p (p_istore_n (ls' := [(2, .int 0), (1, .int (σ (83 + 64 * r))), (0, .ref m)]) (dk_at ktX7_confirms_0 36 rfl) rfl (by decide) rfl (b := 67) rfl) ?_
        refine rc_p (p_aload_n 2 (dk_at ktX7_confirms_0 37 rfl) rfl rfl (b := 68) rfl) ?_
        refine rc_p (p_iconst (v := 2) (dk_at ktX7_confirms_0 38 rfl) (by decide) (b := 69) rfl) ?_
        refine rc_p (p_aload_n 2 (dk_at ktX7_confirms_0 39 rfl) rfl rfl (b := 70) rfl) ?_
        refine r_geta fl_X7_9 rfl hm.l0 hm.s0 (dk_at ktX7_confirms_0 40 rfl) hm.g0_0 (b := 73) rfl ?_
        refine rc_p (p_bipush (v := 8) (dk_at ktX7_confirms_0 41 rfl) (by decide) (b := 75) rfl) ?_
        refine r_iald (j := 8) (hm.lt 1 (by decide)) hm.s1 (dk_at ktX7_confirms_0 42 rfl) rfl ⟨by decide, by decide⟩ (v := (nI r)) ((up2_n (by omega)).trans ((hR7.1 8 (by decide)).trans er)) (b := 76) rfl ?_
        refine r_iV (As' := [.int 2, .int (nI r)]) (rest := []) (s_X7_appends hm (σ := σ) (by rw [up2_off (by omega)]; exact hR7) hI up2_s 2 (by decide) (nI r)) cw_X7_307 qi_X7_appends qv_X7_appends rfl hm.l0 hm.s0 (dk_at ktX7_confirms_0 43 rfl) rfl rfl (Nat.le_of_ble_eq_true rfl) (by decide) (b := 79) rfl (fun v15 I12 J13 q14 => ?_)
        obtain ⟨rfl, rfl, hR16, hF17, hC18⟩ := q14
        refine r_if_eq (dk_at ktX7_confirms_0 44 rfl) (b := 95) (by decide) (b2 := 82) rfl (fun c79 => ?_) (fun c79 => ?_)
        · have c79 := bi_f c79
          have hR19 : RelW (I12 (m + 1)) (sCut ((fApp 2 (nI r) σ).2)) := by rw [c79] at hR16; exact hR16
          have hC20 : I12 m 23 = 1 := by rw [c79] at hC18; exact hC18
          refine rc_p (p_bipush (v := (-4)) (dk_at ktX7_confirms_0 52 rfl) (by decide) (b := 97) rfl) ?_
          refine r_iret (dk_at ktX7_confirms_0 53 rfl) rfl rfl ⟨_, rfl, ?_⟩
          have e1 : opC (σ (83 + 64 * r)) r σ = (false, (fApp 2 (nI r) σ).2) := by
            unfold opC; rw [sq_n (f := fApp 2 (nI r)) (pr_e c79)]
          have he := (fCon_y ⟨c12, c26.trans er.symm⟩ hr er).trans (let_f e1)
          exact ⟨congrArg Prod.fst he, rfl, by rw [he]; exact hR19, (FF.tr (FF.uf (hF6.mo (by decide) (by decide)) (by decide)) (hF17.mo (by decide) (by decide)))⟩
        · have c79 := bi_t c79
          have hR21 : RelW (I12 (m + 1)) ((fApp 2 (nI r) σ).2) := by rw [c79] at hR16; exact hR16
          have hC22 : I12 m 23 = 0 := by rw [c79] at hC18; exact hC18
          refine rc_p (p_iload_n 0 (dk_at ktX7_confirms_0 45 rfl) rfl rfl (b := 83) rfl) ?_
          refine r_if_eq (dk_at ktX7_confirms_0 46 rfl) (b := 98) (by decide) (b2 := 86) rfl (fun c83 => ?_) (fun c83 => ?_)
          · skip
            refine rc_p (p_aload_n 2 (dk_at ktX7_confirms_0 54 rfl) rfl rfl (b := 99) rfl) ?_
            refine r_vV (As' := []) (rest := []) (s_X7_tells hm (σ := ((fApp 2 (nI r) σ).2)) hR21 (Inv.app hI)) cw_X7_255 qi_X7_tells qv_X7_tells rfl hm.l0 hm.s0 (dk_at ktX7_confirms_0 55 rfl) rfl rfl (Nat.le_of_ble_eq_true rfl) (by decide) (b := 102) rfl (fun I23 J24 q25 => ?_)
            obtain ⟨rfl, hR29, hT27, hF28⟩ := q25
            refine rc_p (p_aload_n 2 (dk_at ktX7_confirms_0 56 rfl) rfl rfl (b := 103) rfl) ?_
            refine r_geti fl_X7_230 rfl hm.l0 hm.s0 (dk_at ktX7_confirms_0 57 rfl) (v := ((told ((fApp 2 (nI r) σ).2)) 0)) (hT27 0 (by decide)) (b := 106) rfl ?_
            refine r_iret (dk_at ktX7_confirms_0 58 rfl) rfl rfl ⟨_, rfl, ?_⟩
            have e1 : opC (σ (83 + 64 * r)) r σ = (true, (fApp 2 (nI r) σ).2) := by
              unfold opC; rw [sq_e (f := fApp 2 (nI r)) (pr_e c79), if_neg (Int32.not_lt.mpr c58)]; rfl
            have he := (fCon_y ⟨c12, c26.trans er.symm⟩ hr er).trans (letc_t e1)
            exact ⟨congrArg Prod.fst he, rfl, by rw [he]; exact hR29, (FF.tr (FF.tr (FF.uf (hF6.mo (by decide) (by decide)) (by decide)) (hF17.mo (by decide) (by decide))) (hF28.mo (by decide) (by decide)))⟩
          · first | exact absurd c83 (by decide) | exact absurd (by decide) c83
      · skip
        refine rc_p (p_iconst (v := 1) (dk_at ktX7_confirms_0 33 rfl) (by decide) (b := 62) rfl) ?_
        refine rc_p (p_goto (b := 66) (dk_at ktX7_confirms_0 34 rfl) (by decide)) ?_
        refine rc_p (p_istore_n (ls' := [(2, .int 1), (1, .int (σ (83 + 64 * r))), (0, .ref m)]) (dk_at ktX7_confirms_0 36 rfl) rfl (by decide) rfl (b := 67) rfl) ?_
        refine rc_p (p_aload_n 2 (dk_at ktX7_confirms_0 37 rfl) rfl rfl (b := 68) rfl) ?_
        refine rc_p (p_iconst (v := 2) (dk_at ktX7_confirms_0 38 rfl) (by decide) (b := 69) rfl) ?_
        refine rc_p (p_aload_n 2 (dk_at ktX7_confirms_0 39 rfl) rfl rfl (b := 70) rfl) ?_
        refine r_geta fl_X7_9 rfl hm.l0 hm.s0 (dk_at ktX7_confirms_0 40 rfl) hm.g0_0 (b := 73) rfl ?_
        refine rc_p (p_bipush (v := 8) (dk_at ktX7_confirms_0 41 rfl) (by decide) (b := 75) rfl) ?_
        refine r_iald (j := 8) (hm.lt 1 (by decide)) hm.s1 (dk_at ktX7_confirms_0 42 rfl) rfl ⟨by decide, by decide⟩ (v := (nI r)) ((up2_n (by omega)).trans ((hR7.1 8 (by decide)).trans er)) (b := 76) rfl ?_
        refine r_iV (As' := [.int 2, .int (nI r)]) (rest := []) (s_X7_appends hm (σ := σ) (by rw [up2_off (by omega)]; exact hR7) hI up2_s 2 (by decide) (nI r)) cw_X7_307 qi_X7_appends qv_X7_appends rfl hm.l0 hm.s0 (dk_at ktX7_confirms_0 43 rfl) rfl rfl (Nat.le_of_ble_eq_true rfl) (by decide) (b := 79) rfl (fun v33 I30 J31 q32 => ?_)
        obtain ⟨rfl, rfl, hR34, hF35, hC36⟩ := q32
        refine r_if_eq (dk_at ktX7_confirms_0 44 rfl) (b := 95) (by decide) (b2 := 82) rfl (fun c79 => ?_) (fun c79 => ?_)
        · have c79 := bi_f c79
          have hR37 : RelW (I30 (m + 1)) (sCut ((fApp 2 (nI r) σ).2)) := by rw [c79] at hR34; exact hR34
          have hC38 : I30 m 23 = 1 := by rw [c79] at hC36; exact hC36
          refine rc_p (p_bipush (v := (-4)) (dk_at ktX7_confirms_0 52 rfl) (by decide) (b := 97) rfl) ?_
          refine r_iret (dk_at ktX7_confirms_0 53 rfl) rfl rfl ⟨_, rfl, ?_⟩
          have e1 : opC (σ (83 + 64 * r)) r σ = (false, (fApp 2 (nI r) σ).2) := by
            unfold opC; rw [sq_n (f := fApp 2 (nI r)) (pr_e c79)]
          have he := (fCon_y ⟨c12, c26.trans er.symm⟩ hr er).trans (let_f e1)
          exact ⟨congrArg Prod.fst he, rfl, by rw [he]; exact hR37, (FF.tr (FF.uf (hF6.mo (by decide) (by decide)) (by decide)) (hF35.mo (by decide) (by decide)))⟩
        · have c79 := bi_t c79
          have hR39 : RelW (I30 (m + 1)) ((fApp 2 (nI r) σ).2) := by rw [c79] at hR34; exact hR34
          have hC40 : I30 m 23 = 0 := by rw [c79] at hC36; exact hC36
          refine rc_p (p_iload_n 0 (dk_at ktX7_confirms_0 45 rfl) rfl rfl (b := 83) rfl) ?_
          refine r_if_eq (dk_at ktX7_confirms_0 46 rfl) (b := 98) (by decide) (b2 := 86) rfl (fun c83 => ?_) (fun c83 => ?_)
          · first | exact absurd c83 (by decide) | exact absurd (by decide) c83
          · skip
            refine rc_p (p_aload_n 2 (dk_at ktX7_confirms_0 47 rfl) rfl rfl (b := 87) rfl) ?_
            refine rc_p (p_iconst (v := 1) (dk_at ktX7_confirms_0 48 rfl) (by decide) (b := 88) rfl) ?_
            refine rc_p (p_iload_n 1 (dk_at ktX7_confirms_0 49 rfl) rfl rfl (b := 89) rfl) ?_
            refine r_iV (As' := [.int 1, .int (σ (83 + 64 * r))]) (rest := []) (s_X7_appends hm (σ := ((fApp 2 (nI r) σ).2)) hR39 (Inv.app hI) hC40 1 (by decide) (σ (83 + 64 * r))) cw_X7_307 qi_X7_appends qv_X7_appends rfl hm.l0 hm.s0 (dk_at ktX7_confirms_0 50 rfl) rfl rfl (Nat.le_of_ble_eq_true rfl) (by decide) (b := 92) rfl (fun v44 I41 J42 q43 => ?_)
            obtain ⟨rfl, rfl, hR45, hF46, hC47⟩ := q43
            refine r_if_ne (dk_at ktX7_confirms_0 51 rfl) (b := 98) (by decide) (b2 := 95) rfl (fun c92 => ?_) (fun c92 => ?_)
            · have c92 := bi_t c92
              have hR48 : RelW (I41 (m + 1)) ((fApp 1 (σ (83 + 64 * r)) ((fApp 2 (nI r) σ).2)).2) := by rw [c92] at hR45; exact hR45
              have hC49 : I41 m 23 = 0 := by rw [c92] at hC47; exact hC47
              refine rc_p (p_aload_n 2 (dk_at ktX7_confirms_0 54 rfl) rfl rfl (b := 99) rfl) ?_
              refine r_vV (As' := []) (rest := []) (s_X7_tells hm (σ := ((fApp 1 (σ (83 + 64 * r)) ((fApp 2 (nI r) σ).2)).2)) hR48 (Inv.app (Inv.app hI))) cw_X7_255 qi_X7_tells qv_X7_tells rfl hm.l0 hm.s0 (dk_at ktX7_confirms_0 55 rfl) rfl rfl (Nat.le_of_ble_eq_true rfl) (by decide) (b := 102) rfl (fun I50 J51 q52 => ?_)
              obtain ⟨rfl, hR56, hT54, hF55⟩ := q52
              refine rc_p (p_aload_n 2 (dk_at ktX7_confirms_0 56 rfl) rfl rfl (b := 103) rfl) ?_
              refine r_geti fl_X7_230 rfl hm.l0 hm.s0 (dk_at ktX7_confirms_0 57 rfl) (v := ((told ((fApp 1 (σ (83 + 64 * r)) ((fApp 2 (nI r) σ).2)).2)) 0)) (hT54 0 (by decide)) (b := 106) rfl ?_
              refine r_iret (dk_at ktX7_confirms_0 58 rfl) rfl rfl ⟨_, rfl, ?_⟩
              have e1 : opC (σ (83 + 64 * r)) r σ = (true, (fApp 1 (σ (83 + 64 * r)) (fApp 2 (nI r) σ).2).2) := by
                unfold opC; rw [sq_e (f := fApp 2 (nI r)) (pr_e c79), if_pos (Int32.not_le.mp c58)]; exact pr_e c92
              have he := (fCon_y ⟨c12, c26.trans er.symm⟩ hr er).trans (letc_t e1)
              exact ⟨congrArg Prod.fst he, rfl, by rw [he]; exact hR56, (FF.tr (FF.tr (FF.tr (FF.uf (hF6.mo (by decide) (by decide)) (by decide)) (hF35.mo (by decide) (by decide))) (hF46.mo (by decide) (by decide))) (hF55.mo (by decide) (by decide)))⟩
            · have c92 := bi_f c92
              have hR57 : RelW (I41 (m + 1)) (sCut ((fApp 1 (σ (83 + 64 * r)) ((fApp 2 (nI r) σ).2)).2)) := by rw [c92] at hR45; exact hR45
              have hC58 : I41 m 23 = 1 := by rw [c92] at hC47; exact hC47
              refine rc_p (p_bipush (v := (-4)) (dk_at ktX7_confirms_0 52 rfl) (by decide) (b := 97) rfl) ?_
              refine r_iret (dk_at ktX7_confirms_0 53 rfl) rfl rfl ⟨_, rfl, ?_⟩
              have e1 : opC (σ (83 + 64 * r)) r σ = (false, (fApp 1 (σ (83 + 64 * r)) (fApp 2 (nI r) σ).2).2) := by
                unfold opC; rw [sq_e (f := fApp 2 (nI r)) (pr_e c79), if_pos (Int32.not_le.mp c58)]; exact pr_e c92
              have he := (fCon_y ⟨c12, c26.trans er.symm⟩ hr er).trans (let_f e1)
              exact ⟨congrArg Prod.fst he, rfl, by rw [he]; exact hR57, (FF.tr (FF.tr (FF.uf (hF6.mo (by decide) (by decide)) (by decide)) (hF35.mo (by decide) (by decide))) (hF46.mo (by decide) (by decide)))⟩
    · skip
      refine rc_p (p_bipush (v := (-3)) (dk_at ktX7_confirms_0 15 rfl) (by decide) (b := 31) rfl) ?_
      refine r_iret (dk_at ktX7_confirms_0 16 rfl) rfl rfl ⟨_, rfl, ?_⟩
      have he := fCon_n (σ := σ) (fun q => c26 (q.2.trans er))
      exact ⟨congrArg Prod.fst he, rfl, by rw [he]; exact hR7, (hF6.mo (by decide) (by decide))⟩
set_option maxRecDepth 4000 in
set_option maxHeartbeats 4000000 in
theorem s_X7_readStatement {n : Nat} {sh : mS} {G : mG} {I : mI} {J : mJ} {m : Nat} {T : tT} {nn : Nat} (hm : ModG n sh G m) (hT : TR m I T nn) (h14 : I m 14 = 0) (p : Nat) (hp : I m 11 = nI p) (hpn : p ≤ nn) {S : PSt} (hS : RS m I S) (hG : GS S)  : Sp yX7_readStatement cX7_readStatement 1 (some FieldType.boolean) 7 336 0 0 [.ref m] n sh G I J (Qi (fun r_ I_ J_ => bi (decide ((stmtO T nn p S).k = 0)) = r_ ∧ J = J_ ∧ PQ m I I_ (stmtO T nn p S))) nX := by
  refine Sp.of (by decide) (ls := [(0, .ref m)]) (fun _ => rfl) (fun _ => Nat.le_of_ble_eq_true rfl) ?_
  have hn := hT.1.1
  have hsk := txSk_le (T := T) hpn
  have hwe := txWe_le (T := T) hsk.2
  have hsk2 := txSk_le (T := T) hwe.2
  have hg := hG.2.2.2.2
  refine rc_p (p_aload_n 0 (dk_at ktX7_readStatement_0 0 rfl) rfl rfl (b := 1) rfl) ?_
  refine r_iV (As' := []) (rest := []) (s_X7_see hm hT p hp (by omega)) cw_X7_109 qi_X7_see qv_X7_see rfl hm.l0 hm.s0 (dk_at ktX7_readStatement_0 1 rfl) rfl rfl (Nat.le_of_ble_eq_true rfl) (by decide) (b := 4) rfl (fun v4 I1 J2 q3 => ?_)
  obtain ⟨rfl, rfl, hF5, h6, h7⟩ := q3
  refine rc_p (p_pop (dk_at ktX7_readStatement_0 2 rfl) rfl (b := 5) rfl) ?_
  refine rc_p (p_aload_n 0 (dk_at ktX7_readStatement_0 3 rfl) rfl rfl (b := 6) rfl) ?_
  refine r_ldcS (tx := "image") (i := 1) (by simp [bStr, RX5, RX7]) (dk_at ktX7_readStatement_0 4 rfl) (b := 8) rfl ?_
  refine r_iV (As' := [.ref (1000 + 1)]) (rest := []) (s_X7_isWord hm (hT.fr (show FP m I I1 from (FF.rf.tr (hF5.mo (by simp) (by simp))))) (txSk T nn p) h7 (by omega) 1 (by decide)) cw_X7_137 qi_X7_isWord qv_X7_isWord rfl hm.l0 hm.s0 (dk_at ktX7_readStatement_0 5 rfl) rfl rfl (Nat.le_of_ble_eq_true rfl) (by decide) (b := 11) rfl (fun v11 I8 J9 q10 => ?_)
  obtain ⟨rfl, rfl, rfl⟩ := q10
  refine r_if_eq (dk_at ktX7_readStatement_0 6 rfl) (b := 19) (by decide) (b2 := 14) rfl (fun c11 => ?_) (fun c11 => ?_)
  · have c11 := bi_f c11
    refine rc_p (p_aload_n 0 (dk_at ktX7_readStatement_0 10 rfl) rfl rfl (b := 20) rfl) ?_
    refine r_ldcS (tx := "tries") (i := 2) (by simp [bStr, RX5, RX7]) (dk_at ktX7_readStatement_0 11 rfl) (b := 22) rfl ?_
    refine r_iV (As' := [.ref (1000 + 2)]) (rest := []) (s_X7_isWord hm (hT.fr (show FP m I I1 from (FF.rf.tr (hF5.mo (by simp) (by simp))))) (txSk T nn p) h7 (by omega) 2 (by decide)) cw_X7_137 qi_X7_isWord qv_X7_isWord rfl hm.l0 hm.s0 (dk_at ktX7_readStatement_0 12 rfl) rfl rfl (Nat.le_of_ble_eq_true rfl) (by decide) (b := 25) rfl (fun v15 I12 J13 q14 => ?_)
    obtain ⟨rfl, rfl, rfl⟩ := q14
    refine r_if_eq (dk_at ktX7_readStatement_0 13 rfl) (b := 59) (by decide) (b2 := 28) rfl (fun c25 => ?_) (fun c25 => ?_)
    · have c25 := bi_f c25
      refine rc_p (p_aload_n 0 (dk_at ktX7_readStatement_0 31 rfl) rfl rfl (b := 60) rfl) ?_
      refine r_ldcS (tx := "life") (i := 3) (by simp [bStr, RX5, RX7]) (dk_at ktX7_readStatement_0 32 rfl) (b := 62) rfl ?_
      refine r_iV (As' := [.ref (1000 + 3)]) (rest := []) (s_X7_isWord hm (hT.fr (show FP m I I1 from (FF.rf.tr (hF5.mo (by simp) (by simp))))) (txSk T nn p) h7 (by omega) 3 (by decide)) cw_X7_137 qi_X7_isWord qv_X7_isWord rfl hm.l0 hm.s0 (dk_at ktX7_readStatement_0 33 rfl) rfl rfl (Nat.le_of_ble_eq_true rfl) (by decide) (b := 65) rfl (fun v19 I16 J17 q18 => ?_)
      obtain ⟨rfl, rfl, rfl⟩ := q18
      refine r_if_eq (dk_at ktX7_readStatement_0 34 rfl) (b := 101) (by decide) (b2 := 68) rfl (fun c65 => ?_) (fun c65 => ?_)
      · have c65 := bi_f c65
        refine rc_p (p_aload_n 0 (dk_at ktX7_readStatement_0 52 rfl) rfl rfl (b := 102) rfl) ?_
        refine r_ldcS (tx := "floor") (i := 4) (by simp [bStr, RX5, RX7]) (dk_at ktX7_readStatement_0 53 rfl) (b := 104) rfl ?_
        refine r_iV (As' := [.ref (1000 + 4)]) (rest := []) (s_X7_isWord hm (hT.fr (show FP m I I1 from (FF.rf.tr (hF5.mo (by simp) (by simp))))) (txSk T nn p) h7 (by omega) 4 (by decide)) cw_X7_137 qi_X7_isWord qv_X7_isWord rfl hm.l0 hm.s0 (dk_at ktX7_readStatement_0 54 rfl) rfl rfl (Nat.le_of_ble_eq_true rfl) (by decide) (b := 107) rfl (fun v23 I20 J21 q22 => ?_)
        obtain ⟨rfl, rfl, rfl⟩ := q22
        refine r_if_eq (dk_at ktX7_readStatement_0 55 rfl) (b := 148) (by decide) (b2 := 110) rfl (fun c107 => ?_) (fun c107 => ?_)
        · have c107 := bi_f c107
          refine rc_p (p_aload_n 0 (dk_at ktX7_readStatement_1 16 rfl) rfl rfl (b := 149) rfl) ?_
          refine r_ldcS (tx := "good") (i := 5) (by simp [bStr, RX5, RX7]) (dk_at ktX7_readStatement_1 17 rfl) (b := 151) rfl ?_
          refine r_iV (As' := [.ref (1000 + 5)]) (rest := []) (s_X7_isWord hm (hT.fr (show FP m I I1 from (FF.rf.tr (hF5.mo (by simp) (by simp))))) (txSk T nn p) h7 (by omega) 5 (by decide)) cw_X7_137 qi_X7_isWord qv_X7_isWord rfl hm.l0 hm.s0 (dk_at ktX7_readStatement_1 18 rfl) rfl rfl (Nat.le_of_ble_eq_true rfl) (by decide) (b := 154) rfl (fun v27 I24 J25 q26 => ?_)
          obtain ⟨rfl, rfl, rfl⟩ := q26
          refine r_if_ne (dk_at ktX7_readStatement_1 19 rfl) (b := 163) (by decide) (b2 := 157) rfl (fun c154 => ?_) (fun c154 => ?_)
          · have c154 := bi_t c154
            refine rc_p (p_aload_n 0 (dk_at ktX7_readStatement_1 24 rfl) rfl rfl (b := 164) rfl) ?_
            refine rc_p (p_iconst (v := 2) (dk_at ktX7_readStatement_1 25 rfl) (by decide) (b := 165) rfl) ?_
            refine r_iV (As' := [.int 2]) (rest := []) (s_X7_once hm (hT.fr (show FP m I I1 from (FF.rf.tr (hF5.mo (by simp) (by simp))))) (((hF5.2 14 (by decide))).trans h14) (txSk T nn p) h7 (hS.fr (hF5.mo (by simp) (by simp))) hg 2 (by omega)) cw_X7_152 qi_X7_once qv_X7_once rfl hm.l0 hm.s0 (dk_at ktX7_readStatement_1 26 rfl) rfl rfl (Nat.le_of_ble_eq_true rfl) (by decide) (b := 168) rfl (fun v31 I28 J29 q30 => ?_)
            obtain ⟨rfl, rfl, hF32, hy33, hy34⟩ := q30
            refine r_if_eq (dk_at ktX7_readStatement_1 27 rfl) (b := 187) (by decide) (b2 := 171) rfl (fun c168 => ?_) (fun c168 => ?_)
            · have c168 := bi_f c168
              have hk35 : S.gv.testBit 2 = true := by simpa using c168
              obtain ⟨h36, h37⟩ := hy34 hk35
              refine rc_p (p_iconst (v := 0) (dk_at ktX7_readStatement_1 36 rfl) (by decide) (b := 188) rfl) ?_
              refine r_iret (dk_at ktX7_readStatement_1 37 rfl) rfl rfl ⟨_, rfl, ?_⟩
              have ho : stmtO T nn p S = _ := (if_neg (by rw [c11]; decide)).trans ((if_neg (by rw [c25]; decide)).trans ((if_neg (by rw [c65]; decide)).trans ((if_neg (by rw [c107]; decide)).trans ((if_pos c154).trans (if_pos hk35)))))
              rw [ho]
              exact ⟨bk_1 (k := 4) (by decide), rfl, PQ.bad (by decide) (show FP m I I28 from ((FF.rf.tr (hF5.mo (by simp) (by simp))).tr (hF32.mo (by simp) (by simp)))) h36 h37⟩
            · have c168 := bi_t c168
              have hk38 : S.gv.testBit 2 = false := by simpa using c168
              obtain ⟨hF39, h40⟩ := hy33 hk38
              refine rc_p (p_aload_n 0 (dk_at ktX7_readStatement_1 28 rfl) rfl rfl (b := 172) rfl) ?_
              refine r_iV (As' := []) (rest := []) (s_X7_passes hm (hT.fr (show FP m I I28 from ((FF.rf.tr (hF5.mo (by simp) (by simp))).tr (hF39.mo (by simp) (by simp))))) (txSk T nn p) (((hF39.2 12 (by decide))).trans h7) (by omega)) cw_X7_141 qi_X7_passes qv_X7_passes rfl hm.l0 hm.s0 (dk_at ktX7_readStatement_1 29 rfl) rfl rfl (Nat.le_of_ble_eq_true rfl) (by decide) (b := 175) rfl (fun v44 I41 J42 q43 => ?_)
              obtain ⟨rfl, rfl, hF45, h46⟩ := q43
              refine r_if_eq (dk_at ktX7_readStatement_1 30 rfl) (b := 187) (by decide) (b2 := 178) rfl (fun c175 => ?_) (fun c175 => ?_)
              · first | exact absurd c175 (by decide) | exact absurd (by decide) c175
              · skip
                refine rc_p (p_aload_n 0 (dk_at ktX7_readStatement_1 31 rfl) rfl rfl (b := 179) rfl) ?_
                refine rc_p (p_iconst (v := 0) (dk_at ktX7_readStatement_1 32 rfl) (by decide) (b := 180) rfl) ?_
                refine rc_p (p_iconst (v := 1) (dk_at ktX7_readStatement_1 33 rfl) (by decide) (b := 181) rfl) ?_
                refine r_iV (As' := [.int 0, .int 1]) (rest := []) (s_X7_reads hm (hT.fr (show FP m I I41 from (((FF.rf.tr (hF5.mo (by simp) (by simp))).tr (hF39.mo (by simp) (by simp))).tr (hF45.mo (by simp) (by simp))))) (((hF45.2 14 (by decide))).trans (((hF39.2 14 (by decide))).trans (((hF5.2 14 (by decide))).trans h14))) (txWe T nn (txSk T nn p)) h46 (by omega) 0 1 (by decide) (by decide)) cw_X7_131 qi_X7_reads qv_X7_reads rfl hm.l0 hm.s0 (dk_at ktX7_readStatement_1 34 rfl) rfl rfl (Nat.le_of_ble_eq_true rfl) (by decide) (b := 184) rfl (fun v50 I47 J48 q49 => ?_)
                obtain ⟨rfl, rfl, hF51, h52, hy53, hy54⟩ := q49
                refine r_if_ne (dk_at ktX7_readStatement_1 35 rfl) (b := 189) (by decide) (b2 := 187) rfl (fun c184 => ?_) (fun c184 => ?_)
                · have c184 := bi_t c184
                  have hk58 := of_decide_eq_true c184
                  obtain ⟨h55, h56, h57⟩ := hy53 hk58
                  have hd59 := txDe_le (T := T) (n := nn) (p := txSk T nn (txWe T nn (txSk T nn p))) (by omega)
                  have hs60 := txSk_le (T := T) (n := nn) (p := txDe T nn (txSk T nn (txWe T nn (txSk T nn p)))) (by omega)
                  have hin61 := txK_in hk58
                  refine rc_p (p_aload_n 0 (dk_at ktX7_readStatement_1 38 rfl) rfl rfl (b := 190) rfl) ?_
                  refine rc_p (p_aload_n 0 (dk_at ktX7_readStatement_1 39 rfl) rfl rfl (b := 191) rfl) ?_
                  refine r_geti fl_X7_128 rfl hm.l0 hm.s0 (dk_at ktX7_readStatement_1 40 rfl) (v := (nI (txVa T nn (txSk T nn (txWe T nn (txSk T nn p)))))) h57 (b := 194) rfl ?_
                  refine r_puti fl_X7_29 fw_X7_8 rfl hm.l0 hm.s0 rfl rfl (dk_at ktX7_readStatement_1 41 rfl) (b := 197) rfl ?_
                  refine rc_p (p_iconst (v := 1) (dk_at ktX7_readStatement_1 42 rfl) (by decide) (b := 198) rfl) ?_
                  refine r_iret (dk_at ktX7_readStatement_1 43 rfl) rfl rfl ⟨_, rfl, ?_⟩
                  have ho : stmtO T nn p S = _ := (if_neg (by rw [c11]; decide)).trans ((if_neg (by rw [c25]; decide)).trans ((if_neg (by rw [c65]; decide)).trans ((if_neg (by rw [c107]; decide)).trans ((if_pos c154).trans ((if_neg (by rw [hk38]; decide)).trans (numO_y hk58))))))
                  rw [ho]
                  exact ⟨rfl, rfl, PQ.good (show FP m I (up2 I47 m 8 (nI (txVa T nn (txSk T nn (txWe T nn (txSk T nn p)))))) from (((((FF.rf.tr (hF5.mo (by simp) (by simp))).tr (hF39.mo (by simp) (by simp))).tr (hF45.mo (by simp) (by simp))).tr (hF51.mo (by simp) (by simp))).uf (by simp))) ((up2_n (by omega)).trans h55) ((up2_n (by omega)).trans h56) ((h40.fr (hF45.mo (by simp) (by simp))).fr hF51).sg⟩
                · have c184 := bi_f c184
                  have hk64 := of_decide_eq_false c184
                  obtain ⟨h62, h63⟩ := hy54 hk64
                  refine rc_p (p_iconst (v := 0) (dk_at ktX7_readStatement_1 36 rfl) (by decide) (b := 188) rfl) ?_
                  refine r_iret (dk_at ktX7_readStatement_1 37 rfl) rfl rfl ⟨_, rfl, ?_⟩
                  have ho : stmtO T nn p S = _ := (if_neg (by rw [c11]; decide)).trans ((if_neg (by rw [c25]; decide)).trans ((if_neg (by rw [c65]; decide)).trans ((if_neg (by rw [c107]; decide)).trans ((if_pos c154).trans ((if_neg (by rw [hk38]; decide)).trans (numO_n hk64))))))
                  rw [ho]
                  exact ⟨bk_1 hk64, rfl, PQ.bad hk64 (show FP m I I47 from ((((FF.rf.tr (hF5.mo (by simp) (by simp))).tr (hF39.mo (by simp) (by simp))).tr (hF45.mo (by simp) (by simp))).tr (hF51.mo (by simp) (by simp)))) h62 h63⟩
          · have c154 := bi_f c154
            refine rc_p (p_aload_n 0 (dk_at ktX7_readStatement_1 20 rfl) rfl rfl (b := 158) rfl) ?_
            refine rc_p (p_iconst (v := 1) (dk_at ktX7_readStatement_1 21 rfl) (by decide) (b := 159) rfl) ?_
            refine r_iV (As' := [.int 1]) (rest := []) (s_X7_fails hm (hT.fr (show FP m I I1 from (FF.rf.tr (hF5.mo (by simp) (by simp))))) (((hF5.2 14 (by decide))).trans h14) (txSk T nn p) h7 1) cw_X7_115 qi_X7_fails qv_X7_fails rfl hm.l0 hm.s0 (dk_at ktX7_readStatement_1 22 rfl) rfl rfl (Nat.le_of_ble_eq_true rfl) (by decide) (b := 162) rfl (fun v68 I65 J66 q67 => ?_)
            obtain ⟨rfl, rfl, hF69, h70, h71⟩ := q67
            refine r_iret (dk_at ktX7_readStatement_1 23 rfl) rfl rfl ⟨_, rfl, ?_⟩
            have ho : stmtO T nn p S = _ := (if_neg (by rw [c11]; decide)).trans ((if_neg (by rw [c25]; decide)).trans ((if_neg (by rw [c65]; decide)).trans ((if_neg (by rw [c107]; decide)).trans (if_neg (by rw [c154]; decide)))))
            rw [ho]
            exact ⟨bk_1 (k := 1) (by decide), rfl, PQ.bad (by decide) (show FP m I I65 from ((FF.rf.tr (hF5.mo (by simp) (by simp))).tr (hF69.mo (by simp) (by simp)))) h70 h71⟩
        · have c107 := bi_t c107
          refine rc_p (p_aload_n 0 (dk_at ktX7_readStatement_0 56 rfl) rfl rfl (b := 111) rfl) ?_
          refine rc_p (p_iconst (v := 1) (dk_at ktX7_readStatement_0 57 rfl) (by decide) (b := 112) rfl) ?_
          refine r_iV (As' := [.int 1]) (rest := []) (s_X7_once hm (hT.fr (show FP m I I1 from (FF.rf.tr (hF5.mo (by simp) (by simp))))) (((hF5.2 14 (by decide))).trans h14) (txSk T nn p) h7 (hS.fr (hF5.mo (by simp) (by simp))) hg 1 (by omega)) cw_X7_152 qi_X7_once qv_X7_once rfl hm.l0 hm.s0 (dk_at ktX7_readStatement_0 58 rfl) rfl rfl (Nat.le_of_ble_eq_true rfl) (by decide) (b := 115) rfl (fun v75 I72 J73 q74 => ?_)
          obtain ⟨rfl, rfl, hF76, hy77, hy78⟩ := q74
          refine r_if_eq (dk_at ktX7_readStatement_0 59 rfl) (b := 136) (by decide) (b2 := 118) rfl (fun c115 => ?_) (fun c115 => ?_)
          · have c115 := bi_f c115
            have hk79 : S.gv.testBit 1 = true := by simpa using c115
            obtain ⟨h80, h81⟩ := hy78 hk79
            refine rc_p (p_iconst (v := 0) (dk_at ktX7_readStatement_1 8 rfl) (by decide) (b := 137) rfl) ?_
            refine r_iret (dk_at ktX7_readStatement_1 9 rfl) rfl rfl ⟨_, rfl, ?_⟩
            have ho : stmtO T nn p S = _ := (if_neg (by rw [c11]; decide)).trans ((if_neg (by rw [c25]; decide)).trans ((if_neg (by rw [c65]; decide)).trans ((if_pos c107).trans (if_pos hk79))))
            rw [ho]
            exact ⟨bk_1 (k := 4) (by decide), rfl, PQ.bad (by decide) (show FP m I I72 from ((FF.rf.tr (hF5.mo (by simp) (by simp))).tr (hF76.mo (by simp) (by simp)))) h80 h81⟩
          · have c115 := bi_t c115
            have hk82 : S.gv.testBit 1 = false := by simpa using c115
            obtain ⟨hF83, h84⟩ := hy77 hk82
            refine rc_p (p_aload_n 0 (dk_at ktX7_readStatement_1 0 rfl) rfl rfl (b := 119) rfl) ?_
            refine r_iV (As' := []) (rest := []) (s_X7_passes hm (hT.fr (show FP m I I72 from ((FF.rf.tr (hF5.mo (by simp) (by simp))).tr (hF83.mo (by simp) (by simp))))) (txSk T nn p) (((hF83.2 12 (by decide))).trans h7) (by omega)) cw_X7_141 qi_X7_passes qv_X7_passes rfl hm.l0 hm.s0 (dk_at ktX7_readStatement_1 1 rfl) rfl rfl (Nat.le_of_ble_eq_true rfl) (by decide) (b := 122) rfl (fun v88 I85 J86 q87 => ?_)
            obtain ⟨rfl, rfl, hF89, h90⟩ := q87
            refine r_if_eq (dk_at ktX7_readStatement_1 2 rfl) (b := 136) (by decide) (b2 := 125) rfl (fun c122 => ?_) (fun c122 => ?_)
            · first | exact absurd c122 (by decide) | exact absurd (by decide) c122
            · skip
              refine rc_p (p_aload_n 0 (dk_at ktX7_readStatement_1 3 rfl) rfl rfl (b := 126) rfl) ?_
              refine rc_p (p_iconst (v := 0) (dk_at ktX7_readStatement_1 4 rfl) (by decide) (b := 127) rfl) ?_
              refine rc_p (p_sipush (v := 255) (dk_at ktX7_readStatement_1 5 rfl) (by decide) (b := 130) rfl) ?_
              refine r_iV (As' := [.int 0, .int 255]) (rest := []) (s_X7_reads hm (hT.fr (show FP m I I85 from (((FF.rf.tr (hF5.mo (by simp) (by simp))).tr (hF83.mo (by simp) (by simp))).tr (hF89.mo (by simp) (by simp))))) (((hF89.2 14 (by decide))).trans (((hF83.2 14 (by decide))).trans (((hF5.2 14 (by decide))).trans h14))) (txWe T nn (txSk T nn p)) h90 (by omega) 0 255 (by decide) (by decide)) cw_X7_131 qi_X7_reads qv_X7_reads rfl hm.l0 hm.s0 (dk_at ktX7_readStatement_1 6 rfl) rfl rfl (Nat.le_of_ble_eq_true rfl) (by decide) (b := 133) rfl (fun v94 I91 J92 q93 => ?_)
              obtain ⟨rfl, rfl, hF95, h96, hy97, hy98⟩ := q93
              refine r_if_ne (dk_at ktX7_readStatement_1 7 rfl) (b := 138) (by decide) (b2 := 136) rfl (fun c133 => ?_) (fun c133 => ?_)
              · have c133 := bi_t c133
                have hk102 := of_decide_eq_true c133
                obtain ⟨h99, h100, h101⟩ := hy97 hk102
                have hd103 := txDe_le (T := T) (n := nn) (p := txSk T nn (txWe T nn (txSk T nn p))) (by omega)
                have hs104 := txSk_le (T := T) (n := nn) (p := txDe T nn (txSk T nn (txWe T nn (txSk T nn p)))) (by omega)
                have hin105 := txK_in hk102
                refine rc_p (p_aload_n 0 (dk_at ktX7_readStatement_1 10 rfl) rfl rfl (b := 139) rfl) ?_
                refine rc_p (p_aload_n 0 (dk_at ktX7_readStatement_1 11 rfl) rfl rfl (b := 140) rfl) ?_
                refine r_geti fl_X7_128 rfl hm.l0 hm.s0 (dk_at ktX7_readStatement_1 12 rfl) (v := (nI (txVa T nn (txSk T nn (txWe T nn (txSk T nn p)))))) h101 (b := 143) rfl ?_
                refine r_puti fl_X7_54 fw_X7_7 rfl hm.l0 hm.s0 rfl rfl (dk_at ktX7_readStatement_1 13 rfl) (b := 146) rfl ?_
                refine rc_p (p_iconst (v := 1) (dk_at ktX7_readStatement_1 14 rfl) (by decide) (b := 147) rfl) ?_
                refine r_iret (dk_at ktX7_readStatement_1 15 rfl) rfl rfl ⟨_, rfl, ?_⟩
                have ho : stmtO T nn p S = _ := (if_neg (by rw [c11]; decide)).trans ((if_neg (by rw [c25]; decide)).trans ((if_neg (by rw [c65]; decide)).trans ((if_pos c107).trans ((if_neg (by rw [hk82]; decide)).trans (numO_y hk102)))))
                rw [ho]
                exact ⟨rfl, rfl, PQ.good (show FP m I (up2 I91 m 7 (nI (txVa T nn (txSk T nn (txWe T nn (txSk T nn p)))))) from (((((FF.rf.tr (hF5.mo (by simp) (by simp))).tr (hF83.mo (by simp) (by simp))).tr (hF89.mo (by simp) (by simp))).tr (hF95.mo (by simp) (by simp))).uf (by simp))) ((up2_n (by omega)).trans h99) ((up2_n (by omega)).trans h100) ((h84.fr (hF89.mo (by simp) (by simp))).fr hF95).sf⟩
              · have c133 := bi_f c133
                have hk108 := of_decide_eq_false c133
                obtain ⟨h106, h107⟩ := hy98 hk108
                refine rc_p (p_iconst (v := 0) (dk_at ktX7_readStatement_1 8 rfl) (by decide) (b := 137) rfl) ?_
                refine r_iret (dk_at ktX7_readStatement_1 9 rfl) rfl rfl ⟨_, rfl, ?_⟩
                have ho : stmtO T nn p S = _ := (if_neg (by rw [c11]; decide)).trans ((if_neg (by rw [c25]; decide)).trans ((if_neg (by rw [c65]; decide)).trans ((if_pos c107).trans ((if_neg (by rw [hk82]; decide)).trans (numO_n hk108)))))
                rw [ho]
                exact ⟨bk_1 hk108, rfl, PQ.bad hk108 (show FP m I I91 from ((((FF.rf.tr (hF5.mo (by simp) (by simp))).tr (hF83.mo (by simp) (by simp))).tr (hF89.mo (by simp) (by simp))).tr (hF95.mo (by simp) (by simp)))) h106 h107⟩
      · have c65 := bi_t c65
        refine rc_p (p_aload_n 0 (dk_at ktX7_readStatement_0 35 rfl) rfl rfl (b := 69) rfl) ?_
        refine rc_p (p_iconst (v := 5) (dk_at ktX7_readStatement_0 36 rfl) (by decide) (b := 70) rfl) ?_
        refine r_iV (As' := [.int 5]) (rest := []) (s_X7_once hm (hT.fr (show FP m I I1 from (FF.rf.tr (hF5.mo (by simp) (by simp))))) (((hF5.2 14 (by decide))).trans h14) (txSk T nn p) h7 (hS.fr (hF5.mo (by simp) (by simp))) hg 5 (by omega)) cw_X7_152 qi_X7_once qv_X7_once rfl hm.l0 hm.s0 (dk_at ktX7_readStatement_0 37 rfl) rfl rfl (Nat.le_of_ble_eq_true rfl) (by decide) (b := 73) rfl (fun v112 I109 J110 q111 => ?_)
        obtain ⟨rfl, rfl, hF113, hy114, hy115⟩ := q111
        refine r_if_eq (dk_at ktX7_readStatement_0 38 rfl) (b := 99) (by decide) (b2 := 76) rfl (fun c73 => ?_) (fun c73 => ?_)
        · have c73 := bi_f c73
          have hk116 : S.gv.testBit 5 = true := by simpa using c73
          obtain ⟨h117, h118⟩ := hy115 hk116
          refine rc_p (p_iconst (v := 0) (dk_at ktX7_readStatement_0 50 rfl) (by decide) (b := 100) rfl) ?_
          refine r_iret (dk_at ktX7_readStatement_0 51 rfl) rfl rfl ⟨_, rfl, ?_⟩
          have ho : stmtO T nn p S = _ := (if_neg (by rw [c11]; decide)).trans ((if_neg (by rw [c25]; decide)).trans ((if_pos c65).trans (if_pos hk116)))
          rw [ho]
          exact ⟨bk_1 (k := 4) (by decide), rfl, PQ.bad (by decide) (show FP m I I109 from ((FF.rf.tr (hF5.mo (by simp) (by simp))).tr (hF113.mo (by simp) (by simp)))) h117 h118⟩
        · have c73 := bi_t c73
          have hk119 : S.gv.testBit 5 = false := by simpa using c73
          obtain ⟨hF120, h121⟩ := hy114 hk119
          refine rc_p (p_aload_n 0 (dk_at ktX7_readStatement_0 39 rfl) rfl rfl (b := 77) rfl) ?_
          refine r_iV (As' := []) (rest := []) (s_X7_passes hm (hT.fr (show FP m I I109 from ((FF.rf.tr (hF5.mo (by simp) (by simp))).tr (hF120.mo (by simp) (by simp))))) (txSk T nn p) (((hF120.2 12 (by decide))).trans h7) (by omega)) cw_X7_141 qi_X7_passes qv_X7_passes rfl hm.l0 hm.s0 (dk_at ktX7_readStatement_0 40 rfl) rfl rfl (Nat.le_of_ble_eq_true rfl) (by decide) (b := 80) rfl (fun v125 I122 J123 q124 => ?_)
          obtain ⟨rfl, rfl, hF126, h127⟩ := q124
          refine r_if_eq (dk_at ktX7_readStatement_0 41 rfl) (b := 99) (by decide) (b2 := 83) rfl (fun c80 => ?_) (fun c80 => ?_)
          · first | exact absurd c80 (by decide) | exact absurd (by decide) c80
          · skip
            refine rc_p (p_aload_n 0 (dk_at ktX7_readStatement_0 42 rfl) rfl rfl (b := 84) rfl) ?_
            refine rc_p (p_iconst (v := 5) (dk_at ktX7_readStatement_0 43 rfl) (by decide) (b := 85) rfl) ?_
            refine rc_p (p_iconst (v := 0) (dk_at ktX7_readStatement_0 44 rfl) (by decide) (b := 86) rfl) ?_
            refine rc_p (p_sipush (v := 1000) (dk_at ktX7_readStatement_0 45 rfl) (by decide) (b := 89) rfl) ?_
            refine r_iV (As' := [.int 5, .int 0, .int 1000]) (rest := []) (s_X7_readsInto hm (hT.fr (show FP m I I122 from (((FF.rf.tr (hF5.mo (by simp) (by simp))).tr (hF120.mo (by simp) (by simp))).tr (hF126.mo (by simp) (by simp))))) (((hF126.2 14 (by decide))).trans (((hF120.2 14 (by decide))).trans (((hF5.2 14 (by decide))).trans h14))) (txWe T nn (txSk T nn p)) h127 (by omega) (h121.fr (hF126.mo (by simp) (by simp))) 5 0 1000 (by omega) (by decide) (by decide)) cw_X7_145 qi_X7_readsInto qv_X7_readsInto rfl hm.l0 hm.s0 (dk_at ktX7_readStatement_0 46 rfl) rfl rfl (Nat.le_of_ble_eq_true rfl) (by decide) (b := 92) rfl (fun v131 I128 J129 q130 => ?_)
            obtain ⟨rfl, rfl, hF132, h133, hy134, hy135⟩ := q130
            refine r_if_eq (dk_at ktX7_readStatement_0 47 rfl) (b := 99) (by decide) (b2 := 95) rfl (fun c92 => ?_) (fun c92 => ?_)
            · have c92 := bi_f c92
              have hk138 := of_decide_eq_false c92
              obtain ⟨h136, h137⟩ := hy135 hk138
              refine rc_p (p_iconst (v := 0) (dk_at ktX7_readStatement_0 50 rfl) (by decide) (b := 100) rfl) ?_
              refine r_iret (dk_at ktX7_readStatement_0 51 rfl) rfl rfl ⟨_, rfl, ?_⟩
              have ho : stmtO T nn p S = _ := (if_neg (by rw [c11]; decide)).trans ((if_neg (by rw [c25]; decide)).trans ((if_pos c65).trans ((if_neg (by rw [hk119]; decide)).trans (numO_n hk138))))
              rw [ho]
              exact ⟨bk_1 hk138, rfl, PQ.bad hk138 (show FP m I I128 from ((((FF.rf.tr (hF5.mo (by simp) (by simp))).tr (hF120.mo (by simp) (by simp))).tr (hF126.mo (by simp) (by simp))).tr (hF132.mo (by simp) (by simp)))) h136 h137⟩
            · have c92 := bi_t c92
              have hk142 := of_decide_eq_true c92
              obtain ⟨h139, h140, h141⟩ := hy134 hk142
              have hd143 := txDe_le (T := T) (n := nn) (p := txSk T nn (txWe T nn (txSk T nn p))) (by omega)
              have hs144 := txSk_le (T := T) (n := nn) (p := txDe T nn (txSk T nn (txWe T nn (txSk T nn p)))) (by omega)
              have hin145 := txK_in hk142
              refine rc_p (p_iconst (v := 1) (dk_at ktX7_readStatement_0 48 rfl) (by decide) (b := 96) rfl) ?_
              refine rc_p (p_goto (b := 100) (dk_at ktX7_readStatement_0 49 rfl) (by decide)) ?_
              refine r_iret (dk_at ktX7_readStatement_0 51 rfl) rfl rfl ⟨_, rfl, ?_⟩
              have ho : stmtO T nn p S = _ := (if_neg (by rw [c11]; decide)).trans ((if_neg (by rw [c25]; decide)).trans ((if_pos c65).trans ((if_neg (by rw [hk119]; decide)).trans (numO_y hk142))))
              rw [ho]
              exact ⟨rfl, rfl, PQ.good (show FP m I I128 from ((((FF.rf.tr (hF5.mo (by simp) (by simp))).tr (hF120.mo (by simp) (by simp))).tr (hF126.mo (by simp) (by simp))).tr (hF132.mo (by simp) (by simp)))) h139 h140 h141⟩
    · have c25 := bi_t c25
      refine rc_p (p_aload_n 0 (dk_at ktX7_readStatement_0 14 rfl) rfl rfl (b := 29) rfl) ?_
      refine rc_p (p_iconst (v := 0) (dk_at ktX7_readStatement_0 15 rfl) (by decide) (b := 30) rfl) ?_
      refine r_iV (As' := [.int 0]) (rest := []) (s_X7_once hm (hT.fr (show FP m I I1 from (FF.rf.tr (hF5.mo (by simp) (by simp))))) (((hF5.2 14 (by decide))).trans h14) (txSk T nn p) h7 (hS.fr (hF5.mo (by simp) (by simp))) hg 0 (by omega)) cw_X7_152 qi_X7_once qv_X7_once rfl hm.l0 hm.s0 (dk_at ktX7_readStatement_0 16 rfl) rfl rfl (Nat.le_of_ble_eq_true rfl) (by decide) (b := 33) rfl (fun v149 I146 J147 q148 => ?_)
      obtain ⟨rfl, rfl, hF150, hy151, hy152⟩ := q148
      refine r_if_eq (dk_at ktX7_readStatement_0 17 rfl) (b := 57) (by decide) (b2 := 36) rfl (fun c33 => ?_) (fun c33 => ?_)
      · have c33 := bi_f c33
        have hk153 : S.gv.testBit 0 = true := by simpa using c33
        obtain ⟨h154, h155⟩ := hy152 hk153
        refine rc_p (p_iconst (v := 0) (dk_at ktX7_readStatement_0 29 rfl) (by decide) (b := 58) rfl) ?_
        refine r_iret (dk_at ktX7_readStatement_0 30 rfl) rfl rfl ⟨_, rfl, ?_⟩
        have ho : stmtO T nn p S = _ := (if_neg (by rw [c11]; decide)).trans ((if_pos c25).trans (if_pos hk153))
        rw [ho]
        exact ⟨bk_1 (k := 4) (by decide), rfl, PQ.bad (by decide) (show FP m I I146 from ((FF.rf.tr (hF5.mo (by simp) (by simp))).tr (hF150.mo (by simp) (by simp)))) h154 h155⟩
      · have c33 := bi_t c33
        have hk156 : S.gv.testBit 0 = false := by simpa using c33
        obtain ⟨hF157, h158⟩ := hy151 hk156
        refine rc_p (p_aload_n 0 (dk_at ktX7_readStatement_0 18 rfl) rfl rfl (b := 37) rfl) ?_
        refine r_iV (As' := []) (rest := []) (s_X7_passes hm (hT.fr (show FP m I I146 from ((FF.rf.tr (hF5.mo (by simp) (by simp))).tr (hF157.mo (by simp) (by simp))))) (txSk T nn p) (((hF157.2 12 (by decide))).trans h7) (by omega)) cw_X7_141 qi_X7_passes qv_X7_passes rfl hm.l0 hm.s0 (dk_at ktX7_readStatement_0 19 rfl) rfl rfl (Nat.le_of_ble_eq_true rfl) (by decide) (b := 40) rfl (fun v162 I159 J160 q161 => ?_)
        obtain ⟨rfl, rfl, hF163, h164⟩ := q161
        refine r_if_eq (dk_at ktX7_readStatement_0 20 rfl) (b := 57) (by decide) (b2 := 43) rfl (fun c40 => ?_) (fun c40 => ?_)
        · first | exact absurd c40 (by decide) | exact absurd (by decide) c40
        · skip
          refine rc_p (p_aload_n 0 (dk_at ktX7_readStatement_0 21 rfl) rfl rfl (b := 44) rfl) ?_
          refine rc_p (p_iconst (v := 3) (dk_at ktX7_readStatement_0 22 rfl) (by decide) (b := 45) rfl) ?_
          refine rc_p (p_iconst (v := 1) (dk_at ktX7_readStatement_0 23 rfl) (by decide) (b := 46) rfl) ?_
          refine rc_p (p_iconst (v := 3) (dk_at ktX7_readStatement_0 24 rfl) (by decide) (b := 47) rfl) ?_
          refine r_iV (As' := [.int 3, .int 1, .int 3]) (rest := []) (s_X7_readsInto hm (hT.fr (show FP m I I159 from (((FF.rf.tr (hF5.mo (by simp) (by simp))).tr (hF157.mo (by simp) (by simp))).tr (hF163.mo (by simp) (by simp))))) (((hF163.2 14 (by decide))).trans (((hF157.2 14 (by decide))).trans (((hF5.2 14 (by decide))).trans h14))) (txWe T nn (txSk T nn p)) h164 (by omega) (h158.fr (hF163.mo (by simp) (by simp))) 3 1 3 (by omega) (by decide) (by decide)) cw_X7_145 qi_X7_readsInto qv_X7_readsInto rfl hm.l0 hm.s0 (dk_at ktX7_readStatement_0 25 rfl) rfl rfl (Nat.le_of_ble_eq_true rfl) (by decide) (b := 50) rfl (fun v168 I165 J166 q167 => ?_)
          obtain ⟨rfl, rfl, hF169, h170, hy171, hy172⟩ := q167
          refine r_if_eq (dk_at ktX7_readStatement_0 26 rfl) (b := 57) (by decide) (b2 := 53) rfl (fun c50 => ?_) (fun c50 => ?_)
          · have c50 := bi_f c50
            have hk175 := of_decide_eq_false c50
            obtain ⟨h173, h174⟩ := hy172 hk175
            refine rc_p (p_iconst (v := 0) (dk_at ktX7_readStatement_0 29 rfl) (by decide) (b := 58) rfl) ?_
            refine r_iret (dk_at ktX7_readStatement_0 30 rfl) rfl rfl ⟨_, rfl, ?_⟩
            have ho : stmtO T nn p S = _ := (if_neg (by rw [c11]; decide)).trans ((if_pos c25).trans ((if_neg (by rw [hk156]; decide)).trans (numO_n hk175)))
            rw [ho]
            exact ⟨bk_1 hk175, rfl, PQ.bad hk175 (show FP m I I165 from ((((FF.rf.tr (hF5.mo (by simp) (by simp))).tr (hF157.mo (by simp) (by simp))).tr (hF163.mo (by simp) (by simp))).tr (hF169.mo (by simp) (by simp)))) h173 h174⟩
          · have c50 := bi_t c50
            have hk179 := of_decide_eq_true c50
            obtain ⟨h176, h177, h178⟩ := hy171 hk179
            have hd180 := txDe_le (T := T) (n := nn) (p := txSk T nn (txWe T nn (txSk T nn p))) (by omega)
            have hs181 := txSk_le (T := T) (n := nn) (p := txDe T nn (txSk T nn (txWe T nn (txSk T nn p)))) (by omega)
            have hin182 := txK_in hk179
            refine rc_p (p_iconst (v := 1) (dk_at ktX7_readStatement_0 27 rfl) (by decide) (b := 54) rfl) ?_
            refine rc_p (p_goto (b := 58) (dk_at ktX7_readStatement_0 28 rfl) (by decide)) ?_
            refine r_iret (dk_at ktX7_readStatement_0 30 rfl) rfl rfl ⟨_, rfl, ?_⟩
            have ho : stmtO T nn p S = _ := (if_neg (by rw [c11]; decide)).trans ((if_pos c25).trans ((if_neg (by rw [hk156]; decide)).trans (numO_y hk179)))
            rw [ho]
            exact ⟨rfl, rfl, PQ.good (show FP m I I165 from ((((FF.rf.tr (hF5.mo (by simp) (by simp))).tr (hF157.mo (by simp) (by simp))).tr (hF163.mo (by simp) (by simp))).tr (hF169.mo (by simp) (by simp)))) h176 h177 h178⟩
  · have c11 := bi_t c11
    refine rc_p (p_aload_n 0 (dk_at ktX7_readStatement_0 7 rfl) rfl rfl (b := 15) rfl) ?_
    refine r_iV (As' := []) (rest := []) (s_X7_readImage hm (hT.fr (show FP m I I1 from (FF.rf.tr (hF5.mo (by simp) (by simp))))) (((hF5.2 14 (by decide))).trans h14) (txSk T nn p) h7 (by omega) (hS.fr (hF5.mo (by simp) (by simp))) hG) cw_X7_161 qi_X7_readImage qv_X7_readImage rfl hm.l0 hm.s0 (dk_at ktX7_readStatement_0 8 rfl) rfl rfl (Nat.le_of_ble_eq_true rfl) (by decide) (b := 18) rfl (fun v186 I183 J184 q185 => ?_)
    obtain ⟨rfl, rfl, hF187, hy188, hy189⟩ := q185
    refine r_iret (dk_at ktX7_readStatement_0 9 rfl) rfl (bi_nar (decide ((imageO T nn (txWe T nn (txSk T nn p)) (tn (S.row 0)) S).k = 0))) ⟨_, rfl, ?_⟩
    have ho : stmtO T nn p S = imageO T nn (txWe T nn (txSk T nn p)) (tn (S.row 0)) S := if_pos c11
    rw [ho]
    exact ⟨rfl, rfl, PQ.tr (show FP m I I1 from (FF.rf.tr (hF5.mo (by simp) (by simp)))) ⟨hF187, hy188, hy189⟩⟩
set_option maxRecDepth 4000 in
set_option maxHeartbeats 4000000 in
theorem s_X7_readsAll {n : Nat} {sh : mS} {G : mG} {I : mI} {J : mJ} {m : Nat} {T : tT} {nn : Nat} (hm : ModG n sh G m) (hT : TR m I T nn) (h14 : I m 14 = 0) (hp : I m 11 = nI 0) (hS : RS m I S0)  : Sp yX7_readsAll cX7_readsAll 1 (some FieldType.boolean) 8 384 0 0 [.ref m] n sh G I J (Qi (fun r_ I_ J_ => bi (decide ((parseO T nn).k = 0)) = r_ ∧ J = J_ ∧ PQ m I I_ (parseO T nn))) nX := by
  refine Sp.of (by decide) (ls := [(0, .ref m)]) (fun _ => rfl) (fun _ => Nat.le_of_ble_eq_true rfl) ?_
  have hn := hT.1.1
  have cut9 : ∀ (t z : Nat) (S : PSt) (Iz : mI), FP m I Iz → Iz m 11 = nI z → Iz m 14 = 0 → RS m Iz S → GS S → z ≤ nn → nn - z < t → parseO T nn = allF T nn t z S → Rc RX7 cX7_readsAll 1 (some FieldType.boolean) 8 384 0 0 n sh G (Qi (fun r_ I_ J_ => bi (decide ((parseO T nn).k = 0)) = r_ ∧ J = J_ ∧ PQ m I I_ (parseO T nn))) nX 0 0 9 [(0, .ref m)] [] Iz J := by
    intro t
    induction t
    · intro z S Iz _ _ _ _ _ _ h; omega
    rename_i t ih
    intro z S Iz hFz hz h14 hRz hG hzn ht hx
    have hsz := txSk_le (T := T) hzn
    have hsz2 := txSk_2 hT.1 hzn
    refine rc_p (p_aload_n 0 (dk_at ktX7_readsAll_0 5 rfl) rfl rfl (b := 10) rfl) ?_
    refine r_iV (As' := []) (rest := []) (s_X7_see hm (hT.fr (show FP m I Iz from (hFz.mo (by simp) (by simp)))) z hz (by omega)) cw_X7_109 qi_X7_see qv_X7_see rfl hm.l0 hm.s0 (dk_at ktX7_readsAll_0 6 rfl) rfl rfl (Nat.le_of_ble_eq_true rfl) (by decide) (b := 13) rfl (fun v4 I1 J2 q3 => ?_)
    obtain ⟨rfl, rfl, hF5, h6, h7⟩ := q3
    refine rc_p (p_bipush (v := 59) (dk_at ktX7_readsAll_0 7 rfl) (by decide) (b := 15) rfl) ?_
    refine r_icmp_ne (dk_at ktX7_readsAll_0 8 rfl) (b := 37) (by decide) (b2 := 18) rfl (fun c15 => ?_) (fun c15 => ?_)
    · skip
      have h59 : ¬ T (txSk T nn z) = 59 := fun g => c15 ((bA_e (c := 59) hT.1 (by decide) (by decide)).mpr g)
      refine rc_p (p_aload_n 0 (dk_at ktX7_readsAll_0 20 rfl) rfl rfl (b := 38) rfl) ?_
      refine r_iV (As' := []) (rest := []) (s_X7_see hm (hT.fr (show FP m I I1 from ((hFz.mo (by simp) (by simp)).tr (hF5.mo (by simp) (by simp))))) (txSk T nn z) h6 (by omega)) cw_X7_109 qi_X7_see qv_X7_see rfl hm.l0 hm.s0 (dk_at ktX7_readsAll_0 21 rfl) rfl rfl (Nat.le_of_ble_eq_true rfl) (by decide) (b := 41) rfl (fun v11 I8 J9 q10 => ?_)
      obtain ⟨rfl, rfl, hF12, h13, h14⟩ := q10
      refine rc_p (p_iconst (v := (-1)) (dk_at ktX7_readsAll_0 22 rfl) (by decide) (b := 42) rfl) ?_
      refine r_icmp_eq (dk_at ktX7_readsAll_0 23 rfl) (b := 53) (by decide) (b2 := 45) rfl (fun c42 => ?_) (fun c42 => ?_)
      · skip
        refine rc_p (p_iconst (v := 1) (dk_at ktX7_readsAll_0 28 rfl) (by decide) (b := 54) rfl) ?_
        refine rc_p (p_goto (b := 58) (dk_at ktX7_readsAll_0 29 rfl) (by decide)) ?_
        refine r_iret (dk_at ktX7_readsAll_0 31 rfl) rfl rfl ⟨_, rfl, ?_⟩
        have h0 : T (txSk T nn z) = 0 := (congrArg T (txSk_2 hT.1 hzn)).symm.trans ((bA_0 hT.1).mp c42)
        rw [hx.trans (allF_0 h0)]
        exact ⟨rfl, rfl, PQ.good (show FP m I I8 from (((hFz.mo (by simp) (by simp)).tr (hF5.mo (by simp) (by simp))).tr (hF12.mo (by simp) (by simp)))) (((hF12.2 14 (by decide))).trans (((hF5.2 14 (by decide))).trans h14)) (h13.trans (congrArg nI (txSk_2 hT.1 hzn))) ((hRz.fr (hF5.mo (by simp) (by simp))).fr (hF12.mo (by simp) (by simp)))⟩
      · skip
        refine rc_p (p_aload_n 0 (dk_at ktX7_readsAll_0 24 rfl) rfl rfl (b := 46) rfl) ?_
        refine rc_p (p_iconst (v := 1) (dk_at ktX7_readsAll_0 25 rfl) (by decide) (b := 47) rfl) ?_
        refine r_iV (As' := [.int 1]) (rest := []) (s_X7_fails hm (hT.fr (show FP m I I8 from (((hFz.mo (by simp) (by simp)).tr (hF5.mo (by simp) (by simp))).tr (hF12.mo (by simp) (by simp))))) (((hF12.2 14 (by decide))).trans (((hF5.2 14 (by decide))).trans h14)) (txSk T nn (txSk T nn z)) h14 1) cw_X7_115 qi_X7_fails qv_X7_fails rfl hm.l0 hm.s0 (dk_at ktX7_readsAll_0 26 rfl) rfl rfl (Nat.le_of_ble_eq_true rfl) (by decide) (b := 50) rfl (fun v18 I15 J16 q17 => ?_)
        obtain ⟨rfl, rfl, hF19, h20, h21⟩ := q17
        refine r_if_eq (dk_at ktX7_readsAll_0 27 rfl) (b := 57) (by decide) (b2 := 53) rfl (fun c50 => ?_) (fun c50 => ?_)
        · skip
          refine rc_p (p_iconst (v := 0) (dk_at ktX7_readsAll_0 30 rfl) (by decide) (b := 58) rfl) ?_
          refine r_iret (dk_at ktX7_readsAll_0 31 rfl) rfl rfl ⟨_, rfl, ?_⟩
          have h0 : ¬ T (txSk T nn z) = 0 := fun g => c42 ((bA_0 hT.1).mpr ((congrArg T (txSk_2 hT.1 hzn)).trans g))
          rw [hx.trans (allF_n h59 h0)]
          exact ⟨bk_1 (k := 1) (by decide), rfl, PQ.bad (by decide) (show FP m I I15 from ((((hFz.mo (by simp) (by simp)).tr (hF5.mo (by simp) (by simp))).tr (hF12.mo (by simp) (by simp))).tr (hF19.mo (by simp) (by simp)))) h20 (h21.trans (congrArg nI (txSk_2 hT.1 hzn)))⟩
        · first | exact absurd c50 (by decide) | exact absurd (by decide) c50
    · skip
      have h59 := (bA_e (c := 59) hT.1 (by decide) (by decide)).mp c15
      have hl : txSk T nn z < nn := Nat.lt_of_not_le (fun g => by rw [hT.1.2.2 _ g] at h59; omega)
      refine rc_p (p_aload_n 0 (dk_at ktX7_readsAll_0 9 rfl) rfl rfl (b := 19) rfl) ?_
      refine rc_p (p_dup (dk_at ktX7_readsAll_0 10 rfl) rfl (b := 20) rfl) ?_
      refine r_geti fl_X7_81 rfl hm.l0 hm.s0 (dk_at ktX7_readsAll_0 11 rfl) (v := (nI (txSk T nn z))) h6 (b := 23) rfl ?_
      refine rc_p (p_iconst (v := 1) (dk_at ktX7_readsAll_0 12 rfl) (by decide) (b := 24) rfl) ?_
      refine rc_p (p_iadd (v := (nI (txSk T nn z + 1))) (dk_at ktX7_readsAll_0 13 rfl) (nI_add (txSk T nn z) 1) (b := 25) rfl) ?_
      refine r_puti fl_X7_81 fw_X7_11 rfl hm.l0 hm.s0 rfl rfl (dk_at ktX7_readsAll_0 14 rfl) (b := 28) rfl ?_
      refine rc_p (p_aload_n 0 (dk_at ktX7_readsAll_0 15 rfl) rfl rfl (b := 29) rfl) ?_
      refine r_iV (As' := []) (rest := []) (s_X7_readStatement hm (hT.fr (show FP m I (up2 I1 m 11 (nI (txSk T nn z + 1))) from (((hFz.mo (by simp) (by simp)).tr (hF5.mo (by simp) (by simp))).uf (by simp)))) ((up2_n (by omega)).trans (((hF5.2 14 (by decide))).trans h14)) (txSk T nn z + 1) up2_s (by omega) ((hRz.fr (hF5.mo (by simp) (by simp))).uf (by decide)) hG) cw_X7_175 qi_X7_readStatement qv_X7_readStatement rfl hm.l0 hm.s0 (dk_at ktX7_readsAll_0 16 rfl) rfl rfl (Nat.le_of_ble_eq_true rfl) (by decide) (b := 32) rfl (fun v25 I22 J23 q24 => ?_)
      obtain ⟨rfl, rfl, hF26, hy27, hy28⟩ := q24
      refine r_if_ne (dk_at ktX7_readsAll_0 17 rfl) (b := 9) (by decide) (b2 := 35) rfl (fun c32 => ?_) (fun c32 => ?_)
      · have c32 := bi_t c32
        have hk29 := of_decide_eq_true c32
        obtain ⟨h30, h31, h32⟩ := hy27 hk29
        have hok := stmt_ok (T := T) (n := nn) (show txSk T nn z + 1 ≤ nn by omega) hG hk29
        exact ih _ _ _ (show FP m I I22 from ((((hFz.mo (by simp) (by simp)).tr (hF5.mo (by simp) (by simp))).uf (by simp)).tr (hF26.mo (by simp) (by simp)))) h31 h30 h32 hok.2.2 hok.2.1 (by omega) (hx.trans (allF_s h59 hk29))
      · have c32 := bi_f c32
        have hk33 := of_decide_eq_false c32
        obtain ⟨h34, h35⟩ := hy28 hk33
        refine rc_p (p_iconst (v := 0) (dk_at ktX7_readsAll_0 18 rfl) (by decide) (b := 36) rfl) ?_
        refine r_iret (dk_at ktX7_readsAll_0 19 rfl) rfl rfl ⟨_, rfl, ?_⟩
        rw [hx.trans (allF_k h59 hk33)]
        exact ⟨bk_1 hk33, rfl, (show FP m I I22 from ((((hFz.mo (by simp) (by simp)).tr (hF5.mo (by simp) (by simp))).uf (by simp)).tr (hF26.mo (by simp) (by simp)))), fun g => absurd g hk33, fun _ => ⟨h34, h35⟩⟩
  have hn := hT.1.1
  refine rc_p (p_aload_n 0 (dk_at ktX7_readsAll_0 0 rfl) rfl rfl (b := 1) rfl) ?_
  refine r_iV (As' := []) (rest := []) (s_X7_readFlash hm hT h14 0 hp (by omega) hS) cw_X7_172 qi_X7_readFlash qv_X7_readFlash rfl hm.l0 hm.s0 (dk_at ktX7_readsAll_0 1 rfl) rfl rfl (Nat.le_of_ble_eq_true rfl) (by decide) (b := 4) rfl (fun v39 I36 J37 q38 => ?_)
  obtain ⟨rfl, rfl, hF40, hy41, hy42⟩ := q38
  refine r_if_ne (dk_at ktX7_readsAll_0 2 rfl) (b := 9) (by decide) (b2 := 7) rfl (fun c4 => ?_) (fun c4 => ?_)
  · have c4 := bi_t c4
    have hk43 := of_decide_eq_true c4
    obtain ⟨h44, h45, h46⟩ := hy41 hk43
    have hok := flash_ok (T := T) (n := nn) (Nat.zero_le nn) GX_0 hk43
    exact cut9 _ _ _ _ (show FP m I I36 from (FF.rf.tr (hF40.mo (by simp) (by simp)))) h45 h44 h46 hok.2 hok.1 (by omega) (if_pos hk43)
  · have c4 := bi_f c4
    have hk47 := of_decide_eq_false c4
    obtain ⟨h48, h49⟩ := hy42 hk47
    refine rc_p (p_iconst (v := 0) (dk_at ktX7_readsAll_0 3 rfl) (by decide) (b := 8) rfl) ?_
    refine r_iret (dk_at ktX7_readsAll_0 4 rfl) rfl rfl ⟨_, rfl, ?_⟩
    rw [show parseO T nn = flashO T nn 0 S0 from if_neg hk47]
    exact ⟨bk_1 hk47, rfl, (show FP m I I36 from (FF.rf.tr (hF40.mo (by simp) (by simp)))), fun g => absurd g hk47, fun _ => ⟨h48, h49⟩⟩

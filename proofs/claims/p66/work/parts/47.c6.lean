/-! THE CLASS: updates, mirrors, confirmations -/
set_option maxRecDepth 4000 in
set_option maxHeartbeats 4000000 in
theorem s_X0_runsGoodSlot {n : Nat} {sh : mS} {G : mG} {I : mI} {J : mJ} {d : Nat} {σ : sT} {T N : Nat} (hd : DevG n sh G d) (hR : RelD d I σ T N) (hI : Inv σ)  : Sp yX0_runsGoodSlot cX0_runsGoodSlot 1 (some FieldType.boolean) 4 168 0 0 [.ref d] n sh G I J (Qi (fun r_ I_ J_ => bi (goodB σ) = r_ ∧ J = J_ ∧ RelD d I_ σ T N ∧ LedR d I_ σ ∧ FD d [16] I I_)) nX := by
  refine Sp.of (by decide) (ls := [(0, .ref d)]) (fun _ => rfl) (fun _ => Nat.le_of_ble_eq_true rfl) ?_
  refine rc_p (p_aload_n 0 (dk_at ktX0_runsGoodSlot_0 0 rfl) rfl rfl (b := 1) rfl) ?_
  refine r_geta fl_X0_28 rfl hd.l0 hd.s0 (dk_at ktX0_runsGoodSlot_0 1 rfl) hd.g0_2 (b := 4) rfl ?_
  refine rc_p (p_aload_n 0 (dk_at ktX0_runsGoodSlot_0 2 rfl) rfl rfl (b := 5) rfl) ?_
  refine r_geta fl_X0_12 rfl hd.l0 hd.s0 (dk_at ktX0_runsGoodSlot_0 3 rfl) hd.g0_0 (b := 8) rfl ?_
  refine r_vV (As' := [.ref (d + 1)]) (rest := []) (s_X2_readFrom hd (σ := σ) hR hI) cw_X0_145 qi_X2_readFrom qv_X2_readFrom rfl (hd.lt 16 (by decide)) hd.s16 (dk_at ktX0_runsGoodSlot_0 4 rfl) rfl rfl (Nat.le_of_ble_eq_true rfl) (by decide) (b := 11) rfl (fun I1 J2 q3 => ?_)
  obtain ⟨rfl, hR5, hL7, hF6⟩ := q3
  refine rc_p (p_aload_n 0 (dk_at ktX0_runsGoodSlot_0 5 rfl) rfl rfl (b := 12) rfl) ?_
  refine r_geti fl_X0_77 rfl hd.l0 hd.s0 (dk_at ktX0_runsGoodSlot_0 6 rfl) (v := (σ 8)) (hR5.1 0 8 8 lc_0_8) (b := 15) rfl ?_
  refine rc_p (p_iconst (v := (-1)) (dk_at ktX0_runsGoodSlot_0 7 rfl) (by decide) (b := 16) rfl) ?_
  refine r_icmp_eq (dk_at ktX0_runsGoodSlot_0 8 rfl) (b := 37) (by decide) (b2 := 19) rfl (fun c16 => ?_) (fun c16 => ?_)
  · skip
    refine rc_p (p_iconst (v := 0) (dk_at ktX0_runsGoodSlot_0 17 rfl) (by decide) (b := 38) rfl) ?_
    refine r_iret (dk_at ktX0_runsGoodSlot_0 18 rfl) rfl rfl ⟨_, rfl, ?_⟩
    refine ⟨?_, rfl, hR5, hL7, hF6⟩
    rw [run_good hI]
    simp_all [bi, eq_comm]
  · skip
    refine rc_p (p_aload_n 0 (dk_at ktX0_runsGoodSlot_0 9 rfl) rfl rfl (b := 20) rfl) ?_
    refine r_geti fl_X0_77 rfl hd.l0 hd.s0 (dk_at ktX0_runsGoodSlot_0 10 rfl) (v := (σ 8)) (hR5.1 0 8 8 lc_0_8) (b := 23) rfl ?_
    refine rc_p (p_aload_n 0 (dk_at ktX0_runsGoodSlot_0 11 rfl) rfl rfl (b := 24) rfl) ?_
    refine r_geta fl_X0_28 rfl hd.l0 hd.s0 (dk_at ktX0_runsGoodSlot_0 12 rfl) hd.g0_2 (b := 27) rfl ?_
    refine r_geti fl_X0_125 rfl (hd.lt 16 (by decide)) hd.s16 (dk_at ktX0_runsGoodSlot_0 13 rfl) (v := (told σ 1)) (hL7.2.2.2 1 (by decide)) (b := 30) rfl ?_
    refine r_icmp_ne (dk_at ktX0_runsGoodSlot_0 14 rfl) (b := 37) (by decide) (b2 := 33) rfl (fun c30 => ?_) (fun c30 => ?_)
    · skip
      refine rc_p (p_iconst (v := 0) (dk_at ktX0_runsGoodSlot_0 17 rfl) (by decide) (b := 38) rfl) ?_
      refine r_iret (dk_at ktX0_runsGoodSlot_0 18 rfl) rfl rfl ⟨_, rfl, ?_⟩
      refine ⟨?_, rfl, hR5, hL7, hF6⟩
      rw [run_good hI]
      simp_all [bi, eq_comm]
    · skip
      refine rc_p (p_iconst (v := 1) (dk_at ktX0_runsGoodSlot_0 15 rfl) (by decide) (b := 34) rfl) ?_
      refine rc_p (p_goto (b := 38) (dk_at ktX0_runsGoodSlot_0 16 rfl) (by decide)) ?_
      refine r_iret (dk_at ktX0_runsGoodSlot_0 18 rfl) rfl rfl ⟨_, rfl, ?_⟩
      refine ⟨?_, rfl, hR5, hL7, hF6⟩
      rw [run_good hI]
      simp_all [bi, eq_comm]
set_option maxRecDepth 4000 in
set_option maxHeartbeats 4000000 in
theorem s_X0_updateOther {n : Nat} {sh : mS} {G : mG} {I : mI} {J : mJ} {d : Nat} {σ : sT} {T N : Nat} (hd : DevG n sh G d) (hR : RelD d I σ T N) (hI : Inv σ) (hT : T + 4 < 1000000) (v : Nat) (hv : v < 256) (thr : Bool) : Sp yX0_updateOther cX0_updateOther 5 (some FieldType.int) 6 214 0 0 [.ref d, .int (nI v), .int (bi thr)] n sh G I J (Qi (fun r_ I_ J_ => (fUpd (nI v) thr σ).1 = r_ ∧ J = J_ ∧ RelE d I_ (fUpd (nI v) thr σ).2 T 4 N ∧ FD d [0, 1, 3, 4, 5, 6, 8, 9, 10, 11, 12, 13, 14, 15, 16, 17] I I_)) nX := by
  refine Sp.of (by decide) (ls := [(0, .ref d), (1, .int (nI v)), (2, .int (bi thr))]) (fun _ => rfl) (fun _ => Nat.le_of_ble_eq_true rfl) ?_
  refine rc_p (p_aload_n 0 (dk_at ktX0_updateOther_0 0 rfl) rfl rfl (b := 1) rfl) ?_
  refine r_iV (As' := []) (rest := []) (s_X0_runsGoodSlot hd (σ := σ) hR hI) cw_X0_168 qi_X0_runsGoodSlot qv_X0_runsGoodSlot rfl hd.l0 hd.s0 (dk_at ktX0_updateOther_0 1 rfl) rfl rfl (Nat.le_of_ble_eq_true rfl) (by decide) (b := 4) rfl (fun v4 I1 J2 q3 => ?_)
  obtain ⟨rfl, rfl, hR5, hL7, hF6⟩ := q3
  refine r_if_eq (dk_at ktX0_updateOther_0 2 rfl) (b := 14) (by decide) (b2 := 7) rfl (fun c4 => ?_) (fun c4 => ?_)
  · have c4 := bi_f c4
    refine rc_p (p_bipush (v := (-3)) (dk_at ktX0_updateOther_0 6 rfl) (by decide) (b := 16) rfl) ?_
    refine r_iret (dk_at ktX0_updateOther_0 7 rfl) rfl rfl ⟨_, rfl, ?_⟩
    have he1 : errU (nI v) σ = -3 := by unfold errU; rw [if_neg (fun q => by have := q.1; rw [goodB_i, c4] at this; exact absurd this (by decide))]
    have he := fUpd_e (v := nI v) (thr := thr) (σ := σ) (by rw [he1]; decide)
    rw [he1] at he
    exact ⟨congrArg Prod.fst he, rfl, by rw [he]; exact RelE.of hR5 (by omega), (FD.tr FD.rf (hF6.mo (by simp <;> omega)))⟩
  · have c4 := bi_t c4
    refine rc_p (p_aload_n 0 (dk_at ktX0_updateOther_0 3 rfl) rfl rfl (b := 8) rfl) ?_
    refine r_geti fl_X0_46 rfl hd.l0 hd.s0 (dk_at ktX0_updateOther_0 4 rfl) (v := (σ 4)) (hR5.1 0 5 4 lc_0_5) (b := 11) rfl ?_
    refine r_if_ne (dk_at ktX0_updateOther_0 5 rfl) (b := 17) (by decide) (b2 := 14) rfl (fun c11 => ?_) (fun c11 => ?_)
    · skip
      refine rc_p (p_iload_n 1 (dk_at ktX0_updateOther_0 8 rfl) rfl rfl (b := 18) rfl) ?_
      refine rc_p (p_aload_n 0 (dk_at ktX0_updateOther_0 9 rfl) rfl rfl (b := 19) rfl) ?_
      refine r_geta fl_X0_28 rfl hd.l0 hd.s0 (dk_at ktX0_updateOther_0 10 rfl) hd.g0_2 (b := 22) rfl ?_
      refine r_geti fl_X0_98 rfl (hd.lt 16 (by decide)) hd.s16 (dk_at ktX0_updateOther_0 11 rfl) (v := (told σ 0)) (hL7.2.2.2 0 (by decide)) (b := 25) rfl ?_
      refine r_icmp_ge (dk_at ktX0_updateOther_0 12 rfl) (b := 31) (by decide) (b2 := 28) rfl (fun c25 => ?_) (fun c25 => ?_)
      · skip
        have herr : errU (nI v) σ = 0 := by unfold errU; rw [if_pos ⟨goodB_t c4, c11⟩, if_neg (Int32.not_lt.mpr c25)]
        obtain ⟨r, hr, er⟩ := hI.2.2.1.run (goodB_t c4).1
        have hN := hR.2.2.2.2.1
        have hNS := hR.2.2.2.1
        have hb := hI.bd
        refine rc_p (p_aload_n 0 (dk_at ktX0_updateOther_0 15 rfl) rfl rfl (b := 32) rfl) ?_
        refine r_geta fl_X0_12 rfl hd.l0 hd.s0 (dk_at ktX0_updateOther_0 16 rfl) hd.g0_0 (b := 35) rfl ?_
        refine r_geti fl_X0_80 rfl (hd.lt 1 (by decide)) hd.s1 (dk_at ktX0_updateOther_0 17 rfl) (v := (σ 9)) (hR5.1 1 8 9 lc_1_8) (b := 38) rfl ?_
        refine rc_p (p_istore_n (ls' := [(3, .int (σ 9)), (0, .ref d), (1, .int (nI v)), (2, .int (bi thr))]) (dk_at ktX0_updateOther_0 18 rfl) rfl (by decide) rfl (b := 39) rfl) ?_
        refine rc_p (p_iconst (v := 1) (dk_at ktX0_updateOther_0 19 rfl) (by decide) (b := 40) rfl) ?_
        refine rc_p (p_aload_n 1 (dk_at ktX0_updateOther_0 20 rfl) rfl rfl (b := 41) rfl) ?_
        refine r_geti fl_X0_77 rfl hd.l0 hd.s0 (dk_at ktX0_updateOther_0 21 rfl) (v := (nI r)) ((hR5.1 0 8 8 lc_0_8).trans er) (b := 44) rfl ?_
        refine rc_p (p_isub (v := (nI (1 - r))) (dk_at ktX0_updateOther_0 22 rfl) (pk_sub (a := 1) (b := r) (by omega)) (b := 45) rfl) ?_
        refine rc_p (p_istore (ls' := [(4, .int (nI (1 - r))), (3, .int (σ 9)), (0, .ref d), (1, .int (nI v)), (2, .int (bi thr))]) (dk_at ktX0_updateOther_0 23 rfl) (by decide) rfl (b := 47) rfl) ?_
        refine rc_p (p_aload_n 2 (dk_at ktX0_updateOther_0 24 rfl) rfl rfl (b := 48) rfl) ?_
        refine r_geta fl_X0_12 rfl hd.l0 hd.s0 (dk_at ktX0_updateOther_0 25 rfl) hd.g0_0 (b := 51) rfl ?_
        refine rc_p (p_iload 0 (dk_at ktX0_updateOther_0 26 rfl) rfl (b := 53) rfl) ?_
        refine rc_p (p_iload_n 3 (dk_at ktX0_updateOther_0 27 rfl) rfl rfl (b := 54) rfl) ?_
        refine rc_p (p_aload_n 2 (dk_at ktX0_updateOther_0 28 rfl) rfl rfl (b := 55) rfl) ?_
        refine r_geta fl_X0_36 rfl hd.l0 hd.s0 (dk_at ktX0_updateOther_0 29 rfl) hd.g0_4 (b := 58) rfl ?_
        refine rc_p (p_aload_n 2 (dk_at ktX0_updateOther_0 30 rfl) rfl rfl (b := 59) rfl) ?_
        refine r_geti fl_X0_46 rfl hd.l0 hd.s0 (dk_at ktX0_updateOther_0 31 rfl) (v := (nI (nS σ))) ((hR5.1 0 5 4 lc_0_5).trans (hI).w4) (b := 62) rfl ?_
        refine rc_p (p_iload_n 4 (dk_at ktX0_updateOther_0 32 rfl) rfl rfl (b := 63) rfl) ?_
        refine r_iV (As' := [.int (nI (1 - r)), .int (nI v), .ref (d + 18), .int (nI (nS σ)), .int (bi thr)]) (rest := []) (s_X1_writeImage hd (σ := σ) hR5 hI (ar := (d + 18)) ⟨(hd.lt 18 (by decide)), hd.s18⟩ (1 - r) v (by omega) (by omega) (payS σ) (nS σ) (by omega) (fun j hj => (hR5.1 18 (3 + j) (16 + (3 + j)) (lc_t (by omega) (by omega))).trans rfl) (fun j hj => hI.2.2.2.1 (16 + (3 + j)) (by omega) (by omega)) thr (by simp; omega)) cw_X0_171 qi_X1_writeImage qv_X1_writeImage rfl (hd.lt 1 (by decide)) hd.s1 (dk_at ktX0_updateOther_0 33 rfl) rfl rfl (Nat.le_of_ble_eq_true rfl) (by decide) (b := 66) rfl (fun v11 I8 J9 q10 => ?_)
        obtain ⟨rfl, rfl, hR12, hF13⟩ := q10
        refine r_if_eq (dk_at ktX0_updateOther_0 34 rfl) (b := 79) (by decide) (b2 := 69) rfl (fun c66 => ?_) (fun c66 => ?_)
        · have c66 := bi_f c66
          refine rc_p (p_aload_n 2 (dk_at ktX0_updateOther_0 40 rfl) rfl rfl (b := 80) rfl) ?_
          refine r_iV (As' := []) (rest := []) (s_X0_losePower hd (σ := (fImg (1 - r) thr (payS σ) (nS σ) (nI v) σ).2) hR12 (Inv.img hI (by omega) (by omega)) (by omega)) cw_X0_151 qi_X0_losePower qv_X0_losePower rfl hd.l0 hd.s0 (dk_at ktX0_updateOther_0 41 rfl) rfl rfl (Nat.le_of_ble_eq_true rfl) (by decide) (b := 83) rfl (fun v17 I14 J15 q16 => ?_)
          obtain ⟨rfl, rfl, ⟨T18, hT19, hR20⟩, hF21⟩ := q16
          refine r_iret (dk_at ktX0_updateOther_0 42 rfl) rfl rfl ⟨_, rfl, ?_⟩
          have e1 : opU (nI v) thr (1 - r) σ = (false, (fImg (1 - r) thr (payS σ) (nS σ) (nI v) σ).2) := by
            unfold opU; rw [sq_n (f := fImg (1 - r) thr (payS σ) (nS σ) (nI v)) (pr_e c66)]
          have he := (fUpd_0 (thr := thr) herr hr er).trans (endU_f e1)
          exact ⟨congrArg Prod.fst he, rfl, by rw [he]; exact RelE.of hR20 (by omega), (FD.tr (FD.tr (FD.tr FD.rf (hF6.mo (by simp <;> omega))) (hF13.mo (by simp <;> omega))) (hF21.mo (by simp <;> omega)))⟩
        · have c66 := bi_t c66
          refine rc_p (p_aload_n 2 (dk_at ktX0_updateOther_0 35 rfl) rfl rfl (b := 70) rfl) ?_
          refine rc_p (p_iconst (v := 3) (dk_at ktX0_updateOther_0 36 rfl) (by decide) (b := 71) rfl) ?_
          refine rc_p (p_iload 0 (dk_at ktX0_updateOther_0 37 rfl) rfl (b := 73) rfl) ?_
          refine r_iV (As' := [.int 3, .int (nI (1 - r))]) (rest := []) (s_X0_appendRecord hd (σ := (fImg (1 - r) thr (payS σ) (nS σ) (nI v) σ).2) hR12 (Inv.img hI (by omega) (by omega)) (by omega) ((hL7.of (hF13 _ (by simp; omega))).img hI (by omega) (by omega)) 3 (by decide) (nI (1 - r))) cw_X0_157 qi_X0_appendRecord qv_X0_appendRecord rfl hd.l0 hd.s0 (dk_at ktX0_updateOther_0 38 rfl) rfl rfl (Nat.le_of_ble_eq_true rfl) (by decide) (b := 76) rfl (fun v25 I22 J23 q24 => ?_)
          obtain ⟨rfl, rfl, ⟨T26, hT27, hR28⟩, hF29, hL30⟩ := q24
          refine r_if_ne (dk_at ktX0_updateOther_0 39 rfl) (b := 84) (by decide) (b2 := 79) rfl (fun c76 => ?_) (fun c76 => ?_)
          · have c76 := bi_t c76
            have hL31 := hL30 c76
            refine rc_p (p_aload_n 2 (dk_at ktX0_updateOther_0 43 rfl) rfl rfl (b := 85) rfl) ?_
            refine rc_p (p_iconst (v := 0) (dk_at ktX0_updateOther_0 44 rfl) (by decide) (b := 86) rfl) ?_
            refine r_puti fl_X0_46 fw_X0_5 rfl hd.l0 hd.s0 rfl rfl (dk_at ktX0_updateOther_0 45 rfl) (b := 89) rfl ?_
            refine rc_p (p_aload_n 2 (dk_at ktX0_updateOther_0 46 rfl) rfl rfl (b := 90) rfl) ?_
            refine r_geta fl_X0_12 rfl hd.l0 hd.s0 (dk_at ktX0_updateOther_0 47 rfl) hd.g0_0 (b := 93) rfl ?_
            refine r_geti fl_X0_80 rfl (hd.lt 1 (by decide)) hd.s1 (dk_at ktX0_updateOther_0 48 rfl) (v := (((fApp 3 (nI (1 - r)) (fImg (1 - r) thr (payS σ) (nS σ) (nI v) σ).2).2) 9)) ((up2_n (by omega)).trans (hR28.1 1 8 9 lc_1_8)) (b := 96) rfl ?_
            refine rc_p (p_iload_n 1 (dk_at ktX0_updateOther_0 49 rfl) rfl rfl (b := 97) rfl) ?_
            refine rc_p (p_isub (v := ((((fApp 3 (nI (1 - r)) (fImg (1 - r) thr (payS σ) (nS σ) (nI v) σ).2).2) 9) - (σ 9))) (dk_at ktX0_updateOther_0 50 rfl) rfl (b := 98) rfl) ?_
            refine r_iret (dk_at ktX0_updateOther_0 51 rfl) rfl rfl ⟨_, rfl, ?_⟩
            have e1 : opU (nI v) thr (1 - r) σ = (true, (fApp 3 (nI (1 - r)) (fImg (1 - r) thr (payS σ) (nS σ) (nI v) σ).2).2) := by
              unfold opU; rw [sq_e (f := fImg (1 - r) thr (payS σ) (nS σ) (nI v)) (pr_e c66)]; exact pr_e c76
            have he := (fUpd_0 (thr := thr) herr hr er).trans (endU_t e1)
            exact ⟨congrArg Prod.fst he, rfl, by rw [he]; exact RelE.of (hR28.set (o := 0) (k := 5) (a := 4) lc_0_5 (by omega) (by omega) (fun _ => by first | decide | exact Nat.zero_le _ | (rw [tn_nI (by omega)]; omega) | omega)) (by omega), (FD.up0 (FD.tr (FD.tr (FD.tr FD.rf (hF6.mo (by simp <;> omega))) (hF13.mo (by simp <;> omega))) (hF29.mo (by simp <;> omega))) (by simp))⟩
          · have c76 := bi_f c76
            refine rc_p (p_aload_n 2 (dk_at ktX0_updateOther_0 40 rfl) rfl rfl (b := 80) rfl) ?_
            refine r_iV (As' := []) (rest := []) (s_X0_losePower hd (σ := (fApp 3 (nI (1 - r)) (fImg (1 - r) thr (payS σ) (nS σ) (nI v) σ).2).2) hR28 (Inv.app (Inv.img hI (by omega) (by omega))) (by omega)) cw_X0_151 qi_X0_losePower qv_X0_losePower rfl hd.l0 hd.s0 (dk_at ktX0_updateOther_0 41 rfl) rfl rfl (Nat.le_of_ble_eq_true rfl) (by decide) (b := 83) rfl (fun v35 I32 J33 q34 => ?_)
            obtain ⟨rfl, rfl, ⟨T36, hT37, hR38⟩, hF39⟩ := q34
            refine r_iret (dk_at ktX0_updateOther_0 42 rfl) rfl rfl ⟨_, rfl, ?_⟩
            have e1 : opU (nI v) thr (1 - r) σ = (false, (fApp 3 (nI (1 - r)) (fImg (1 - r) thr (payS σ) (nS σ) (nI v) σ).2).2) := by
              unfold opU; rw [sq_e (f := fImg (1 - r) thr (payS σ) (nS σ) (nI v)) (pr_e c66)]; exact pr_e c76
            have he := (fUpd_0 (thr := thr) herr hr er).trans (endU_f e1)
            exact ⟨congrArg Prod.fst he, rfl, by rw [he]; exact RelE.of hR38 (by omega), (FD.tr (FD.tr (FD.tr (FD.tr FD.rf (hF6.mo (by simp <;> omega))) (hF13.mo (by simp <;> omega))) (hF29.mo (by simp <;> omega))) (hF39.mo (by simp <;> omega)))⟩
      · skip
        refine rc_p (p_bipush (v := (-5)) (dk_at ktX0_updateOther_0 13 rfl) (by decide) (b := 30) rfl) ?_
        refine r_iret (dk_at ktX0_updateOther_0 14 rfl) rfl rfl ⟨_, rfl, ?_⟩
        have he1 : errU (nI v) σ = -5 := by unfold errU; rw [if_pos ⟨goodB_t c4, c11⟩, if_pos (Int32.not_le.mp c25)]
        have he := fUpd_e (v := nI v) (thr := thr) (σ := σ) (by rw [he1]; decide)
        rw [he1] at he
        exact ⟨congrArg Prod.fst he, rfl, by rw [he]; exact RelE.of hR5 (by omega), (FD.tr FD.rf (hF6.mo (by simp <;> omega)))⟩
    · skip
      refine rc_p (p_bipush (v := (-3)) (dk_at ktX0_updateOther_0 6 rfl) (by decide) (b := 16) rfl) ?_
      refine r_iret (dk_at ktX0_updateOther_0 7 rfl) rfl rfl ⟨_, rfl, ?_⟩
      have he1 : errU (nI v) σ = -3 := by unfold errU; rw [if_neg (fun q => q.2 c11)]
      have he := fUpd_e (v := nI v) (thr := thr) (σ := σ) (by rw [he1]; decide)
      rw [he1] at he
      exact ⟨congrArg Prod.fst he, rfl, by rw [he]; exact RelE.of hR5 (by omega), (FD.tr FD.rf (hF6.mo (by simp <;> omega)))⟩
set_option maxRecDepth 4000 in
set_option maxHeartbeats 4000000 in
theorem s_X0_moveByHand {n : Nat} {sh : mS} {G : mG} {I : mI} {J : mJ} {d : Nat} {σ : sT} {T N : Nat} (hd : DevG n sh G d) (hR : RelD d I σ T N) (hI : Inv σ) (hT : T + 2 < 1000000)  : Sp yX0_moveByHand cX0_moveByHand 1 (some FieldType.int) 5 190 0 0 [.ref d] n sh G I J (Qi (fun r_ I_ J_ => (fMvj σ).1 = r_ ∧ J = J_ ∧ RelE d I_ (fMvj σ).2 T 2 N ∧ FD d [0, 1, 3, 4, 5, 6, 8, 9, 10, 11, 12, 13, 14, 15, 16, 17] I I_)) nX := by
  refine Sp.of (by decide) (ls := [(0, .ref d)]) (fun _ => rfl) (fun _ => Nat.le_of_ble_eq_true rfl) ?_
  refine rc_p (p_aload_n 0 (dk_at ktX0_moveByHand_0 0 rfl) rfl rfl (b := 1) rfl) ?_
  refine r_geta fl_X0_28 rfl hd.l0 hd.s0 (dk_at ktX0_moveByHand_0 1 rfl) hd.g0_2 (b := 4) rfl ?_
  refine rc_p (p_aload_n 0 (dk_at ktX0_moveByHand_0 2 rfl) rfl rfl (b := 5) rfl) ?_
  refine r_geta fl_X0_12 rfl hd.l0 hd.s0 (dk_at ktX0_moveByHand_0 3 rfl) hd.g0_0 (b := 8) rfl ?_
  refine r_vV (As' := [.ref (d + 1)]) (rest := []) (s_X2_readFrom hd (σ := σ) hR hI) cw_X0_145 qi_X2_readFrom qv_X2_readFrom rfl (hd.lt 16 (by decide)) hd.s16 (dk_at ktX0_moveByHand_0 4 rfl) rfl rfl (Nat.le_of_ble_eq_true rfl) (by decide) (b := 11) rfl (fun I1 J2 q3 => ?_)
  obtain ⟨rfl, hR5, hL7, hF6⟩ := q3
  refine rc_p (p_aload_n 0 (dk_at ktX0_moveByHand_0 5 rfl) rfl rfl (b := 12) rfl) ?_
  refine r_geti fl_X0_74 rfl hd.l0 hd.s0 (dk_at ktX0_moveByHand_0 6 rfl) (v := (σ 7)) (hR5.1 0 7 7 lc_0_7) (b := 15) rfl ?_
  refine r_if_eq (dk_at ktX0_moveByHand_0 7 rfl) (b := 29) (by decide) (b2 := 18) rfl (fun c15 => ?_) (fun c15 => ?_)
  · skip
    refine rc_p (p_bipush (v := (-3)) (dk_at ktX0_moveByHand_0 13 rfl) (by decide) (b := 31) rfl) ?_
    refine r_iret (dk_at ktX0_moveByHand_0 14 rfl) rfl rfl ⟨_, rfl, ?_⟩
    have he := fMvj_n (σ := σ) (Or.inl c15)
    exact ⟨congrArg Prod.fst he, rfl, by rw [he]; exact RelE.of hR5 (by omega), (FD.tr FD.rf (hF6.mo (by simp <;> omega)))⟩
  · skip
    refine rc_p (p_aload_n 0 (dk_at ktX0_moveByHand_0 8 rfl) rfl rfl (b := 19) rfl) ?_
    refine r_geta fl_X0_28 rfl hd.l0 hd.s0 (dk_at ktX0_moveByHand_0 9 rfl) hd.g0_2 (b := 22) rfl ?_
    refine r_geti fl_X0_115 rfl (hd.lt 16 (by decide)) hd.s16 (dk_at ktX0_moveByHand_0 10 rfl) (v := (activeI σ)) hL7.1 (b := 25) rfl ?_
    refine rc_p (p_iconst (v := (-1)) (dk_at ktX0_moveByHand_0 11 rfl) (by decide) (b := 26) rfl) ?_
    refine r_icmp_ne (dk_at ktX0_moveByHand_0 12 rfl) (b := 32) (by decide) (b2 := 29) rfl (fun c26 => ?_) (fun c26 => ?_)
    · skip
      obtain ⟨p, hp, hA⟩ := act_n rfl c26
      have hL := hL7
      refine rc_p (p_aload_n 0 (dk_at ktX0_moveByHand_0 15 rfl) rfl rfl (b := 33) rfl) ?_
      refine r_iV (As' := []) (rest := []) (s_X0_moveRecords hd (σ := σ) hR5 hI (by omega) hL p hp hA) cw_X0_138 qi_X0_moveRecords qv_X0_moveRecords rfl hd.l0 hd.s0 (dk_at ktX0_moveByHand_0 16 rfl) rfl rfl (Nat.le_of_ble_eq_true rfl) (by decide) (b := 36) rfl (fun v11 I8 J9 q10 => ?_)
      obtain ⟨rfl, rfl, ⟨T12, hT13, hR14⟩, hF15⟩ := q10
      refine r_if_ne (dk_at ktX0_moveByHand_0 17 rfl) (b := 44) (by decide) (b2 := 39) rfl (fun c36 => ?_) (fun c36 => ?_)
      · have c36 := bi_t c36
        refine rc_p (p_aload_n 0 (dk_at ktX0_moveByHand_0 21 rfl) rfl rfl (b := 45) rfl) ?_
        refine r_geta fl_X0_28 rfl hd.l0 hd.s0 (dk_at ktX0_moveByHand_0 22 rfl) hd.g0_2 (b := 48) rfl ?_
        refine rc_p (p_aload_n 0 (dk_at ktX0_moveByHand_0 23 rfl) rfl rfl (b := 49) rfl) ?_
        refine r_geta fl_X0_12 rfl hd.l0 hd.s0 (dk_at ktX0_moveByHand_0 24 rfl) hd.g0_0 (b := 52) rfl ?_
        refine r_vV (As' := [.ref (d + 1)]) (rest := []) (s_X2_readFrom hd (σ := (fMoveP p σ).2) hR14 (Inv.mvp hI hp)) cw_X0_145 qi_X2_readFrom qv_X2_readFrom rfl (hd.lt 16 (by decide)) hd.s16 (dk_at ktX0_moveByHand_0 25 rfl) rfl rfl (Nat.le_of_ble_eq_true rfl) (by decide) (b := 55) rfl (fun I17 J18 q19 => ?_)
        obtain ⟨rfl, hR21, hL23, hF22⟩ := q19
        refine rc_p (p_aload_n 0 (dk_at ktX0_moveByHand_0 26 rfl) rfl rfl (b := 56) rfl) ?_
        refine r_geta fl_X0_28 rfl hd.l0 hd.s0 (dk_at ktX0_moveByHand_0 27 rfl) hd.g0_2 (b := 59) rfl ?_
        refine r_geti fl_X0_115 rfl (hd.lt 16 (by decide)) hd.s16 (dk_at ktX0_moveByHand_0 28 rfl) (v := (activeI ((fMoveP p σ).2))) hL23.1 (b := 62) rfl ?_
        refine r_iret (dk_at ktX0_moveByHand_0 29 rfl) rfl rfl ⟨_, rfl, ?_⟩
        have he := fMvj_t c15 hp hA (pr_e c36)
        exact ⟨congrArg Prod.fst he, rfl, by rw [he]; exact RelE.of hR21 (by omega), (FD.tr (FD.tr (FD.tr FD.rf (hF6.mo (by simp <;> omega))) (hF15.mo (by simp <;> omega))) (hF22.mo (by simp <;> omega)))⟩
      · have c36 := bi_f c36
        refine rc_p (p_aload_n 0 (dk_at ktX0_moveByHand_0 18 rfl) rfl rfl (b := 40) rfl) ?_
        refine r_iV (As' := []) (rest := []) (s_X0_losePower hd (σ := (fMoveP p σ).2) hR14 (Inv.mvp hI hp) (by omega)) cw_X0_151 qi_X0_losePower qv_X0_losePower rfl hd.l0 hd.s0 (dk_at ktX0_moveByHand_0 19 rfl) rfl rfl (Nat.le_of_ble_eq_true rfl) (by decide) (b := 43) rfl (fun v27 I24 J25 q26 => ?_)
        obtain ⟨rfl, rfl, ⟨T28, hT29, hR30⟩, hF31⟩ := q26
        refine r_iret (dk_at ktX0_moveByHand_0 20 rfl) rfl rfl ⟨_, rfl, ?_⟩
        have he := fMvj_f c15 hp hA (pr_e c36)
        exact ⟨congrArg Prod.fst he, rfl, by rw [he]; exact RelE.of hR30 (by omega), (FD.tr (FD.tr (FD.tr FD.rf (hF6.mo (by simp <;> omega))) (hF15.mo (by simp <;> omega))) (hF31.mo (by simp <;> omega)))⟩
    · skip
      refine rc_p (p_bipush (v := (-3)) (dk_at ktX0_moveByHand_0 13 rfl) (by decide) (b := 31) rfl) ?_
      refine r_iret (dk_at ktX0_moveByHand_0 14 rfl) rfl rfl ⟨_, rfl, ?_⟩
      have he := fMvj_n (σ := σ) (Or.inr c26)
      exact ⟨congrArg Prod.fst he, rfl, by rw [he]; exact RelE.of hR5 (by omega), (FD.tr FD.rf (hF6.mo (by simp <;> omega)))⟩

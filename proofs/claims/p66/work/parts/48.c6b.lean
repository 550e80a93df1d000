/-! THE CLASS: confirmations, mirrors, recoveries -/
set_option maxRecDepth 4000 in
set_option maxHeartbeats 4000000 in
theorem s_X0_confirmRunning {n : Nat} {sh : mS} {G : mG} {I : mI} {J : mJ} {d : Nat} {σ : sT} {T N : Nat} (hd : DevG n sh G d) (hR : RelD d I σ T N) (hI : Inv σ) (hT : T + 5 < 1000000)  : Sp yX0_confirmRunning cX0_confirmRunning 2 (some FieldType.int) 6 214 0 0 [.ref d] n sh G I J (Qi (fun r_ I_ J_ => (fCon σ).1 = r_ ∧ J = J_ ∧ RelE d I_ (fCon σ).2 T 5 N ∧ FD d [0, 1, 3, 4, 5, 6, 8, 9, 10, 11, 12, 13, 14, 15, 16, 17] I I_)) nX := by
  refine Sp.of (by decide) (ls := [(0, .ref d)]) (fun _ => rfl) (fun _ => Nat.le_of_ble_eq_true rfl) ?_
  have hb := hI.bd
  refine rc_p (p_aload_n 0 (dk_at ktX0_confirmRunning_0 0 rfl) rfl rfl (b := 1) rfl) ?_
  refine r_geta fl_X0_28 rfl hd.l0 hd.s0 (dk_at ktX0_confirmRunning_0 1 rfl) hd.g0_2 (b := 4) rfl ?_
  refine rc_p (p_aload_n 0 (dk_at ktX0_confirmRunning_0 2 rfl) rfl rfl (b := 5) rfl) ?_
  refine r_geta fl_X0_12 rfl hd.l0 hd.s0 (dk_at ktX0_confirmRunning_0 3 rfl) hd.g0_0 (b := 8) rfl ?_
  refine r_vV (As' := [.ref (d + 1)]) (rest := []) (s_X2_readFrom hd (σ := σ) hR hI) cw_X0_145 qi_X2_readFrom qv_X2_readFrom rfl (hd.lt 16 (by decide)) hd.s16 (dk_at ktX0_confirmRunning_0 4 rfl) rfl rfl (Nat.le_of_ble_eq_true rfl) (by decide) (b := 11) rfl (fun I1 J2 q3 => ?_)
  obtain ⟨rfl, hR5, hL7, hF6⟩ := q3
  refine rc_p (p_aload_n 0 (dk_at ktX0_confirmRunning_0 5 rfl) rfl rfl (b := 12) rfl) ?_
  refine r_geti fl_X0_77 rfl hd.l0 hd.s0 (dk_at ktX0_confirmRunning_0 6 rfl) (v := (σ 8)) (hR5.1 0 8 8 lc_0_8) (b := 15) rfl ?_
  refine rc_p (p_iconst (v := (-1)) (dk_at ktX0_confirmRunning_0 7 rfl) (by decide) (b := 16) rfl) ?_
  refine r_icmp_eq (dk_at ktX0_confirmRunning_0 8 rfl) (b := 33) (by decide) (b2 := 19) rfl (fun c16 => ?_) (fun c16 => ?_)
  · skip
    refine rc_p (p_bipush (v := (-3)) (dk_at ktX0_confirmRunning_0 15 rfl) (by decide) (b := 35) rfl) ?_
    refine r_iret (dk_at ktX0_confirmRunning_0 16 rfl) rfl rfl ⟨_, rfl, ?_⟩
    have he := fCon_n (σ := σ) (fun q => by have := q.1; obtain ⟨r, hr, er⟩ := hI.2.2.1.run this; rw [er] at c16; exact nI_nm1 (by omega) c16)
    exact ⟨congrArg Prod.fst he, rfl, by rw [he]; exact RelE.of hR5 (by omega), (FD.tr FD.rf (hF6.mo (by simp <;> omega)))⟩
  · skip
    have h7 := run_7 hI c16
    obtain ⟨r, hr, er⟩ := hI.2.2.1.run h7
    refine rc_p (p_aload_n 0 (dk_at ktX0_confirmRunning_0 9 rfl) rfl rfl (b := 20) rfl) ?_
    refine r_geti fl_X0_77 rfl hd.l0 hd.s0 (dk_at ktX0_confirmRunning_0 10 rfl) (v := (σ 8)) (hR5.1 0 8 8 lc_0_8) (b := 23) rfl ?_
    refine rc_p (p_aload_n 0 (dk_at ktX0_confirmRunning_0 11 rfl) rfl rfl (b := 24) rfl) ?_
    refine r_geta fl_X0_28 rfl hd.l0 hd.s0 (dk_at ktX0_confirmRunning_0 12 rfl) hd.g0_2 (b := 27) rfl ?_
    refine r_geti fl_X0_128 rfl (hd.lt 16 (by decide)) hd.s16 (dk_at ktX0_confirmRunning_0 13 rfl) (v := (told σ 2)) (hL7.2.2.2 2 (by decide)) (b := 30) rfl ?_
    refine r_icmp_eq (dk_at ktX0_confirmRunning_0 14 rfl) (b := 36) (by decide) (b2 := 33) rfl (fun c30 => ?_) (fun c30 => ?_)
    · skip
      refine rc_p (p_aload_n 0 (dk_at ktX0_confirmRunning_0 17 rfl) rfl rfl (b := 37) rfl) ?_
      refine r_geta fl_X0_12 rfl hd.l0 hd.s0 (dk_at ktX0_confirmRunning_0 18 rfl) hd.g0_0 (b := 40) rfl ?_
      refine r_geta fl_X0_94 rfl (hd.lt 1 (by decide)) hd.s1 (dk_at ktX0_confirmRunning_0 19 rfl) hd.g1_0 (b := 43) rfl ?_
      refine rc_p (p_aload_n 0 (dk_at ktX0_confirmRunning_0 20 rfl) rfl rfl (b := 44) rfl) ?_
      refine r_geti fl_X0_77 rfl hd.l0 hd.s0 (dk_at ktX0_confirmRunning_0 21 rfl) (v := (nI r)) ((hR5.1 0 8 8 lc_0_8).trans er) (b := 47) rfl ?_
      refine r_aald (j := r) (id2 := (d + 3 + r)) (hd.lt 2 (by decide)) hd.s2 (by decide) (dk_at ktX0_confirmRunning_0 22 rfl) rfl ⟨by omega, by decide⟩ (hd.gc (by omega)) (b := 48) rfl ?_
      refine rc_p (p_iconst (v := 0) (dk_at ktX0_confirmRunning_0 23 rfl) (by decide) (b := 49) rfl) ?_
      refine r_iald (j := 0) (by have := hd.1; omega) (hd.sc (by omega)) (dk_at ktX0_confirmRunning_0 24 rfl) rfl ⟨by decide, by decide⟩ (v := (σ (83 + 64 * r + 0))) (hR5.at3 (q := 3) (r := r) (k := 0) (a := 83 + 64 * r + 0) (lc_s (by omega) (by decide))) (b := 50) rfl ?_
      refine rc_p (p_istore_n (ls' := [(1, .int (σ (83 + 64 * r + 0))), (0, .ref d)]) (dk_at ktX0_confirmRunning_0 25 rfl) rfl (by decide) rfl (b := 51) rfl) ?_
      refine rc_p (p_aload_n 1 (dk_at ktX0_confirmRunning_0 26 rfl) rfl rfl (b := 52) rfl) ?_
      refine rc_p (p_iconst (v := 2) (dk_at ktX0_confirmRunning_0 27 rfl) (by decide) (b := 53) rfl) ?_
      refine rc_p (p_aload_n 1 (dk_at ktX0_confirmRunning_0 28 rfl) rfl rfl (b := 54) rfl) ?_
      refine r_geti fl_X0_77 rfl hd.l0 hd.s0 (dk_at ktX0_confirmRunning_0 29 rfl) (v := (nI r)) ((hR5.1 0 8 8 lc_0_8).trans er) (b := 57) rfl ?_
      refine r_iV (As' := [.int 2, .int (nI r)]) (rest := []) (s_X0_appendRecord hd (σ := σ) hR5 hI (by omega) hL7 2 (by decide) (nI r)) cw_X0_157 qi_X0_appendRecord qv_X0_appendRecord rfl hd.l0 hd.s0 (dk_at ktX0_confirmRunning_0 30 rfl) rfl rfl (Nat.le_of_ble_eq_true rfl) (by decide) (b := 60) rfl (fun v11 I8 J9 q10 => ?_)
      obtain ⟨rfl, rfl, ⟨T12, hT13, hR14⟩, hF15, hL16⟩ := q10
      refine r_if_ne (dk_at ktX0_confirmRunning_0 31 rfl) (b := 68) (by decide) (b2 := 63) rfl (fun c60 => ?_) (fun c60 => ?_)
      · have c60 := bi_t c60
        have hL17 := hL16 c60
        refine rc_p (p_iload_n 0 (dk_at ktX0_confirmRunning_0 35 rfl) rfl rfl (b := 69) rfl) ?_
        refine rc_p (p_aload_n 1 (dk_at ktX0_confirmRunning_0 36 rfl) rfl rfl (b := 70) rfl) ?_
        refine r_geta fl_X0_28 rfl hd.l0 hd.s0 (dk_at ktX0_confirmRunning_0 37 rfl) hd.g0_2 (b := 73) rfl ?_
        refine r_geti fl_X0_98 rfl (hd.lt 16 (by decide)) hd.s16 (dk_at ktX0_confirmRunning_0 38 rfl) (v := (told ((fApp 2 (nI r) σ).2) 0)) (hL17.2.2.2 0 (by decide)) (b := 76) rfl ?_
        refine r_icmp_le (dk_at ktX0_confirmRunning_0 39 rfl) (b := 93) (by decide) (b2 := 79) rfl (fun c76 => ?_) (fun c76 => ?_)
        · skip
          refine rc_p (p_aload_n 1 (dk_at ktX0_confirmRunning_0 48 rfl) rfl rfl (b := 94) rfl) ?_
          refine r_geta fl_X0_28 rfl hd.l0 hd.s0 (dk_at ktX0_confirmRunning_0 49 rfl) hd.g0_2 (b := 97) rfl ?_
          refine r_geti fl_X0_98 rfl (hd.lt 16 (by decide)) hd.s16 (dk_at ktX0_confirmRunning_0 50 rfl) (v := (told ((fApp 2 (nI r) σ).2) 0)) (hL17.2.2.2 0 (by decide)) (b := 100) rfl ?_
          refine r_iret (dk_at ktX0_confirmRunning_0 51 rfl) rfl rfl ⟨_, rfl, ?_⟩
          have e1 : opC (σ (83 + 64 * r)) r σ = (true, (fApp 2 (nI r) σ).2) := by
            unfold opC; rw [sq_e (f := fApp 2 (nI r)) (pr_e c60), if_neg (Int32.not_lt.mpr (by rw [← con_floor hI hr c60]; exact c76))]; rfl
          have he := (fCon_y ⟨h7, c30.symm⟩ hr er).trans (letc_t e1)
          exact ⟨congrArg Prod.fst he, rfl, by rw [he]; exact RelE.of hR14 (by omega), (FD.tr (FD.tr FD.rf (hF6.mo (by simp <;> omega))) (hF15.mo (by simp <;> omega)))⟩
        · skip
          refine rc_p (p_aload_n 1 (dk_at ktX0_confirmRunning_0 40 rfl) rfl rfl (b := 80) rfl) ?_
          refine rc_p (p_iconst (v := 1) (dk_at ktX0_confirmRunning_0 41 rfl) (by decide) (b := 81) rfl) ?_
          refine rc_p (p_iload_n 0 (dk_at ktX0_confirmRunning_0 42 rfl) rfl rfl (b := 82) rfl) ?_
          refine r_iV (As' := [.int 1, .int (σ (83 + 64 * r + 0))]) (rest := []) (s_X0_appendRecord hd (σ := (fApp 2 (nI r) σ).2) hR14 (Inv.app hI) (by omega) hL17 1 (by decide) (σ (83 + 64 * r + 0))) cw_X0_157 qi_X0_appendRecord qv_X0_appendRecord rfl hd.l0 hd.s0 (dk_at ktX0_confirmRunning_0 43 rfl) rfl rfl (Nat.le_of_ble_eq_true rfl) (by decide) (b := 85) rfl (fun v21 I18 J19 q20 => ?_)
          obtain ⟨rfl, rfl, ⟨T22, hT23, hR24⟩, hF25, hL26⟩ := q20
          refine r_if_ne (dk_at ktX0_confirmRunning_0 44 rfl) (b := 93) (by decide) (b2 := 88) rfl (fun c85 => ?_) (fun c85 => ?_)
          · have c85 := bi_t c85
            have hL27 := hL26 c85
            refine rc_p (p_aload_n 1 (dk_at ktX0_confirmRunning_0 48 rfl) rfl rfl (b := 94) rfl) ?_
            refine r_geta fl_X0_28 rfl hd.l0 hd.s0 (dk_at ktX0_confirmRunning_0 49 rfl) hd.g0_2 (b := 97) rfl ?_
            refine r_geti fl_X0_98 rfl (hd.lt 16 (by decide)) hd.s16 (dk_at ktX0_confirmRunning_0 50 rfl) (v := (told ((fApp 1 (σ (83 + 64 * r + 0)) (fApp 2 (nI r) σ).2).2) 0)) (hL27.2.2.2 0 (by decide)) (b := 100) rfl ?_
            refine r_iret (dk_at ktX0_confirmRunning_0 51 rfl) rfl rfl ⟨_, rfl, ?_⟩
            have e1 : opC (σ (83 + 64 * r)) r σ = (true, (fApp 1 (σ (83 + 64 * r)) (fApp 2 (nI r) σ).2).2) := by
              unfold opC; rw [sq_e (f := fApp 2 (nI r)) (pr_e c60), if_pos (by rw [← con_floor hI hr c60]; exact Int32.not_le.mp c76)]; exact pr_e c85
            have he := (fCon_y ⟨h7, c30.symm⟩ hr er).trans (letc_t e1)
            exact ⟨congrArg Prod.fst he, rfl, by rw [he]; exact RelE.of hR24 (by omega), (FD.tr (FD.tr (FD.tr FD.rf (hF6.mo (by simp <;> omega))) (hF15.mo (by simp <;> omega))) (hF25.mo (by simp <;> omega)))⟩
          · have c85 := bi_f c85
            refine rc_p (p_aload_n 1 (dk_at ktX0_confirmRunning_0 45 rfl) rfl rfl (b := 89) rfl) ?_
            refine r_iV (As' := []) (rest := []) (s_X0_losePower hd (σ := (fApp 1 (σ (83 + 64 * r + 0)) (fApp 2 (nI r) σ).2).2) hR24 (Inv.app (Inv.app hI)) (by omega)) cw_X0_151 qi_X0_losePower qv_X0_losePower rfl hd.l0 hd.s0 (dk_at ktX0_confirmRunning_0 46 rfl) rfl rfl (Nat.le_of_ble_eq_true rfl) (by decide) (b := 92) rfl (fun v31 I28 J29 q30 => ?_)
            obtain ⟨rfl, rfl, ⟨T32, hT33, hR34⟩, hF35⟩ := q30
            refine r_iret (dk_at ktX0_confirmRunning_0 47 rfl) rfl rfl ⟨_, rfl, ?_⟩
            have e1 : opC (σ (83 + 64 * r)) r σ = (false, (fApp 1 (σ (83 + 64 * r)) (fApp 2 (nI r) σ).2).2) := by
              unfold opC; rw [sq_e (f := fApp 2 (nI r)) (pr_e c60), if_pos (by rw [← con_floor hI hr c60]; exact Int32.not_le.mp c76)]; exact pr_e c85
            have he := (fCon_y ⟨h7, c30.symm⟩ hr er).trans (let_f e1)
            exact ⟨congrArg Prod.fst he, rfl, by rw [he]; exact RelE.of hR34 (by omega), (FD.tr (FD.tr (FD.tr (FD.tr FD.rf (hF6.mo (by simp <;> omega))) (hF15.mo (by simp <;> omega))) (hF25.mo (by simp <;> omega))) (hF35.mo (by simp <;> omega)))⟩
      · have c60 := bi_f c60
        refine rc_p (p_aload_n 1 (dk_at ktX0_confirmRunning_0 32 rfl) rfl rfl (b := 64) rfl) ?_
        refine r_iV (As' := []) (rest := []) (s_X0_losePower hd (σ := (fApp 2 (nI r) σ).2) hR14 (Inv.app hI) (by omega)) cw_X0_151 qi_X0_losePower qv_X0_losePower rfl hd.l0 hd.s0 (dk_at ktX0_confirmRunning_0 33 rfl) rfl rfl (Nat.le_of_ble_eq_true rfl) (by decide) (b := 67) rfl (fun v39 I36 J37 q38 => ?_)
        obtain ⟨rfl, rfl, ⟨T40, hT41, hR42⟩, hF43⟩ := q38
        refine r_iret (dk_at ktX0_confirmRunning_0 34 rfl) rfl rfl ⟨_, rfl, ?_⟩
        have e1 : opC (σ (83 + 64 * r)) r σ = (false, (fApp 2 (nI r) σ).2) := by
          unfold opC; rw [sq_n (f := fApp 2 (nI r)) (pr_e c60)]
        have he := (fCon_y ⟨h7, c30.symm⟩ hr er).trans (let_f e1)
        exact ⟨congrArg Prod.fst he, rfl, by rw [he]; exact RelE.of hR42 (by omega), (FD.tr (FD.tr (FD.tr FD.rf (hF6.mo (by simp <;> omega))) (hF15.mo (by simp <;> omega))) (hF43.mo (by simp <;> omega)))⟩
    · skip
      refine rc_p (p_bipush (v := (-3)) (dk_at ktX0_confirmRunning_0 15 rfl) (by decide) (b := 35) rfl) ?_
      refine r_iret (dk_at ktX0_confirmRunning_0 16 rfl) rfl rfl ⟨_, rfl, ?_⟩
      have he := fCon_n (σ := σ) (fun q => c30 q.2.symm)
      exact ⟨congrArg Prod.fst he, rfl, by rw [he]; exact RelE.of hR5 (by omega), (FD.tr FD.rf (hF6.mo (by simp <;> omega)))⟩
set_option maxRecDepth 4000 in
set_option maxHeartbeats 4000000 in
theorem s_X0_mirrorRunning {n : Nat} {sh : mS} {G : mG} {I : mI} {J : mJ} {d : Nat} {σ : sT} {T N : Nat} (hd : DevG n sh G d) (hR : RelD d I σ T N) (hI : Inv σ) (hT : T + 4 < 1000000)  : Sp yX0_mirrorRunning cX0_mirrorRunning 3 (some FieldType.int) 6 214 0 0 [.ref d] n sh G I J (Qi (fun r_ I_ J_ => (fMir σ).1 = r_ ∧ J = J_ ∧ RelE d I_ (fMir σ).2 T 4 N ∧ FD d [0, 1, 3, 4, 5, 6, 8, 9, 10, 11, 12, 13, 14, 15, 16, 17] I I_)) nX := by
  refine Sp.of (by decide) (ls := [(0, .ref d)]) (fun _ => rfl) (fun _ => Nat.le_of_ble_eq_true rfl) ?_
  refine rc_p (p_aload_n 0 (dk_at ktX0_mirrorRunning_0 0 rfl) rfl rfl (b := 1) rfl) ?_
  refine r_iV (As' := []) (rest := []) (s_X0_runsGoodSlot hd (σ := σ) hR hI) cw_X0_168 qi_X0_runsGoodSlot qv_X0_runsGoodSlot rfl hd.l0 hd.s0 (dk_at ktX0_mirrorRunning_0 1 rfl) rfl rfl (Nat.le_of_ble_eq_true rfl) (by decide) (b := 4) rfl (fun v4 I1 J2 q3 => ?_)
  obtain ⟨rfl, rfl, hR5, hL7, hF6⟩ := q3
  refine r_if_eq (dk_at ktX0_mirrorRunning_0 2 rfl) (b := 21) (by decide) (b2 := 7) rfl (fun c4 => ?_) (fun c4 => ?_)
  · have c4 := bi_f c4
    refine rc_p (p_bipush (v := (-3)) (dk_at ktX0_mirrorRunning_0 9 rfl) (by decide) (b := 23) rfl) ?_
    refine r_iret (dk_at ktX0_mirrorRunning_0 10 rfl) rfl rfl ⟨_, rfl, ?_⟩
    have he := fMir_n (σ := σ) (fun q => by rw [c4] at q; exact absurd q.1 (by decide))
    exact ⟨congrArg Prod.fst he, rfl, by rw [he]; exact RelE.of hR5 (by omega), (FD.tr FD.rf (hF6.mo (by simp <;> omega)))⟩
  · have c4 := bi_t c4
    obtain ⟨r, hr, er⟩ := hI.2.2.1.run (goodB_t c4).1
    have hN := hR.2.2.2.2.1
    have hb := hI.bd
    refine rc_p (p_aload_n 0 (dk_at ktX0_mirrorRunning_0 3 rfl) rfl rfl (b := 8) rfl) ?_
    refine r_geta fl_X0_12 rfl hd.l0 hd.s0 (dk_at ktX0_mirrorRunning_0 4 rfl) hd.g0_0 (b := 11) rfl ?_
    refine rc_p (p_aload_n 0 (dk_at ktX0_mirrorRunning_0 5 rfl) rfl rfl (b := 12) rfl) ?_
    refine r_geti fl_X0_77 rfl hd.l0 hd.s0 (dk_at ktX0_mirrorRunning_0 6 rfl) (v := (nI r)) ((hR5.1 0 8 8 lc_0_8).trans er) (b := 15) rfl ?_
    refine r_iV (As' := [.int (nI r)]) (rest := []) (s_X1_holdsImage hd (σ := σ) hR5 hI r (by omega)) cw_X0_90 qi_X1_holdsImage qv_X1_holdsImage rfl (hd.lt 1 (by decide)) hd.s1 (dk_at ktX0_mirrorRunning_0 7 rfl) rfl rfl (Nat.le_of_ble_eq_true rfl) (by decide) (b := 18) rfl (fun v11 I8 J9 q10 => ?_)
    obtain ⟨rfl, rfl, rfl⟩ := q10
    refine r_if_ne (dk_at ktX0_mirrorRunning_0 8 rfl) (b := 24) (by decide) (b2 := 21) rfl (fun c18 => ?_) (fun c18 => ?_)
    · have c18 := bi_t c18
      have hw := wholeB_n c18
      have hw2 := hw
      rw [told_N hI hr, decide_eq_true_eq] at hw2
      have w0 := wd_tn (hI.2.2.2.1 (83 + 64 * r) (by omega) (by omega))
      have w1 := wd_tn (hI.2.2.2.1 (83 + 64 * r + 1) (by omega) (by omega))
      refine rc_p (p_aload_n 0 (dk_at ktX0_mirrorRunning_0 11 rfl) rfl rfl (b := 25) rfl) ?_
      refine r_geta fl_X0_12 rfl hd.l0 hd.s0 (dk_at ktX0_mirrorRunning_0 12 rfl) hd.g0_0 (b := 28) rfl ?_
      refine r_geti fl_X0_80 rfl (hd.lt 1 (by decide)) hd.s1 (dk_at ktX0_mirrorRunning_0 13 rfl) (v := (σ 9)) (hR5.1 1 8 9 lc_1_8) (b := 31) rfl ?_
      refine rc_p (p_istore_n (ls' := [(1, .int (σ 9)), (0, .ref d)]) (dk_at ktX0_mirrorRunning_0 14 rfl) rfl (by decide) rfl (b := 32) rfl) ?_
      refine rc_p (p_aload_n 1 (dk_at ktX0_mirrorRunning_0 15 rfl) rfl rfl (b := 33) rfl) ?_
      refine r_geta fl_X0_12 rfl hd.l0 hd.s0 (dk_at ktX0_mirrorRunning_0 16 rfl) hd.g0_0 (b := 36) rfl ?_
      refine r_geta fl_X0_94 rfl (hd.lt 1 (by decide)) hd.s1 (dk_at ktX0_mirrorRunning_0 17 rfl) hd.g1_0 (b := 39) rfl ?_
      refine rc_p (p_aload_n 1 (dk_at ktX0_mirrorRunning_0 18 rfl) rfl rfl (b := 40) rfl) ?_
      refine r_geti fl_X0_77 rfl hd.l0 hd.s0 (dk_at ktX0_mirrorRunning_0 19 rfl) (v := (nI r)) ((hR5.1 0 8 8 lc_0_8).trans er) (b := 43) rfl ?_
      refine r_aald (j := r) (id2 := (d + 3 + r)) (hd.lt 2 (by decide)) hd.s2 (by decide) (dk_at ktX0_mirrorRunning_0 20 rfl) rfl ⟨by omega, by decide⟩ (hd.gc (by omega)) (b := 44) rfl ?_
      refine rc_p (p_astore_n (ls' := [(2, .ref (d + 3 + r)), (1, .int (σ 9)), (0, .ref d)]) (dk_at ktX0_mirrorRunning_0 21 rfl) rfl (by decide) rfl (b := 45) rfl) ?_
      refine rc_p (p_aload_n 2 (dk_at ktX0_mirrorRunning_0 22 rfl) rfl rfl (b := 46) rfl) ?_
      refine r_geta fl_X0_12 rfl hd.l0 hd.s0 (dk_at ktX0_mirrorRunning_0 23 rfl) hd.g0_0 (b := 49) rfl ?_
      refine rc_p (p_iconst (v := 1) (dk_at ktX0_mirrorRunning_0 24 rfl) (by decide) (b := 50) rfl) ?_
      refine rc_p (p_aload_n 2 (dk_at ktX0_mirrorRunning_0 25 rfl) rfl rfl (b := 51) rfl) ?_
      refine r_geti fl_X0_77 rfl hd.l0 hd.s0 (dk_at ktX0_mirrorRunning_0 26 rfl) (v := (nI r)) ((hR5.1 0 8 8 lc_0_8).trans er) (b := 54) rfl ?_
      refine rc_p (p_isub (v := (nI (1 - r))) (dk_at ktX0_mirrorRunning_0 27 rfl) (pk_sub (a := 1) (b := r) (by omega)) (b := 55) rfl) ?_
      refine rc_p (p_aload_n 0 (dk_at ktX0_mirrorRunning_0 28 rfl) rfl rfl (b := 56) rfl) ?_
      refine rc_p (p_iconst (v := 0) (dk_at ktX0_mirrorRunning_0 29 rfl) (by decide) (b := 57) rfl) ?_
      refine r_iald (j := 0) (by have := hd.1; omega) (hd.sc (by omega)) (dk_at ktX0_mirrorRunning_0 30 rfl) rfl ⟨by decide, by decide⟩ (v := (nI (tn (σ (83 + 64 * r))))) (((hR5.at3 (q := 3) (r := r) (k := 0) (a := 83 + 64 * r + 0) (lc_s (by omega) (by decide)))).trans w0.1) (b := 58) rfl ?_
      refine rc_p (p_aload_n 0 (dk_at ktX0_mirrorRunning_0 31 rfl) rfl rfl (b := 59) rfl) ?_
      refine rc_p (p_aload_n 0 (dk_at ktX0_mirrorRunning_0 32 rfl) rfl rfl (b := 60) rfl) ?_
      refine rc_p (p_iconst (v := 1) (dk_at ktX0_mirrorRunning_0 33 rfl) (by decide) (b := 61) rfl) ?_
      refine r_iald (j := 1) (by have := hd.1; omega) (hd.sc (by omega)) (dk_at ktX0_mirrorRunning_0 34 rfl) rfl ⟨by decide, by decide⟩ (v := (nI (tn (σ (83 + 64 * r + 1))))) (((hR5.at3 (q := 3) (r := r) (k := 1) (a := 83 + 64 * r + 1) (lc_s (by omega) (by decide)))).trans w1.1) (b := 62) rfl ?_
      refine rc_p (p_iconst (v := 0) (dk_at ktX0_mirrorRunning_0 35 rfl) (by decide) (b := 63) rfl) ?_
      refine r_iV (As' := [.int (nI (1 - r)), .int (nI (tn (σ (83 + 64 * r)))), .ref (d + 3 + r), .int (nI (tn (σ (83 + 64 * r + 1)))), .int 0]) (rest := []) (s_X1_writeImage hd (σ := σ) hR5 hI (ar := (d + 3 + r)) ⟨(by have := hd.1; omega), (hd.sc (by omega))⟩ (1 - r) (tn (σ (83 + 64 * r))) (by omega) (by omega) (fun j => σ (83 + 64 * r + j)) (tn (σ (83 + 64 * r + 1))) (by omega) (fun j hj => hR5.at3 (q := 3) (r := r) (lc_s hr (by omega))) (fun j hj => hI.2.2.2.1 (83 + 64 * r + (3 + j)) (by omega) (by omega)) false (by simp; omega)) cw_X0_171 qi_X1_writeImage qv_X1_writeImage rfl (hd.lt 1 (by decide)) hd.s1 (dk_at ktX0_mirrorRunning_0 36 rfl) rfl rfl (Nat.le_of_ble_eq_true rfl) (by decide) (b := 66) rfl (fun v15 I12 J13 q14 => ?_)
      obtain ⟨rfl, rfl, hR16, hF17⟩ := q14
      rw [← w0.1]
      rw [← w0.1] at hR16
      refine r_if_eq (dk_at ktX0_mirrorRunning_0 37 rfl) (b := 81) (by decide) (b2 := 69) rfl (fun c66 => ?_) (fun c66 => ?_)
      · have c66 := bi_f c66
        refine rc_p (p_aload_n 2 (dk_at ktX0_mirrorRunning_0 44 rfl) rfl rfl (b := 82) rfl) ?_
        refine r_iV (As' := []) (rest := []) (s_X0_losePower hd (σ := (fImg (1 - r) false (fun j => σ (83 + 64 * r + j)) (tn (σ (83 + 64 * r + 1))) (σ (83 + 64 * r)) σ).2) hR16 (Inv.img hI (by omega) (by omega)) (by omega)) cw_X0_151 qi_X0_losePower qv_X0_losePower rfl hd.l0 hd.s0 (dk_at ktX0_mirrorRunning_0 45 rfl) rfl rfl (Nat.le_of_ble_eq_true rfl) (by decide) (b := 85) rfl (fun v21 I18 J19 q20 => ?_)
        obtain ⟨rfl, rfl, ⟨T22, hT23, hR24⟩, hF25⟩ := q20
        refine r_iret (dk_at ktX0_mirrorRunning_0 46 rfl) rfl rfl ⟨_, rfl, ?_⟩
        have e1 : sq (fImg (1 - r) false (fun j => σ (83 + 64 * r + j)) (tn (σ (83 + 64 * r + 1))) (σ (83 + 64 * r))) (fApp 2 (nI r)) σ = (false, (fImg (1 - r) false (fun j => σ (83 + 64 * r + j)) (tn (σ (83 + 64 * r + 1))) (σ (83 + 64 * r)) σ).2) := by
          rw [sq_n (f := fImg (1 - r) false (fun j => σ (83 + 64 * r + j)) (tn (σ (83 + 64 * r + 1))) (σ (83 + 64 * r))) (pr_e c66)]
        have he := (fMir_y c4 hr er c18).trans (let_f e1)
        exact ⟨congrArg Prod.fst he, rfl, by rw [he]; exact RelE.of hR24 (by omega), (FD.tr (FD.tr (FD.tr FD.rf (hF6.mo (by simp <;> omega))) (hF17.mo (by simp <;> omega))) (hF25.mo (by simp <;> omega)))⟩
      · have c66 := bi_t c66
        refine rc_p (p_aload_n 2 (dk_at ktX0_mirrorRunning_0 38 rfl) rfl rfl (b := 70) rfl) ?_
        refine rc_p (p_iconst (v := 2) (dk_at ktX0_mirrorRunning_0 39 rfl) (by decide) (b := 71) rfl) ?_
        refine rc_p (p_aload_n 2 (dk_at ktX0_mirrorRunning_0 40 rfl) rfl rfl (b := 72) rfl) ?_
        refine r_geti fl_X0_77 rfl hd.l0 hd.s0 (dk_at ktX0_mirrorRunning_0 41 rfl) (v := (nI r)) (((((hR16.1 0 8 8 lc_0_8)).trans (img_ne (by decide) (by decide) (by decide)))).trans er) (b := 75) rfl ?_
        refine r_iV (As' := [.int 2, .int (nI r)]) (rest := []) (s_X0_appendRecord hd (σ := (fImg (1 - r) false (fun j => σ (83 + 64 * r + j)) (tn (σ (83 + 64 * r + 1))) (σ (83 + 64 * r)) σ).2) hR16 (Inv.img hI (by omega) (by omega)) (by omega) ((hL7.of (hF17 _ (by simp; omega))).img hI (by omega) (by omega)) 2 (by decide) (nI r)) cw_X0_157 qi_X0_appendRecord qv_X0_appendRecord rfl hd.l0 hd.s0 (dk_at ktX0_mirrorRunning_0 42 rfl) rfl rfl (Nat.le_of_ble_eq_true rfl) (by decide) (b := 78) rfl (fun v29 I26 J27 q28 => ?_)
        obtain ⟨rfl, rfl, ⟨T30, hT31, hR32⟩, hF33, hL34⟩ := q28
        refine r_if_ne (dk_at ktX0_mirrorRunning_0 43 rfl) (b := 86) (by decide) (b2 := 81) rfl (fun c78 => ?_) (fun c78 => ?_)
        · have c78 := bi_t c78
          have hL35 := hL34 c78
          refine rc_p (p_aload_n 2 (dk_at ktX0_mirrorRunning_0 47 rfl) rfl rfl (b := 87) rfl) ?_
          refine r_geta fl_X0_12 rfl hd.l0 hd.s0 (dk_at ktX0_mirrorRunning_0 48 rfl) hd.g0_0 (b := 90) rfl ?_
          refine r_geti fl_X0_80 rfl (hd.lt 1 (by decide)) hd.s1 (dk_at ktX0_mirrorRunning_0 49 rfl) (v := (((fApp 2 (nI r) (fImg (1 - r) false (fun j => σ (83 + 64 * r + j)) (tn (σ (83 + 64 * r + 1))) (σ (83 + 64 * r)) σ).2).2) 9)) (hR32.1 1 8 9 lc_1_8) (b := 93) rfl ?_
          refine rc_p (p_iload_n 1 (dk_at ktX0_mirrorRunning_0 50 rfl) rfl rfl (b := 94) rfl) ?_
          refine rc_p (p_isub (v := ((((fApp 2 (nI r) (fImg (1 - r) false (fun j => σ (83 + 64 * r + j)) (tn (σ (83 + 64 * r + 1))) (σ (83 + 64 * r)) σ).2).2) 9) - (σ 9))) (dk_at ktX0_mirrorRunning_0 51 rfl) rfl (b := 95) rfl) ?_
          refine r_iret (dk_at ktX0_mirrorRunning_0 52 rfl) rfl rfl ⟨_, rfl, ?_⟩
          have e1 : sq (fImg (1 - r) false (fun j => σ (83 + 64 * r + j)) (tn (σ (83 + 64 * r + 1))) (σ (83 + 64 * r))) (fApp 2 (nI r)) σ = (true, (fApp 2 (nI r) (fImg (1 - r) false (fun j => σ (83 + 64 * r + j)) (tn (σ (83 + 64 * r + 1))) (σ (83 + 64 * r)) σ).2).2) := by
            rw [sq_e (f := fImg (1 - r) false (fun j => σ (83 + 64 * r + j)) (tn (σ (83 + 64 * r + 1))) (σ (83 + 64 * r))) (pr_e c66)]; exact pr_e c78
          have he := (fMir_y c4 hr er c18).trans (let_t e1)
          exact ⟨congrArg Prod.fst he, rfl, by rw [he]; exact RelE.of hR32 (by omega), (FD.tr (FD.tr (FD.tr FD.rf (hF6.mo (by simp <;> omega))) (hF17.mo (by simp <;> omega))) (hF33.mo (by simp <;> omega)))⟩
        · have c78 := bi_f c78
          refine rc_p (p_aload_n 2 (dk_at ktX0_mirrorRunning_0 44 rfl) rfl rfl (b := 82) rfl) ?_
          refine r_iV (As' := []) (rest := []) (s_X0_losePower hd (σ := (fApp 2 (nI r) (fImg (1 - r) false (fun j => σ (83 + 64 * r + j)) (tn (σ (83 + 64 * r + 1))) (σ (83 + 64 * r)) σ).2).2) hR32 (Inv.app (Inv.img hI (by omega) (by omega))) (by omega)) cw_X0_151 qi_X0_losePower qv_X0_losePower rfl hd.l0 hd.s0 (dk_at ktX0_mirrorRunning_0 45 rfl) rfl rfl (Nat.le_of_ble_eq_true rfl) (by decide) (b := 85) rfl (fun v39 I36 J37 q38 => ?_)
          obtain ⟨rfl, rfl, ⟨T40, hT41, hR42⟩, hF43⟩ := q38
          refine r_iret (dk_at ktX0_mirrorRunning_0 46 rfl) rfl rfl ⟨_, rfl, ?_⟩
          have e1 : sq (fImg (1 - r) false (fun j => σ (83 + 64 * r + j)) (tn (σ (83 + 64 * r + 1))) (σ (83 + 64 * r))) (fApp 2 (nI r)) σ = (false, (fApp 2 (nI r) (fImg (1 - r) false (fun j => σ (83 + 64 * r + j)) (tn (σ (83 + 64 * r + 1))) (σ (83 + 64 * r)) σ).2).2) := by
            rw [sq_e (f := fImg (1 - r) false (fun j => σ (83 + 64 * r + j)) (tn (σ (83 + 64 * r + 1))) (σ (83 + 64 * r))) (pr_e c66)]; exact pr_e c78
          have he := (fMir_y c4 hr er c18).trans (let_f e1)
          exact ⟨congrArg Prod.fst he, rfl, by rw [he]; exact RelE.of hR42 (by omega), (FD.tr (FD.tr (FD.tr (FD.tr FD.rf (hF6.mo (by simp <;> omega))) (hF17.mo (by simp <;> omega))) (hF33.mo (by simp <;> omega))) (hF43.mo (by simp <;> omega)))⟩
    · have c18 := bi_f c18
      refine rc_p (p_bipush (v := (-3)) (dk_at ktX0_mirrorRunning_0 9 rfl) (by decide) (b := 23) rfl) ?_
      refine r_iret (dk_at ktX0_mirrorRunning_0 10 rfl) rfl rfl ⟨_, rfl, ?_⟩
      have he := fMir_n (σ := σ) (fun q => by have := q.2; rw [er, tn_nI (by omega), c18] at this; exact absurd this (by decide))
      exact ⟨congrArg Prod.fst he, rfl, by rw [he]; exact RelE.of hR5 (by omega), (FD.tr FD.rf (hF6.mo (by simp <;> omega)))⟩
set_option maxRecDepth 4000 in
set_option maxHeartbeats 4000000 in
theorem s_X0_recoverSlot {n : Nat} {sh : mS} {G : mG} {I : mI} {J : mJ} {d : Nat} {σ : sT} {T N : Nat} (hd : DevG n sh G d) (hR : RelD d I σ T N) (hI : Inv σ) (hT : T + 4 < 1000000) (s v : Nat) (hs : s < 2) (hv : v < 256) : Sp yX0_recoverSlot cX0_recoverSlot 4 (some FieldType.int) 6 214 0 0 [.ref d, .int (nI s), .int (nI v)] n sh G I J (Qi (fun r_ I_ J_ => (fRcv s (nI v) σ).1 = r_ ∧ J = J_ ∧ RelE d I_ (fRcv s (nI v) σ).2 T 4 N ∧ FD d [0, 1, 3, 4, 5, 6, 8, 9, 10, 11, 12, 13, 14, 15, 16, 17] I I_)) nX := by
  refine Sp.of (by decide) (ls := [(0, .ref d), (1, .int (nI s)), (2, .int (nI v))]) (fun _ => rfl) (fun _ => Nat.le_of_ble_eq_true rfl) ?_
  refine rc_p (p_aload_n 0 (dk_at ktX0_recoverSlot_0 0 rfl) rfl rfl (b := 1) rfl) ?_
  refine r_geti fl_X0_74 rfl hd.l0 hd.s0 (dk_at ktX0_recoverSlot_0 1 rfl) (v := (σ 7)) (hR.1 0 7 7 lc_0_7) (b := 4) rfl ?_
  refine rc_p (p_iconst (v := 2) (dk_at ktX0_recoverSlot_0 2 rfl) (by decide) (b := 5) rfl) ?_
  refine r_icmp_ne (dk_at ktX0_recoverSlot_0 3 rfl) (b := 15) (by decide) (b2 := 8) rfl (fun c5 => ?_) (fun c5 => ?_)
  · skip
    refine rc_p (p_bipush (v := (-3)) (dk_at ktX0_recoverSlot_0 7 rfl) (by decide) (b := 17) rfl) ?_
    refine r_iret (dk_at ktX0_recoverSlot_0 8 rfl) rfl rfl ⟨_, rfl, ?_⟩
    have he := fRcv_n (s := s) (v := nI v) (σ := σ) (fun q => c5 q.1)
    exact ⟨congrArg Prod.fst he, rfl, by rw [he]; exact RelE.of hR (by omega), FD.rf⟩
  · skip
    refine rc_p (p_aload_n 0 (dk_at ktX0_recoverSlot_0 4 rfl) rfl rfl (b := 9) rfl) ?_
    refine r_geti fl_X0_46 rfl hd.l0 hd.s0 (dk_at ktX0_recoverSlot_0 5 rfl) (v := (σ 4)) (hR.1 0 5 4 lc_0_5) (b := 12) rfl ?_
    refine r_if_ne (dk_at ktX0_recoverSlot_0 6 rfl) (b := 18) (by decide) (b2 := 15) rfl (fun c12 => ?_) (fun c12 => ?_)
    · skip
      refine rc_p (p_aload_n 0 (dk_at ktX0_recoverSlot_0 9 rfl) rfl rfl (b := 19) rfl) ?_
      refine r_geta fl_X0_28 rfl hd.l0 hd.s0 (dk_at ktX0_recoverSlot_0 10 rfl) hd.g0_2 (b := 22) rfl ?_
      refine rc_p (p_aload_n 0 (dk_at ktX0_recoverSlot_0 11 rfl) rfl rfl (b := 23) rfl) ?_
      refine r_geta fl_X0_12 rfl hd.l0 hd.s0 (dk_at ktX0_recoverSlot_0 12 rfl) hd.g0_0 (b := 26) rfl ?_
      refine r_vV (As' := [.ref (d + 1)]) (rest := []) (s_X2_readFrom hd (σ := σ) hR hI) cw_X0_145 qi_X2_readFrom qv_X2_readFrom rfl (hd.lt 16 (by decide)) hd.s16 (dk_at ktX0_recoverSlot_0 13 rfl) rfl rfl (Nat.le_of_ble_eq_true rfl) (by decide) (b := 29) rfl (fun I1 J2 q3 => ?_)
      obtain ⟨rfl, hR5, hL7, hF6⟩ := q3
      refine rc_p (p_iload_n 2 (dk_at ktX0_recoverSlot_0 14 rfl) rfl rfl (b := 30) rfl) ?_
      refine rc_p (p_aload_n 0 (dk_at ktX0_recoverSlot_0 15 rfl) rfl rfl (b := 31) rfl) ?_
      refine r_geta fl_X0_28 rfl hd.l0 hd.s0 (dk_at ktX0_recoverSlot_0 16 rfl) hd.g0_2 (b := 34) rfl ?_
      refine r_geti fl_X0_98 rfl (hd.lt 16 (by decide)) hd.s16 (dk_at ktX0_recoverSlot_0 17 rfl) (v := (told σ 0)) (hL7.2.2.2 0 (by decide)) (b := 37) rfl ?_
      refine r_icmp_ge (dk_at ktX0_recoverSlot_0 18 rfl) (b := 43) (by decide) (b2 := 40) rfl (fun c37 => ?_) (fun c37 => ?_)
      · skip
        have hN := hR.2.2.2.2.1
        have hNS := hR.2.2.2.1
        have hb := hI.bd
        refine rc_p (p_aload_n 0 (dk_at ktX0_recoverSlot_0 21 rfl) rfl rfl (b := 44) rfl) ?_
        refine r_geta fl_X0_12 rfl hd.l0 hd.s0 (dk_at ktX0_recoverSlot_0 22 rfl) hd.g0_0 (b := 47) rfl ?_
        refine r_geti fl_X0_80 rfl (hd.lt 1 (by decide)) hd.s1 (dk_at ktX0_recoverSlot_0 23 rfl) (v := (σ 9)) (hR5.1 1 8 9 lc_1_8) (b := 50) rfl ?_
        refine rc_p (p_istore_n (ls' := [(3, .int (σ 9)), (0, .ref d), (1, .int (nI s)), (2, .int (nI v))]) (dk_at ktX0_recoverSlot_0 24 rfl) rfl (by decide) rfl (b := 51) rfl) ?_
        refine rc_p (p_aload_n 1 (dk_at ktX0_recoverSlot_0 25 rfl) rfl rfl (b := 52) rfl) ?_
        refine r_geta fl_X0_12 rfl hd.l0 hd.s0 (dk_at ktX0_recoverSlot_0 26 rfl) hd.g0_0 (b := 55) rfl ?_
        refine rc_p (p_iload_n 2 (dk_at ktX0_recoverSlot_0 27 rfl) rfl rfl (b := 56) rfl) ?_
        refine rc_p (p_iload_n 3 (dk_at ktX0_recoverSlot_0 28 rfl) rfl rfl (b := 57) rfl) ?_
        refine rc_p (p_aload_n 1 (dk_at ktX0_recoverSlot_0 29 rfl) rfl rfl (b := 58) rfl) ?_
        refine r_geta fl_X0_36 rfl hd.l0 hd.s0 (dk_at ktX0_recoverSlot_0 30 rfl) hd.g0_4 (b := 61) rfl ?_
        refine rc_p (p_aload_n 1 (dk_at ktX0_recoverSlot_0 31 rfl) rfl rfl (b := 62) rfl) ?_
        refine r_geti fl_X0_46 rfl hd.l0 hd.s0 (dk_at ktX0_recoverSlot_0 32 rfl) (v := (nI (nS σ))) ((hR5.1 0 5 4 lc_0_5).trans (hI).w4) (b := 65) rfl ?_
        refine rc_p (p_iconst (v := 0) (dk_at ktX0_recoverSlot_0 33 rfl) (by decide) (b := 66) rfl) ?_
        refine r_iV (As' := [.int (nI s), .int (nI v), .ref (d + 18), .int (nI (nS σ)), .int 0]) (rest := []) (s_X1_writeImage hd (σ := σ) hR5 hI (ar := (d + 18)) ⟨(hd.lt 18 (by decide)), hd.s18⟩ s v (by omega) (by omega) (payS σ) (nS σ) (by omega) (fun j hj => (hR5.1 18 (3 + j) (16 + (3 + j)) (lc_t (by omega) (by omega))).trans rfl) (fun j hj => hI.2.2.2.1 (16 + (3 + j)) (by omega) (by omega)) false (by simp; omega)) cw_X0_171 qi_X1_writeImage qv_X1_writeImage rfl (hd.lt 1 (by decide)) hd.s1 (dk_at ktX0_recoverSlot_0 34 rfl) rfl rfl (Nat.le_of_ble_eq_true rfl) (by decide) (b := 69) rfl (fun v11 I8 J9 q10 => ?_)
        obtain ⟨rfl, rfl, hR12, hF13⟩ := q10
        refine r_if_eq (dk_at ktX0_recoverSlot_0 35 rfl) (b := 81) (by decide) (b2 := 72) rfl (fun c69 => ?_) (fun c69 => ?_)
        · have c69 := bi_f c69
          refine rc_p (p_aload_n 1 (dk_at ktX0_recoverSlot_0 41 rfl) rfl rfl (b := 82) rfl) ?_
          refine r_iV (As' := []) (rest := []) (s_X0_losePower hd (σ := (fImg s false (payS σ) (nS σ) (nI v) σ).2) hR12 (Inv.img hI (by omega) (by omega)) (by omega)) cw_X0_151 qi_X0_losePower qv_X0_losePower rfl hd.l0 hd.s0 (dk_at ktX0_recoverSlot_0 42 rfl) rfl rfl (Nat.le_of_ble_eq_true rfl) (by decide) (b := 85) rfl (fun v17 I14 J15 q16 => ?_)
          obtain ⟨rfl, rfl, ⟨T18, hT19, hR20⟩, hF21⟩ := q16
          refine r_iret (dk_at ktX0_recoverSlot_0 43 rfl) rfl rfl ⟨_, rfl, ?_⟩
          have e1 : sq (fImg s false (payS σ) (nS σ) (nI v)) (fApp 2 (nI s)) σ = (false, (fImg s false (payS σ) (nS σ) (nI v) σ).2) := by
            rw [sq_n (f := fImg s false (payS σ) (nS σ) (nI v)) (pr_e c69)]
          have he := (fRcv_y (s := s) ⟨c5, c12⟩ (Int32.not_lt.mpr c37)).trans (let_f e1)
          exact ⟨congrArg Prod.fst he, rfl, by rw [he]; exact RelE.of hR20 (by omega), (FD.tr (FD.tr (FD.tr FD.rf (hF6.mo (by simp <;> omega))) (hF13.mo (by simp <;> omega))) (hF21.mo (by simp <;> omega)))⟩
        · have c69 := bi_t c69
          refine rc_p (p_aload_n 1 (dk_at ktX0_recoverSlot_0 36 rfl) rfl rfl (b := 73) rfl) ?_
          refine rc_p (p_iconst (v := 2) (dk_at ktX0_recoverSlot_0 37 rfl) (by decide) (b := 74) rfl) ?_
          refine rc_p (p_iload_n 2 (dk_at ktX0_recoverSlot_0 38 rfl) rfl rfl (b := 75) rfl) ?_
          refine r_iV (As' := [.int 2, .int (nI s)]) (rest := []) (s_X0_appendRecord hd (σ := (fImg s false (payS σ) (nS σ) (nI v) σ).2) hR12 (Inv.img hI (by omega) (by omega)) (by omega) ((hL7.of (hF13 _ (by simp; omega))).img hI (by omega) (by omega)) 2 (by decide) (nI s)) cw_X0_157 qi_X0_appendRecord qv_X0_appendRecord rfl hd.l0 hd.s0 (dk_at ktX0_recoverSlot_0 39 rfl) rfl rfl (Nat.le_of_ble_eq_true rfl) (by decide) (b := 78) rfl (fun v25 I22 J23 q24 => ?_)
          obtain ⟨rfl, rfl, ⟨T26, hT27, hR28⟩, hF29, hL30⟩ := q24
          refine r_if_ne (dk_at ktX0_recoverSlot_0 40 rfl) (b := 86) (by decide) (b2 := 81) rfl (fun c78 => ?_) (fun c78 => ?_)
          · have c78 := bi_t c78
            have hL31 := hL30 c78
            refine rc_p (p_aload_n 1 (dk_at ktX0_recoverSlot_0 44 rfl) rfl rfl (b := 87) rfl) ?_
            refine rc_p (p_iconst (v := 0) (dk_at ktX0_recoverSlot_0 45 rfl) (by decide) (b := 88) rfl) ?_
            refine r_puti fl_X0_46 fw_X0_5 rfl hd.l0 hd.s0 rfl rfl (dk_at ktX0_recoverSlot_0 46 rfl) (b := 91) rfl ?_
            refine rc_p (p_aload_n 1 (dk_at ktX0_recoverSlot_0 47 rfl) rfl rfl (b := 92) rfl) ?_
            refine r_vV (As' := []) (rest := []) (s_X0_switchOff hd (σ := (upd ((fApp 2 (nI s) (fImg s false (payS σ) (nS σ) (nI v) σ).2).2) 4 0)) (hR28.set (o := 0) (k := 5) (a := 4) lc_0_5 (by omega) (by omega) (fun _ => by first | decide | exact Nat.zero_le _ | (rw [tn_nI (by omega)]; omega) | omega)) ((Inv.app (Inv.img hI hs (by omega))).z4 (k := 0) (by rw [nW_of (fApp_ne Kp_0), nW_of (img_ne (by decide) (by decide) (by decide))]; omega))) cw_X0_58 qi_X0_switchOff qv_X0_switchOff rfl hd.l0 hd.s0 (dk_at ktX0_recoverSlot_0 48 rfl) rfl rfl (Nat.le_of_ble_eq_true rfl) (by decide) (b := 95) rfl (fun I32 J33 q34 => ?_)
            obtain ⟨rfl, hR36, hF37⟩ := q34
            refine rc_p (p_aload_n 1 (dk_at ktX0_recoverSlot_0 49 rfl) rfl rfl (b := 96) rfl) ?_
            refine r_geta fl_X0_12 rfl hd.l0 hd.s0 (dk_at ktX0_recoverSlot_0 50 rfl) hd.g0_0 (b := 99) rfl ?_
            refine r_geti fl_X0_80 rfl (hd.lt 1 (by decide)) hd.s1 (dk_at ktX0_recoverSlot_0 51 rfl) (v := ((sOff (upd ((fApp 2 (nI s) (fImg s false (payS σ) (nS σ) (nI v) σ).2).2) 4 0)) 9)) (hR36.1 1 8 9 lc_1_8) (b := 102) rfl ?_
            refine rc_p (p_iload_n 0 (dk_at ktX0_recoverSlot_0 52 rfl) rfl rfl (b := 103) rfl) ?_
            refine rc_p (p_isub (v := (((sOff (upd ((fApp 2 (nI s) (fImg s false (payS σ) (nS σ) (nI v) σ).2).2) 4 0)) 9) - (σ 9))) (dk_at ktX0_recoverSlot_0 53 rfl) rfl (b := 104) rfl) ?_
            refine r_iret (dk_at ktX0_recoverSlot_0 54 rfl) rfl rfl ⟨_, rfl, ?_⟩
            have e1 : sq (fImg s false (payS σ) (nS σ) (nI v)) (fApp 2 (nI s)) σ = (true, (fApp 2 (nI s) (fImg s false (payS σ) (nS σ) (nI v) σ).2).2) := by
              rw [sq_e (f := fImg s false (payS σ) (nS σ) (nI v)) (pr_e c69)]; exact pr_e c78
            have he := (fRcv_y (s := s) ⟨c5, c12⟩ (Int32.not_lt.mpr c37)).trans (letr_t e1)
            have e8 : (upd (fApp 2 (nI s) (fImg s false (payS σ) (nS σ) (nI v) σ).2).2 4 0) 8 = -1 := (fApp_ne Kp_8).trans ((img_ne (by decide) (by decide) (by decide)).trans (hI.2.2.1.not (by rw [c5]; decide)))
            exact ⟨congrArg Prod.fst he, rfl, by rw [he, ← sOff_id e8]; exact RelE.of hR36 (by omega), (FD.tr (FD.up0 (FD.tr (FD.tr (FD.tr FD.rf (hF6.mo (by simp <;> omega))) (hF13.mo (by simp <;> omega))) (hF29.mo (by simp <;> omega))) (by simp)) (hF37.mo (by simp <;> omega)))⟩
          · have c78 := bi_f c78
            refine rc_p (p_aload_n 1 (dk_at ktX0_recoverSlot_0 41 rfl) rfl rfl (b := 82) rfl) ?_
            refine r_iV (As' := []) (rest := []) (s_X0_losePower hd (σ := (fApp 2 (nI s) (fImg s false (payS σ) (nS σ) (nI v) σ).2).2) hR28 (Inv.app (Inv.img hI (by omega) (by omega))) (by omega)) cw_X0_151 qi_X0_losePower qv_X0_losePower rfl hd.l0 hd.s0 (dk_at ktX0_recoverSlot_0 42 rfl) rfl rfl (Nat.le_of_ble_eq_true rfl) (by decide) (b := 85) rfl (fun v41 I38 J39 q40 => ?_)
            obtain ⟨rfl, rfl, ⟨T42, hT43, hR44⟩, hF45⟩ := q40
            refine r_iret (dk_at ktX0_recoverSlot_0 43 rfl) rfl rfl ⟨_, rfl, ?_⟩
            have e1 : sq (fImg s false (payS σ) (nS σ) (nI v)) (fApp 2 (nI s)) σ = (false, (fApp 2 (nI s) (fImg s false (payS σ) (nS σ) (nI v) σ).2).2) := by
              rw [sq_e (f := fImg s false (payS σ) (nS σ) (nI v)) (pr_e c69)]; exact pr_e c78
            have he := (fRcv_y (s := s) ⟨c5, c12⟩ (Int32.not_lt.mpr c37)).trans (let_f e1)
            exact ⟨congrArg Prod.fst he, rfl, by rw [he]; exact RelE.of hR44 (by omega), (FD.tr (FD.tr (FD.tr (FD.tr FD.rf (hF6.mo (by simp <;> omega))) (hF13.mo (by simp <;> omega))) (hF29.mo (by simp <;> omega))) (hF45.mo (by simp <;> omega)))⟩
      · skip
        refine rc_p (p_bipush (v := (-5)) (dk_at ktX0_recoverSlot_0 19 rfl) (by decide) (b := 42) rfl) ?_
        refine r_iret (dk_at ktX0_recoverSlot_0 20 rfl) rfl rfl ⟨_, rfl, ?_⟩
        have he := fRcv_o (s := s) ⟨c5, c12⟩ (Int32.not_le.mp c37)
        exact ⟨congrArg Prod.fst he, rfl, by rw [he]; exact RelE.of hR5 (by omega), (FD.tr FD.rf (hF6.mo (by simp <;> omega)))⟩
    · skip
      refine rc_p (p_bipush (v := (-3)) (dk_at ktX0_recoverSlot_0 7 rfl) (by decide) (b := 17) rfl) ?_
      refine r_iret (dk_at ktX0_recoverSlot_0 8 rfl) rfl rfl ⟨_, rfl, ?_⟩
      have he := fRcv_n (s := s) (v := nI v) (σ := σ) (fun q => q.2 c12)
      exact ⟨congrArg Prod.fst he, rfl, by rw [he]; exact RelE.of hR (by omega), FD.rf⟩

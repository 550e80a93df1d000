/-! THE REFERENCE: its calls, reads of the journal and of the flash -/
set_option maxRecDepth 4000 in
set_option maxHeartbeats 4000000 in
theorem s_X7_recover {n : Nat} {sh : mS} {G : mG} {I : mI} {J : mJ} {m : Nat} {σ : sT} (hm : ModG n sh G m) (hR : RelW (I (m + 1)) σ) (hI : Inv σ) (s v : Int32) : Sp yX7_recover cX7_recover 4 (some FieldType.int) 9 432 0 0 [.ref m, .int s, .int v] n sh G I J (Qi (fun r_ I_ J_ => (cRcv s v = 0 → (fRcv (tn s) v σ).1 = r_) ∧ I_ m 6 = cRcv s v ∧ J = J_ ∧ RelW (I_ (m + 1)) (t_rcv s v σ) ∧ FF m [1, 2, 8] [6, 18, 19, 20, 21, 22, 23, 24, 26, 27] I I_)) nX := by
  have hb := hI.bd
  rcases sl_c s with rfl | rfl | hs
  · refine Sp.of (by decide) (ls := [(0, .ref m), (1, .int 0), (2, .int v)]) (fun _ => rfl) (fun _ => Nat.le_of_ble_eq_true rfl) ?_
    refine rc_p (p_aload_n 0 (dk_at ktX7_recover_0 0 rfl) rfl rfl (b := 1) rfl) ?_
    refine rc_p (p_iconst (v := 0) (dk_at ktX7_recover_0 1 rfl) (by decide) (b := 2) rfl) ?_
    refine r_puti fl_X7_46 fw_X7_6 rfl hm.l0 hm.s0 rfl rfl (dk_at ktX7_recover_0 2 rfl) (b := 5) rfl ?_
    refine rc_p (p_aload_n 0 (dk_at ktX7_recover_0 3 rfl) rfl rfl (b := 6) rfl) ?_
    refine rc_p (p_iload_n 1 (dk_at ktX7_recover_0 4 rfl) rfl rfl (b := 7) rfl) ?_
    refine rc_p (p_i2l (v := (Int32.toInt64 0)) (dk_at ktX7_recover_0 5 rfl) rfl (b := 8) rfl) ?_
    refine rc_p (p_lconst (v := 0) (dk_at ktX7_recover_0 6 rfl) (by decide) (b := 9) rfl) ?_
    refine rc_p (p_lconst (v := 1) (dk_at ktX7_recover_0 7 rfl) (by decide) (b := 10) rfl) ?_
    refine r_iS (As := [.long (Int32.toInt64 0), .long 0, .long 1]) (rest := [.ref m]) (s_X7_in (Int32.toInt64 0) 0 1) cw_X7_73 qs_X7_in (dk_at ktX7_recover_0 8 rfl) rfl rfl (Nat.le_of_ble_eq_true rfl) (by decide) (b := 13) rfl (fun v4 I1 J2 q3 => ?_)
    obtain ⟨rfl, rfl, rfl⟩ := q3
    refine r_val (y := bi (inI 0 0 1)) (congrArg bi (inJ_I 0 0 1)) ?_
    refine r_val (y := 1) (by decide) ?_
    refine r_if_eq (dk_at ktX7_recover_0 9 rfl) (b := 28) (by decide) (b2 := 16) rfl (fun c13 => ?_) (fun c13 => ?_)
    · first | exact absurd c13 (by decide) | exact absurd (by decide) c13
    · skip
      refine rc_p (p_iload_n 2 (dk_at ktX7_recover_0 10 rfl) rfl rfl (b := 17) rfl) ?_
      refine rc_p (p_i2l (v := (Int32.toInt64 v)) (dk_at ktX7_recover_0 11 rfl) rfl (b := 18) rfl) ?_
      refine rc_p (p_lconst (v := 1) (dk_at ktX7_recover_0 12 rfl) (by decide) (b := 19) rfl) ?_
      refine rc_p (p_ldc2 (v := 255) ql_TwinBootModel_57 (dk_at ktX7_recover_0 13 rfl) (b := 22) rfl) ?_
      refine r_iS (As := [.long (Int32.toInt64 v), .long 1, .long 255]) (rest := [.ref m]) (s_X7_in (Int32.toInt64 v) 1 255) cw_X7_73 qs_X7_in (dk_at ktX7_recover_0 14 rfl) rfl rfl (Nat.le_of_ble_eq_true rfl) (by decide) (b := 25) rfl (fun v8 I5 J6 q7 => ?_)
      obtain ⟨rfl, rfl, rfl⟩ := q7
      refine r_val (y := bi (inI v 1 255)) (congrArg bi (inJ_I v 1 255)) ?_
      refine r_if_ne (dk_at ktX7_recover_0 15 rfl) (b := 32) (by decide) (b2 := 28) rfl (fun c25 => ?_) (fun c25 => ?_)
      · have c25 := bi_t c25
        refine rc_p (p_iconst (v := 0) (dk_at ktX7_recover_0 18 rfl) (by decide) (b := 33) rfl) ?_
        refine rc_p (p_iconst (v := 1) (dk_at ktX7_recover_0 19 rfl) (by decide) (b := 34) rfl) ?_
        refine r_iV (As' := [.int 0, .int 1]) (rest := []) (s_X7_throwsIf hm (σ := σ) (by rw [up2_off (by omega)]; exact hR) hI up2_s false 1 (by decide)) cw_X7_190 qi_X7_throwsIf qv_X7_throwsIf rfl hm.l0 hm.s0 (dk_at ktX7_recover_0 20 rfl) rfl rfl (Nat.le_of_ble_eq_true rfl) (by decide) (b := 37) rfl (fun v12 I9 J10 q11 => ?_)
        obtain ⟨rfl, rfl, hR13, hF14, h615⟩ := q11
        refine r_val (y := 0) rfl ?_
        refine r_if_eq (dk_at ktX7_recover_0 21 rfl) (b := 42) (by decide) (b2 := 40) rfl (fun c37 => ?_) (fun c37 => ?_)
        · skip
          refine rc_p (p_aload_n 0 (dk_at ktX7_recover_0 24 rfl) rfl rfl (b := 43) rfl) ?_
          refine r_geta fl_X7_9 rfl hm.l0 hm.s0 (dk_at ktX7_recover_0 25 rfl) hm.g0_0 (b := 46) rfl ?_
          refine rc_p (p_bipush (v := 7) (dk_at ktX7_recover_0 26 rfl) (by decide) (b := 48) rfl) ?_
          refine r_iald (j := 7) (hm.lt 1 (by decide)) hm.s1 (dk_at ktX7_recover_0 27 rfl) rfl ⟨by decide, by decide⟩ (v := (σ 7)) (hR13.1 7 (by decide)) (b := 49) rfl ?_
          refine rc_p (p_iconst (v := 2) (dk_at ktX7_recover_0 28 rfl) (by decide) (b := 50) rfl) ?_
          refine r_icmp_ne (dk_at ktX7_recover_0 29 rfl) (b := 62) (by decide) (b2 := 53) rfl (fun c50 => ?_) (fun c50 => ?_)
          · skip
            refine rc_p (p_bipush (v := (-3)) (dk_at ktX7_recover_0 35 rfl) (by decide) (b := 64) rfl) ?_
            refine r_iret (dk_at ktX7_recover_0 36 rfl) rfl rfl ⟨_, rfl, ?_⟩
            have hcd : cRcv 0 v = 0 := if_pos ⟨by decide, c25⟩
            have hst : t_rcv 0 v σ = (fRcv 0 v σ).2 := if_pos hcd
            have he := fRcv_n (s := 0) (v := v) (σ := σ) (fun q => c50 q.1)
            refine ⟨fun hz => ?_, ?_, rfl, ?_, (FF.tr (FF.uf FF.rf (by decide)) (hF14.mo (by decide) (by decide)))⟩
            · exact congrArg Prod.fst he
            · exact Eq.trans h615 (by exact hcd.symm)
            · rw [hst]; erw [he]; exact hR13
          · skip
            refine rc_p (p_aload_n 0 (dk_at ktX7_recover_0 30 rfl) rfl rfl (b := 54) rfl) ?_
            refine r_geta fl_X7_9 rfl hm.l0 hm.s0 (dk_at ktX7_recover_0 31 rfl) hm.g0_0 (b := 57) rfl ?_
            refine rc_p (p_iconst (v := 4) (dk_at ktX7_recover_0 32 rfl) (by decide) (b := 58) rfl) ?_
            refine r_iald (j := 4) (hm.lt 1 (by decide)) hm.s1 (dk_at ktX7_recover_0 33 rfl) rfl ⟨by decide, by decide⟩ (v := (σ 4)) (hR13.1 4 (by decide)) (b := 59) rfl ?_
            refine r_if_ne (dk_at ktX7_recover_0 34 rfl) (b := 65) (by decide) (b2 := 62) rfl (fun c59 => ?_) (fun c59 => ?_)
            · skip
              refine rc_p (p_aload_n 0 (dk_at ktX7_recover_0 37 rfl) rfl rfl (b := 66) rfl) ?_
              refine r_vV (As' := []) (rest := []) (s_X7_tells hm (σ := σ) hR13 hI) cw_X7_255 qi_X7_tells qv_X7_tells rfl hm.l0 hm.s0 (dk_at ktX7_recover_0 38 rfl) rfl rfl (Nat.le_of_ble_eq_true rfl) (by decide) (b := 69) rfl (fun I16 J17 q18 => ?_)
              obtain ⟨rfl, hR22, hT20, hF21⟩ := q18
              refine rc_p (p_iload_n 2 (dk_at ktX7_recover_0 39 rfl) rfl rfl (b := 70) rfl) ?_
              refine rc_p (p_aload_n 0 (dk_at ktX7_recover_0 40 rfl) rfl rfl (b := 71) rfl) ?_
              refine r_geti fl_X7_230 rfl hm.l0 hm.s0 (dk_at ktX7_recover_0 41 rfl) (v := ((told σ) 0)) (hT20 0 (by decide)) (b := 74) rfl ?_
              refine r_icmp_ge (dk_at ktX7_recover_0 42 rfl) (b := 80) (by decide) (b2 := 77) rfl (fun c74 => ?_) (fun c74 => ?_)
              · skip
                refine rc_p (p_aload_n 0 (dk_at ktX7_recover_0 45 rfl) rfl rfl (b := 81) rfl) ?_
                refine rc_p (p_iconst (v := 0) (dk_at ktX7_recover_0 46 rfl) (by decide) (b := 82) rfl) ?_
                refine r_puti fl_X7_258 fw_X7_23 rfl hm.l0 hm.s0 rfl rfl (dk_at ktX7_recover_0 47 rfl) (b := 85) rfl ?_
                refine rc_p (p_aload_n 0 (dk_at ktX7_recover_0 48 rfl) rfl rfl (b := 86) rfl) ?_
                refine r_geta fl_X7_9 rfl hm.l0 hm.s0 (dk_at ktX7_recover_0 49 rfl) hm.g0_0 (b := 89) rfl ?_
                refine rc_p (p_bipush (v := 9) (dk_at ktX7_recover_0 50 rfl) (by decide) (b := 91) rfl) ?_
                refine r_iald (j := 9) (hm.lt 1 (by decide)) hm.s1 (dk_at ktX7_recover_0 51 rfl) rfl ⟨by decide, by decide⟩ (v := (σ 9)) ((up2_n (by omega)).trans (hR22.1 9 (by decide))) (b := 92) rfl ?_
                refine rc_p (p_istore_n (ls' := [(3, .int (σ 9)), (0, .ref m), (1, .int 0), (2, .int v)]) (dk_at ktX7_recover_0 52 rfl) rfl (by decide) rfl (b := 93) rfl) ?_
                refine rc_p (p_aload_n 1 (dk_at ktX7_recover_0 53 rfl) rfl rfl (b := 94) rfl) ?_
                refine r_vV (As' := []) (rest := []) (s_X7_takesStaged hm (σ := σ) (by rw [up2_off (by omega)]; exact hR22) hI) cw_X7_343 qi_X7_takesStaged qv_X7_takesStaged rfl hm.l0 hm.s0 (dk_at ktX7_recover_0 54 rfl) rfl rfl (Nat.le_of_ble_eq_true rfl) (by decide) (b := 97) rfl (fun I23 J24 q25 => ?_)
                obtain ⟨rfl, hR27, hF28, hP29⟩ := q25
                refine rc_p (p_aload_n 1 (dk_at ktX7_recover_0 55 rfl) rfl rfl (b := 98) rfl) ?_
                refine rc_p (p_iload_n 2 (dk_at ktX7_recover_0 56 rfl) rfl rfl (b := 99) rfl) ?_
                refine rc_p (p_iload_n 3 (dk_at ktX7_recover_0 57 rfl) rfl rfl (b := 100) rfl) ?_
                refine r_iV (As' := [.int 0, .int v]) (rest := []) (s_X7_writesImage hm (σ := σ) hR27 hI (((hF28.2 23 (by decide))).trans up2_s) 0 (by omega) (payS σ) (nS σ) (by omega) hP29 v) cw_X7_349 qi_X7_writesImage qv_X7_writesImage rfl hm.l0 hm.s0 (dk_at ktX7_recover_0 58 rfl) rfl rfl (Nat.le_of_ble_eq_true rfl) (by decide) (b := 103) rfl (fun v33 I30 J31 q32 => ?_)
                obtain ⟨rfl, rfl, hR34, hF35, hC36⟩ := q32
                refine r_if_eq (dk_at ktX7_recover_0 59 rfl) (b := 115) (by decide) (b2 := 106) rfl (fun c103 => ?_) (fun c103 => ?_)
                · have c103 := bi_f c103
                  have hR37 : RelW (I30 (m + 1)) (sCut ((fImg 0 false (payS σ) (nS σ) v σ).2)) := by rw [c103] at hR34; exact hR34
                  have hC38 : I30 m 23 = 1 := by rw [c103] at hC36; exact hC36
                  refine rc_p (p_bipush (v := (-4)) (dk_at ktX7_recover_1 5 rfl) (by decide) (b := 117) rfl) ?_
                  refine r_iret (dk_at ktX7_recover_1 6 rfl) rfl rfl ⟨_, rfl, ?_⟩
                  have hcd : cRcv 0 v = 0 := if_pos ⟨by decide, c25⟩
                  have hst : t_rcv 0 v σ = (fRcv 0 v σ).2 := if_pos hcd
                  have e1 : sq (fImg 0 false (payS σ) (nS σ) v) (fApp 2 (nI 0)) σ = (false, (fImg 0 false (payS σ) (nS σ) v σ).2) := by
                    rw [sq_n (f := fImg 0 false (payS σ) (nS σ) v) (pr_e c103)]
                  have he := (fRcv_y (s := 0) (v := v) (σ := σ) ⟨c50, c59⟩ (Int32.not_lt.mpr c74)).trans (let_f e1)
                  refine ⟨fun hz => ?_, ?_, rfl, ?_, (FF.tr (FF.tr (FF.uf (FF.tr (FF.tr (FF.uf FF.rf (by decide)) (hF14.mo (by decide) (by decide))) (hF21.mo (by decide) (by decide))) (by decide)) (hF28.mo (by decide) (by decide))) (hF35.mo (by decide) (by decide)))⟩
                  · exact congrArg Prod.fst he
                  · exact Eq.trans (((hF35.2 6 (by decide))).trans (((hF28.2 6 (by decide))).trans ((up2_n (by omega)).trans (((hF21.2 6 (by decide))).trans h615)))) (by exact hcd.symm)
                  · rw [hst]; erw [he]; exact hR37
                · have c103 := bi_t c103
                  have hR39 : RelW (I30 (m + 1)) ((fImg 0 false (payS σ) (nS σ) v σ).2) := by rw [c103] at hR34; exact hR34
                  have hC40 : I30 m 23 = 0 := by rw [c103] at hC36; exact hC36
                  refine rc_p (p_aload_n 1 (dk_at ktX7_recover_1 0 rfl) rfl rfl (b := 107) rfl) ?_
                  refine rc_p (p_iconst (v := 2) (dk_at ktX7_recover_1 1 rfl) (by decide) (b := 108) rfl) ?_
                  refine rc_p (p_iload_n 2 (dk_at ktX7_recover_1 2 rfl) rfl rfl (b := 109) rfl) ?_
                  refine r_iV (As' := [.int 2, .int 0]) (rest := []) (s_X7_appends hm (σ := ((fImg 0 false (payS σ) (nS σ) v σ).2)) hR39 (Inv.img hI (by omega) (by omega)) hC40 2 (by decide) 0) cw_X7_307 qi_X7_appends qv_X7_appends rfl hm.l0 hm.s0 (dk_at ktX7_recover_1 3 rfl) rfl rfl (Nat.le_of_ble_eq_true rfl) (by decide) (b := 112) rfl (fun v44 I41 J42 q43 => ?_)
                  obtain ⟨rfl, rfl, hR45, hF46, hC47⟩ := q43
                  refine r_if_ne (dk_at ktX7_recover_1 4 rfl) (b := 118) (by decide) (b2 := 115) rfl (fun c112 => ?_) (fun c112 => ?_)
                  · have c112 := bi_t c112
                    have hR48 : RelW (I41 (m + 1)) ((fApp 2 0 ((fImg 0 false (payS σ) (nS σ) v σ).2)).2) := by rw [c112] at hR45; exact hR45
                    have hC49 : I41 m 23 = 0 := by rw [c112] at hC47; exact hC47
                    refine rc_p (p_aload_n 1 (dk_at ktX7_recover_1 7 rfl) rfl rfl (b := 119) rfl) ?_
                    refine r_geta fl_X7_9 rfl hm.l0 hm.s0 (dk_at ktX7_recover_1 8 rfl) hm.g0_0 (b := 122) rfl ?_
                    refine rc_p (p_iconst (v := 4) (dk_at ktX7_recover_1 9 rfl) (by decide) (b := 123) rfl) ?_
                    refine rc_p (p_iconst (v := 0) (dk_at ktX7_recover_1 10 rfl) (by decide) (b := 124) rfl) ?_
                    refine r_iast (j := 4) (hm.lt 1 (by decide)) hm.s1 (dk_at ktX7_recover_1 11 rfl) rfl ⟨by decide, by decide⟩ (b := 125) rfl ?_
                    refine rc_p (p_aload_n 1 (dk_at ktX7_recover_1 12 rfl) rfl rfl (b := 126) rfl) ?_
                    refine r_geta fl_X7_9 rfl hm.l0 hm.s0 (dk_at ktX7_recover_1 13 rfl) hm.g0_0 (b := 129) rfl ?_
                    refine rc_p (p_bipush (v := 7) (dk_at ktX7_recover_1 14 rfl) (by decide) (b := 131) rfl) ?_
                    refine rc_p (p_iconst (v := 0) (dk_at ktX7_recover_1 15 rfl) (by decide) (b := 132) rfl) ?_
                    refine r_iast (j := 7) (hm.lt 1 (by decide)) hm.s1 (dk_at ktX7_recover_1 16 rfl) rfl ⟨by decide, by decide⟩ (b := 133) rfl ?_
                    refine rc_p (p_aload_n 1 (dk_at ktX7_recover_1 17 rfl) rfl rfl (b := 134) rfl) ?_
                    refine r_geta fl_X7_9 rfl hm.l0 hm.s0 (dk_at ktX7_recover_1 18 rfl) hm.g0_0 (b := 137) rfl ?_
                    refine rc_p (p_bipush (v := 9) (dk_at ktX7_recover_1 19 rfl) (by decide) (b := 139) rfl) ?_
                    refine r_iald (j := 9) (hm.lt 1 (by decide)) hm.s1 (dk_at ktX7_recover_1 20 rfl) rfl ⟨by decide, by decide⟩ (v := (((fApp 2 0 ((fImg 0 false (payS σ) (nS σ) v σ).2)).2) 9)) ((up2_n (by omega)).trans ((up2_n (by omega)).trans (hR48.1 9 (by decide)))) (b := 140) rfl ?_
                    refine rc_p (p_iload_n 0 (dk_at ktX7_recover_1 21 rfl) rfl rfl (b := 141) rfl) ?_
                    refine rc_p (p_isub (v := ((((fApp 2 0 ((fImg 0 false (payS σ) (nS σ) v σ).2)).2) 9) - (σ 9))) (dk_at ktX7_recover_1 22 rfl) rfl (b := 142) rfl) ?_
                    refine r_iret (dk_at ktX7_recover_1 23 rfl) rfl rfl ⟨_, rfl, ?_⟩
                    have hcd : cRcv 0 v = 0 := if_pos ⟨by decide, c25⟩
                    have hst : t_rcv 0 v σ = (fRcv 0 v σ).2 := if_pos hcd
                    have e1 : sq (fImg 0 false (payS σ) (nS σ) v) (fApp 2 (nI 0)) σ = (true, (fApp 2 (nI 0) (fImg 0 false (payS σ) (nS σ) v σ).2).2) := by
                      rw [sq_e (f := fImg 0 false (payS σ) (nS σ) v) (pr_e c103)]; exact pr_e c112
                    have he := (fRcv_y (s := 0) (v := v) (σ := σ) ⟨c50, c59⟩ (Int32.not_lt.mpr c74)).trans (letr_t e1)
                    refine ⟨fun hz => ?_, ?_, rfl, ?_, (FF.ua (FF.ua (FF.tr (FF.tr (FF.tr (FF.uf (FF.tr (FF.tr (FF.uf FF.rf (by decide)) (hF14.mo (by decide) (by decide))) (hF21.mo (by decide) (by decide))) (by decide)) (hF28.mo (by decide) (by decide))) (hF35.mo (by decide) (by decide))) (hF46.mo (by decide) (by decide))) (by decide) (by decide)) (by decide) (by decide))⟩
                    · exact congrArg Prod.fst he
                    · exact Eq.trans ((up2_n (by omega)).trans ((up2_n (by omega)).trans (((hF46.2 6 (by decide))).trans (((hF35.2 6 (by decide))).trans (((hF28.2 6 (by decide))).trans ((up2_n (by omega)).trans (((hF21.2 6 (by decide))).trans h615))))))) (by exact hcd.symm)
                    · rw [hst]; erw [he]; exact (by rw [up2_row]; exact RelW.up (by rw [up2_row]; exact RelW.up hR48 (by first | decide | omega) (by first | decide | omega)) (by first | decide | omega) (by first | decide | omega))
                  · have c112 := bi_f c112
                    have hR50 : RelW (I41 (m + 1)) (sCut ((fApp 2 0 ((fImg 0 false (payS σ) (nS σ) v σ).2)).2)) := by rw [c112] at hR45; exact hR45
                    have hC51 : I41 m 23 = 1 := by rw [c112] at hC47; exact hC47
                    refine rc_p (p_bipush (v := (-4)) (dk_at ktX7_recover_1 5 rfl) (by decide) (b := 117) rfl) ?_
                    refine r_iret (dk_at ktX7_recover_1 6 rfl) rfl rfl ⟨_, rfl, ?_⟩
                    have hcd : cRcv 0 v = 0 := if_pos ⟨by decide, c25⟩
                    have hst : t_rcv 0 v σ = (fRcv 0 v σ).2 := if_pos hcd
                    have e1 : sq (fImg 0 false (payS σ) (nS σ) v) (fApp 2 (nI 0)) σ = (false, (fApp 2 (nI 0) (fImg 0 false (payS σ) (nS σ) v σ).2).2) := by
                      rw [sq_e (f := fImg 0 false (payS σ) (nS σ) v) (pr_e c103)]; exact pr_e c112
                    have he := (fRcv_y (s := 0) (v := v) (σ := σ) ⟨c50, c59⟩ (Int32.not_lt.mpr c74)).trans (let_f e1)
                    refine ⟨fun hz => ?_, ?_, rfl, ?_, (FF.tr (FF.tr (FF.tr (FF.uf (FF.tr (FF.tr (FF.uf FF.rf (by decide)) (hF14.mo (by decide) (by decide))) (hF21.mo (by decide) (by decide))) (by decide)) (hF28.mo (by decide) (by decide))) (hF35.mo (by decide) (by decide))) (hF46.mo (by decide) (by decide)))⟩
                    · exact congrArg Prod.fst he
                    · exact Eq.trans (((hF46.2 6 (by decide))).trans (((hF35.2 6 (by decide))).trans (((hF28.2 6 (by decide))).trans ((up2_n (by omega)).trans (((hF21.2 6 (by decide))).trans h615))))) (by exact hcd.symm)
                    · rw [hst]; erw [he]; exact hR50
              · skip
                refine rc_p (p_bipush (v := (-5)) (dk_at ktX7_recover_0 43 rfl) (by decide) (b := 79) rfl) ?_
                refine r_iret (dk_at ktX7_recover_0 44 rfl) rfl rfl ⟨_, rfl, ?_⟩
                have hcd : cRcv 0 v = 0 := if_pos ⟨by decide, c25⟩
                have hst : t_rcv 0 v σ = (fRcv 0 v σ).2 := if_pos hcd
                have he := fRcv_o (s := 0) (v := v) (σ := σ) ⟨c50, c59⟩ (Int32.not_le.mp c74)
                refine ⟨fun hz => ?_, ?_, rfl, ?_, (FF.tr (FF.tr (FF.uf FF.rf (by decide)) (hF14.mo (by decide) (by decide))) (hF21.mo (by decide) (by decide)))⟩
                · exact congrArg Prod.fst he
                · exact Eq.trans (((hF21.2 6 (by decide))).trans h615) (by exact hcd.symm)
                · rw [hst]; erw [he]; exact hR22
            · skip
              refine rc_p (p_bipush (v := (-3)) (dk_at ktX7_recover_0 35 rfl) (by decide) (b := 64) rfl) ?_
              refine r_iret (dk_at ktX7_recover_0 36 rfl) rfl rfl ⟨_, rfl, ?_⟩
              have hcd : cRcv 0 v = 0 := if_pos ⟨by decide, c25⟩
              have hst : t_rcv 0 v σ = (fRcv 0 v σ).2 := if_pos hcd
              have he := fRcv_n (s := 0) (v := v) (σ := σ) (fun q => q.2 c59)
              refine ⟨fun hz => ?_, ?_, rfl, ?_, (FF.tr (FF.uf FF.rf (by decide)) (hF14.mo (by decide) (by decide)))⟩
              · exact congrArg Prod.fst he
              · exact Eq.trans h615 (by exact hcd.symm)
              · rw [hst]; erw [he]; exact hR13
        · first | exact absurd c37 (by decide) | exact absurd (by decide) c37
      · have c25 := bi_f c25
        refine rc_p (p_iconst (v := 1) (dk_at ktX7_recover_0 16 rfl) (by decide) (b := 29) rfl) ?_
        refine rc_p (p_goto (b := 33) (dk_at ktX7_recover_0 17 rfl) (by decide)) ?_
        refine rc_p (p_iconst (v := 1) (dk_at ktX7_recover_0 19 rfl) (by decide) (b := 34) rfl) ?_
        refine r_iV (As' := [.int 1, .int 1]) (rest := []) (s_X7_throwsIf hm (σ := σ) (by rw [up2_off (by omega)]; exact hR) hI up2_s true 1 (by decide)) cw_X7_190 qi_X7_throwsIf qv_X7_throwsIf rfl hm.l0 hm.s0 (dk_at ktX7_recover_0 20 rfl) rfl rfl (Nat.le_of_ble_eq_true rfl) (by decide) (b := 37) rfl (fun v55 I52 J53 q54 => ?_)
        obtain ⟨rfl, rfl, hR56, hF57, h658⟩ := q54
        refine r_val (y := 1) rfl ?_
        refine r_if_eq (dk_at ktX7_recover_0 21 rfl) (b := 42) (by decide) (b2 := 40) rfl (fun c37 => ?_) (fun c37 => ?_)
        · first | exact absurd c37 (by decide) | exact absurd (by decide) c37
        · skip
          refine rc_p (p_iconst (v := 0) (dk_at ktX7_recover_0 22 rfl) (by decide) (b := 41) rfl) ?_
          refine r_iret (dk_at ktX7_recover_0 23 rfl) rfl rfl ⟨_, rfl, ?_⟩
          have hcd : cRcv 0 v = 1 := if_neg (fun q => by rw [c25] at q; exact absurd q.2 (by decide))
          refine ⟨fun hz => ?_, ?_, rfl, ?_, (FF.tr (FF.uf FF.rf (by decide)) (hF57.mo (by decide) (by decide)))⟩
          · exact absurd (hz.symm.trans hcd) (by decide)
          · exact Eq.trans h658 (by exact hcd.symm)
          · rw [show t_rcv 0 v σ = σ from if_neg (by rw [hcd]; decide)]; exact hR56
  · refine Sp.of (by decide) (ls := [(0, .ref m), (1, .int 1), (2, .int v)]) (fun _ => rfl) (fun _ => Nat.le_of_ble_eq_true rfl) ?_
    refine rc_p (p_aload_n 0 (dk_at ktX7_recover_0 0 rfl) rfl rfl (b := 1) rfl) ?_
    refine rc_p (p_iconst (v := 0) (dk_at ktX7_recover_0 1 rfl) (by decide) (b := 2) rfl) ?_
    refine r_puti fl_X7_46 fw_X7_6 rfl hm.l0 hm.s0 rfl rfl (dk_at ktX7_recover_0 2 rfl) (b := 5) rfl ?_
    refine rc_p (p_aload_n 0 (dk_at ktX7_recover_0 3 rfl) rfl rfl (b := 6) rfl) ?_
    refine rc_p (p_iload_n 1 (dk_at ktX7_recover_0 4 rfl) rfl rfl (b := 7) rfl) ?_
    refine rc_p (p_i2l (v := (Int32.toInt64 1)) (dk_at ktX7_recover_0 5 rfl) rfl (b := 8) rfl) ?_
    refine rc_p (p_lconst (v := 0) (dk_at ktX7_recover_0 6 rfl) (by decide) (b := 9) rfl) ?_
    refine rc_p (p_lconst (v := 1) (dk_at ktX7_recover_0 7 rfl) (by decide) (b := 10) rfl) ?_
    refine r_iS (As := [.long (Int32.toInt64 1), .long 0, .long 1]) (rest := [.ref m]) (s_X7_in (Int32.toInt64 1) 0 1) cw_X7_73 qs_X7_in (dk_at ktX7_recover_0 8 rfl) rfl rfl (Nat.le_of_ble_eq_true rfl) (by decide) (b := 13) rfl (fun v62 I59 J60 q61 => ?_)
    obtain ⟨rfl, rfl, rfl⟩ := q61
    refine r_val (y := bi (inI 1 0 1)) (congrArg bi (inJ_I 1 0 1)) ?_
    refine r_val (y := 1) (by decide) ?_
    refine r_if_eq (dk_at ktX7_recover_0 9 rfl) (b := 28) (by decide) (b2 := 16) rfl (fun c13 => ?_) (fun c13 => ?_)
    · first | exact absurd c13 (by decide) | exact absurd (by decide) c13
    · skip
      refine rc_p (p_iload_n 2 (dk_at ktX7_recover_0 10 rfl) rfl rfl (b := 17) rfl) ?_
      refine rc_p (p_i2l (v := (Int32.toInt64 v)) (dk_at ktX7_recover_0 11 rfl) rfl (b := 18) rfl) ?_
      refine rc_p (p_lconst (v := 1) (dk_at ktX7_recover_0 12 rfl) (by decide) (b := 19) rfl) ?_
      refine rc_p (p_ldc2 (v := 255) ql_TwinBootModel_57 (dk_at ktX7_recover_0 13 rfl) (b := 22) rfl) ?_
      refine r_iS (As := [.long (Int32.toInt64 v), .long 1, .long 255]) (rest := [.ref m]) (s_X7_in (Int32.toInt64 v) 1 255) cw_X7_73 qs_X7_in (dk_at ktX7_recover_0 14 rfl) rfl rfl (Nat.le_of_ble_eq_true rfl) (by decide) (b := 25) rfl (fun v66 I63 J64 q65 => ?_)
      obtain ⟨rfl, rfl, rfl⟩ := q65
      refine r_val (y := bi (inI v 1 255)) (congrArg bi (inJ_I v 1 255)) ?_
      refine r_if_ne (dk_at ktX7_recover_0 15 rfl) (b := 32) (by decide) (b2 := 28) rfl (fun c25 => ?_) (fun c25 => ?_)
      · have c25 := bi_t c25
        refine rc_p (p_iconst (v := 0) (dk_at ktX7_recover_0 18 rfl) (by decide) (b := 33) rfl) ?_
        refine rc_p (p_iconst (v := 1) (dk_at ktX7_recover_0 19 rfl) (by decide) (b := 34) rfl) ?_
        refine r_iV (As' := [.int 0, .int 1]) (rest := []) (s_X7_throwsIf hm (σ := σ) (by rw [up2_off (by omega)]; exact hR) hI up2_s false 1 (by decide)) cw_X7_190 qi_X7_throwsIf qv_X7_throwsIf rfl hm.l0 hm.s0 (dk_at ktX7_recover_0 20 rfl) rfl rfl (Nat.le_of_ble_eq_true rfl) (by decide) (b := 37) rfl (fun v70 I67 J68 q69 => ?_)
        obtain ⟨rfl, rfl, hR71, hF72, h673⟩ := q69
        refine r_val (y := 0) rfl ?_
        refine r_if_eq (dk_at ktX7_recover_0 21 rfl) (b := 42) (by decide) (b2 := 40) rfl (fun c37 => ?_) (fun c37 => ?_)
        · skip
          refine rc_p (p_aload_n 0 (dk_at ktX7_recover_0 24 rfl) rfl rfl (b := 43) rfl) ?_
          refine r_geta fl_X7_9 rfl hm.l0 hm.s0 (dk_at ktX7_recover_0 25 rfl) hm.g0_0 (b := 46) rfl ?_
          refine rc_p (p_bipush (v := 7) (dk_at ktX7_recover_0 26 rfl) (by decide) (b := 48) rfl) ?_
          refine r_iald (j := 7) (hm.lt 1 (by decide)) hm.s1 (dk_at ktX7_recover_0 27 rfl) rfl ⟨by decide, by decide⟩ (v := (σ 7)) (hR71.1 7 (by decide)) (b := 49) rfl ?_
          refine rc_p (p_iconst (v := 2) (dk_at ktX7_recover_0 28 rfl) (by decide) (b := 50) rfl) ?_
          refine r_icmp_ne (dk_at ktX7_recover_0 29 rfl) (b := 62) (by decide) (b2 := 53) rfl (fun c50 => ?_) (fun c50 => ?_)
          · skip
            refine rc_p (p_bipush (v := (-3)) (dk_at ktX7_recover_0 35 rfl) (by decide) (b := 64) rfl) ?_
            refine r_iret (dk_at ktX7_recover_0 36 rfl) rfl rfl ⟨_, rfl, ?_⟩
            have hcd : cRcv 1 v = 0 := if_pos ⟨by decide, c25⟩
            have hst : t_rcv 1 v σ = (fRcv 1 v σ).2 := if_pos hcd
            have he := fRcv_n (s := 1) (v := v) (σ := σ) (fun q => c50 q.1)
            refine ⟨fun hz => ?_, ?_, rfl, ?_, (FF.tr (FF.uf FF.rf (by decide)) (hF72.mo (by decide) (by decide)))⟩
            · exact congrArg Prod.fst he
            · exact Eq.trans h673 (by exact hcd.symm)
            · rw [hst]; erw [he]; exact hR71
          · skip
            refine rc_p (p_aload_n 0 (dk_at ktX7_recover_0 30 rfl) rfl rfl (b := 54) rfl) ?_
            refine r_geta fl_X7_9 rfl hm.l0 hm.s0 (dk_at ktX7_recover_0 31 rfl) hm.g0_0 (b := 57) rfl ?_
            refine rc_p (p_iconst (v := 4) (dk_at ktX7_recover_0 32 rfl) (by decide) (b := 58) rfl) ?_
            refine r_iald (j := 4) (hm.lt 1 (by decide)) hm.s1 (dk_at ktX7_recover_0 33 rfl) rfl ⟨by decide, by decide⟩ (v := (σ 4)) (hR71.1 4 (by decide)) (b := 59) rfl ?_
            refine r_if_ne (dk_at ktX7_recover_0 34 rfl) (b := 65) (by decide) (b2 := 62) rfl (fun c59 => ?_) (fun c59 => ?_)
            · skip
              refine rc_p (p_aload_n 0 (dk_at ktX7_recover_0 37 rfl) rfl rfl (b := 66) rfl) ?_
              refine r_vV (As' := []) (rest := []) (s_X7_tells hm (σ := σ) hR71 hI) cw_X7_255 qi_X7_tells qv_X7_tells rfl hm.l0 hm.s0 (dk_at ktX7_recover_0 38 rfl) rfl rfl (Nat.le_of_ble_eq_true rfl) (by decide) (b := 69) rfl (fun I74 J75 q76 => ?_)
              obtain ⟨rfl, hR80, hT78, hF79⟩ := q76
              refine rc_p (p_iload_n 2 (dk_at ktX7_recover_0 39 rfl) rfl rfl (b := 70) rfl) ?_
              refine rc_p (p_aload_n 0 (dk_at ktX7_recover_0 40 rfl) rfl rfl (b := 71) rfl) ?_
              refine r_geti fl_X7_230 rfl hm.l0 hm.s0 (dk_at ktX7_recover_0 41 rfl) (v := ((told σ) 0)) (hT78 0 (by decide)) (b := 74) rfl ?_
              refine r_icmp_ge (dk_at ktX7_recover_0 42 rfl) (b := 80) (by decide) (b2 := 77) rfl (fun c74 => ?_) (fun c74 => ?_)
              · skip
                refine rc_p (p_aload_n 0 (dk_at ktX7_recover_0 45 rfl) rfl rfl (b := 81) rfl) ?_
                refine rc_p (p_iconst (v := 0) (dk_at ktX7_recover_0 46 rfl) (by decide) (b := 82) rfl) ?_
                refine r_puti fl_X7_258 fw_X7_23 rfl hm.l0 hm.s0 rfl rfl (dk_at ktX7_recover_0 47 rfl) (b := 85) rfl ?_
                refine rc_p (p_aload_n 0 (dk_at ktX7_recover_0 48 rfl) rfl rfl (b := 86) rfl) ?_
                refine r_geta fl_X7_9 rfl hm.l0 hm.s0 (dk_at ktX7_recover_0 49 rfl) hm.g0_0 (b := 89) rfl ?_
                refine rc_p (p_bipush (v := 9) (dk_at ktX7_recover_0 50 rfl) (by decide) (b := 91) rfl) ?_
                refine r_iald (j := 9) (hm.lt 1 (by decide)) hm.s1 (dk_at ktX7_recover_0 51 rfl) rfl ⟨by decide, by decide⟩ (v := (σ 9)) ((up2_n (by omega)).trans (hR80.1 9 (by decide))) (b := 92) rfl ?_
                refine rc_p (p_istore_n (ls' := [(3, .int (σ 9)), (0, .ref m), (1, .int 1), (2, .int v)]) (dk_at ktX7_recover_0 52 rfl) rfl (by decide) rfl (b := 93) rfl) ?_
                refine rc_p (p_aload_n 1 (dk_at ktX7_recover_0 53 rfl) rfl rfl (b := 94) rfl) ?_
                refine r_vV (As' := []) (rest := []) (s_X7_takesStaged hm (σ := σ) (by rw [up2_off (by omega)]; exact hR80) hI) cw_X7_343 qi_X7_takesStaged qv_X7_takesStaged rfl hm.l0 hm.s0 (dk_at ktX7_recover_0 54 rfl) rfl rfl (Nat.le_of_ble_eq_true rfl) (by decide) (b := 97) rfl (fun I81 J82 q83 => ?_)
                obtain ⟨rfl, hR85, hF86, hP87⟩ := q83
                refine rc_p (p_aload_n 1 (dk_at ktX7_recover_0 55 rfl) rfl rfl (b := 98) rfl) ?_
                refine rc_p (p_iload_n 2 (dk_at ktX7_recover_0 56 rfl) rfl rfl (b := 99) rfl) ?_
                refine rc_p (p_iload_n 3 (dk_at ktX7_recover_0 57 rfl) rfl rfl (b := 100) rfl) ?_
                refine r_iV (As' := [.int 1, .int v]) (rest := []) (s_X7_writesImage hm (σ := σ) hR85 hI (((hF86.2 23 (by decide))).trans up2_s) 1 (by omega) (payS σ) (nS σ) (by omega) hP87 v) cw_X7_349 qi_X7_writesImage qv_X7_writesImage rfl hm.l0 hm.s0 (dk_at ktX7_recover_0 58 rfl) rfl rfl (Nat.le_of_ble_eq_true rfl) (by decide) (b := 103) rfl (fun v91 I88 J89 q90 => ?_)
                obtain ⟨rfl, rfl, hR92, hF93, hC94⟩ := q90
                refine r_if_eq (dk_at ktX7_recover_0 59 rfl) (b := 115) (by decide) (b2 := 106) rfl (fun c103 => ?_) (fun c103 => ?_)
                · have c103 := bi_f c103
                  have hR95 : RelW (I88 (m + 1)) (sCut ((fImg 1 false (payS σ) (nS σ) v σ).2)) := by rw [c103] at hR92; exact hR92
                  have hC96 : I88 m 23 = 1 := by rw [c103] at hC94; exact hC94
                  refine rc_p (p_bipush (v := (-4)) (dk_at ktX7_recover_1 5 rfl) (by decide) (b := 117) rfl) ?_
                  refine r_iret (dk_at ktX7_recover_1 6 rfl) rfl rfl ⟨_, rfl, ?_⟩
                  have hcd : cRcv 1 v = 0 := if_pos ⟨by decide, c25⟩
                  have hst : t_rcv 1 v σ = (fRcv 1 v σ).2 := if_pos hcd
                  have e1 : sq (fImg 1 false (payS σ) (nS σ) v) (fApp 2 (nI 1)) σ = (false, (fImg 1 false (payS σ) (nS σ) v σ).2) := by
                    rw [sq_n (f := fImg 1 false (payS σ) (nS σ) v) (pr_e c103)]
                  have he := (fRcv_y (s := 1) (v := v) (σ := σ) ⟨c50, c59⟩ (Int32.not_lt.mpr c74)).trans (let_f e1)
                  refine ⟨fun hz => ?_, ?_, rfl, ?_, (FF.tr (FF.tr (FF.uf (FF.tr (FF.tr (FF.uf FF.rf (by decide)) (hF72.mo (by decide) (by decide))) (hF79.mo (by decide) (by decide))) (by decide)) (hF86.mo (by decide) (by decide))) (hF93.mo (by decide) (by decide)))⟩
                  · exact congrArg Prod.fst he
                  · exact Eq.trans (((hF93.2 6 (by decide))).trans (((hF86.2 6 (by decide))).trans ((up2_n (by omega)).trans (((hF79.2 6 (by decide))).trans h673)))) (by exact hcd.symm)
                  · rw [hst]; erw [he]; exact hR95
                · have c103 := bi_t c103
                  have hR97 : RelW (I88 (m + 1)) ((fImg 1 false (payS σ) (nS σ) v σ).2) := by rw [c103] at hR92; exact hR92
                  have hC98 : I88 m 23 = 0 := by rw [c103] at hC94; exact hC94
                  refine rc_p (p_aload_n 1 (dk_at ktX7_recover_1 0 rfl) rfl rfl (b := 107) rfl) ?_
                  refine rc_p (p_iconst (v := 2) (dk_at ktX7_recover_1 1 rfl) (by decide) (b := 108) rfl) ?_
                  refine rc_p (p_iload_n 2 (dk_at ktX7_recover_1 2 rfl) rfl rfl (b := 109) rfl) ?_
                  refine r_iV (As' := [.int 2, .int 1]) (rest := []) (s_X7_appends hm (σ := ((fImg 1 false (payS σ) (nS σ) v σ).2)) hR97 (Inv.img hI (by omega) (by omega)) hC98 2 (by decide) 1) cw_X7_307 qi_X7_appends qv_X7_appends rfl hm.l0 hm.s0 (dk_at ktX7_recover_1 3 rfl) rfl rfl (Nat.le_of_ble_eq_true rfl) (by decide) (b := 112) rfl (fun v102 I99 J100 q101 => ?_)
                  obtain ⟨rfl, rfl, hR103, hF104, hC105⟩ := q101
                  refine r_if_ne (dk_at ktX7_recover_1 4 rfl) (b := 118) (by decide) (b2 := 115) rfl (fun c112 => ?_) (fun c112 => ?_)
                  · have c112 := bi_t c112
                    have hR106 : RelW (I99 (m + 1)) ((fApp 2 1 ((fImg 1 false (payS σ) (nS σ) v σ).2)).2) := by rw [c112] at hR103; exact hR103
                    have hC107 : I99 m 23 = 0 := by rw [c112] at hC105; exact hC105
                    refine rc_p (p_aload_n 1 (dk_at ktX7_recover_1 7 rfl) rfl rfl (b := 119) rfl) ?_
                    refine r_geta fl_X7_9 rfl hm.l0 hm.s0 (dk_at ktX7_recover_1 8 rfl) hm.g0_0 (b := 122) rfl ?_
                    refine rc_p (p_iconst (v := 4) (dk_at ktX7_recover_1 9 rfl) (by decide) (b := 123) rfl) ?_
                    refine rc_p (p_iconst (v := 0) (dk_at ktX7_recover_1 10 rfl) (by decide) (b := 124) rfl) ?_
                    refine r_iast (j := 4) (hm.lt 1 (by decide)) hm.s1 (dk_at ktX7_recover_1 11 rfl) rfl ⟨by decide, by decide⟩ (b := 125) rfl ?_
                    refine rc_p (p_aload_n 1 (dk_at ktX7_recover_1 12 rfl) rfl rfl (b := 126) rfl) ?_
                    refine r_geta fl_X7_9 rfl hm.l0 hm.s0 (dk_at ktX7_recover_1 13 rfl) hm.g0_0 (b := 129) rfl ?_
                    refine rc_p (p_bipush (v := 7) (dk_at ktX7_recover_1 14 rfl) (by decide) (b := 131) rfl) ?_
                    refine rc_p (p_iconst (v := 0) (dk_at ktX7_recover_1 15 rfl) (by decide) (b := 132) rfl) ?_
                    refine r_iast (j := 7) (hm.lt 1 (by decide)) hm.s1 (dk_at ktX7_recover_1 16 rfl) rfl ⟨by decide, by decide⟩ (b := 133) rfl ?_
                    refine rc_p (p_aload_n 1 (dk_at ktX7_recover_1 17 rfl) rfl rfl (b := 134) rfl) ?_
                    refine r_geta fl_X7_9 rfl hm.l0 hm.s0 (dk_at ktX7_recover_1 18 rfl) hm.g0_0 (b := 137) rfl ?_
                    refine rc_p (p_bipush (v := 9) (dk_at ktX7_recover_1 19 rfl) (by decide) (b := 139) rfl) ?_
                    refine r_iald (j := 9) (hm.lt 1 (by decide)) hm.s1 (dk_at ktX7_recover_1 20 rfl) rfl ⟨by decide, by decide⟩ (v := (((fApp 2 1 ((fImg 1 false (payS σ) (nS σ) v σ).2)).2) 9)) ((up2_n (by omega)).trans ((up2_n (by omega)).trans (hR106.1 9 (by decide)))) (b := 140) rfl ?_
                    refine rc_p (p_iload_n 0 (dk_at ktX7_recover_1 21 rfl) rfl rfl (b := 141) rfl) ?_
                    refine rc_p (p_isub (v := ((((fApp 2 1 ((fImg 1 false (payS σ) (nS σ) v σ).2)).2) 9) - (σ 9))) (dk_at ktX7_recover_1 22 rfl) rfl (b := 142) rfl) ?_
                    refine r_iret (dk_at ktX7_recover_1 23 rfl) rfl rfl ⟨_, rfl, ?_⟩
                    have hcd : cRcv 1 v = 0 := if_pos ⟨by decide, c25⟩
                    have hst : t_rcv 1 v σ = (fRcv 1 v σ).2 := if_pos hcd
                    have e1 : sq (fImg 1 false (payS σ) (nS σ) v) (fApp 2 (nI 1)) σ = (true, (fApp 2 (nI 1) (fImg 1 false (payS σ) (nS σ) v σ).2).2) := by
                      rw [sq_e (f := fImg 1 false (payS σ) (nS σ) v) (pr_e c103)]; exact pr_e c112
                    have he := (fRcv_y (s := 1) (v := v) (σ := σ) ⟨c50, c59⟩ (Int32.not_lt.mpr c74)).trans (letr_t e1)
                    refine ⟨fun hz => ?_, ?_, rfl, ?_, (FF.ua (FF.ua (FF.tr (FF.tr (FF.tr (FF.uf (FF.tr (FF.tr (FF.uf FF.rf (by decide)) (hF72.mo (by decide) (by decide))) (hF79.mo (by decide) (by decide))) (by decide)) (hF86.mo (by decide) (by decide))) (hF93.mo (by decide) (by decide))) (hF104.mo (by decide) (by decide))) (by decide) (by decide)) (by decide) (by decide))⟩
                    · exact congrArg Prod.fst he
                    · exact Eq.trans ((up2_n (by omega)).trans ((up2_n (by omega)).trans (((hF104.2 6 (by decide))).trans (((hF93.2 6 (by decide))).trans (((hF86.2 6 (by decide))).trans ((up2_n (by omega)).trans (((hF79.2 6 (by decide))).trans h673))))))) (by exact hcd.symm)
                    · rw [hst]; erw [he]; exact (by rw [up2_row]; exact RelW.up (by rw [up2_row]; exact RelW.up hR106 (by first | decide | omega) (by first | decide | omega)) (by first | decide | omega) (by first | decide | omega))
                  · have c112 := bi_f c112
                    have hR108 : RelW (I99 (m + 1)) (sCut ((fApp 2 1 ((fImg 1 false (payS σ) (nS σ) v σ).2)).2)) := by rw [c112] at hR103; exact hR103
                    have hC109 : I99 m 23 = 1 := by rw [c112] at hC105; exact hC105
                    refine rc_p (p_bipush (v := (-4)) (dk_at ktX7_recover_1 5 rfl) (by decide) (b := 117) rfl) ?_
                    refine r_iret (dk_at ktX7_recover_1 6 rfl) rfl rfl ⟨_, rfl, ?_⟩
                    have hcd : cRcv 1 v = 0 := if_pos ⟨by decide, c25⟩
                    have hst : t_rcv 1 v σ = (fRcv 1 v σ).2 := if_pos hcd
                    have e1 : sq (fImg 1 false (payS σ) (nS σ) v) (fApp 2 (nI 1)) σ = (false, (fApp 2 (nI 1) (fImg 1 false (payS σ) (nS σ) v σ).2).2) := by
                      rw [sq_e (f := fImg 1 false (payS σ) (nS σ) v) (pr_e c103)]; exact pr_e c112
                    have he := (fRcv_y (s := 1) (v := v) (σ := σ) ⟨c50, c59⟩ (Int32.not_lt.mpr c74)).trans (let_f e1)
                    refine ⟨fun hz => ?_, ?_, rfl, ?_, (FF.tr (FF.tr (FF.tr (FF.uf (FF.tr (FF.tr (FF.uf FF.rf (by decide)) (hF72.mo (by decide) (by decide))) (hF79.mo (by decide) (by decide))) (by decide)) (hF86.mo (by decide) (by decide))) (hF93.mo (by decide) (by decide))) (hF104.mo (by decide) (by decide)))⟩
                    · exact congrArg Prod.fst he
                    · exact Eq.trans (((hF104.2 6 (by decide))).trans (((hF93.2 6 (by decide))).trans (((hF86.2 6 (by decide))).trans ((up2_n (by omega)).trans (((hF79.2 6 (by decide))).trans h673))))) (by exact hcd.symm)
                    · rw [hst]; erw [he]; exact hR108
              · skip
                refine rc_p (p_bipush (v := (-5)) (dk_at ktX7_recover_0 43 rfl) (by decide) (b := 79) rfl) ?_
                refine r_iret (dk_at ktX7_recover_0 44 rfl) rfl rfl ⟨_, rfl, ?_⟩
                have hcd : cRcv 1 v = 0 := if_pos ⟨by decide, c25⟩
                have hst : t_rcv 1 v σ = (fRcv 1 v σ).2 := if_pos hcd
                have he := fRcv_o (s := 1) (v := v) (σ := σ) ⟨c50, c59⟩ (Int32.not_le.mp c74)
                refine ⟨fun hz => ?_, ?_, rfl, ?_, (FF.tr (FF.tr (FF.uf FF.rf (by decide)) (hF72.mo (by decide) (by decide))) (hF79.mo (by decide) (by decide)))⟩
                · exact congrArg Prod.fst he
                · exact Eq.trans (((hF79.2 6 (by decide))).trans h673) (by exact hcd.symm)
                · rw [hst]; erw [he]; exact hR80
            · skip
              refine rc_p (p_bipush (v := (-3)) (dk_at ktX7_recover_0 35 rfl) (by decide) (b := 64) rfl) ?_
              refine r_iret (dk_at ktX7_recover_0 36 rfl) rfl rfl ⟨_, rfl, ?_⟩
              have hcd : cRcv 1 v = 0 := if_pos ⟨by decide, c25⟩
              have hst : t_rcv 1 v σ = (fRcv 1 v σ).2 := if_pos hcd
              have he := fRcv_n (s := 1) (v := v) (σ := σ) (fun q => q.2 c59)
              refine ⟨fun hz => ?_, ?_, rfl, ?_, (FF.tr (FF.uf FF.rf (by decide)) (hF72.mo (by decide) (by decide)))⟩
              · exact congrArg Prod.fst he
              · exact Eq.trans h673 (by exact hcd.symm)
              · rw [hst]; erw [he]; exact hR71
        · first | exact absurd c37 (by decide) | exact absurd (by decide) c37
      · have c25 := bi_f c25
        refine rc_p (p_iconst (v := 1) (dk_at ktX7_recover_0 16 rfl) (by decide) (b := 29) rfl) ?_
        refine rc_p (p_goto (b := 33) (dk_at ktX7_recover_0 17 rfl) (by decide)) ?_
        refine rc_p (p_iconst (v := 1) (dk_at ktX7_recover_0 19 rfl) (by decide) (b := 34) rfl) ?_
        refine r_iV (As' := [.int 1, .int 1]) (rest := []) (s_X7_throwsIf hm (σ := σ) (by rw [up2_off (by omega)]; exact hR) hI up2_s true 1 (by decide)) cw_X7_190 qi_X7_throwsIf qv_X7_throwsIf rfl hm.l0 hm.s0 (dk_at ktX7_recover_0 20 rfl) rfl rfl (Nat.le_of_ble_eq_true rfl) (by decide) (b := 37) rfl (fun v113 I110 J111 q112 => ?_)
        obtain ⟨rfl, rfl, hR114, hF115, h6116⟩ := q112
        refine r_val (y := 1) rfl ?_
        refine r_if_eq (dk_at ktX7_recover_0 21 rfl) (b := 42) (by decide) (b2 := 40) rfl (fun c37 => ?_) (fun c37 => ?_)
        · first | exact absurd c37 (by decide) | exact absurd (by decide) c37
        · skip
          refine rc_p (p_iconst (v := 0) (dk_at ktX7_recover_0 22 rfl) (by decide) (b := 41) rfl) ?_
          refine r_iret (dk_at ktX7_recover_0 23 rfl) rfl rfl ⟨_, rfl, ?_⟩
          have hcd : cRcv 1 v = 1 := if_neg (fun q => by rw [c25] at q; exact absurd q.2 (by decide))
          refine ⟨fun hz => ?_, ?_, rfl, ?_, (FF.tr (FF.uf FF.rf (by decide)) (hF115.mo (by decide) (by decide)))⟩
          · exact absurd (hz.symm.trans hcd) (by decide)
          · exact Eq.trans h6116 (by exact hcd.symm)
          · rw [show t_rcv 1 v σ = σ from if_neg (by rw [hcd]; decide)]; exact hR114
  · refine Sp.of (by decide) (ls := [(0, .ref m), (1, .int s), (2, .int v)]) (fun _ => rfl) (fun _ => Nat.le_of_ble_eq_true rfl) ?_
    refine rc_p (p_aload_n 0 (dk_at ktX7_recover_0 0 rfl) rfl rfl (b := 1) rfl) ?_
    refine rc_p (p_iconst (v := 0) (dk_at ktX7_recover_0 1 rfl) (by decide) (b := 2) rfl) ?_
    refine r_puti fl_X7_46 fw_X7_6 rfl hm.l0 hm.s0 rfl rfl (dk_at ktX7_recover_0 2 rfl) (b := 5) rfl ?_
    refine rc_p (p_aload_n 0 (dk_at ktX7_recover_0 3 rfl) rfl rfl (b := 6) rfl) ?_
    refine rc_p (p_iload_n 1 (dk_at ktX7_recover_0 4 rfl) rfl rfl (b := 7) rfl) ?_
    refine rc_p (p_i2l (v := (Int32.toInt64 s)) (dk_at ktX7_recover_0 5 rfl) rfl (b := 8) rfl) ?_
    refine rc_p (p_lconst (v := 0) (dk_at ktX7_recover_0 6 rfl) (by decide) (b := 9) rfl) ?_
    refine rc_p (p_lconst (v := 1) (dk_at ktX7_recover_0 7 rfl) (by decide) (b := 10) rfl) ?_
    refine r_iS (As := [.long (Int32.toInt64 s), .long 0, .long 1]) (rest := [.ref m]) (s_X7_in (Int32.toInt64 s) 0 1) cw_X7_73 qs_X7_in (dk_at ktX7_recover_0 8 rfl) rfl rfl (Nat.le_of_ble_eq_true rfl) (by decide) (b := 13) rfl (fun v120 I117 J118 q119 => ?_)
    obtain ⟨rfl, rfl, rfl⟩ := q119
    refine r_val (y := bi (inI s 0 1)) (congrArg bi (inJ_I s 0 1)) ?_
    refine r_val (y := 0) (by rw [hs]; rfl) ?_
    refine r_if_eq (dk_at ktX7_recover_0 9 rfl) (b := 28) (by decide) (b2 := 16) rfl (fun c13 => ?_) (fun c13 => ?_)
    · skip
      refine rc_p (p_iconst (v := 1) (dk_at ktX7_recover_0 16 rfl) (by decide) (b := 29) rfl) ?_
      refine rc_p (p_goto (b := 33) (dk_at ktX7_recover_0 17 rfl) (by decide)) ?_
      refine rc_p (p_iconst (v := 1) (dk_at ktX7_recover_0 19 rfl) (by decide) (b := 34) rfl) ?_
      refine r_iV (As' := [.int 1, .int 1]) (rest := []) (s_X7_throwsIf hm (σ := σ) (by rw [up2_off (by omega)]; exact hR) hI up2_s true 1 (by decide)) cw_X7_190 qi_X7_throwsIf qv_X7_throwsIf rfl hm.l0 hm.s0 (dk_at ktX7_recover_0 20 rfl) rfl rfl (Nat.le_of_ble_eq_true rfl) (by decide) (b := 37) rfl (fun v124 I121 J122 q123 => ?_)
      obtain ⟨rfl, rfl, hR125, hF126, h6127⟩ := q123
      refine r_val (y := 1) rfl ?_
      refine r_if_eq (dk_at ktX7_recover_0 21 rfl) (b := 42) (by decide) (b2 := 40) rfl (fun c37 => ?_) (fun c37 => ?_)
      · first | exact absurd c37 (by decide) | exact absurd (by decide) c37
      · skip
        refine rc_p (p_iconst (v := 0) (dk_at ktX7_recover_0 22 rfl) (by decide) (b := 41) rfl) ?_
        refine r_iret (dk_at ktX7_recover_0 23 rfl) rfl rfl ⟨_, rfl, ?_⟩
        have hcd : cRcv s v = 1 := if_neg (fun q => by rw [hs] at q; exact absurd q.1 (by decide))
        refine ⟨fun hz => ?_, ?_, rfl, ?_, (FF.tr (FF.uf FF.rf (by decide)) (hF126.mo (by decide) (by decide)))⟩
        · exact absurd (hz.symm.trans hcd) (by decide)
        · exact Eq.trans h6127 (by exact hcd.symm)
        · rw [show t_rcv s v σ = σ from if_neg (by rw [hcd]; decide)]; exact hR125
    · first | exact absurd c13 (by decide) | exact absurd (by decide) c13
set_option maxRecDepth 4000 in
set_option maxHeartbeats 4000000 in
theorem s_X7_generation {n : Nat} {sh : mS} {G : mG} {I : mI} {J : mJ} {m : Nat} {σ : sT} (hm : ModG n sh G m) (hR : RelW (I (m + 1)) σ) (hI : Inv σ)  : Sp yX7_generation cX7_generation 1 (some FieldType.int) 5 240 0 0 [.ref m] n sh G I J (Qi (fun r_ I_ J_ => (0 = 0 → a_gen σ = r_) ∧ I_ m 6 = 0 ∧ J = J_ ∧ RelW (I_ (m + 1)) (σ) ∧ FF m [1, 2, 8] [6, 18, 19, 20, 21, 22, 23, 24, 26, 27] I I_)) nX := by
  have hb := hI.bd
  refine Sp.of (by decide) (ls := [(0, .ref m)]) (fun _ => rfl) (fun _ => Nat.le_of_ble_eq_true rfl) ?_
  refine rc_p (p_aload_n 0 (dk_at ktX7_generation_0 0 rfl) rfl rfl (b := 1) rfl) ?_
  refine rc_p (p_iconst (v := 0) (dk_at ktX7_generation_0 1 rfl) (by decide) (b := 2) rfl) ?_
  refine r_puti fl_X7_46 fw_X7_6 rfl hm.l0 hm.s0 rfl rfl (dk_at ktX7_generation_0 2 rfl) (b := 5) rfl ?_
  refine rc_p (p_aload_n 0 (dk_at ktX7_generation_0 3 rfl) rfl rfl (b := 6) rfl) ?_
  refine r_iV (As' := []) (rest := []) (s_X7_active hm (σ := σ) (by rw [up2_off (by omega)]; exact hR) hI) cw_X7_245 qi_X7_active qv_X7_active rfl hm.l0 hm.s0 (dk_at ktX7_generation_0 4 rfl) rfl rfl (Nat.le_of_ble_eq_true rfl) (by decide) (b := 9) rfl (fun v4 I1 J2 q3 => ?_)
  obtain ⟨ea5, rfl, rfl⟩ := q3
  refine rc_p (p_iconst (v := (-1)) (dk_at ktX7_generation_0 5 rfl) (by decide) (b := 10) rfl) ?_
  refine r_icmp_ne (dk_at ktX7_generation_0 6 rfl) (b := 17) (by decide) (b2 := 13) rfl (fun c10 => ?_) (fun c10 => ?_)
  · skip
    obtain ⟨p, hp, hA0⟩ := act_n ea5 c10
    have hA : activeI σ = nI p := ea5.trans hA0
    have hfl := ffree_le σ p (nJ σ)
    refine rc_p (p_aload_n 0 (dk_at ktX7_generation_0 9 rfl) rfl rfl (b := 18) rfl) ?_
    refine rc_p (p_aload_n 0 (dk_at ktX7_generation_0 10 rfl) rfl rfl (b := 19) rfl) ?_
    refine r_iV (As' := []) (rest := [.ref m]) (s_X7_active hm (σ := σ) (by rw [up2_off (by omega)]; exact hR) hI) cw_X7_245 qi_X7_active qv_X7_active rfl hm.l0 hm.s0 (dk_at ktX7_generation_0 11 rfl) rfl rfl (Nat.le_of_ble_eq_true rfl) (by decide) (b := 22) rfl (fun v9 I6 J7 q8 => ?_)
    obtain ⟨ea10, rfl, rfl⟩ := q8
    rw [hA] at ea10
    subst ea10
    refine r_iV (As' := [.int (nI p)]) (rest := []) (s_X7_generationOf hm (σ := σ) (by rw [up2_off (by omega)]; exact hR) hI p (by omega)) cw_X7_225 qi_X7_generationOf qv_X7_generationOf rfl hm.l0 hm.s0 (dk_at ktX7_generation_0 12 rfl) rfl rfl (Nat.le_of_ble_eq_true rfl) (by decide) (b := 25) rfl (fun v14 I11 J12 q13 => ?_)
    obtain ⟨rfl, rfl, rfl⟩ := q13
    refine r_iret (dk_at ktX7_generation_0 13 rfl) rfl rfl ⟨_, rfl, ?_⟩
    refine ⟨fun hz => ?_, ?_, rfl, ?_, (FF.uf FF.rf (by decide))⟩
    · exact a_gen_y hp hA
    · exact Eq.trans up2_s (by rfl)
    · exact (by rw [up2_off (by omega)]; exact hR)
  · skip
    refine rc_p (p_iconst (v := (-1)) (dk_at ktX7_generation_0 7 rfl) (by decide) (b := 14) rfl) ?_
    refine rc_p (p_goto (b := 25) (dk_at ktX7_generation_0 8 rfl) (by decide)) ?_
    refine r_iret (dk_at ktX7_generation_0 13 rfl) rfl rfl ⟨_, rfl, ?_⟩
    refine ⟨fun hz => ?_, ?_, rfl, ?_, (FF.uf FF.rf (by decide))⟩
    · exact if_pos (ea5.trans c10)
    · exact Eq.trans up2_s (by rfl)
    · exact (by rw [up2_off (by omega)]; exact hR)
set_option maxRecDepth 4000 in
set_option maxHeartbeats 4000000 in
theorem s_X7_freeNow {n : Nat} {sh : mS} {G : mG} {I : mI} {J : mJ} {m : Nat} {σ : sT} (hm : ModG n sh G m) (hR : RelW (I (m + 1)) σ) (hI : Inv σ)  : Sp yX7_freeNow cX7_freeNow 1 (some FieldType.int) 5 240 0 0 [.ref m] n sh G I J (Qi (fun r_ I_ J_ => a_free σ = r_ ∧ I = I_ ∧ J = J_)) nX := by
  refine Sp.of (by decide) (ls := [(0, .ref m)]) (fun _ => rfl) (fun _ => Nat.le_of_ble_eq_true rfl) ?_
  have hb := hI.bd
  refine rc_p (p_aload_n 0 (dk_at ktX7_freeNow_0 0 rfl) rfl rfl (b := 1) rfl) ?_
  refine r_iV (As' := []) (rest := []) (s_X7_active hm (σ := σ) hR hI) cw_X7_245 qi_X7_active qv_X7_active rfl hm.l0 hm.s0 (dk_at ktX7_freeNow_0 1 rfl) rfl rfl (Nat.le_of_ble_eq_true rfl) (by decide) (b := 4) rfl (fun v4 I1 J2 q3 => ?_)
  obtain ⟨ea5, rfl, rfl⟩ := q3
  refine rc_p (p_iconst (v := (-1)) (dk_at ktX7_freeNow_0 2 rfl) (by decide) (b := 5) rfl) ?_
  refine r_icmp_ne (dk_at ktX7_freeNow_0 3 rfl) (b := 12) (by decide) (b2 := 8) rfl (fun c5 => ?_) (fun c5 => ?_)
  · skip
    obtain ⟨p, hp, hA0⟩ := act_n ea5 c5
    have hA : activeI σ = nI p := ea5.trans hA0
    have hfl := ffree_le σ p (nJ σ)
    refine rc_p (p_aload_n 0 (dk_at ktX7_freeNow_0 6 rfl) rfl rfl (b := 13) rfl) ?_
    refine r_geta fl_X7_9 rfl hm.l0 hm.s0 (dk_at ktX7_freeNow_0 7 rfl) hm.g0_0 (b := 16) rfl ?_
    refine rc_p (p_iconst (v := 2) (dk_at ktX7_freeNow_0 8 rfl) (by decide) (b := 17) rfl) ?_
    refine r_iald (j := 2) (hm.lt 1 (by decide)) hm.s1 (dk_at ktX7_freeNow_0 9 rfl) rfl ⟨by decide, by decide⟩ (v := (nI (nJ σ))) ((hR.1 2 (by decide)).trans hI.w2) (b := 18) rfl ?_
    refine rc_p (p_aload_n 0 (dk_at ktX7_freeNow_0 10 rfl) rfl rfl (b := 19) rfl) ?_
    refine rc_p (p_aload_n 0 (dk_at ktX7_freeNow_0 11 rfl) rfl rfl (b := 20) rfl) ?_
    refine r_iV (As' := []) (rest := [.ref m, .int (nI (nJ σ))]) (s_X7_active hm (σ := σ) hR hI) cw_X7_245 qi_X7_active qv_X7_active rfl hm.l0 hm.s0 (dk_at ktX7_freeNow_0 12 rfl) rfl rfl (Nat.le_of_ble_eq_true rfl) (by decide) (b := 23) rfl (fun v9 I6 J7 q8 => ?_)
    obtain ⟨ea10, rfl, rfl⟩ := q8
    rw [hA] at ea10
    subst ea10
    refine r_iV (As' := [.int (nI p)]) (rest := [.int (nI (nJ σ))]) (s_X7_firstFree hm (σ := σ) hR hI p (by omega)) cw_X7_294 qi_X7_firstFree qv_X7_firstFree rfl hm.l0 hm.s0 (dk_at ktX7_freeNow_0 13 rfl) rfl rfl (Nat.le_of_ble_eq_true rfl) (by decide) (b := 26) rfl (fun v14 I11 J12 q13 => ?_)
    obtain ⟨rfl, rfl, rfl⟩ := q13
    refine rc_p (p_isub (v := (nI (nJ σ - ffree σ p (nJ σ)))) (dk_at ktX7_freeNow_0 14 rfl) (pk_sub (a := nJ σ) (b := ffree σ p (nJ σ)) (by omega)) (b := 27) rfl) ?_
    refine r_iret (dk_at ktX7_freeNow_0 15 rfl) rfl rfl ⟨_, rfl, ?_⟩
    refine ⟨?_, rfl, rfl⟩
    exact a_free_y hp hA
  · skip
    refine rc_p (p_iconst (v := 0) (dk_at ktX7_freeNow_0 4 rfl) (by decide) (b := 9) rfl) ?_
    refine rc_p (p_goto (b := 27) (dk_at ktX7_freeNow_0 5 rfl) (by decide)) ?_
    refine r_iret (dk_at ktX7_freeNow_0 15 rfl) rfl rfl ⟨_, rfl, ?_⟩
    refine ⟨?_, rfl, rfl⟩
    exact if_pos (ea5.trans c5)
set_option maxRecDepth 4000 in
set_option maxHeartbeats 4000000 in
theorem s_X7_freeWords {n : Nat} {sh : mS} {G : mG} {I : mI} {J : mJ} {m : Nat} {σ : sT} (hm : ModG n sh G m) (hR : RelW (I (m + 1)) σ) (hI : Inv σ)  : Sp yX7_freeWords cX7_freeWords 1 (some FieldType.int) 6 288 0 0 [.ref m] n sh G I J (Qi (fun r_ I_ J_ => (0 = 0 → a_free σ = r_) ∧ I_ m 6 = 0 ∧ J = J_ ∧ RelW (I_ (m + 1)) (σ) ∧ FF m [1, 2, 8] [6, 18, 19, 20, 21, 22, 23, 24, 26, 27] I I_)) nX := by
  have hb := hI.bd
  refine Sp.of (by decide) (ls := [(0, .ref m)]) (fun _ => rfl) (fun _ => Nat.le_of_ble_eq_true rfl) ?_
  refine rc_p (p_aload_n 0 (dk_at ktX7_freeWords_0 0 rfl) rfl rfl (b := 1) rfl) ?_
  refine rc_p (p_iconst (v := 0) (dk_at ktX7_freeWords_0 1 rfl) (by decide) (b := 2) rfl) ?_
  refine r_puti fl_X7_46 fw_X7_6 rfl hm.l0 hm.s0 rfl rfl (dk_at ktX7_freeWords_0 2 rfl) (b := 5) rfl ?_
  refine rc_p (p_aload_n 0 (dk_at ktX7_freeWords_0 3 rfl) rfl rfl (b := 6) rfl) ?_
  refine r_iV (As' := []) (rest := []) (s_X7_freeNow hm (σ := σ) (by rw [up2_off (by omega)]; exact hR) hI  ) cw_X7_377 qi_X7_freeNow qv_X7_freeNow rfl hm.l0 hm.s0 (dk_at ktX7_freeWords_0 4 rfl) rfl rfl (Nat.le_of_ble_eq_true rfl) (by decide) (b := 9) rfl (fun v4 I1 J2 q3 => ?_)
  obtain ⟨rfl, rfl, rfl⟩ := q3
  refine r_iret (dk_at ktX7_freeWords_0 5 rfl) rfl rfl ⟨_, rfl, ?_⟩
  refine ⟨fun hz => ?_, ?_, rfl, ?_, (FF.uf FF.rf (by decide))⟩
  · rfl
  · exact Eq.trans up2_s (by rfl)
  · exact (by rw [up2_off (by omega)]; exact hR)
set_option maxRecDepth 4000 in
set_option maxHeartbeats 4000000 in
theorem s_X7_recordsLeft {n : Nat} {sh : mS} {G : mG} {I : mI} {J : mJ} {m : Nat} {σ : sT} (hm : ModG n sh G m) (hR : RelW (I (m + 1)) σ) (hI : Inv σ)  : Sp yX7_recordsLeft cX7_recordsLeft 1 (some FieldType.int) 6 288 0 0 [.ref m] n sh G I J (Qi (fun r_ I_ J_ => (0 = 0 → a_left σ = r_) ∧ I_ m 6 = 0 ∧ J = J_ ∧ RelW (I_ (m + 1)) (σ) ∧ FF m [1, 2, 8] [6, 18, 19, 20, 21, 22, 23, 24, 26, 27] I I_)) nX := by
  have hb := hI.bd
  refine Sp.of (by decide) (ls := [(0, .ref m)]) (fun _ => rfl) (fun _ => Nat.le_of_ble_eq_true rfl) ?_
  refine rc_p (p_aload_n 0 (dk_at ktX7_recordsLeft_0 0 rfl) rfl rfl (b := 1) rfl) ?_
  refine rc_p (p_iconst (v := 0) (dk_at ktX7_recordsLeft_0 1 rfl) (by decide) (b := 2) rfl) ?_
  refine r_puti fl_X7_46 fw_X7_6 rfl hm.l0 hm.s0 rfl rfl (dk_at ktX7_recordsLeft_0 2 rfl) (b := 5) rfl ?_
  refine rc_p (p_aload_n 0 (dk_at ktX7_recordsLeft_0 3 rfl) rfl rfl (b := 6) rfl) ?_
  refine r_iV (As' := []) (rest := []) (s_X7_active hm (σ := σ) (by rw [up2_off (by omega)]; exact hR) hI) cw_X7_245 qi_X7_active qv_X7_active rfl hm.l0 hm.s0 (dk_at ktX7_recordsLeft_0 4 rfl) rfl rfl (Nat.le_of_ble_eq_true rfl) (by decide) (b := 9) rfl (fun v4 I1 J2 q3 => ?_)
  obtain ⟨ea5, rfl, rfl⟩ := q3
  refine rc_p (p_iconst (v := (-1)) (dk_at ktX7_recordsLeft_0 5 rfl) (by decide) (b := 10) rfl) ?_
  refine r_icmp_ne (dk_at ktX7_recordsLeft_0 6 rfl) (b := 24) (by decide) (b2 := 13) rfl (fun c10 => ?_) (fun c10 => ?_)
  · skip
    obtain ⟨p, hp, hA0⟩ := act_n ea5 c10
    have hA : activeI σ = nI p := ea5.trans hA0
    have hfl := ffree_le σ p (nJ σ)
    refine rc_p (p_aload_n 0 (dk_at ktX7_recordsLeft_0 14 rfl) rfl rfl (b := 25) rfl) ?_
    refine r_iV (As' := []) (rest := []) (s_X7_freeNow hm (σ := σ) (by rw [up2_off (by omega)]; exact hR) hI  ) cw_X7_377 qi_X7_freeNow qv_X7_freeNow rfl hm.l0 hm.s0 (dk_at ktX7_recordsLeft_0 15 rfl) rfl rfl (Nat.le_of_ble_eq_true rfl) (by decide) (b := 28) rfl (fun v9 I6 J7 q8 => ?_)
    obtain ⟨rfl, rfl, rfl⟩ := q8
    refine r_iret (dk_at ktX7_recordsLeft_0 16 rfl) rfl rfl ⟨_, rfl, ?_⟩
    refine ⟨fun hz => ?_, ?_, rfl, ?_, (FF.uf FF.rf (by decide))⟩
    · exact (a_left_y hp hA).trans (a_free_y hp hA).symm
    · exact Eq.trans up2_s (by rfl)
    · exact (by rw [up2_off (by omega)]; exact hR)
  · skip
    refine rc_p (p_aload_n 0 (dk_at ktX7_recordsLeft_0 7 rfl) rfl rfl (b := 14) rfl) ?_
    refine r_geta fl_X7_9 rfl hm.l0 hm.s0 (dk_at ktX7_recordsLeft_0 8 rfl) hm.g0_0 (b := 17) rfl ?_
    refine rc_p (p_iconst (v := 2) (dk_at ktX7_recordsLeft_0 9 rfl) (by decide) (b := 18) rfl) ?_
    refine r_iald (j := 2) (hm.lt 1 (by decide)) hm.s1 (dk_at ktX7_recordsLeft_0 10 rfl) rfl ⟨by decide, by decide⟩ (v := (nI (nJ σ))) ((up2_n (by omega)).trans ((hR.1 2 (by decide)).trans hI.w2)) (b := 19) rfl ?_
    refine rc_p (p_iconst (v := 1) (dk_at ktX7_recordsLeft_0 11 rfl) (by decide) (b := 20) rfl) ?_
    refine rc_p (p_isub (v := (nI (nJ σ - 1))) (dk_at ktX7_recordsLeft_0 12 rfl) (pk_sub (a := nJ σ) (b := 1) (by omega)) (b := 21) rfl) ?_
    refine rc_p (p_goto (b := 28) (dk_at ktX7_recordsLeft_0 13 rfl) (by decide)) ?_
    refine r_iret (dk_at ktX7_recordsLeft_0 16 rfl) rfl rfl ⟨_, rfl, ?_⟩
    refine ⟨fun hz => ?_, ?_, rfl, ?_, (FF.uf FF.rf (by decide))⟩
    · exact if_pos (ea5.trans c10)
    · exact Eq.trans up2_s (by rfl)
    · exact (by rw [up2_off (by omega)]; exact hR)
set_option maxRecDepth 4000 in
set_option maxHeartbeats 4000000 in
theorem s_X7_toldNow {n : Nat} {sh : mS} {G : mG} {I : mI} {J : mJ} {m : Nat} {σ : sT} (hm : ModG n sh G m) (hR : RelW (I (m + 1)) σ) (hI : Inv σ) (w : Nat) (hw : w < 5) : Sp yX7_toldNow cX7_toldNow 2 (some FieldType.int) 6 288 0 0 [.ref m, .int (nI w)] n sh G I J (Qi (fun r_ I_ J_ => told σ w = r_ ∧ J = J_ ∧ RelW (I_ (m + 1)) σ ∧ (∀ j, j < 5 → I_ m (18 + j) = told σ j) ∧ FF m [] [18, 19, 20, 21, 22] I I_)) nX := by
  refine Sp.of (by decide) (ls := [(0, .ref m), (1, .int (nI w))]) (fun _ => rfl) (fun _ => Nat.le_of_ble_eq_true rfl) ?_
  refine rc_p (p_aload_n 0 (dk_at ktX7_toldNow_0 0 rfl) rfl rfl (b := 1) rfl) ?_
  refine r_vV (As' := []) (rest := []) (s_X7_tells hm (σ := σ) hR hI) cw_X7_255 qi_X7_tells qv_X7_tells rfl hm.l0 hm.s0 (dk_at ktX7_toldNow_0 1 rfl) rfl rfl (Nat.le_of_ble_eq_true rfl) (by decide) (b := 4) rfl (fun I1 J2 q3 => ?_)
  obtain ⟨rfl, hR7, hT5, hF6⟩ := q3
  refine rc_p (p_iload_n 1 (dk_at ktX7_toldNow_0 2 rfl) rfl rfl (b := 5) rfl) ?_
  refine r_if_ne (dk_at ktX7_toldNow_0 3 rfl) (b := 15) (by decide) (b2 := 8) rfl (fun c5 => ?_) (fun c5 => ?_)
  · have c5 : ¬ w = 0 := fun h => c5 ((nI_eq (a := w) (b := 0) (by omega) (by omega)).mpr h)
    refine rc_p (p_iload_n 1 (dk_at ktX7_toldNow_0 7 rfl) rfl rfl (b := 16) rfl) ?_
    refine rc_p (p_iconst (v := 1) (dk_at ktX7_toldNow_0 8 rfl) (by decide) (b := 17) rfl) ?_
    refine r_icmp_ne (dk_at ktX7_toldNow_0 9 rfl) (b := 27) (by decide) (b2 := 20) rfl (fun c17 => ?_) (fun c17 => ?_)
    · have c17 : ¬ w = 1 := fun h => c17 ((nI_eq (a := w) (b := 1) (by omega) (by omega)).mpr h)
      refine rc_p (p_iload_n 1 (dk_at ktX7_toldNow_0 13 rfl) rfl rfl (b := 28) rfl) ?_
      refine rc_p (p_iconst (v := 2) (dk_at ktX7_toldNow_0 14 rfl) (by decide) (b := 29) rfl) ?_
      refine r_icmp_ne (dk_at ktX7_toldNow_0 15 rfl) (b := 39) (by decide) (b2 := 32) rfl (fun c29 => ?_) (fun c29 => ?_)
      · have c29 : ¬ w = 2 := fun h => c29 ((nI_eq (a := w) (b := 2) (by omega) (by omega)).mpr h)
        refine rc_p (p_iload_n 1 (dk_at ktX7_toldNow_0 19 rfl) rfl rfl (b := 40) rfl) ?_
        refine rc_p (p_iconst (v := 3) (dk_at ktX7_toldNow_0 20 rfl) (by decide) (b := 41) rfl) ?_
        refine r_icmp_ne (dk_at ktX7_toldNow_0 21 rfl) (b := 51) (by decide) (b2 := 44) rfl (fun c41 => ?_) (fun c41 => ?_)
        · have c41 : ¬ w = 3 := fun h => c41 ((nI_eq (a := w) (b := 3) (by omega) (by omega)).mpr h)
          refine rc_p (p_aload_n 0 (dk_at ktX7_toldNow_0 25 rfl) rfl rfl (b := 52) rfl) ?_
          refine r_geti fl_X7_242 rfl hm.l0 hm.s0 (dk_at ktX7_toldNow_0 26 rfl) (v := ((told σ) 4)) (hT5 4 (by decide)) (b := 55) rfl ?_
          refine r_iret (dk_at ktX7_toldNow_0 27 rfl) rfl rfl ⟨_, rfl, ?_⟩
          refine ⟨?_, rfl, hR7, hT5, hF6⟩
          rw [show w = 4 by omega]
        · have c41 : w = 3 := (nI_eq (a := w) (b := 3) (by omega) (by omega)).mp c41
          refine rc_p (p_aload_n 0 (dk_at ktX7_toldNow_0 22 rfl) rfl rfl (b := 45) rfl) ?_
          refine r_geti fl_X7_238 rfl hm.l0 hm.s0 (dk_at ktX7_toldNow_0 23 rfl) (v := ((told σ) 3)) (hT5 3 (by decide)) (b := 48) rfl ?_
          refine rc_p (p_goto (b := 55) (dk_at ktX7_toldNow_0 24 rfl) (by decide)) ?_
          refine r_iret (dk_at ktX7_toldNow_0 27 rfl) rfl rfl ⟨_, rfl, ?_⟩
          refine ⟨?_, rfl, hR7, hT5, hF6⟩
          rw [show w = 3 by omega]
      · have c29 : w = 2 := (nI_eq (a := w) (b := 2) (by omega) (by omega)).mp c29
        refine rc_p (p_aload_n 0 (dk_at ktX7_toldNow_0 16 rfl) rfl rfl (b := 33) rfl) ?_
        refine r_geti fl_X7_235 rfl hm.l0 hm.s0 (dk_at ktX7_toldNow_0 17 rfl) (v := ((told σ) 2)) (hT5 2 (by decide)) (b := 36) rfl ?_
        refine rc_p (p_goto (b := 55) (dk_at ktX7_toldNow_0 18 rfl) (by decide)) ?_
        refine r_iret (dk_at ktX7_toldNow_0 27 rfl) rfl rfl ⟨_, rfl, ?_⟩
        refine ⟨?_, rfl, hR7, hT5, hF6⟩
        rw [show w = 2 by omega]
    · have c17 : w = 1 := (nI_eq (a := w) (b := 1) (by omega) (by omega)).mp c17
      refine rc_p (p_aload_n 0 (dk_at ktX7_toldNow_0 10 rfl) rfl rfl (b := 21) rfl) ?_
      refine r_geti fl_X7_240 rfl hm.l0 hm.s0 (dk_at ktX7_toldNow_0 11 rfl) (v := ((told σ) 1)) (hT5 1 (by decide)) (b := 24) rfl ?_
      refine rc_p (p_goto (b := 55) (dk_at ktX7_toldNow_0 12 rfl) (by decide)) ?_
      refine r_iret (dk_at ktX7_toldNow_0 27 rfl) rfl rfl ⟨_, rfl, ?_⟩
      refine ⟨?_, rfl, hR7, hT5, hF6⟩
      rw [show w = 1 by omega]
  · have c5 : w = 0 := (nI_eq (a := w) (b := 0) (by omega) (by omega)).mp c5
    refine rc_p (p_aload_n 0 (dk_at ktX7_toldNow_0 4 rfl) rfl rfl (b := 9) rfl) ?_
    refine r_geti fl_X7_230 rfl hm.l0 hm.s0 (dk_at ktX7_toldNow_0 5 rfl) (v := ((told σ) 0)) (hT5 0 (by decide)) (b := 12) rfl ?_
    refine rc_p (p_goto (b := 55) (dk_at ktX7_toldNow_0 6 rfl) (by decide)) ?_
    refine r_iret (dk_at ktX7_toldNow_0 27 rfl) rfl rfl ⟨_, rfl, ?_⟩
    refine ⟨?_, rfl, hR7, hT5, hF6⟩
    rw [show w = 0 by omega]
set_option maxRecDepth 4000 in
set_option maxHeartbeats 4000000 in
theorem s_X7_told {n : Nat} {sh : mS} {G : mG} {I : mI} {J : mJ} {m : Nat} {σ : sT} (hm : ModG n sh G m) (hR : RelW (I (m + 1)) σ) (hI : Inv σ) (w : Int32) : Sp yX7_told cX7_told 2 (some FieldType.int) 7 336 0 0 [.ref m, .int w] n sh G I J (Qi (fun r_ I_ J_ => (cIn w 0 4 = 0 → told σ (tn w) = r_) ∧ I_ m 6 = cIn w 0 4 ∧ J = J_ ∧ RelW (I_ (m + 1)) (σ) ∧ FF m [1, 2, 8] [6, 18, 19, 20, 21, 22, 23, 24, 26, 27] I I_)) nX := by
  have hb := hI.bd
  rcases tl_c w with rfl | rfl | rfl | rfl | rfl | hw
  · refine Sp.of (by decide) (ls := [(0, .ref m), (1, .int 0)]) (fun _ => rfl) (fun _ => Nat.le_of_ble_eq_true rfl) ?_
    refine rc_p (p_aload_n 0 (dk_at ktX7_told_0 0 rfl) rfl rfl (b := 1) rfl) ?_
    refine rc_p (p_iconst (v := 0) (dk_at ktX7_told_0 1 rfl) (by decide) (b := 2) rfl) ?_
    refine r_puti fl_X7_46 fw_X7_6 rfl hm.l0 hm.s0 rfl rfl (dk_at ktX7_told_0 2 rfl) (b := 5) rfl ?_
    refine rc_p (p_aload_n 0 (dk_at ktX7_told_0 3 rfl) rfl rfl (b := 6) rfl) ?_
    refine rc_p (p_iload_n 1 (dk_at ktX7_told_0 4 rfl) rfl rfl (b := 7) rfl) ?_
    refine rc_p (p_i2l (v := (Int32.toInt64 0)) (dk_at ktX7_told_0 5 rfl) rfl (b := 8) rfl) ?_
    refine rc_p (p_lconst (v := 0) (dk_at ktX7_told_0 6 rfl) (by decide) (b := 9) rfl) ?_
    refine rc_p (p_ldc2 (v := 4) ql_TwinBootModel_383 (dk_at ktX7_told_0 7 rfl) (b := 12) rfl) ?_
    refine r_iS (As := [.long (Int32.toInt64 0), .long 0, .long 4]) (rest := [.ref m]) (s_X7_in (Int32.toInt64 0) 0 4) cw_X7_73 qs_X7_in (dk_at ktX7_told_0 8 rfl) rfl rfl (Nat.le_of_ble_eq_true rfl) (by decide) (b := 15) rfl (fun v4 I1 J2 q3 => ?_)
    obtain ⟨rfl, rfl, rfl⟩ := q3
    refine r_val (y := bi (inI 0 0 4)) (congrArg bi (inJ_I 0 0 4)) ?_
    refine r_val (y := 1) (by decide) ?_
    refine r_if_ne (dk_at ktX7_told_0 9 rfl) (b := 22) (by decide) (b2 := 18) rfl (fun c15 => ?_) (fun c15 => ?_)
    · skip
      refine rc_p (p_iconst (v := 0) (dk_at ktX7_told_0 12 rfl) (by decide) (b := 23) rfl) ?_
      refine rc_p (p_iconst (v := 1) (dk_at ktX7_told_0 13 rfl) (by decide) (b := 24) rfl) ?_
      refine r_iV (As' := [.int 0, .int 1]) (rest := []) (s_X7_throwsIf hm (σ := σ) (by rw [up2_off (by omega)]; exact hR) hI up2_s false 1 (by decide)) cw_X7_190 qi_X7_throwsIf qv_X7_throwsIf rfl hm.l0 hm.s0 (dk_at ktX7_told_0 14 rfl) rfl rfl (Nat.le_of_ble_eq_true rfl) (by decide) (b := 27) rfl (fun v8 I5 J6 q7 => ?_)
      obtain ⟨rfl, rfl, hR9, hF10, h611⟩ := q7
      refine r_val (y := 0) rfl ?_
      refine r_if_eq (dk_at ktX7_told_0 15 rfl) (b := 34) (by decide) (b2 := 30) rfl (fun c27 => ?_) (fun c27 => ?_)
      · skip
        refine rc_p (p_aload_n 0 (dk_at ktX7_told_0 18 rfl) rfl rfl (b := 35) rfl) ?_
        refine rc_p (p_iload_n 1 (dk_at ktX7_told_0 19 rfl) rfl rfl (b := 36) rfl) ?_
        refine r_iV (As' := [.int 0]) (rest := []) (s_X7_toldNow hm (σ := σ) hR9 hI 0 (by omega)) cw_X7_385 qi_X7_toldNow qv_X7_toldNow rfl hm.l0 hm.s0 (dk_at ktX7_told_0 20 rfl) rfl rfl (Nat.le_of_ble_eq_true rfl) (by decide) (b := 39) rfl (fun v15 I12 J13 q14 => ?_)
        obtain ⟨rfl, rfl, hR18, hT16, hF17⟩ := q14
        refine r_iret (dk_at ktX7_told_0 21 rfl) rfl rfl ⟨_, rfl, ?_⟩
        refine ⟨fun hz => ?_, ?_, rfl, ?_, (FF.tr (FF.tr (FF.uf FF.rf (by decide)) (hF10.mo (by decide) (by decide))) (hF17.mo (by decide) (by decide)))⟩
        · rfl
        · exact Eq.trans (((hF17.2 6 (by decide))).trans h611) (by first | rfl | decide)
        · exact hR18
      · first | exact absurd c27 (by decide) | exact absurd (by decide) c27
    · first | exact absurd c15 (by decide) | exact absurd (by decide) c15
  · refine Sp.of (by decide) (ls := [(0, .ref m), (1, .int 1)]) (fun _ => rfl) (fun _ => Nat.le_of_ble_eq_true rfl) ?_
    refine rc_p (p_aload_n 0 (dk_at ktX7_told_0 0 rfl) rfl rfl (b := 1) rfl) ?_
    refine rc_p (p_iconst (v := 0) (dk_at ktX7_told_0 1 rfl) (by decide) (b := 2) rfl) ?_
    refine r_puti fl_X7_46 fw_X7_6 rfl hm.l0 hm.s0 rfl rfl (dk_at ktX7_told_0 2 rfl) (b := 5) rfl ?_
    refine rc_p (p_aload_n 0 (dk_at ktX7_told_0 3 rfl) rfl rfl (b := 6) rfl) ?_
    refine rc_p (p_iload_n 1 (dk_at ktX7_told_0 4 rfl) rfl rfl (b := 7) rfl) ?_
    refine rc_p (p_i2l (v := (Int32.toInt64 1)) (dk_at ktX7_told_0 5 rfl) rfl (b := 8) rfl) ?_
    refine rc_p (p_lconst (v := 0) (dk_at ktX7_told_0 6 rfl) (by decide) (b := 9) rfl) ?_
    refine rc_p (p_ldc2 (v := 4) ql_TwinBootModel_383 (dk_at ktX7_told_0 7 rfl) (b := 12) rfl) ?_
    refine r_iS (As := [.long (Int32.toInt64 1), .long 0, .long 4]) (rest := [.ref m]) (s_X7_in (Int32.toInt64 1) 0 4) cw_X7_73 qs_X7_in (dk_at ktX7_told_0 8 rfl) rfl rfl (Nat.le_of_ble_eq_true rfl) (by decide) (b := 15) rfl (fun v22 I19 J20 q21 => ?_)
    obtain ⟨rfl, rfl, rfl⟩ := q21
    refine r_val (y := bi (inI 1 0 4)) (congrArg bi (inJ_I 1 0 4)) ?_
    refine r_val (y := 1) (by decide) ?_
    refine r_if_ne (dk_at ktX7_told_0 9 rfl) (b := 22) (by decide) (b2 := 18) rfl (fun c15 => ?_) (fun c15 => ?_)
    · skip
      refine rc_p (p_iconst (v := 0) (dk_at ktX7_told_0 12 rfl) (by decide) (b := 23) rfl) ?_
      refine rc_p (p_iconst (v := 1) (dk_at ktX7_told_0 13 rfl) (by decide) (b := 24) rfl) ?_
      refine r_iV (As' := [.int 0, .int 1]) (rest := []) (s_X7_throwsIf hm (σ := σ) (by rw [up2_off (by omega)]; exact hR) hI up2_s false 1 (by decide)) cw_X7_190 qi_X7_throwsIf qv_X7_throwsIf rfl hm.l0 hm.s0 (dk_at ktX7_told_0 14 rfl) rfl rfl (Nat.le_of_ble_eq_true rfl) (by decide) (b := 27) rfl (fun v26 I23 J24 q25 => ?_)
      obtain ⟨rfl, rfl, hR27, hF28, h629⟩ := q25
      refine r_val (y := 0) rfl ?_
      refine r_if_eq (dk_at ktX7_told_0 15 rfl) (b := 34) (by decide) (b2 := 30) rfl (fun c27 => ?_) (fun c27 => ?_)
      · skip
        refine rc_p (p_aload_n 0 (dk_at ktX7_told_0 18 rfl) rfl rfl (b := 35) rfl) ?_
        refine rc_p (p_iload_n 1 (dk_at ktX7_told_0 19 rfl) rfl rfl (b := 36) rfl) ?_
        refine r_iV (As' := [.int 1]) (rest := []) (s_X7_toldNow hm (σ := σ) hR27 hI 1 (by omega)) cw_X7_385 qi_X7_toldNow qv_X7_toldNow rfl hm.l0 hm.s0 (dk_at ktX7_told_0 20 rfl) rfl rfl (Nat.le_of_ble_eq_true rfl) (by decide) (b := 39) rfl (fun v33 I30 J31 q32 => ?_)
        obtain ⟨rfl, rfl, hR36, hT34, hF35⟩ := q32
        refine r_iret (dk_at ktX7_told_0 21 rfl) rfl rfl ⟨_, rfl, ?_⟩
        refine ⟨fun hz => ?_, ?_, rfl, ?_, (FF.tr (FF.tr (FF.uf FF.rf (by decide)) (hF28.mo (by decide) (by decide))) (hF35.mo (by decide) (by decide)))⟩
        · rfl
        · exact Eq.trans (((hF35.2 6 (by decide))).trans h629) (by first | rfl | decide)
        · exact hR36
      · first | exact absurd c27 (by decide) | exact absurd (by decide) c27
    · first | exact absurd c15 (by decide) | exact absurd (by decide) c15
  · refine Sp.of (by decide) (ls := [(0, .ref m), (1, .int 2)]) (fun _ => rfl) (fun _ => Nat.le_of_ble_eq_true rfl) ?_
    refine rc_p (p_aload_n 0 (dk_at ktX7_told_0 0 rfl) rfl rfl (b := 1) rfl) ?_
    refine rc_p (p_iconst (v := 0) (dk_at ktX7_told_0 1 rfl) (by decide) (b := 2) rfl) ?_
    refine r_puti fl_X7_46 fw_X7_6 rfl hm.l0 hm.s0 rfl rfl (dk_at ktX7_told_0 2 rfl) (b := 5) rfl ?_
    refine rc_p (p_aload_n 0 (dk_at ktX7_told_0 3 rfl) rfl rfl (b := 6) rfl) ?_
    refine rc_p (p_iload_n 1 (dk_at ktX7_told_0 4 rfl) rfl rfl (b := 7) rfl) ?_
    refine rc_p (p_i2l (v := (Int32.toInt64 2)) (dk_at ktX7_told_0 5 rfl) rfl (b := 8) rfl) ?_
    refine rc_p (p_lconst (v := 0) (dk_at ktX7_told_0 6 rfl) (by decide) (b := 9) rfl) ?_
    refine rc_p (p_ldc2 (v := 4) ql_TwinBootModel_383 (dk_at ktX7_told_0 7 rfl) (b := 12) rfl) ?_
    refine r_iS (As := [.long (Int32.toInt64 2), .long 0, .long 4]) (rest := [.ref m]) (s_X7_in (Int32.toInt64 2) 0 4) cw_X7_73 qs_X7_in (dk_at ktX7_told_0 8 rfl) rfl rfl (Nat.le_of_ble_eq_true rfl) (by decide) (b := 15) rfl (fun v40 I37 J38 q39 => ?_)
    obtain ⟨rfl, rfl, rfl⟩ := q39
    refine r_val (y := bi (inI 2 0 4)) (congrArg bi (inJ_I 2 0 4)) ?_
    refine r_val (y := 1) (by decide) ?_
    refine r_if_ne (dk_at ktX7_told_0 9 rfl) (b := 22) (by decide) (b2 := 18) rfl (fun c15 => ?_) (fun c15 => ?_)
    · skip
      refine rc_p (p_iconst (v := 0) (dk_at ktX7_told_0 12 rfl) (by decide) (b := 23) rfl) ?_
      refine rc_p (p_iconst (v := 1) (dk_at ktX7_told_0 13 rfl) (by decide) (b := 24) rfl) ?_
      refine r_iV (As' := [.int 0, .int 1]) (rest := []) (s_X7_throwsIf hm (σ := σ) (by rw [up2_off (by omega)]; exact hR) hI up2_s false 1 (by decide)) cw_X7_190 qi_X7_throwsIf qv_X7_throwsIf rfl hm.l0 hm.s0 (dk_at ktX7_told_0 14 rfl) rfl rfl (Nat.le_of_ble_eq_true rfl) (by decide) (b := 27) rfl (fun v44 I41 J42 q43 => ?_)
      obtain ⟨rfl, rfl, hR45, hF46, h647⟩ := q43
      refine r_val (y := 0) rfl ?_
      refine r_if_eq (dk_at ktX7_told_0 15 rfl) (b := 34) (by decide) (b2 := 30) rfl (fun c27 => ?_) (fun c27 => ?_)
      · skip
        refine rc_p (p_aload_n 0 (dk_at ktX7_told_0 18 rfl) rfl rfl (b := 35) rfl) ?_
        refine rc_p (p_iload_n 1 (dk_at ktX7_told_0 19 rfl) rfl rfl (b := 36) rfl) ?_
        refine r_iV (As' := [.int 2]) (rest := []) (s_X7_toldNow hm (σ := σ) hR45 hI 2 (by omega)) cw_X7_385 qi_X7_toldNow qv_X7_toldNow rfl hm.l0 hm.s0 (dk_at ktX7_told_0 20 rfl) rfl rfl (Nat.le_of_ble_eq_true rfl) (by decide) (b := 39) rfl (fun v51 I48 J49 q50 => ?_)
        obtain ⟨rfl, rfl, hR54, hT52, hF53⟩ := q50
        refine r_iret (dk_at ktX7_told_0 21 rfl) rfl rfl ⟨_, rfl, ?_⟩
        refine ⟨fun hz => ?_, ?_, rfl, ?_, (FF.tr (FF.tr (FF.uf FF.rf (by decide)) (hF46.mo (by decide) (by decide))) (hF53.mo (by decide) (by decide)))⟩
        · rfl
        · exact Eq.trans (((hF53.2 6 (by decide))).trans h647) (by first | rfl | decide)
        · exact hR54
      · first | exact absurd c27 (by decide) | exact absurd (by decide) c27
    · first | exact absurd c15 (by decide) | exact absurd (by decide) c15
  · refine Sp.of (by decide) (ls := [(0, .ref m), (1, .int 3)]) (fun _ => rfl) (fun _ => Nat.le_of_ble_eq_true rfl) ?_
    refine rc_p (p_aload_n 0 (dk_at ktX7_told_0 0 rfl) rfl rfl (b := 1) rfl) ?_
    refine rc_p (p_iconst (v := 0) (dk_at ktX7_told_0 1 rfl) (by decide) (b := 2) rfl) ?_
    refine r_puti fl_X7_46 fw_X7_6 rfl hm.l0 hm.s0 rfl rfl (dk_at ktX7_told_0 2 rfl) (b := 5) rfl ?_
    refine rc_p (p_aload_n 0 (dk_at ktX7_told_0 3 rfl) rfl rfl (b := 6) rfl) ?_
    refine rc_p (p_iload_n 1 (dk_at ktX7_told_0 4 rfl) rfl rfl (b := 7) rfl) ?_
    refine rc_p (p_i2l (v := (Int32.toInt64 3)) (dk_at ktX7_told_0 5 rfl) rfl (b := 8) rfl) ?_
    refine rc_p (p_lconst (v := 0) (dk_at ktX7_told_0 6 rfl) (by decide) (b := 9) rfl) ?_
    refine rc_p (p_ldc2 (v := 4) ql_TwinBootModel_383 (dk_at ktX7_told_0 7 rfl) (b := 12) rfl) ?_
    refine r_iS (As := [.long (Int32.toInt64 3), .long 0, .long 4]) (rest := [.ref m]) (s_X7_in (Int32.toInt64 3) 0 4) cw_X7_73 qs_X7_in (dk_at ktX7_told_0 8 rfl) rfl rfl (Nat.le_of_ble_eq_true rfl) (by decide) (b := 15) rfl (fun v58 I55 J56 q57 => ?_)
    obtain ⟨rfl, rfl, rfl⟩ := q57
    refine r_val (y := bi (inI 3 0 4)) (congrArg bi (inJ_I 3 0 4)) ?_
    refine r_val (y := 1) (by decide) ?_
    refine r_if_ne (dk_at ktX7_told_0 9 rfl) (b := 22) (by decide) (b2 := 18) rfl (fun c15 => ?_) (fun c15 => ?_)
    · skip
      refine rc_p (p_iconst (v := 0) (dk_at ktX7_told_0 12 rfl) (by decide) (b := 23) rfl) ?_
      refine rc_p (p_iconst (v := 1) (dk_at ktX7_told_0 13 rfl) (by decide) (b := 24) rfl) ?_
      refine r_iV (As' := [.int 0, .int 1]) (rest := []) (s_X7_throwsIf hm (σ := σ) (by rw [up2_off (by omega)]; exact hR) hI up2_s false 1 (by decide)) cw_X7_190 qi_X7_throwsIf qv_X7_throwsIf rfl hm.l0 hm.s0 (dk_at ktX7_told_0 14 rfl) rfl rfl (Nat.le_of_ble_eq_true rfl) (by decide) (b := 27) rfl (fun v62 I59 J60 q61 => ?_)
      obtain ⟨rfl, rfl, hR63, hF64, h665⟩ := q61
      refine r_val (y := 0) rfl ?_
      refine r_if_eq (dk_at ktX7_told_0 15 rfl) (b := 34) (by decide) (b2 := 30) rfl (fun c27 => ?_) (fun c27 => ?_)
      · skip
        refine rc_p (p_aload_n 0 (dk_at ktX7_told_0 18 rfl) rfl rfl (b := 35) rfl) ?_
        refine rc_p (p_iload_n 1 (dk_at ktX7_told_0 19 rfl) rfl rfl (b := 36) rfl) ?_
        refine r_iV (As' := [.int 3]) (rest := []) (s_X7_toldNow hm (σ := σ) hR63 hI 3 (by omega)) cw_X7_385 qi_X7_toldNow qv_X7_toldNow rfl hm.l0 hm.s0 (dk_at ktX7_told_0 20 rfl) rfl rfl (Nat.le_of_ble_eq_true rfl) (by decide) (b := 39) rfl (fun v69 I66 J67 q68 => ?_)
        obtain ⟨rfl, rfl, hR72, hT70, hF71⟩ := q68
        refine r_iret (dk_at ktX7_told_0 21 rfl) rfl rfl ⟨_, rfl, ?_⟩
        refine ⟨fun hz => ?_, ?_, rfl, ?_, (FF.tr (FF.tr (FF.uf FF.rf (by decide)) (hF64.mo (by decide) (by decide))) (hF71.mo (by decide) (by decide)))⟩
        · rfl
        · exact Eq.trans (((hF71.2 6 (by decide))).trans h665) (by first | rfl | decide)
        · exact hR72
      · first | exact absurd c27 (by decide) | exact absurd (by decide) c27
    · first | exact absurd c15 (by decide) | exact absurd (by decide) c15
  · refine Sp.of (by decide) (ls := [(0, .ref m), (1, .int 4)]) (fun _ => rfl) (fun _ => Nat.le_of_ble_eq_true rfl) ?_
    refine rc_p (p_aload_n 0 (dk_at ktX7_told_0 0 rfl) rfl rfl (b := 1) rfl) ?_
    refine rc_p (p_iconst (v := 0) (dk_at ktX7_told_0 1 rfl) (by decide) (b := 2) rfl) ?_
    refine r_puti fl_X7_46 fw_X7_6 rfl hm.l0 hm.s0 rfl rfl (dk_at ktX7_told_0 2 rfl) (b := 5) rfl ?_
    refine rc_p (p_aload_n 0 (dk_at ktX7_told_0 3 rfl) rfl rfl (b := 6) rfl) ?_
    refine rc_p (p_iload_n 1 (dk_at ktX7_told_0 4 rfl) rfl rfl (b := 7) rfl) ?_
    refine rc_p (p_i2l (v := (Int32.toInt64 4)) (dk_at ktX7_told_0 5 rfl) rfl (b := 8) rfl) ?_
    refine rc_p (p_lconst (v := 0) (dk_at ktX7_told_0 6 rfl) (by decide) (b := 9) rfl) ?_
    refine rc_p (p_ldc2 (v := 4) ql_TwinBootModel_383 (dk_at ktX7_told_0 7 rfl) (b := 12) rfl) ?_
    refine r_iS (As := [.long (Int32.toInt64 4), .long 0, .long 4]) (rest := [.ref m]) (s_X7_in (Int32.toInt64 4) 0 4) cw_X7_73 qs_X7_in (dk_at ktX7_told_0 8 rfl) rfl rfl (Nat.le_of_ble_eq_true rfl) (by decide) (b := 15) rfl (fun v76 I73 J74 q75 => ?_)
    obtain ⟨rfl, rfl, rfl⟩ := q75
    refine r_val (y := bi (inI 4 0 4)) (congrArg bi (inJ_I 4 0 4)) ?_
    refine r_val (y := 1) (by decide) ?_
    refine r_if_ne (dk_at ktX7_told_0 9 rfl) (b := 22) (by decide) (b2 := 18) rfl (fun c15 => ?_) (fun c15 => ?_)
    · skip
      refine rc_p (p_iconst (v := 0) (dk_at ktX7_told_0 12 rfl) (by decide) (b := 23) rfl) ?_
      refine rc_p (p_iconst (v := 1) (dk_at ktX7_told_0 13 rfl) (by decide) (b := 24) rfl) ?_
      refine r_iV (As' := [.int 0, .int 1]) (rest := []) (s_X7_throwsIf hm (σ := σ) (by rw [up2_off (by omega)]; exact hR) hI up2_s false 1 (by decide)) cw_X7_190 qi_X7_throwsIf qv_X7_throwsIf rfl hm.l0 hm.s0 (dk_at ktX7_told_0 14 rfl) rfl rfl (Nat.le_of_ble_eq_true rfl) (by decide) (b := 27) rfl (fun v80 I77 J78 q79 => ?_)
      obtain ⟨rfl, rfl, hR81, hF82, h683⟩ := q79
      refine r_val (y := 0) rfl ?_
      refine r_if_eq (dk_at ktX7_told_0 15 rfl) (b := 34) (by decide) (b2 := 30) rfl (fun c27 => ?_) (fun c27 => ?_)
      · skip
        refine rc_p (p_aload_n 0 (dk_at ktX7_told_0 18 rfl) rfl rfl (b := 35) rfl) ?_
        refine rc_p (p_iload_n 1 (dk_at ktX7_told_0 19 rfl) rfl rfl (b := 36) rfl) ?_
        refine r_iV (As' := [.int 4]) (rest := []) (s_X7_toldNow hm (σ := σ) hR81 hI 4 (by omega)) cw_X7_385 qi_X7_toldNow qv_X7_toldNow rfl hm.l0 hm.s0 (dk_at ktX7_told_0 20 rfl) rfl rfl (Nat.le_of_ble_eq_true rfl) (by decide) (b := 39) rfl (fun v87 I84 J85 q86 => ?_)
        obtain ⟨rfl, rfl, hR90, hT88, hF89⟩ := q86
        refine r_iret (dk_at ktX7_told_0 21 rfl) rfl rfl ⟨_, rfl, ?_⟩
        refine ⟨fun hz => ?_, ?_, rfl, ?_, (FF.tr (FF.tr (FF.uf FF.rf (by decide)) (hF82.mo (by decide) (by decide))) (hF89.mo (by decide) (by decide)))⟩
        · rfl
        · exact Eq.trans (((hF89.2 6 (by decide))).trans h683) (by first | rfl | decide)
        · exact hR90
      · first | exact absurd c27 (by decide) | exact absurd (by decide) c27
    · first | exact absurd c15 (by decide) | exact absurd (by decide) c15
  · refine Sp.of (by decide) (ls := [(0, .ref m), (1, .int w)]) (fun _ => rfl) (fun _ => Nat.le_of_ble_eq_true rfl) ?_
    refine rc_p (p_aload_n 0 (dk_at ktX7_told_0 0 rfl) rfl rfl (b := 1) rfl) ?_
    refine rc_p (p_iconst (v := 0) (dk_at ktX7_told_0 1 rfl) (by decide) (b := 2) rfl) ?_
    refine r_puti fl_X7_46 fw_X7_6 rfl hm.l0 hm.s0 rfl rfl (dk_at ktX7_told_0 2 rfl) (b := 5) rfl ?_
    refine rc_p (p_aload_n 0 (dk_at ktX7_told_0 3 rfl) rfl rfl (b := 6) rfl) ?_
    refine rc_p (p_iload_n 1 (dk_at ktX7_told_0 4 rfl) rfl rfl (b := 7) rfl) ?_
    refine rc_p (p_i2l (v := (Int32.toInt64 w)) (dk_at ktX7_told_0 5 rfl) rfl (b := 8) rfl) ?_
    refine rc_p (p_lconst (v := 0) (dk_at ktX7_told_0 6 rfl) (by decide) (b := 9) rfl) ?_
    refine rc_p (p_ldc2 (v := 4) ql_TwinBootModel_383 (dk_at ktX7_told_0 7 rfl) (b := 12) rfl) ?_
    refine r_iS (As := [.long (Int32.toInt64 w), .long 0, .long 4]) (rest := [.ref m]) (s_X7_in (Int32.toInt64 w) 0 4) cw_X7_73 qs_X7_in (dk_at ktX7_told_0 8 rfl) rfl rfl (Nat.le_of_ble_eq_true rfl) (by decide) (b := 15) rfl (fun v94 I91 J92 q93 => ?_)
    obtain ⟨rfl, rfl, rfl⟩ := q93
    refine r_val (y := bi (inI w 0 4)) (congrArg bi (inJ_I w 0 4)) ?_
    refine r_val (y := 0) (by rw [hw]; rfl) ?_
    refine r_if_ne (dk_at ktX7_told_0 9 rfl) (b := 22) (by decide) (b2 := 18) rfl (fun c15 => ?_) (fun c15 => ?_)
    · first | exact absurd c15 (by decide) | exact absurd (by decide) c15
    · skip
      refine rc_p (p_iconst (v := 1) (dk_at ktX7_told_0 10 rfl) (by decide) (b := 19) rfl) ?_
      refine rc_p (p_goto (b := 23) (dk_at ktX7_told_0 11 rfl) (by decide)) ?_
      refine rc_p (p_iconst (v := 1) (dk_at ktX7_told_0 13 rfl) (by decide) (b := 24) rfl) ?_
      refine r_iV (As' := [.int 1, .int 1]) (rest := []) (s_X7_throwsIf hm (σ := σ) (by rw [up2_off (by omega)]; exact hR) hI up2_s true 1 (by decide)) cw_X7_190 qi_X7_throwsIf qv_X7_throwsIf rfl hm.l0 hm.s0 (dk_at ktX7_told_0 14 rfl) rfl rfl (Nat.le_of_ble_eq_true rfl) (by decide) (b := 27) rfl (fun v98 I95 J96 q97 => ?_)
      obtain ⟨rfl, rfl, hR99, hF100, h6101⟩ := q97
      refine r_val (y := 1) rfl ?_
      refine r_if_eq (dk_at ktX7_told_0 15 rfl) (b := 34) (by decide) (b2 := 30) rfl (fun c27 => ?_) (fun c27 => ?_)
      · first | exact absurd c27 (by decide) | exact absurd (by decide) c27
      · skip
        refine rc_p (p_iconst (v := 0) (dk_at ktX7_told_0 16 rfl) (by decide) (b := 31) rfl) ?_
        refine rc_p (p_goto (b := 39) (dk_at ktX7_told_0 17 rfl) (by decide)) ?_
        refine r_iret (dk_at ktX7_told_0 21 rfl) rfl rfl ⟨_, rfl, ?_⟩
        refine ⟨fun hz => ?_, ?_, rfl, ?_, (FF.tr (FF.uf FF.rf (by decide)) (hF100.mo (by decide) (by decide)))⟩
        · exact absurd (hz.symm.trans (cIn_f hw)) (by decide)
        · exact Eq.trans h6101 (by exact (cIn_f hw).symm)
        · exact hR99
set_option maxRecDepth 4000 in
set_option maxHeartbeats 4000000 in
theorem s_X7_eventCount {n : Nat} {sh : mS} {G : mG} {I : mI} {J : mJ} {m : Nat} {σ : sT} (hm : ModG n sh G m) (hR : RelW (I (m + 1)) σ) (hI : Inv σ) (e : Int32) : Sp yX7_eventCount cX7_eventCount 2 (some FieldType.int) 2 96 0 0 [.ref m, .int e] n sh G I J (Qi (fun r_ I_ J_ => (cIn e 0 7 = 0 → σ (11 + tn e) = r_) ∧ I_ m 6 = cIn e 0 7 ∧ J = J_ ∧ RelW (I_ (m + 1)) (σ) ∧ FF m [1, 2, 8] [6, 18, 19, 20, 21, 22, 23, 24, 26, 27] I I_)) nX := by
  have hb := hI.bd
  rcases rg_c e 0 7 (by decide) (by decide) with ⟨j, _, hj, rfl⟩ | hw
  · have hib : inI (nI j) 0 7 = true := rg_t (a := 0) (b := 7) (Nat.zero_le _) hj (by decide)
    refine Sp.of (by decide) (ls := [(0, .ref m), (1, .int (nI j))]) (fun _ => rfl) (fun _ => Nat.le_of_ble_eq_true rfl) ?_
    refine rc_p (p_aload_n 0 (dk_at ktX7_eventCount_0 0 rfl) rfl rfl (b := 1) rfl) ?_
    refine rc_p (p_iconst (v := 0) (dk_at ktX7_eventCount_0 1 rfl) (by decide) (b := 2) rfl) ?_
    refine r_puti fl_X7_46 fw_X7_6 rfl hm.l0 hm.s0 rfl rfl (dk_at ktX7_eventCount_0 2 rfl) (b := 5) rfl ?_
    refine rc_p (p_aload_n 0 (dk_at ktX7_eventCount_0 3 rfl) rfl rfl (b := 6) rfl) ?_
    refine rc_p (p_iload_n 1 (dk_at ktX7_eventCount_0 4 rfl) rfl rfl (b := 7) rfl) ?_
    refine rc_p (p_i2l (v := (Int32.toInt64 (nI j))) (dk_at ktX7_eventCount_0 5 rfl) rfl (b := 8) rfl) ?_
    refine rc_p (p_lconst (v := 0) (dk_at ktX7_eventCount_0 6 rfl) (by decide) (b := 9) rfl) ?_
    refine rc_p (p_ldc2 (v := 7) ql_TwinBootModel_413 (dk_at ktX7_eventCount_0 7 rfl) (b := 12) rfl) ?_
    refine r_iS (As := [.long (Int32.toInt64 (nI j)), .long 0, .long 7]) (rest := [.ref m]) (s_X7_in (Int32.toInt64 (nI j)) 0 7) cw_X7_73 qs_X7_in (dk_at ktX7_eventCount_0 8 rfl) rfl rfl (Nat.le_of_ble_eq_true rfl) (by decide) (b := 15) rfl (fun v4 I1 J2 q3 => ?_)
    obtain ⟨rfl, rfl, rfl⟩ := q3
    refine r_val (y := bi (inI (nI j) 0 7)) (congrArg bi (inJ_I (nI j) 0 7)) ?_
    refine r_val (y := 1) (by rw [hib]; rfl) ?_
    refine r_if_ne (dk_at ktX7_eventCount_0 9 rfl) (b := 22) (by decide) (b2 := 18) rfl (fun c15 => ?_) (fun c15 => ?_)
    · skip
      refine rc_p (p_iconst (v := 0) (dk_at ktX7_eventCount_0 12 rfl) (by decide) (b := 23) rfl) ?_
      refine rc_p (p_iconst (v := 1) (dk_at ktX7_eventCount_0 13 rfl) (by decide) (b := 24) rfl) ?_
      refine r_iV (As' := [.int 0, .int 1]) (rest := []) (s_X7_throwsIf hm (σ := σ) (by rw [up2_off (by omega)]; exact hR) hI up2_s false 1 (by decide)) cw_X7_190 qi_X7_throwsIf qv_X7_throwsIf rfl hm.l0 hm.s0 (dk_at ktX7_eventCount_0 14 rfl) rfl rfl (Nat.le_of_ble_eq_true rfl) (by decide) (b := 27) rfl (fun v8 I5 J6 q7 => ?_)
      obtain ⟨rfl, rfl, hR9, hF10, h611⟩ := q7
      refine r_val (y := 0) rfl ?_
      refine r_if_eq (dk_at ktX7_eventCount_0 15 rfl) (b := 34) (by decide) (b2 := 30) rfl (fun c27 => ?_) (fun c27 => ?_)
      · skip
        refine rc_p (p_aload_n 0 (dk_at ktX7_eventCount_0 18 rfl) rfl rfl (b := 35) rfl) ?_
        refine r_geta fl_X7_9 rfl hm.l0 hm.s0 (dk_at ktX7_eventCount_0 19 rfl) hm.g0_0 (b := 38) rfl ?_
        refine rc_p (p_bipush (v := 11) (dk_at ktX7_eventCount_0 20 rfl) (by decide) (b := 40) rfl) ?_
        refine rc_p (p_iload_n 1 (dk_at ktX7_eventCount_0 21 rfl) rfl rfl (b := 41) rfl) ?_
        refine rc_p (p_iadd (v := (nI (11 + j))) (dk_at ktX7_eventCount_0 22 rfl) (nI_add 11 j) (b := 42) rfl) ?_
        refine r_iald (j := 11 + j) (hm.lt 1 (by decide)) hm.s1 (dk_at ktX7_eventCount_0 23 rfl) rfl ⟨by omega, by decide⟩ (v := (σ (11 + j))) (hR9.1 (11 + j) (by omega)) (b := 43) rfl ?_
        refine r_iret (dk_at ktX7_eventCount_0 24 rfl) rfl rfl ⟨_, rfl, ?_⟩
        refine ⟨fun hz => ?_, ?_, rfl, ?_, (FF.tr (FF.uf FF.rf (by decide)) (hF10.mo (by decide) (by decide)))⟩
        · rw [tn_nI (by omega)]
        · exact Eq.trans h611 (by exact (cIn_t hib).symm)
        · exact hR9
      · first | exact absurd c27 (by decide) | exact absurd (by decide) c27
    · first | exact absurd c15 (by decide) | exact absurd (by decide) c15
  · have hw : inI e 0 7 = false := hw
    refine Sp.of (by decide) (ls := [(0, .ref m), (1, .int e)]) (fun _ => rfl) (fun _ => Nat.le_of_ble_eq_true rfl) ?_
    refine rc_p (p_aload_n 0 (dk_at ktX7_eventCount_0 0 rfl) rfl rfl (b := 1) rfl) ?_
    refine rc_p (p_iconst (v := 0) (dk_at ktX7_eventCount_0 1 rfl) (by decide) (b := 2) rfl) ?_
    refine r_puti fl_X7_46 fw_X7_6 rfl hm.l0 hm.s0 rfl rfl (dk_at ktX7_eventCount_0 2 rfl) (b := 5) rfl ?_
    refine rc_p (p_aload_n 0 (dk_at ktX7_eventCount_0 3 rfl) rfl rfl (b := 6) rfl) ?_
    refine rc_p (p_iload_n 1 (dk_at ktX7_eventCount_0 4 rfl) rfl rfl (b := 7) rfl) ?_
    refine rc_p (p_i2l (v := (Int32.toInt64 e)) (dk_at ktX7_eventCount_0 5 rfl) rfl (b := 8) rfl) ?_
    refine rc_p (p_lconst (v := 0) (dk_at ktX7_eventCount_0 6 rfl) (by decide) (b := 9) rfl) ?_
    refine rc_p (p_ldc2 (v := 7) ql_TwinBootModel_413 (dk_at ktX7_eventCount_0 7 rfl) (b := 12) rfl) ?_
    refine r_iS (As := [.long (Int32.toInt64 e), .long 0, .long 7]) (rest := [.ref m]) (s_X7_in (Int32.toInt64 e) 0 7) cw_X7_73 qs_X7_in (dk_at ktX7_eventCount_0 8 rfl) rfl rfl (Nat.le_of_ble_eq_true rfl) (by decide) (b := 15) rfl (fun v15 I12 J13 q14 => ?_)
    obtain ⟨rfl, rfl, rfl⟩ := q14
    refine r_val (y := bi (inI e 0 7)) (congrArg bi (inJ_I e 0 7)) ?_
    refine r_val (y := 0) (by rw [hw]; rfl) ?_
    refine r_if_ne (dk_at ktX7_eventCount_0 9 rfl) (b := 22) (by decide) (b2 := 18) rfl (fun c15 => ?_) (fun c15 => ?_)
    · first | exact absurd c15 (by decide) | exact absurd (by decide) c15
    · skip
      refine rc_p (p_iconst (v := 1) (dk_at ktX7_eventCount_0 10 rfl) (by decide) (b := 19) rfl) ?_
      refine rc_p (p_goto (b := 23) (dk_at ktX7_eventCount_0 11 rfl) (by decide)) ?_
      refine rc_p (p_iconst (v := 1) (dk_at ktX7_eventCount_0 13 rfl) (by decide) (b := 24) rfl) ?_
      refine r_iV (As' := [.int 1, .int 1]) (rest := []) (s_X7_throwsIf hm (σ := σ) (by rw [up2_off (by omega)]; exact hR) hI up2_s true 1 (by decide)) cw_X7_190 qi_X7_throwsIf qv_X7_throwsIf rfl hm.l0 hm.s0 (dk_at ktX7_eventCount_0 14 rfl) rfl rfl (Nat.le_of_ble_eq_true rfl) (by decide) (b := 27) rfl (fun v19 I16 J17 q18 => ?_)
      obtain ⟨rfl, rfl, hR20, hF21, h622⟩ := q18
      refine r_val (y := 1) rfl ?_
      refine r_if_eq (dk_at ktX7_eventCount_0 15 rfl) (b := 34) (by decide) (b2 := 30) rfl (fun c27 => ?_) (fun c27 => ?_)
      · first | exact absurd c27 (by decide) | exact absurd (by decide) c27
      · skip
        refine rc_p (p_iconst (v := 0) (dk_at ktX7_eventCount_0 16 rfl) (by decide) (b := 31) rfl) ?_
        refine rc_p (p_goto (b := 43) (dk_at ktX7_eventCount_0 17 rfl) (by decide)) ?_
        refine r_iret (dk_at ktX7_eventCount_0 24 rfl) rfl rfl ⟨_, rfl, ?_⟩
        refine ⟨fun hz => ?_, ?_, rfl, ?_, (FF.tr (FF.uf FF.rf (by decide)) (hF21.mo (by decide) (by decide)))⟩
        · exact absurd (hz.symm.trans (cIn_f (show inI e 0 7 = false from hw))) (by decide)
        · exact Eq.trans h622 (by exact (cIn_f (show inI e 0 7 = false from hw)).symm)
        · exact hR20
set_option maxRecDepth 4000 in
set_option maxHeartbeats 4000000 in
theorem s_X7_setting {n : Nat} {sh : mS} {G : mG} {I : mI} {J : mJ} {m : Nat} {σ : sT} (hm : ModG n sh G m) (hR : RelW (I (m + 1)) σ) (hI : Inv σ) (w : Int32) : Sp yX7_setting cX7_setting 2 (some FieldType.int) 2 96 0 0 [.ref m, .int w] n sh G I J (Qi (fun r_ I_ J_ => (cIn w 0 5 = 0 → σ (tn w) = r_) ∧ I_ m 6 = cIn w 0 5 ∧ J = J_ ∧ RelW (I_ (m + 1)) (σ) ∧ FF m [1, 2, 8] [6, 18, 19, 20, 21, 22, 23, 24, 26, 27] I I_)) nX := by
  have hb := hI.bd
  rcases st_c w with rfl | rfl | rfl | rfl | rfl | rfl | hw
  · refine Sp.of (by decide) (ls := [(0, .ref m), (1, .int 0)]) (fun _ => rfl) (fun _ => Nat.le_of_ble_eq_true rfl) ?_
    refine rc_p (p_aload_n 0 (dk_at ktX7_setting_0 0 rfl) rfl rfl (b := 1) rfl) ?_
    refine rc_p (p_iconst (v := 0) (dk_at ktX7_setting_0 1 rfl) (by decide) (b := 2) rfl) ?_
    refine r_puti fl_X7_46 fw_X7_6 rfl hm.l0 hm.s0 rfl rfl (dk_at ktX7_setting_0 2 rfl) (b := 5) rfl ?_
    refine rc_p (p_aload_n 0 (dk_at ktX7_setting_0 3 rfl) rfl rfl (b := 6) rfl) ?_
    refine rc_p (p_iload_n 1 (dk_at ktX7_setting_0 4 rfl) rfl rfl (b := 7) rfl) ?_
    refine rc_p (p_i2l (v := (Int32.toInt64 0)) (dk_at ktX7_setting_0 5 rfl) rfl (b := 8) rfl) ?_
    refine rc_p (p_lconst (v := 0) (dk_at ktX7_setting_0 6 rfl) (by decide) (b := 9) rfl) ?_
    refine rc_p (p_ldc2 (v := 5) ql_TwinBootModel_194 (dk_at ktX7_setting_0 7 rfl) (b := 12) rfl) ?_
    refine r_iS (As := [.long (Int32.toInt64 0), .long 0, .long 5]) (rest := [.ref m]) (s_X7_in (Int32.toInt64 0) 0 5) cw_X7_73 qs_X7_in (dk_at ktX7_setting_0 8 rfl) rfl rfl (Nat.le_of_ble_eq_true rfl) (by decide) (b := 15) rfl (fun v4 I1 J2 q3 => ?_)
    obtain ⟨rfl, rfl, rfl⟩ := q3
    refine r_val (y := bi (inI 0 0 5)) (congrArg bi (inJ_I 0 0 5)) ?_
    refine r_val (y := 1) (by decide) ?_
    refine r_if_ne (dk_at ktX7_setting_0 9 rfl) (b := 22) (by decide) (b2 := 18) rfl (fun c15 => ?_) (fun c15 => ?_)
    · skip
      refine rc_p (p_iconst (v := 0) (dk_at ktX7_setting_0 12 rfl) (by decide) (b := 23) rfl) ?_
      refine rc_p (p_iconst (v := 1) (dk_at ktX7_setting_0 13 rfl) (by decide) (b := 24) rfl) ?_
      refine r_iV (As' := [.int 0, .int 1]) (rest := []) (s_X7_throwsIf hm (σ := σ) (by rw [up2_off (by omega)]; exact hR) hI up2_s false 1 (by decide)) cw_X7_190 qi_X7_throwsIf qv_X7_throwsIf rfl hm.l0 hm.s0 (dk_at ktX7_setting_0 14 rfl) rfl rfl (Nat.le_of_ble_eq_true rfl) (by decide) (b := 27) rfl (fun v8 I5 J6 q7 => ?_)
      obtain ⟨rfl, rfl, hR9, hF10, h611⟩ := q7
      refine r_val (y := 0) rfl ?_
      refine r_if_eq (dk_at ktX7_setting_0 15 rfl) (b := 34) (by decide) (b2 := 30) rfl (fun c27 => ?_) (fun c27 => ?_)
      · skip
        refine rc_p (p_aload_n 0 (dk_at ktX7_setting_0 18 rfl) rfl rfl (b := 35) rfl) ?_
        refine r_geta fl_X7_9 rfl hm.l0 hm.s0 (dk_at ktX7_setting_0 19 rfl) hm.g0_0 (b := 38) rfl ?_
        refine rc_p (p_iload_n 1 (dk_at ktX7_setting_0 20 rfl) rfl rfl (b := 39) rfl) ?_
        refine r_iald (j := 0) (hm.lt 1 (by decide)) hm.s1 (dk_at ktX7_setting_0 21 rfl) rfl ⟨by decide, by decide⟩ (v := (σ 0)) ((show RelW (I5 (m + 1)) σ from hR9).1 0 (by decide)) (b := 40) rfl ?_
        refine r_iret (dk_at ktX7_setting_0 22 rfl) rfl rfl ⟨_, rfl, ?_⟩
        refine ⟨fun hz => ?_, ?_, rfl, ?_, (FF.tr (FF.uf FF.rf (by decide)) (hF10.mo (by decide) (by decide)))⟩
        · rfl
        · exact Eq.trans h611 (by first | rfl | decide)
        · exact hR9
      · first | exact absurd c27 (by decide) | exact absurd (by decide) c27
    · first | exact absurd c15 (by decide) | exact absurd (by decide) c15
  · refine Sp.of (by decide) (ls := [(0, .ref m), (1, .int 1)]) (fun _ => rfl) (fun _ => Nat.le_of_ble_eq_true rfl) ?_
    refine rc_p (p_aload_n 0 (dk_at ktX7_setting_0 0 rfl) rfl rfl (b := 1) rfl) ?_
    refine rc_p (p_iconst (v := 0) (dk_at ktX7_setting_0 1 rfl) (by decide) (b := 2) rfl) ?_
    refine r_puti fl_X7_46 fw_X7_6 rfl hm.l0 hm.s0 rfl rfl (dk_at ktX7_setting_0 2 rfl) (b := 5) rfl ?_
    refine rc_p (p_aload_n 0 (dk_at ktX7_setting_0 3 rfl) rfl rfl (b := 6) rfl) ?_
    refine rc_p (p_iload_n 1 (dk_at ktX7_setting_0 4 rfl) rfl rfl (b := 7) rfl) ?_
    refine rc_p (p_i2l (v := (Int32.toInt64 1)) (dk_at ktX7_setting_0 5 rfl) rfl (b := 8) rfl) ?_
    refine rc_p (p_lconst (v := 0) (dk_at ktX7_setting_0 6 rfl) (by decide) (b := 9) rfl) ?_
    refine rc_p (p_ldc2 (v := 5) ql_TwinBootModel_194 (dk_at ktX7_setting_0 7 rfl) (b := 12) rfl) ?_
    refine r_iS (As := [.long (Int32.toInt64 1), .long 0, .long 5]) (rest := [.ref m]) (s_X7_in (Int32.toInt64 1) 0 5) cw_X7_73 qs_X7_in (dk_at ktX7_setting_0 8 rfl) rfl rfl (Nat.le_of_ble_eq_true rfl) (by decide) (b := 15) rfl (fun v15 I12 J13 q14 => ?_)
    obtain ⟨rfl, rfl, rfl⟩ := q14
    refine r_val (y := bi (inI 1 0 5)) (congrArg bi (inJ_I 1 0 5)) ?_
    refine r_val (y := 1) (by decide) ?_
    refine r_if_ne (dk_at ktX7_setting_0 9 rfl) (b := 22) (by decide) (b2 := 18) rfl (fun c15 => ?_) (fun c15 => ?_)
    · skip
      refine rc_p (p_iconst (v := 0) (dk_at ktX7_setting_0 12 rfl) (by decide) (b := 23) rfl) ?_
      refine rc_p (p_iconst (v := 1) (dk_at ktX7_setting_0 13 rfl) (by decide) (b := 24) rfl) ?_
      refine r_iV (As' := [.int 0, .int 1]) (rest := []) (s_X7_throwsIf hm (σ := σ) (by rw [up2_off (by omega)]; exact hR) hI up2_s false 1 (by decide)) cw_X7_190 qi_X7_throwsIf qv_X7_throwsIf rfl hm.l0 hm.s0 (dk_at ktX7_setting_0 14 rfl) rfl rfl (Nat.le_of_ble_eq_true rfl) (by decide) (b := 27) rfl (fun v19 I16 J17 q18 => ?_)
      obtain ⟨rfl, rfl, hR20, hF21, h622⟩ := q18
      refine r_val (y := 0) rfl ?_
      refine r_if_eq (dk_at ktX7_setting_0 15 rfl) (b := 34) (by decide) (b2 := 30) rfl (fun c27 => ?_) (fun c27 => ?_)
      · skip
        refine rc_p (p_aload_n 0 (dk_at ktX7_setting_0 18 rfl) rfl rfl (b := 35) rfl) ?_
        refine r_geta fl_X7_9 rfl hm.l0 hm.s0 (dk_at ktX7_setting_0 19 rfl) hm.g0_0 (b := 38) rfl ?_
        refine rc_p (p_iload_n 1 (dk_at ktX7_setting_0 20 rfl) rfl rfl (b := 39) rfl) ?_
        refine r_iald (j := 1) (hm.lt 1 (by decide)) hm.s1 (dk_at ktX7_setting_0 21 rfl) rfl ⟨by decide, by decide⟩ (v := (σ 1)) ((show RelW (I16 (m + 1)) σ from hR20).1 1 (by decide)) (b := 40) rfl ?_
        refine r_iret (dk_at ktX7_setting_0 22 rfl) rfl rfl ⟨_, rfl, ?_⟩
        refine ⟨fun hz => ?_, ?_, rfl, ?_, (FF.tr (FF.uf FF.rf (by decide)) (hF21.mo (by decide) (by decide)))⟩
        · rfl
        · exact Eq.trans h622 (by first | rfl | decide)
        · exact hR20
      · first | exact absurd c27 (by decide) | exact absurd (by decide) c27
    · first | exact absurd c15 (by decide) | exact absurd (by decide) c15
  · refine Sp.of (by decide) (ls := [(0, .ref m), (1, .int 2)]) (fun _ => rfl) (fun _ => Nat.le_of_ble_eq_true rfl) ?_
    refine rc_p (p_aload_n 0 (dk_at ktX7_setting_0 0 rfl) rfl rfl (b := 1) rfl) ?_
    refine rc_p (p_iconst (v := 0) (dk_at ktX7_setting_0 1 rfl) (by decide) (b := 2) rfl) ?_
    refine r_puti fl_X7_46 fw_X7_6 rfl hm.l0 hm.s0 rfl rfl (dk_at ktX7_setting_0 2 rfl) (b := 5) rfl ?_
    refine rc_p (p_aload_n 0 (dk_at ktX7_setting_0 3 rfl) rfl rfl (b := 6) rfl) ?_
    refine rc_p (p_iload_n 1 (dk_at ktX7_setting_0 4 rfl) rfl rfl (b := 7) rfl) ?_
    refine rc_p (p_i2l (v := (Int32.toInt64 2)) (dk_at ktX7_setting_0 5 rfl) rfl (b := 8) rfl) ?_
    refine rc_p (p_lconst (v := 0) (dk_at ktX7_setting_0 6 rfl) (by decide) (b := 9) rfl) ?_
    refine rc_p (p_ldc2 (v := 5) ql_TwinBootModel_194 (dk_at ktX7_setting_0 7 rfl) (b := 12) rfl) ?_
    refine r_iS (As := [.long (Int32.toInt64 2), .long 0, .long 5]) (rest := [.ref m]) (s_X7_in (Int32.toInt64 2) 0 5) cw_X7_73 qs_X7_in (dk_at ktX7_setting_0 8 rfl) rfl rfl (Nat.le_of_ble_eq_true rfl) (by decide) (b := 15) rfl (fun v26 I23 J24 q25 => ?_)
    obtain ⟨rfl, rfl, rfl⟩ := q25
    refine r_val (y := bi (inI 2 0 5)) (congrArg bi (inJ_I 2 0 5)) ?_
    refine r_val (y := 1) (by decide) ?_
    refine r_if_ne (dk_at ktX7_setting_0 9 rfl) (b := 22) (by decide) (b2 := 18) rfl (fun c15 => ?_) (fun c15 => ?_)
    · skip
      refine rc_p (p_iconst (v := 0) (dk_at ktX7_setting_0 12 rfl) (by decide) (b := 23) rfl) ?_
      refine rc_p (p_iconst (v := 1) (dk_at ktX7_setting_0 13 rfl) (by decide) (b := 24) rfl) ?_
      refine r_iV (As' := [.int 0, .int 1]) (rest := []) (s_X7_throwsIf hm (σ := σ) (by rw [up2_off (by omega)]; exact hR) hI up2_s false 1 (by decide)) cw_X7_190 qi_X7_throwsIf qv_X7_throwsIf rfl hm.l0 hm.s0 (dk_at ktX7_setting_0 14 rfl) rfl rfl (Nat.le_of_ble_eq_true rfl) (by decide) (b := 27) rfl (fun v30 I27 J28 q29 => ?_)
      obtain ⟨rfl, rfl, hR31, hF32, h633⟩ := q29
      refine r_val (y := 0) rfl ?_
      refine r_if_eq (dk_at ktX7_setting_0 15 rfl) (b := 34) (by decide) (b2 := 30) rfl (fun c27 => ?_) (fun c27 => ?_)
      · skip
        refine rc_p (p_aload_n 0 (dk_at ktX7_setting_0 18 rfl) rfl rfl (b := 35) rfl) ?_
        refine r_geta fl_X7_9 rfl hm.l0 hm.s0 (dk_at ktX7_setting_0 19 rfl) hm.g0_0 (b := 38) rfl ?_
        refine rc_p (p_iload_n 1 (dk_at ktX7_setting_0 20 rfl) rfl rfl (b := 39) rfl) ?_
        refine r_iald (j := 2) (hm.lt 1 (by decide)) hm.s1 (dk_at ktX7_setting_0 21 rfl) rfl ⟨by decide, by decide⟩ (v := (σ 2)) ((show RelW (I27 (m + 1)) σ from hR31).1 2 (by decide)) (b := 40) rfl ?_
        refine r_iret (dk_at ktX7_setting_0 22 rfl) rfl rfl ⟨_, rfl, ?_⟩
        refine ⟨fun hz => ?_, ?_, rfl, ?_, (FF.tr (FF.uf FF.rf (by decide)) (hF32.mo (by decide) (by decide)))⟩
        · rfl
        · exact Eq.trans h633 (by first | rfl | decide)
        · exact hR31
      · first | exact absurd c27 (by decide) | exact absurd (by decide) c27
    · first | exact absurd c15 (by decide) | exact absurd (by decide) c15
  · refine Sp.of (by decide) (ls := [(0, .ref m), (1, .int 3)]) (fun _ => rfl) (fun _ => Nat.le_of_ble_eq_true rfl) ?_
    refine rc_p (p_aload_n 0 (dk_at ktX7_setting_0 0 rfl) rfl rfl (b := 1) rfl) ?_
    refine rc_p (p_iconst (v := 0) (dk_at ktX7_setting_0 1 rfl) (by decide) (b := 2) rfl) ?_
    refine r_puti fl_X7_46 fw_X7_6 rfl hm.l0 hm.s0 rfl rfl (dk_at ktX7_setting_0 2 rfl) (b := 5) rfl ?_
    refine rc_p (p_aload_n 0 (dk_at ktX7_setting_0 3 rfl) rfl rfl (b := 6) rfl) ?_
    refine rc_p (p_iload_n 1 (dk_at ktX7_setting_0 4 rfl) rfl rfl (b := 7) rfl) ?_
    refine rc_p (p_i2l (v := (Int32.toInt64 3)) (dk_at ktX7_setting_0 5 rfl) rfl (b := 8) rfl) ?_
    refine rc_p (p_lconst (v := 0) (dk_at ktX7_setting_0 6 rfl) (by decide) (b := 9) rfl) ?_
    refine rc_p (p_ldc2 (v := 5) ql_TwinBootModel_194 (dk_at ktX7_setting_0 7 rfl) (b := 12) rfl) ?_
    refine r_iS (As := [.long (Int32.toInt64 3), .long 0, .long 5]) (rest := [.ref m]) (s_X7_in (Int32.toInt64 3) 0 5) cw_X7_73 qs_X7_in (dk_at ktX7_setting_0 8 rfl) rfl rfl (Nat.le_of_ble_eq_true rfl) (by decide) (b := 15) rfl (fun v37 I34 J35 q36 => ?_)
    obtain ⟨rfl, rfl, rfl⟩ := q36
    refine r_val (y := bi (inI 3 0 5)) (congrArg bi (inJ_I 3 0 5)) ?_
    refine r_val (y := 1) (by decide) ?_
    refine r_if_ne (dk_at ktX7_setting_0 9 rfl) (b := 22) (by decide) (b2 := 18) rfl (fun c15 => ?_) (fun c15 => ?_)
    · skip
      refine rc_p (p_iconst (v := 0) (dk_at ktX7_setting_0 12 rfl) (by decide) (b := 23) rfl) ?_
      refine rc_p (p_iconst (v := 1) (dk_at ktX7_setting_0 13 rfl) (by decide) (b := 24) rfl) ?_
      refine r_iV (As' := [.int 0, .int 1]) (rest := []) (s_X7_throwsIf hm (σ := σ) (by rw [up2_off (by omega)]; exact hR) hI up2_s false 1 (by decide)) cw_X7_190 qi_X7_throwsIf qv_X7_throwsIf rfl hm.l0 hm.s0 (dk_at ktX7_setting_0 14 rfl) rfl rfl (Nat.le_of_ble_eq_true rfl) (by decide) (b := 27) rfl (fun v41 I38 J39 q40 => ?_)
      obtain ⟨rfl, rfl, hR42, hF43, h644⟩ := q40
      refine r_val (y := 0) rfl ?_
      refine r_if_eq (dk_at ktX7_setting_0 15 rfl) (b := 34) (by decide) (b2 := 30) rfl (fun c27 => ?_) (fun c27 => ?_)
      · skip
        refine rc_p (p_aload_n 0 (dk_at ktX7_setting_0 18 rfl) rfl rfl (b := 35) rfl) ?_
        refine r_geta fl_X7_9 rfl hm.l0 hm.s0 (dk_at ktX7_setting_0 19 rfl) hm.g0_0 (b := 38) rfl ?_
        refine rc_p (p_iload_n 1 (dk_at ktX7_setting_0 20 rfl) rfl rfl (b := 39) rfl) ?_
        refine r_iald (j := 3) (hm.lt 1 (by decide)) hm.s1 (dk_at ktX7_setting_0 21 rfl) rfl ⟨by decide, by decide⟩ (v := (σ 3)) ((show RelW (I38 (m + 1)) σ from hR42).1 3 (by decide)) (b := 40) rfl ?_
        refine r_iret (dk_at ktX7_setting_0 22 rfl) rfl rfl ⟨_, rfl, ?_⟩
        refine ⟨fun hz => ?_, ?_, rfl, ?_, (FF.tr (FF.uf FF.rf (by decide)) (hF43.mo (by decide) (by decide)))⟩
        · rfl
        · exact Eq.trans h644 (by first | rfl | decide)
        · exact hR42
      · first | exact absurd c27 (by decide) | exact absurd (by decide) c27
    · first | exact absurd c15 (by decide) | exact absurd (by decide) c15
  · refine Sp.of (by decide) (ls := [(0, .ref m), (1, .int 4)]) (fun _ => rfl) (fun _ => Nat.le_of_ble_eq_true rfl) ?_
    refine rc_p (p_aload_n 0 (dk_at ktX7_setting_0 0 rfl) rfl rfl (b := 1) rfl) ?_
    refine rc_p (p_iconst (v := 0) (dk_at ktX7_setting_0 1 rfl) (by decide) (b := 2) rfl) ?_
    refine r_puti fl_X7_46 fw_X7_6 rfl hm.l0 hm.s0 rfl rfl (dk_at ktX7_setting_0 2 rfl) (b := 5) rfl ?_
    refine rc_p (p_aload_n 0 (dk_at ktX7_setting_0 3 rfl) rfl rfl (b := 6) rfl) ?_
    refine rc_p (p_iload_n 1 (dk_at ktX7_setting_0 4 rfl) rfl rfl (b := 7) rfl) ?_
    refine rc_p (p_i2l (v := (Int32.toInt64 4)) (dk_at ktX7_setting_0 5 rfl) rfl (b := 8) rfl) ?_
    refine rc_p (p_lconst (v := 0) (dk_at ktX7_setting_0 6 rfl) (by decide) (b := 9) rfl) ?_
    refine rc_p (p_ldc2 (v := 5) ql_TwinBootModel_194 (dk_at ktX7_setting_0 7 rfl) (b := 12) rfl) ?_
    refine r_iS (As := [.long (Int32.toInt64 4), .long 0, .long 5]) (rest := [.ref m]) (s_X7_in (Int32.toInt64 4) 0 5) cw_X7_73 qs_X7_in (dk_at ktX7_setting_0 8 rfl) rfl rfl (Nat.le_of_ble_eq_true rfl) (by decide) (b := 15) rfl (fun v48 I45 J46 q47 => ?_)
    obtain ⟨rfl, rfl, rfl⟩ := q47
    refine r_val (y := bi (inI 4 0 5)) (congrArg bi (inJ_I 4 0 5)) ?_
    refine r_val (y := 1) (by decide) ?_
    refine r_if_ne (dk_at ktX7_setting_0 9 rfl) (b := 22) (by decide) (b2 := 18) rfl (fun c15 => ?_) (fun c15 => ?_)
    · skip
      refine rc_p (p_iconst (v := 0) (dk_at ktX7_setting_0 12 rfl) (by decide) (b := 23) rfl) ?_
      refine rc_p (p_iconst (v := 1) (dk_at ktX7_setting_0 13 rfl) (by decide) (b := 24) rfl) ?_
      refine r_iV (As' := [.int 0, .int 1]) (rest := []) (s_X7_throwsIf hm (σ := σ) (by rw [up2_off (by omega)]; exact hR) hI up2_s false 1 (by decide)) cw_X7_190 qi_X7_throwsIf qv_X7_throwsIf rfl hm.l0 hm.s0 (dk_at ktX7_setting_0 14 rfl) rfl rfl (Nat.le_of_ble_eq_true rfl) (by decide) (b := 27) rfl (fun v52 I49 J50 q51 => ?_)
      obtain ⟨rfl, rfl, hR53, hF54, h655⟩ := q51
      refine r_val (y := 0) rfl ?_
      refine r_if_eq (dk_at ktX7_setting_0 15 rfl) (b := 34) (by decide) (b2 := 30) rfl (fun c27 => ?_) (fun c27 => ?_)
      · skip
        refine rc_p (p_aload_n 0 (dk_at ktX7_setting_0 18 rfl) rfl rfl (b := 35) rfl) ?_
        refine r_geta fl_X7_9 rfl hm.l0 hm.s0 (dk_at ktX7_setting_0 19 rfl) hm.g0_0 (b := 38) rfl ?_
        refine rc_p (p_iload_n 1 (dk_at ktX7_setting_0 20 rfl) rfl rfl (b := 39) rfl) ?_
        refine r_iald (j := 4) (hm.lt 1 (by decide)) hm.s1 (dk_at ktX7_setting_0 21 rfl) rfl ⟨by decide, by decide⟩ (v := (σ 4)) ((show RelW (I49 (m + 1)) σ from hR53).1 4 (by decide)) (b := 40) rfl ?_
        refine r_iret (dk_at ktX7_setting_0 22 rfl) rfl rfl ⟨_, rfl, ?_⟩
        refine ⟨fun hz => ?_, ?_, rfl, ?_, (FF.tr (FF.uf FF.rf (by decide)) (hF54.mo (by decide) (by decide)))⟩
        · rfl
        · exact Eq.trans h655 (by first | rfl | decide)
        · exact hR53
      · first | exact absurd c27 (by decide) | exact absurd (by decide) c27
    · first | exact absurd c15 (by decide) | exact absurd (by decide) c15
  · refine Sp.of (by decide) (ls := [(0, .ref m), (1, .int 5)]) (fun _ => rfl) (fun _ => Nat.le_of_ble_eq_true rfl) ?_
    refine rc_p (p_aload_n 0 (dk_at ktX7_setting_0 0 rfl) rfl rfl (b := 1) rfl) ?_
    refine rc_p (p_iconst (v := 0) (dk_at ktX7_setting_0 1 rfl) (by decide) (b := 2) rfl) ?_
    refine r_puti fl_X7_46 fw_X7_6 rfl hm.l0 hm.s0 rfl rfl (dk_at ktX7_setting_0 2 rfl) (b := 5) rfl ?_
    refine rc_p (p_aload_n 0 (dk_at ktX7_setting_0 3 rfl) rfl rfl (b := 6) rfl) ?_
    refine rc_p (p_iload_n 1 (dk_at ktX7_setting_0 4 rfl) rfl rfl (b := 7) rfl) ?_
    refine rc_p (p_i2l (v := (Int32.toInt64 5)) (dk_at ktX7_setting_0 5 rfl) rfl (b := 8) rfl) ?_
    refine rc_p (p_lconst (v := 0) (dk_at ktX7_setting_0 6 rfl) (by decide) (b := 9) rfl) ?_
    refine rc_p (p_ldc2 (v := 5) ql_TwinBootModel_194 (dk_at ktX7_setting_0 7 rfl) (b := 12) rfl) ?_
    refine r_iS (As := [.long (Int32.toInt64 5), .long 0, .long 5]) (rest := [.ref m]) (s_X7_in (Int32.toInt64 5) 0 5) cw_X7_73 qs_X7_in (dk_at ktX7_setting_0 8 rfl) rfl rfl (Nat.le_of_ble_eq_true rfl) (by decide) (b := 15) rfl (fun v59 I56 J57 q58 => ?_)
    obtain ⟨rfl, rfl, rfl⟩ := q58
    refine r_val (y := bi (inI 5 0 5)) (congrArg bi (inJ_I 5 0 5)) ?_
    refine r_val (y := 1) (by decide) ?_
    refine r_if_ne (dk_at ktX7_setting_0 9 rfl) (b := 22) (by decide) (b2 := 18) rfl (fun c15 => ?_) (fun c15 => ?_)
    · skip
      refine rc_p (p_iconst (v := 0) (dk_at ktX7_setting_0 12 rfl) (by decide) (b := 23) rfl) ?_
      refine rc_p (p_iconst (v := 1) (dk_at ktX7_setting_0 13 rfl) (by decide) (b := 24) rfl) ?_
      refine r_iV (As' := [.int 0, .int 1]) (rest := []) (s_X7_throwsIf hm (σ := σ) (by rw [up2_off (by omega)]; exact hR) hI up2_s false 1 (by decide)) cw_X7_190 qi_X7_throwsIf qv_X7_throwsIf rfl hm.l0 hm.s0 (dk_at ktX7_setting_0 14 rfl) rfl rfl (Nat.le_of_ble_eq_true rfl) (by decide) (b := 27) rfl (fun v63 I60 J61 q62 => ?_)
      obtain ⟨rfl, rfl, hR64, hF65, h666⟩ := q62
      refine r_val (y := 0) rfl ?_
      refine r_if_eq (dk_at ktX7_setting_0 15 rfl) (b := 34) (by decide) (b2 := 30) rfl (fun c27 => ?_) (fun c27 => ?_)
      · skip
        refine rc_p (p_aload_n 0 (dk_at ktX7_setting_0 18 rfl) rfl rfl (b := 35) rfl) ?_
        refine r_geta fl_X7_9 rfl hm.l0 hm.s0 (dk_at ktX7_setting_0 19 rfl) hm.g0_0 (b := 38) rfl ?_
        refine rc_p (p_iload_n 1 (dk_at ktX7_setting_0 20 rfl) rfl rfl (b := 39) rfl) ?_
        refine r_iald (j := 5) (hm.lt 1 (by decide)) hm.s1 (dk_at ktX7_setting_0 21 rfl) rfl ⟨by decide, by decide⟩ (v := (σ 5)) ((show RelW (I60 (m + 1)) σ from hR64).1 5 (by decide)) (b := 40) rfl ?_
        refine r_iret (dk_at ktX7_setting_0 22 rfl) rfl rfl ⟨_, rfl, ?_⟩
        refine ⟨fun hz => ?_, ?_, rfl, ?_, (FF.tr (FF.uf FF.rf (by decide)) (hF65.mo (by decide) (by decide)))⟩
        · rfl
        · exact Eq.trans h666 (by first | rfl | decide)
        · exact hR64
      · first | exact absurd c27 (by decide) | exact absurd (by decide) c27
    · first | exact absurd c15 (by decide) | exact absurd (by decide) c15
  · refine Sp.of (by decide) (ls := [(0, .ref m), (1, .int w)]) (fun _ => rfl) (fun _ => Nat.le_of_ble_eq_true rfl) ?_
    refine rc_p (p_aload_n 0 (dk_at ktX7_setting_0 0 rfl) rfl rfl (b := 1) rfl) ?_
    refine rc_p (p_iconst (v := 0) (dk_at ktX7_setting_0 1 rfl) (by decide) (b := 2) rfl) ?_
    refine r_puti fl_X7_46 fw_X7_6 rfl hm.l0 hm.s0 rfl rfl (dk_at ktX7_setting_0 2 rfl) (b := 5) rfl ?_
    refine rc_p (p_aload_n 0 (dk_at ktX7_setting_0 3 rfl) rfl rfl (b := 6) rfl) ?_
    refine rc_p (p_iload_n 1 (dk_at ktX7_setting_0 4 rfl) rfl rfl (b := 7) rfl) ?_
    refine rc_p (p_i2l (v := (Int32.toInt64 w)) (dk_at ktX7_setting_0 5 rfl) rfl (b := 8) rfl) ?_
    refine rc_p (p_lconst (v := 0) (dk_at ktX7_setting_0 6 rfl) (by decide) (b := 9) rfl) ?_
    refine rc_p (p_ldc2 (v := 5) ql_TwinBootModel_194 (dk_at ktX7_setting_0 7 rfl) (b := 12) rfl) ?_
    refine r_iS (As := [.long (Int32.toInt64 w), .long 0, .long 5]) (rest := [.ref m]) (s_X7_in (Int32.toInt64 w) 0 5) cw_X7_73 qs_X7_in (dk_at ktX7_setting_0 8 rfl) rfl rfl (Nat.le_of_ble_eq_true rfl) (by decide) (b := 15) rfl (fun v70 I67 J68 q69 => ?_)
    obtain ⟨rfl, rfl, rfl⟩ := q69
    refine r_val (y := bi (inI w 0 5)) (congrArg bi (inJ_I w 0 5)) ?_
    refine r_val (y := 0) (by rw [hw]; rfl) ?_
    refine r_if_ne (dk_at ktX7_setting_0 9 rfl) (b := 22) (by decide) (b2 := 18) rfl (fun c15 => ?_) (fun c15 => ?_)
    · first | exact absurd c15 (by decide) | exact absurd (by decide) c15
    · skip
      refine rc_p (p_iconst (v := 1) (dk_at ktX7_setting_0 10 rfl) (by decide) (b := 19) rfl) ?_
      refine rc_p (p_goto (b := 23) (dk_at ktX7_setting_0 11 rfl) (by decide)) ?_
      refine rc_p (p_iconst (v := 1) (dk_at ktX7_setting_0 13 rfl) (by decide) (b := 24) rfl) ?_
      refine r_iV (As' := [.int 1, .int 1]) (rest := []) (s_X7_throwsIf hm (σ := σ) (by rw [up2_off (by omega)]; exact hR) hI up2_s true 1 (by decide)) cw_X7_190 qi_X7_throwsIf qv_X7_throwsIf rfl hm.l0 hm.s0 (dk_at ktX7_setting_0 14 rfl) rfl rfl (Nat.le_of_ble_eq_true rfl) (by decide) (b := 27) rfl (fun v74 I71 J72 q73 => ?_)
      obtain ⟨rfl, rfl, hR75, hF76, h677⟩ := q73
      refine r_val (y := 1) rfl ?_
      refine r_if_eq (dk_at ktX7_setting_0 15 rfl) (b := 34) (by decide) (b2 := 30) rfl (fun c27 => ?_) (fun c27 => ?_)
      · first | exact absurd c27 (by decide) | exact absurd (by decide) c27
      · skip
        refine rc_p (p_iconst (v := 0) (dk_at ktX7_setting_0 16 rfl) (by decide) (b := 31) rfl) ?_
        refine rc_p (p_goto (b := 40) (dk_at ktX7_setting_0 17 rfl) (by decide)) ?_
        refine r_iret (dk_at ktX7_setting_0 22 rfl) rfl rfl ⟨_, rfl, ?_⟩
        refine ⟨fun hz => ?_, ?_, rfl, ?_, (FF.tr (FF.uf FF.rf (by decide)) (hF76.mo (by decide) (by decide)))⟩
        · exact absurd (hz.symm.trans (cIn_f hw)) (by decide)
        · exact Eq.trans h677 (by exact (cIn_f hw).symm)
        · exact hR75
set_option maxRecDepth 4000 in
set_option maxHeartbeats 4000000 in
theorem s_X7_logEntry {n : Nat} {sh : mS} {G : mG} {I : mI} {J : mJ} {m : Nat} {σ : sT} (hm : ModG n sh G m) (hR : RelW (I (m + 1)) σ) (hI : Inv σ) (i w : Int32) : Sp yX7_logEntry cX7_logEntry 3 (some FieldType.int) 2 96 0 0 [.ref m, .int i, .int w] n sh G I J (Qi (fun r_ I_ J_ => (cIn w 0 2 = 0 → a_entry σ i w = r_) ∧ I_ m 6 = cIn w 0 2 ∧ J = J_ ∧ RelW (I_ (m + 1)) (σ) ∧ FF m [1, 2, 8] [6, 18, 19, 20, 21, 22, 23, 24, 26, 27] I I_)) nX := by
  have hb := hI.bd
  rcases ar_c w with rfl | rfl | rfl | hw <;> rcases inb_c i (nL σ) (by omega) with ⟨j, hj, rfl⟩ | hi
  · have hib : inI (nI j) 0 (nI (nL σ) - 1) = true := (inb_inI (by omega)).trans (inb_t hj (by omega))
    refine Sp.of (by decide) (ls := [(0, .ref m), (1, .int (nI j)), (2, .int 0)]) (fun _ => rfl) (fun _ => Nat.le_of_ble_eq_true rfl) ?_
    refine rc_p (p_aload_n 0 (dk_at ktX7_logEntry_0 0 rfl) rfl rfl (b := 1) rfl) ?_
    refine rc_p (p_iconst (v := 0) (dk_at ktX7_logEntry_0 1 rfl) (by decide) (b := 2) rfl) ?_
    refine r_puti fl_X7_46 fw_X7_6 rfl hm.l0 hm.s0 rfl rfl (dk_at ktX7_logEntry_0 2 rfl) (b := 5) rfl ?_
    refine rc_p (p_aload_n 0 (dk_at ktX7_logEntry_0 3 rfl) rfl rfl (b := 6) rfl) ?_
    refine rc_p (p_iload_n 2 (dk_at ktX7_logEntry_0 4 rfl) rfl rfl (b := 7) rfl) ?_
    refine rc_p (p_i2l (v := (Int32.toInt64 0)) (dk_at ktX7_logEntry_0 5 rfl) rfl (b := 8) rfl) ?_
    refine rc_p (p_lconst (v := 0) (dk_at ktX7_logEntry_0 6 rfl) (by decide) (b := 9) rfl) ?_
    refine rc_p (p_ldc2 (v := 2) ql_TwinBootModel_214 (dk_at ktX7_logEntry_0 7 rfl) (b := 12) rfl) ?_
    refine r_iS (As := [.long (Int32.toInt64 0), .long 0, .long 2]) (rest := [.ref m]) (s_X7_in (Int32.toInt64 0) 0 2) cw_X7_73 qs_X7_in (dk_at ktX7_logEntry_0 8 rfl) rfl rfl (Nat.le_of_ble_eq_true rfl) (by decide) (b := 15) rfl (fun v4 I1 J2 q3 => ?_)
    obtain ⟨rfl, rfl, rfl⟩ := q3
    refine r_val (y := bi (inI 0 0 2)) (congrArg bi (inJ_I 0 0 2)) ?_
    refine r_val (y := 1) (by decide) ?_
    refine r_if_ne (dk_at ktX7_logEntry_0 9 rfl) (b := 22) (by decide) (b2 := 18) rfl (fun c15 => ?_) (fun c15 => ?_)
    · skip
      refine rc_p (p_iconst (v := 0) (dk_at ktX7_logEntry_0 12 rfl) (by decide) (b := 23) rfl) ?_
      refine rc_p (p_iconst (v := 1) (dk_at ktX7_logEntry_0 13 rfl) (by decide) (b := 24) rfl) ?_
      refine r_iV (As' := [.int 0, .int 1]) (rest := []) (s_X7_throwsIf hm (σ := σ) (by rw [up2_off (by omega)]; exact hR) hI up2_s false 1 (by decide)) cw_X7_190 qi_X7_throwsIf qv_X7_throwsIf rfl hm.l0 hm.s0 (dk_at ktX7_logEntry_0 14 rfl) rfl rfl (Nat.le_of_ble_eq_true rfl) (by decide) (b := 27) rfl (fun v8 I5 J6 q7 => ?_)
      obtain ⟨rfl, rfl, hR9, hF10, h611⟩ := q7
      refine r_val (y := 0) rfl ?_
      refine r_if_eq (dk_at ktX7_logEntry_0 15 rfl) (b := 32) (by decide) (b2 := 30) rfl (fun c27 => ?_) (fun c27 => ?_)
      · skip
        refine rc_p (p_iload_n 1 (dk_at ktX7_logEntry_0 18 rfl) rfl rfl (b := 33) rfl) ?_
        refine rc_p (p_i2l (v := (Int32.toInt64 (nI j))) (dk_at ktX7_logEntry_0 19 rfl) rfl (b := 34) rfl) ?_
        refine rc_p (p_lconst (v := 0) (dk_at ktX7_logEntry_0 20 rfl) (by decide) (b := 35) rfl) ?_
        refine rc_p (p_aload_n 0 (dk_at ktX7_logEntry_0 21 rfl) rfl rfl (b := 36) rfl) ?_
        refine r_geta fl_X7_9 rfl hm.l0 hm.s0 (dk_at ktX7_logEntry_0 22 rfl) hm.g0_0 (b := 39) rfl ?_
        refine rc_p (p_bipush (v := 10) (dk_at ktX7_logEntry_0 23 rfl) (by decide) (b := 41) rfl) ?_
        refine r_iald (j := 10) (hm.lt 1 (by decide)) hm.s1 (dk_at ktX7_logEntry_0 24 rfl) rfl ⟨by decide, by decide⟩ (v := (nI (nL σ))) ((hR9.1 10 (by decide)).trans hI.w10) (b := 42) rfl ?_
        refine rc_p (p_iconst (v := 1) (dk_at ktX7_logEntry_0 25 rfl) (by decide) (b := 43) rfl) ?_
        refine rc_p (p_isub (v := ((nI (nL σ)) - 1)) (dk_at ktX7_logEntry_0 26 rfl) rfl (b := 44) rfl) ?_
        refine rc_p (p_i2l (v := (Int32.toInt64 ((nI (nL σ)) - 1))) (dk_at ktX7_logEntry_0 27 rfl) rfl (b := 45) rfl) ?_
        refine r_iS (As := [.long (Int32.toInt64 (nI j)), .long 0, .long (Int32.toInt64 ((nI (nL σ)) - 1))]) (rest := []) (s_X7_in (Int32.toInt64 (nI j)) 0 (Int32.toInt64 ((nI (nL σ)) - 1))) cw_X7_73 qs_X7_in (dk_at ktX7_logEntry_0 28 rfl) rfl rfl (Nat.le_of_ble_eq_true rfl) (by decide) (b := 48) rfl (fun v15 I12 J13 q14 => ?_)
        obtain ⟨rfl, rfl, rfl⟩ := q14
        refine r_val (y := bi (inI (nI j) 0 ((nI (nL σ)) - 1))) (congrArg bi (inJ_I (nI j) 0 ((nI (nL σ)) - 1))) ?_
        refine r_val (y := 1) (by rw [hib]; rfl) ?_
        refine r_if_eq (dk_at ktX7_logEntry_0 29 rfl) (b := 68) (by decide) (b2 := 51) rfl (fun c48 => ?_) (fun c48 => ?_)
        · first | exact absurd c48 (by decide) | exact absurd (by decide) c48
        · skip
          refine rc_p (p_aload_n 0 (dk_at ktX7_logEntry_0 30 rfl) rfl rfl (b := 52) rfl) ?_
          refine r_geta fl_X7_9 rfl hm.l0 hm.s0 (dk_at ktX7_logEntry_0 31 rfl) hm.g0_0 (b := 55) rfl ?_
          refine rc_p (p_sipush (v := 309) (dk_at ktX7_logEntry_0 32 rfl) (by decide) (b := 58) rfl) ?_
          refine rc_p (p_iconst (v := 3) (dk_at ktX7_logEntry_0 33 rfl) (by decide) (b := 59) rfl) ?_
          refine rc_p (p_iload_n 1 (dk_at ktX7_logEntry_0 34 rfl) rfl rfl (b := 60) rfl) ?_
          refine rc_p (p_imul (v := (nI (3 * j))) (dk_at ktX7_logEntry_0 35 rfl) (pk_mul 3 j) (b := 61) rfl) ?_
          refine rc_p (p_iadd (v := (nI (309 + (3 * j)))) (dk_at ktX7_logEntry_0 36 rfl) (nI_add 309 (3 * j)) (b := 62) rfl) ?_
          refine rc_p (p_iload_n 2 (dk_at ktX7_logEntry_0 37 rfl) rfl rfl (b := 63) rfl) ?_
          refine rc_p (p_iadd (v := (nI (309 + (3 * j)))) (dk_at ktX7_logEntry_0 38 rfl) (nI_add (309 + (3 * j)) 0) (b := 64) rfl) ?_
          refine r_iald (j := 309 + (3 * j)) (hm.lt 1 (by decide)) hm.s1 (dk_at ktX7_logEntry_0 39 rfl) rfl ⟨by omega, by decide⟩ (v := (σ (1000 + 3 * (nL σ - 1 - j) + 0))) (wmap (show RelW (I5 (m + 1)) σ from hR9) hj (by decide : 0 < 3)) (b := 65) rfl ?_
          refine rc_p (p_goto (b := 69) (dk_at ktX7_logEntry_0 40 rfl) (by decide)) ?_
          refine r_iret (dk_at ktX7_logEntry_0 42 rfl) rfl rfl ⟨_, rfl, ?_⟩
          refine ⟨fun hz => ?_, ?_, rfl, ?_, (FF.tr (FF.uf FF.rf (by decide)) (hF10.mo (by decide) (by decide)))⟩
          · unfold a_entry; rw [if_pos (inb_t hj (by omega)), tn_nI (by omega)]; first | done | rfl
          · exact Eq.trans h611 (by first | rfl | decide)
          · exact hR9
      · first | exact absurd c27 (by decide) | exact absurd (by decide) c27
    · first | exact absurd c15 (by decide) | exact absurd (by decide) c15
  · have hib : inI i 0 (nI (nL σ) - 1) = false := (inb_inI (by omega)).trans hi
    refine Sp.of (by decide) (ls := [(0, .ref m), (1, .int i), (2, .int 0)]) (fun _ => rfl) (fun _ => Nat.le_of_ble_eq_true rfl) ?_
    refine rc_p (p_aload_n 0 (dk_at ktX7_logEntry_0 0 rfl) rfl rfl (b := 1) rfl) ?_
    refine rc_p (p_iconst (v := 0) (dk_at ktX7_logEntry_0 1 rfl) (by decide) (b := 2) rfl) ?_
    refine r_puti fl_X7_46 fw_X7_6 rfl hm.l0 hm.s0 rfl rfl (dk_at ktX7_logEntry_0 2 rfl) (b := 5) rfl ?_
    refine rc_p (p_aload_n 0 (dk_at ktX7_logEntry_0 3 rfl) rfl rfl (b := 6) rfl) ?_
    refine rc_p (p_iload_n 2 (dk_at ktX7_logEntry_0 4 rfl) rfl rfl (b := 7) rfl) ?_
    refine rc_p (p_i2l (v := (Int32.toInt64 0)) (dk_at ktX7_logEntry_0 5 rfl) rfl (b := 8) rfl) ?_
    refine rc_p (p_lconst (v := 0) (dk_at ktX7_logEntry_0 6 rfl) (by decide) (b := 9) rfl) ?_
    refine rc_p (p_ldc2 (v := 2) ql_TwinBootModel_214 (dk_at ktX7_logEntry_0 7 rfl) (b := 12) rfl) ?_
    refine r_iS (As := [.long (Int32.toInt64 0), .long 0, .long 2]) (rest := [.ref m]) (s_X7_in (Int32.toInt64 0) 0 2) cw_X7_73 qs_X7_in (dk_at ktX7_logEntry_0 8 rfl) rfl rfl (Nat.le_of_ble_eq_true rfl) (by decide) (b := 15) rfl (fun v19 I16 J17 q18 => ?_)
    obtain ⟨rfl, rfl, rfl⟩ := q18
    refine r_val (y := bi (inI 0 0 2)) (congrArg bi (inJ_I 0 0 2)) ?_
    refine r_val (y := 1) (by decide) ?_
    refine r_if_ne (dk_at ktX7_logEntry_0 9 rfl) (b := 22) (by decide) (b2 := 18) rfl (fun c15 => ?_) (fun c15 => ?_)
    · skip
      refine rc_p (p_iconst (v := 0) (dk_at ktX7_logEntry_0 12 rfl) (by decide) (b := 23) rfl) ?_
      refine rc_p (p_iconst (v := 1) (dk_at ktX7_logEntry_0 13 rfl) (by decide) (b := 24) rfl) ?_
      refine r_iV (As' := [.int 0, .int 1]) (rest := []) (s_X7_throwsIf hm (σ := σ) (by rw [up2_off (by omega)]; exact hR) hI up2_s false 1 (by decide)) cw_X7_190 qi_X7_throwsIf qv_X7_throwsIf rfl hm.l0 hm.s0 (dk_at ktX7_logEntry_0 14 rfl) rfl rfl (Nat.le_of_ble_eq_true rfl) (by decide) (b := 27) rfl (fun v23 I20 J21 q22 => ?_)
      obtain ⟨rfl, rfl, hR24, hF25, h626⟩ := q22
      refine r_val (y := 0) rfl ?_
      refine r_if_eq (dk_at ktX7_logEntry_0 15 rfl) (b := 32) (by decide) (b2 := 30) rfl (fun c27 => ?_) (fun c27 => ?_)
      · skip
        refine rc_p (p_iload_n 1 (dk_at ktX7_logEntry_0 18 rfl) rfl rfl (b := 33) rfl) ?_
        refine rc_p (p_i2l (v := (Int32.toInt64 i)) (dk_at ktX7_logEntry_0 19 rfl) rfl (b := 34) rfl) ?_
        refine rc_p (p_lconst (v := 0) (dk_at ktX7_logEntry_0 20 rfl) (by decide) (b := 35) rfl) ?_
        refine rc_p (p_aload_n 0 (dk_at ktX7_logEntry_0 21 rfl) rfl rfl (b := 36) rfl) ?_
        refine r_geta fl_X7_9 rfl hm.l0 hm.s0 (dk_at ktX7_logEntry_0 22 rfl) hm.g0_0 (b := 39) rfl ?_
        refine rc_p (p_bipush (v := 10) (dk_at ktX7_logEntry_0 23 rfl) (by decide) (b := 41) rfl) ?_
        refine r_iald (j := 10) (hm.lt 1 (by decide)) hm.s1 (dk_at ktX7_logEntry_0 24 rfl) rfl ⟨by decide, by decide⟩ (v := (nI (nL σ))) ((hR24.1 10 (by decide)).trans hI.w10) (b := 42) rfl ?_
        refine rc_p (p_iconst (v := 1) (dk_at ktX7_logEntry_0 25 rfl) (by decide) (b := 43) rfl) ?_
        refine rc_p (p_isub (v := ((nI (nL σ)) - 1)) (dk_at ktX7_logEntry_0 26 rfl) rfl (b := 44) rfl) ?_
        refine rc_p (p_i2l (v := (Int32.toInt64 ((nI (nL σ)) - 1))) (dk_at ktX7_logEntry_0 27 rfl) rfl (b := 45) rfl) ?_
        refine r_iS (As := [.long (Int32.toInt64 i), .long 0, .long (Int32.toInt64 ((nI (nL σ)) - 1))]) (rest := []) (s_X7_in (Int32.toInt64 i) 0 (Int32.toInt64 ((nI (nL σ)) - 1))) cw_X7_73 qs_X7_in (dk_at ktX7_logEntry_0 28 rfl) rfl rfl (Nat.le_of_ble_eq_true rfl) (by decide) (b := 48) rfl (fun v30 I27 J28 q29 => ?_)
        obtain ⟨rfl, rfl, rfl⟩ := q29
        refine r_val (y := bi (inI i 0 ((nI (nL σ)) - 1))) (congrArg bi (inJ_I i 0 ((nI (nL σ)) - 1))) ?_
        refine r_val (y := 0) (by rw [hib]; rfl) ?_
        refine r_if_eq (dk_at ktX7_logEntry_0 29 rfl) (b := 68) (by decide) (b2 := 51) rfl (fun c48 => ?_) (fun c48 => ?_)
        · skip
          refine rc_p (p_iconst (v := (-1)) (dk_at ktX7_logEntry_0 41 rfl) (by decide) (b := 69) rfl) ?_
          refine r_iret (dk_at ktX7_logEntry_0 42 rfl) rfl rfl ⟨_, rfl, ?_⟩
          refine ⟨fun hz => ?_, ?_, rfl, ?_, (FF.tr (FF.uf FF.rf (by decide)) (hF25.mo (by decide) (by decide)))⟩
          · unfold a_entry; rw [if_neg (by rw [hi]; decide)]
          · exact Eq.trans h626 (by first | rfl | decide)
          · exact hR24
        · first | exact absurd c48 (by decide) | exact absurd (by decide) c48
      · first | exact absurd c27 (by decide) | exact absurd (by decide) c27
    · first | exact absurd c15 (by decide) | exact absurd (by decide) c15
  · have hib : inI (nI j) 0 (nI (nL σ) - 1) = true := (inb_inI (by omega)).trans (inb_t hj (by omega))
    refine Sp.of (by decide) (ls := [(0, .ref m), (1, .int (nI j)), (2, .int 1)]) (fun _ => rfl) (fun _ => Nat.le_of_ble_eq_true rfl) ?_
    refine rc_p (p_aload_n 0 (dk_at ktX7_logEntry_0 0 rfl) rfl rfl (b := 1) rfl) ?_
    refine rc_p (p_iconst (v := 0) (dk_at ktX7_logEntry_0 1 rfl) (by decide) (b := 2) rfl) ?_
    refine r_puti fl_X7_46 fw_X7_6 rfl hm.l0 hm.s0 rfl rfl (dk_at ktX7_logEntry_0 2 rfl) (b := 5) rfl ?_
    refine rc_p (p_aload_n 0 (dk_at ktX7_logEntry_0 3 rfl) rfl rfl (b := 6) rfl) ?_
    refine rc_p (p_iload_n 2 (dk_at ktX7_logEntry_0 4 rfl) rfl rfl (b := 7) rfl) ?_
    refine rc_p (p_i2l (v := (Int32.toInt64 1)) (dk_at ktX7_logEntry_0 5 rfl) rfl (b := 8) rfl) ?_
    refine rc_p (p_lconst (v := 0) (dk_at ktX7_logEntry_0 6 rfl) (by decide) (b := 9) rfl) ?_
    refine rc_p (p_ldc2 (v := 2) ql_TwinBootModel_214 (dk_at ktX7_logEntry_0 7 rfl) (b := 12) rfl) ?_
    refine r_iS (As := [.long (Int32.toInt64 1), .long 0, .long 2]) (rest := [.ref m]) (s_X7_in (Int32.toInt64 1) 0 2) cw_X7_73 qs_X7_in (dk_at ktX7_logEntry_0 8 rfl) rfl rfl (Nat.le_of_ble_eq_true rfl) (by decide) (b := 15) rfl (fun v34 I31 J32 q33 => ?_)
    obtain ⟨rfl, rfl, rfl⟩ := q33
    refine r_val (y := bi (inI 1 0 2)) (congrArg bi (inJ_I 1 0 2)) ?_
    refine r_val (y := 1) (by decide) ?_
    refine r_if_ne (dk_at ktX7_logEntry_0 9 rfl) (b := 22) (by decide) (b2 := 18) rfl (fun c15 => ?_) (fun c15 => ?_)
    · skip
      refine rc_p (p_iconst (v := 0) (dk_at ktX7_logEntry_0 12 rfl) (by decide) (b := 23) rfl) ?_
      refine rc_p (p_iconst (v := 1) (dk_at ktX7_logEntry_0 13 rfl) (by decide) (b := 24) rfl) ?_
      refine r_iV (As' := [.int 0, .int 1]) (rest := []) (s_X7_throwsIf hm (σ := σ) (by rw [up2_off (by omega)]; exact hR) hI up2_s false 1 (by decide)) cw_X7_190 qi_X7_throwsIf qv_X7_throwsIf rfl hm.l0 hm.s0 (dk_at ktX7_logEntry_0 14 rfl) rfl rfl (Nat.le_of_ble_eq_true rfl) (by decide) (b := 27) rfl (fun v38 I35 J36 q37 => ?_)
      obtain ⟨rfl, rfl, hR39, hF40, h641⟩ := q37
      refine r_val (y := 0) rfl ?_
      refine r_if_eq (dk_at ktX7_logEntry_0 15 rfl) (b := 32) (by decide) (b2 := 30) rfl (fun c27 => ?_) (fun c27 => ?_)
      · skip
        refine rc_p (p_iload_n 1 (dk_at ktX7_logEntry_0 18 rfl) rfl rfl (b := 33) rfl) ?_
        refine rc_p (p_i2l (v := (Int32.toInt64 (nI j))) (dk_at ktX7_logEntry_0 19 rfl) rfl (b := 34) rfl) ?_
        refine rc_p (p_lconst (v := 0) (dk_at ktX7_logEntry_0 20 rfl) (by decide) (b := 35) rfl) ?_
        refine rc_p (p_aload_n 0 (dk_at ktX7_logEntry_0 21 rfl) rfl rfl (b := 36) rfl) ?_
        refine r_geta fl_X7_9 rfl hm.l0 hm.s0 (dk_at ktX7_logEntry_0 22 rfl) hm.g0_0 (b := 39) rfl ?_
        refine rc_p (p_bipush (v := 10) (dk_at ktX7_logEntry_0 23 rfl) (by decide) (b := 41) rfl) ?_
        refine r_iald (j := 10) (hm.lt 1 (by decide)) hm.s1 (dk_at ktX7_logEntry_0 24 rfl) rfl ⟨by decide, by decide⟩ (v := (nI (nL σ))) ((hR39.1 10 (by decide)).trans hI.w10) (b := 42) rfl ?_
        refine rc_p (p_iconst (v := 1) (dk_at ktX7_logEntry_0 25 rfl) (by decide) (b := 43) rfl) ?_
        refine rc_p (p_isub (v := ((nI (nL σ)) - 1)) (dk_at ktX7_logEntry_0 26 rfl) rfl (b := 44) rfl) ?_
        refine rc_p (p_i2l (v := (Int32.toInt64 ((nI (nL σ)) - 1))) (dk_at ktX7_logEntry_0 27 rfl) rfl (b := 45) rfl) ?_
        refine r_iS (As := [.long (Int32.toInt64 (nI j)), .long 0, .long (Int32.toInt64 ((nI (nL σ)) - 1))]) (rest := []) (s_X7_in (Int32.toInt64 (nI j)) 0 (Int32.toInt64 ((nI (nL σ)) - 1))) cw_X7_73 qs_X7_in (dk_at ktX7_logEntry_0 28 rfl) rfl rfl (Nat.le_of_ble_eq_true rfl) (by decide) (b := 48) rfl (fun v45 I42 J43 q44 => ?_)
        obtain ⟨rfl, rfl, rfl⟩ := q44
        refine r_val (y := bi (inI (nI j) 0 ((nI (nL σ)) - 1))) (congrArg bi (inJ_I (nI j) 0 ((nI (nL σ)) - 1))) ?_
        refine r_val (y := 1) (by rw [hib]; rfl) ?_
        refine r_if_eq (dk_at ktX7_logEntry_0 29 rfl) (b := 68) (by decide) (b2 := 51) rfl (fun c48 => ?_) (fun c48 => ?_)
        · first | exact absurd c48 (by decide) | exact absurd (by decide) c48
        · skip
          refine rc_p (p_aload_n 0 (dk_at ktX7_logEntry_0 30 rfl) rfl rfl (b := 52) rfl) ?_
          refine r_geta fl_X7_9 rfl hm.l0 hm.s0 (dk_at ktX7_logEntry_0 31 rfl) hm.g0_0 (b := 55) rfl ?_
          refine rc_p (p_sipush (v := 309) (dk_at ktX7_logEntry_0 32 rfl) (by decide) (b := 58) rfl) ?_
          refine rc_p (p_iconst (v := 3) (dk_at ktX7_logEntry_0 33 rfl) (by decide) (b := 59) rfl) ?_
          refine rc_p (p_iload_n 1 (dk_at ktX7_logEntry_0 34 rfl) rfl rfl (b := 60) rfl) ?_
          refine rc_p (p_imul (v := (nI (3 * j))) (dk_at ktX7_logEntry_0 35 rfl) (pk_mul 3 j) (b := 61) rfl) ?_
          refine rc_p (p_iadd (v := (nI (309 + (3 * j)))) (dk_at ktX7_logEntry_0 36 rfl) (nI_add 309 (3 * j)) (b := 62) rfl) ?_
          refine rc_p (p_iload_n 2 (dk_at ktX7_logEntry_0 37 rfl) rfl rfl (b := 63) rfl) ?_
          refine rc_p (p_iadd (v := (nI (309 + (3 * j) + 1))) (dk_at ktX7_logEntry_0 38 rfl) (nI_add (309 + (3 * j)) 1) (b := 64) rfl) ?_
          refine r_iald (j := 309 + (3 * j) + 1) (hm.lt 1 (by decide)) hm.s1 (dk_at ktX7_logEntry_0 39 rfl) rfl ⟨by omega, by decide⟩ (v := (σ (1000 + 3 * (nL σ - 1 - j) + 1))) (wmap (show RelW (I35 (m + 1)) σ from hR39) hj (by decide : 1 < 3)) (b := 65) rfl ?_
          refine rc_p (p_goto (b := 69) (dk_at ktX7_logEntry_0 40 rfl) (by decide)) ?_
          refine r_iret (dk_at ktX7_logEntry_0 42 rfl) rfl rfl ⟨_, rfl, ?_⟩
          refine ⟨fun hz => ?_, ?_, rfl, ?_, (FF.tr (FF.uf FF.rf (by decide)) (hF40.mo (by decide) (by decide)))⟩
          · unfold a_entry; rw [if_pos (inb_t hj (by omega)), tn_nI (by omega)]; first | done | rfl
          · exact Eq.trans h641 (by first | rfl | decide)
          · exact hR39
      · first | exact absurd c27 (by decide) | exact absurd (by decide) c27
    · first | exact absurd c15 (by decide) | exact absurd (by decide) c15
  · have hib : inI i 0 (nI (nL σ) - 1) = false := (inb_inI (by omega)).trans hi
    refine Sp.of (by decide) (ls := [(0, .ref m), (1, .int i), (2, .int 1)]) (fun _ => rfl) (fun _ => Nat.le_of_ble_eq_true rfl) ?_
    refine rc_p (p_aload_n 0 (dk_at ktX7_logEntry_0 0 rfl) rfl rfl (b := 1) rfl) ?_
    refine rc_p (p_iconst (v := 0) (dk_at ktX7_logEntry_0 1 rfl) (by decide) (b := 2) rfl) ?_
    refine r_puti fl_X7_46 fw_X7_6 rfl hm.l0 hm.s0 rfl rfl (dk_at ktX7_logEntry_0 2 rfl) (b := 5) rfl ?_
    refine rc_p (p_aload_n 0 (dk_at ktX7_logEntry_0 3 rfl) rfl rfl (b := 6) rfl) ?_
    refine rc_p (p_iload_n 2 (dk_at ktX7_logEntry_0 4 rfl) rfl rfl (b := 7) rfl) ?_
    refine rc_p (p_i2l (v := (Int32.toInt64 1)) (dk_at ktX7_logEntry_0 5 rfl) rfl (b := 8) rfl) ?_
    refine rc_p (p_lconst (v := 0) (dk_at ktX7_logEntry_0 6 rfl) (by decide) (b := 9) rfl) ?_
    refine rc_p (p_ldc2 (v := 2) ql_TwinBootModel_214 (dk_at ktX7_logEntry_0 7 rfl) (b := 12) rfl) ?_
    refine r_iS (As := [.long (Int32.toInt64 1), .long 0, .long 2]) (rest := [.ref m]) (s_X7_in (Int32.toInt64 1) 0 2) cw_X7_73 qs_X7_in (dk_at ktX7_logEntry_0 8 rfl) rfl rfl (Nat.le_of_ble_eq_true rfl) (by decide) (b := 15) rfl (fun v49 I46 J47 q48 => ?_)
    obtain ⟨rfl, rfl, rfl⟩ := q48
    refine r_val (y := bi (inI 1 0 2)) (congrArg bi (inJ_I 1 0 2)) ?_
    refine r_val (y := 1) (by decide) ?_
    refine r_if_ne (dk_at ktX7_logEntry_0 9 rfl) (b := 22) (by decide) (b2 := 18) rfl (fun c15 => ?_) (fun c15 => ?_)
    · skip
      refine rc_p (p_iconst (v := 0) (dk_at ktX7_logEntry_0 12 rfl) (by decide) (b := 23) rfl) ?_
      refine rc_p (p_iconst (v := 1) (dk_at ktX7_logEntry_0 13 rfl) (by decide) (b := 24) rfl) ?_
      refine r_iV (As' := [.int 0, .int 1]) (rest := []) (s_X7_throwsIf hm (σ := σ) (by rw [up2_off (by omega)]; exact hR) hI up2_s false 1 (by decide)) cw_X7_190 qi_X7_throwsIf qv_X7_throwsIf rfl hm.l0 hm.s0 (dk_at ktX7_logEntry_0 14 rfl) rfl rfl (Nat.le_of_ble_eq_true rfl) (by decide) (b := 27) rfl (fun v53 I50 J51 q52 => ?_)
      obtain ⟨rfl, rfl, hR54, hF55, h656⟩ := q52
      refine r_val (y := 0) rfl ?_
      refine r_if_eq (dk_at ktX7_logEntry_0 15 rfl) (b := 32) (by decide) (b2 := 30) rfl (fun c27 => ?_) (fun c27 => ?_)
      · skip
        refine rc_p (p_iload_n 1 (dk_at ktX7_logEntry_0 18 rfl) rfl rfl (b := 33) rfl) ?_
        refine rc_p (p_i2l (v := (Int32.toInt64 i)) (dk_at ktX7_logEntry_0 19 rfl) rfl (b := 34) rfl) ?_
        refine rc_p (p_lconst (v := 0) (dk_at ktX7_logEntry_0 20 rfl) (by decide) (b := 35) rfl) ?_
        refine rc_p (p_aload_n 0 (dk_at ktX7_logEntry_0 21 rfl) rfl rfl (b := 36) rfl) ?_
        refine r_geta fl_X7_9 rfl hm.l0 hm.s0 (dk_at ktX7_logEntry_0 22 rfl) hm.g0_0 (b := 39) rfl ?_
        refine rc_p (p_bipush (v := 10) (dk_at ktX7_logEntry_0 23 rfl) (by decide) (b := 41) rfl) ?_
        refine r_iald (j := 10) (hm.lt 1 (by decide)) hm.s1 (dk_at ktX7_logEntry_0 24 rfl) rfl ⟨by decide, by decide⟩ (v := (nI (nL σ))) ((hR54.1 10 (by decide)).trans hI.w10) (b := 42) rfl ?_
        refine rc_p (p_iconst (v := 1) (dk_at ktX7_logEntry_0 25 rfl) (by decide) (b := 43) rfl) ?_
        refine rc_p (p_isub (v := ((nI (nL σ)) - 1)) (dk_at ktX7_logEntry_0 26 rfl) rfl (b := 44) rfl) ?_
        refine rc_p (p_i2l (v := (Int32.toInt64 ((nI (nL σ)) - 1))) (dk_at ktX7_logEntry_0 27 rfl) rfl (b := 45) rfl) ?_
        refine r_iS (As := [.long (Int32.toInt64 i), .long 0, .long (Int32.toInt64 ((nI (nL σ)) - 1))]) (rest := []) (s_X7_in (Int32.toInt64 i) 0 (Int32.toInt64 ((nI (nL σ)) - 1))) cw_X7_73 qs_X7_in (dk_at ktX7_logEntry_0 28 rfl) rfl rfl (Nat.le_of_ble_eq_true rfl) (by decide) (b := 48) rfl (fun v60 I57 J58 q59 => ?_)
        obtain ⟨rfl, rfl, rfl⟩ := q59
        refine r_val (y := bi (inI i 0 ((nI (nL σ)) - 1))) (congrArg bi (inJ_I i 0 ((nI (nL σ)) - 1))) ?_
        refine r_val (y := 0) (by rw [hib]; rfl) ?_
        refine r_if_eq (dk_at ktX7_logEntry_0 29 rfl) (b := 68) (by decide) (b2 := 51) rfl (fun c48 => ?_) (fun c48 => ?_)
        · skip
          refine rc_p (p_iconst (v := (-1)) (dk_at ktX7_logEntry_0 41 rfl) (by decide) (b := 69) rfl) ?_
          refine r_iret (dk_at ktX7_logEntry_0 42 rfl) rfl rfl ⟨_, rfl, ?_⟩
          refine ⟨fun hz => ?_, ?_, rfl, ?_, (FF.tr (FF.uf FF.rf (by decide)) (hF55.mo (by decide) (by decide)))⟩
          · unfold a_entry; rw [if_neg (by rw [hi]; decide)]
          · exact Eq.trans h656 (by first | rfl | decide)
          · exact hR54
        · first | exact absurd c48 (by decide) | exact absurd (by decide) c48
      · first | exact absurd c27 (by decide) | exact absurd (by decide) c27
    · first | exact absurd c15 (by decide) | exact absurd (by decide) c15
  · have hib : inI (nI j) 0 (nI (nL σ) - 1) = true := (inb_inI (by omega)).trans (inb_t hj (by omega))
    refine Sp.of (by decide) (ls := [(0, .ref m), (1, .int (nI j)), (2, .int 2)]) (fun _ => rfl) (fun _ => Nat.le_of_ble_eq_true rfl) ?_
    refine rc_p (p_aload_n 0 (dk_at ktX7_logEntry_0 0 rfl) rfl rfl (b := 1) rfl) ?_
    refine rc_p (p_iconst (v := 0) (dk_at ktX7_logEntry_0 1 rfl) (by decide) (b := 2) rfl) ?_
    refine r_puti fl_X7_46 fw_X7_6 rfl hm.l0 hm.s0 rfl rfl (dk_at ktX7_logEntry_0 2 rfl) (b := 5) rfl ?_
    refine rc_p (p_aload_n 0 (dk_at ktX7_logEntry_0 3 rfl) rfl rfl (b := 6) rfl) ?_
    refine rc_p (p_iload_n 2 (dk_at ktX7_logEntry_0 4 rfl) rfl rfl (b := 7) rfl) ?_
    refine rc_p (p_i2l (v := (Int32.toInt64 2)) (dk_at ktX7_logEntry_0 5 rfl) rfl (b := 8) rfl) ?_
    refine rc_p (p_lconst (v := 0) (dk_at ktX7_logEntry_0 6 rfl) (by decide) (b := 9) rfl) ?_
    refine rc_p (p_ldc2 (v := 2) ql_TwinBootModel_214 (dk_at ktX7_logEntry_0 7 rfl) (b := 12) rfl) ?_
    refine r_iS (As := [.long (Int32.toInt64 2), .long 0, .long 2]) (rest := [.ref m]) (s_X7_in (Int32.toInt64 2) 0 2) cw_X7_73 qs_X7_in (dk_at ktX7_logEntry_0 8 rfl) rfl rfl (Nat.le_of_ble_eq_true rfl) (by decide) (b := 15) rfl (fun v64 I61 J62 q63 => ?_)
    obtain ⟨rfl, rfl, rfl⟩ := q63
    refine r_val (y := bi (inI 2 0 2)) (congrArg bi (inJ_I 2 0 2)) ?_
    refine r_val (y := 1) (by decide) ?_
    refine r_if_ne (dk_at ktX7_logEntry_0 9 rfl) (b := 22) (by decide) (b2 := 18) rfl (fun c15 => ?_) (fun c15 => ?_)
    · skip
      refine rc_p (p_iconst (v := 0) (dk_at ktX7_logEntry_0 12 rfl) (by decide) (b := 23) rfl) ?_
      refine rc_p (p_iconst (v := 1) (dk_at ktX7_logEntry_0 13 rfl) (by decide) (b := 24) rfl) ?_
      refine r_iV (As' := [.int 0, .int 1]) (rest := []) (s_X7_throwsIf hm (σ := σ) (by rw [up2_off (by omega)]; exact hR) hI up2_s false 1 (by decide)) cw_X7_190 qi_X7_throwsIf qv_X7_throwsIf rfl hm.l0 hm.s0 (dk_at ktX7_logEntry_0 14 rfl) rfl rfl (Nat.le_of_ble_eq_true rfl) (by decide) (b := 27) rfl (fun v68 I65 J66 q67 => ?_)
      obtain ⟨rfl, rfl, hR69, hF70, h671⟩ := q67
      refine r_val (y := 0) rfl ?_
      refine r_if_eq (dk_at ktX7_logEntry_0 15 rfl) (b := 32) (by decide) (b2 := 30) rfl (fun c27 => ?_) (fun c27 => ?_)
      · skip
        refine rc_p (p_iload_n 1 (dk_at ktX7_logEntry_0 18 rfl) rfl rfl (b := 33) rfl) ?_
        refine rc_p (p_i2l (v := (Int32.toInt64 (nI j))) (dk_at ktX7_logEntry_0 19 rfl) rfl (b := 34) rfl) ?_
        refine rc_p (p_lconst (v := 0) (dk_at ktX7_logEntry_0 20 rfl) (by decide) (b := 35) rfl) ?_
        refine rc_p (p_aload_n 0 (dk_at ktX7_logEntry_0 21 rfl) rfl rfl (b := 36) rfl) ?_
        refine r_geta fl_X7_9 rfl hm.l0 hm.s0 (dk_at ktX7_logEntry_0 22 rfl) hm.g0_0 (b := 39) rfl ?_
        refine rc_p (p_bipush (v := 10) (dk_at ktX7_logEntry_0 23 rfl) (by decide) (b := 41) rfl) ?_
        refine r_iald (j := 10) (hm.lt 1 (by decide)) hm.s1 (dk_at ktX7_logEntry_0 24 rfl) rfl ⟨by decide, by decide⟩ (v := (nI (nL σ))) ((hR69.1 10 (by decide)).trans hI.w10) (b := 42) rfl ?_
        refine rc_p (p_iconst (v := 1) (dk_at ktX7_logEntry_0 25 rfl) (by decide) (b := 43) rfl) ?_
        refine rc_p (p_isub (v := ((nI (nL σ)) - 1)) (dk_at ktX7_logEntry_0 26 rfl) rfl (b := 44) rfl) ?_
        refine rc_p (p_i2l (v := (Int32.toInt64 ((nI (nL σ)) - 1))) (dk_at ktX7_logEntry_0 27 rfl) rfl (b := 45) rfl) ?_
        refine r_iS (As := [.long (Int32.toInt64 (nI j)), .long 0, .long (Int32.toInt64 ((nI (nL σ)) - 1))]) (rest := []) (s_X7_in (Int32.toInt64 (nI j)) 0 (Int32.toInt64 ((nI (nL σ)) - 1))) cw_X7_73 qs_X7_in (dk_at ktX7_logEntry_0 28 rfl) rfl rfl (Nat.le_of_ble_eq_true rfl) (by decide) (b := 48) rfl (fun v75 I72 J73 q74 => ?_)
        obtain ⟨rfl, rfl, rfl⟩ := q74
        refine r_val (y := bi (inI (nI j) 0 ((nI (nL σ)) - 1))) (congrArg bi (inJ_I (nI j) 0 ((nI (nL σ)) - 1))) ?_
        refine r_val (y := 1) (by rw [hib]; rfl) ?_
        refine r_if_eq (dk_at ktX7_logEntry_0 29 rfl) (b := 68) (by decide) (b2 := 51) rfl (fun c48 => ?_) (fun c48 => ?_)
        · first | exact absurd c48 (by decide) | exact absurd (by decide) c48
        · skip
          refine rc_p (p_aload_n 0 (dk_at ktX7_logEntry_0 30 rfl) rfl rfl (b := 52) rfl) ?_
          refine r_geta fl_X7_9 rfl hm.l0 hm.s0 (dk_at ktX7_logEntry_0 31 rfl) hm.g0_0 (b := 55) rfl ?_
          refine rc_p (p_sipush (v := 309) (dk_at ktX7_logEntry_0 32 rfl) (by decide) (b := 58) rfl) ?_
          refine rc_p (p_iconst (v := 3) (dk_at ktX7_logEntry_0 33 rfl) (by decide) (b := 59) rfl) ?_
          refine rc_p (p_iload_n 1 (dk_at ktX7_logEntry_0 34 rfl) rfl rfl (b := 60) rfl) ?_
          refine rc_p (p_imul (v := (nI (3 * j))) (dk_at ktX7_logEntry_0 35 rfl) (pk_mul 3 j) (b := 61) rfl) ?_
          refine rc_p (p_iadd (v := (nI (309 + (3 * j)))) (dk_at ktX7_logEntry_0 36 rfl) (nI_add 309 (3 * j)) (b := 62) rfl) ?_
          refine rc_p (p_iload_n 2 (dk_at ktX7_logEntry_0 37 rfl) rfl rfl (b := 63) rfl) ?_
          refine rc_p (p_iadd (v := (nI (309 + (3 * j) + 2))) (dk_at ktX7_logEntry_0 38 rfl) (nI_add (309 + (3 * j)) 2) (b := 64) rfl) ?_
          refine r_iald (j := 309 + (3 * j) + 2) (hm.lt 1 (by decide)) hm.s1 (dk_at ktX7_logEntry_0 39 rfl) rfl ⟨by omega, by decide⟩ (v := (σ (1000 + 3 * (nL σ - 1 - j) + 2))) (wmap (show RelW (I65 (m + 1)) σ from hR69) hj (by decide : 2 < 3)) (b := 65) rfl ?_
          refine rc_p (p_goto (b := 69) (dk_at ktX7_logEntry_0 40 rfl) (by decide)) ?_
          refine r_iret (dk_at ktX7_logEntry_0 42 rfl) rfl rfl ⟨_, rfl, ?_⟩
          refine ⟨fun hz => ?_, ?_, rfl, ?_, (FF.tr (FF.uf FF.rf (by decide)) (hF70.mo (by decide) (by decide)))⟩
          · unfold a_entry; rw [if_pos (inb_t hj (by omega)), tn_nI (by omega)]; first | done | rfl
          · exact Eq.trans h671 (by first | rfl | decide)
          · exact hR69
      · first | exact absurd c27 (by decide) | exact absurd (by decide) c27
    · first | exact absurd c15 (by decide) | exact absurd (by decide) c15
  · have hib : inI i 0 (nI (nL σ) - 1) = false := (inb_inI (by omega)).trans hi
    refine Sp.of (by decide) (ls := [(0, .ref m), (1, .int i), (2, .int 2)]) (fun _ => rfl) (fun _ => Nat.le_of_ble_eq_true rfl) ?_
    refine rc_p (p_aload_n 0 (dk_at ktX7_logEntry_0 0 rfl) rfl rfl (b := 1) rfl) ?_
    refine rc_p (p_iconst (v := 0) (dk_at ktX7_logEntry_0 1 rfl) (by decide) (b := 2) rfl) ?_
    refine r_puti fl_X7_46 fw_X7_6 rfl hm.l0 hm.s0 rfl rfl (dk_at ktX7_logEntry_0 2 rfl) (b := 5) rfl ?_
    refine rc_p (p_aload_n 0 (dk_at ktX7_logEntry_0 3 rfl) rfl rfl (b := 6) rfl) ?_
    refine rc_p (p_iload_n 2 (dk_at ktX7_logEntry_0 4 rfl) rfl rfl (b := 7) rfl) ?_
    refine rc_p (p_i2l (v := (Int32.toInt64 2)) (dk_at ktX7_logEntry_0 5 rfl) rfl (b := 8) rfl) ?_
    refine rc_p (p_lconst (v := 0) (dk_at ktX7_logEntry_0 6 rfl) (by decide) (b := 9) rfl) ?_
    refine rc_p (p_ldc2 (v := 2) ql_TwinBootModel_214 (dk_at ktX7_logEntry_0 7 rfl) (b := 12) rfl) ?_
    refine r_iS (As := [.long (Int32.toInt64 2), .long 0, .long 2]) (rest := [.ref m]) (s_X7_in (Int32.toInt64 2) 0 2) cw_X7_73 qs_X7_in (dk_at ktX7_logEntry_0 8 rfl) rfl rfl (Nat.le_of_ble_eq_true rfl) (by decide) (b := 15) rfl (fun v79 I76 J77 q78 => ?_)
    obtain ⟨rfl, rfl, rfl⟩ := q78
    refine r_val (y := bi (inI 2 0 2)) (congrArg bi (inJ_I 2 0 2)) ?_
    refine r_val (y := 1) (by decide) ?_
    refine r_if_ne (dk_at ktX7_logEntry_0 9 rfl) (b := 22) (by decide) (b2 := 18) rfl (fun c15 => ?_) (fun c15 => ?_)
    · skip
      refine rc_p (p_iconst (v := 0) (dk_at ktX7_logEntry_0 12 rfl) (by decide) (b := 23) rfl) ?_
      refine rc_p (p_iconst (v := 1) (dk_at ktX7_logEntry_0 13 rfl) (by decide) (b := 24) rfl) ?_
      refine r_iV (As' := [.int 0, .int 1]) (rest := []) (s_X7_throwsIf hm (σ := σ) (by rw [up2_off (by omega)]; exact hR) hI up2_s false 1 (by decide)) cw_X7_190 qi_X7_throwsIf qv_X7_throwsIf rfl hm.l0 hm.s0 (dk_at ktX7_logEntry_0 14 rfl) rfl rfl (Nat.le_of_ble_eq_true rfl) (by decide) (b := 27) rfl (fun v83 I80 J81 q82 => ?_)
      obtain ⟨rfl, rfl, hR84, hF85, h686⟩ := q82
      refine r_val (y := 0) rfl ?_
      refine r_if_eq (dk_at ktX7_logEntry_0 15 rfl) (b := 32) (by decide) (b2 := 30) rfl (fun c27 => ?_) (fun c27 => ?_)
      · skip
        refine rc_p (p_iload_n 1 (dk_at ktX7_logEntry_0 18 rfl) rfl rfl (b := 33) rfl) ?_
        refine rc_p (p_i2l (v := (Int32.toInt64 i)) (dk_at ktX7_logEntry_0 19 rfl) rfl (b := 34) rfl) ?_
        refine rc_p (p_lconst (v := 0) (dk_at ktX7_logEntry_0 20 rfl) (by decide) (b := 35) rfl) ?_
        refine rc_p (p_aload_n 0 (dk_at ktX7_logEntry_0 21 rfl) rfl rfl (b := 36) rfl) ?_
        refine r_geta fl_X7_9 rfl hm.l0 hm.s0 (dk_at ktX7_logEntry_0 22 rfl) hm.g0_0 (b := 39) rfl ?_
        refine rc_p (p_bipush (v := 10) (dk_at ktX7_logEntry_0 23 rfl) (by decide) (b := 41) rfl) ?_
        refine r_iald (j := 10) (hm.lt 1 (by decide)) hm.s1 (dk_at ktX7_logEntry_0 24 rfl) rfl ⟨by decide, by decide⟩ (v := (nI (nL σ))) ((hR84.1 10 (by decide)).trans hI.w10) (b := 42) rfl ?_
        refine rc_p (p_iconst (v := 1) (dk_at ktX7_logEntry_0 25 rfl) (by decide) (b := 43) rfl) ?_
        refine rc_p (p_isub (v := ((nI (nL σ)) - 1)) (dk_at ktX7_logEntry_0 26 rfl) rfl (b := 44) rfl) ?_
        refine rc_p (p_i2l (v := (Int32.toInt64 ((nI (nL σ)) - 1))) (dk_at ktX7_logEntry_0 27 rfl) rfl (b := 45) rfl) ?_
        refine r_iS (As := [.long (Int32.toInt64 i), .long 0, .long (Int32.toInt64 ((nI (nL σ)) - 1))]) (rest := []) (s_X7_in (Int32.toInt64 i) 0 (Int32.toInt64 ((nI (nL σ)) - 1))) cw_X7_73 qs_X7_in (dk_at ktX7_logEntry_0 28 rfl) rfl rfl (Nat.le_of_ble_eq_true rfl) (by decide) (b := 48) rfl (fun v90 I87 J88 q89 => ?_)
        obtain ⟨rfl, rfl, rfl⟩ := q89
        refine r_val (y := bi (inI i 0 ((nI (nL σ)) - 1))) (congrArg bi (inJ_I i 0 ((nI (nL σ)) - 1))) ?_
        refine r_val (y := 0) (by rw [hib]; rfl) ?_
        refine r_if_eq (dk_at ktX7_logEntry_0 29 rfl) (b := 68) (by decide) (b2 := 51) rfl (fun c48 => ?_) (fun c48 => ?_)
        · skip
          refine rc_p (p_iconst (v := (-1)) (dk_at ktX7_logEntry_0 41 rfl) (by decide) (b := 69) rfl) ?_
          refine r_iret (dk_at ktX7_logEntry_0 42 rfl) rfl rfl ⟨_, rfl, ?_⟩
          refine ⟨fun hz => ?_, ?_, rfl, ?_, (FF.tr (FF.uf FF.rf (by decide)) (hF85.mo (by decide) (by decide)))⟩
          · unfold a_entry; rw [if_neg (by rw [hi]; decide)]
          · exact Eq.trans h686 (by first | rfl | decide)
          · exact hR84
        · first | exact absurd c48 (by decide) | exact absurd (by decide) c48
      · first | exact absurd c27 (by decide) | exact absurd (by decide) c27
    · first | exact absurd c15 (by decide) | exact absurd (by decide) c15
  · refine Sp.of (by decide) (ls := [(0, .ref m), (1, .int (nI j)), (2, .int w)]) (fun _ => rfl) (fun _ => Nat.le_of_ble_eq_true rfl) ?_
    refine rc_p (p_aload_n 0 (dk_at ktX7_logEntry_0 0 rfl) rfl rfl (b := 1) rfl) ?_
    refine rc_p (p_iconst (v := 0) (dk_at ktX7_logEntry_0 1 rfl) (by decide) (b := 2) rfl) ?_
    refine r_puti fl_X7_46 fw_X7_6 rfl hm.l0 hm.s0 rfl rfl (dk_at ktX7_logEntry_0 2 rfl) (b := 5) rfl ?_
    refine rc_p (p_aload_n 0 (dk_at ktX7_logEntry_0 3 rfl) rfl rfl (b := 6) rfl) ?_
    refine rc_p (p_iload_n 2 (dk_at ktX7_logEntry_0 4 rfl) rfl rfl (b := 7) rfl) ?_
    refine rc_p (p_i2l (v := (Int32.toInt64 w)) (dk_at ktX7_logEntry_0 5 rfl) rfl (b := 8) rfl) ?_
    refine rc_p (p_lconst (v := 0) (dk_at ktX7_logEntry_0 6 rfl) (by decide) (b := 9) rfl) ?_
    refine rc_p (p_ldc2 (v := 2) ql_TwinBootModel_214 (dk_at ktX7_logEntry_0 7 rfl) (b := 12) rfl) ?_
    refine r_iS (As := [.long (Int32.toInt64 w), .long 0, .long 2]) (rest := [.ref m]) (s_X7_in (Int32.toInt64 w) 0 2) cw_X7_73 qs_X7_in (dk_at ktX7_logEntry_0 8 rfl) rfl rfl (Nat.le_of_ble_eq_true rfl) (by decide) (b := 15) rfl (fun v94 I91 J92 q93 => ?_)
    obtain ⟨rfl, rfl, rfl⟩ := q93
    refine r_val (y := bi (inI w 0 2)) (congrArg bi (inJ_I w 0 2)) ?_
    refine r_val (y := 0) (by rw [hw]; rfl) ?_
    refine r_if_ne (dk_at ktX7_logEntry_0 9 rfl) (b := 22) (by decide) (b2 := 18) rfl (fun c15 => ?_) (fun c15 => ?_)
    · first | exact absurd c15 (by decide) | exact absurd (by decide) c15
    · skip
      refine rc_p (p_iconst (v := 1) (dk_at ktX7_logEntry_0 10 rfl) (by decide) (b := 19) rfl) ?_
      refine rc_p (p_goto (b := 23) (dk_at ktX7_logEntry_0 11 rfl) (by decide)) ?_
      refine rc_p (p_iconst (v := 1) (dk_at ktX7_logEntry_0 13 rfl) (by decide) (b := 24) rfl) ?_
      refine r_iV (As' := [.int 1, .int 1]) (rest := []) (s_X7_throwsIf hm (σ := σ) (by rw [up2_off (by omega)]; exact hR) hI up2_s true 1 (by decide)) cw_X7_190 qi_X7_throwsIf qv_X7_throwsIf rfl hm.l0 hm.s0 (dk_at ktX7_logEntry_0 14 rfl) rfl rfl (Nat.le_of_ble_eq_true rfl) (by decide) (b := 27) rfl (fun v98 I95 J96 q97 => ?_)
      obtain ⟨rfl, rfl, hR99, hF100, h6101⟩ := q97
      refine r_val (y := 1) rfl ?_
      refine r_if_eq (dk_at ktX7_logEntry_0 15 rfl) (b := 32) (by decide) (b2 := 30) rfl (fun c27 => ?_) (fun c27 => ?_)
      · first | exact absurd c27 (by decide) | exact absurd (by decide) c27
      · skip
        refine rc_p (p_iconst (v := 0) (dk_at ktX7_logEntry_0 16 rfl) (by decide) (b := 31) rfl) ?_
        refine r_iret (dk_at ktX7_logEntry_0 17 rfl) rfl rfl ⟨_, rfl, ?_⟩
        refine ⟨fun hz => ?_, ?_, rfl, ?_, (FF.tr (FF.uf FF.rf (by decide)) (hF100.mo (by decide) (by decide)))⟩
        · exact absurd (hz.symm.trans (cIn_f hw)) (by decide)
        · exact Eq.trans h6101 (by exact (cIn_f hw).symm)
        · exact hR99
  · refine Sp.of (by decide) (ls := [(0, .ref m), (1, .int i), (2, .int w)]) (fun _ => rfl) (fun _ => Nat.le_of_ble_eq_true rfl) ?_
    refine rc_p (p_aload_n 0 (dk_at ktX7_logEntry_0 0 rfl) rfl rfl (b := 1) rfl) ?_
    refine rc_p (p_iconst (v := 0) (dk_at ktX7_logEntry_0 1 rfl) (by decide) (b := 2) rfl) ?_
    refine r_puti fl_X7_46 fw_X7_6 rfl hm.l0 hm.s0 rfl rfl (dk_at ktX7_logEntry_0 2 rfl) (b := 5) rfl ?_
    refine rc_p (p_aload_n 0 (dk_at ktX7_logEntry_0 3 rfl) rfl rfl (b := 6) rfl) ?_
    refine rc_p (p_iload_n 2 (dk_at ktX7_logEntry_0 4 rfl) rfl rfl (b := 7) rfl) ?_
    refine rc_p (p_i2l (v := (Int32.toInt64 w)) (dk_at ktX7_logEntry_0 5 rfl) rfl (b := 8) rfl) ?_
    refine rc_p (p_lconst (v := 0) (dk_at ktX7_logEntry_0 6 rfl) (by decide) (b := 9) rfl) ?_
    refine rc_p (p_ldc2 (v := 2) ql_TwinBootModel_214 (dk_at ktX7_logEntry_0 7 rfl) (b := 12) rfl) ?_
    refine r_iS (As := [.long (Int32.toInt64 w), .long 0, .long 2]) (rest := [.ref m]) (s_X7_in (Int32.toInt64 w) 0 2) cw_X7_73 qs_X7_in (dk_at ktX7_logEntry_0 8 rfl) rfl rfl (Nat.le_of_ble_eq_true rfl) (by decide) (b := 15) rfl (fun v105 I102 J103 q104 => ?_)
    obtain ⟨rfl, rfl, rfl⟩ := q104
    refine r_val (y := bi (inI w 0 2)) (congrArg bi (inJ_I w 0 2)) ?_
    refine r_val (y := 0) (by rw [hw]; rfl) ?_
    refine r_if_ne (dk_at ktX7_logEntry_0 9 rfl) (b := 22) (by decide) (b2 := 18) rfl (fun c15 => ?_) (fun c15 => ?_)
    · first | exact absurd c15 (by decide) | exact absurd (by decide) c15
    · skip
      refine rc_p (p_iconst (v := 1) (dk_at ktX7_logEntry_0 10 rfl) (by decide) (b := 19) rfl) ?_
      refine rc_p (p_goto (b := 23) (dk_at ktX7_logEntry_0 11 rfl) (by decide)) ?_
      refine rc_p (p_iconst (v := 1) (dk_at ktX7_logEntry_0 13 rfl) (by decide) (b := 24) rfl) ?_
      refine r_iV (As' := [.int 1, .int 1]) (rest := []) (s_X7_throwsIf hm (σ := σ) (by rw [up2_off (by omega)]; exact hR) hI up2_s true 1 (by decide)) cw_X7_190 qi_X7_throwsIf qv_X7_throwsIf rfl hm.l0 hm.s0 (dk_at ktX7_logEntry_0 14 rfl) rfl rfl (Nat.le_of_ble_eq_true rfl) (by decide) (b := 27) rfl (fun v109 I106 J107 q108 => ?_)
      obtain ⟨rfl, rfl, hR110, hF111, h6112⟩ := q108
      refine r_val (y := 1) rfl ?_
      refine r_if_eq (dk_at ktX7_logEntry_0 15 rfl) (b := 32) (by decide) (b2 := 30) rfl (fun c27 => ?_) (fun c27 => ?_)
      · first | exact absurd c27 (by decide) | exact absurd (by decide) c27
      · skip
        refine rc_p (p_iconst (v := 0) (dk_at ktX7_logEntry_0 16 rfl) (by decide) (b := 31) rfl) ?_
        refine r_iret (dk_at ktX7_logEntry_0 17 rfl) rfl rfl ⟨_, rfl, ?_⟩
        refine ⟨fun hz => ?_, ?_, rfl, ?_, (FF.tr (FF.uf FF.rf (by decide)) (hF111.mo (by decide) (by decide)))⟩
        · exact absurd (hz.symm.trans (cIn_f hw)) (by decide)
        · exact Eq.trans h6112 (by exact (cIn_f hw).symm)
        · exact hR110
set_option maxRecDepth 4000 in
set_option maxHeartbeats 4000000 in
theorem s_X7_pagesOf {n : Nat} {sh : mS} {G : mG} {I : mI} {J : mJ} {m : Nat} {σ : sT} (hm : ModG n sh G m) (hR : RelW (I (m + 1)) σ) (hI : Inv σ) (a : Int32) : Sp yX7_pagesOf cX7_pagesOf 2 (some FieldType.int) 1 48 0 0 [.ref m, .int a] n sh G I J (Qi (fun r_ I_ J_ => nI (pgN σ a) = r_ ∧ I = I_ ∧ J = J_)) nX := by
  refine Sp.of (by decide) (ls := [(0, .ref m), (1, .int a)]) (fun _ => rfl) (fun _ => Nat.le_of_ble_eq_true rfl) ?_
  have hb := hI.bd
  refine rc_p (p_iload_n 1 (dk_at ktX7_pagesOf_0 0 rfl) rfl rfl (b := 1) rfl) ?_
  refine rc_p (p_iconst (v := 2) (dk_at ktX7_pagesOf_0 1 rfl) (by decide) (b := 2) rfl) ?_
  refine r_icmp_ne (dk_at ktX7_pagesOf_0 2 rfl) (b := 9) (by decide) (b2 := 5) rfl (fun c2 => ?_) (fun c2 => ?_)
  · skip
    refine rc_p (p_aload_n 0 (dk_at ktX7_pagesOf_0 5 rfl) rfl rfl (b := 10) rfl) ?_
    refine r_geta fl_X7_9 rfl hm.l0 hm.s0 (dk_at ktX7_pagesOf_0 6 rfl) hm.g0_0 (b := 13) rfl ?_
    refine rc_p (p_iconst (v := 0) (dk_at ktX7_pagesOf_0 7 rfl) (by decide) (b := 14) rfl) ?_
    refine r_iald (j := 0) (hm.lt 1 (by decide)) hm.s1 (dk_at ktX7_pagesOf_0 8 rfl) rfl ⟨by decide, by decide⟩ (v := (nI (nW σ))) ((hR.1 0 (by decide)).trans hI.w0) (b := 15) rfl ?_
    refine rc_p (p_aload_n 0 (dk_at ktX7_pagesOf_0 9 rfl) rfl rfl (b := 16) rfl) ?_
    refine r_geta fl_X7_9 rfl hm.l0 hm.s0 (dk_at ktX7_pagesOf_0 10 rfl) hm.g0_0 (b := 19) rfl ?_
    refine rc_p (p_iconst (v := 1) (dk_at ktX7_pagesOf_0 11 rfl) (by decide) (b := 20) rfl) ?_
    refine r_iald (j := 1) (hm.lt 1 (by decide)) hm.s1 (dk_at ktX7_pagesOf_0 12 rfl) rfl ⟨by decide, by decide⟩ (v := (nI (nP σ))) ((hR.1 1 (by decide)).trans hI.w1) (b := 21) rfl ?_
    refine rc_p (p_idiv (v := (nI (nW σ / nP σ))) (dk_at ktX7_pagesOf_0 13 rfl) (nI_ne0 (by omega) (by omega)) (n_div (by omega) (by omega) (by omega)) (b := 22) rfl) ?_
    refine r_iret (dk_at ktX7_pagesOf_0 14 rfl) rfl rfl ⟨_, rfl, ?_⟩
    refine ⟨?_, rfl, rfl⟩
    simp_all [pgN] <;> rfl
  · skip
    refine rc_p (p_iconst (v := 2) (dk_at ktX7_pagesOf_0 3 rfl) (by decide) (b := 6) rfl) ?_
    refine rc_p (p_goto (b := 22) (dk_at ktX7_pagesOf_0 4 rfl) (by decide)) ?_
    refine r_iret (dk_at ktX7_pagesOf_0 14 rfl) rfl rfl ⟨_, rfl, ?_⟩
    refine ⟨?_, rfl, rfl⟩
    simp_all [pgN] <;> rfl
set_option maxRecDepth 4000 in
set_option maxHeartbeats 4000000 in
theorem s_X7_wear {n : Nat} {sh : mS} {G : mG} {I : mI} {J : mJ} {m : Nat} {σ : sT} (hm : ModG n sh G m) (hR : RelW (I (m + 1)) σ) (hI : Inv σ) (a p : Int32) : Sp yX7_wear cX7_wear 3 (some FieldType.int) 3 144 0 0 [.ref m, .int a, .int p] n sh G I J (Qi (fun r_ I_ J_ => (cWear σ a p = 0 → a_wear σ a p = r_) ∧ I_ m 6 = cWear σ a p ∧ J = J_ ∧ RelW (I_ (m + 1)) (σ) ∧ FF m [1, 2, 8] [6, 18, 19, 20, 21, 22, 23, 24, 26, 27] I I_)) nX := by
  have hb := hI.bd
  have key : (a = 0 ∧ ((∃ j, j < pgN σ 0 ∧ p = nI j) ∨ inb p (pgN σ 0) = false)) ∨ (a = 1 ∧ ((∃ j, j < pgN σ 1 ∧ p = nI j) ∨ inb p (pgN σ 1) = false)) ∨ (a = 2 ∧ ((∃ j, j < pgN σ 2 ∧ p = nI j) ∨ inb p (pgN σ 2) = false)) ∨ inI a 0 2 = false := by
    have h0 := pgN_16 hI 0; have h1 := pgN_16 hI 1; have h2 := pgN_16 hI 2
    rcases ar_c a with h | h | h | h
    · exact Or.inl ⟨h, inb_c p _ (by omega)⟩
    · exact Or.inr (Or.inl ⟨h, inb_c p _ (by omega)⟩)
    · exact Or.inr (Or.inr (Or.inl ⟨h, inb_c p _ (by omega)⟩))
    · exact Or.inr (Or.inr (Or.inr h))
  rcases key with ⟨rfl, ⟨j, hj, rfl⟩ | hi⟩ | ⟨rfl, ⟨j, hj, rfl⟩ | hi⟩ | ⟨rfl, ⟨j, hj, rfl⟩ | hi⟩ | hw
  · have hpg := pgN_16 hI 0
    have hib : inI (nI j) 0 (nI (pgN σ 0) - 1) = true := (inb_inI (by omega)).trans (inb_t hj (by omega))
    refine Sp.of (by decide) (ls := [(0, .ref m), (1, .int 0), (2, .int (nI j))]) (fun _ => rfl) (fun _ => Nat.le_of_ble_eq_true rfl) ?_
    refine rc_p (p_aload_n 0 (dk_at ktX7_wear_0 0 rfl) rfl rfl (b := 1) rfl) ?_
    refine rc_p (p_iconst (v := 0) (dk_at ktX7_wear_0 1 rfl) (by decide) (b := 2) rfl) ?_
    refine r_puti fl_X7_46 fw_X7_6 rfl hm.l0 hm.s0 rfl rfl (dk_at ktX7_wear_0 2 rfl) (b := 5) rfl ?_
    refine rc_p (p_aload_n 0 (dk_at ktX7_wear_0 3 rfl) rfl rfl (b := 6) rfl) ?_
    refine rc_p (p_iload_n 1 (dk_at ktX7_wear_0 4 rfl) rfl rfl (b := 7) rfl) ?_
    refine rc_p (p_i2l (v := (Int32.toInt64 0)) (dk_at ktX7_wear_0 5 rfl) rfl (b := 8) rfl) ?_
    refine rc_p (p_lconst (v := 0) (dk_at ktX7_wear_0 6 rfl) (by decide) (b := 9) rfl) ?_
    refine rc_p (p_ldc2 (v := 2) ql_TwinBootModel_214 (dk_at ktX7_wear_0 7 rfl) (b := 12) rfl) ?_
    refine r_iS (As := [.long (Int32.toInt64 0), .long 0, .long 2]) (rest := [.ref m]) (s_X7_in (Int32.toInt64 0) 0 2) cw_X7_73 qs_X7_in (dk_at ktX7_wear_0 8 rfl) rfl rfl (Nat.le_of_ble_eq_true rfl) (by decide) (b := 15) rfl (fun v4 I1 J2 q3 => ?_)
    obtain ⟨rfl, rfl, rfl⟩ := q3
    refine r_val (y := bi (inI 0 0 2)) (congrArg bi (inJ_I 0 0 2)) ?_
    refine r_val (y := 1) (by decide) ?_
    refine r_if_ne (dk_at ktX7_wear_0 9 rfl) (b := 22) (by decide) (b2 := 18) rfl (fun c15 => ?_) (fun c15 => ?_)
    · skip
      refine rc_p (p_iconst (v := 0) (dk_at ktX7_wear_0 12 rfl) (by decide) (b := 23) rfl) ?_
      refine rc_p (p_iconst (v := 1) (dk_at ktX7_wear_0 13 rfl) (by decide) (b := 24) rfl) ?_
      refine r_iV (As' := [.int 0, .int 1]) (rest := []) (s_X7_throwsIf hm (σ := σ) (by rw [up2_off (by omega)]; exact hR) hI up2_s false 1 (by decide)) cw_X7_190 qi_X7_throwsIf qv_X7_throwsIf rfl hm.l0 hm.s0 (dk_at ktX7_wear_0 14 rfl) rfl rfl (Nat.le_of_ble_eq_true rfl) (by decide) (b := 27) rfl (fun v8 I5 J6 q7 => ?_)
      obtain ⟨rfl, rfl, hR9, hF10, h611⟩ := q7
      refine r_val (y := 0) rfl ?_
      refine r_if_ne (dk_at ktX7_wear_0 15 rfl) (b := 60) (by decide) (b2 := 30) rfl (fun c27 => ?_) (fun c27 => ?_)
      · first | exact absurd c27 (by decide) | exact absurd (by decide) c27
      · skip
        refine rc_p (p_aload_n 0 (dk_at ktX7_wear_0 16 rfl) rfl rfl (b := 31) rfl) ?_
        refine rc_p (p_iload_n 2 (dk_at ktX7_wear_0 17 rfl) rfl rfl (b := 32) rfl) ?_
        refine rc_p (p_i2l (v := (Int32.toInt64 (nI j))) (dk_at ktX7_wear_0 18 rfl) rfl (b := 33) rfl) ?_
        refine rc_p (p_lconst (v := 0) (dk_at ktX7_wear_0 19 rfl) (by decide) (b := 34) rfl) ?_
        refine rc_p (p_aload_n 0 (dk_at ktX7_wear_0 20 rfl) rfl rfl (b := 35) rfl) ?_
        refine rc_p (p_iload_n 1 (dk_at ktX7_wear_0 21 rfl) rfl rfl (b := 36) rfl) ?_
        refine r_iV (As' := [.int 0]) (rest := [.long 0, .long (Int32.toInt64 (nI j)), .ref m]) (s_X7_pagesOf hm (σ := σ) hR9 hI 0) cw_X7_365 qi_X7_pagesOf qv_X7_pagesOf rfl hm.l0 hm.s0 (dk_at ktX7_wear_0 22 rfl) rfl rfl (Nat.le_of_ble_eq_true rfl) (by decide) (b := 39) rfl (fun v15 I12 J13 q14 => ?_)
        obtain ⟨rfl, rfl, rfl⟩ := q14
        refine rc_p (p_iconst (v := 1) (dk_at ktX7_wear_0 23 rfl) (by decide) (b := 40) rfl) ?_
        refine rc_p (p_isub (v := ((nI (pgN σ 0)) - 1)) (dk_at ktX7_wear_0 24 rfl) rfl (b := 41) rfl) ?_
        refine rc_p (p_i2l (v := (Int32.toInt64 ((nI (pgN σ 0)) - 1))) (dk_at ktX7_wear_0 25 rfl) rfl (b := 42) rfl) ?_
        refine r_iS (As := [.long (Int32.toInt64 (nI j)), .long 0, .long (Int32.toInt64 ((nI (pgN σ 0)) - 1))]) (rest := [.ref m]) (s_X7_in (Int32.toInt64 (nI j)) 0 (Int32.toInt64 ((nI (pgN σ 0)) - 1))) cw_X7_73 qs_X7_in (dk_at ktX7_wear_0 26 rfl) rfl rfl (Nat.le_of_ble_eq_true rfl) (by decide) (b := 45) rfl (fun v19 I16 J17 q18 => ?_)
        obtain ⟨rfl, rfl, rfl⟩ := q18
        refine r_val (y := bi (inI (nI j) 0 ((nI (pgN σ 0)) - 1))) (congrArg bi (inJ_I (nI j) 0 ((nI (pgN σ 0)) - 1))) ?_
        refine r_val (y := 1) (by rw [hib]; rfl) ?_
        refine r_if_ne (dk_at ktX7_wear_0 27 rfl) (b := 52) (by decide) (b2 := 48) rfl (fun c45 => ?_) (fun c45 => ?_)
        · skip
          refine rc_p (p_iconst (v := 0) (dk_at ktX7_wear_0 30 rfl) (by decide) (b := 53) rfl) ?_
          refine rc_p (p_iconst (v := 2) (dk_at ktX7_wear_0 31 rfl) (by decide) (b := 54) rfl) ?_
          refine r_iV (As' := [.int 0, .int 2]) (rest := []) (s_X7_throwsIf hm (σ := σ) hR9 hI h611 false 2 (by decide)) cw_X7_190 qi_X7_throwsIf qv_X7_throwsIf rfl hm.l0 hm.s0 (dk_at ktX7_wear_0 32 rfl) rfl rfl (Nat.le_of_ble_eq_true rfl) (by decide) (b := 57) rfl (fun v23 I20 J21 q22 => ?_)
          obtain ⟨rfl, rfl, hR24, hF25, h626⟩ := q22
          refine r_val (y := 0) rfl ?_
          refine r_if_eq (dk_at ktX7_wear_0 33 rfl) (b := 62) (by decide) (b2 := 60) rfl (fun c57 => ?_) (fun c57 => ?_)
          · skip
            refine rc_p (p_aload_n 0 (dk_at ktX7_wear_0 36 rfl) rfl rfl (b := 63) rfl) ?_
            refine r_geta fl_X7_9 rfl hm.l0 hm.s0 (dk_at ktX7_wear_0 37 rfl) hm.g0_0 (b := 66) rfl ?_
            refine rc_p (p_sipush (v := 275) (dk_at ktX7_wear_0 38 rfl) (by decide) (b := 69) rfl) ?_
            refine rc_p (p_bipush (v := 16) (dk_at ktX7_wear_0 39 rfl) (by decide) (b := 71) rfl) ?_
            refine rc_p (p_iload_n 1 (dk_at ktX7_wear_0 40 rfl) rfl rfl (b := 72) rfl) ?_
            refine rc_p (p_imul (v := 0) (dk_at ktX7_wear_0 41 rfl) rfl (b := 73) rfl) ?_
            refine rc_p (p_iadd (v := 275) (dk_at ktX7_wear_0 42 rfl) rfl (b := 74) rfl) ?_
            refine rc_p (p_iload_n 2 (dk_at ktX7_wear_0 43 rfl) rfl rfl (b := 75) rfl) ?_
            refine rc_p (p_iadd (v := (nI (275 + j))) (dk_at ktX7_wear_0 44 rfl) (nI_add 275 j) (b := 76) rfl) ?_
            refine r_iald (j := 275 + j) (hm.lt 1 (by decide)) hm.s1 (dk_at ktX7_wear_0 45 rfl) rfl ⟨by omega, by decide⟩ (v := (σ (275 + j))) (hR24.1 (275 + j) (by omega)) (b := 77) rfl ?_
            refine r_iret (dk_at ktX7_wear_0 46 rfl) rfl rfl ⟨_, rfl, ?_⟩
            have hcd : cWear σ 0 (nI j) = 0 := (if_pos (by decide)).trans (if_pos (inb_t hj (by omega)))
            refine ⟨fun hz => ?_, ?_, rfl, ?_, (FF.tr (FF.tr (FF.uf FF.rf (by decide)) (hF10.mo (by decide) (by decide))) (hF25.mo (by decide) (by decide)))⟩
            · exact congrArg σ (by (rw [tn_nI (by omega), show tn 0 = 0 from rfl]) <;> omega)
            · exact Eq.trans h626 (by exact hcd.symm)
            · exact hR24
          · first | exact absurd c57 (by decide) | exact absurd (by decide) c57
        · first | exact absurd c45 (by decide) | exact absurd (by decide) c45
    · first | exact absurd c15 (by decide) | exact absurd (by decide) c15
  · have hpg := pgN_16 hI 0
    have hib : inI p 0 (nI (pgN σ 0) - 1) = false := (inb_inI (by omega)).trans hi
    refine Sp.of (by decide) (ls := [(0, .ref m), (1, .int 0), (2, .int p)]) (fun _ => rfl) (fun _ => Nat.le_of_ble_eq_true rfl) ?_
    refine rc_p (p_aload_n 0 (dk_at ktX7_wear_0 0 rfl) rfl rfl (b := 1) rfl) ?_
    refine rc_p (p_iconst (v := 0) (dk_at ktX7_wear_0 1 rfl) (by decide) (b := 2) rfl) ?_
    refine r_puti fl_X7_46 fw_X7_6 rfl hm.l0 hm.s0 rfl rfl (dk_at ktX7_wear_0 2 rfl) (b := 5) rfl ?_
    refine rc_p (p_aload_n 0 (dk_at ktX7_wear_0 3 rfl) rfl rfl (b := 6) rfl) ?_
    refine rc_p (p_iload_n 1 (dk_at ktX7_wear_0 4 rfl) rfl rfl (b := 7) rfl) ?_
    refine rc_p (p_i2l (v := (Int32.toInt64 0)) (dk_at ktX7_wear_0 5 rfl) rfl (b := 8) rfl) ?_
    refine rc_p (p_lconst (v := 0) (dk_at ktX7_wear_0 6 rfl) (by decide) (b := 9) rfl) ?_
    refine rc_p (p_ldc2 (v := 2) ql_TwinBootModel_214 (dk_at ktX7_wear_0 7 rfl) (b := 12) rfl) ?_
    refine r_iS (As := [.long (Int32.toInt64 0), .long 0, .long 2]) (rest := [.ref m]) (s_X7_in (Int32.toInt64 0) 0 2) cw_X7_73 qs_X7_in (dk_at ktX7_wear_0 8 rfl) rfl rfl (Nat.le_of_ble_eq_true rfl) (by decide) (b := 15) rfl (fun v30 I27 J28 q29 => ?_)
    obtain ⟨rfl, rfl, rfl⟩ := q29
    refine r_val (y := bi (inI 0 0 2)) (congrArg bi (inJ_I 0 0 2)) ?_
    refine r_val (y := 1) (by decide) ?_
    refine r_if_ne (dk_at ktX7_wear_0 9 rfl) (b := 22) (by decide) (b2 := 18) rfl (fun c15 => ?_) (fun c15 => ?_)
    · skip
      refine rc_p (p_iconst (v := 0) (dk_at ktX7_wear_0 12 rfl) (by decide) (b := 23) rfl) ?_
      refine rc_p (p_iconst (v := 1) (dk_at ktX7_wear_0 13 rfl) (by decide) (b := 24) rfl) ?_
      refine r_iV (As' := [.int 0, .int 1]) (rest := []) (s_X7_throwsIf hm (σ := σ) (by rw [up2_off (by omega)]; exact hR) hI up2_s false 1 (by decide)) cw_X7_190 qi_X7_throwsIf qv_X7_throwsIf rfl hm.l0 hm.s0 (dk_at ktX7_wear_0 14 rfl) rfl rfl (Nat.le_of_ble_eq_true rfl) (by decide) (b := 27) rfl (fun v34 I31 J32 q33 => ?_)
      obtain ⟨rfl, rfl, hR35, hF36, h637⟩ := q33
      refine r_val (y := 0) rfl ?_
      refine r_if_ne (dk_at ktX7_wear_0 15 rfl) (b := 60) (by decide) (b2 := 30) rfl (fun c27 => ?_) (fun c27 => ?_)
      · first | exact absurd c27 (by decide) | exact absurd (by decide) c27
      · skip
        refine rc_p (p_aload_n 0 (dk_at ktX7_wear_0 16 rfl) rfl rfl (b := 31) rfl) ?_
        refine rc_p (p_iload_n 2 (dk_at ktX7_wear_0 17 rfl) rfl rfl (b := 32) rfl) ?_
        refine rc_p (p_i2l (v := (Int32.toInt64 p)) (dk_at ktX7_wear_0 18 rfl) rfl (b := 33) rfl) ?_
        refine rc_p (p_lconst (v := 0) (dk_at ktX7_wear_0 19 rfl) (by decide) (b := 34) rfl) ?_
        refine rc_p (p_aload_n 0 (dk_at ktX7_wear_0 20 rfl) rfl rfl (b := 35) rfl) ?_
        refine rc_p (p_iload_n 1 (dk_at ktX7_wear_0 21 rfl) rfl rfl (b := 36) rfl) ?_
        refine r_iV (As' := [.int 0]) (rest := [.long 0, .long (Int32.toInt64 p), .ref m]) (s_X7_pagesOf hm (σ := σ) hR35 hI 0) cw_X7_365 qi_X7_pagesOf qv_X7_pagesOf rfl hm.l0 hm.s0 (dk_at ktX7_wear_0 22 rfl) rfl rfl (Nat.le_of_ble_eq_true rfl) (by decide) (b := 39) rfl (fun v41 I38 J39 q40 => ?_)
        obtain ⟨rfl, rfl, rfl⟩ := q40
        refine rc_p (p_iconst (v := 1) (dk_at ktX7_wear_0 23 rfl) (by decide) (b := 40) rfl) ?_
        refine rc_p (p_isub (v := ((nI (pgN σ 0)) - 1)) (dk_at ktX7_wear_0 24 rfl) rfl (b := 41) rfl) ?_
        refine rc_p (p_i2l (v := (Int32.toInt64 ((nI (pgN σ 0)) - 1))) (dk_at ktX7_wear_0 25 rfl) rfl (b := 42) rfl) ?_
        refine r_iS (As := [.long (Int32.toInt64 p), .long 0, .long (Int32.toInt64 ((nI (pgN σ 0)) - 1))]) (rest := [.ref m]) (s_X7_in (Int32.toInt64 p) 0 (Int32.toInt64 ((nI (pgN σ 0)) - 1))) cw_X7_73 qs_X7_in (dk_at ktX7_wear_0 26 rfl) rfl rfl (Nat.le_of_ble_eq_true rfl) (by decide) (b := 45) rfl (fun v45 I42 J43 q44 => ?_)
        obtain ⟨rfl, rfl, rfl⟩ := q44
        refine r_val (y := bi (inI p 0 ((nI (pgN σ 0)) - 1))) (congrArg bi (inJ_I p 0 ((nI (pgN σ 0)) - 1))) ?_
        refine r_val (y := 0) (by rw [hib]; rfl) ?_
        refine r_if_ne (dk_at ktX7_wear_0 27 rfl) (b := 52) (by decide) (b2 := 48) rfl (fun c45 => ?_) (fun c45 => ?_)
        · first | exact absurd c45 (by decide) | exact absurd (by decide) c45
        · skip
          refine rc_p (p_iconst (v := 1) (dk_at ktX7_wear_0 28 rfl) (by decide) (b := 49) rfl) ?_
          refine rc_p (p_goto (b := 53) (dk_at ktX7_wear_0 29 rfl) (by decide)) ?_
          refine rc_p (p_iconst (v := 2) (dk_at ktX7_wear_0 31 rfl) (by decide) (b := 54) rfl) ?_
          refine r_iV (As' := [.int 1, .int 2]) (rest := []) (s_X7_throwsIf hm (σ := σ) hR35 hI h637 true 2 (by decide)) cw_X7_190 qi_X7_throwsIf qv_X7_throwsIf rfl hm.l0 hm.s0 (dk_at ktX7_wear_0 32 rfl) rfl rfl (Nat.le_of_ble_eq_true rfl) (by decide) (b := 57) rfl (fun v49 I46 J47 q48 => ?_)
          obtain ⟨rfl, rfl, hR50, hF51, h652⟩ := q48
          refine r_val (y := 1) rfl ?_
          refine r_if_eq (dk_at ktX7_wear_0 33 rfl) (b := 62) (by decide) (b2 := 60) rfl (fun c57 => ?_) (fun c57 => ?_)
          · first | exact absurd c57 (by decide) | exact absurd (by decide) c57
          · skip
            refine rc_p (p_iconst (v := 0) (dk_at ktX7_wear_0 34 rfl) (by decide) (b := 61) rfl) ?_
            refine r_iret (dk_at ktX7_wear_0 35 rfl) rfl rfl ⟨_, rfl, ?_⟩
            have hcd : cWear σ 0 p = 2 := (if_pos (by decide)).trans (if_neg (by rw [hi]; decide))
            refine ⟨fun hz => ?_, ?_, rfl, ?_, (FF.tr (FF.tr (FF.uf FF.rf (by decide)) (hF36.mo (by decide) (by decide))) (hF51.mo (by decide) (by decide)))⟩
            · exact absurd (hz.symm.trans hcd) (by decide)
            · exact Eq.trans h652 (by exact hcd.symm)
            · exact hR50
    · first | exact absurd c15 (by decide) | exact absurd (by decide) c15
  · have hpg := pgN_16 hI 1
    have hib : inI (nI j) 0 (nI (pgN σ 1) - 1) = true := (inb_inI (by omega)).trans (inb_t hj (by omega))
    refine Sp.of (by decide) (ls := [(0, .ref m), (1, .int 1), (2, .int (nI j))]) (fun _ => rfl) (fun _ => Nat.le_of_ble_eq_true rfl) ?_
    refine rc_p (p_aload_n 0 (dk_at ktX7_wear_0 0 rfl) rfl rfl (b := 1) rfl) ?_
    refine rc_p (p_iconst (v := 0) (dk_at ktX7_wear_0 1 rfl) (by decide) (b := 2) rfl) ?_
    refine r_puti fl_X7_46 fw_X7_6 rfl hm.l0 hm.s0 rfl rfl (dk_at ktX7_wear_0 2 rfl) (b := 5) rfl ?_
    refine rc_p (p_aload_n 0 (dk_at ktX7_wear_0 3 rfl) rfl rfl (b := 6) rfl) ?_
    refine rc_p (p_iload_n 1 (dk_at ktX7_wear_0 4 rfl) rfl rfl (b := 7) rfl) ?_
    refine rc_p (p_i2l (v := (Int32.toInt64 1)) (dk_at ktX7_wear_0 5 rfl) rfl (b := 8) rfl) ?_
    refine rc_p (p_lconst (v := 0) (dk_at ktX7_wear_0 6 rfl) (by decide) (b := 9) rfl) ?_
    refine rc_p (p_ldc2 (v := 2) ql_TwinBootModel_214 (dk_at ktX7_wear_0 7 rfl) (b := 12) rfl) ?_
    refine r_iS (As := [.long (Int32.toInt64 1), .long 0, .long 2]) (rest := [.ref m]) (s_X7_in (Int32.toInt64 1) 0 2) cw_X7_73 qs_X7_in (dk_at ktX7_wear_0 8 rfl) rfl rfl (Nat.le_of_ble_eq_true rfl) (by decide) (b := 15) rfl (fun v56 I53 J54 q55 => ?_)
    obtain ⟨rfl, rfl, rfl⟩ := q55
    refine r_val (y := bi (inI 1 0 2)) (congrArg bi (inJ_I 1 0 2)) ?_
    refine r_val (y := 1) (by decide) ?_
    refine r_if_ne (dk_at ktX7_wear_0 9 rfl) (b := 22) (by decide) (b2 := 18) rfl (fun c15 => ?_) (fun c15 => ?_)
    · skip
      refine rc_p (p_iconst (v := 0) (dk_at ktX7_wear_0 12 rfl) (by decide) (b := 23) rfl) ?_
      refine rc_p (p_iconst (v := 1) (dk_at ktX7_wear_0 13 rfl) (by decide) (b := 24) rfl) ?_
      refine r_iV (As' := [.int 0, .int 1]) (rest := []) (s_X7_throwsIf hm (σ := σ) (by rw [up2_off (by omega)]; exact hR) hI up2_s false 1 (by decide)) cw_X7_190 qi_X7_throwsIf qv_X7_throwsIf rfl hm.l0 hm.s0 (dk_at ktX7_wear_0 14 rfl) rfl rfl (Nat.le_of_ble_eq_true rfl) (by decide) (b := 27) rfl (fun v60 I57 J58 q59 => ?_)
      obtain ⟨rfl, rfl, hR61, hF62, h663⟩ := q59
      refine r_val (y := 0) rfl ?_
      refine r_if_ne (dk_at ktX7_wear_0 15 rfl) (b := 60) (by decide) (b2 := 30) rfl (fun c27 => ?_) (fun c27 => ?_)
      · first | exact absurd c27 (by decide) | exact absurd (by decide) c27
      · skip
        refine rc_p (p_aload_n 0 (dk_at ktX7_wear_0 16 rfl) rfl rfl (b := 31) rfl) ?_
        refine rc_p (p_iload_n 2 (dk_at ktX7_wear_0 17 rfl) rfl rfl (b := 32) rfl) ?_
        refine rc_p (p_i2l (v := (Int32.toInt64 (nI j))) (dk_at ktX7_wear_0 18 rfl) rfl (b := 33) rfl) ?_
        refine rc_p (p_lconst (v := 0) (dk_at ktX7_wear_0 19 rfl) (by decide) (b := 34) rfl) ?_
        refine rc_p (p_aload_n 0 (dk_at ktX7_wear_0 20 rfl) rfl rfl (b := 35) rfl) ?_
        refine rc_p (p_iload_n 1 (dk_at ktX7_wear_0 21 rfl) rfl rfl (b := 36) rfl) ?_
        refine r_iV (As' := [.int 1]) (rest := [.long 0, .long (Int32.toInt64 (nI j)), .ref m]) (s_X7_pagesOf hm (σ := σ) hR61 hI 1) cw_X7_365 qi_X7_pagesOf qv_X7_pagesOf rfl hm.l0 hm.s0 (dk_at ktX7_wear_0 22 rfl) rfl rfl (Nat.le_of_ble_eq_true rfl) (by decide) (b := 39) rfl (fun v67 I64 J65 q66 => ?_)
        obtain ⟨rfl, rfl, rfl⟩ := q66
        refine rc_p (p_iconst (v := 1) (dk_at ktX7_wear_0 23 rfl) (by decide) (b := 40) rfl) ?_
        refine rc_p (p_isub (v := ((nI (pgN σ 1)) - 1)) (dk_at ktX7_wear_0 24 rfl) rfl (b := 41) rfl) ?_
        refine rc_p (p_i2l (v := (Int32.toInt64 ((nI (pgN σ 1)) - 1))) (dk_at ktX7_wear_0 25 rfl) rfl (b := 42) rfl) ?_
        refine r_iS (As := [.long (Int32.toInt64 (nI j)), .long 0, .long (Int32.toInt64 ((nI (pgN σ 1)) - 1))]) (rest := [.ref m]) (s_X7_in (Int32.toInt64 (nI j)) 0 (Int32.toInt64 ((nI (pgN σ 1)) - 1))) cw_X7_73 qs_X7_in (dk_at ktX7_wear_0 26 rfl) rfl rfl (Nat.le_of_ble_eq_true rfl) (by decide) (b := 45) rfl (fun v71 I68 J69 q70 => ?_)
        obtain ⟨rfl, rfl, rfl⟩ := q70
        refine r_val (y := bi (inI (nI j) 0 ((nI (pgN σ 1)) - 1))) (congrArg bi (inJ_I (nI j) 0 ((nI (pgN σ 1)) - 1))) ?_
        refine r_val (y := 1) (by rw [hib]; rfl) ?_
        refine r_if_ne (dk_at ktX7_wear_0 27 rfl) (b := 52) (by decide) (b2 := 48) rfl (fun c45 => ?_) (fun c45 => ?_)
        · skip
          refine rc_p (p_iconst (v := 0) (dk_at ktX7_wear_0 30 rfl) (by decide) (b := 53) rfl) ?_
          refine rc_p (p_iconst (v := 2) (dk_at ktX7_wear_0 31 rfl) (by decide) (b := 54) rfl) ?_
          refine r_iV (As' := [.int 0, .int 2]) (rest := []) (s_X7_throwsIf hm (σ := σ) hR61 hI h663 false 2 (by decide)) cw_X7_190 qi_X7_throwsIf qv_X7_throwsIf rfl hm.l0 hm.s0 (dk_at ktX7_wear_0 32 rfl) rfl rfl (Nat.le_of_ble_eq_true rfl) (by decide) (b := 57) rfl (fun v75 I72 J73 q74 => ?_)
          obtain ⟨rfl, rfl, hR76, hF77, h678⟩ := q74
          refine r_val (y := 0) rfl ?_
          refine r_if_eq (dk_at ktX7_wear_0 33 rfl) (b := 62) (by decide) (b2 := 60) rfl (fun c57 => ?_) (fun c57 => ?_)
          · skip
            refine rc_p (p_aload_n 0 (dk_at ktX7_wear_0 36 rfl) rfl rfl (b := 63) rfl) ?_
            refine r_geta fl_X7_9 rfl hm.l0 hm.s0 (dk_at ktX7_wear_0 37 rfl) hm.g0_0 (b := 66) rfl ?_
            refine rc_p (p_sipush (v := 275) (dk_at ktX7_wear_0 38 rfl) (by decide) (b := 69) rfl) ?_
            refine rc_p (p_bipush (v := 16) (dk_at ktX7_wear_0 39 rfl) (by decide) (b := 71) rfl) ?_
            refine rc_p (p_iload_n 1 (dk_at ktX7_wear_0 40 rfl) rfl rfl (b := 72) rfl) ?_
            refine rc_p (p_imul (v := 16) (dk_at ktX7_wear_0 41 rfl) rfl (b := 73) rfl) ?_
            refine rc_p (p_iadd (v := 291) (dk_at ktX7_wear_0 42 rfl) rfl (b := 74) rfl) ?_
            refine rc_p (p_iload_n 2 (dk_at ktX7_wear_0 43 rfl) rfl rfl (b := 75) rfl) ?_
            refine rc_p (p_iadd (v := (nI (291 + j))) (dk_at ktX7_wear_0 44 rfl) (nI_add 291 j) (b := 76) rfl) ?_
            refine r_iald (j := 291 + j) (hm.lt 1 (by decide)) hm.s1 (dk_at ktX7_wear_0 45 rfl) rfl ⟨by omega, by decide⟩ (v := (σ (291 + j))) (hR76.1 (291 + j) (by omega)) (b := 77) rfl ?_
            refine r_iret (dk_at ktX7_wear_0 46 rfl) rfl rfl ⟨_, rfl, ?_⟩
            have hcd : cWear σ 1 (nI j) = 0 := (if_pos (by decide)).trans (if_pos (inb_t hj (by omega)))
            refine ⟨fun hz => ?_, ?_, rfl, ?_, (FF.tr (FF.tr (FF.uf FF.rf (by decide)) (hF62.mo (by decide) (by decide))) (hF77.mo (by decide) (by decide)))⟩
            · exact congrArg σ (by (rw [tn_nI (by omega), show tn 1 = 1 from rfl]) <;> omega)
            · exact Eq.trans h678 (by exact hcd.symm)
            · exact hR76
          · first | exact absurd c57 (by decide) | exact absurd (by decide) c57
        · first | exact absurd c45 (by decide) | exact absurd (by decide) c45
    · first | exact absurd c15 (by decide) | exact absurd (by decide) c15
  · have hpg := pgN_16 hI 1
    have hib : inI p 0 (nI (pgN σ 1) - 1) = false := (inb_inI (by omega)).trans hi
    refine Sp.of (by decide) (ls := [(0, .ref m), (1, .int 1), (2, .int p)]) (fun _ => rfl) (fun _ => Nat.le_of_ble_eq_true rfl) ?_
    refine rc_p (p_aload_n 0 (dk_at ktX7_wear_0 0 rfl) rfl rfl (b := 1) rfl) ?_
    refine rc_p (p_iconst (v := 0) (dk_at ktX7_wear_0 1 rfl) (by decide) (b := 2) rfl) ?_
    refine r_puti fl_X7_46 fw_X7_6 rfl hm.l0 hm.s0 rfl rfl (dk_at ktX7_wear_0 2 rfl) (b := 5) rfl ?_
    refine rc_p (p_aload_n 0 (dk_at ktX7_wear_0 3 rfl) rfl rfl (b := 6) rfl) ?_
    refine rc_p (p_iload_n 1 (dk_at ktX7_wear_0 4 rfl) rfl rfl (b := 7) rfl) ?_
    refine rc_p (p_i2l (v := (Int32.toInt64 1)) (dk_at ktX7_wear_0 5 rfl) rfl (b := 8) rfl) ?_
    refine rc_p (p_lconst (v := 0) (dk_at ktX7_wear_0 6 rfl) (by decide) (b := 9) rfl) ?_
    refine rc_p (p_ldc2 (v := 2) ql_TwinBootModel_214 (dk_at ktX7_wear_0 7 rfl) (b := 12) rfl) ?_
    refine r_iS (As := [.long (Int32.toInt64 1), .long 0, .long 2]) (rest := [.ref m]) (s_X7_in (Int32.toInt64 1) 0 2) cw_X7_73 qs_X7_in (dk_at ktX7_wear_0 8 rfl) rfl rfl (Nat.le_of_ble_eq_true rfl) (by decide) (b := 15) rfl (fun v82 I79 J80 q81 => ?_)
    obtain ⟨rfl, rfl, rfl⟩ := q81
    refine r_val (y := bi (inI 1 0 2)) (congrArg bi (inJ_I 1 0 2)) ?_
    refine r_val (y := 1) (by decide) ?_
    refine r_if_ne (dk_at ktX7_wear_0 9 rfl) (b := 22) (by decide) (b2 := 18) rfl (fun c15 => ?_) (fun c15 => ?_)
    · skip
      refine rc_p (p_iconst (v := 0) (dk_at ktX7_wear_0 12 rfl) (by decide) (b := 23) rfl) ?_
      refine rc_p (p_iconst (v := 1) (dk_at ktX7_wear_0 13 rfl) (by decide) (b := 24) rfl) ?_
      refine r_iV (As' := [.int 0, .int 1]) (rest := []) (s_X7_throwsIf hm (σ := σ) (by rw [up2_off (by omega)]; exact hR) hI up2_s false 1 (by decide)) cw_X7_190 qi_X7_throwsIf qv_X7_throwsIf rfl hm.l0 hm.s0 (dk_at ktX7_wear_0 14 rfl) rfl rfl (Nat.le_of_ble_eq_true rfl) (by decide) (b := 27) rfl (fun v86 I83 J84 q85 => ?_)
      obtain ⟨rfl, rfl, hR87, hF88, h689⟩ := q85
      refine r_val (y := 0) rfl ?_
      refine r_if_ne (dk_at ktX7_wear_0 15 rfl) (b := 60) (by decide) (b2 := 30) rfl (fun c27 => ?_) (fun c27 => ?_)
      · first | exact absurd c27 (by decide) | exact absurd (by decide) c27
      · skip
        refine rc_p (p_aload_n 0 (dk_at ktX7_wear_0 16 rfl) rfl rfl (b := 31) rfl) ?_
        refine rc_p (p_iload_n 2 (dk_at ktX7_wear_0 17 rfl) rfl rfl (b := 32) rfl) ?_
        refine rc_p (p_i2l (v := (Int32.toInt64 p)) (dk_at ktX7_wear_0 18 rfl) rfl (b := 33) rfl) ?_
        refine rc_p (p_lconst (v := 0) (dk_at ktX7_wear_0 19 rfl) (by decide) (b := 34) rfl) ?_
        refine rc_p (p_aload_n 0 (dk_at ktX7_wear_0 20 rfl) rfl rfl (b := 35) rfl) ?_
        refine rc_p (p_iload_n 1 (dk_at ktX7_wear_0 21 rfl) rfl rfl (b := 36) rfl) ?_
        refine r_iV (As' := [.int 1]) (rest := [.long 0, .long (Int32.toInt64 p), .ref m]) (s_X7_pagesOf hm (σ := σ) hR87 hI 1) cw_X7_365 qi_X7_pagesOf qv_X7_pagesOf rfl hm.l0 hm.s0 (dk_at ktX7_wear_0 22 rfl) rfl rfl (Nat.le_of_ble_eq_true rfl) (by decide) (b := 39) rfl (fun v93 I90 J91 q92 => ?_)
        obtain ⟨rfl, rfl, rfl⟩ := q92
        refine rc_p (p_iconst (v := 1) (dk_at ktX7_wear_0 23 rfl) (by decide) (b := 40) rfl) ?_
        refine rc_p (p_isub (v := ((nI (pgN σ 1)) - 1)) (dk_at ktX7_wear_0 24 rfl) rfl (b := 41) rfl) ?_
        refine rc_p (p_i2l (v := (Int32.toInt64 ((nI (pgN σ 1)) - 1))) (dk_at ktX7_wear_0 25 rfl) rfl (b := 42) rfl) ?_
        refine r_iS (As := [.long (Int32.toInt64 p), .long 0, .long (Int32.toInt64 ((nI (pgN σ 1)) - 1))]) (rest := [.ref m]) (s_X7_in (Int32.toInt64 p) 0 (Int32.toInt64 ((nI (pgN σ 1)) - 1))) cw_X7_73 qs_X7_in (dk_at ktX7_wear_0 26 rfl) rfl rfl (Nat.le_of_ble_eq_true rfl) (by decide) (b := 45) rfl (fun v97 I94 J95 q96 => ?_)
        obtain ⟨rfl, rfl, rfl⟩ := q96
        refine r_val (y := bi (inI p 0 ((nI (pgN σ 1)) - 1))) (congrArg bi (inJ_I p 0 ((nI (pgN σ 1)) - 1))) ?_
        refine r_val (y := 0) (by rw [hib]; rfl) ?_
        refine r_if_ne (dk_at ktX7_wear_0 27 rfl) (b := 52) (by decide) (b2 := 48) rfl (fun c45 => ?_) (fun c45 => ?_)
        · first | exact absurd c45 (by decide) | exact absurd (by decide) c45
        · skip
          refine rc_p (p_iconst (v := 1) (dk_at ktX7_wear_0 28 rfl) (by decide) (b := 49) rfl) ?_
          refine rc_p (p_goto (b := 53) (dk_at ktX7_wear_0 29 rfl) (by decide)) ?_
          refine rc_p (p_iconst (v := 2) (dk_at ktX7_wear_0 31 rfl) (by decide) (b := 54) rfl) ?_
          refine r_iV (As' := [.int 1, .int 2]) (rest := []) (s_X7_throwsIf hm (σ := σ) hR87 hI h689 true 2 (by decide)) cw_X7_190 qi_X7_throwsIf qv_X7_throwsIf rfl hm.l0 hm.s0 (dk_at ktX7_wear_0 32 rfl) rfl rfl (Nat.le_of_ble_eq_true rfl) (by decide) (b := 57) rfl (fun v101 I98 J99 q100 => ?_)
          obtain ⟨rfl, rfl, hR102, hF103, h6104⟩ := q100
          refine r_val (y := 1) rfl ?_
          refine r_if_eq (dk_at ktX7_wear_0 33 rfl) (b := 62) (by decide) (b2 := 60) rfl (fun c57 => ?_) (fun c57 => ?_)
          · first | exact absurd c57 (by decide) | exact absurd (by decide) c57
          · skip
            refine rc_p (p_iconst (v := 0) (dk_at ktX7_wear_0 34 rfl) (by decide) (b := 61) rfl) ?_
            refine r_iret (dk_at ktX7_wear_0 35 rfl) rfl rfl ⟨_, rfl, ?_⟩
            have hcd : cWear σ 1 p = 2 := (if_pos (by decide)).trans (if_neg (by rw [hi]; decide))
            refine ⟨fun hz => ?_, ?_, rfl, ?_, (FF.tr (FF.tr (FF.uf FF.rf (by decide)) (hF88.mo (by decide) (by decide))) (hF103.mo (by decide) (by decide)))⟩
            · exact absurd (hz.symm.trans hcd) (by decide)
            · exact Eq.trans h6104 (by exact hcd.symm)
            · exact hR102
    · first | exact absurd c15 (by decide) | exact absurd (by decide) c15
  · have hpg := pgN_16 hI 2
    have hp2 : pgN σ 2 = 2 := pgN_2
    have hib : inI (nI j) 0 (nI (pgN σ 2) - 1) = true := (inb_inI (by omega)).trans (inb_t hj (by omega))
    refine Sp.of (by decide) (ls := [(0, .ref m), (1, .int 2), (2, .int (nI j))]) (fun _ => rfl) (fun _ => Nat.le_of_ble_eq_true rfl) ?_
    refine rc_p (p_aload_n 0 (dk_at ktX7_wear_0 0 rfl) rfl rfl (b := 1) rfl) ?_
    refine rc_p (p_iconst (v := 0) (dk_at ktX7_wear_0 1 rfl) (by decide) (b := 2) rfl) ?_
    refine r_puti fl_X7_46 fw_X7_6 rfl hm.l0 hm.s0 rfl rfl (dk_at ktX7_wear_0 2 rfl) (b := 5) rfl ?_
    refine rc_p (p_aload_n 0 (dk_at ktX7_wear_0 3 rfl) rfl rfl (b := 6) rfl) ?_
    refine rc_p (p_iload_n 1 (dk_at ktX7_wear_0 4 rfl) rfl rfl (b := 7) rfl) ?_
    refine rc_p (p_i2l (v := (Int32.toInt64 2)) (dk_at ktX7_wear_0 5 rfl) rfl (b := 8) rfl) ?_
    refine rc_p (p_lconst (v := 0) (dk_at ktX7_wear_0 6 rfl) (by decide) (b := 9) rfl) ?_
    refine rc_p (p_ldc2 (v := 2) ql_TwinBootModel_214 (dk_at ktX7_wear_0 7 rfl) (b := 12) rfl) ?_
    refine r_iS (As := [.long (Int32.toInt64 2), .long 0, .long 2]) (rest := [.ref m]) (s_X7_in (Int32.toInt64 2) 0 2) cw_X7_73 qs_X7_in (dk_at ktX7_wear_0 8 rfl) rfl rfl (Nat.le_of_ble_eq_true rfl) (by decide) (b := 15) rfl (fun v108 I105 J106 q107 => ?_)
    obtain ⟨rfl, rfl, rfl⟩ := q107
    refine r_val (y := bi (inI 2 0 2)) (congrArg bi (inJ_I 2 0 2)) ?_
    refine r_val (y := 1) (by decide) ?_
    refine r_if_ne (dk_at ktX7_wear_0 9 rfl) (b := 22) (by decide) (b2 := 18) rfl (fun c15 => ?_) (fun c15 => ?_)
    · skip
      refine rc_p (p_iconst (v := 0) (dk_at ktX7_wear_0 12 rfl) (by decide) (b := 23) rfl) ?_
      refine rc_p (p_iconst (v := 1) (dk_at ktX7_wear_0 13 rfl) (by decide) (b := 24) rfl) ?_
      refine r_iV (As' := [.int 0, .int 1]) (rest := []) (s_X7_throwsIf hm (σ := σ) (by rw [up2_off (by omega)]; exact hR) hI up2_s false 1 (by decide)) cw_X7_190 qi_X7_throwsIf qv_X7_throwsIf rfl hm.l0 hm.s0 (dk_at ktX7_wear_0 14 rfl) rfl rfl (Nat.le_of_ble_eq_true rfl) (by decide) (b := 27) rfl (fun v112 I109 J110 q111 => ?_)
      obtain ⟨rfl, rfl, hR113, hF114, h6115⟩ := q111
      refine r_val (y := 0) rfl ?_
      refine r_if_ne (dk_at ktX7_wear_0 15 rfl) (b := 60) (by decide) (b2 := 30) rfl (fun c27 => ?_) (fun c27 => ?_)
      · first | exact absurd c27 (by decide) | exact absurd (by decide) c27
      · skip
        refine rc_p (p_aload_n 0 (dk_at ktX7_wear_0 16 rfl) rfl rfl (b := 31) rfl) ?_
        refine rc_p (p_iload_n 2 (dk_at ktX7_wear_0 17 rfl) rfl rfl (b := 32) rfl) ?_
        refine rc_p (p_i2l (v := (Int32.toInt64 (nI j))) (dk_at ktX7_wear_0 18 rfl) rfl (b := 33) rfl) ?_
        refine rc_p (p_lconst (v := 0) (dk_at ktX7_wear_0 19 rfl) (by decide) (b := 34) rfl) ?_
        refine rc_p (p_aload_n 0 (dk_at ktX7_wear_0 20 rfl) rfl rfl (b := 35) rfl) ?_
        refine rc_p (p_iload_n 1 (dk_at ktX7_wear_0 21 rfl) rfl rfl (b := 36) rfl) ?_
        refine r_iV (As' := [.int 2]) (rest := [.long 0, .long (Int32.toInt64 (nI j)), .ref m]) (s_X7_pagesOf hm (σ := σ) hR113 hI 2) cw_X7_365 qi_X7_pagesOf qv_X7_pagesOf rfl hm.l0 hm.s0 (dk_at ktX7_wear_0 22 rfl) rfl rfl (Nat.le_of_ble_eq_true rfl) (by decide) (b := 39) rfl (fun v119 I116 J117 q118 => ?_)
        obtain ⟨rfl, rfl, rfl⟩ := q118
        refine rc_p (p_iconst (v := 1) (dk_at ktX7_wear_0 23 rfl) (by decide) (b := 40) rfl) ?_
        refine rc_p (p_isub (v := ((nI (pgN σ 2)) - 1)) (dk_at ktX7_wear_0 24 rfl) rfl (b := 41) rfl) ?_
        refine rc_p (p_i2l (v := (Int32.toInt64 ((nI (pgN σ 2)) - 1))) (dk_at ktX7_wear_0 25 rfl) rfl (b := 42) rfl) ?_
        refine r_iS (As := [.long (Int32.toInt64 (nI j)), .long 0, .long (Int32.toInt64 ((nI (pgN σ 2)) - 1))]) (rest := [.ref m]) (s_X7_in (Int32.toInt64 (nI j)) 0 (Int32.toInt64 ((nI (pgN σ 2)) - 1))) cw_X7_73 qs_X7_in (dk_at ktX7_wear_0 26 rfl) rfl rfl (Nat.le_of_ble_eq_true rfl) (by decide) (b := 45) rfl (fun v123 I120 J121 q122 => ?_)
        obtain ⟨rfl, rfl, rfl⟩ := q122
        refine r_val (y := bi (inI (nI j) 0 ((nI (pgN σ 2)) - 1))) (congrArg bi (inJ_I (nI j) 0 ((nI (pgN σ 2)) - 1))) ?_
        refine r_val (y := 1) (by rw [hib]; rfl) ?_
        refine r_if_ne (dk_at ktX7_wear_0 27 rfl) (b := 52) (by decide) (b2 := 48) rfl (fun c45 => ?_) (fun c45 => ?_)
        · skip
          refine rc_p (p_iconst (v := 0) (dk_at ktX7_wear_0 30 rfl) (by decide) (b := 53) rfl) ?_
          refine rc_p (p_iconst (v := 2) (dk_at ktX7_wear_0 31 rfl) (by decide) (b := 54) rfl) ?_
          refine r_iV (As' := [.int 0, .int 2]) (rest := []) (s_X7_throwsIf hm (σ := σ) hR113 hI h6115 false 2 (by decide)) cw_X7_190 qi_X7_throwsIf qv_X7_throwsIf rfl hm.l0 hm.s0 (dk_at ktX7_wear_0 32 rfl) rfl rfl (Nat.le_of_ble_eq_true rfl) (by decide) (b := 57) rfl (fun v127 I124 J125 q126 => ?_)
          obtain ⟨rfl, rfl, hR128, hF129, h6130⟩ := q126
          refine r_val (y := 0) rfl ?_
          refine r_if_eq (dk_at ktX7_wear_0 33 rfl) (b := 62) (by decide) (b2 := 60) rfl (fun c57 => ?_) (fun c57 => ?_)
          · skip
            refine rc_p (p_aload_n 0 (dk_at ktX7_wear_0 36 rfl) rfl rfl (b := 63) rfl) ?_
            refine r_geta fl_X7_9 rfl hm.l0 hm.s0 (dk_at ktX7_wear_0 37 rfl) hm.g0_0 (b := 66) rfl ?_
            refine rc_p (p_sipush (v := 275) (dk_at ktX7_wear_0 38 rfl) (by decide) (b := 69) rfl) ?_
            refine rc_p (p_bipush (v := 16) (dk_at ktX7_wear_0 39 rfl) (by decide) (b := 71) rfl) ?_
            refine rc_p (p_iload_n 1 (dk_at ktX7_wear_0 40 rfl) rfl rfl (b := 72) rfl) ?_
            refine rc_p (p_imul (v := 32) (dk_at ktX7_wear_0 41 rfl) rfl (b := 73) rfl) ?_
            refine rc_p (p_iadd (v := 307) (dk_at ktX7_wear_0 42 rfl) rfl (b := 74) rfl) ?_
            refine rc_p (p_iload_n 2 (dk_at ktX7_wear_0 43 rfl) rfl rfl (b := 75) rfl) ?_
            refine rc_p (p_iadd (v := (nI (307 + j))) (dk_at ktX7_wear_0 44 rfl) (nI_add 307 j) (b := 76) rfl) ?_
            refine r_iald (j := 307 + j) (hm.lt 1 (by decide)) hm.s1 (dk_at ktX7_wear_0 45 rfl) rfl ⟨by omega, by decide⟩ (v := (σ (307 + j))) (hR128.1 (307 + j) (by omega)) (b := 77) rfl ?_
            refine r_iret (dk_at ktX7_wear_0 46 rfl) rfl rfl ⟨_, rfl, ?_⟩
            have hcd : cWear σ 2 (nI j) = 0 := (if_pos (by decide)).trans (if_pos (inb_t hj (by omega)))
            refine ⟨fun hz => ?_, ?_, rfl, ?_, (FF.tr (FF.tr (FF.uf FF.rf (by decide)) (hF114.mo (by decide) (by decide))) (hF129.mo (by decide) (by decide)))⟩
            · exact congrArg σ (by (rw [tn_nI (by omega), show tn 2 = 2 from rfl]) <;> omega)
            · exact Eq.trans h6130 (by exact hcd.symm)
            · exact hR128
          · first | exact absurd c57 (by decide) | exact absurd (by decide) c57
        · first | exact absurd c45 (by decide) | exact absurd (by decide) c45
    · first | exact absurd c15 (by decide) | exact absurd (by decide) c15
  · have hpg := pgN_16 hI 2
    have hp2 : pgN σ 2 = 2 := pgN_2
    have hib : inI p 0 (nI (pgN σ 2) - 1) = false := (inb_inI (by omega)).trans hi
    refine Sp.of (by decide) (ls := [(0, .ref m), (1, .int 2), (2, .int p)]) (fun _ => rfl) (fun _ => Nat.le_of_ble_eq_true rfl) ?_
    refine rc_p (p_aload_n 0 (dk_at ktX7_wear_0 0 rfl) rfl rfl (b := 1) rfl) ?_
    refine rc_p (p_iconst (v := 0) (dk_at ktX7_wear_0 1 rfl) (by decide) (b := 2) rfl) ?_
    refine r_puti fl_X7_46 fw_X7_6 rfl hm.l0 hm.s0 rfl rfl (dk_at ktX7_wear_0 2 rfl) (b := 5) rfl ?_
    refine rc_p (p_aload_n 0 (dk_at ktX7_wear_0 3 rfl) rfl rfl (b := 6) rfl) ?_
    refine rc_p (p_iload_n 1 (dk_at ktX7_wear_0 4 rfl) rfl rfl (b := 7) rfl) ?_
    refine rc_p (p_i2l (v := (Int32.toInt64 2)) (dk_at ktX7_wear_0 5 rfl) rfl (b := 8) rfl) ?_
    refine rc_p (p_lconst (v := 0) (dk_at ktX7_wear_0 6 rfl) (by decide) (b := 9) rfl) ?_
    refine rc_p (p_ldc2 (v := 2) ql_TwinBootModel_214 (dk_at ktX7_wear_0 7 rfl) (b := 12) rfl) ?_
    refine r_iS (As := [.long (Int32.toInt64 2), .long 0, .long 2]) (rest := [.ref m]) (s_X7_in (Int32.toInt64 2) 0 2) cw_X7_73 qs_X7_in (dk_at ktX7_wear_0 8 rfl) rfl rfl (Nat.le_of_ble_eq_true rfl) (by decide) (b := 15) rfl (fun v134 I131 J132 q133 => ?_)
    obtain ⟨rfl, rfl, rfl⟩ := q133
    refine r_val (y := bi (inI 2 0 2)) (congrArg bi (inJ_I 2 0 2)) ?_
    refine r_val (y := 1) (by decide) ?_
    refine r_if_ne (dk_at ktX7_wear_0 9 rfl) (b := 22) (by decide) (b2 := 18) rfl (fun c15 => ?_) (fun c15 => ?_)
    · skip
      refine rc_p (p_iconst (v := 0) (dk_at ktX7_wear_0 12 rfl) (by decide) (b := 23) rfl) ?_
      refine rc_p (p_iconst (v := 1) (dk_at ktX7_wear_0 13 rfl) (by decide) (b := 24) rfl) ?_
      refine r_iV (As' := [.int 0, .int 1]) (rest := []) (s_X7_throwsIf hm (σ := σ) (by rw [up2_off (by omega)]; exact hR) hI up2_s false 1 (by decide)) cw_X7_190 qi_X7_throwsIf qv_X7_throwsIf rfl hm.l0 hm.s0 (dk_at ktX7_wear_0 14 rfl) rfl rfl (Nat.le_of_ble_eq_true rfl) (by decide) (b := 27) rfl (fun v138 I135 J136 q137 => ?_)
      obtain ⟨rfl, rfl, hR139, hF140, h6141⟩ := q137
      refine r_val (y := 0) rfl ?_
      refine r_if_ne (dk_at ktX7_wear_0 15 rfl) (b := 60) (by decide) (b2 := 30) rfl (fun c27 => ?_) (fun c27 => ?_)
      · first | exact absurd c27 (by decide) | exact absurd (by decide) c27
      · skip
        refine rc_p (p_aload_n 0 (dk_at ktX7_wear_0 16 rfl) rfl rfl (b := 31) rfl) ?_
        refine rc_p (p_iload_n 2 (dk_at ktX7_wear_0 17 rfl) rfl rfl (b := 32) rfl) ?_
        refine rc_p (p_i2l (v := (Int32.toInt64 p)) (dk_at ktX7_wear_0 18 rfl) rfl (b := 33) rfl) ?_
        refine rc_p (p_lconst (v := 0) (dk_at ktX7_wear_0 19 rfl) (by decide) (b := 34) rfl) ?_
        refine rc_p (p_aload_n 0 (dk_at ktX7_wear_0 20 rfl) rfl rfl (b := 35) rfl) ?_
        refine rc_p (p_iload_n 1 (dk_at ktX7_wear_0 21 rfl) rfl rfl (b := 36) rfl) ?_
        refine r_iV (As' := [.int 2]) (rest := [.long 0, .long (Int32.toInt64 p), .ref m]) (s_X7_pagesOf hm (σ := σ) hR139 hI 2) cw_X7_365 qi_X7_pagesOf qv_X7_pagesOf rfl hm.l0 hm.s0 (dk_at ktX7_wear_0 22 rfl) rfl rfl (Nat.le_of_ble_eq_true rfl) (by decide) (b := 39) rfl (fun v145 I142 J143 q144 => ?_)
        obtain ⟨rfl, rfl, rfl⟩ := q144
        refine rc_p (p_iconst (v := 1) (dk_at ktX7_wear_0 23 rfl) (by decide) (b := 40) rfl) ?_
        refine rc_p (p_isub (v := ((nI (pgN σ 2)) - 1)) (dk_at ktX7_wear_0 24 rfl) rfl (b := 41) rfl) ?_
        refine rc_p (p_i2l (v := (Int32.toInt64 ((nI (pgN σ 2)) - 1))) (dk_at ktX7_wear_0 25 rfl) rfl (b := 42) rfl) ?_
        refine r_iS (As := [.long (Int32.toInt64 p), .long 0, .long (Int32.toInt64 ((nI (pgN σ 2)) - 1))]) (rest := [.ref m]) (s_X7_in (Int32.toInt64 p) 0 (Int32.toInt64 ((nI (pgN σ 2)) - 1))) cw_X7_73 qs_X7_in (dk_at ktX7_wear_0 26 rfl) rfl rfl (Nat.le_of_ble_eq_true rfl) (by decide) (b := 45) rfl (fun v149 I146 J147 q148 => ?_)
        obtain ⟨rfl, rfl, rfl⟩ := q148
        refine r_val (y := bi (inI p 0 ((nI (pgN σ 2)) - 1))) (congrArg bi (inJ_I p 0 ((nI (pgN σ 2)) - 1))) ?_
        refine r_val (y := 0) (by rw [hib]; rfl) ?_
        refine r_if_ne (dk_at ktX7_wear_0 27 rfl) (b := 52) (by decide) (b2 := 48) rfl (fun c45 => ?_) (fun c45 => ?_)
        · first | exact absurd c45 (by decide) | exact absurd (by decide) c45
        · skip
          refine rc_p (p_iconst (v := 1) (dk_at ktX7_wear_0 28 rfl) (by decide) (b := 49) rfl) ?_
          refine rc_p (p_goto (b := 53) (dk_at ktX7_wear_0 29 rfl) (by decide)) ?_
          refine rc_p (p_iconst (v := 2) (dk_at ktX7_wear_0 31 rfl) (by decide) (b := 54) rfl) ?_
          refine r_iV (As' := [.int 1, .int 2]) (rest := []) (s_X7_throwsIf hm (σ := σ) hR139 hI h6141 true 2 (by decide)) cw_X7_190 qi_X7_throwsIf qv_X7_throwsIf rfl hm.l0 hm.s0 (dk_at ktX7_wear_0 32 rfl) rfl rfl (Nat.le_of_ble_eq_true rfl) (by decide) (b := 57) rfl (fun v153 I150 J151 q152 => ?_)
          obtain ⟨rfl, rfl, hR154, hF155, h6156⟩ := q152
          refine r_val (y := 1) rfl ?_
          refine r_if_eq (dk_at ktX7_wear_0 33 rfl) (b := 62) (by decide) (b2 := 60) rfl (fun c57 => ?_) (fun c57 => ?_)
          · first | exact absurd c57 (by decide) | exact absurd (by decide) c57
          · skip
            refine rc_p (p_iconst (v := 0) (dk_at ktX7_wear_0 34 rfl) (by decide) (b := 61) rfl) ?_
            refine r_iret (dk_at ktX7_wear_0 35 rfl) rfl rfl ⟨_, rfl, ?_⟩
            have hcd : cWear σ 2 p = 2 := (if_pos (by decide)).trans (if_neg (by rw [hi]; decide))
            refine ⟨fun hz => ?_, ?_, rfl, ?_, (FF.tr (FF.tr (FF.uf FF.rf (by decide)) (hF140.mo (by decide) (by decide))) (hF155.mo (by decide) (by decide)))⟩
            · exact absurd (hz.symm.trans hcd) (by decide)
            · exact Eq.trans h6156 (by exact hcd.symm)
            · exact hR154
    · first | exact absurd c15 (by decide) | exact absurd (by decide) c15
  · refine Sp.of (by decide) (ls := [(0, .ref m), (1, .int a), (2, .int p)]) (fun _ => rfl) (fun _ => Nat.le_of_ble_eq_true rfl) ?_
    refine rc_p (p_aload_n 0 (dk_at ktX7_wear_0 0 rfl) rfl rfl (b := 1) rfl) ?_
    refine rc_p (p_iconst (v := 0) (dk_at ktX7_wear_0 1 rfl) (by decide) (b := 2) rfl) ?_
    refine r_puti fl_X7_46 fw_X7_6 rfl hm.l0 hm.s0 rfl rfl (dk_at ktX7_wear_0 2 rfl) (b := 5) rfl ?_
    refine rc_p (p_aload_n 0 (dk_at ktX7_wear_0 3 rfl) rfl rfl (b := 6) rfl) ?_
    refine rc_p (p_iload_n 1 (dk_at ktX7_wear_0 4 rfl) rfl rfl (b := 7) rfl) ?_
    refine rc_p (p_i2l (v := (Int32.toInt64 a)) (dk_at ktX7_wear_0 5 rfl) rfl (b := 8) rfl) ?_
    refine rc_p (p_lconst (v := 0) (dk_at ktX7_wear_0 6 rfl) (by decide) (b := 9) rfl) ?_
    refine rc_p (p_ldc2 (v := 2) ql_TwinBootModel_214 (dk_at ktX7_wear_0 7 rfl) (b := 12) rfl) ?_
    refine r_iS (As := [.long (Int32.toInt64 a), .long 0, .long 2]) (rest := [.ref m]) (s_X7_in (Int32.toInt64 a) 0 2) cw_X7_73 qs_X7_in (dk_at ktX7_wear_0 8 rfl) rfl rfl (Nat.le_of_ble_eq_true rfl) (by decide) (b := 15) rfl (fun v160 I157 J158 q159 => ?_)
    obtain ⟨rfl, rfl, rfl⟩ := q159
    refine r_val (y := bi (inI a 0 2)) (congrArg bi (inJ_I a 0 2)) ?_
    refine r_val (y := 0) (by rw [hw]; rfl) ?_
    refine r_if_ne (dk_at ktX7_wear_0 9 rfl) (b := 22) (by decide) (b2 := 18) rfl (fun c15 => ?_) (fun c15 => ?_)
    · first | exact absurd c15 (by decide) | exact absurd (by decide) c15
    · skip
      refine rc_p (p_iconst (v := 1) (dk_at ktX7_wear_0 10 rfl) (by decide) (b := 19) rfl) ?_
      refine rc_p (p_goto (b := 23) (dk_at ktX7_wear_0 11 rfl) (by decide)) ?_
      refine rc_p (p_iconst (v := 1) (dk_at ktX7_wear_0 13 rfl) (by decide) (b := 24) rfl) ?_
      refine r_iV (As' := [.int 1, .int 1]) (rest := []) (s_X7_throwsIf hm (σ := σ) (by rw [up2_off (by omega)]; exact hR) hI up2_s true 1 (by decide)) cw_X7_190 qi_X7_throwsIf qv_X7_throwsIf rfl hm.l0 hm.s0 (dk_at ktX7_wear_0 14 rfl) rfl rfl (Nat.le_of_ble_eq_true rfl) (by decide) (b := 27) rfl (fun v164 I161 J162 q163 => ?_)
      obtain ⟨rfl, rfl, hR165, hF166, h6167⟩ := q163
      refine r_val (y := 1) rfl ?_
      refine r_if_ne (dk_at ktX7_wear_0 15 rfl) (b := 60) (by decide) (b2 := 30) rfl (fun c27 => ?_) (fun c27 => ?_)
      · skip
        refine rc_p (p_iconst (v := 0) (dk_at ktX7_wear_0 34 rfl) (by decide) (b := 61) rfl) ?_
        refine r_iret (dk_at ktX7_wear_0 35 rfl) rfl rfl ⟨_, rfl, ?_⟩
        have hcd : cWear σ a p = 1 := if_neg (by rw [hw]; decide)
        refine ⟨fun hz => ?_, ?_, rfl, ?_, (FF.tr (FF.uf FF.rf (by decide)) (hF166.mo (by decide) (by decide)))⟩
        · exact absurd (hz.symm.trans hcd) (by decide)
        · exact Eq.trans h6167 (by exact hcd.symm)
        · exact hR165
      · first | exact absurd c27 (by decide) | exact absurd (by decide) c27
set_option maxRecDepth 4000 in
set_option maxHeartbeats 4000000 in
theorem s_X7_ones {n : Nat} {sh : mS} {G : mG} {I : mI} {J : mJ} (x : Int32) : Sp yX7_ones cX7_ones 3 (some FieldType.int) 1 48 0 0 [.int x] n sh G I J (Qi (fun r_ I_ J_ => onesI x 16 = r_ ∧ I = I_ ∧ J = J_)) nX := by
  refine Sp.of (by decide) (ls := [(0, .int x)]) (fun _ => rfl) (fun _ => Nat.le_of_ble_eq_true rfl) ?_
  have cut4 : ∀ (t k : Nat) (y : Int32), 16 - k < t → k ≤ 16 → y = onesI x k → Rc RX7 cX7_ones 3 (some FieldType.int) 1 48 0 0 n sh G (Qi (fun r_ I_ J_ => onesI x 16 = r_ ∧ I = I_ ∧ J = J_)) nX 0 0 4 [(1, .int y), (2, .int (nI k)), (0, .int x)] [] I J := by
    intro t
    induction t
    · intro k y h; omega
    rename_i t ih
    intro k y ht h1 hx
    refine rc_p (p_iload_n 1 (dk_at ktX7_ones_0 4 rfl) rfl rfl (b := 5) rfl) ?_
    refine rc_p (p_bipush (v := 16) (dk_at ktX7_ones_0 5 rfl) (by decide) (b := 7) rfl) ?_
    refine r_icmp_ge (dk_at ktX7_ones_0 6 rfl) (b := 24) (by decide) (b2 := 10) rfl (fun c7 => ?_) (fun c7 => ?_)
    · have c7 : 16 ≤ k := (nI_leI (a := 16) (b := k) (by omega) (by omega)).mp c7
      refine rc_p (p_iload_n 0 (dk_at ktX7_ones_0 17 rfl) rfl rfl (b := 25) rfl) ?_
      refine r_iret (dk_at ktX7_ones_0 18 rfl) rfl rfl ⟨_, rfl, ?_⟩
      refine ⟨?_, rfl, rfl⟩
      rw [hx, show k = 16 by omega]
    · have c7 : ¬ 16 ≤ k := fun h => c7 ((nI_leI (a := 16) (b := k) (by omega) (by omega)).mpr h)
      refine rc_p (p_iload_n 0 (dk_at ktX7_ones_0 7 rfl) rfl rfl (b := 11) rfl) ?_
      refine rc_p (p_iload_n 2 (dk_at ktX7_ones_0 8 rfl) rfl rfl (b := 12) rfl) ?_
      refine rc_p (p_iload_n 1 (dk_at ktX7_ones_0 9 rfl) rfl rfl (b := 13) rfl) ?_
      refine rc_p (p_ishr (v := (x >>> ((nI k) &&& 31))) (dk_at ktX7_ones_0 10 rfl) rfl (b := 14) rfl) ?_
      refine rc_p (p_iconst (v := 1) (dk_at ktX7_ones_0 11 rfl) (by decide) (b := 15) rfl) ?_
      refine rc_p (p_iand (v := ((x >>> ((nI k) &&& 31)) &&& 1)) (dk_at ktX7_ones_0 12 rfl) rfl (b := 16) rfl) ?_
      refine rc_p (p_iadd (v := (y + ((x >>> ((nI k) &&& 31)) &&& 1))) (dk_at ktX7_ones_0 13 rfl) rfl (b := 17) rfl) ?_
      refine rc_p (p_istore_n (ls' := [(1, .int (y + ((x >>> ((nI k) &&& 31)) &&& 1))), (2, .int (nI k)), (0, .int x)]) (dk_at ktX7_ones_0 14 rfl) rfl (by decide) rfl (b := 18) rfl) ?_
      refine rc_p (p_iinc (j := 1) (v := (nI (k + 1))) (ls' := [(2, .int (nI (k + 1))), (1, .int (y + ((x >>> ((nI k) &&& 31)) &&& 1))), (0, .int x)]) (dk_at ktX7_ones_0 15 rfl) rfl (nI_add k 1) (by decide) rfl (b := 21) rfl) ?_
      refine rc_p (p_goto (b := 4) (dk_at ktX7_ones_0 16 rfl) (by decide)) ?_
      refine rc_sub [1, 0, 2] (ls' := [(1, .int (y + ((x >>> ((nI k) &&& 31)) &&& 1))), (2, .int (nI (k + 1))), (0, .int x)]) rfl ?_
      exact ih (k + 1) _ (by omega) (by omega) (by rw [hx]; rfl)
  refine rc_p (p_iconst (v := 0) (dk_at ktX7_ones_0 0 rfl) (by decide) (b := 1) rfl) ?_
  refine rc_p (p_istore_n (ls' := [(1, .int 0), (0, .int x)]) (dk_at ktX7_ones_0 1 rfl) rfl (by decide) rfl (b := 2) rfl) ?_
  refine rc_p (p_iconst (v := 0) (dk_at ktX7_ones_0 2 rfl) (by decide) (b := 3) rfl) ?_
  refine rc_p (p_istore_n (ls' := [(2, .int 0), (1, .int 0), (0, .int x)]) (dk_at ktX7_ones_0 3 rfl) rfl (by decide) rfl (b := 4) rfl) ?_
  refine rc_sub [1, 0, 2] (ls' := [(1, .int 0), (2, .int 0), (0, .int x)]) rfl ?_
  exact cut4 1000 0 _ (by omega) (Nat.zero_le _) rfl
set_option maxRecDepth 4000 in
set_option maxHeartbeats 4000000 in
theorem s_X7_damages {n : Nat} {sh : mS} {G : mG} {I : mI} {J : mJ} {m : Nat} {σ : sT} (hm : ModG n sh G m) (hR : RelW (I (m + 1)) σ) (hI : Inv σ) (k : Nat) (h1 : 19 ≤ k) (h2 : k < 275) (v : Int32) : Sp yX7_damages cX7_damages 4 (some FieldType.int) 2 96 0 0 [.ref m, .int (nI k), .int v] n sh G I J (Qi (fun r_ I_ J_ => a_dam σ k v = r_ ∧ J = J_ ∧ RelW (I_ (m + 1)) (t_dam σ k v) ∧ FF m [1] [] I I_)) nX := by
  refine Sp.of (by decide) (ls := [(0, .ref m), (1, .int (nI k)), (2, .int v)]) (fun _ => rfl) (fun _ => Nat.le_of_ble_eq_true rfl) ?_
  refine rc_p (p_aload_n 0 (dk_at ktX7_damages_0 0 rfl) rfl rfl (b := 1) rfl) ?_
  refine r_geta fl_X7_9 rfl hm.l0 hm.s0 (dk_at ktX7_damages_0 1 rfl) hm.g0_0 (b := 4) rfl ?_
  refine rc_p (p_iload_n 1 (dk_at ktX7_damages_0 2 rfl) rfl rfl (b := 5) rfl) ?_
  refine r_iald (j := k) (hm.lt 1 (by decide)) hm.s1 (dk_at ktX7_damages_0 3 rfl) rfl ⟨by omega, by decide⟩ (v := (σ k)) (hR.1 k (by omega)) (b := 6) rfl ?_
  refine rc_p (p_iload_n 2 (dk_at ktX7_damages_0 4 rfl) rfl rfl (b := 7) rfl) ?_
  refine rc_p (p_iand (v := ((σ k) &&& v)) (dk_at ktX7_damages_0 5 rfl) rfl (b := 8) rfl) ?_
  refine rc_p (p_istore_n (ls' := [(3, .int ((σ k) &&& v)), (0, .ref m), (1, .int (nI k)), (2, .int v)]) (dk_at ktX7_damages_0 6 rfl) rfl (by decide) rfl (b := 9) rfl) ?_
  refine rc_p (p_aload_n 1 (dk_at ktX7_damages_0 7 rfl) rfl rfl (b := 10) rfl) ?_
  refine r_geta fl_X7_9 rfl hm.l0 hm.s0 (dk_at ktX7_damages_0 8 rfl) hm.g0_0 (b := 13) rfl ?_
  refine rc_p (p_iload_n 2 (dk_at ktX7_damages_0 9 rfl) rfl rfl (b := 14) rfl) ?_
  refine rc_p (p_dup2 (dk_at ktX7_damages_0 10 rfl) rfl rfl (b := 15) rfl) ?_
  refine r_iald (j := k) (hm.lt 1 (by decide)) hm.s1 (dk_at ktX7_damages_0 11 rfl) rfl ⟨by omega, by decide⟩ (v := (σ k)) (hR.1 k (by omega)) (b := 16) rfl ?_
  refine rc_p (p_iload_n 3 (dk_at ktX7_damages_0 12 rfl) rfl rfl (b := 17) rfl) ?_
  refine rc_p (p_iconst (v := (-1)) (dk_at ktX7_damages_0 13 rfl) (by decide) (b := 18) rfl) ?_
  refine rc_p (p_ixor (v := (v ^^^ (-1))) (dk_at ktX7_damages_0 14 rfl) rfl (b := 19) rfl) ?_
  refine rc_p (p_iand (v := ((σ k) &&& (v ^^^ (-1)))) (dk_at ktX7_damages_0 15 rfl) rfl (b := 20) rfl) ?_
  refine r_iast (j := k) (hm.lt 1 (by decide)) hm.s1 (dk_at ktX7_damages_0 16 rfl) rfl ⟨by omega, by decide⟩ (b := 21) rfl ?_
  refine rc_p (p_iload_n 0 (dk_at ktX7_damages_0 17 rfl) rfl rfl (b := 22) rfl) ?_
  refine r_iS (As := [.int ((σ k) &&& v)]) (rest := []) (s_X7_ones ((σ k) &&& v)) cw_X7_368 qs_X7_ones (dk_at ktX7_damages_0 18 rfl) rfl rfl (Nat.le_of_ble_eq_true rfl) (by decide) (b := 25) rfl (fun v4 I1 J2 q3 => ?_)
  obtain ⟨rfl, rfl, rfl⟩ := q3
  refine r_iret (dk_at ktX7_damages_0 19 rfl) rfl rfl ⟨_, rfl, ?_⟩
  exact ⟨rfl, rfl, (by rw [up2_row]; exact RelW.up hR (by first | decide | omega) (by first | decide | omega)), (FF.ua FF.rf (by decide) (by decide))⟩
set_option maxRecDepth 4000 in
set_option maxHeartbeats 4000000 in
theorem s_X7_noWord {n : Nat} {sh : mS} {G : mG} {I : mI} {J : mJ} {m : Nat} {σ : sT} (hm : ModG n sh G m) (hR : RelW (I (m + 1)) σ) (hI : Inv σ) (s i k : Int32) (q : Nat) (hn : q < 2 ^ 31) : Sp yX7_noWord cX7_noWord 5 (some FieldType.boolean) 2 96 0 0 [.ref m, .int s, .int i, .int k, .int (nI q)] n sh G I J (Qi (fun r_ I_ J_ => bi (!decide (cDam s i k q = 0)) = r_ ∧ J = J_ ∧ RelW (I_ (m + 1)) σ ∧ FF m [] [6] I I_ ∧ I_ m 6 = cDam s i k q)) nX := by
  refine Sp.of (by decide) (ls := [(0, .ref m), (1, .int s), (2, .int i), (3, .int k), (4, .int (nI q))]) (fun _ => rfl) (fun _ => Nat.le_of_ble_eq_true rfl) ?_
  refine rc_p (p_aload_n 0 (dk_at ktX7_noWord_0 0 rfl) rfl rfl (b := 1) rfl) ?_
  refine rc_p (p_iconst (v := 0) (dk_at ktX7_noWord_0 1 rfl) (by decide) (b := 2) rfl) ?_
  refine r_puti fl_X7_46 fw_X7_6 rfl hm.l0 hm.s0 rfl rfl (dk_at ktX7_noWord_0 2 rfl) (b := 5) rfl ?_
  refine rc_p (p_aload_n 0 (dk_at ktX7_noWord_0 3 rfl) rfl rfl (b := 6) rfl) ?_
  refine rc_p (p_iload_n 1 (dk_at ktX7_noWord_0 4 rfl) rfl rfl (b := 7) rfl) ?_
  refine rc_p (p_i2l (v := (Int32.toInt64 s)) (dk_at ktX7_noWord_0 5 rfl) rfl (b := 8) rfl) ?_
  refine rc_p (p_lconst (v := 0) (dk_at ktX7_noWord_0 6 rfl) (by decide) (b := 9) rfl) ?_
  refine rc_p (p_lconst (v := 1) (dk_at ktX7_noWord_0 7 rfl) (by decide) (b := 10) rfl) ?_
  refine r_iS (As := [.long (Int32.toInt64 s), .long 0, .long 1]) (rest := [.ref m]) (s_X7_in (Int32.toInt64 s) 0 1) cw_X7_73 qs_X7_in (dk_at ktX7_noWord_0 8 rfl) rfl rfl (Nat.le_of_ble_eq_true rfl) (by decide) (b := 13) rfl (fun v4 I1 J2 q3 => ?_)
  obtain ⟨rfl, rfl, rfl⟩ := q3
  refine r_val (y := bi (inI s 0 1)) (congrArg bi (inJ_I s 0 1)) ?_
  refine r_if_eq (dk_at ktX7_noWord_0 9 rfl) (b := 28) (by decide) (b2 := 16) rfl (fun c13 => ?_) (fun c13 => ?_)
  · have c13 := bi_f c13
    refine rc_p (p_iconst (v := 1) (dk_at ktX7_noWord_0 16 rfl) (by decide) (b := 29) rfl) ?_
    refine rc_p (p_goto (b := 33) (dk_at ktX7_noWord_0 17 rfl) (by decide)) ?_
    refine rc_p (p_iconst (v := 1) (dk_at ktX7_noWord_0 19 rfl) (by decide) (b := 34) rfl) ?_
    refine r_iV (As' := [.int 1, .int 1]) (rest := []) (s_X7_throwsIf hm (σ := σ) (by rw [up2_off (by omega)]; exact hR) hI up2_s true 1 (by decide)) cw_X7_190 qi_X7_throwsIf qv_X7_throwsIf rfl hm.l0 hm.s0 (dk_at ktX7_noWord_0 20 rfl) rfl rfl (Nat.le_of_ble_eq_true rfl) (by decide) (b := 37) rfl (fun v8 I5 J6 q7 => ?_)
    obtain ⟨rfl, rfl, hR9, hF10, h611⟩ := q7
    refine r_val (y := 1) rfl ?_
    refine r_if_ne (dk_at ktX7_noWord_0 21 rfl) (b := 67) (by decide) (b2 := 40) rfl (fun c37 => ?_) (fun c37 => ?_)
    · skip
      refine rc_p (p_iconst (v := 1) (dk_at ktX7_noWord_0 38 rfl) (by decide) (b := 68) rfl) ?_
      refine rc_p (p_goto (b := 72) (dk_at ktX7_noWord_0 39 rfl) (by decide)) ?_
      refine r_iret (dk_at ktX7_noWord_0 41 rfl) rfl rfl ⟨_, rfl, ?_⟩
      have hcd : cDam s i k q = 1 := if_neg (fun q => by rw [c13] at q; exact absurd q.1 (by decide))
      refine ⟨by rw [hcd]; rfl, rfl, hR9, (FF.tr (FF.uf FF.rf (by decide)) (hF10.mo (by decide) (by decide))), ?_⟩
      exact Eq.trans h611 (by rw [hcd]; first | done | rfl)
    · first | exact absurd c37 (by decide) | exact absurd (by decide) c37
  · have c13 := bi_t c13
    refine rc_p (p_iload_n 3 (dk_at ktX7_noWord_0 10 rfl) rfl rfl (b := 17) rfl) ?_
    refine rc_p (p_i2l (v := (Int32.toInt64 k)) (dk_at ktX7_noWord_0 11 rfl) rfl (b := 18) rfl) ?_
    refine rc_p (p_lconst (v := 0) (dk_at ktX7_noWord_0 12 rfl) (by decide) (b := 19) rfl) ?_
    refine rc_p (p_ldc2 (v := 65535) ql_TwinBootModel_188 (dk_at ktX7_noWord_0 13 rfl) (b := 22) rfl) ?_
    refine r_iS (As := [.long (Int32.toInt64 k), .long 0, .long 65535]) (rest := [.ref m]) (s_X7_in (Int32.toInt64 k) 0 65535) cw_X7_73 qs_X7_in (dk_at ktX7_noWord_0 14 rfl) rfl rfl (Nat.le_of_ble_eq_true rfl) (by decide) (b := 25) rfl (fun v15 I12 J13 q14 => ?_)
    obtain ⟨rfl, rfl, rfl⟩ := q14
    refine r_val (y := bi (inI k 0 65535)) (congrArg bi (inJ_I k 0 65535)) ?_
    refine r_if_ne (dk_at ktX7_noWord_0 15 rfl) (b := 32) (by decide) (b2 := 28) rfl (fun c25 => ?_) (fun c25 => ?_)
    · have c25 := bi_t c25
      refine rc_p (p_iconst (v := 0) (dk_at ktX7_noWord_0 18 rfl) (by decide) (b := 33) rfl) ?_
      refine rc_p (p_iconst (v := 1) (dk_at ktX7_noWord_0 19 rfl) (by decide) (b := 34) rfl) ?_
      refine r_iV (As' := [.int 0, .int 1]) (rest := []) (s_X7_throwsIf hm (σ := σ) (by rw [up2_off (by omega)]; exact hR) hI up2_s false 1 (by decide)) cw_X7_190 qi_X7_throwsIf qv_X7_throwsIf rfl hm.l0 hm.s0 (dk_at ktX7_noWord_0 20 rfl) rfl rfl (Nat.le_of_ble_eq_true rfl) (by decide) (b := 37) rfl (fun v19 I16 J17 q18 => ?_)
      obtain ⟨rfl, rfl, hR20, hF21, h622⟩ := q18
      refine r_val (y := 0) rfl ?_
      refine r_if_ne (dk_at ktX7_noWord_0 21 rfl) (b := 67) (by decide) (b2 := 40) rfl (fun c37 => ?_) (fun c37 => ?_)
      · first | exact absurd c37 (by decide) | exact absurd (by decide) c37
      · skip
        refine rc_p (p_aload_n 0 (dk_at ktX7_noWord_0 22 rfl) rfl rfl (b := 41) rfl) ?_
        refine rc_p (p_iload_n 2 (dk_at ktX7_noWord_0 23 rfl) rfl rfl (b := 42) rfl) ?_
        refine rc_p (p_i2l (v := (Int32.toInt64 i)) (dk_at ktX7_noWord_0 24 rfl) rfl (b := 43) rfl) ?_
        refine rc_p (p_lconst (v := 0) (dk_at ktX7_noWord_0 25 rfl) (by decide) (b := 44) rfl) ?_
        refine rc_p (p_iload 4 (dk_at ktX7_noWord_0 26 rfl) rfl (b := 46) rfl) ?_
        refine rc_p (p_iconst (v := 1) (dk_at ktX7_noWord_0 27 rfl) (by decide) (b := 47) rfl) ?_
        refine rc_p (p_isub (v := ((nI q) - 1)) (dk_at ktX7_noWord_0 28 rfl) rfl (b := 48) rfl) ?_
        refine rc_p (p_i2l (v := (Int32.toInt64 ((nI q) - 1))) (dk_at ktX7_noWord_0 29 rfl) rfl (b := 49) rfl) ?_
        refine r_iS (As := [.long (Int32.toInt64 i), .long 0, .long (Int32.toInt64 ((nI q) - 1))]) (rest := [.ref m]) (s_X7_in (Int32.toInt64 i) 0 (Int32.toInt64 ((nI q) - 1))) cw_X7_73 qs_X7_in (dk_at ktX7_noWord_0 30 rfl) rfl rfl (Nat.le_of_ble_eq_true rfl) (by decide) (b := 52) rfl (fun v26 I23 J24 q25 => ?_)
        obtain ⟨rfl, rfl, rfl⟩ := q25
        refine r_val (y := bi (inI i 0 ((nI q) - 1))) (congrArg bi (inJ_I i 0 ((nI q) - 1))) ?_
        refine r_if_ne (dk_at ktX7_noWord_0 31 rfl) (b := 59) (by decide) (b2 := 55) rfl (fun c52 => ?_) (fun c52 => ?_)
        · have c52 := bi_t c52
          refine rc_p (p_iconst (v := 0) (dk_at ktX7_noWord_0 34 rfl) (by decide) (b := 60) rfl) ?_
          refine rc_p (p_iconst (v := 2) (dk_at ktX7_noWord_0 35 rfl) (by decide) (b := 61) rfl) ?_
          refine r_iV (As' := [.int 0, .int 2]) (rest := []) (s_X7_throwsIf hm (σ := σ) hR20 hI h622 false 2 (by decide)) cw_X7_190 qi_X7_throwsIf qv_X7_throwsIf rfl hm.l0 hm.s0 (dk_at ktX7_noWord_0 36 rfl) rfl rfl (Nat.le_of_ble_eq_true rfl) (by decide) (b := 64) rfl (fun v30 I27 J28 q29 => ?_)
          obtain ⟨rfl, rfl, hR31, hF32, h633⟩ := q29
          refine r_val (y := 0) rfl ?_
          refine r_if_eq (dk_at ktX7_noWord_0 37 rfl) (b := 71) (by decide) (b2 := 67) rfl (fun c64 => ?_) (fun c64 => ?_)
          · skip
            refine rc_p (p_iconst (v := 0) (dk_at ktX7_noWord_0 40 rfl) (by decide) (b := 72) rfl) ?_
            refine r_iret (dk_at ktX7_noWord_0 41 rfl) rfl rfl ⟨_, rfl, ?_⟩
            have hcd : cDam s i k q = 0 := (if_pos ⟨c13, c25⟩).trans (if_pos ((inb_inI hn).symm.trans c52))
            refine ⟨by rw [hcd]; rfl, rfl, hR31, (FF.tr (FF.tr (FF.uf FF.rf (by decide)) (hF21.mo (by decide) (by decide))) (hF32.mo (by decide) (by decide))), ?_⟩
            exact Eq.trans h633 (by rw [hcd]; first | done | rfl)
          · first | exact absurd c64 (by decide) | exact absurd (by decide) c64
        · have c52 := bi_f c52
          refine rc_p (p_iconst (v := 1) (dk_at ktX7_noWord_0 32 rfl) (by decide) (b := 56) rfl) ?_
          refine rc_p (p_goto (b := 60) (dk_at ktX7_noWord_0 33 rfl) (by decide)) ?_
          refine rc_p (p_iconst (v := 2) (dk_at ktX7_noWord_0 35 rfl) (by decide) (b := 61) rfl) ?_
          refine r_iV (As' := [.int 1, .int 2]) (rest := []) (s_X7_throwsIf hm (σ := σ) hR20 hI h622 true 2 (by decide)) cw_X7_190 qi_X7_throwsIf qv_X7_throwsIf rfl hm.l0 hm.s0 (dk_at ktX7_noWord_0 36 rfl) rfl rfl (Nat.le_of_ble_eq_true rfl) (by decide) (b := 64) rfl (fun v37 I34 J35 q36 => ?_)
          obtain ⟨rfl, rfl, hR38, hF39, h640⟩ := q36
          refine r_val (y := 1) rfl ?_
          refine r_if_eq (dk_at ktX7_noWord_0 37 rfl) (b := 71) (by decide) (b2 := 67) rfl (fun c64 => ?_) (fun c64 => ?_)
          · first | exact absurd c64 (by decide) | exact absurd (by decide) c64
          · skip
            refine rc_p (p_iconst (v := 1) (dk_at ktX7_noWord_0 38 rfl) (by decide) (b := 68) rfl) ?_
            refine rc_p (p_goto (b := 72) (dk_at ktX7_noWord_0 39 rfl) (by decide)) ?_
            refine r_iret (dk_at ktX7_noWord_0 41 rfl) rfl rfl ⟨_, rfl, ?_⟩
            have hcd : cDam s i k q = 2 := (if_pos ⟨c13, c25⟩).trans (if_neg (by rw [← inb_inI hn, c52]; decide))
            refine ⟨by rw [hcd]; rfl, rfl, hR38, (FF.tr (FF.tr (FF.uf FF.rf (by decide)) (hF21.mo (by decide) (by decide))) (hF39.mo (by decide) (by decide))), ?_⟩
            exact Eq.trans h640 (by rw [hcd]; first | done | rfl)
    · have c25 := bi_f c25
      refine rc_p (p_iconst (v := 1) (dk_at ktX7_noWord_0 16 rfl) (by decide) (b := 29) rfl) ?_
      refine rc_p (p_goto (b := 33) (dk_at ktX7_noWord_0 17 rfl) (by decide)) ?_
      refine rc_p (p_iconst (v := 1) (dk_at ktX7_noWord_0 19 rfl) (by decide) (b := 34) rfl) ?_
      refine r_iV (As' := [.int 1, .int 1]) (rest := []) (s_X7_throwsIf hm (σ := σ) (by rw [up2_off (by omega)]; exact hR) hI up2_s true 1 (by decide)) cw_X7_190 qi_X7_throwsIf qv_X7_throwsIf rfl hm.l0 hm.s0 (dk_at ktX7_noWord_0 20 rfl) rfl rfl (Nat.le_of_ble_eq_true rfl) (by decide) (b := 37) rfl (fun v44 I41 J42 q43 => ?_)
      obtain ⟨rfl, rfl, hR45, hF46, h647⟩ := q43
      refine r_val (y := 1) rfl ?_
      refine r_if_ne (dk_at ktX7_noWord_0 21 rfl) (b := 67) (by decide) (b2 := 40) rfl (fun c37 => ?_) (fun c37 => ?_)
      · skip
        refine rc_p (p_iconst (v := 1) (dk_at ktX7_noWord_0 38 rfl) (by decide) (b := 68) rfl) ?_
        refine rc_p (p_goto (b := 72) (dk_at ktX7_noWord_0 39 rfl) (by decide)) ?_
        refine r_iret (dk_at ktX7_noWord_0 41 rfl) rfl rfl ⟨_, rfl, ?_⟩
        have hcd : cDam s i k q = 1 := if_neg (fun q => by rw [c25] at q; exact absurd q.2 (by decide))
        refine ⟨by rw [hcd]; rfl, rfl, hR45, (FF.tr (FF.uf FF.rf (by decide)) (hF46.mo (by decide) (by decide))), ?_⟩
        exact Eq.trans h647 (by rw [hcd]; first | done | rfl)
      · first | exact absurd c37 (by decide) | exact absurd (by decide) c37
set_option maxRecDepth 4000 in
set_option maxHeartbeats 4000000 in
theorem s_X7_damage {n : Nat} {sh : mS} {G : mG} {I : mI} {J : mJ} {m : Nat} {σ : sT} (hm : ModG n sh G m) (hR : RelW (I (m + 1)) σ) (hI : Inv σ) (s i k : Int32) : Sp yX7_damage cX7_damage 4 (some FieldType.int) 3 144 0 0 [.ref m, .int s, .int i, .int k] n sh G I J (Qi (fun r_ I_ J_ => (cDam s i k (nW σ) = 0 → a_dam σ (83 + 64 * tn s + tn i) k = r_) ∧ I_ m 6 = cDam s i k (nW σ) ∧ J = J_ ∧ RelW (I_ (m + 1)) (t_dams σ s i k) ∧ FF m [1, 2, 8] [6, 18, 19, 20, 21, 22, 23, 24, 26, 27] I I_)) nX := by
  have hb := hI.bd
  refine Sp.of (by decide) (ls := [(0, .ref m), (1, .int s), (2, .int i), (3, .int k)]) (fun _ => rfl) (fun _ => Nat.le_of_ble_eq_true rfl) ?_
  refine rc_p (p_aload_n 0 (dk_at ktX7_damage_0 0 rfl) rfl rfl (b := 1) rfl) ?_
  refine rc_p (p_iload_n 1 (dk_at ktX7_damage_0 1 rfl) rfl rfl (b := 2) rfl) ?_
  refine rc_p (p_iload_n 2 (dk_at ktX7_damage_0 2 rfl) rfl rfl (b := 3) rfl) ?_
  refine rc_p (p_iload_n 3 (dk_at ktX7_damage_0 3 rfl) rfl rfl (b := 4) rfl) ?_
  refine rc_p (p_aload_n 0 (dk_at ktX7_damage_0 4 rfl) rfl rfl (b := 5) rfl) ?_
  refine r_geta fl_X7_9 rfl hm.l0 hm.s0 (dk_at ktX7_damage_0 5 rfl) hm.g0_0 (b := 8) rfl ?_
  refine rc_p (p_iconst (v := 0) (dk_at ktX7_damage_0 6 rfl) (by decide) (b := 9) rfl) ?_
  refine r_iald (j := 0) (hm.lt 1 (by decide)) hm.s1 (dk_at ktX7_damage_0 7 rfl) rfl ⟨by decide, by decide⟩ (v := (nI (nW σ))) ((hR.1 0 (by decide)).trans hI.w0) (b := 10) rfl ?_
  refine r_iV (As' := [.int s, .int i, .int k, .int (nI (nW σ))]) (rest := []) (s_X7_noWord hm (σ := σ) hR hI s i k (nW σ) (by omega)) cw_X7_371 qi_X7_noWord qv_X7_noWord rfl hm.l0 hm.s0 (dk_at ktX7_damage_0 8 rfl) rfl rfl (Nat.le_of_ble_eq_true rfl) (by decide) (b := 13) rfl (fun v4 I1 J2 q3 => ?_)
  obtain ⟨rfl, rfl, hR5, hF6, h67⟩ := q3
  refine r_if_eq (dk_at ktX7_damage_0 9 rfl) (b := 20) (by decide) (b2 := 16) rfl (fun c13 => ?_) (fun c13 => ?_)
  · have c13 := bi_f c13
    have hcd : cDam s i k (nW σ) = 0 := by simpa using c13
    obtain ⟨p, hp, rfl, j, hj, rfl, hk⟩ := cDam_0 (by omega) hcd
    refine rc_p (p_aload_n 0 (dk_at ktX7_damage_0 12 rfl) rfl rfl (b := 21) rfl) ?_
    refine rc_p (p_iload_n 1 (dk_at ktX7_damage_0 13 rfl) rfl rfl (b := 22) rfl) ?_
    refine r_iS (As := [.int (nI p)]) (rest := [.ref m]) (s_X7_slotAt p) cw_X7_197 qs_X7_slotAt (dk_at ktX7_damage_0 14 rfl) rfl rfl (Nat.le_of_ble_eq_true rfl) (by decide) (b := 25) rfl (fun v11 I8 J9 q10 => ?_)
    obtain ⟨rfl, rfl, rfl⟩ := q10
    refine rc_p (p_iload_n 2 (dk_at ktX7_damage_0 15 rfl) rfl rfl (b := 26) rfl) ?_
    refine rc_p (p_iadd (v := (nI (83 + 64 * p + j))) (dk_at ktX7_damage_0 16 rfl) (nI_add (83 + 64 * p) j) (b := 27) rfl) ?_
    refine rc_p (p_iload_n 3 (dk_at ktX7_damage_0 17 rfl) rfl rfl (b := 28) rfl) ?_
    refine r_iV (As' := [.int (nI (83 + 64 * p + j)), .int k]) (rest := []) (s_X7_damages hm (σ := σ) hR5 hI (83 + 64 * p + j) (by omega) (by omega) k) cw_X7_374 qi_X7_damages qv_X7_damages rfl hm.l0 hm.s0 (dk_at ktX7_damage_0 18 rfl) rfl rfl (Nat.le_of_ble_eq_true rfl) (by decide) (b := 31) rfl (fun v15 I12 J13 q14 => ?_)
    obtain ⟨rfl, rfl, hR16, hF17⟩ := q14
    refine r_iret (dk_at ktX7_damage_0 19 rfl) rfl rfl ⟨_, rfl, ?_⟩
    have hst : t_dams σ (nI p) (nI j) k = t_dam σ (83 + 64 * p + j) k := (if_pos hcd).trans (by rw [tn_nI (by omega), tn_nI (by omega)])
    refine ⟨fun hz => ?_, ?_, rfl, ?_, (FF.tr (hF6.mo (by decide) (by decide)) (hF17.mo (by decide) (by decide)))⟩
    · rw [tn_nI (by omega), tn_nI (by omega)]
    · exact Eq.trans (((hF17.2 6 (by decide))).trans h67) (by rfl)
    · rw [hst]; exact hR16
  · have c13 := bi_t c13
    refine rc_p (p_iconst (v := 0) (dk_at ktX7_damage_0 10 rfl) (by decide) (b := 17) rfl) ?_
    refine rc_p (p_goto (b := 31) (dk_at ktX7_damage_0 11 rfl) (by decide)) ?_
    refine r_iret (dk_at ktX7_damage_0 19 rfl) rfl rfl ⟨_, rfl, ?_⟩
    have hcd : ¬ cDam s i k (nW σ) = 0 := by simpa using c13
    refine ⟨fun hz => ?_, ?_, rfl, ?_, (hF6.mo (by decide) (by decide))⟩
    · exact absurd hz hcd
    · exact Eq.trans h67 (by rfl)
    · rw [show t_dams σ s i k = σ from if_neg hcd]; exact hR5
set_option maxRecDepth 4000 in
set_option maxHeartbeats 4000000 in
theorem s_X7_damageJournal {n : Nat} {sh : mS} {G : mG} {I : mI} {J : mJ} {m : Nat} {σ : sT} (hm : ModG n sh G m) (hR : RelW (I (m + 1)) σ) (hI : Inv σ) (s i k : Int32) : Sp yX7_damageJournal cX7_damageJournal 4 (some FieldType.int) 3 144 0 0 [.ref m, .int s, .int i, .int k] n sh G I J (Qi (fun r_ I_ J_ => (cDam s i k (nJ σ) = 0 → a_dam σ (211 + 32 * tn s + tn i) k = r_) ∧ I_ m 6 = cDam s i k (nJ σ) ∧ J = J_ ∧ RelW (I_ (m + 1)) (t_damj σ s i k) ∧ FF m [1, 2, 8] [6, 18, 19, 20, 21, 22, 23, 24, 26, 27] I I_)) nX := by
  have hb := hI.bd
  refine Sp.of (by decide) (ls := [(0, .ref m), (1, .int s), (2, .int i), (3, .int k)]) (fun _ => rfl) (fun _ => Nat.le_of_ble_eq_true rfl) ?_
  refine rc_p (p_aload_n 0 (dk_at ktX7_damageJournal_0 0 rfl) rfl rfl (b := 1) rfl) ?_
  refine rc_p (p_iload_n 1 (dk_at ktX7_damageJournal_0 1 rfl) rfl rfl (b := 2) rfl) ?_
  refine rc_p (p_iload_n 2 (dk_at ktX7_damageJournal_0 2 rfl) rfl rfl (b := 3) rfl) ?_
  refine rc_p (p_iload_n 3 (dk_at ktX7_damageJournal_0 3 rfl) rfl rfl (b := 4) rfl) ?_
  refine rc_p (p_aload_n 0 (dk_at ktX7_damageJournal_0 4 rfl) rfl rfl (b := 5) rfl) ?_
  refine r_geta fl_X7_9 rfl hm.l0 hm.s0 (dk_at ktX7_damageJournal_0 5 rfl) hm.g0_0 (b := 8) rfl ?_
  refine rc_p (p_iconst (v := 2) (dk_at ktX7_damageJournal_0 6 rfl) (by decide) (b := 9) rfl) ?_
  refine r_iald (j := 2) (hm.lt 1 (by decide)) hm.s1 (dk_at ktX7_damageJournal_0 7 rfl) rfl ⟨by decide, by decide⟩ (v := (nI (nJ σ))) ((hR.1 2 (by decide)).trans hI.w2) (b := 10) rfl ?_
  refine r_iV (As' := [.int s, .int i, .int k, .int (nI (nJ σ))]) (rest := []) (s_X7_noWord hm (σ := σ) hR hI s i k (nJ σ) (by omega)) cw_X7_371 qi_X7_noWord qv_X7_noWord rfl hm.l0 hm.s0 (dk_at ktX7_damageJournal_0 8 rfl) rfl rfl (Nat.le_of_ble_eq_true rfl) (by decide) (b := 13) rfl (fun v4 I1 J2 q3 => ?_)
  obtain ⟨rfl, rfl, hR5, hF6, h67⟩ := q3
  refine r_if_eq (dk_at ktX7_damageJournal_0 9 rfl) (b := 20) (by decide) (b2 := 16) rfl (fun c13 => ?_) (fun c13 => ?_)
  · have c13 := bi_f c13
    have hcd : cDam s i k (nJ σ) = 0 := by simpa using c13
    obtain ⟨p, hp, rfl, j, hj, rfl, hk⟩ := cDam_0 (by omega) hcd
    refine rc_p (p_aload_n 0 (dk_at ktX7_damageJournal_0 12 rfl) rfl rfl (b := 21) rfl) ?_
    refine rc_p (p_iload_n 1 (dk_at ktX7_damageJournal_0 13 rfl) rfl rfl (b := 22) rfl) ?_
    refine r_iS (As := [.int (nI p)]) (rest := [.ref m]) (s_X7_pageAt p) cw_X7_216 qs_X7_pageAt (dk_at ktX7_damageJournal_0 14 rfl) rfl rfl (Nat.le_of_ble_eq_true rfl) (by decide) (b := 25) rfl (fun v11 I8 J9 q10 => ?_)
    obtain ⟨rfl, rfl, rfl⟩ := q10
    refine rc_p (p_iload_n 2 (dk_at ktX7_damageJournal_0 15 rfl) rfl rfl (b := 26) rfl) ?_
    refine rc_p (p_iadd (v := (nI (211 + 32 * p + j))) (dk_at ktX7_damageJournal_0 16 rfl) (nI_add (211 + 32 * p) j) (b := 27) rfl) ?_
    refine rc_p (p_iload_n 3 (dk_at ktX7_damageJournal_0 17 rfl) rfl rfl (b := 28) rfl) ?_
    refine r_iV (As' := [.int (nI (211 + 32 * p + j)), .int k]) (rest := []) (s_X7_damages hm (σ := σ) hR5 hI (211 + 32 * p + j) (by omega) (by omega) k) cw_X7_374 qi_X7_damages qv_X7_damages rfl hm.l0 hm.s0 (dk_at ktX7_damageJournal_0 18 rfl) rfl rfl (Nat.le_of_ble_eq_true rfl) (by decide) (b := 31) rfl (fun v15 I12 J13 q14 => ?_)
    obtain ⟨rfl, rfl, hR16, hF17⟩ := q14
    refine r_iret (dk_at ktX7_damageJournal_0 19 rfl) rfl rfl ⟨_, rfl, ?_⟩
    have hst : t_damj σ (nI p) (nI j) k = t_dam σ (211 + 32 * p + j) k := (if_pos hcd).trans (by rw [tn_nI (by omega), tn_nI (by omega)])
    refine ⟨fun hz => ?_, ?_, rfl, ?_, (FF.tr (hF6.mo (by decide) (by decide)) (hF17.mo (by decide) (by decide)))⟩
    · rw [tn_nI (by omega), tn_nI (by omega)]
    · exact Eq.trans (((hF17.2 6 (by decide))).trans h67) (by rfl)
    · rw [hst]; exact hR16
  · have c13 := bi_t c13
    refine rc_p (p_iconst (v := 0) (dk_at ktX7_damageJournal_0 10 rfl) (by decide) (b := 17) rfl) ?_
    refine rc_p (p_goto (b := 31) (dk_at ktX7_damageJournal_0 11 rfl) (by decide)) ?_
    refine r_iret (dk_at ktX7_damageJournal_0 19 rfl) rfl rfl ⟨_, rfl, ?_⟩
    have hcd : ¬ cDam s i k (nJ σ) = 0 := by simpa using c13
    refine ⟨fun hz => ?_, ?_, rfl, ?_, (hF6.mo (by decide) (by decide))⟩
    · exact absurd hz hcd
    · exact Eq.trans h67 (by rfl)
    · rw [show t_damj σ s i k = σ from if_neg hcd]; exact hR5

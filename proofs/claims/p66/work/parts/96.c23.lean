/-! THE CLASS: a text is read, a device begins -/
set_option maxRecDepth 4000 in
set_option maxHeartbeats 4000000 in
theorem s_X4_clear {n : Nat} {sh : mS} {G : mG} {I : mI} {J : mJ} {x : Nat} (hx : TxtG n sh G x)  : Sp yX4_clear cX4_clear 1 none 2 96 0 0 [.ref (x + 2)] n sh G I J (Qv (fun I_ J_ => J = J_ ∧ FF x [2, 4, 5] [] I I_ ∧ RC0 x I_ S0)) nX := by
  refine Sp.of (by decide) (ls := [(0, .ref (x + 2))]) (fun _ => rfl) (fun _ => Nat.le_of_ble_eq_true rfl) ?_
  refine rc_p (p_aload_n 0 (dk_at ktX4_clear_0 0 rfl) rfl rfl (b := 1) rfl) ?_
  refine rc_p (p_bipush (v := 16) (dk_at ktX4_clear_0 1 rfl) (by decide) (b := 3) rfl) ?_
  refine r_puti fl_X4_19 fw_X4_1 rfl (hx.lt 2 (by decide)) hx.s2 rfl rfl (dk_at ktX4_clear_0 2 rfl) (b := 6) rfl ?_
  refine rc_p (p_aload_n 0 (dk_at ktX4_clear_0 3 rfl) rfl rfl (b := 7) rfl) ?_
  refine rc_p (p_iconst (v := 4) (dk_at ktX4_clear_0 4 rfl) (by decide) (b := 8) rfl) ?_
  refine r_puti fl_X4_23 fw_X4_2 rfl (hx.lt 2 (by decide)) hx.s2 rfl rfl (dk_at ktX4_clear_0 5 rfl) (b := 11) rfl ?_
  refine rc_p (p_aload_n 0 (dk_at ktX4_clear_0 6 rfl) rfl rfl (b := 12) rfl) ?_
  refine rc_p (p_bipush (v := 12) (dk_at ktX4_clear_0 7 rfl) (by decide) (b := 14) rfl) ?_
  refine r_puti fl_X4_26 fw_X4_3 rfl (hx.lt 2 (by decide)) hx.s2 rfl rfl (dk_at ktX4_clear_0 8 rfl) (b := 17) rfl ?_
  refine rc_p (p_aload_n 0 (dk_at ktX4_clear_0 9 rfl) rfl rfl (b := 18) rfl) ?_
  refine rc_p (p_iconst (v := 3) (dk_at ktX4_clear_0 10 rfl) (by decide) (b := 19) rfl) ?_
  refine r_puti fl_X4_29 fw_X4_4 rfl (hx.lt 2 (by decide)) hx.s2 rfl rfl (dk_at ktX4_clear_0 11 rfl) (b := 22) rfl ?_
  refine rc_p (p_aload_n 0 (dk_at ktX4_clear_0 12 rfl) rfl rfl (b := 23) rfl) ?_
  refine rc_p (p_iconst (v := 0) (dk_at ktX4_clear_0 13 rfl) (by decide) (b := 24) rfl) ?_
  refine r_puti fl_X4_32 fw_X4_5 rfl (hx.lt 2 (by decide)) hx.s2 rfl rfl (dk_at ktX4_clear_0 14 rfl) (b := 27) rfl ?_
  refine rc_p (p_aload_n 0 (dk_at ktX4_clear_0 15 rfl) rfl rfl (b := 28) rfl) ?_
  refine rc_p (p_iconst (v := 0) (dk_at ktX4_clear_0 16 rfl) (by decide) (b := 29) rfl) ?_
  refine r_puti fl_X4_35 fw_X4_6 rfl (hx.lt 2 (by decide)) hx.s2 rfl rfl (dk_at ktX4_clear_0 17 rfl) (b := 32) rfl ?_
  refine rc_p (p_aload_n 0 (dk_at ktX4_clear_0 18 rfl) rfl rfl (b := 33) rfl) ?_
  refine rc_p (p_iconst (v := (-1)) (dk_at ktX4_clear_0 19 rfl) (by decide) (b := 34) rfl) ?_
  refine r_puti fl_X4_38 fw_X4_7 rfl (hx.lt 2 (by decide)) hx.s2 rfl rfl (dk_at ktX4_clear_0 20 rfl) (b := 37) rfl ?_
  refine rc_p (p_aload_n 0 (dk_at ktX4_clear_0 21 rfl) rfl rfl (b := 38) rfl) ?_
  refine rc_p (p_iconst (v := 0) (dk_at ktX4_clear_0 22 rfl) (by decide) (b := 39) rfl) ?_
  refine r_puti fl_X4_41 fw_X4_8 rfl (hx.lt 2 (by decide)) hx.s2 rfl rfl (dk_at ktX4_clear_0 23 rfl) (b := 42) rfl ?_
  refine rc_p (p_aload_n 0 (dk_at ktX4_clear_0 24 rfl) rfl rfl (b := 43) rfl) ?_
  refine r_geta fl_X4_11 rfl (hx.lt 2 (by decide)) hx.s2 (dk_at ktX4_clear_0 25 rfl) hx.g2_0 (b := 46) rfl ?_
  refine rc_p (p_iconst (v := 0) (dk_at ktX4_clear_0 26 rfl) (by decide) (b := 47) rfl) ?_
  refine r_aald (j := 0) (id2 := (x + 4)) (hx.lt 3 (by decide)) hx.s3 (by decide) (dk_at ktX4_clear_0 27 rfl) rfl ⟨by decide, by decide⟩ hx.g3_0 (b := 48) rfl ?_
  refine rc_p (p_ldc (v := 65535) qk_TwinBoot_Plan_44 (dk_at ktX4_clear_0 28 rfl) (b := 50) rfl) ?_
  refine r_vS (As := [.ref (x + 4), .int 65535]) (rest := []) (s_J7_fill_53178 (ar := (x + 4)) (len := 64) ⟨(hx.lt 4 (by decide)), hx.s4⟩ (by decide) 65535) cw_X4_45 qs_J7_fill_53178 (dk_at ktX4_clear_0 29 rfl) rfl rfl (Nat.le_of_ble_eq_true rfl) (by decide) (b := 53) rfl (fun I1 J2 q3 => ?_)
  obtain ⟨rfl, rfl⟩ := q3
  refine rc_p (p_aload_n 0 (dk_at ktX4_clear_0 30 rfl) rfl rfl (b := 54) rfl) ?_
  refine r_geta fl_X4_11 rfl (hx.lt 2 (by decide)) hx.s2 (dk_at ktX4_clear_0 31 rfl) hx.g2_0 (b := 57) rfl ?_
  refine rc_p (p_iconst (v := 1) (dk_at ktX4_clear_0 32 rfl) (by decide) (b := 58) rfl) ?_
  refine r_aald (j := 1) (id2 := (x + 5)) (hx.lt 3 (by decide)) hx.s3 (by decide) (dk_at ktX4_clear_0 33 rfl) rfl ⟨by decide, by decide⟩ hx.g3_1 (b := 59) rfl ?_
  refine rc_p (p_ldc (v := 65535) qk_TwinBoot_Plan_44 (dk_at ktX4_clear_0 34 rfl) (b := 61) rfl) ?_
  refine r_vS (As := [.ref (x + 5), .int 65535]) (rest := []) (s_J7_fill_53178 (ar := (x + 5)) (len := 64) ⟨(hx.lt 5 (by decide)), hx.s5⟩ (by decide) 65535) cw_X4_45 qs_J7_fill_53178 (dk_at ktX4_clear_0 35 rfl) rfl rfl (Nat.le_of_ble_eq_true rfl) (by decide) (b := 64) rfl (fun I5 J6 q7 => ?_)
  obtain ⟨rfl, rfl⟩ := q7
  refine r_vret (dk_at ktX4_clear_0 36 rfl) rfl ⟨rfl, ?_⟩
  refine ⟨rfl, ⟨fun b hb ho => ?_, fun j _ => ?_⟩, ⟨(((congrFun (fl1_off (by omega)) 4)).trans (((congrFun (fl1_off (by omega)) 4)).trans ((up2_n (by omega)).trans ((up2_n (by omega)).trans ((up2_n (by omega)).trans ((up2_n (by omega)).trans up2_s)))))), (((congrFun (fl1_off (by omega)) 5)).trans (((congrFun (fl1_off (by omega)) 5)).trans ((up2_n (by omega)).trans ((up2_n (by omega)).trans ((up2_n (by omega)).trans up2_s))))), (((congrFun (fl1_off (by omega)) 6)).trans (((congrFun (fl1_off (by omega)) 6)).trans ((up2_n (by omega)).trans ((up2_n (by omega)).trans up2_s)))), (((congrFun (fl1_off (by omega)) 7)).trans (((congrFun (fl1_off (by omega)) 7)).trans ((up2_n (by omega)).trans up2_s))), (((congrFun (fl1_off (by omega)) 8)).trans (((congrFun (fl1_off (by omega)) 8)).trans up2_s))⟩, fun q k hq hk => ?_⟩
  · have h2 := ho 2 (by simp)
    have h4 := ho 4 (by simp)
    have h5 := ho 5 (by simp)
    exact ((fl1_off (by omega)).trans ((fl1_off (by omega)).trans ((up2_off (by omega)).trans ((up2_off (by omega)).trans ((up2_off (by omega)).trans ((up2_off (by omega)).trans ((up2_off (by omega)).trans ((up2_off (by omega)).trans ((up2_off (by omega)).trans ((up2_off (by omega)).trans rfl))))))))))
  · exact congrFun (((fl1_off (by omega)).trans ((fl1_off (by omega)).trans ((up2_off (by omega)).trans ((up2_off (by omega)).trans ((up2_off (by omega)).trans ((up2_off (by omega)).trans ((up2_off (by omega)).trans ((up2_off (by omega)).trans ((up2_off (by omega)).trans ((up2_off (by omega)).trans rfl))))))))))) j
  · rw [show S0.row (83 + 64 * q + k) = 65535 from if_pos (by omega)]
    rcases (by omega : q = 0 ∨ q = 1) with rfl | rfl
    · exact (((congrFun (fl1_off (by omega)) k)).trans (if_pos ⟨rfl, Nat.zero_le _, by omega⟩))
    · exact (if_pos ⟨rfl, Nat.zero_le _, by omega⟩)
set_option maxRecDepth 4000 in
set_option maxHeartbeats 4000000 in
theorem s_X5_read {n : Nat} {sh : mS} {G : mG} {I : mI} {J : mJ} {x : Nat} {T : tT} {nn : Nat} (hx : TxtG n sh G x) (hT : TC x I T nn)  : Sp yX5_read cX5_read 3 (some FieldType.boolean) 7 231 0 0 [.ref x] n sh G I J (Qi (fun r_ I_ J_ => bi (decide ((parseO T nn).k = 0)) = r_ ∧ J = J_ ∧ FF x [2, 4, 5] [2, 3, 4, 5, 6, 7] I I_ ∧ I_ x 2 = nI 0 ∧ I_ x 6 = nI (parseO T nn).k ∧ (¬ (parseO T nn).k = 0 → I_ x 7 = nI (parseO T nn).a) ∧ ((parseO T nn).k = 0 → RC x I_ (parseO T nn).st))) nX := by
  refine Sp.of (by decide) (ls := [(0, .ref x)]) (fun _ => rfl) (fun _ => Nat.le_of_ble_eq_true rfl) ?_
  have hn := hT.1.1
  have cut29 : ∀ (t c z : Nat) (S : PSt) (Iz : mI), FQ x I Iz → Iz x 3 = nI z → Iz x 6 = 0 → RC x Iz S → GS S → z ≤ nn → c ≤ z → nn - z < t → parseO T nn = allF T nn t z S → Rc RX5 cX5_read 3 (some FieldType.boolean) 7 231 0 0 n sh G (Qi (fun r_ I_ J_ => bi (decide ((parseO T nn).k = 0)) = r_ ∧ J = J_ ∧ FF x [2, 4, 5] [2, 3, 4, 5, 6, 7] I I_ ∧ I_ x 2 = nI 0 ∧ I_ x 6 = nI (parseO T nn).k ∧ (¬ (parseO T nn).k = 0 → I_ x 7 = nI (parseO T nn).a) ∧ ((parseO T nn).k = 0 → RC x I_ (parseO T nn).st))) nX 0 0 29 [(1, .int 1), (2, .int (nI c)), (0, .ref x)] [] Iz J := by
    intro t
    induction t
    · intro c z S Iz _ _ _ _ _ _ _ h; omega
    rename_i t ih
    intro c z S Iz hFz hz h6 hRz hG hzn hcz hnt hx2
    have hsz := txSk_le (T := T) hzn
    refine rc_p (p_iload_n 0 (dk_at ktX5_read_0 17 rfl) rfl rfl (b := 30) rfl) ?_
    refine r_if_eq (dk_at ktX5_read_0 18 rfl) (b := 73) (by decide) (b2 := 33) rfl (fun c30 => ?_) (fun c30 => ?_)
    · first | exact absurd c30 (by decide) | exact absurd (by decide) c30
    · skip
      refine rc_p (p_aload_n 2 (dk_at ktX5_read_0 19 rfl) rfl rfl (b := 34) rfl) ?_
      refine r_iV (As' := []) (rest := []) (s_X5_isAtEnd hx (hT.fr (show FQ x I Iz from (hFz.mo (by simp) (by simp)))) z hz (by omega)) cw_X5_44 qi_X5_isAtEnd qv_X5_isAtEnd rfl hx.l0 hx.s0 (dk_at ktX5_read_0 20 rfl) rfl rfl (Nat.le_of_ble_eq_true rfl) (by decide) (b := 37) rfl (fun v4 I1 J2 q3 => ?_)
      obtain ⟨rfl, rfl, hF5, hh6⟩ := q3
      refine r_if_ne (dk_at ktX5_read_0 21 rfl) (b := 73) (by decide) (b2 := 40) rfl (fun c37 => ?_) (fun c37 => ?_)
      · have c37 := bi_t c37
        refine rc_p (p_aload_n 2 (dk_at ktX5_read_0 37 rfl) rfl rfl (b := 74) rfl) ?_
        refine rc_p (p_iconst (v := 0) (dk_at ktX5_read_0 38 rfl) (by decide) (b := 75) rfl) ?_
        refine r_puti fl_X5_24 fw_X5_2 rfl hx.l0 hx.s0 rfl rfl (dk_at ktX5_read_0 39 rfl) (b := 78) rfl ?_
        refine rc_p (p_iload_n 0 (dk_at ktX5_read_0 40 rfl) rfl rfl (b := 79) rfl) ?_
        refine r_iret (dk_at ktX5_read_0 41 rfl) rfl rfl ⟨_, rfl, ?_⟩
        have c37b := of_decide_eq_true c37
        have hT0 := hT.1.2.2 (txSk T nn z) (by omega)
        rw [hx2.trans (allF_0 hT0)]
        exact ⟨rfl, rfl, (show FF x [2, 4, 5] [2, 3, 4, 5, 6, 7] I (up2 I1 x 2 0) from (((hFz.mo (by simp) (by simp)).tr (hF5.mo (by simp) (by simp))).uf (by simp))), up2_s, ((up2_n (by omega)).trans (((hF5.2 6 (by decide))).trans h6)), fun g => absurd rfl g, fun _ => ((hRz.fr hF5).u (j := 2))⟩
      · have c37 := bi_f c37
        have c37b := of_decide_eq_false c37
        refine rc_p (p_iload_n 1 (dk_at ktX5_read_0 22 rfl) rfl rfl (b := 41) rfl) ?_
        refine rc_p (p_sipush (v := 900) (dk_at ktX5_read_0 23 rfl) (by decide) (b := 44) rfl) ?_
        refine r_icmp_ge (dk_at ktX5_read_0 24 rfl) (b := 73) (by decide) (b2 := 47) rfl (fun c44 => ?_) (fun c44 => ?_)
        · have c44 : 900 ≤ c := (nI_leI (a := 900) (b := c) (by omega) (by omega)).mp c44
          omega
        · have c44 : ¬ 900 ≤ c := fun h => c44 ((nI_leI (a := 900) (b := c) (by omega) (by omega)).mpr h)
          refine rc_p (p_aload_n 2 (dk_at ktX5_read_0 25 rfl) rfl rfl (b := 48) rfl) ?_
          refine r_iV (As' := []) (rest := []) (s_X5_readSemicolon hx (hT.fr (show FQ x I I1 from ((hFz.mo (by simp) (by simp)).tr (hF5.mo (by simp) (by simp))))) (txSk T nn z) hh6 (by omega)) cw_X5_47 qi_X5_readSemicolon qv_X5_readSemicolon rfl hx.l0 hx.s0 (dk_at ktX5_read_0 26 rfl) rfl rfl (Nat.le_of_ble_eq_true rfl) (by decide) (b := 51) rfl (fun v10 I7 J8 q9 => ?_)
          obtain ⟨rfl, rfl, hF11, hy12, hy13⟩ := q9
          refine r_if_eq (dk_at ktX5_read_0 27 rfl) (b := 65) (by decide) (b2 := 54) rfl (fun c51 => ?_) (fun c51 => ?_)
          · have c51 := bi_f c51
            have h59 := of_decide_eq_false c51
            obtain ⟨hh14, hh15⟩ := hy13 h59
            refine rc_p (p_iconst (v := 0) (dk_at ktX5_read_0 33 rfl) (by decide) (b := 66) rfl) ?_
            refine rc_p (p_istore_n (ls' := [(1, .int 0), (2, .int (nI c)), (0, .ref x)]) (dk_at ktX5_read_0 34 rfl) rfl (by decide) rfl (b := 67) rfl) ?_
            refine rc_p (p_iinc (j := 1) (v := (nI (c + 1))) (ls' := [(2, .int (nI (c + 1))), (1, .int 0), (0, .ref x)]) (dk_at ktX5_read_0 35 rfl) rfl (nI_add c 1) (by decide) rfl (b := 70) rfl) ?_
            refine rc_p (p_goto (b := 29) (dk_at ktX5_read_0 36 rfl) (by decide)) ?_
            refine rc_p (p_iload_n 1 (dk_at ktX5_read_0 17 rfl) rfl rfl (b := 30) rfl) ?_
            refine r_if_eq (dk_at ktX5_read_0 18 rfl) (b := 73) (by decide) (b2 := 33) rfl (fun c30_1 => ?_) (fun c30_1 => ?_)
            · skip
              refine rc_p (p_aload_n 2 (dk_at ktX5_read_0 37 rfl) rfl rfl (b := 74) rfl) ?_
              refine rc_p (p_iconst (v := 0) (dk_at ktX5_read_0 38 rfl) (by decide) (b := 75) rfl) ?_
              refine r_puti fl_X5_24 fw_X5_2 rfl hx.l0 hx.s0 rfl rfl (dk_at ktX5_read_0 39 rfl) (b := 78) rfl ?_
              refine rc_p (p_iload_n 1 (dk_at ktX5_read_0 40 rfl) rfl rfl (b := 79) rfl) ?_
              refine r_iret (dk_at ktX5_read_0 41 rfl) rfl rfl ⟨_, rfl, ?_⟩
              have h0 : ¬ T (txSk T nn z) = 0 := fun g => by have := (hT.1.2.1 (txSk T nn z) (by omega)).1; omega
              rw [hx2.trans (allF_n h59 h0)]
              exact ⟨bk_1 (k := 1) (by decide), rfl, (show FF x [2, 4, 5] [2, 3, 4, 5, 6, 7] I (up2 I7 x 2 0) from ((((hFz.mo (by simp) (by simp)).tr (hF5.mo (by simp) (by simp))).tr (hF11.mo (by simp) (by simp))).uf (by simp))), up2_s, ((up2_n (by omega)).trans hh14), fun _ => ((up2_n (by omega)).trans hh15), fun g => absurd g (by decide : ¬ (1 : Nat) = 0)⟩
            · first | exact absurd c30_1 (by decide) | exact absurd (by decide) c30_1
          · have c51 := bi_t c51
            have h59 := of_decide_eq_true c51
            obtain ⟨hF16, hh17⟩ := hy12 h59
            have hl : txSk T nn z < nn := Nat.lt_of_not_le (fun g => by rw [hT.1.2.2 _ g] at h59; omega)
            refine rc_p (p_aload_n 2 (dk_at ktX5_read_0 28 rfl) rfl rfl (b := 55) rfl) ?_
            refine r_iV (As' := []) (rest := []) (s_X5_readStatement hx (hT.fr (show FQ x I I7 from (((hFz.mo (by simp) (by simp)).tr (hF5.mo (by simp) (by simp))).tr (hF16.mo (by simp) (by simp))))) (txSk T nn z + 1) hh17 (by omega) (((hF16.2 6 (by decide))).trans (((hF5.2 6 (by decide))).trans h6)) ((hRz.fr hF5).fr hF11) hG) cw_X5_50 qi_X5_readStatement qv_X5_readStatement rfl hx.l0 hx.s0 (dk_at ktX5_read_0 29 rfl) rfl rfl (Nat.le_of_ble_eq_true rfl) (by decide) (b := 58) rfl (fun v21 I18 J19 q20 => ?_)
            obtain ⟨rfl, rfl, hF22, hy23, hy24⟩ := q20
            refine r_if_eq (dk_at ktX5_read_0 30 rfl) (b := 65) (by decide) (b2 := 61) rfl (fun c58 => ?_) (fun c58 => ?_)
            · have c58 := bi_f c58
              have hk25 := of_decide_eq_false c58
              obtain ⟨hh26, hh27⟩ := hy24 hk25
              refine rc_p (p_iconst (v := 0) (dk_at ktX5_read_0 33 rfl) (by decide) (b := 66) rfl) ?_
              refine rc_p (p_istore_n (ls' := [(1, .int 0), (2, .int (nI c)), (0, .ref x)]) (dk_at ktX5_read_0 34 rfl) rfl (by decide) rfl (b := 67) rfl) ?_
              refine rc_p (p_iinc (j := 1) (v := (nI (c + 1))) (ls' := [(2, .int (nI (c + 1))), (1, .int 0), (0, .ref x)]) (dk_at ktX5_read_0 35 rfl) rfl (nI_add c 1) (by decide) rfl (b := 70) rfl) ?_
              refine rc_p (p_goto (b := 29) (dk_at ktX5_read_0 36 rfl) (by decide)) ?_
              refine rc_p (p_iload_n 1 (dk_at ktX5_read_0 17 rfl) rfl rfl (b := 30) rfl) ?_
              refine r_if_eq (dk_at ktX5_read_0 18 rfl) (b := 73) (by decide) (b2 := 33) rfl (fun c30_1 => ?_) (fun c30_1 => ?_)
              · skip
                refine rc_p (p_aload_n 2 (dk_at ktX5_read_0 37 rfl) rfl rfl (b := 74) rfl) ?_
                refine rc_p (p_iconst (v := 0) (dk_at ktX5_read_0 38 rfl) (by decide) (b := 75) rfl) ?_
                refine r_puti fl_X5_24 fw_X5_2 rfl hx.l0 hx.s0 rfl rfl (dk_at ktX5_read_0 39 rfl) (b := 78) rfl ?_
                refine rc_p (p_iload_n 1 (dk_at ktX5_read_0 40 rfl) rfl rfl (b := 79) rfl) ?_
                refine r_iret (dk_at ktX5_read_0 41 rfl) rfl rfl ⟨_, rfl, ?_⟩
                rw [hx2.trans (allF_k h59 hk25)]
                exact ⟨bk_1 hk25, rfl, (show FF x [2, 4, 5] [2, 3, 4, 5, 6, 7] I (up2 I18 x 2 0) from (((((hFz.mo (by simp) (by simp)).tr (hF5.mo (by simp) (by simp))).tr (hF16.mo (by simp) (by simp))).tr (hF22.mo (by simp) (by simp))).uf (by simp))), up2_s, ((up2_n (by omega)).trans hh26), fun _ => ((up2_n (by omega)).trans hh27), fun g => absurd g hk25⟩
              · first | exact absurd c30_1 (by decide) | exact absurd (by decide) c30_1
            · have c58 := bi_t c58
              have hk28 := of_decide_eq_true c58
              obtain ⟨hh29, hh30, hh31⟩ := hy23 hk28
              refine rc_p (p_iconst (v := 1) (dk_at ktX5_read_0 31 rfl) (by decide) (b := 62) rfl) ?_
              refine rc_p (p_goto (b := 66) (dk_at ktX5_read_0 32 rfl) (by decide)) ?_
              refine rc_p (p_istore_n (ls' := [(1, .int 1), (2, .int (nI c)), (0, .ref x)]) (dk_at ktX5_read_0 34 rfl) rfl (by decide) rfl (b := 67) rfl) ?_
              refine rc_p (p_iinc (j := 1) (v := (nI (c + 1))) (ls' := [(2, .int (nI (c + 1))), (1, .int 1), (0, .ref x)]) (dk_at ktX5_read_0 35 rfl) rfl (nI_add c 1) (by decide) rfl (b := 70) rfl) ?_
              refine rc_p (p_goto (b := 29) (dk_at ktX5_read_0 36 rfl) (by decide)) ?_
              refine rc_sub [1, 0, 2] (ls' := [(1, .int 1), (2, .int (nI (c + 1))), (0, .ref x)]) rfl ?_
              have hok := stmt_ok (T := T) (n := nn) (show txSk T nn z + 1 ≤ nn by omega) hG hk28
              exact ih (c + 1) _ _ I18 (show FQ x I I18 from ((((hFz.mo (by simp) (by simp)).tr (hF5.mo (by simp) (by simp))).tr (hF16.mo (by simp) (by simp))).tr (hF22.mo (by simp) (by simp)))) hh30 hh29 hh31 hok.2.2 hok.2.1 (by omega) (by omega) (hx2.trans (allF_s h59 hk28))
  refine rc_p (p_aload_n 0 (dk_at ktX5_read_0 0 rfl) rfl rfl (b := 1) rfl) ?_
  refine r_geta fl_X5_18 rfl hx.l0 hx.s0 (dk_at ktX5_read_0 1 rfl) hx.g0_1 (b := 4) rfl ?_
  refine r_vV (As' := []) (rest := []) (s_X4_clear hx) cw_X5_28 qi_X4_clear qv_X4_clear rfl (hx.lt 2 (by decide)) hx.s2 (dk_at ktX5_read_0 2 rfl) rfl rfl (Nat.le_of_ble_eq_true rfl) (by decide) (b := 7) rfl (fun I32 J33 q34 => ?_)
  obtain ⟨rfl, hF36, hh37⟩ := q34
  refine rc_p (p_aload_n 0 (dk_at ktX5_read_0 3 rfl) rfl rfl (b := 8) rfl) ?_
  refine rc_p (p_iconst (v := 0) (dk_at ktX5_read_0 4 rfl) (by decide) (b := 9) rfl) ?_
  refine r_puti fl_X5_31 fw_X5_3 rfl hx.l0 hx.s0 rfl rfl (dk_at ktX5_read_0 5 rfl) (b := 12) rfl ?_
  refine rc_p (p_aload_n 0 (dk_at ktX5_read_0 6 rfl) rfl rfl (b := 13) rfl) ?_
  refine rc_p (p_iconst (v := 0) (dk_at ktX5_read_0 7 rfl) (by decide) (b := 14) rfl) ?_
  refine r_puti fl_X5_34 fw_X5_6 rfl hx.l0 hx.s0 rfl rfl (dk_at ktX5_read_0 8 rfl) (b := 17) rfl ?_
  refine rc_p (p_aload_n 0 (dk_at ktX5_read_0 9 rfl) rfl rfl (b := 18) rfl) ?_
  refine rc_p (p_iconst (v := 0) (dk_at ktX5_read_0 10 rfl) (by decide) (b := 19) rfl) ?_
  refine r_puti fl_X5_37 fw_X5_7 rfl hx.l0 hx.s0 rfl rfl (dk_at ktX5_read_0 11 rfl) (b := 22) rfl ?_
  refine rc_p (p_aload_n 0 (dk_at ktX5_read_0 12 rfl) rfl rfl (b := 23) rfl) ?_
  refine r_iV (As' := []) (rest := []) (s_X5_readFlash hx (hT.fr (show FQ x I (up2 (up2 (up2 I32 x 3 0) x 6 0) x 7 0) from ((((FF.rf.tr (hF36.mo (by simp) (by simp))).uf (by simp)).uf (by simp)).uf (by simp)))) 0 ((up2_n (by omega)).trans ((up2_n (by omega)).trans up2_s)) (by omega) ((up2_n (by omega)).trans up2_s) (((hh37.fr (l := [3]) (FF.rf.uf (by simp))).fr (l := [6]) (FF.rf.uf (by simp))).fr (l := [7]) (FF.rf.uf (by simp)))) cw_X5_40 qi_X5_readFlash qv_X5_readFlash rfl hx.l0 hx.s0 (dk_at ktX5_read_0 13 rfl) rfl rfl (Nat.le_of_ble_eq_true rfl) (by decide) (b := 26) rfl (fun v41 I38 J39 q40 => ?_)
  obtain ⟨rfl, rfl, hF42, hy43, hy44⟩ := q40
  refine rc_p (p_istore_n (ls' := [(1, .int (bi (decide ((flashO T nn 0 S0).k = 0)))), (0, .ref x)]) (dk_at ktX5_read_0 14 rfl) rfl (by decide) rfl (b := 27) rfl) ?_
  refine rc_p (p_iconst (v := 0) (dk_at ktX5_read_0 15 rfl) (by decide) (b := 28) rfl) ?_
  refine rc_p (p_istore_n (ls' := [(2, .int 0), (1, .int (bi (decide ((flashO T nn 0 S0).k = 0)))), (0, .ref x)]) (dk_at ktX5_read_0 16 rfl) rfl (by decide) rfl (b := 29) rfl) ?_
  by_cases hkf : (flashO T nn 0 S0).k = 0
  · rw [decide_eq_true hkf, show bi true = 1 from rfl]
    obtain ⟨g6, g3, gR⟩ := hy43 hkf
    refine rc_sub [1, 0, 2] (ls' := [(1, .int 1), (2, .int 0), (0, .ref x)]) rfl ?_
    have hok := flash_ok (T := T) (n := nn) (Nat.zero_le nn) GX_0 hkf
    exact cut29 (901 - (flashO T nn 0 S0).p) 0 _ _ I38 (show FQ x I I38 from (((((FF.rf.tr (hF36.mo (by simp) (by simp))).uf (by simp)).uf (by simp)).uf (by simp)).tr (hF42.mo (by simp) (by simp)))) g3 g6 gR hok.2 hok.1 (Nat.zero_le _) (by have := hok.1; omega) (if_pos hkf)
  · rw [decide_eq_false hkf, show bi false = 0 from rfl]
    obtain ⟨g6, g7⟩ := hy44 hkf
    refine rc_p (p_iload_n 1 (dk_at ktX5_read_0 17 rfl) rfl rfl (b := 30) rfl) ?_
    refine r_if_eq (dk_at ktX5_read_0 18 rfl) (b := 73) (by decide) (b2 := 33) rfl (fun c30 => ?_) (fun c30 => ?_)
    · skip
      refine rc_p (p_aload_n 2 (dk_at ktX5_read_0 37 rfl) rfl rfl (b := 74) rfl) ?_
      refine rc_p (p_iconst (v := 0) (dk_at ktX5_read_0 38 rfl) (by decide) (b := 75) rfl) ?_
      refine r_puti fl_X5_24 fw_X5_2 rfl hx.l0 hx.s0 rfl rfl (dk_at ktX5_read_0 39 rfl) (b := 78) rfl ?_
      refine rc_p (p_iload_n 1 (dk_at ktX5_read_0 40 rfl) rfl rfl (b := 79) rfl) ?_
      refine r_iret (dk_at ktX5_read_0 41 rfl) rfl rfl ⟨_, rfl, ?_⟩
      rw [show parseO T nn = flashO T nn 0 S0 from if_neg hkf]
      exact ⟨bk_1 hkf, rfl, (show FF x [2, 4, 5] [2, 3, 4, 5, 6, 7] I (up2 I38 x 2 0) from ((((((FF.rf.tr (hF36.mo (by simp) (by simp))).uf (by simp)).uf (by simp)).uf (by simp)).tr (hF42.mo (by simp) (by simp))).uf (by simp))), up2_s, ((up2_n (by omega)).trans g6), fun _ => ((up2_n (by omega)).trans g7), fun g => absurd g hkf⟩
    · first | exact absurd c30 (by decide) | exact absurd (by decide) c30

/-! THE CLASS: a device begins as a text tells it; load, append, loadError -/
set_option maxRecDepth 4000 in
set_option maxHeartbeats 4000000 in
theorem s_X1_begin {n : Nat} {sh : mS} {G : mG} {I : mI} {J : mJ} {d x : Nat} {S : PSt} (hd : DevG n sh G d) (hx : TxtG n sh G x) (hxd : x + 6 ≤ d) (hS : RC x I S) (hG : GS S)  : Sp yX1_begin cX1_begin 4 none 2 96 0 0 [.ref (d + 1), .ref (x + 2)] n sh G I J (Qv (fun I_ J_ => J = J_ ∧ (∀ b, b < d + 1 ∨ d + 11 ≤ b → I_ b = I b) ∧ FlaN d I_ (newS S))) nX := by
  refine Sp.of (by decide) (ls := [(0, .ref (d + 1)), (1, .ref (x + 2))]) (fun _ => rfl) (fun _ => Nat.le_of_ble_eq_true rfl) ?_
  have hfl := hG.2.2.1
  obtain ⟨W, P, e0, w1, w2, e1, p1, p2, eW, eP⟩ := newS_WP hG
  refine rc_p (p_aload_n 0 (dk_at ktX1_begin_0 0 rfl) rfl rfl (b := 1) rfl) ?_
  refine rc_p (p_aload_n 1 (dk_at ktX1_begin_0 1 rfl) rfl rfl (b := 2) rfl) ?_
  refine r_geti fl_X1_19 rfl (hx.lt 2 (by decide)) hx.s2 (dk_at ktX1_begin_0 2 rfl) (v := (nI W)) (hS.1.1.trans e0) (b := 5) rfl ?_
  refine r_puti fl_X1_25 fw_X1_2 rfl (hd.lt 1 (by decide)) hd.s1 rfl rfl (dk_at ktX1_begin_0 3 rfl) (b := 8) rfl ?_
  refine rc_p (p_aload_n 0 (dk_at ktX1_begin_0 4 rfl) rfl rfl (b := 9) rfl) ?_
  refine rc_p (p_aload_n 1 (dk_at ktX1_begin_0 5 rfl) rfl rfl (b := 10) rfl) ?_
  refine r_geti fl_X1_26 rfl (hx.lt 2 (by decide)) hx.s2 (dk_at ktX1_begin_0 6 rfl) (v := (nI P)) ((up2_n (by omega)).trans (hS.1.2.1.trans e1)) (b := 13) rfl ?_
  refine r_puti fl_X1_29 fw_X1_3 rfl (hd.lt 1 (by decide)) hd.s1 rfl rfl (dk_at ktX1_begin_0 7 rfl) (b := 16) rfl ?_
  refine rc_p (p_aload_n 0 (dk_at ktX1_begin_0 8 rfl) rfl rfl (b := 17) rfl) ?_
  refine rc_p (p_aload_n 1 (dk_at ktX1_begin_0 9 rfl) rfl rfl (b := 18) rfl) ?_
  refine r_geti fl_X1_26 rfl (hx.lt 2 (by decide)) hx.s2 (dk_at ktX1_begin_0 10 rfl) (v := (nI P)) ((up2_n (by omega)).trans ((up2_n (by omega)).trans (hS.1.2.1.trans e1))) (b := 21) rfl ?_
  refine r_if_le (dk_at ktX1_begin_0 11 rfl) (b := 36) (by decide) (b2 := 24) rfl (fun c21 => ?_) (fun c21 => ?_)
  · have c21 : P ≤ 0 := (nI_leI (a := P) (b := 0) (by omega) (by omega)).mp c21
    omega
  · have c21 : ¬ P ≤ 0 := fun h => c21 ((nI_leI (a := P) (b := 0) (by omega) (by omega)).mpr h)
    refine rc_p (p_aload_n 1 (dk_at ktX1_begin_0 12 rfl) rfl rfl (b := 25) rfl) ?_
    refine r_geti fl_X1_19 rfl (hx.lt 2 (by decide)) hx.s2 (dk_at ktX1_begin_0 13 rfl) (v := (nI W)) ((up2_n (by omega)).trans ((up2_n (by omega)).trans (hS.1.1.trans e0))) (b := 28) rfl ?_
    refine rc_p (p_aload_n 1 (dk_at ktX1_begin_0 14 rfl) rfl rfl (b := 29) rfl) ?_
    refine r_geti fl_X1_26 rfl (hx.lt 2 (by decide)) hx.s2 (dk_at ktX1_begin_0 15 rfl) (v := (nI P)) ((up2_n (by omega)).trans ((up2_n (by omega)).trans (hS.1.2.1.trans e1))) (b := 32) rfl ?_
    refine rc_p (p_idiv (v := (nI (W / P))) (dk_at ktX1_begin_0 16 rfl) (nI_ne0 (by omega) (by omega)) (pk_div (a := W) (d := P) (by omega) (by omega) (by omega)) (b := 33) rfl) ?_
    refine rc_p (p_goto (b := 37) (dk_at ktX1_begin_0 17 rfl) (by decide)) ?_
    refine r_puti fl_X1_30 fw_X1_4 rfl (hd.lt 1 (by decide)) hd.s1 rfl rfl (dk_at ktX1_begin_0 19 rfl) (b := 40) rfl ?_
    refine rc_p (p_aload_n 0 (dk_at ktX1_begin_0 20 rfl) rfl rfl (b := 41) rfl) ?_
    refine rc_p (p_aload_n 1 (dk_at ktX1_begin_0 21 rfl) rfl rfl (b := 42) rfl) ?_
    refine r_geti fl_X1_33 rfl (hx.lt 2 (by decide)) hx.s2 (dk_at ktX1_begin_0 22 rfl) (v := (S.row 2)) ((up2_n (by omega)).trans ((up2_n (by omega)).trans ((up2_n (by omega)).trans (hS.1.2.2)))) (b := 45) rfl ?_
    refine r_puti fl_X1_36 fw_X1_5 rfl (hd.lt 1 (by decide)) hd.s1 rfl rfl (dk_at ktX1_begin_0 23 rfl) (b := 48) rfl ?_
    refine rc_p (p_aload_n 0 (dk_at ktX1_begin_0 24 rfl) rfl rfl (b := 49) rfl) ?_
    refine rc_p (p_aload_n 1 (dk_at ktX1_begin_0 25 rfl) rfl rfl (b := 50) rfl) ?_
    refine r_geti fl_X1_37 rfl (hx.lt 2 (by decide)) hx.s2 (dk_at ktX1_begin_0 26 rfl) (v := (S.row 5)) ((up2_n (by omega)).trans ((up2_n (by omega)).trans ((up2_n (by omega)).trans ((up2_n (by omega)).trans (hS.2.1.2.1))))) (b := 53) rfl ?_
    refine r_puti fl_X1_40 fw_X1_6 rfl (hd.lt 1 (by decide)) hd.s1 rfl rfl (dk_at ktX1_begin_0 27 rfl) (b := 56) rfl ?_
    refine rc_p (p_aload_n 0 (dk_at ktX1_begin_0 28 rfl) rfl rfl (b := 57) rfl) ?_
    refine rc_p (p_iconst (v := (-1)) (dk_at ktX1_begin_0 29 rfl) (by decide) (b := 58) rfl) ?_
    refine r_puti fl_X1_41 fw_X1_7 rfl (hd.lt 1 (by decide)) hd.s1 rfl rfl (dk_at ktX1_begin_0 30 rfl) (b := 61) rfl ?_
    refine rc_p (p_aload_n 0 (dk_at ktX1_begin_0 31 rfl) rfl rfl (b := 62) rfl) ?_
    refine rc_p (p_iconst (v := 0) (dk_at ktX1_begin_0 32 rfl) (by decide) (b := 63) rfl) ?_
    refine r_puti fl_X1_44 fw_X1_8 rfl (hd.lt 1 (by decide)) hd.s1 rfl rfl (dk_at ktX1_begin_0 33 rfl) (b := 66) rfl ?_
    refine rc_p (p_iconst (v := 0) (dk_at ktX1_begin_0 34 rfl) (by decide) (b := 67) rfl) ?_
    refine rc_p (p_istore_n (ls' := [(2, .int 0), (0, .ref (d + 1)), (1, .ref (x + 2))]) (dk_at ktX1_begin_0 35 rfl) rfl (by decide) rfl (b := 68) rfl) ?_
    refine rc_p (p_iload_n 0 (dk_at ktX1_begin_0 36 rfl) rfl rfl (b := 69) rfl) ?_
    refine rc_p (p_iconst (v := 2) (dk_at ktX1_begin_0 37 rfl) (by decide) (b := 70) rfl) ?_
    refine r_icmp_gt (dk_at ktX1_begin_0 38 rfl) (b := 89) (by decide) (b2 := 73) rfl (fun c70 => ?_) (fun c70 => ?_)
    · first | exact absurd c70 (by decide) | exact absurd (by decide) c70
    · skip
      refine rc_p (p_aload_n 1 (dk_at ktX1_begin_0 39 rfl) rfl rfl (b := 74) rfl) ?_
      refine r_geta fl_X1_16 rfl (hd.lt 1 (by decide)) hd.s1 (dk_at ktX1_begin_0 40 rfl) hd.g1_1 (b := 77) rfl ?_
      refine rc_p (p_iload_n 0 (dk_at ktX1_begin_0 41 rfl) rfl rfl (b := 78) rfl) ?_
      refine r_aald (j := 0) (id2 := (d + 8)) (hd.lt 7 (by decide)) hd.s7 (by decide) (dk_at ktX1_begin_0 42 rfl) rfl ⟨by decide, by decide⟩ hd.g7_0 (b := 79) rfl ?_
      refine rc_p (p_iconst (v := 0) (dk_at ktX1_begin_0 43 rfl) (by decide) (b := 80) rfl) ?_
      refine r_vS (As := [.ref (d + 8), .int 0]) (rest := []) (s_J7_fill_53178 (ar := (d + 8)) (len := 16) ⟨(hd.lt 8 (by decide)), hd.s8⟩ (by decide) 0) cw_X1_47 qs_J7_fill_53178 (dk_at ktX1_begin_0 44 rfl) rfl rfl (Nat.le_of_ble_eq_true rfl) (by decide) (b := 83) rfl (fun I1 J2 q3 => ?_)
      obtain ⟨rfl, rfl⟩ := q3
      refine rc_p (p_iinc (j := 0) (v := 1) (ls' := [(2, .int 1), (0, .ref (d + 1)), (1, .ref (x + 2))]) (dk_at ktX1_begin_0 45 rfl) rfl (by decide) (by decide) rfl (b := 86) rfl) ?_
      refine rc_p (p_goto (b := 68) (dk_at ktX1_begin_0 46 rfl) (by decide)) ?_
      refine rc_p (p_iload_n 0 (dk_at ktX1_begin_0 36 rfl) rfl rfl (b := 69) rfl) ?_
      refine rc_p (p_iconst (v := 2) (dk_at ktX1_begin_0 37 rfl) (by decide) (b := 70) rfl) ?_
      refine r_icmp_gt (dk_at ktX1_begin_0 38 rfl) (b := 89) (by decide) (b2 := 73) rfl (fun c70_1 => ?_) (fun c70_1 => ?_)
      · first | exact absurd c70_1 (by decide) | exact absurd (by decide) c70_1
      · skip
        refine rc_p (p_aload_n 1 (dk_at ktX1_begin_0 39 rfl) rfl rfl (b := 74) rfl) ?_
        refine r_geta fl_X1_16 rfl (hd.lt 1 (by decide)) hd.s1 (dk_at ktX1_begin_0 40 rfl) hd.g1_1 (b := 77) rfl ?_
        refine rc_p (p_iload_n 0 (dk_at ktX1_begin_0 41 rfl) rfl rfl (b := 78) rfl) ?_
        refine r_aald (j := 1) (id2 := (d + 9)) (hd.lt 7 (by decide)) hd.s7 (by decide) (dk_at ktX1_begin_0 42 rfl) rfl ⟨by decide, by decide⟩ hd.g7_1 (b := 79) rfl ?_
        refine rc_p (p_iconst (v := 0) (dk_at ktX1_begin_0 43 rfl) (by decide) (b := 80) rfl) ?_
        refine r_vS (As := [.ref (d + 9), .int 0]) (rest := []) (s_J7_fill_53178 (ar := (d + 9)) (len := 16) ⟨(hd.lt 9 (by decide)), hd.s9⟩ (by decide) 0) cw_X1_47 qs_J7_fill_53178 (dk_at ktX1_begin_0 44 rfl) rfl rfl (Nat.le_of_ble_eq_true rfl) (by decide) (b := 83) rfl (fun I5 J6 q7 => ?_)
        obtain ⟨rfl, rfl⟩ := q7
        refine rc_p (p_iinc (j := 0) (v := 2) (ls' := [(2, .int 2), (0, .ref (d + 1)), (1, .ref (x + 2))]) (dk_at ktX1_begin_0 45 rfl) rfl (by decide) (by decide) rfl (b := 86) rfl) ?_
        refine rc_p (p_goto (b := 68) (dk_at ktX1_begin_0 46 rfl) (by decide)) ?_
        refine rc_p (p_iload_n 0 (dk_at ktX1_begin_0 36 rfl) rfl rfl (b := 69) rfl) ?_
        refine rc_p (p_iconst (v := 2) (dk_at ktX1_begin_0 37 rfl) (by decide) (b := 70) rfl) ?_
        refine r_icmp_gt (dk_at ktX1_begin_0 38 rfl) (b := 89) (by decide) (b2 := 73) rfl (fun c70_2 => ?_) (fun c70_2 => ?_)
        · first | exact absurd c70_2 (by decide) | exact absurd (by decide) c70_2
        · skip
          refine rc_p (p_aload_n 1 (dk_at ktX1_begin_0 39 rfl) rfl rfl (b := 74) rfl) ?_
          refine r_geta fl_X1_16 rfl (hd.lt 1 (by decide)) hd.s1 (dk_at ktX1_begin_0 40 rfl) hd.g1_1 (b := 77) rfl ?_
          refine rc_p (p_iload_n 0 (dk_at ktX1_begin_0 41 rfl) rfl rfl (b := 78) rfl) ?_
          refine r_aald (j := 2) (id2 := (d + 10)) (hd.lt 7 (by decide)) hd.s7 (by decide) (dk_at ktX1_begin_0 42 rfl) rfl ⟨by decide, by decide⟩ hd.g7_2 (b := 79) rfl ?_
          refine rc_p (p_iconst (v := 0) (dk_at ktX1_begin_0 43 rfl) (by decide) (b := 80) rfl) ?_
          refine r_vS (As := [.ref (d + 10), .int 0]) (rest := []) (s_J7_fill_53178 (ar := (d + 10)) (len := 16) ⟨(hd.lt 10 (by decide)), hd.s10⟩ (by decide) 0) cw_X1_47 qs_J7_fill_53178 (dk_at ktX1_begin_0 44 rfl) rfl rfl (Nat.le_of_ble_eq_true rfl) (by decide) (b := 83) rfl (fun I9 J10 q11 => ?_)
          obtain ⟨rfl, rfl⟩ := q11
          refine rc_p (p_iinc (j := 0) (v := 3) (ls' := [(2, .int 3), (0, .ref (d + 1)), (1, .ref (x + 2))]) (dk_at ktX1_begin_0 45 rfl) rfl (by decide) (by decide) rfl (b := 86) rfl) ?_
          refine rc_p (p_goto (b := 68) (dk_at ktX1_begin_0 46 rfl) (by decide)) ?_
          refine rc_p (p_iload_n 0 (dk_at ktX1_begin_0 36 rfl) rfl rfl (b := 69) rfl) ?_
          refine rc_p (p_iconst (v := 2) (dk_at ktX1_begin_0 37 rfl) (by decide) (b := 70) rfl) ?_
          refine r_icmp_gt (dk_at ktX1_begin_0 38 rfl) (b := 89) (by decide) (b2 := 73) rfl (fun c70_3 => ?_) (fun c70_3 => ?_)
          · skip
            refine rc_p (p_iconst (v := 0) (dk_at ktX1_begin_0 47 rfl) (by decide) (b := 90) rfl) ?_
            refine rc_p (p_istore_n (ls' := [(2, .int 0), (0, .ref (d + 1)), (1, .ref (x + 2))]) (dk_at ktX1_begin_0 48 rfl) rfl (by decide) rfl (b := 91) rfl) ?_
            refine rc_p (p_iload_n 0 (dk_at ktX1_begin_0 49 rfl) rfl rfl (b := 92) rfl) ?_
            refine rc_p (p_iconst (v := 1) (dk_at ktX1_begin_0 50 rfl) (by decide) (b := 93) rfl) ?_
            refine r_icmp_gt (dk_at ktX1_begin_0 51 rfl) (b := 134) (by decide) (b2 := 96) rfl (fun c93 => ?_) (fun c93 => ?_)
            · first | exact absurd c93 (by decide) | exact absurd (by decide) c93
            · skip
              refine rc_p (p_aload_n 2 (dk_at ktX1_begin_0 52 rfl) rfl rfl (b := 97) rfl) ?_
              refine r_geta fl_X1_53 rfl (hx.lt 2 (by decide)) hx.s2 (dk_at ktX1_begin_0 53 rfl) hx.g2_0 (b := 100) rfl ?_
              refine rc_p (p_iload_n 0 (dk_at ktX1_begin_0 54 rfl) rfl rfl (b := 101) rfl) ?_
              refine r_aald (j := 0) (id2 := (x + 4)) (hx.lt 3 (by decide)) hx.s3 (by decide) (dk_at ktX1_begin_0 55 rfl) rfl ⟨by decide, by decide⟩ hx.g3_0 (b := 102) rfl ?_
              refine rc_p (p_iconst (v := 0) (dk_at ktX1_begin_0 56 rfl) (by decide) (b := 103) rfl) ?_
              refine rc_p (p_aload_n 1 (dk_at ktX1_begin_0 57 rfl) rfl rfl (b := 104) rfl) ?_
              refine r_geta fl_X1_11 rfl (hd.lt 1 (by decide)) hd.s1 (dk_at ktX1_begin_0 58 rfl) hd.g1_0 (b := 107) rfl ?_
              refine rc_p (p_iload_n 0 (dk_at ktX1_begin_0 59 rfl) rfl rfl (b := 108) rfl) ?_
              refine r_aald (j := 0) (id2 := (d + 3)) (hd.lt 2 (by decide)) hd.s2 (by decide) (dk_at ktX1_begin_1 0 rfl) rfl ⟨by decide, by decide⟩ hd.g2_0 (b := 109) rfl ?_
              refine rc_p (p_iconst (v := 0) (dk_at ktX1_begin_1 1 rfl) (by decide) (b := 110) rfl) ?_
              refine rc_p (p_bipush (v := 64) (dk_at ktX1_begin_1 2 rfl) (by decide) (b := 112) rfl) ?_
              refine r_copy (N := 64) qm_X1_56 qn_java_lang_System (hx.lt 4 (by decide)) hx.s4 (hd.lt 3 (by decide)) hd.s3 (by decide) rfl rfl rfl (by decide) (dk_at ktX1_begin_1 3 rfl) (b := 115) rfl ?_
              refine rc_p (p_aload_n 1 (dk_at ktX1_begin_1 4 rfl) rfl rfl (b := 116) rfl) ?_
              refine r_geta fl_X1_11 rfl (hd.lt 1 (by decide)) hd.s1 (dk_at ktX1_begin_1 5 rfl) hd.g1_0 (b := 119) rfl ?_
              refine rc_p (p_iconst (v := 2) (dk_at ktX1_begin_1 6 rfl) (by decide) (b := 120) rfl) ?_
              refine rc_p (p_iload_n 0 (dk_at ktX1_begin_1 7 rfl) rfl rfl (b := 121) rfl) ?_
              refine rc_p (p_iadd (v := 2) (dk_at ktX1_begin_1 8 rfl) rfl (b := 122) rfl) ?_
              refine r_aald (j := 2) (id2 := (d + 5)) (hd.lt 2 (by decide)) hd.s2 (by decide) (dk_at ktX1_begin_1 9 rfl) rfl ⟨by decide, by decide⟩ hd.g2_2 (b := 123) rfl ?_
              refine rc_p (p_ldc (v := 65535) qk_TwinBoot_Flash_62 (dk_at ktX1_begin_1 10 rfl) (b := 125) rfl) ?_
              refine r_vS (As := [.ref (d + 5), .int 65535]) (rest := []) (s_J7_fill_53178 (ar := (d + 5)) (len := 64) ⟨(hd.lt 5 (by decide)), hd.s5⟩ (by decide) 65535) cw_X1_47 qs_J7_fill_53178 (dk_at ktX1_begin_1 11 rfl) rfl rfl (Nat.le_of_ble_eq_true rfl) (by decide) (b := 128) rfl (fun I13 J14 q15 => ?_)
              obtain ⟨rfl, rfl⟩ := q15
              refine rc_p (p_iinc (j := 0) (v := 1) (ls' := [(2, .int 1), (0, .ref (d + 1)), (1, .ref (x + 2))]) (dk_at ktX1_begin_1 12 rfl) rfl (by decide) (by decide) rfl (b := 131) rfl) ?_
              refine rc_p (p_goto (b := 91) (dk_at ktX1_begin_1 13 rfl) (by decide)) ?_
              refine rc_p (p_iload_n 0 (dk_at ktX1_begin_0 49 rfl) rfl rfl (b := 92) rfl) ?_
              refine rc_p (p_iconst (v := 1) (dk_at ktX1_begin_0 50 rfl) (by decide) (b := 93) rfl) ?_
              refine r_icmp_gt (dk_at ktX1_begin_0 51 rfl) (b := 134) (by decide) (b2 := 96) rfl (fun c93_1 => ?_) (fun c93_1 => ?_)
              · first | exact absurd c93_1 (by decide) | exact absurd (by decide) c93_1
              · skip
                refine rc_p (p_aload_n 2 (dk_at ktX1_begin_0 52 rfl) rfl rfl (b := 97) rfl) ?_
                refine r_geta fl_X1_53 rfl (hx.lt 2 (by decide)) hx.s2 (dk_at ktX1_begin_0 53 rfl) hx.g2_0 (b := 100) rfl ?_
                refine rc_p (p_iload_n 0 (dk_at ktX1_begin_0 54 rfl) rfl rfl (b := 101) rfl) ?_
                refine r_aald (j := 1) (id2 := (x + 5)) (hx.lt 3 (by decide)) hx.s3 (by decide) (dk_at ktX1_begin_0 55 rfl) rfl ⟨by decide, by decide⟩ hx.g3_1 (b := 102) rfl ?_
                refine rc_p (p_iconst (v := 0) (dk_at ktX1_begin_0 56 rfl) (by decide) (b := 103) rfl) ?_
                refine rc_p (p_aload_n 1 (dk_at ktX1_begin_0 57 rfl) rfl rfl (b := 104) rfl) ?_
                refine r_geta fl_X1_11 rfl (hd.lt 1 (by decide)) hd.s1 (dk_at ktX1_begin_0 58 rfl) hd.g1_0 (b := 107) rfl ?_
                refine rc_p (p_iload_n 0 (dk_at ktX1_begin_0 59 rfl) rfl rfl (b := 108) rfl) ?_
                refine r_aald (j := 1) (id2 := (d + 4)) (hd.lt 2 (by decide)) hd.s2 (by decide) (dk_at ktX1_begin_1 0 rfl) rfl ⟨by decide, by decide⟩ hd.g2_1 (b := 109) rfl ?_
                refine rc_p (p_iconst (v := 0) (dk_at ktX1_begin_1 1 rfl) (by decide) (b := 110) rfl) ?_
                refine rc_p (p_bipush (v := 64) (dk_at ktX1_begin_1 2 rfl) (by decide) (b := 112) rfl) ?_
                refine r_copy (N := 64) qm_X1_56 qn_java_lang_System (hx.lt 5 (by decide)) hx.s5 (hd.lt 4 (by decide)) hd.s4 (by decide) rfl rfl rfl (by decide) (dk_at ktX1_begin_1 3 rfl) (b := 115) rfl ?_
                refine rc_p (p_aload_n 1 (dk_at ktX1_begin_1 4 rfl) rfl rfl (b := 116) rfl) ?_
                refine r_geta fl_X1_11 rfl (hd.lt 1 (by decide)) hd.s1 (dk_at ktX1_begin_1 5 rfl) hd.g1_0 (b := 119) rfl ?_
                refine rc_p (p_iconst (v := 2) (dk_at ktX1_begin_1 6 rfl) (by decide) (b := 120) rfl) ?_
                refine rc_p (p_iload_n 0 (dk_at ktX1_begin_1 7 rfl) rfl rfl (b := 121) rfl) ?_
                refine rc_p (p_iadd (v := 3) (dk_at ktX1_begin_1 8 rfl) rfl (b := 122) rfl) ?_
                refine r_aald (j := 3) (id2 := (d + 6)) (hd.lt 2 (by decide)) hd.s2 (by decide) (dk_at ktX1_begin_1 9 rfl) rfl ⟨by decide, by decide⟩ hd.g2_3 (b := 123) rfl ?_
                refine rc_p (p_ldc (v := 65535) qk_TwinBoot_Flash_62 (dk_at ktX1_begin_1 10 rfl) (b := 125) rfl) ?_
                refine r_vS (As := [.ref (d + 6), .int 65535]) (rest := []) (s_J7_fill_53178 (ar := (d + 6)) (len := 64) ⟨(hd.lt 6 (by decide)), hd.s6⟩ (by decide) 65535) cw_X1_47 qs_J7_fill_53178 (dk_at ktX1_begin_1 11 rfl) rfl rfl (Nat.le_of_ble_eq_true rfl) (by decide) (b := 128) rfl (fun I17 J18 q19 => ?_)
                obtain ⟨rfl, rfl⟩ := q19
                refine rc_p (p_iinc (j := 0) (v := 2) (ls' := [(2, .int 2), (0, .ref (d + 1)), (1, .ref (x + 2))]) (dk_at ktX1_begin_1 12 rfl) rfl (by decide) (by decide) rfl (b := 131) rfl) ?_
                refine rc_p (p_goto (b := 91) (dk_at ktX1_begin_1 13 rfl) (by decide)) ?_
                refine rc_p (p_iload_n 0 (dk_at ktX1_begin_0 49 rfl) rfl rfl (b := 92) rfl) ?_
                refine rc_p (p_iconst (v := 1) (dk_at ktX1_begin_0 50 rfl) (by decide) (b := 93) rfl) ?_
                refine r_icmp_gt (dk_at ktX1_begin_0 51 rfl) (b := 134) (by decide) (b2 := 96) rfl (fun c93_2 => ?_) (fun c93_2 => ?_)
                · skip
                  refine rc_p (p_aload_n 1 (dk_at ktX1_begin_1 14 rfl) rfl rfl (b := 135) rfl) ?_
                  refine r_geta fl_X1_11 rfl (hd.lt 1 (by decide)) hd.s1 (dk_at ktX1_begin_1 15 rfl) hd.g1_0 (b := 138) rfl ?_
                  refine rc_p (p_iconst (v := 2) (dk_at ktX1_begin_1 16 rfl) (by decide) (b := 139) rfl) ?_
                  refine r_aald (j := 2) (id2 := (d + 5)) (hd.lt 2 (by decide)) hd.s2 (by decide) (dk_at ktX1_begin_1 17 rfl) rfl ⟨by decide, by decide⟩ hd.g2_2 (b := 140) rfl ?_
                  refine rc_p (p_astore_n (ls' := [(2, .ref (d + 5)), (0, .ref (d + 1)), (1, .ref (x + 2))]) (dk_at ktX1_begin_1 18 rfl) rfl (by decide) rfl (b := 141) rfl) ?_
                  refine rc_p (p_iconst (v := 0) (dk_at ktX1_begin_1 19 rfl) (by decide) (b := 142) rfl) ?_
                  refine rc_p (p_istore_n (ls' := [(3, .int 0), (2, .ref (d + 5)), (0, .ref (d + 1)), (1, .ref (x + 2))]) (dk_at ktX1_begin_1 20 rfl) rfl (by decide) rfl (b := 143) rfl) ?_
                  refine rc_p (p_aload_n 1 (dk_at ktX1_begin_1 21 rfl) rfl rfl (b := 144) rfl) ?_
                  refine rc_p (p_iload_n 0 (dk_at ktX1_begin_1 22 rfl) rfl rfl (b := 145) rfl) ?_
                  refine rc_p (p_iinc (j := 0) (v := 1) (ls' := [(3, .int 1), (2, .ref (d + 5)), (0, .ref (d + 1)), (1, .ref (x + 2))]) (dk_at ktX1_begin_1 23 rfl) rfl (by decide) (by decide) rfl (b := 148) rfl) ?_
                  refine rc_p (p_bipush (v := 6) (dk_at ktX1_begin_1 24 rfl) (by decide) (b := 150) rfl) ?_
                  refine rc_p (p_iconst (v := 0) (dk_at ktX1_begin_1 25 rfl) (by decide) (b := 151) rfl) ?_
                  refine r_iS (As := [.int 6, .int 0]) (rest := [.int 0, .ref (d + 5)]) (s_X2_wordOf 6 0) cw_X1_63 qs_X2_wordOf (dk_at ktX1_begin_1 26 rfl) rfl rfl (Nat.le_of_ble_eq_true rfl) (by decide) (b := 154) rfl (fun v24 I21 J22 q23 => ?_)
                  obtain ⟨rfl, rfl, rfl⟩ := q23
                  refine r_iast (j := 0) (hd.lt 5 (by decide)) hd.s5 (dk_at ktX1_begin_1 27 rfl) rfl ⟨by decide, by decide⟩ (b := 155) rfl ?_
                  refine rc_p (p_aload_n 3 (dk_at ktX1_begin_1 28 rfl) rfl rfl (b := 156) rfl) ?_
                  refine r_geti fl_X1_69 rfl (hx.lt 2 (by decide)) hx.s2 (dk_at ktX1_begin_1 29 rfl) (v := (nI S.fl)) ((up2_n (by omega)).trans (((congrFun (fl1_off (by omega)) 6)).trans (((congrFun (cpy_off (by omega)) 6)).trans (((congrFun (fl1_off (by omega)) 6)).trans (((congrFun (cpy_off (by omega)) 6)).trans (((congrFun (fl1_off (by omega)) 6)).trans (((congrFun (fl1_off (by omega)) 6)).trans (((congrFun (fl1_off (by omega)) 6)).trans ((up2_n (by omega)).trans ((up2_n (by omega)).trans ((up2_n (by omega)).trans ((up2_n (by omega)).trans ((up2_n (by omega)).trans ((up2_n (by omega)).trans ((up2_n (by omega)).trans hS.2.1.2.2.1))))))))))))))) (b := 159) rfl ?_
                  refine r_if_le (dk_at ktX1_begin_1 30 rfl) (b := 176) (by decide) (b2 := 162) rfl (fun c159 => ?_) (fun c159 => ?_)
                  · have c159 : S.fl ≤ 0 := (nI_leI (a := S.fl) (b := 0) (by omega) (by omega)).mp c159
                    refine rc_p (p_aload_n 3 (dk_at ktX1_begin_1 39 rfl) rfl rfl (b := 177) rfl) ?_
                    refine r_geti fl_X1_72 rfl (hx.lt 2 (by decide)) hx.s2 (dk_at ktX1_begin_1 40 rfl) (v := S.gd) ((up2_n (by omega)).trans (((congrFun (fl1_off (by omega)) 7)).trans (((congrFun (cpy_off (by omega)) 7)).trans (((congrFun (fl1_off (by omega)) 7)).trans (((congrFun (cpy_off (by omega)) 7)).trans (((congrFun (fl1_off (by omega)) 7)).trans (((congrFun (fl1_off (by omega)) 7)).trans (((congrFun (fl1_off (by omega)) 7)).trans ((up2_n (by omega)).trans ((up2_n (by omega)).trans ((up2_n (by omega)).trans ((up2_n (by omega)).trans ((up2_n (by omega)).trans ((up2_n (by omega)).trans ((up2_n (by omega)).trans (hS.2.1.2.2.2.1)))))))))))))))) (b := 180) rfl ?_
                    refine rc_p (p_iconst (v := (-1)) (dk_at ktX1_begin_1 41 rfl) (by decide) (b := 181) rfl) ?_
                    refine r_icmp_eq (dk_at ktX1_begin_1 42 rfl) (b := 195) (by decide) (b2 := 184) rfl (fun c181 => ?_) (fun c181 => ?_)
                    · skip
                      refine r_vret (dk_at ktX1_begin_1 50 rfl) rfl ⟨rfl, ?_⟩
                      have c159 : ¬ 0 < S.fl := by omega
                      refine ⟨rfl, fun b hb => ((up2_off (by omega)).trans ((fl1_off (by omega)).trans ((cpy_off (by omega)).trans ((fl1_off (by omega)).trans ((cpy_off (by omega)).trans ((fl1_off (by omega)).trans ((fl1_off (by omega)).trans ((fl1_off (by omega)).trans ((up2_off (by omega)).trans ((up2_off (by omega)).trans ((up2_off (by omega)).trans ((up2_off (by omega)).trans ((up2_off (by omega)).trans ((up2_off (by omega)).trans ((up2_off (by omega)).trans rfl))))))))))))))), ⟨fun o k a hl h1 h10 => ?_, by rw [eW, eP]; exact ((up2_n (by omega)).trans (((congrFun (fl1_off (by omega)) 4)).trans (((congrFun (cpy_off (by omega)) 4)).trans (((congrFun (fl1_off (by omega)) 4)).trans (((congrFun (cpy_off (by omega)) 4)).trans (((congrFun (fl1_off (by omega)) 4)).trans (((congrFun (fl1_off (by omega)) 4)).trans (((congrFun (fl1_off (by omega)) 4)).trans ((up2_n (by omega)).trans ((up2_n (by omega)).trans ((up2_n (by omega)).trans ((up2_n (by omega)).trans up2_s))))))))))))⟩⟩
                      unfold Loc at hl
                      rcases hl with ⟨rfl, hl⟩ | ⟨rfl, hl⟩ | hl | hl | hl | hl | ⟨rfl, _⟩ | ⟨rfl, _⟩
                      · rcases hl with ⟨rfl, rfl⟩ | ⟨rfl, rfl⟩ | ⟨rfl, rfl⟩ | ⟨rfl, rfl⟩ | ⟨rfl, rfl⟩ | ⟨rfl, rfl⟩
                        · exact ((up2_n (by omega)).trans (((congrFun (fl1_off (by omega)) 2)).trans (((congrFun (cpy_off (by omega)) 2)).trans (((congrFun (fl1_off (by omega)) 2)).trans (((congrFun (cpy_off (by omega)) 2)).trans (((congrFun (fl1_off (by omega)) 2)).trans (((congrFun (fl1_off (by omega)) 2)).trans (((congrFun (fl1_off (by omega)) 2)).trans ((up2_n (by omega)).trans ((up2_n (by omega)).trans ((up2_n (by omega)).trans ((up2_n (by omega)).trans ((up2_n (by omega)).trans ((up2_n (by omega)).trans up2_s)))))))))))))).trans (e0.symm.trans (newS_lo (by decide)).symm)
                        · exact ((up2_n (by omega)).trans (((congrFun (fl1_off (by omega)) 3)).trans (((congrFun (cpy_off (by omega)) 3)).trans (((congrFun (fl1_off (by omega)) 3)).trans (((congrFun (cpy_off (by omega)) 3)).trans (((congrFun (fl1_off (by omega)) 3)).trans (((congrFun (fl1_off (by omega)) 3)).trans (((congrFun (fl1_off (by omega)) 3)).trans ((up2_n (by omega)).trans ((up2_n (by omega)).trans ((up2_n (by omega)).trans ((up2_n (by omega)).trans ((up2_n (by omega)).trans up2_s))))))))))))).trans (e1.symm.trans (newS_lo (by decide)).symm)
                        · exact ((up2_n (by omega)).trans (((congrFun (fl1_off (by omega)) 5)).trans (((congrFun (cpy_off (by omega)) 5)).trans (((congrFun (fl1_off (by omega)) 5)).trans (((congrFun (cpy_off (by omega)) 5)).trans (((congrFun (fl1_off (by omega)) 5)).trans (((congrFun (fl1_off (by omega)) 5)).trans (((congrFun (fl1_off (by omega)) 5)).trans ((up2_n (by omega)).trans ((up2_n (by omega)).trans ((up2_n (by omega)).trans up2_s))))))))))).trans (newS_lo (by decide)).symm
                        · exact ((up2_n (by omega)).trans (((congrFun (fl1_off (by omega)) 6)).trans (((congrFun (cpy_off (by omega)) 6)).trans (((congrFun (fl1_off (by omega)) 6)).trans (((congrFun (cpy_off (by omega)) 6)).trans (((congrFun (fl1_off (by omega)) 6)).trans (((congrFun (fl1_off (by omega)) 6)).trans (((congrFun (fl1_off (by omega)) 6)).trans ((up2_n (by omega)).trans ((up2_n (by omega)).trans up2_s)))))))))).trans (newS_lo (by decide)).symm
                        · exact ((up2_n (by omega)).trans (((congrFun (fl1_off (by omega)) 7)).trans (((congrFun (cpy_off (by omega)) 7)).trans (((congrFun (fl1_off (by omega)) 7)).trans (((congrFun (cpy_off (by omega)) 7)).trans (((congrFun (fl1_off (by omega)) 7)).trans (((congrFun (fl1_off (by omega)) 7)).trans (((congrFun (fl1_off (by omega)) 7)).trans ((up2_n (by omega)).trans up2_s))))))))).trans ((newS_c (k := 6) hG (by decide) (by decide) (by decide)).trans (show row0 6 = -1 from rfl)).symm
                        · exact ((up2_n (by omega)).trans (((congrFun (fl1_off (by omega)) 8)).trans (((congrFun (cpy_off (by omega)) 8)).trans (((congrFun (fl1_off (by omega)) 8)).trans (((congrFun (cpy_off (by omega)) 8)).trans (((congrFun (fl1_off (by omega)) 8)).trans (((congrFun (fl1_off (by omega)) 8)).trans (((congrFun (fl1_off (by omega)) 8)).trans up2_s)))))))).trans ((newS_c (k := 9) hG (by decide) (by decide) (by decide)).trans (show row0 9 = 0 from rfl)).symm
                      · omega
                      · rcases (by omega : o = 3 ∨ o = 4) with rfl | rfl
                        · obtain rfl : a = 83 + k := by omega
                          exact ((up2_n (by omega)).trans (((congrFun (fl1_off (by omega)) k)).trans (((congrFun (cpy_off (by omega)) k)).trans (((congrFun (fl1_off (by omega)) k)).trans ((cpy_in (by omega)).trans (((congrFun (fl1_off (by omega)) k)).trans (((congrFun (fl1_off (by omega)) k)).trans (((congrFun (fl1_off (by omega)) k)).trans ((up2_n (by omega)).trans ((up2_n (by omega)).trans ((up2_n (by omega)).trans ((up2_n (by omega)).trans ((up2_n (by omega)).trans ((up2_n (by omega)).trans ((up2_n (by omega)).trans (hS.2.2 0 k (by decide) (by omega))))))))))))))))).trans (newS_lo (by omega)).symm
                        · obtain rfl : a = 147 + k := by omega
                          exact ((up2_n (by omega)).trans (((congrFun (fl1_off (by omega)) k)).trans ((cpy_in (by omega)).trans (((congrFun (fl1_off (by omega)) k)).trans (((congrFun (cpy_off (by omega)) k)).trans (((congrFun (fl1_off (by omega)) k)).trans (((congrFun (fl1_off (by omega)) k)).trans (((congrFun (fl1_off (by omega)) k)).trans ((up2_n (by omega)).trans ((up2_n (by omega)).trans ((up2_n (by omega)).trans ((up2_n (by omega)).trans ((up2_n (by omega)).trans ((up2_n (by omega)).trans ((up2_n (by omega)).trans (hS.2.2 1 k (by decide) (by omega))))))))))))))))).trans (newS_lo (by omega)).symm
                      · rcases (by omega : o = 5 ∨ o = 6) with rfl | rfl
                        · obtain rfl : a = 211 + k := by omega
                          by_cases k0 : k = 0
                          · subst k0; exact up2_s.trans ((show wordI 6 0 = 24582 by decide).trans (show newS S 211 = 24582 from if_pos rfl).symm)
                          · by_cases k1 : k = 1
                            · subst k1
                              unfold newS
                              rw [if_neg (by decide), if_pos (by decide), if_neg c159, if_pos c181]
                              exact (up2_k (by decide)).trans (((congrFun (fl1_off (by omega)) 1)).trans (((congrFun (cpy_off (by omega)) 1)).trans (((if_pos ⟨rfl, Nat.zero_le _, by omega⟩ : _ = (65535 : Int32)).trans (hG.2.1.2.2.2.2.1 212 (by decide) (by decide)).symm))))
                            · by_cases k2 : k = 2
                              · subst k2
                                unfold newS
                                rw [if_neg (by decide), if_neg (by decide), if_pos (by decide), if_neg (fun q => c159 q.1)]
                                exact (up2_k (by decide)).trans (((congrFun (fl1_off (by omega)) 2)).trans (((congrFun (cpy_off (by omega)) 2)).trans (((if_pos ⟨rfl, Nat.zero_le _, by omega⟩ : _ = (65535 : Int32)).trans (hG.2.1.2.2.2.2.1 213 (by decide) (by decide)).symm))))
                              · rw [newS_j hG (by omega) (by omega)]
                                exact (up2_k k0).trans (((congrFun (fl1_off (by omega)) k)).trans (((congrFun (cpy_off (by omega)) k)).trans ((if_pos ⟨rfl, Nat.zero_le _, by omega⟩))))
                        · obtain rfl : a = 243 + k := by omega
                          rw [newS_j hG (by omega) (by omega)]
                          exact ((up2_n (by omega)).trans (if_pos ⟨rfl, Nat.zero_le _, by omega⟩))
                      · rcases (by omega : o = 8 ∨ o = 9) with rfl | rfl
                        · rw [newS_0 hG (by omega) (by omega)]
                          exact ((up2_n (by omega)).trans (((congrFun (fl1_off (by omega)) k)).trans (((congrFun (cpy_off (by omega)) k)).trans (((congrFun (fl1_off (by omega)) k)).trans (((congrFun (cpy_off (by omega)) k)).trans (((congrFun (fl1_off (by omega)) k)).trans (((congrFun (fl1_off (by omega)) k)).trans (if_pos ⟨rfl, Nat.zero_le _, by omega⟩))))))))
                        · rw [newS_0 hG (by omega) (by omega)]
                          exact ((up2_n (by omega)).trans (((congrFun (fl1_off (by omega)) k)).trans (((congrFun (cpy_off (by omega)) k)).trans (((congrFun (fl1_off (by omega)) k)).trans (((congrFun (cpy_off (by omega)) k)).trans (((congrFun (fl1_off (by omega)) k)).trans (if_pos ⟨rfl, Nat.zero_le _, by omega⟩)))))))
                      · obtain ⟨rfl, hk, rfl⟩ := hl
                        rw [newS_0 hG (by omega) (by omega)]
                        exact ((up2_n (by omega)).trans (((congrFun (fl1_off (by omega)) k)).trans (((congrFun (cpy_off (by omega)) k)).trans (((congrFun (fl1_off (by omega)) k)).trans (((congrFun (cpy_off (by omega)) k)).trans (if_pos ⟨rfl, Nat.zero_le _, by omega⟩))))))
                      · omega
                      · omega
                    · skip
                      refine rc_p (p_aload_n 1 (dk_at ktX1_begin_1 43 rfl) rfl rfl (b := 185) rfl) ?_
                      refine rc_p (p_iload_n 0 (dk_at ktX1_begin_1 44 rfl) rfl rfl (b := 186) rfl) ?_
                      refine rc_p (p_iconst (v := 2) (dk_at ktX1_begin_1 45 rfl) (by decide) (b := 187) rfl) ?_
                      refine rc_p (p_aload_n 3 (dk_at ktX1_begin_1 46 rfl) rfl rfl (b := 188) rfl) ?_
                      refine r_geti fl_X1_72 rfl (hx.lt 2 (by decide)) hx.s2 (dk_at ktX1_begin_1 47 rfl) (v := S.gd) ((up2_n (by omega)).trans (((congrFun (fl1_off (by omega)) 7)).trans (((congrFun (cpy_off (by omega)) 7)).trans (((congrFun (fl1_off (by omega)) 7)).trans (((congrFun (cpy_off (by omega)) 7)).trans (((congrFun (fl1_off (by omega)) 7)).trans (((congrFun (fl1_off (by omega)) 7)).trans (((congrFun (fl1_off (by omega)) 7)).trans ((up2_n (by omega)).trans ((up2_n (by omega)).trans ((up2_n (by omega)).trans ((up2_n (by omega)).trans ((up2_n (by omega)).trans ((up2_n (by omega)).trans ((up2_n (by omega)).trans (hS.2.1.2.2.2.1)))))))))))))))) (b := 191) rfl ?_
                      refine r_iS (As := [.int 2, .int S.gd]) (rest := [.int 1, .ref (d + 5)]) (s_X2_wordOf 2 S.gd) cw_X1_63 qs_X2_wordOf (dk_at ktX1_begin_1 48 rfl) rfl rfl (Nat.le_of_ble_eq_true rfl) (by decide) (b := 194) rfl (fun v28 I25 J26 q27 => ?_)
                      obtain ⟨rfl, rfl, rfl⟩ := q27
                      refine r_iast (j := 1) (hd.lt 5 (by decide)) hd.s5 (dk_at ktX1_begin_1 49 rfl) rfl ⟨by decide, by decide⟩ (b := 195) rfl ?_
                      refine r_vret (dk_at ktX1_begin_1 50 rfl) rfl ⟨rfl, ?_⟩
                      have c159 : ¬ 0 < S.fl := by omega
                      refine ⟨rfl, fun b hb => ((up2_off (by omega)).trans ((up2_off (by omega)).trans ((fl1_off (by omega)).trans ((cpy_off (by omega)).trans ((fl1_off (by omega)).trans ((cpy_off (by omega)).trans ((fl1_off (by omega)).trans ((fl1_off (by omega)).trans ((fl1_off (by omega)).trans ((up2_off (by omega)).trans ((up2_off (by omega)).trans ((up2_off (by omega)).trans ((up2_off (by omega)).trans ((up2_off (by omega)).trans ((up2_off (by omega)).trans ((up2_off (by omega)).trans rfl)))))))))))))))), ⟨fun o k a hl h1 h10 => ?_, by rw [eW, eP]; exact ((up2_n (by omega)).trans ((up2_n (by omega)).trans (((congrFun (fl1_off (by omega)) 4)).trans (((congrFun (cpy_off (by omega)) 4)).trans (((congrFun (fl1_off (by omega)) 4)).trans (((congrFun (cpy_off (by omega)) 4)).trans (((congrFun (fl1_off (by omega)) 4)).trans (((congrFun (fl1_off (by omega)) 4)).trans (((congrFun (fl1_off (by omega)) 4)).trans ((up2_n (by omega)).trans ((up2_n (by omega)).trans ((up2_n (by omega)).trans ((up2_n (by omega)).trans up2_s)))))))))))))⟩⟩
                      unfold Loc at hl
                      rcases hl with ⟨rfl, hl⟩ | ⟨rfl, hl⟩ | hl | hl | hl | hl | ⟨rfl, _⟩ | ⟨rfl, _⟩
                      · rcases hl with ⟨rfl, rfl⟩ | ⟨rfl, rfl⟩ | ⟨rfl, rfl⟩ | ⟨rfl, rfl⟩ | ⟨rfl, rfl⟩ | ⟨rfl, rfl⟩
                        · exact ((up2_n (by omega)).trans ((up2_n (by omega)).trans (((congrFun (fl1_off (by omega)) 2)).trans (((congrFun (cpy_off (by omega)) 2)).trans (((congrFun (fl1_off (by omega)) 2)).trans (((congrFun (cpy_off (by omega)) 2)).trans (((congrFun (fl1_off (by omega)) 2)).trans (((congrFun (fl1_off (by omega)) 2)).trans (((congrFun (fl1_off (by omega)) 2)).trans ((up2_n (by omega)).trans ((up2_n (by omega)).trans ((up2_n (by omega)).trans ((up2_n (by omega)).trans ((up2_n (by omega)).trans ((up2_n (by omega)).trans up2_s))))))))))))))).trans (e0.symm.trans (newS_lo (by decide)).symm)
                        · exact ((up2_n (by omega)).trans ((up2_n (by omega)).trans (((congrFun (fl1_off (by omega)) 3)).trans (((congrFun (cpy_off (by omega)) 3)).trans (((congrFun (fl1_off (by omega)) 3)).trans (((congrFun (cpy_off (by omega)) 3)).trans (((congrFun (fl1_off (by omega)) 3)).trans (((congrFun (fl1_off (by omega)) 3)).trans (((congrFun (fl1_off (by omega)) 3)).trans ((up2_n (by omega)).trans ((up2_n (by omega)).trans ((up2_n (by omega)).trans ((up2_n (by omega)).trans ((up2_n (by omega)).trans up2_s)))))))))))))).trans (e1.symm.trans (newS_lo (by decide)).symm)
                        · exact ((up2_n (by omega)).trans ((up2_n (by omega)).trans (((congrFun (fl1_off (by omega)) 5)).trans (((congrFun (cpy_off (by omega)) 5)).trans (((congrFun (fl1_off (by omega)) 5)).trans (((congrFun (cpy_off (by omega)) 5)).trans (((congrFun (fl1_off (by omega)) 5)).trans (((congrFun (fl1_off (by omega)) 5)).trans (((congrFun (fl1_off (by omega)) 5)).trans ((up2_n (by omega)).trans ((up2_n (by omega)).trans ((up2_n (by omega)).trans up2_s)))))))))))).trans (newS_lo (by decide)).symm
                        · exact ((up2_n (by omega)).trans ((up2_n (by omega)).trans (((congrFun (fl1_off (by omega)) 6)).trans (((congrFun (cpy_off (by omega)) 6)).trans (((congrFun (fl1_off (by omega)) 6)).trans (((congrFun (cpy_off (by omega)) 6)).trans (((congrFun (fl1_off (by omega)) 6)).trans (((congrFun (fl1_off (by omega)) 6)).trans (((congrFun (fl1_off (by omega)) 6)).trans ((up2_n (by omega)).trans ((up2_n (by omega)).trans up2_s))))))))))).trans (newS_lo (by decide)).symm
                        · exact ((up2_n (by omega)).trans ((up2_n (by omega)).trans (((congrFun (fl1_off (by omega)) 7)).trans (((congrFun (cpy_off (by omega)) 7)).trans (((congrFun (fl1_off (by omega)) 7)).trans (((congrFun (cpy_off (by omega)) 7)).trans (((congrFun (fl1_off (by omega)) 7)).trans (((congrFun (fl1_off (by omega)) 7)).trans (((congrFun (fl1_off (by omega)) 7)).trans ((up2_n (by omega)).trans up2_s)))))))))).trans ((newS_c (k := 6) hG (by decide) (by decide) (by decide)).trans (show row0 6 = -1 from rfl)).symm
                        · exact ((up2_n (by omega)).trans ((up2_n (by omega)).trans (((congrFun (fl1_off (by omega)) 8)).trans (((congrFun (cpy_off (by omega)) 8)).trans (((congrFun (fl1_off (by omega)) 8)).trans (((congrFun (cpy_off (by omega)) 8)).trans (((congrFun (fl1_off (by omega)) 8)).trans (((congrFun (fl1_off (by omega)) 8)).trans (((congrFun (fl1_off (by omega)) 8)).trans up2_s))))))))).trans ((newS_c (k := 9) hG (by decide) (by decide) (by decide)).trans (show row0 9 = 0 from rfl)).symm
                      · omega
                      · rcases (by omega : o = 3 ∨ o = 4) with rfl | rfl
                        · obtain rfl : a = 83 + k := by omega
                          exact ((up2_n (by omega)).trans ((up2_n (by omega)).trans (((congrFun (fl1_off (by omega)) k)).trans (((congrFun (cpy_off (by omega)) k)).trans (((congrFun (fl1_off (by omega)) k)).trans ((cpy_in (by omega)).trans (((congrFun (fl1_off (by omega)) k)).trans (((congrFun (fl1_off (by omega)) k)).trans (((congrFun (fl1_off (by omega)) k)).trans ((up2_n (by omega)).trans ((up2_n (by omega)).trans ((up2_n (by omega)).trans ((up2_n (by omega)).trans ((up2_n (by omega)).trans ((up2_n (by omega)).trans ((up2_n (by omega)).trans (hS.2.2 0 k (by decide) (by omega)))))))))))))))))).trans (newS_lo (by omega)).symm
                        · obtain rfl : a = 147 + k := by omega
                          exact ((up2_n (by omega)).trans ((up2_n (by omega)).trans (((congrFun (fl1_off (by omega)) k)).trans ((cpy_in (by omega)).trans (((congrFun (fl1_off (by omega)) k)).trans (((congrFun (cpy_off (by omega)) k)).trans (((congrFun (fl1_off (by omega)) k)).trans (((congrFun (fl1_off (by omega)) k)).trans (((congrFun (fl1_off (by omega)) k)).trans ((up2_n (by omega)).trans ((up2_n (by omega)).trans ((up2_n (by omega)).trans ((up2_n (by omega)).trans ((up2_n (by omega)).trans ((up2_n (by omega)).trans ((up2_n (by omega)).trans (hS.2.2 1 k (by decide) (by omega)))))))))))))))))).trans (newS_lo (by omega)).symm
                      · rcases (by omega : o = 5 ∨ o = 6) with rfl | rfl
                        · obtain rfl : a = 211 + k := by omega
                          by_cases k0 : k = 0
                          · subst k0; exact ((up2_n (by omega)).trans up2_s).trans ((show wordI 6 0 = 24582 by decide).trans (show newS S 211 = 24582 from if_pos rfl).symm)
                          · by_cases k1 : k = 1
                            · subst k1
                              unfold newS
                              rw [if_neg (by decide), if_pos (by decide), if_neg c159, if_neg c181]
                              exact up2_s
                            · by_cases k2 : k = 2
                              · subst k2
                                unfold newS
                                rw [if_neg (by decide), if_neg (by decide), if_pos (by decide), if_neg (fun q => c159 q.1)]
                                exact (up2_k (by decide)).trans ((up2_k (by decide)).trans (((congrFun (fl1_off (by omega)) 2)).trans (((congrFun (cpy_off (by omega)) 2)).trans (((if_pos ⟨rfl, Nat.zero_le _, by omega⟩ : _ = (65535 : Int32)).trans (hG.2.1.2.2.2.2.1 213 (by decide) (by decide)).symm)))))
                              · rw [newS_j hG (by omega) (by omega)]
                                exact (up2_k k1).trans ((up2_k k0).trans (((congrFun (fl1_off (by omega)) k)).trans (((congrFun (cpy_off (by omega)) k)).trans ((if_pos ⟨rfl, Nat.zero_le _, by omega⟩)))))
                        · obtain rfl : a = 243 + k := by omega
                          rw [newS_j hG (by omega) (by omega)]
                          exact ((up2_n (by omega)).trans ((up2_n (by omega)).trans (if_pos ⟨rfl, Nat.zero_le _, by omega⟩)))
                      · rcases (by omega : o = 8 ∨ o = 9) with rfl | rfl
                        · rw [newS_0 hG (by omega) (by omega)]
                          exact ((up2_n (by omega)).trans ((up2_n (by omega)).trans (((congrFun (fl1_off (by omega)) k)).trans (((congrFun (cpy_off (by omega)) k)).trans (((congrFun (fl1_off (by omega)) k)).trans (((congrFun (cpy_off (by omega)) k)).trans (((congrFun (fl1_off (by omega)) k)).trans (((congrFun (fl1_off (by omega)) k)).trans (if_pos ⟨rfl, Nat.zero_le _, by omega⟩)))))))))
                        · rw [newS_0 hG (by omega) (by omega)]
                          exact ((up2_n (by omega)).trans ((up2_n (by omega)).trans (((congrFun (fl1_off (by omega)) k)).trans (((congrFun (cpy_off (by omega)) k)).trans (((congrFun (fl1_off (by omega)) k)).trans (((congrFun (cpy_off (by omega)) k)).trans (((congrFun (fl1_off (by omega)) k)).trans (if_pos ⟨rfl, Nat.zero_le _, by omega⟩))))))))
                      · obtain ⟨rfl, hk, rfl⟩ := hl
                        rw [newS_0 hG (by omega) (by omega)]
                        exact ((up2_n (by omega)).trans ((up2_n (by omega)).trans (((congrFun (fl1_off (by omega)) k)).trans (((congrFun (cpy_off (by omega)) k)).trans (((congrFun (fl1_off (by omega)) k)).trans (((congrFun (cpy_off (by omega)) k)).trans (if_pos ⟨rfl, Nat.zero_le _, by omega⟩)))))))
                      · omega
                      · omega
                  · have c159 : ¬ S.fl ≤ 0 := fun h => c159 ((nI_leI (a := S.fl) (b := 0) (by omega) (by omega)).mpr h)
                    refine rc_p (p_aload_n 1 (dk_at ktX1_begin_1 31 rfl) rfl rfl (b := 163) rfl) ?_
                    refine rc_p (p_iload_n 0 (dk_at ktX1_begin_1 32 rfl) rfl rfl (b := 164) rfl) ?_
                    refine rc_p (p_iinc (j := 0) (v := 2) (ls' := [(3, .int 2), (2, .ref (d + 5)), (0, .ref (d + 1)), (1, .ref (x + 2))]) (dk_at ktX1_begin_1 33 rfl) rfl (by decide) (by decide) rfl (b := 167) rfl) ?_
                    refine rc_p (p_iconst (v := 1) (dk_at ktX1_begin_1 34 rfl) (by decide) (b := 168) rfl) ?_
                    refine rc_p (p_aload_n 3 (dk_at ktX1_begin_1 35 rfl) rfl rfl (b := 169) rfl) ?_
                    refine r_geti fl_X1_69 rfl (hx.lt 2 (by decide)) hx.s2 (dk_at ktX1_begin_1 36 rfl) (v := (nI S.fl)) ((up2_n (by omega)).trans (((congrFun (fl1_off (by omega)) 6)).trans (((congrFun (cpy_off (by omega)) 6)).trans (((congrFun (fl1_off (by omega)) 6)).trans (((congrFun (cpy_off (by omega)) 6)).trans (((congrFun (fl1_off (by omega)) 6)).trans (((congrFun (fl1_off (by omega)) 6)).trans (((congrFun (fl1_off (by omega)) 6)).trans ((up2_n (by omega)).trans ((up2_n (by omega)).trans ((up2_n (by omega)).trans ((up2_n (by omega)).trans ((up2_n (by omega)).trans ((up2_n (by omega)).trans ((up2_n (by omega)).trans hS.2.1.2.2.1))))))))))))))) (b := 172) rfl ?_
                    refine r_iS (As := [.int 1, .int (nI S.fl)]) (rest := [.int 1, .ref (d + 5)]) (s_X2_wordOf 1 (nI S.fl)) cw_X1_63 qs_X2_wordOf (dk_at ktX1_begin_1 37 rfl) rfl rfl (Nat.le_of_ble_eq_true rfl) (by decide) (b := 175) rfl (fun v32 I29 J30 q31 => ?_)
                    obtain ⟨rfl, rfl, rfl⟩ := q31
                    refine r_iast (j := 1) (hd.lt 5 (by decide)) hd.s5 (dk_at ktX1_begin_1 38 rfl) rfl ⟨by decide, by decide⟩ (b := 176) rfl ?_
                    refine rc_p (p_aload_n 3 (dk_at ktX1_begin_1 39 rfl) rfl rfl (b := 177) rfl) ?_
                    refine r_geti fl_X1_72 rfl (hx.lt 2 (by decide)) hx.s2 (dk_at ktX1_begin_1 40 rfl) (v := S.gd) ((up2_n (by omega)).trans ((up2_n (by omega)).trans (((congrFun (fl1_off (by omega)) 7)).trans (((congrFun (cpy_off (by omega)) 7)).trans (((congrFun (fl1_off (by omega)) 7)).trans (((congrFun (cpy_off (by omega)) 7)).trans (((congrFun (fl1_off (by omega)) 7)).trans (((congrFun (fl1_off (by omega)) 7)).trans (((congrFun (fl1_off (by omega)) 7)).trans ((up2_n (by omega)).trans ((up2_n (by omega)).trans ((up2_n (by omega)).trans ((up2_n (by omega)).trans ((up2_n (by omega)).trans ((up2_n (by omega)).trans ((up2_n (by omega)).trans (hS.2.1.2.2.2.1))))))))))))))))) (b := 180) rfl ?_
                    refine rc_p (p_iconst (v := (-1)) (dk_at ktX1_begin_1 41 rfl) (by decide) (b := 181) rfl) ?_
                    refine r_icmp_eq (dk_at ktX1_begin_1 42 rfl) (b := 195) (by decide) (b2 := 184) rfl (fun c181 => ?_) (fun c181 => ?_)
                    · skip
                      refine r_vret (dk_at ktX1_begin_1 50 rfl) rfl ⟨rfl, ?_⟩
                      have c159 : 0 < S.fl := by omega
                      refine ⟨rfl, fun b hb => ((up2_off (by omega)).trans ((up2_off (by omega)).trans ((fl1_off (by omega)).trans ((cpy_off (by omega)).trans ((fl1_off (by omega)).trans ((cpy_off (by omega)).trans ((fl1_off (by omega)).trans ((fl1_off (by omega)).trans ((fl1_off (by omega)).trans ((up2_off (by omega)).trans ((up2_off (by omega)).trans ((up2_off (by omega)).trans ((up2_off (by omega)).trans ((up2_off (by omega)).trans ((up2_off (by omega)).trans ((up2_off (by omega)).trans rfl)))))))))))))))), ⟨fun o k a hl h1 h10 => ?_, by rw [eW, eP]; exact ((up2_n (by omega)).trans ((up2_n (by omega)).trans (((congrFun (fl1_off (by omega)) 4)).trans (((congrFun (cpy_off (by omega)) 4)).trans (((congrFun (fl1_off (by omega)) 4)).trans (((congrFun (cpy_off (by omega)) 4)).trans (((congrFun (fl1_off (by omega)) 4)).trans (((congrFun (fl1_off (by omega)) 4)).trans (((congrFun (fl1_off (by omega)) 4)).trans ((up2_n (by omega)).trans ((up2_n (by omega)).trans ((up2_n (by omega)).trans ((up2_n (by omega)).trans up2_s)))))))))))))⟩⟩
                      unfold Loc at hl
                      rcases hl with ⟨rfl, hl⟩ | ⟨rfl, hl⟩ | hl | hl | hl | hl | ⟨rfl, _⟩ | ⟨rfl, _⟩
                      · rcases hl with ⟨rfl, rfl⟩ | ⟨rfl, rfl⟩ | ⟨rfl, rfl⟩ | ⟨rfl, rfl⟩ | ⟨rfl, rfl⟩ | ⟨rfl, rfl⟩
                        · exact ((up2_n (by omega)).trans ((up2_n (by omega)).trans (((congrFun (fl1_off (by omega)) 2)).trans (((congrFun (cpy_off (by omega)) 2)).trans (((congrFun (fl1_off (by omega)) 2)).trans (((congrFun (cpy_off (by omega)) 2)).trans (((congrFun (fl1_off (by omega)) 2)).trans (((congrFun (fl1_off (by omega)) 2)).trans (((congrFun (fl1_off (by omega)) 2)).trans ((up2_n (by omega)).trans ((up2_n (by omega)).trans ((up2_n (by omega)).trans ((up2_n (by omega)).trans ((up2_n (by omega)).trans ((up2_n (by omega)).trans up2_s))))))))))))))).trans (e0.symm.trans (newS_lo (by decide)).symm)
                        · exact ((up2_n (by omega)).trans ((up2_n (by omega)).trans (((congrFun (fl1_off (by omega)) 3)).trans (((congrFun (cpy_off (by omega)) 3)).trans (((congrFun (fl1_off (by omega)) 3)).trans (((congrFun (cpy_off (by omega)) 3)).trans (((congrFun (fl1_off (by omega)) 3)).trans (((congrFun (fl1_off (by omega)) 3)).trans (((congrFun (fl1_off (by omega)) 3)).trans ((up2_n (by omega)).trans ((up2_n (by omega)).trans ((up2_n (by omega)).trans ((up2_n (by omega)).trans ((up2_n (by omega)).trans up2_s)))))))))))))).trans (e1.symm.trans (newS_lo (by decide)).symm)
                        · exact ((up2_n (by omega)).trans ((up2_n (by omega)).trans (((congrFun (fl1_off (by omega)) 5)).trans (((congrFun (cpy_off (by omega)) 5)).trans (((congrFun (fl1_off (by omega)) 5)).trans (((congrFun (cpy_off (by omega)) 5)).trans (((congrFun (fl1_off (by omega)) 5)).trans (((congrFun (fl1_off (by omega)) 5)).trans (((congrFun (fl1_off (by omega)) 5)).trans ((up2_n (by omega)).trans ((up2_n (by omega)).trans ((up2_n (by omega)).trans up2_s)))))))))))).trans (newS_lo (by decide)).symm
                        · exact ((up2_n (by omega)).trans ((up2_n (by omega)).trans (((congrFun (fl1_off (by omega)) 6)).trans (((congrFun (cpy_off (by omega)) 6)).trans (((congrFun (fl1_off (by omega)) 6)).trans (((congrFun (cpy_off (by omega)) 6)).trans (((congrFun (fl1_off (by omega)) 6)).trans (((congrFun (fl1_off (by omega)) 6)).trans (((congrFun (fl1_off (by omega)) 6)).trans ((up2_n (by omega)).trans ((up2_n (by omega)).trans up2_s))))))))))).trans (newS_lo (by decide)).symm
                        · exact ((up2_n (by omega)).trans ((up2_n (by omega)).trans (((congrFun (fl1_off (by omega)) 7)).trans (((congrFun (cpy_off (by omega)) 7)).trans (((congrFun (fl1_off (by omega)) 7)).trans (((congrFun (cpy_off (by omega)) 7)).trans (((congrFun (fl1_off (by omega)) 7)).trans (((congrFun (fl1_off (by omega)) 7)).trans (((congrFun (fl1_off (by omega)) 7)).trans ((up2_n (by omega)).trans up2_s)))))))))).trans ((newS_c (k := 6) hG (by decide) (by decide) (by decide)).trans (show row0 6 = -1 from rfl)).symm
                        · exact ((up2_n (by omega)).trans ((up2_n (by omega)).trans (((congrFun (fl1_off (by omega)) 8)).trans (((congrFun (cpy_off (by omega)) 8)).trans (((congrFun (fl1_off (by omega)) 8)).trans (((congrFun (cpy_off (by omega)) 8)).trans (((congrFun (fl1_off (by omega)) 8)).trans (((congrFun (fl1_off (by omega)) 8)).trans (((congrFun (fl1_off (by omega)) 8)).trans up2_s))))))))).trans ((newS_c (k := 9) hG (by decide) (by decide) (by decide)).trans (show row0 9 = 0 from rfl)).symm
                      · omega
                      · rcases (by omega : o = 3 ∨ o = 4) with rfl | rfl
                        · obtain rfl : a = 83 + k := by omega
                          exact ((up2_n (by omega)).trans ((up2_n (by omega)).trans (((congrFun (fl1_off (by omega)) k)).trans (((congrFun (cpy_off (by omega)) k)).trans (((congrFun (fl1_off (by omega)) k)).trans ((cpy_in (by omega)).trans (((congrFun (fl1_off (by omega)) k)).trans (((congrFun (fl1_off (by omega)) k)).trans (((congrFun (fl1_off (by omega)) k)).trans ((up2_n (by omega)).trans ((up2_n (by omega)).trans ((up2_n (by omega)).trans ((up2_n (by omega)).trans ((up2_n (by omega)).trans ((up2_n (by omega)).trans ((up2_n (by omega)).trans (hS.2.2 0 k (by decide) (by omega)))))))))))))))))).trans (newS_lo (by omega)).symm
                        · obtain rfl : a = 147 + k := by omega
                          exact ((up2_n (by omega)).trans ((up2_n (by omega)).trans (((congrFun (fl1_off (by omega)) k)).trans ((cpy_in (by omega)).trans (((congrFun (fl1_off (by omega)) k)).trans (((congrFun (cpy_off (by omega)) k)).trans (((congrFun (fl1_off (by omega)) k)).trans (((congrFun (fl1_off (by omega)) k)).trans (((congrFun (fl1_off (by omega)) k)).trans ((up2_n (by omega)).trans ((up2_n (by omega)).trans ((up2_n (by omega)).trans ((up2_n (by omega)).trans ((up2_n (by omega)).trans ((up2_n (by omega)).trans ((up2_n (by omega)).trans (hS.2.2 1 k (by decide) (by omega)))))))))))))))))).trans (newS_lo (by omega)).symm
                      · rcases (by omega : o = 5 ∨ o = 6) with rfl | rfl
                        · obtain rfl : a = 211 + k := by omega
                          by_cases k0 : k = 0
                          · subst k0; exact ((up2_n (by omega)).trans up2_s).trans ((show wordI 6 0 = 24582 by decide).trans (show newS S 211 = 24582 from if_pos rfl).symm)
                          · by_cases k1 : k = 1
                            · subst k1
                              unfold newS
                              rw [if_neg (by decide), if_pos (by decide), if_pos c159]
                              exact up2_s
                            · by_cases k2 : k = 2
                              · subst k2
                                unfold newS
                                rw [if_neg (by decide), if_neg (by decide), if_pos (by decide), if_neg (fun q => q.2 c181)]
                                exact (up2_k (by decide)).trans ((up2_k (by decide)).trans (((congrFun (fl1_off (by omega)) 2)).trans (((congrFun (cpy_off (by omega)) 2)).trans (((if_pos ⟨rfl, Nat.zero_le _, by omega⟩ : _ = (65535 : Int32)).trans (hG.2.1.2.2.2.2.1 213 (by decide) (by decide)).symm)))))
                              · rw [newS_j hG (by omega) (by omega)]
                                exact (up2_k k1).trans ((up2_k k0).trans (((congrFun (fl1_off (by omega)) k)).trans (((congrFun (cpy_off (by omega)) k)).trans ((if_pos ⟨rfl, Nat.zero_le _, by omega⟩)))))
                        · obtain rfl : a = 243 + k := by omega
                          rw [newS_j hG (by omega) (by omega)]
                          exact ((up2_n (by omega)).trans ((up2_n (by omega)).trans (if_pos ⟨rfl, Nat.zero_le _, by omega⟩)))
                      · rcases (by omega : o = 8 ∨ o = 9) with rfl | rfl
                        · rw [newS_0 hG (by omega) (by omega)]
                          exact ((up2_n (by omega)).trans ((up2_n (by omega)).trans (((congrFun (fl1_off (by omega)) k)).trans (((congrFun (cpy_off (by omega)) k)).trans (((congrFun (fl1_off (by omega)) k)).trans (((congrFun (cpy_off (by omega)) k)).trans (((congrFun (fl1_off (by omega)) k)).trans (((congrFun (fl1_off (by omega)) k)).trans (if_pos ⟨rfl, Nat.zero_le _, by omega⟩)))))))))
                        · rw [newS_0 hG (by omega) (by omega)]
                          exact ((up2_n (by omega)).trans ((up2_n (by omega)).trans (((congrFun (fl1_off (by omega)) k)).trans (((congrFun (cpy_off (by omega)) k)).trans (((congrFun (fl1_off (by omega)) k)).trans (((congrFun (cpy_off (by omega)) k)).trans (((congrFun (fl1_off (by omega)) k)).trans (if_pos ⟨rfl, Nat.zero_le _, by omega⟩))))))))
                      · obtain ⟨rfl, hk, rfl⟩ := hl
                        rw [newS_0 hG (by omega) (by omega)]
                        exact ((up2_n (by omega)).trans ((up2_n (by omega)).trans (((congrFun (fl1_off (by omega)) k)).trans (((congrFun (cpy_off (by omega)) k)).trans (((congrFun (fl1_off (by omega)) k)).trans (((congrFun (cpy_off (by omega)) k)).trans (if_pos ⟨rfl, Nat.zero_le _, by omega⟩)))))))
                      · omega
                      · omega
                    · skip
                      refine rc_p (p_aload_n 1 (dk_at ktX1_begin_1 43 rfl) rfl rfl (b := 185) rfl) ?_
                      refine rc_p (p_iload_n 0 (dk_at ktX1_begin_1 44 rfl) rfl rfl (b := 186) rfl) ?_
                      refine rc_p (p_iconst (v := 2) (dk_at ktX1_begin_1 45 rfl) (by decide) (b := 187) rfl) ?_
                      refine rc_p (p_aload_n 3 (dk_at ktX1_begin_1 46 rfl) rfl rfl (b := 188) rfl) ?_
                      refine r_geti fl_X1_72 rfl (hx.lt 2 (by decide)) hx.s2 (dk_at ktX1_begin_1 47 rfl) (v := S.gd) ((up2_n (by omega)).trans ((up2_n (by omega)).trans (((congrFun (fl1_off (by omega)) 7)).trans (((congrFun (cpy_off (by omega)) 7)).trans (((congrFun (fl1_off (by omega)) 7)).trans (((congrFun (cpy_off (by omega)) 7)).trans (((congrFun (fl1_off (by omega)) 7)).trans (((congrFun (fl1_off (by omega)) 7)).trans (((congrFun (fl1_off (by omega)) 7)).trans ((up2_n (by omega)).trans ((up2_n (by omega)).trans ((up2_n (by omega)).trans ((up2_n (by omega)).trans ((up2_n (by omega)).trans ((up2_n (by omega)).trans ((up2_n (by omega)).trans (hS.2.1.2.2.2.1))))))))))))))))) (b := 191) rfl ?_
                      refine r_iS (As := [.int 2, .int S.gd]) (rest := [.int 2, .ref (d + 5)]) (s_X2_wordOf 2 S.gd) cw_X1_63 qs_X2_wordOf (dk_at ktX1_begin_1 48 rfl) rfl rfl (Nat.le_of_ble_eq_true rfl) (by decide) (b := 194) rfl (fun v36 I33 J34 q35 => ?_)
                      obtain ⟨rfl, rfl, rfl⟩ := q35
                      refine r_iast (j := 2) (hd.lt 5 (by decide)) hd.s5 (dk_at ktX1_begin_1 49 rfl) rfl ⟨by decide, by decide⟩ (b := 195) rfl ?_
                      refine r_vret (dk_at ktX1_begin_1 50 rfl) rfl ⟨rfl, ?_⟩
                      have c159 : 0 < S.fl := by omega
                      refine ⟨rfl, fun b hb => ((up2_off (by omega)).trans ((up2_off (by omega)).trans ((up2_off (by omega)).trans ((fl1_off (by omega)).trans ((cpy_off (by omega)).trans ((fl1_off (by omega)).trans ((cpy_off (by omega)).trans ((fl1_off (by omega)).trans ((fl1_off (by omega)).trans ((fl1_off (by omega)).trans ((up2_off (by omega)).trans ((up2_off (by omega)).trans ((up2_off (by omega)).trans ((up2_off (by omega)).trans ((up2_off (by omega)).trans ((up2_off (by omega)).trans ((up2_off (by omega)).trans rfl))))))))))))))))), ⟨fun o k a hl h1 h10 => ?_, by rw [eW, eP]; exact ((up2_n (by omega)).trans ((up2_n (by omega)).trans ((up2_n (by omega)).trans (((congrFun (fl1_off (by omega)) 4)).trans (((congrFun (cpy_off (by omega)) 4)).trans (((congrFun (fl1_off (by omega)) 4)).trans (((congrFun (cpy_off (by omega)) 4)).trans (((congrFun (fl1_off (by omega)) 4)).trans (((congrFun (fl1_off (by omega)) 4)).trans (((congrFun (fl1_off (by omega)) 4)).trans ((up2_n (by omega)).trans ((up2_n (by omega)).trans ((up2_n (by omega)).trans ((up2_n (by omega)).trans up2_s))))))))))))))⟩⟩
                      unfold Loc at hl
                      rcases hl with ⟨rfl, hl⟩ | ⟨rfl, hl⟩ | hl | hl | hl | hl | ⟨rfl, _⟩ | ⟨rfl, _⟩
                      · rcases hl with ⟨rfl, rfl⟩ | ⟨rfl, rfl⟩ | ⟨rfl, rfl⟩ | ⟨rfl, rfl⟩ | ⟨rfl, rfl⟩ | ⟨rfl, rfl⟩
                        · exact ((up2_n (by omega)).trans ((up2_n (by omega)).trans ((up2_n (by omega)).trans (((congrFun (fl1_off (by omega)) 2)).trans (((congrFun (cpy_off (by omega)) 2)).trans (((congrFun (fl1_off (by omega)) 2)).trans (((congrFun (cpy_off (by omega)) 2)).trans (((congrFun (fl1_off (by omega)) 2)).trans (((congrFun (fl1_off (by omega)) 2)).trans (((congrFun (fl1_off (by omega)) 2)).trans ((up2_n (by omega)).trans ((up2_n (by omega)).trans ((up2_n (by omega)).trans ((up2_n (by omega)).trans ((up2_n (by omega)).trans ((up2_n (by omega)).trans up2_s)))))))))))))))).trans (e0.symm.trans (newS_lo (by decide)).symm)
                        · exact ((up2_n (by omega)).trans ((up2_n (by omega)).trans ((up2_n (by omega)).trans (((congrFun (fl1_off (by omega)) 3)).trans (((congrFun (cpy_off (by omega)) 3)).trans (((congrFun (fl1_off (by omega)) 3)).trans (((congrFun (cpy_off (by omega)) 3)).trans (((congrFun (fl1_off (by omega)) 3)).trans (((congrFun (fl1_off (by omega)) 3)).trans (((congrFun (fl1_off (by omega)) 3)).trans ((up2_n (by omega)).trans ((up2_n (by omega)).trans ((up2_n (by omega)).trans ((up2_n (by omega)).trans ((up2_n (by omega)).trans up2_s))))))))))))))).trans (e1.symm.trans (newS_lo (by decide)).symm)
                        · exact ((up2_n (by omega)).trans ((up2_n (by omega)).trans ((up2_n (by omega)).trans (((congrFun (fl1_off (by omega)) 5)).trans (((congrFun (cpy_off (by omega)) 5)).trans (((congrFun (fl1_off (by omega)) 5)).trans (((congrFun (cpy_off (by omega)) 5)).trans (((congrFun (fl1_off (by omega)) 5)).trans (((congrFun (fl1_off (by omega)) 5)).trans (((congrFun (fl1_off (by omega)) 5)).trans ((up2_n (by omega)).trans ((up2_n (by omega)).trans ((up2_n (by omega)).trans up2_s))))))))))))).trans (newS_lo (by decide)).symm
                        · exact ((up2_n (by omega)).trans ((up2_n (by omega)).trans ((up2_n (by omega)).trans (((congrFun (fl1_off (by omega)) 6)).trans (((congrFun (cpy_off (by omega)) 6)).trans (((congrFun (fl1_off (by omega)) 6)).trans (((congrFun (cpy_off (by omega)) 6)).trans (((congrFun (fl1_off (by omega)) 6)).trans (((congrFun (fl1_off (by omega)) 6)).trans (((congrFun (fl1_off (by omega)) 6)).trans ((up2_n (by omega)).trans ((up2_n (by omega)).trans up2_s)))))))))))).trans (newS_lo (by decide)).symm
                        · exact ((up2_n (by omega)).trans ((up2_n (by omega)).trans ((up2_n (by omega)).trans (((congrFun (fl1_off (by omega)) 7)).trans (((congrFun (cpy_off (by omega)) 7)).trans (((congrFun (fl1_off (by omega)) 7)).trans (((congrFun (cpy_off (by omega)) 7)).trans (((congrFun (fl1_off (by omega)) 7)).trans (((congrFun (fl1_off (by omega)) 7)).trans (((congrFun (fl1_off (by omega)) 7)).trans ((up2_n (by omega)).trans up2_s))))))))))).trans ((newS_c (k := 6) hG (by decide) (by decide) (by decide)).trans (show row0 6 = -1 from rfl)).symm
                        · exact ((up2_n (by omega)).trans ((up2_n (by omega)).trans ((up2_n (by omega)).trans (((congrFun (fl1_off (by omega)) 8)).trans (((congrFun (cpy_off (by omega)) 8)).trans (((congrFun (fl1_off (by omega)) 8)).trans (((congrFun (cpy_off (by omega)) 8)).trans (((congrFun (fl1_off (by omega)) 8)).trans (((congrFun (fl1_off (by omega)) 8)).trans (((congrFun (fl1_off (by omega)) 8)).trans up2_s)))))))))).trans ((newS_c (k := 9) hG (by decide) (by decide) (by decide)).trans (show row0 9 = 0 from rfl)).symm
                      · omega
                      · rcases (by omega : o = 3 ∨ o = 4) with rfl | rfl
                        · obtain rfl : a = 83 + k := by omega
                          exact ((up2_n (by omega)).trans ((up2_n (by omega)).trans ((up2_n (by omega)).trans (((congrFun (fl1_off (by omega)) k)).trans (((congrFun (cpy_off (by omega)) k)).trans (((congrFun (fl1_off (by omega)) k)).trans ((cpy_in (by omega)).trans (((congrFun (fl1_off (by omega)) k)).trans (((congrFun (fl1_off (by omega)) k)).trans (((congrFun (fl1_off (by omega)) k)).trans ((up2_n (by omega)).trans ((up2_n (by omega)).trans ((up2_n (by omega)).trans ((up2_n (by omega)).trans ((up2_n (by omega)).trans ((up2_n (by omega)).trans ((up2_n (by omega)).trans (hS.2.2 0 k (by decide) (by omega))))))))))))))))))).trans (newS_lo (by omega)).symm
                        · obtain rfl : a = 147 + k := by omega
                          exact ((up2_n (by omega)).trans ((up2_n (by omega)).trans ((up2_n (by omega)).trans (((congrFun (fl1_off (by omega)) k)).trans ((cpy_in (by omega)).trans (((congrFun (fl1_off (by omega)) k)).trans (((congrFun (cpy_off (by omega)) k)).trans (((congrFun (fl1_off (by omega)) k)).trans (((congrFun (fl1_off (by omega)) k)).trans (((congrFun (fl1_off (by omega)) k)).trans ((up2_n (by omega)).trans ((up2_n (by omega)).trans ((up2_n (by omega)).trans ((up2_n (by omega)).trans ((up2_n (by omega)).trans ((up2_n (by omega)).trans ((up2_n (by omega)).trans (hS.2.2 1 k (by decide) (by omega))))))))))))))))))).trans (newS_lo (by omega)).symm
                      · rcases (by omega : o = 5 ∨ o = 6) with rfl | rfl
                        · obtain rfl : a = 211 + k := by omega
                          by_cases k0 : k = 0
                          · subst k0; exact ((up2_n (by omega)).trans ((up2_n (by omega)).trans up2_s)).trans ((show wordI 6 0 = 24582 by decide).trans (show newS S 211 = 24582 from if_pos rfl).symm)
                          · by_cases k1 : k = 1
                            · subst k1
                              unfold newS
                              rw [if_neg (by decide), if_pos (by decide), if_pos c159]
                              exact ((up2_n (by omega)).trans up2_s)
                            · by_cases k2 : k = 2
                              · subst k2
                                unfold newS
                                rw [if_neg (by decide), if_neg (by decide), if_pos (by decide), if_pos ⟨c159, c181⟩]
                                exact up2_s
                              · rw [newS_j hG (by omega) (by omega)]
                                exact (up2_k k2).trans ((up2_k k1).trans ((up2_k k0).trans (((congrFun (fl1_off (by omega)) k)).trans (((congrFun (cpy_off (by omega)) k)).trans ((if_pos ⟨rfl, Nat.zero_le _, by omega⟩))))))
                        · obtain rfl : a = 243 + k := by omega
                          rw [newS_j hG (by omega) (by omega)]
                          exact ((up2_n (by omega)).trans ((up2_n (by omega)).trans ((up2_n (by omega)).trans (if_pos ⟨rfl, Nat.zero_le _, by omega⟩))))
                      · rcases (by omega : o = 8 ∨ o = 9) with rfl | rfl
                        · rw [newS_0 hG (by omega) (by omega)]
                          exact ((up2_n (by omega)).trans ((up2_n (by omega)).trans ((up2_n (by omega)).trans (((congrFun (fl1_off (by omega)) k)).trans (((congrFun (cpy_off (by omega)) k)).trans (((congrFun (fl1_off (by omega)) k)).trans (((congrFun (cpy_off (by omega)) k)).trans (((congrFun (fl1_off (by omega)) k)).trans (((congrFun (fl1_off (by omega)) k)).trans (if_pos ⟨rfl, Nat.zero_le _, by omega⟩))))))))))
                        · rw [newS_0 hG (by omega) (by omega)]
                          exact ((up2_n (by omega)).trans ((up2_n (by omega)).trans ((up2_n (by omega)).trans (((congrFun (fl1_off (by omega)) k)).trans (((congrFun (cpy_off (by omega)) k)).trans (((congrFun (fl1_off (by omega)) k)).trans (((congrFun (cpy_off (by omega)) k)).trans (((congrFun (fl1_off (by omega)) k)).trans (if_pos ⟨rfl, Nat.zero_le _, by omega⟩)))))))))
                      · obtain ⟨rfl, hk, rfl⟩ := hl
                        rw [newS_0 hG (by omega) (by omega)]
                        exact ((up2_n (by omega)).trans ((up2_n (by omega)).trans ((up2_n (by omega)).trans (((congrFun (fl1_off (by omega)) k)).trans (((congrFun (cpy_off (by omega)) k)).trans (((congrFun (fl1_off (by omega)) k)).trans (((congrFun (cpy_off (by omega)) k)).trans (if_pos ⟨rfl, Nat.zero_le _, by omega⟩))))))))
                      · omega
                      · omega
                · first | exact absurd c93_2 (by decide) | exact absurd (by decide) c93_2
          · first | exact absurd c70_3 (by decide) | exact absurd (by decide) c70_3
set_option maxRecDepth 4000 in
set_option maxHeartbeats 4000000 in
theorem s_X3_clear {n : Nat} {sh : mS} {G : mG} {I : mI} {J : mJ} {d : Nat} (hd : DevG n sh G d)  : Sp yX3_clear cX3_clear 1 none 2 96 0 0 [.ref (d + 11)] n sh G I J (Qv (fun I_ J_ => J = J_ ∧ FD d [11, 15] I I_ ∧ I_ (d + 11) 4 = 0 ∧ ∀ k, k < 8 → I_ (d + 15) k = 0)) nX := by
  refine Sp.of (by decide) (ls := [(0, .ref (d + 11))]) (fun _ => rfl) (fun _ => Nat.le_of_ble_eq_true rfl) ?_
  refine rc_p (p_aload_n 0 (dk_at ktX3_clear_0 0 rfl) rfl rfl (b := 1) rfl) ?_
  refine rc_p (p_iconst (v := 0) (dk_at ktX3_clear_0 1 rfl) (by decide) (b := 2) rfl) ?_
  refine r_puti fl_X3_24 fw_X3_4 rfl (hd.lt 11 (by decide)) hd.s11 rfl rfl (dk_at ktX3_clear_0 2 rfl) (b := 5) rfl ?_
  refine rc_p (p_aload_n 0 (dk_at ktX3_clear_0 3 rfl) rfl rfl (b := 6) rfl) ?_
  refine r_geta fl_X3_21 rfl (hd.lt 11 (by decide)) hd.s11 (dk_at ktX3_clear_0 4 rfl) hd.g11_3 (b := 9) rfl ?_
  refine rc_p (p_iconst (v := 0) (dk_at ktX3_clear_0 5 rfl) (by decide) (b := 10) rfl) ?_
  refine r_vS (As := [.ref (d + 15), .int 0]) (rest := []) (s_J7_fill_53178 (ar := (d + 15)) (len := 8) ⟨(hd.lt 15 (by decide)), hd.s15⟩ (by decide) 0) cw_X3_28 qs_J7_fill_53178 (dk_at ktX3_clear_0 6 rfl) rfl rfl (Nat.le_of_ble_eq_true rfl) (by decide) (b := 13) rfl (fun I1 J2 q3 => ?_)
  obtain ⟨rfl, rfl⟩ := q3
  refine r_vret (dk_at ktX3_clear_0 7 rfl) rfl ⟨rfl, ?_⟩
  refine ⟨rfl, fun b hb => ?_, (((congrFun (fl1_off (by omega)) 4)).trans up2_s), fun k hk => (if_pos ⟨rfl, Nat.zero_le _, by omega⟩)⟩
  have h1 := hb 11 (by simp)
  have h2 := hb 15 (by simp)
  exact (fl1_off (by omega)).trans (up2_off (by omega))
set_option maxRecDepth 4000 in
set_option maxHeartbeats 4000000 in
theorem s_X0_switchOffR {n : Nat} {sh : mS} {G : mG} {I : mI} {J : mJ} {d : Nat} (hd : DevG n sh G d)  : Sp yX0_switchOff cX0_switchOff 1 none 1 48 0 0 [.ref d] n sh G I J (Qv (fun I_ J_ => J = J_ ∧ up2 (up2 I d 7 0) d 8 (-1) = I_)) nX := by
  refine Sp.of (by decide) (ls := [(0, .ref d)]) (fun _ => rfl) (fun _ => Nat.le_of_ble_eq_true rfl) ?_
  refine rc_p (p_aload_n 0 (dk_at ktX0_switchOff_0 0 rfl) rfl rfl (b := 1) rfl) ?_
  refine rc_p (p_iconst (v := 0) (dk_at ktX0_switchOff_0 1 rfl) (by decide) (b := 2) rfl) ?_
  refine r_puti fl_X0_74 fw_X0_7 rfl hd.l0 hd.s0 rfl rfl (dk_at ktX0_switchOff_0 2 rfl) (b := 5) rfl ?_
  refine rc_p (p_aload_n 0 (dk_at ktX0_switchOff_0 3 rfl) rfl rfl (b := 6) rfl) ?_
  refine rc_p (p_iconst (v := (-1)) (dk_at ktX0_switchOff_0 4 rfl) (by decide) (b := 7) rfl) ?_
  refine r_puti fl_X0_77 fw_X0_8 rfl hd.l0 hd.s0 rfl rfl (dk_at ktX0_switchOff_0 5 rfl) (b := 10) rfl ?_
  refine r_vret (dk_at ktX0_switchOff_0 6 rfl) rfl ⟨rfl, ?_⟩
  exact ⟨rfl, rfl⟩
set_option maxRecDepth 4000 in
set_option maxHeartbeats 4000000 in
theorem s_X0_begin {n : Nat} {sh : mS} {G : mG} {I : mI} {J : mJ} {d x : Nat} {S : PSt} (hd : DevG n sh G d) (hx : TxtG n sh G x) (hxd : x + 6 ≤ d) (hS : RC x I S) (hG : GS S)  : Sp yX0_begin cX0_begin 2 none 3 144 0 0 [.ref d, .ref (x + 2)] n sh G I J (Qv (fun I_ J_ => J = J_ ∧ RelD d I_ (newS S) 0 0 ∧ ∀ b, b < d ∨ d + 19 ≤ b → I_ b = I b)) nX := by
  refine Sp.of (by decide) (ls := [(0, .ref d), (1, .ref (x + 2))]) (fun _ => rfl) (fun _ => Nat.le_of_ble_eq_true rfl) ?_
  have hfl := hG.2.2.1
  obtain ⟨W, P, e0, w1, w2, e1, p1, p2, eW, eP⟩ := newS_WP hG
  refine rc_p (p_aload_n 0 (dk_at ktX0_begin_0 0 rfl) rfl rfl (b := 1) rfl) ?_
  refine r_geta fl_X0_12 rfl hd.l0 hd.s0 (dk_at ktX0_begin_0 1 rfl) hd.g0_0 (b := 4) rfl ?_
  refine rc_p (p_aload_n 1 (dk_at ktX0_begin_0 2 rfl) rfl rfl (b := 5) rfl) ?_
  refine r_vV (As' := [.ref (x + 2)]) (rest := []) (s_X1_begin hd hx hxd hS hG) cw_X0_39 qi_X1_begin qv_X1_begin rfl (hd.lt 1 (by decide)) hd.s1 (dk_at ktX0_begin_0 3 rfl) rfl rfl (Nat.le_of_ble_eq_true rfl) (by decide) (b := 8) rfl (fun I1 J2 q3 => ?_)
  obtain ⟨rfl, hF5, hh6⟩ := q3
  refine rc_p (p_aload_n 0 (dk_at ktX0_begin_0 4 rfl) rfl rfl (b := 9) rfl) ?_
  refine r_geta fl_X0_21 rfl hd.l0 hd.s0 (dk_at ktX0_begin_0 5 rfl) hd.g0_1 (b := 12) rfl ?_
  refine r_vV (As' := []) (rest := []) (s_X3_clear hd) cw_X0_43 qi_X3_clear qv_X3_clear rfl (hd.lt 11 (by decide)) hd.s11 (dk_at ktX0_begin_0 6 rfl) rfl rfl (Nat.le_of_ble_eq_true rfl) (by decide) (b := 15) rfl (fun I7 J8 q9 => ?_)
  obtain ⟨rfl, hF11, hh12, hh13⟩ := q9
  refine rc_p (p_aload_n 0 (dk_at ktX0_begin_0 7 rfl) rfl rfl (b := 16) rfl) ?_
  refine rc_p (p_iconst (v := 0) (dk_at ktX0_begin_0 8 rfl) (by decide) (b := 17) rfl) ?_
  refine r_puti fl_X0_46 fw_X0_5 rfl hd.l0 hd.s0 rfl rfl (dk_at ktX0_begin_0 9 rfl) (b := 20) rfl ?_
  refine rc_p (p_aload_n 0 (dk_at ktX0_begin_0 10 rfl) rfl rfl (b := 21) rfl) ?_
  refine rc_p (p_aload_n 1 (dk_at ktX0_begin_0 11 rfl) rfl rfl (b := 22) rfl) ?_
  refine r_geti fl_X0_50 rfl (hx.lt 2 (by decide)) hx.s2 (dk_at ktX0_begin_0 12 rfl) (v := (S.row 3)) ((up2_n (by omega)).trans (((congrFun (hF11 _ (by simp; omega)) 4)).trans (((congrFun (hF5 _ (by omega)) 4)).trans (hS.2.1.1)))) (b := 25) rfl ?_
  refine r_puti fl_X0_55 fw_X0_6 rfl hd.l0 hd.s0 rfl rfl (dk_at ktX0_begin_0 13 rfl) (b := 28) rfl ?_
  refine rc_p (p_aload_n 0 (dk_at ktX0_begin_0 14 rfl) rfl rfl (b := 29) rfl) ?_
  refine r_vV (As' := []) (rest := []) (s_X0_switchOffR hd) cw_X0_58 qi_X0_switchOff qv_X0_switchOff rfl hd.l0 hd.s0 (dk_at ktX0_begin_0 15 rfl) rfl rfl (Nat.le_of_ble_eq_true rfl) (by decide) (b := 32) rfl (fun I14 J15 q16 => ?_)
  obtain ⟨rfl, rfl⟩ := q16
  refine r_vret (dk_at ktX0_begin_0 16 rfl) rfl ⟨rfl, ?_⟩
  have e1 : ∀ o, 1 ≤ o → o ≤ 10 → (up2 (up2 (up2 (up2 I7 d 5 0) d 6 (S.row 3)) d 7 0) d 8 (-1)) (d + o) = I1 (d + o) := fun o h1 h2 => ((up2_off (by omega)).trans ((up2_off (by omega)).trans ((up2_off (by omega)).trans ((up2_off (by omega)).trans ((hF11 _ (by simp; omega)).trans rfl)))))
  refine ⟨rfl, RelD.new hG ⟨fun o k a hl h1 h2 => (congrFun (e1 o h1 h2) k).trans (hh6.1 o k a hl h1 h2), (congrFun (e1 1 (by decide) (by decide)) 4).trans hh6.2⟩ ((up2_n (by omega)).trans ((up2_n (by omega)).trans ((up2_n (by omega)).trans up2_s))) ((up2_n (by omega)).trans ((up2_n (by omega)).trans up2_s)) ((up2_n (by omega)).trans up2_s) up2_s ((up2_n (by omega)).trans ((up2_n (by omega)).trans ((up2_n (by omega)).trans ((up2_n (by omega)).trans hh12)))) (fun k hk => ((up2_n (by omega)).trans ((up2_n (by omega)).trans ((up2_n (by omega)).trans ((up2_n (by omega)).trans (hh13 k (by omega))))))), fun b hb => ((up2_off (by omega)).trans ((up2_off (by omega)).trans ((up2_off (by omega)).trans ((up2_off (by omega)).trans ((hF11 b (by simp; omega)).trans ((hF5 b (by omega)).trans rfl))))))⟩

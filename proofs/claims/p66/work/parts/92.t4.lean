/-! eight bytes to a text, on both sides -/
set_option maxRecDepth 4000 in
set_option maxHeartbeats 4000000 in
theorem s_X5_add {n : Nat} {sh : mS} {G : mG} {I : mI} {J : mJ} {b : Nat} {T : tT} {nn : Nat} (hb : TxtG n sh G b) (hT : TC b I T nn) (x : Int64)  : Sp yX5_add cX5_add 5 (some FieldType.int) 1 48 0 0 [.ref b, .long x] n sh G I J (Qi (fun r_ I_ J_ => apA nn x = r_ ∧ J = J_ ∧ FF b [1] [2] I I_ ∧ TC b I_ (apT8 T nn x) (apN8 nn x))) nX := by
  refine Sp.of (by decide) (ls := [(0, .ref b), (1, .long x)]) (fun _ => rfl) (fun _ => Nat.le_of_ble_eq_true rfl) ?_
  have hn := hT.1.1
  have cut57 : ∀ (t j : Nat) (Iz : mI), 9 - j ≤ t → j ≤ 8 → nn + apC x 8 ≤ 900 → FF b [1] [2] I Iz → TC b Iz (apT T nn x j) (nn + apC x j) → Rc RX5 cX5_add 5 (some FieldType.int) 1 48 0 0 n sh G (Qi (fun r_ I_ J_ => apA nn x = r_ ∧ J = J_ ∧ FF b [1] [2] I I_ ∧ TC b I_ (apT8 T nn x) (apN8 nn x))) nX 0 0 57 [(4, .int (kq j)), (0, .ref b), (1, .long x)] [] Iz J := by
    intro t
    induction t
    · intro j Iz h; omega
    rename_i t ih
    intro j Iz ht h8 h900 hFz hTz
    have hc8 := apC_mono (x := x) (8 - j) j
    rw [show j + (8 - j) = 8 by omega] at hc8
    refine rc_p (p_iload 0 (dk_at ktX5_add_0 32 rfl) rfl (b := 59) rfl) ?_
    refine r_if_lt (dk_at ktX5_add_0 33 rfl) (b := 116) (by decide) (b2 := 62) rfl (fun c59 => ?_) (fun c59 => ?_)
    · skip
      have hj8 : j = 8 := (kq_l (by omega)).mp c59
      have e8 : apC x j = apC x 8 := by rw [hj8]
      refine rc_p (p_aload_n 1 (dk_at ktX5_add_1 4 rfl) rfl rfl (b := 117) rfl) ?_
      refine r_geti fl_X5_24 rfl hb.l0 hb.s0 (dk_at ktX5_add_1 5 rfl) (v := (nI (nn + apC x j))) hTz.2.1 (b := 120) rfl ?_
      refine r_iret (dk_at ktX5_add_1 6 rfl) rfl rfl ⟨_, rfl, ?_⟩
      have ho : ¬ 900 < nn + apC x 8 := by omega
      refine ⟨(if_neg ho).trans (congrArg nI (by rw [e8])), rfl, hFz, ?_⟩
      rw [hj8] at hTz
      rw [show apT8 T nn x = apT T nn x 8 from if_neg ho, show apN8 nn x = nn + apC x 8 from if_neg ho]
      exact hTz
    · skip
      have hj9 : ¬ j = 8 := fun g => c59 ((kq_l (by omega)).mpr g)
      have hj : j < 8 := by omega
      have hqb := qb_lt (x := x) (j := j)
      refine rc_p (p_lload_n 2 (dk_at ktX5_add_0 34 rfl) rfl rfl (b := 63) rfl) ?_
      refine rc_p (p_iload 0 (dk_at ktX5_add_0 35 rfl) rfl (b := 65) rfl) ?_
      refine rc_p (p_lushr (v := (kz x j)) (dk_at ktX5_add_0 36 rfl) rfl (b := 66) rfl) ?_
      refine rc_p (p_ldc2 (v := 255) ql_TwinBoot_Text_22 (dk_at ktX5_add_0 37 rfl) (b := 69) rfl) ?_
      refine rc_p (p_land (v := (Int32.toInt64 (nI (qb x j)))) (dk_at ktX5_add_0 38 rfl) (kz_and hj) (b := 70) rfl) ?_
      refine rc_p (p_lconst (v := 0) (dk_at ktX5_add_0 39 rfl) (by decide) (b := 71) rfl) ?_
      refine rc_p (p_lcmp (dk_at ktX5_add_0 40 rfl) (b := 72) rfl) ?_
      refine r_if_eq (dk_at ktX5_add_0 41 rfl) (b := 110) (by decide) (b2 := 75) rfl (fun c72 => ?_) (fun c72 => ?_)
      · have c72 := (lg_cmp_eq _ _).mp c72
        have hz : qb x j = 0 := (qb_z qb_lt).mp c72
        refine rc_p (p_iinc (j := 0) (v := (kq (j + 1))) (ls' := [(4, .int (kq (j + 1))), (0, .ref b), (1, .long x)]) (dk_at ktX5_add_1 2 rfl) rfl (kq_s hj) (by decide) rfl (b := 113) rfl) ?_
        refine rc_p (p_goto (b := 57) (dk_at ktX5_add_1 3 rfl) (by decide)) ?_
        have h1 := apC_y hz
        exact ih (j + 1) Iz (by omega) (by omega) (by omega) hFz (by rw [h1, apT_y hz]; exact hTz)
      · have c72 := fun h => c72 ((lg_cmp_eq _ _).mpr h)
        have hz : ¬ qb x j = 0 := fun g => c72 ((qb_z qb_lt).mpr g)
        have h1 := apC_n hz
        have hmo := apC_mono (x := x) (8 - (j + 1)) (j + 1)
        rw [show j + 1 + (8 - (j + 1)) = 8 by omega, h1] at hmo
        refine rc_p (p_aload_n 1 (dk_at ktX5_add_0 42 rfl) rfl rfl (b := 76) rfl) ?_
        refine r_geti fl_X5_24 rfl hb.l0 hb.s0 (dk_at ktX5_add_0 43 rfl) (v := (nI (nn + apC x j))) hTz.2.1 (b := 79) rfl ?_
        refine rc_p (p_sipush (v := 900) (dk_at ktX5_add_0 44 rfl) (by decide) (b := 82) rfl) ?_
        refine r_icmp_ge (dk_at ktX5_add_0 45 rfl) (b := 110) (by decide) (b2 := 85) rfl (fun c82 => ?_) (fun c82 => ?_)
        · have c82 : 900 ≤ (nn + apC x j) := (nI_leI (a := 900) (b := nn + apC x j) (by omega) (by omega)).mp c82
          omega
        · have c82 : ¬ 900 ≤ (nn + apC x j) := fun h => c82 ((nI_leI (a := 900) (b := nn + apC x j) (by omega) (by omega)).mpr h)
          refine rc_p (p_aload_n 1 (dk_at ktX5_add_0 46 rfl) rfl rfl (b := 86) rfl) ?_
          refine r_geta fl_X5_11 rfl hb.l0 hb.s0 (dk_at ktX5_add_0 47 rfl) hb.g0_0 (b := 89) rfl ?_
          refine rc_p (p_aload_n 1 (dk_at ktX5_add_0 48 rfl) rfl rfl (b := 90) rfl) ?_
          refine r_geti fl_X5_24 rfl hb.l0 hb.s0 (dk_at ktX5_add_0 49 rfl) (v := (nI (nn + apC x j))) hTz.2.1 (b := 93) rfl ?_
          refine rc_p (p_lload_n 2 (dk_at ktX5_add_0 50 rfl) rfl rfl (b := 94) rfl) ?_
          refine rc_p (p_iload 0 (dk_at ktX5_add_0 51 rfl) rfl (b := 96) rfl) ?_
          refine rc_p (p_lushr (v := (kz x j)) (dk_at ktX5_add_0 52 rfl) rfl (b := 97) rfl) ?_
          refine rc_p (p_l2i (v := (Int64.toInt32 (kz x j))) (dk_at ktX5_add_0 53 rfl) rfl (b := 98) rfl) ?_
          refine rc_p (p_i2b (v := (sg (qb x j))) (dk_at ktX5_add_0 54 rfl) (kz_b hj) (b := 99) rfl) ?_
          refine r_bast (j := nn + apC x j) (hb.lt 1 (by decide)) hb.s1 (dk_at ktX5_add_0 55 rfl) rfl ⟨by omega, by decide⟩ (b := 100) rfl ?_
          refine rc_p (p_aload_n 1 (dk_at ktX5_add_0 56 rfl) rfl rfl (b := 101) rfl) ?_
          refine rc_p (p_dup (dk_at ktX5_add_0 57 rfl) rfl (b := 102) rfl) ?_
          refine r_geti fl_X5_24 rfl hb.l0 hb.s0 (dk_at ktX5_add_0 58 rfl) (v := (nI (nn + apC x j))) ((up2_n (by omega)).trans hTz.2.1) (b := 105) rfl ?_
          refine rc_p (p_iconst (v := 1) (dk_at ktX5_add_0 59 rfl) (by decide) (b := 106) rfl) ?_
          refine rc_p (p_iadd (v := (nI (nn + apC x j + 1))) (dk_at ktX5_add_1 0 rfl) (nI_add (nn + apC x j) 1) (b := 107) rfl) ?_
          refine r_puti fl_X5_24 fw_X5_2 rfl hb.l0 hb.s0 rfl rfl (dk_at ktX5_add_1 1 rfl) (b := 110) rfl ?_
          refine rc_p (p_iinc (j := 0) (v := (kq (j + 1))) (ls' := [(4, .int (kq (j + 1))), (0, .ref b), (1, .long x)]) (dk_at ktX5_add_1 2 rfl) rfl (kq_s hj) (by decide) rfl (b := 113) rfl) ?_
          refine rc_p (p_goto (b := 57) (dk_at ktX5_add_1 3 rfl) (by decide)) ?_
          exact ih (j + 1) (up2 (up2 Iz (b + 1) (nn + apC x j) (vp_nar .byte (sg (qb x j)))) b 2 (nI (nn + apC x j + 1))) (by omega) (by omega) (by omega) ((hFz.ua (o := 1) (by simp) (by decide)).uf (by simp)) (by rw [h1, apT_n hz, show vp_nar .byte (sg (qb x j)) = sg (qb x j) from sg_nar qb_lt]; exact hTz.ap (by omega) hz qb_lt)
  have cut6 : ∀ (t j : Nat), 9 - j ≤ t → j ≤ 8 → Rc RX5 cX5_add 5 (some FieldType.int) 1 48 0 0 n sh G (Qi (fun r_ I_ J_ => apA nn x = r_ ∧ J = J_ ∧ FF b [1] [2] I I_ ∧ TC b I_ (apT8 T nn x) (apN8 nn x))) nX 0 0 6 [(3, .int (nI (apC x j))), (4, .int (kq j)), (0, .ref b), (1, .long x)] [] I J := by
    intro t
    induction t
    · intro j h; omega
    rename_i t ih
    intro j ht h8
    have hcj := apC_j (x := x) j
    refine rc_p (p_iload 1 (dk_at ktX5_add_0 4 rfl) rfl (b := 8) rfl) ?_
    refine r_if_lt (dk_at ktX5_add_0 5 rfl) (b := 38) (by decide) (b2 := 11) rfl (fun c8 => ?_) (fun c8 => ?_)
    · skip
      have hj8 : j = 8 := (kq_l (by omega)).mp c8
      have e8 : apC x j = apC x 8 := by rw [hj8]
      refine rc_p (p_aload_n 2 (dk_at ktX5_add_0 22 rfl) rfl rfl (b := 39) rfl) ?_
      refine r_geti fl_X5_24 rfl hb.l0 hb.s0 (dk_at ktX5_add_0 23 rfl) (v := (nI nn)) hT.2.1 (b := 42) rfl ?_
      refine rc_p (p_iload_n 0 (dk_at ktX5_add_0 24 rfl) rfl rfl (b := 43) rfl) ?_
      refine rc_p (p_iadd (v := (nI (nn + (apC x j)))) (dk_at ktX5_add_0 25 rfl) (nI_add nn (apC x j)) (b := 44) rfl) ?_
      refine rc_p (p_sipush (v := 900) (dk_at ktX5_add_0 26 rfl) (by decide) (b := 47) rfl) ?_
      refine r_icmp_le (dk_at ktX5_add_0 27 rfl) (b := 53) (by decide) (b2 := 50) rfl (fun c47 => ?_) (fun c47 => ?_)
      · have c47 : (nn + (apC x j)) ≤ 900 := (nI_leI (a := nn + (apC x j)) (b := 900) (by omega) (by omega)).mp c47
        refine rc_p (p_bipush (v := 56) (dk_at ktX5_add_0 30 rfl) (by decide) (b := 55) rfl) ?_
        refine r_val (y := (kq 0)) (show (56 : Int32) = kq 0 by decide) ?_
        refine rc_p (p_istore (ls' := [(4, .int (kq 0)), (3, .int (nI (apC x j))), (0, .ref b), (1, .long x)]) (dk_at ktX5_add_0 31 rfl) (by decide) rfl (b := 57) rfl) ?_
        refine rc_sub [0, 2, 3] (ls' := [(4, .int (kq 0)), (0, .ref b), (1, .long x)]) rfl ?_
        exact cut57 9 0 I (by omega) (by omega) (by omega) FF.rf hT
      · have c47 : ¬ (nn + (apC x j)) ≤ 900 := fun h => c47 ((nI_leI (a := nn + (apC x j)) (b := 900) (by omega) (by omega)).mpr h)
        refine rc_p (p_bipush (v := (-2)) (dk_at ktX5_add_0 28 rfl) (by decide) (b := 52) rfl) ?_
        refine r_iret (dk_at ktX5_add_0 29 rfl) rfl rfl ⟨_, rfl, ?_⟩
        have ho : 900 < nn + apC x 8 := by omega
        refine ⟨if_pos ho, rfl, FF.rf, ?_⟩
        rw [show apT8 T nn x = T from if_pos ho, show apN8 nn x = nn from if_pos ho]
        exact hT
    · skip
      have hj9 : ¬ j = 8 := fun g => c8 ((kq_l (by omega)).mpr g)
      have hj : j < 8 := by omega
      have hqb := qb_lt (x := x) (j := j)
      refine rc_p (p_iload_n 0 (dk_at ktX5_add_0 6 rfl) rfl rfl (b := 12) rfl) ?_
      refine rc_p (p_lload_n 3 (dk_at ktX5_add_0 7 rfl) rfl rfl (b := 13) rfl) ?_
      refine rc_p (p_iload 1 (dk_at ktX5_add_0 8 rfl) rfl (b := 15) rfl) ?_
      refine rc_p (p_lushr (v := (kz x j)) (dk_at ktX5_add_0 9 rfl) rfl (b := 16) rfl) ?_
      refine rc_p (p_ldc2 (v := 255) ql_TwinBoot_Text_22 (dk_at ktX5_add_0 10 rfl) (b := 19) rfl) ?_
      refine rc_p (p_land (v := (Int32.toInt64 (nI (qb x j)))) (dk_at ktX5_add_0 11 rfl) (kz_and hj) (b := 20) rfl) ?_
      refine rc_p (p_lconst (v := 0) (dk_at ktX5_add_0 12 rfl) (by decide) (b := 21) rfl) ?_
      refine rc_p (p_lcmp (dk_at ktX5_add_0 13 rfl) (b := 22) rfl) ?_
      refine r_if_eq (dk_at ktX5_add_0 14 rfl) (b := 29) (by decide) (b2 := 25) rfl (fun c22 => ?_) (fun c22 => ?_)
      · have c22 := (lg_cmp_eq _ _).mp c22
        have hz : qb x j = 0 := (qb_z qb_lt).mp c22
        refine rc_p (p_iconst (v := 0) (dk_at ktX5_add_0 17 rfl) (by decide) (b := 30) rfl) ?_
        refine rc_p (p_iadd (v := (nI (apC x j))) (dk_at ktX5_add_0 18 rfl) (nI_add (apC x j) 0) (b := 31) rfl) ?_
        refine rc_p (p_istore_n (ls' := [(3, .int (nI (apC x j))), (4, .int (kq j)), (0, .ref b), (1, .long x)]) (dk_at ktX5_add_0 19 rfl) rfl (by decide) rfl (b := 32) rfl) ?_
        refine rc_p (p_iinc (j := 1) (v := (kq (j + 1))) (ls' := [(4, .int (kq (j + 1))), (3, .int (nI (apC x j))), (0, .ref b), (1, .long x)]) (dk_at ktX5_add_0 20 rfl) rfl (kq_s hj) (by decide) rfl (b := 35) rfl) ?_
        refine rc_p (p_goto (b := 6) (dk_at ktX5_add_0 21 rfl) (by decide)) ?_
        refine rc_sub [1, 0, 2, 3] (ls' := [(3, .int (nI (apC x j))), (4, .int (kq (j + 1))), (0, .ref b), (1, .long x)]) rfl ?_
        rw [← apC_y hz]
        exact ih (j + 1) (by omega) (by omega)
      · have c22 := fun h => c22 ((lg_cmp_eq _ _).mpr h)
        have hz : ¬ qb x j = 0 := fun g => c22 ((qb_z qb_lt).mpr g)
        refine rc_p (p_iconst (v := 1) (dk_at ktX5_add_0 15 rfl) (by decide) (b := 26) rfl) ?_
        refine rc_p (p_goto (b := 30) (dk_at ktX5_add_0 16 rfl) (by decide)) ?_
        refine rc_p (p_iadd (v := (nI (apC x j + 1))) (dk_at ktX5_add_0 18 rfl) (nI_add (apC x j) 1) (b := 31) rfl) ?_
        refine rc_p (p_istore_n (ls' := [(3, .int (nI (apC x j + 1))), (4, .int (kq j)), (0, .ref b), (1, .long x)]) (dk_at ktX5_add_0 19 rfl) rfl (by decide) rfl (b := 32) rfl) ?_
        refine rc_p (p_iinc (j := 1) (v := (kq (j + 1))) (ls' := [(4, .int (kq (j + 1))), (3, .int (nI (apC x j + 1))), (0, .ref b), (1, .long x)]) (dk_at ktX5_add_0 20 rfl) rfl (kq_s hj) (by decide) rfl (b := 35) rfl) ?_
        refine rc_p (p_goto (b := 6) (dk_at ktX5_add_0 21 rfl) (by decide)) ?_
        refine rc_sub [1, 0, 2, 3] (ls' := [(3, .int (nI (apC x j + 1))), (4, .int (kq (j + 1))), (0, .ref b), (1, .long x)]) rfl ?_
        rw [← apC_n hz]
        exact ih (j + 1) (by omega) (by omega)
  refine rc_p (p_iconst (v := 0) (dk_at ktX5_add_0 0 rfl) (by decide) (b := 1) rfl) ?_
  refine r_val (y := (nI (apC x 0))) (show (0 : Int32) = nI (apC x 0) from rfl) ?_
  refine rc_p (p_istore_n (ls' := [(3, .int (nI (apC x 0))), (0, .ref b), (1, .long x)]) (dk_at ktX5_add_0 1 rfl) rfl (by decide) rfl (b := 2) rfl) ?_
  refine rc_p (p_bipush (v := 56) (dk_at ktX5_add_0 2 rfl) (by decide) (b := 4) rfl) ?_
  refine r_val (y := (kq 0)) (show (56 : Int32) = kq 0 by decide) ?_
  refine rc_p (p_istore (ls' := [(4, .int (kq 0)), (3, .int (nI (apC x 0))), (0, .ref b), (1, .long x)]) (dk_at ktX5_add_0 3 rfl) (by decide) rfl (b := 6) rfl) ?_
  refine rc_sub [1, 0, 2, 3] (ls' := [(3, .int (nI (apC x 0))), (4, .int (kq 0)), (0, .ref b), (1, .long x)]) rfl ?_
  exact cut6 9 0 (by omega) (by omega)

/-! THE CLASS: its calls about texts -/
set_option maxRecDepth 4000 in
set_option maxHeartbeats 4000000 in
theorem s_X6_append {n : Nat} {sh : mS} {G : mG} {I : mI} {J : mJ} {bx bt d be bf bg b0 b1 bv : Nat} {T : tT} {nn : Nat} (hB : BootH n sh G bx bt d be bf bg b0 b1 bv) (hT : TC bt I T nn) (x : Int64)  : Sp yX6_append cX6_append 3 (some FieldType.int) 2 72 0 0 [.ref bx, .long x] n sh G I J (Qi (fun r_ I_ J_ => apA nn x = r_ ∧ J = J_ ∧ FF bt [1] [2] I I_ ∧ TC bt I_ (apT8 T nn x) (apN8 nn x))) (nX) := by
  have hd := hB.hD
  have hord := hB.ord
  refine Sp.of (by decide) (ls := [(0, .ref bx), (1, .long x)]) (fun _ => rfl) (fun _ => Nat.le_of_ble_eq_true rfl) ?_
  refine rc_p (p_aload_n 0 (dk_at ktX6_append_0 0 rfl) rfl rfl (b := 1) rfl) ?_
  refine r_geta fl_X6_21 rfl hB.l0 hB.s0 (dk_at ktX6_append_0 1 rfl) hB.g0_0 (b := 4) rfl ?_
  refine rc_p (p_lload_n 1 (dk_at ktX6_append_0 2 rfl) rfl rfl (b := 5) rfl) ?_
  refine r_iV (As' := [.long x]) (rest := []) (s_X5_add hB.hX hT x) cw_X6_45 qi_X5_add qv_X5_add rfl hB.hX.l0 hB.hX.s0 (dk_at ktX6_append_0 3 rfl) rfl rfl (Nat.le_of_ble_eq_true rfl) (by decide) (b := 8) rfl (fun v4 I1 J2 q3 => ?_)
  obtain ⟨e5, rfl, hF6, hT7⟩ := q3
  refine r_iret (dk_at ktX6_append_0 4 rfl) rfl rfl ⟨_, rfl, ?_⟩
  exact ⟨e5, rfl, hF6, hT7⟩
set_option maxRecDepth 4000 in
set_option maxHeartbeats 4000000 in
theorem s_X6_load {n : Nat} {sh : mS} {G : mG} {I : mI} {J : mJ} {bx bt d be bf bg b0 b1 bv : Nat} {T : tT} {nn : Nat} (hB : BootH n sh G bx bt d be bf bg b0 b1 bv) (hT : TC bt I T nn) {σ : sT} {Te N : Nat} (hR : RelD d I σ Te N)  : Sp yX6_load cX6_load 1 (some FieldType.int) 8 253 0 0 [.ref bx] n sh G I J (Qi (fun r_ I_ J_ => loadA T nn = r_ ∧ J = J_ ∧ RelN d I_ (loadT T nn σ) Te ∧ I_ bt 2 = nI 0 ∧ I_ bt 6 = nI (parseO T nn).k ∧ ∀ b, (b < bt ∨ (bt + 6 ≤ b ∧ b < d) ∨ d + 19 ≤ b) → I_ b = I b)) (nX) := by
  have hd := hB.hD
  have hord := hB.ord
  refine Sp.of (by decide) (ls := [(0, .ref bx)]) (fun _ => rfl) (fun _ => Nat.le_of_ble_eq_true rfl) ?_
  refine rc_p (p_aload_n 0 (dk_at ktX6_load_0 0 rfl) rfl rfl (b := 1) rfl) ?_
  refine r_geta fl_X6_21 rfl hB.l0 hB.s0 (dk_at ktX6_load_0 1 rfl) hB.g0_0 (b := 4) rfl ?_
  refine r_iV (As' := []) (rest := []) (s_X5_read hB.hX hT) cw_X6_49 qi_X5_read qv_X5_read rfl hB.hX.l0 hB.hX.s0 (dk_at ktX6_load_0 2 rfl) rfl rfl (Nat.le_of_ble_eq_true rfl) (by decide) (b := 7) rfl (fun v4 I1 J2 q3 => ?_)
  obtain ⟨rfl, rfl, hF5, hh6, hh7, hy8, hy9⟩ := q3
  refine r_if_ne (dk_at ktX6_load_0 3 rfl) (b := 21) (by decide) (b2 := 10) rfl (fun c7 => ?_) (fun c7 => ?_)
  · have c7 := bi_t c7
    have hk0 := of_decide_eq_true c7
    have hRC := hy9 hk0
    have hok := parse_ok hT.1 hk0
    refine rc_p (p_aload_n 0 (dk_at ktX6_load_0 10 rfl) rfl rfl (b := 22) rfl) ?_
    refine r_geta fl_X6_27 rfl hB.l0 hB.s0 (dk_at ktX6_load_0 11 rfl) hB.g0_1 (b := 25) rfl ?_
    refine rc_p (p_aload_n 0 (dk_at ktX6_load_0 12 rfl) rfl rfl (b := 26) rfl) ?_
    refine r_geta fl_X6_21 rfl hB.l0 hB.s0 (dk_at ktX6_load_0 13 rfl) hB.g0_0 (b := 29) rfl ?_
    refine r_geta fl_X6_13 rfl hB.hX.l0 hB.hX.s0 (dk_at ktX6_load_0 14 rfl) hB.hX.g0_1 (b := 32) rfl ?_
    refine r_vV (As' := [.ref (bt + 2)]) (rest := []) (s_X0_begin hd hB.hX (by omega) hRC hok) cw_X6_17 qi_X0_begin qv_X0_begin rfl hd.l0 hd.s0 (dk_at ktX6_load_0 15 rfl) rfl rfl (Nat.le_of_ble_eq_true rfl) (by decide) (b := 35) rfl (fun I10 J11 q12 => ?_)
    obtain ⟨rfl, hR14, hF15⟩ := q12
    refine rc_p (p_aload_n 0 (dk_at ktX6_load_0 16 rfl) rfl rfl (b := 36) rfl) ?_
    refine r_geta fl_X6_27 rfl hB.l0 hB.s0 (dk_at ktX6_load_0 17 rfl) hB.g0_1 (b := 39) rfl ?_
    refine r_geta fl_X6_57 rfl hd.l0 hd.s0 (dk_at ktX6_load_0 18 rfl) hd.g0_0 (b := 42) rfl ?_
    refine rc_p (p_iconst (v := 0) (dk_at ktX6_load_0 19 rfl) (by decide) (b := 43) rfl) ?_
    refine r_iV (As' := [.int 0]) (rest := []) (s_X1_holdsImage hd (σ := (newS (parseO T nn).st)) hR14 (newS_inv hok) 0 (by omega)) cw_X6_61 qi_X1_holdsImage qv_X1_holdsImage rfl (hd.lt 1 (by decide)) hd.s1 (dk_at ktX6_load_0 20 rfl) rfl rfl (Nat.le_of_ble_eq_true rfl) (by decide) (b := 46) rfl (fun v19 I16 J17 q18 => ?_)
    obtain ⟨rfl, rfl, rfl⟩ := q18
    refine r_if_eq (dk_at ktX6_load_0 21 rfl) (b := 53) (by decide) (b2 := 49) rfl (fun c46 => ?_) (fun c46 => ?_)
    · have c46 := bi_f c46
      refine rc_p (p_iconst (v := 0) (dk_at ktX6_load_0 24 rfl) (by decide) (b := 54) rfl) ?_
      refine rc_p (p_aload_n 0 (dk_at ktX6_load_0 25 rfl) rfl rfl (b := 55) rfl) ?_
      refine r_geta fl_X6_27 rfl hB.l0 hB.s0 (dk_at ktX6_load_0 26 rfl) hB.g0_1 (b := 58) rfl ?_
      refine r_geta fl_X6_57 rfl hd.l0 hd.s0 (dk_at ktX6_load_0 27 rfl) hd.g0_0 (b := 61) rfl ?_
      refine rc_p (p_iconst (v := 1) (dk_at ktX6_load_0 28 rfl) (by decide) (b := 62) rfl) ?_
      refine r_iV (As' := [.int 1]) (rest := [.int 0]) (s_X1_holdsImage hd (σ := (newS (parseO T nn).st)) hR14 (newS_inv hok) 1 (by omega)) cw_X6_61 qi_X1_holdsImage qv_X1_holdsImage rfl (hd.lt 1 (by decide)) hd.s1 (dk_at ktX6_load_0 29 rfl) rfl rfl (Nat.le_of_ble_eq_true rfl) (by decide) (b := 65) rfl (fun v23 I20 J21 q22 => ?_)
      obtain ⟨rfl, rfl, rfl⟩ := q22
      refine r_if_eq (dk_at ktX6_load_0 30 rfl) (b := 72) (by decide) (b2 := 68) rfl (fun c65 => ?_) (fun c65 => ?_)
      · have c65 := bi_f c65
        refine rc_p (p_iconst (v := 0) (dk_at ktX6_load_0 33 rfl) (by decide) (b := 73) rfl) ?_
        refine rc_p (p_iadd (v := 0) (dk_at ktX6_load_0 34 rfl) rfl (b := 74) rfl) ?_
        refine r_iret (dk_at ktX6_load_0 35 rfl) rfl rfl ⟨_, rfl, ?_⟩
        refine ⟨?_, rfl, ?_, (congrFun (hF15 _ (by omega)) 2).trans hh6, (congrFun (hF15 _ (by omega)) 6).trans hh7, fun b hb => (hF15 b (by omega)).trans (hF5.1 b (by omega) (by simp; omega))⟩
        · rw [show loadA T nn = bi (wholeB (newS (parseO T nn).st) 0) + bi (wholeB (newS (parseO T nn).st) 1) from if_pos hk0]; simp_all [bi]
        · rw [show loadT T nn σ = newS (parseO T nn).st from if_pos hk0]; exact RelN.of hR14 (Nat.zero_le _)
      · have c65 := bi_t c65
        refine rc_p (p_iconst (v := 1) (dk_at ktX6_load_0 31 rfl) (by decide) (b := 69) rfl) ?_
        refine rc_p (p_goto (b := 73) (dk_at ktX6_load_0 32 rfl) (by decide)) ?_
        refine rc_p (p_iadd (v := 1) (dk_at ktX6_load_0 34 rfl) rfl (b := 74) rfl) ?_
        refine r_iret (dk_at ktX6_load_0 35 rfl) rfl rfl ⟨_, rfl, ?_⟩
        refine ⟨?_, rfl, ?_, (congrFun (hF15 _ (by omega)) 2).trans hh6, (congrFun (hF15 _ (by omega)) 6).trans hh7, fun b hb => (hF15 b (by omega)).trans (hF5.1 b (by omega) (by simp; omega))⟩
        · rw [show loadA T nn = bi (wholeB (newS (parseO T nn).st) 0) + bi (wholeB (newS (parseO T nn).st) 1) from if_pos hk0]; simp_all [bi]
        · rw [show loadT T nn σ = newS (parseO T nn).st from if_pos hk0]; exact RelN.of hR14 (Nat.zero_le _)
    · have c46 := bi_t c46
      refine rc_p (p_iconst (v := 1) (dk_at ktX6_load_0 22 rfl) (by decide) (b := 50) rfl) ?_
      refine rc_p (p_goto (b := 54) (dk_at ktX6_load_0 23 rfl) (by decide)) ?_
      refine rc_p (p_aload_n 0 (dk_at ktX6_load_0 25 rfl) rfl rfl (b := 55) rfl) ?_
      refine r_geta fl_X6_27 rfl hB.l0 hB.s0 (dk_at ktX6_load_0 26 rfl) hB.g0_1 (b := 58) rfl ?_
      refine r_geta fl_X6_57 rfl hd.l0 hd.s0 (dk_at ktX6_load_0 27 rfl) hd.g0_0 (b := 61) rfl ?_
      refine rc_p (p_iconst (v := 1) (dk_at ktX6_load_0 28 rfl) (by decide) (b := 62) rfl) ?_
      refine r_iV (As' := [.int 1]) (rest := [.int 1]) (s_X1_holdsImage hd (σ := (newS (parseO T nn).st)) hR14 (newS_inv hok) 1 (by omega)) cw_X6_61 qi_X1_holdsImage qv_X1_holdsImage rfl (hd.lt 1 (by decide)) hd.s1 (dk_at ktX6_load_0 29 rfl) rfl rfl (Nat.le_of_ble_eq_true rfl) (by decide) (b := 65) rfl (fun v27 I24 J25 q26 => ?_)
      obtain ⟨rfl, rfl, rfl⟩ := q26
      refine r_if_eq (dk_at ktX6_load_0 30 rfl) (b := 72) (by decide) (b2 := 68) rfl (fun c65 => ?_) (fun c65 => ?_)
      · have c65 := bi_f c65
        refine rc_p (p_iconst (v := 0) (dk_at ktX6_load_0 33 rfl) (by decide) (b := 73) rfl) ?_
        refine rc_p (p_iadd (v := 1) (dk_at ktX6_load_0 34 rfl) rfl (b := 74) rfl) ?_
        refine r_iret (dk_at ktX6_load_0 35 rfl) rfl rfl ⟨_, rfl, ?_⟩
        refine ⟨?_, rfl, ?_, (congrFun (hF15 _ (by omega)) 2).trans hh6, (congrFun (hF15 _ (by omega)) 6).trans hh7, fun b hb => (hF15 b (by omega)).trans (hF5.1 b (by omega) (by simp; omega))⟩
        · rw [show loadA T nn = bi (wholeB (newS (parseO T nn).st) 0) + bi (wholeB (newS (parseO T nn).st) 1) from if_pos hk0]; simp_all [bi]
        · rw [show loadT T nn σ = newS (parseO T nn).st from if_pos hk0]; exact RelN.of hR14 (Nat.zero_le _)
      · have c65 := bi_t c65
        refine rc_p (p_iconst (v := 1) (dk_at ktX6_load_0 31 rfl) (by decide) (b := 69) rfl) ?_
        refine rc_p (p_goto (b := 73) (dk_at ktX6_load_0 32 rfl) (by decide)) ?_
        refine rc_p (p_iadd (v := 2) (dk_at ktX6_load_0 34 rfl) rfl (b := 74) rfl) ?_
        refine r_iret (dk_at ktX6_load_0 35 rfl) rfl rfl ⟨_, rfl, ?_⟩
        refine ⟨?_, rfl, ?_, (congrFun (hF15 _ (by omega)) 2).trans hh6, (congrFun (hF15 _ (by omega)) 6).trans hh7, fun b hb => (hF15 b (by omega)).trans (hF5.1 b (by omega) (by simp; omega))⟩
        · rw [show loadA T nn = bi (wholeB (newS (parseO T nn).st) 0) + bi (wholeB (newS (parseO T nn).st) 1) from if_pos hk0]; simp_all [bi]
        · rw [show loadT T nn σ = newS (parseO T nn).st from if_pos hk0]; exact RelN.of hR14 (Nat.zero_le _)
  · have c7 := bi_f c7
    have hk0 := of_decide_eq_false c7
    refine rc_p (p_bipush (v := (-100)) (dk_at ktX6_load_0 4 rfl) (by decide) (b := 12) rfl) ?_
    refine rc_p (p_aload_n 0 (dk_at ktX6_load_0 5 rfl) rfl rfl (b := 13) rfl) ?_
    refine r_geta fl_X6_21 rfl hB.l0 hB.s0 (dk_at ktX6_load_0 6 rfl) hB.g0_0 (b := 16) rfl ?_
    refine r_geti fl_X6_53 rfl hB.hX.l0 hB.hX.s0 (dk_at ktX6_load_0 7 rfl) (v := (nI ((parseO T nn).a))) (hy8 hk0) (b := 19) rfl ?_
    refine rc_p (p_isub (v := ((-100) - (nI ((parseO T nn).a)))) (dk_at ktX6_load_0 8 rfl) rfl (b := 20) rfl) ?_
    refine r_iret (dk_at ktX6_load_0 9 rfl) rfl rfl ⟨_, rfl, ?_⟩
    refine ⟨if_neg hk0, rfl, ?_, hh6, hh7, fun b hb => hF5.1 b (by omega) (by simp; omega)⟩
    rw [show loadT T nn σ = σ from if_neg hk0]
    exact RelN.of (hR.fr (fun b g1 g2 => hF5.1 b (by omega) (by simp; omega))) (Nat.le_refl _)

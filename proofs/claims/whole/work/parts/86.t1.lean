/-! THE REFERENCE reads a text: letters, words, numbers -/
set_option maxRecDepth 4000 in
set_option maxHeartbeats 4000000 in
theorem s_X7_byteAt {n : Nat} {sh : mS} {G : mG} {I : mI} {J : mJ} {m : Nat} {T : tT} {nn : Nat} (hm : ModG n sh G m) (hT : TR m I T nn) (k : Nat) (hk : k < 2000) : Sp yX7_byteAt cX7_byteAt 2 (some FieldType.int) 1 48 0 0 [.ref m, .int (nI k)] n sh G I J (Qi (fun r_ I_ J_ => bA T k = r_ ∧ I = I_ ∧ J = J_)) nX := by
  refine Sp.of (by decide) (ls := [(0, .ref m), (1, .int (nI k))]) (fun _ => rfl) (fun _ => Nat.le_of_ble_eq_true rfl) ?_
  have hn := hT.1.1
  refine rc_p (p_iload_n 1 (dk_at ktX7_byteAt_0 0 rfl) rfl rfl (b := 1) rfl) ?_
  refine rc_p (p_aload_n 0 (dk_at ktX7_byteAt_0 1 rfl) rfl rfl (b := 2) rfl) ?_
  refine r_geti fl_X7_59 rfl hm.l0 hm.s0 (dk_at ktX7_byteAt_0 2 rfl) (v := (nI nn)) (hT.2.1) (b := 5) rfl ?_
  refine r_icmp_ge (dk_at ktX7_byteAt_0 3 rfl) (b := 17) (by decide) (b2 := 8) rfl (fun c5 => ?_) (fun c5 => ?_)
  · have c5 : nn ≤ k := (nI_leI (a := nn) (b := k) (by omega) (by omega)).mp c5
    refine rc_p (p_iconst (v := (-1)) (dk_at ktX7_byteAt_0 9 rfl) (by decide) (b := 18) rfl) ?_
    refine r_iret (dk_at ktX7_byteAt_0 10 rfl) rfl rfl ⟨_, rfl, ?_⟩
    exact ⟨if_pos (hT.1.2.2 k (by omega)), rfl, rfl⟩
  · have c5 : ¬ nn ≤ k := fun h => c5 ((nI_leI (a := nn) (b := k) (by omega) (by omega)).mpr h)
    refine rc_p (p_aload_n 0 (dk_at ktX7_byteAt_0 4 rfl) rfl rfl (b := 9) rfl) ?_
    refine r_geta fl_X7_33 rfl hm.l0 hm.s0 (dk_at ktX7_byteAt_0 5 rfl) hm.g0_9 (b := 12) rfl ?_
    refine rc_p (p_iload_n 1 (dk_at ktX7_byteAt_0 6 rfl) rfl rfl (b := 13) rfl) ?_
    refine r_iald (j := k) (hm.lt 7 (by decide)) hm.s7 (dk_at ktX7_byteAt_0 7 rfl) rfl ⟨by omega, by decide⟩ (v := (nI (T k))) (hT.2.2 k (by omega)) (b := 14) rfl ?_
    refine rc_p (p_goto (b := 18) (dk_at ktX7_byteAt_0 8 rfl) (by decide)) ?_
    refine r_iret (dk_at ktX7_byteAt_0 10 rfl) rfl rfl ⟨_, rfl, ?_⟩
    exact ⟨if_neg (by have := (hT.1.2.1 k (by omega)).1; omega), rfl, rfl⟩
set_option maxRecDepth 4000 in
set_option maxHeartbeats 4000000 in
theorem s_X7_isLetter {n : Nat} {sh : mS} {G : mG} {I : mI} {J : mJ} {m : Nat} {T : tT} {nn : Nat} (hm : ModG n sh G m) (hT : TR m I T nn) (k : Nat) (hk : k < 2000) : Sp yX7_isLetter cX7_isLetter 2 (some FieldType.boolean) 2 96 0 0 [.ref m, .int (nI k)] n sh G I J (Qi (fun r_ I_ J_ => bi (txL T k) = r_ ∧ I = I_ ∧ J = J_)) nX := by
  refine Sp.of (by decide) (ls := [(0, .ref m), (1, .int (nI k))]) (fun _ => rfl) (fun _ => Nat.le_of_ble_eq_true rfl) ?_
  refine rc_p (p_aload_n 0 (dk_at ktX7_isLetter_0 0 rfl) rfl rfl (b := 1) rfl) ?_
  refine rc_p (p_iload_n 1 (dk_at ktX7_isLetter_0 1 rfl) rfl rfl (b := 2) rfl) ?_
  refine r_iV (As' := [.int (nI k)]) (rest := []) (s_X7_byteAt hm hT k (by omega)) cw_X7_65 qi_X7_byteAt qv_X7_byteAt rfl hm.l0 hm.s0 (dk_at ktX7_isLetter_0 2 rfl) rfl rfl (Nat.le_of_ble_eq_true rfl) (by decide) (b := 5) rfl (fun v4 I1 J2 q3 => ?_)
  obtain ⟨rfl, rfl, rfl⟩ := q3
  refine rc_p (p_i2l (v := (Int32.toInt64 (bA T k))) (dk_at ktX7_isLetter_0 3 rfl) rfl (b := 6) rfl) ?_
  refine rc_p (p_ldc2 (v := 97) ql_TwinBootModel_69 (dk_at ktX7_isLetter_0 4 rfl) (b := 9) rfl) ?_
  refine rc_p (p_ldc2 (v := 122) ql_TwinBootModel_71 (dk_at ktX7_isLetter_0 5 rfl) (b := 12) rfl) ?_
  refine r_iS (As := [.long (Int32.toInt64 (bA T k)), .long 97, .long 122]) (rest := []) (s_X7_in (Int32.toInt64 (bA T k)) 97 122) cw_X7_73 qs_X7_in (dk_at ktX7_isLetter_0 6 rfl) rfl rfl (Nat.le_of_ble_eq_true rfl) (by decide) (b := 15) rfl (fun v8 I5 J6 q7 => ?_)
  obtain ⟨rfl, rfl, rfl⟩ := q7
  refine r_val (y := bi (inI (bA T k) 97 122)) (congrArg bi (inJ_I (bA T k) 97 122)) ?_
  refine r_iret (dk_at ktX7_isLetter_0 7 rfl) rfl (bi_nar (inI (bA T k) 97 122)) ⟨_, rfl, ?_⟩
  exact ⟨congrArg bi (bA_L hT.1).symm, rfl, rfl⟩
set_option maxRecDepth 4000 in
set_option maxHeartbeats 4000000 in
theorem s_X7_isDigit {n : Nat} {sh : mS} {G : mG} {I : mI} {J : mJ} {m : Nat} {T : tT} {nn : Nat} (hm : ModG n sh G m) (hT : TR m I T nn) (k : Nat) (hk : k < 2000) : Sp yX7_isDigit cX7_isDigit 2 (some FieldType.boolean) 2 96 0 0 [.ref m, .int (nI k)] n sh G I J (Qi (fun r_ I_ J_ => bi (txD T k) = r_ ∧ I = I_ ∧ J = J_)) nX := by
  refine Sp.of (by decide) (ls := [(0, .ref m), (1, .int (nI k))]) (fun _ => rfl) (fun _ => Nat.le_of_ble_eq_true rfl) ?_
  refine rc_p (p_aload_n 0 (dk_at ktX7_isDigit_0 0 rfl) rfl rfl (b := 1) rfl) ?_
  refine rc_p (p_iload_n 1 (dk_at ktX7_isDigit_0 1 rfl) rfl rfl (b := 2) rfl) ?_
  refine r_iV (As' := [.int (nI k)]) (rest := []) (s_X7_byteAt hm hT k (by omega)) cw_X7_65 qi_X7_byteAt qv_X7_byteAt rfl hm.l0 hm.s0 (dk_at ktX7_isDigit_0 2 rfl) rfl rfl (Nat.le_of_ble_eq_true rfl) (by decide) (b := 5) rfl (fun v4 I1 J2 q3 => ?_)
  obtain ⟨rfl, rfl, rfl⟩ := q3
  refine rc_p (p_i2l (v := (Int32.toInt64 (bA T k))) (dk_at ktX7_isDigit_0 3 rfl) rfl (b := 6) rfl) ?_
  refine rc_p (p_ldc2 (v := 48) ql_TwinBootModel_77 (dk_at ktX7_isDigit_0 4 rfl) (b := 9) rfl) ?_
  refine rc_p (p_ldc2 (v := 57) ql_TwinBootModel_79 (dk_at ktX7_isDigit_0 5 rfl) (b := 12) rfl) ?_
  refine r_iS (As := [.long (Int32.toInt64 (bA T k)), .long 48, .long 57]) (rest := []) (s_X7_in (Int32.toInt64 (bA T k)) 48 57) cw_X7_73 qs_X7_in (dk_at ktX7_isDigit_0 6 rfl) rfl rfl (Nat.le_of_ble_eq_true rfl) (by decide) (b := 15) rfl (fun v8 I5 J6 q7 => ?_)
  obtain ⟨rfl, rfl, rfl⟩ := q7
  refine r_val (y := bi (inI (bA T k) 48 57)) (congrArg bi (inJ_I (bA T k) 48 57)) ?_
  refine r_iret (dk_at ktX7_isDigit_0 7 rfl) rfl (bi_nar (inI (bA T k) 48 57)) ⟨_, rfl, ?_⟩
  exact ⟨congrArg bi (bA_D hT.1).symm, rfl, rfl⟩
set_option maxRecDepth 4000 in
set_option maxHeartbeats 4000000 in
theorem s_X7_see {n : Nat} {sh : mS} {G : mG} {I : mI} {J : mJ} {m : Nat} {T : tT} {nn : Nat} (hm : ModG n sh G m) (hT : TR m I T nn) (p : Nat) (hp : I m 11 = nI p) (hpn : p ≤ nn)  : Sp yX7_see cX7_see 1 (some FieldType.int) 2 96 0 0 [.ref m] n sh G I J (Qi (fun r_ I_ J_ => bA T (txSk T nn p) = r_ ∧ J = J_ ∧ FF m [] [11, 12] I I_ ∧ I_ m 11 = nI (txSk T nn p) ∧ I_ m 12 = nI (txSk T nn p))) nX := by
  refine Sp.of (by decide) (ls := [(0, .ref m)]) (fun _ => rfl) (fun _ => Nat.le_of_ble_eq_true rfl) ?_
  have hn := hT.1.1
  have cut0 : ∀ (t q : Nat) (Iz : mI), FF m [] [11] I Iz → Iz m 11 = nI q → q ≤ nn → nn - q < t → txSk T nn p = scanF (txS T) (nn - q) q → Rc RX7 cX7_see 1 (some FieldType.int) 2 96 0 0 n sh G (Qi (fun r_ I_ J_ => bA T (txSk T nn p) = r_ ∧ J = J_ ∧ FF m [] [11, 12] I I_ ∧ I_ m 11 = nI (txSk T nn p) ∧ I_ m 12 = nI (txSk T nn p))) nX 0 0 0 [(0, .ref m)] [] Iz J := by
    intro t
    induction t
    · intro q Iz _ _ _ h; omega
    rename_i t ih
    intro q Iz hFz hq hqn ht hx
    refine rc_p (p_aload_n 0 (dk_at ktX7_see_0 0 rfl) rfl rfl (b := 1) rfl) ?_
    refine rc_p (p_aload_n 0 (dk_at ktX7_see_0 1 rfl) rfl rfl (b := 2) rfl) ?_
    refine r_geti fl_X7_81 rfl hm.l0 hm.s0 (dk_at ktX7_see_0 2 rfl) (v := (nI q)) hq (b := 5) rfl ?_
    refine r_iV (As' := [.int (nI q)]) (rest := []) (s_X7_byteAt hm (hT.fr (show FP m I Iz from (hFz.mo (by simp) (by simp)))) q (by omega)) cw_X7_65 qi_X7_byteAt qv_X7_byteAt rfl hm.l0 hm.s0 (dk_at ktX7_see_0 3 rfl) rfl rfl (Nat.le_of_ble_eq_true rfl) (by decide) (b := 8) rfl (fun v4 I1 J2 q3 => ?_)
    obtain ⟨rfl, rfl, rfl⟩ := q3
    refine rc_p (p_bipush (v := 32) (dk_at ktX7_see_0 4 rfl) (by decide) (b := 10) rfl) ?_
    refine r_icmp_ne (dk_at ktX7_see_0 5 rfl) (b := 26) (by decide) (b2 := 13) rfl (fun c10 => ?_) (fun c10 => ?_)
    · skip
      refine rc_p (p_aload_n 0 (dk_at ktX7_see_0 13 rfl) rfl rfl (b := 27) rfl) ?_
      refine rc_p (p_aload_n 0 (dk_at ktX7_see_0 14 rfl) rfl rfl (b := 28) rfl) ?_
      refine r_geti fl_X7_81 rfl hm.l0 hm.s0 (dk_at ktX7_see_0 15 rfl) (v := (nI q)) hq (b := 31) rfl ?_
      refine r_puti fl_X7_84 fw_X7_12 rfl hm.l0 hm.s0 rfl rfl (dk_at ktX7_see_0 16 rfl) (b := 34) rfl ?_
      refine rc_p (p_aload_n 0 (dk_at ktX7_see_0 17 rfl) rfl rfl (b := 35) rfl) ?_
      refine rc_p (p_aload_n 0 (dk_at ktX7_see_0 18 rfl) rfl rfl (b := 36) rfl) ?_
      refine r_geti fl_X7_81 rfl hm.l0 hm.s0 (dk_at ktX7_see_0 19 rfl) (v := (nI q)) ((up2_n (by omega)).trans hq) (b := 39) rfl ?_
      refine r_iV (As' := [.int (nI q)]) (rest := []) (s_X7_byteAt hm (hT.fr (show FP m I (up2 Iz m 12 (nI q)) from ((hFz.mo (by simp) (by simp)).uf (by simp)))) q (by omega)) cw_X7_65 qi_X7_byteAt qv_X7_byteAt rfl hm.l0 hm.s0 (dk_at ktX7_see_0 20 rfl) rfl rfl (Nat.le_of_ble_eq_true rfl) (by decide) (b := 42) rfl (fun v8 I5 J6 q7 => ?_)
      obtain ⟨rfl, rfl, rfl⟩ := q7
      refine r_iret (dk_at ktX7_see_0 21 rfl) rfl rfl ⟨_, rfl, ?_⟩
      have e8 : txS T q = false := decide_eq_false (fun g => c10 ((bA_e (c := 32) hT.1 (by decide) (by decide)).mpr g))
      have e : txSk T nn p = q := hx.trans (scan_n e8)
      rw [e]
      exact ⟨rfl, rfl, ((hFz.mo (by simp) (by simp)).uf (by simp)), ((up2_n (by omega)).trans hq), up2_s⟩
    · skip
      refine rc_p (p_aload_n 0 (dk_at ktX7_see_0 6 rfl) rfl rfl (b := 14) rfl) ?_
      refine rc_p (p_dup (dk_at ktX7_see_0 7 rfl) rfl (b := 15) rfl) ?_
      refine r_geti fl_X7_81 rfl hm.l0 hm.s0 (dk_at ktX7_see_0 8 rfl) (v := (nI q)) hq (b := 18) rfl ?_
      refine rc_p (p_iconst (v := 1) (dk_at ktX7_see_0 9 rfl) (by decide) (b := 19) rfl) ?_
      refine rc_p (p_iadd (v := (nI (q + 1))) (dk_at ktX7_see_0 10 rfl) (nI_add q 1) (b := 20) rfl) ?_
      refine r_puti fl_X7_81 fw_X7_11 rfl hm.l0 hm.s0 rfl rfl (dk_at ktX7_see_0 11 rfl) (b := 23) rfl ?_
      refine rc_p (p_goto (b := 0) (dk_at ktX7_see_0 12 rfl) (by decide)) ?_
      have e8 : txS T q = true := decide_eq_true ((bA_e (c := 32) hT.1 (by decide) (by decide)).mp c10)
      have hl := txS_lt hT.1 e8
      exact ih (q + 1) _ (hFz.uf (by simp)) up2_s (by omega) (by omega) (hx.trans (scan_y hl e8))
  exact cut0 1000 p I FF.rf hp hpn (by omega) rfl
set_option maxRecDepth 4000 in
set_option maxHeartbeats 4000000 in
theorem s_X7_fails {n : Nat} {sh : mS} {G : mG} {I : mI} {J : mJ} {m : Nat} {T : tT} {nn : Nat} (hm : ModG n sh G m) (hT : TR m I T nn) (h14 : I m 14 = 0) (w : Nat) (h12 : I m 12 = nI w) (k : Nat) : Sp yX7_fails cX7_fails 2 (some FieldType.boolean) 1 48 0 0 [.ref m, .int (nI k)] n sh G I J (Qi (fun r_ I_ J_ => 0 = r_ ∧ J = J_ ∧ FF m [] [13, 14] I I_ ∧ I_ m 14 = nI k ∧ I_ m 13 = nI w)) nX := by
  refine Sp.of (by decide) (ls := [(0, .ref m), (1, .int (nI k))]) (fun _ => rfl) (fun _ => Nat.le_of_ble_eq_true rfl) ?_
  refine rc_p (p_aload_n 0 (dk_at ktX7_fails_0 0 rfl) rfl rfl (b := 1) rfl) ?_
  refine r_geti fl_X7_87 rfl hm.l0 hm.s0 (dk_at ktX7_fails_0 1 rfl) (v := 0) h14 (b := 4) rfl ?_
  refine r_if_ne (dk_at ktX7_fails_0 2 rfl) (b := 20) (by decide) (b2 := 7) rfl (fun c4 => ?_) (fun c4 => ?_)
  · first | exact absurd c4 (by decide) | exact absurd (by decide) c4
  · skip
    refine rc_p (p_aload_n 0 (dk_at ktX7_fails_0 3 rfl) rfl rfl (b := 8) rfl) ?_
    refine rc_p (p_iload_n 1 (dk_at ktX7_fails_0 4 rfl) rfl rfl (b := 9) rfl) ?_
    refine r_puti fl_X7_87 fw_X7_14 rfl hm.l0 hm.s0 rfl rfl (dk_at ktX7_fails_0 5 rfl) (b := 12) rfl ?_
    refine rc_p (p_aload_n 0 (dk_at ktX7_fails_0 6 rfl) rfl rfl (b := 13) rfl) ?_
    refine rc_p (p_aload_n 0 (dk_at ktX7_fails_0 7 rfl) rfl rfl (b := 14) rfl) ?_
    refine r_geti fl_X7_84 rfl hm.l0 hm.s0 (dk_at ktX7_fails_0 8 rfl) (v := (nI w)) ((up2_n (by omega)).trans h12) (b := 17) rfl ?_
    refine r_puti fl_X7_90 fw_X7_13 rfl hm.l0 hm.s0 rfl rfl (dk_at ktX7_fails_0 9 rfl) (b := 20) rfl ?_
    refine rc_p (p_iconst (v := 0) (dk_at ktX7_fails_0 10 rfl) (by decide) (b := 21) rfl) ?_
    refine r_iret (dk_at ktX7_fails_0 11 rfl) rfl rfl ⟨_, rfl, ?_⟩
    exact ⟨rfl, rfl, ((FF.rf.uf (by simp)).uf (by simp)), ((up2_n (by omega)).trans up2_s), up2_s⟩
set_option maxRecDepth 4000 in
set_option maxHeartbeats 4000000 in
theorem s_X7_wordEnd {n : Nat} {sh : mS} {G : mG} {I : mI} {J : mJ} {m : Nat} {T : tT} {nn : Nat} (hm : ModG n sh G m) (hT : TR m I T nn) (w : Nat) (h12 : I m 12 = nI w) (hwn : w ≤ nn)  : Sp yX7_wordEnd cX7_wordEnd 2 (some FieldType.int) 3 144 0 0 [.ref m] n sh G I J (Qi (fun r_ I_ J_ => nI (txWe T nn w) = r_ ∧ I = I_ ∧ J = J_)) nX := by
  refine Sp.of (by decide) (ls := [(0, .ref m)]) (fun _ => rfl) (fun _ => Nat.le_of_ble_eq_true rfl) ?_
  have hn := hT.1.1
  have cut5 : ∀ (t e : Nat), e ≤ nn → nn - e < t → txWe T nn w = scanF (txL T) (nn - e) e → Rc RX7 cX7_wordEnd 2 (some FieldType.int) 3 144 0 0 n sh G (Qi (fun r_ I_ J_ => nI (txWe T nn w) = r_ ∧ I = I_ ∧ J = J_)) nX 0 0 5 [(1, .int (nI e)), (0, .ref m)] [] I J := by
    intro t
    induction t
    · intro e _ h; omega
    rename_i t ih
    intro e hen ht hx
    refine rc_p (p_aload_n 1 (dk_at ktX7_wordEnd_0 3 rfl) rfl rfl (b := 6) rfl) ?_
    refine rc_p (p_iload_n 0 (dk_at ktX7_wordEnd_0 4 rfl) rfl rfl (b := 7) rfl) ?_
    refine r_iV (As' := [.int (nI e)]) (rest := []) (s_X7_isLetter hm hT e (by omega)) cw_X7_93 qi_X7_isLetter qv_X7_isLetter rfl hm.l0 hm.s0 (dk_at ktX7_wordEnd_0 5 rfl) rfl rfl (Nat.le_of_ble_eq_true rfl) (by decide) (b := 10) rfl (fun v4 I1 J2 q3 => ?_)
    obtain ⟨rfl, rfl, rfl⟩ := q3
    refine r_if_eq (dk_at ktX7_wordEnd_0 6 rfl) (b := 19) (by decide) (b2 := 13) rfl (fun c10 => ?_) (fun c10 => ?_)
    · have c10 := bi_f c10
      refine rc_p (p_iload_n 0 (dk_at ktX7_wordEnd_0 9 rfl) rfl rfl (b := 20) rfl) ?_
      refine r_iret (dk_at ktX7_wordEnd_0 10 rfl) rfl rfl ⟨_, rfl, ?_⟩
      exact ⟨congrArg nI (hx.trans (scan_n c10)), rfl, rfl⟩
    · have c10 := bi_t c10
      refine rc_p (p_iinc (j := 0) (v := (nI (e + 1))) (ls' := [(1, .int (nI (e + 1))), (0, .ref m)]) (dk_at ktX7_wordEnd_0 7 rfl) rfl (nI_add e 1) (by decide) rfl (b := 16) rfl) ?_
      refine rc_p (p_goto (b := 5) (dk_at ktX7_wordEnd_0 8 rfl) (by decide)) ?_
      have hl := txL_lt hT.1 c10
      exact ih (e + 1) (by omega) (by omega) (hx.trans (scan_y hl c10))
  refine rc_p (p_aload_n 0 (dk_at ktX7_wordEnd_0 0 rfl) rfl rfl (b := 1) rfl) ?_
  refine r_geti fl_X7_84 rfl hm.l0 hm.s0 (dk_at ktX7_wordEnd_0 1 rfl) (v := (nI w)) h12 (b := 4) rfl ?_
  refine rc_p (p_istore_n (ls' := [(1, .int (nI w)), (0, .ref m)]) (dk_at ktX7_wordEnd_0 2 rfl) rfl (by decide) rfl (b := 5) rfl) ?_
  exact cut5 1000 w hwn (by omega) rfl
set_option maxRecDepth 4000 in
set_option maxHeartbeats 4000000 in
theorem s_X7_isWord {n : Nat} {sh : mS} {G : mG} {I : mI} {J : mJ} {m : Nat} {T : tT} {nn : Nat} (hm : ModG n sh G m) (hT : TR m I T nn) (w : Nat) (h12 : I m 12 = nI w) (hwn : w ≤ nn) (i : Nat) (hi : i < 6) : Sp yX7_isWord cX7_isWord 5 (some FieldType.boolean) 5 240 0 0 [.ref m, .ref (1000 + i)] n sh G I J (Qi (fun r_ I_ J_ => bi (isW T w (txWe T nn w) i) = r_ ∧ I = I_ ∧ J = J_)) nX := by
  refine Sp.of (by decide) (ls := [(0, .ref m), (1, .ref (1000 + i))]) (fun _ => rfl) (fun _ => Nat.le_of_ble_eq_true rfl) ?_
  have hn := hT.1.1
  have hwe := txWe_le (T := T) hwn
  have hbl := bL_5 hi
  have cut27 : ∀ (t k : Nat) (b : Bool), 1000 - k < t → k < 1000 → (b = true → txWe T nn w - w = bLen.getD i 0 ∧ ∀ j, j < k → nI (T (w + j)) = bC i j) → (b = false → isW T w (txWe T nn w) i = false) → Rc RX7 cX7_isWord 5 (some FieldType.boolean) 5 240 0 0 n sh G (Qi (fun r_ I_ J_ => bi (isW T w (txWe T nn w) i) = r_ ∧ I = I_ ∧ J = J_)) nX 0 0 27 [(3, .int (bi b)), (4, .int (nI k)), (2, .int (nI (txWe T nn w))), (0, .ref m), (1, .ref (1000 + i))] [] I J := by
    intro t
    induction t
    · intro k b h; omega
    rename_i t ih
    intro k b ht hkk h1 h0
    refine rc_p (p_iload_n 0 (dk_at ktX7_isWord_0 16 rfl) rfl rfl (b := 28) rfl) ?_
    refine r_if_eq (dk_at ktX7_isWord_0 17 rfl) (b := 74) (by decide) (b2 := 31) rfl (fun c28 => ?_) (fun c28 => ?_)
    · have c28 := bi_f c28
      refine rc_p (p_iload_n 0 (dk_at ktX7_isWord_0 40 rfl) rfl rfl (b := 75) rfl) ?_
      refine r_iret (dk_at ktX7_isWord_0 41 rfl) rfl (bi_nar b) ⟨_, rfl, ?_⟩
      refine ⟨?_, rfl, rfl⟩
      rw [h0 c28, c28]
    · have c28 := bi_t c28
      refine rc_p (p_aload_n 3 (dk_at ktX7_isWord_0 18 rfl) rfl rfl (b := 32) rfl) ?_
      refine r_geti fl_X7_84 rfl hm.l0 hm.s0 (dk_at ktX7_isWord_0 19 rfl) (v := (nI w)) h12 (b := 35) rfl ?_
      refine rc_p (p_iload 1 (dk_at ktX7_isWord_0 20 rfl) rfl (b := 37) rfl) ?_
      refine rc_p (p_iadd (v := (nI (w + k))) (dk_at ktX7_isWord_0 21 rfl) (nI_add w k) (b := 38) rfl) ?_
      refine rc_p (p_iload_n 2 (dk_at ktX7_isWord_0 22 rfl) rfl rfl (b := 39) rfl) ?_
      refine r_icmp_ge (dk_at ktX7_isWord_0 23 rfl) (b := 74) (by decide) (b2 := 42) rfl (fun c39 => ?_) (fun c39 => ?_)
      · have c39 : (txWe T nn w) ≤ (w + k) := (nI_leI (a := txWe T nn w) (b := w + k) (by omega) (by omega)).mp c39
        refine rc_p (p_iload_n 0 (dk_at ktX7_isWord_0 40 rfl) rfl rfl (b := 75) rfl) ?_
        refine r_iret (dk_at ktX7_isWord_0 41 rfl) rfl (bi_nar b) ⟨_, rfl, ?_⟩
        refine ⟨?_, rfl, rfl⟩
        rw [c28, isW_t (h1 c28).1 (fun j hj => (h1 c28).2 j (by have := (h1 c28).1; omega))]
      · have c39 : ¬ (txWe T nn w) ≤ (w + k) := fun h => c39 ((nI_leI (a := txWe T nn w) (b := w + k) (by omega) (by omega)).mpr h)
        have hk2 : w + k < txWe T nn w := by omega
        have hj : k < bLen.getD i 0 := by have := (h1 c28).1; omega
        refine rc_p (p_aload_n 3 (dk_at ktX7_isWord_0 24 rfl) rfl rfl (b := 43) rfl) ?_
        refine rc_p (p_aload_n 3 (dk_at ktX7_isWord_0 25 rfl) rfl rfl (b := 44) rfl) ?_
        refine r_geti fl_X7_84 rfl hm.l0 hm.s0 (dk_at ktX7_isWord_0 26 rfl) (v := (nI w)) h12 (b := 47) rfl ?_
        refine rc_p (p_iload 1 (dk_at ktX7_isWord_0 27 rfl) rfl (b := 49) rfl) ?_
        refine rc_p (p_iadd (v := (nI (w + k))) (dk_at ktX7_isWord_0 28 rfl) (nI_add w k) (b := 50) rfl) ?_
        refine r_iV (As' := [.int (nI (w + k))]) (rest := []) (s_X7_byteAt hm hT (w + k) (by omega)) cw_X7_65 qi_X7_byteAt qv_X7_byteAt rfl hm.l0 hm.s0 (dk_at ktX7_isWord_0 29 rfl) rfl rfl (Nat.le_of_ble_eq_true rfl) (by decide) (b := 53) rfl (fun v4 I1 J2 q3 => ?_)
        obtain ⟨rfl, rfl, rfl⟩ := q3
        refine rc_p (p_aload_n 4 (dk_at ktX7_isWord_0 30 rfl) rfl rfl (b := 54) rfl) ?_
        refine rc_p (p_iload 1 (dk_at ktX7_isWord_0 31 rfl) rfl (b := 56) rfl) ?_
        refine r_iVS (As' := [.int (nI k)]) (rest := [.int (bA T (w + k))]) (s_J0_charAt_5068e i hi k hj) hi cw_X7_105 qi_J0_charAt_5068e qv_J0_charAt_5068e (dk_at ktX7_isWord_0 32 rfl) rfl rfl (Nat.le_of_ble_eq_true rfl) (by decide) (b := 59) rfl (fun v8 I5 J6 q7 => ?_)
        obtain ⟨rfl, rfl, rfl⟩ := q7
        refine r_icmp_ne (dk_at ktX7_isWord_0 33 rfl) (b := 66) (by decide) (b2 := 62) rfl (fun c59 => ?_) (fun c59 => ?_)
        · skip
          refine rc_p (p_iconst (v := 0) (dk_at ktX7_isWord_0 36 rfl) (by decide) (b := 67) rfl) ?_
          refine rc_p (p_istore_n (ls' := [(3, .int 0), (4, .int (nI k)), (2, .int (nI (txWe T nn w))), (0, .ref m), (1, .ref (1000 + i))]) (dk_at ktX7_isWord_0 37 rfl) rfl (by decide) rfl (b := 68) rfl) ?_
          refine rc_p (p_iinc (j := 1) (v := (nI (k + 1))) (ls' := [(4, .int (nI (k + 1))), (3, .int 0), (2, .int (nI (txWe T nn w))), (0, .ref m), (1, .ref (1000 + i))]) (dk_at ktX7_isWord_0 38 rfl) rfl (nI_add k 1) (by decide) rfl (b := 71) rfl) ?_
          refine rc_p (p_goto (b := 27) (dk_at ktX7_isWord_0 39 rfl) (by decide)) ?_
          refine rc_sub [1, 0, 2, 3, 4] (ls' := [(3, .int 0), (4, .int (nI (k + 1))), (2, .int (nI (txWe T nn w))), (0, .ref m), (1, .ref (1000 + i))]) rfl ?_
          have hbn := bA_n (txL_ne (scan_in (P := txL T) (nn - w) w (w + k) (by omega) hk2))
          exact ih (k + 1) false (by omega) (by omega) (fun q => absurd q (by decide)) (fun _ => isW_f hj (fun g => c59 (hbn.trans g)))
        · skip
          refine rc_p (p_iconst (v := 1) (dk_at ktX7_isWord_0 34 rfl) (by decide) (b := 63) rfl) ?_
          refine rc_p (p_goto (b := 67) (dk_at ktX7_isWord_0 35 rfl) (by decide)) ?_
          refine rc_p (p_istore_n (ls' := [(3, .int 1), (4, .int (nI k)), (2, .int (nI (txWe T nn w))), (0, .ref m), (1, .ref (1000 + i))]) (dk_at ktX7_isWord_0 37 rfl) rfl (by decide) rfl (b := 68) rfl) ?_
          refine rc_p (p_iinc (j := 1) (v := (nI (k + 1))) (ls' := [(4, .int (nI (k + 1))), (3, .int 1), (2, .int (nI (txWe T nn w))), (0, .ref m), (1, .ref (1000 + i))]) (dk_at ktX7_isWord_0 38 rfl) rfl (nI_add k 1) (by decide) rfl (b := 71) rfl) ?_
          refine rc_p (p_goto (b := 27) (dk_at ktX7_isWord_0 39 rfl) (by decide)) ?_
          refine rc_sub [1, 0, 2, 3, 4] (ls' := [(3, .int 1), (4, .int (nI (k + 1))), (2, .int (nI (txWe T nn w))), (0, .ref m), (1, .ref (1000 + i))]) rfl ?_
          have hbn := bA_n (txL_ne (scan_in (P := txL T) (nn - w) w (w + k) (by omega) hk2))
          exact ih (k + 1) true (by omega) (by omega) (fun _ => ⟨(h1 c28).1, fun j hj => by
            by_cases e : j = k
            · subst e; exact hbn.symm.trans c59
            · exact (h1 c28).2 j (by omega)⟩) (fun q => absurd q (by decide))
  refine rc_p (p_aload_n 0 (dk_at ktX7_isWord_0 0 rfl) rfl rfl (b := 1) rfl) ?_
  refine r_iV (As' := []) (rest := []) (s_X7_wordEnd hm hT w h12 (by omega)) cw_X7_97 qi_X7_wordEnd qv_X7_wordEnd rfl hm.l0 hm.s0 (dk_at ktX7_isWord_0 1 rfl) rfl rfl (Nat.le_of_ble_eq_true rfl) (by decide) (b := 4) rfl (fun v12 I9 J10 q11 => ?_)
  obtain ⟨rfl, rfl, rfl⟩ := q11
  refine rc_p (p_istore_n (ls' := [(2, .int (nI (txWe T nn w))), (0, .ref m), (1, .ref (1000 + i))]) (dk_at ktX7_isWord_0 2 rfl) rfl (by decide) rfl (b := 5) rfl) ?_
  refine rc_p (p_iload_n 0 (dk_at ktX7_isWord_0 3 rfl) rfl rfl (b := 6) rfl) ?_
  refine rc_p (p_aload_n 1 (dk_at ktX7_isWord_0 4 rfl) rfl rfl (b := 7) rfl) ?_
  refine r_geti fl_X7_84 rfl hm.l0 hm.s0 (dk_at ktX7_isWord_0 5 rfl) (v := (nI w)) h12 (b := 10) rfl ?_
  refine rc_p (p_isub (v := (nI (txWe T nn w - w))) (dk_at ktX7_isWord_0 6 rfl) (pk_sub (a := txWe T nn w) (b := w) (by omega)) (b := 11) rfl) ?_
  refine rc_p (p_aload_n 2 (dk_at ktX7_isWord_0 7 rfl) rfl rfl (b := 12) rfl) ?_
  refine r_iVS (As' := []) (rest := [.int (nI (txWe T nn w - w))]) (s_J0_length_8abf5 i hi) hi cw_X7_101 qi_J0_length_8abf5 qv_J0_length_8abf5 (dk_at ktX7_isWord_0 8 rfl) rfl rfl (Nat.le_of_ble_eq_true rfl) (by decide) (b := 15) rfl (fun v16 I13 J14 q15 => ?_)
  obtain ⟨rfl, rfl, rfl⟩ := q15
  refine r_icmp_ne (dk_at ktX7_isWord_0 9 rfl) (b := 22) (by decide) (b2 := 18) rfl (fun c15 => ?_) (fun c15 => ?_)
  · have c15 : ¬ (txWe T nn w - w) = (bLen.getD i 0) := fun h => c15 ((nI_eq (a := txWe T nn w - w) (b := bLen.getD i 0) (by omega) (by omega)).mpr h)
    refine rc_p (p_iconst (v := 0) (dk_at ktX7_isWord_0 12 rfl) (by decide) (b := 23) rfl) ?_
    refine rc_p (p_istore_n (ls' := [(3, .int 0), (2, .int (nI (txWe T nn w))), (0, .ref m), (1, .ref (1000 + i))]) (dk_at ktX7_isWord_0 13 rfl) rfl (by decide) rfl (b := 24) rfl) ?_
    refine rc_p (p_iconst (v := 0) (dk_at ktX7_isWord_0 14 rfl) (by decide) (b := 25) rfl) ?_
    refine rc_p (p_istore (ls' := [(4, .int 0), (3, .int 0), (2, .int (nI (txWe T nn w))), (0, .ref m), (1, .ref (1000 + i))]) (dk_at ktX7_isWord_0 15 rfl) (by decide) rfl (b := 27) rfl) ?_
    refine rc_sub [1, 0, 2, 3, 4] (ls' := [(3, .int 0), (4, .int 0), (2, .int (nI (txWe T nn w))), (0, .ref m), (1, .ref (1000 + i))]) rfl ?_
    exact cut27 2000 0 false (by omega) (by omega) (fun q => absurd q (by decide)) (fun _ => isW_l c15)
  · have c15 : (txWe T nn w - w) = (bLen.getD i 0) := (nI_eq (a := txWe T nn w - w) (b := bLen.getD i 0) (by omega) (by omega)).mp c15
    refine rc_p (p_iconst (v := 1) (dk_at ktX7_isWord_0 10 rfl) (by decide) (b := 19) rfl) ?_
    refine rc_p (p_goto (b := 23) (dk_at ktX7_isWord_0 11 rfl) (by decide)) ?_
    refine rc_p (p_istore_n (ls' := [(3, .int 1), (2, .int (nI (txWe T nn w))), (0, .ref m), (1, .ref (1000 + i))]) (dk_at ktX7_isWord_0 13 rfl) rfl (by decide) rfl (b := 24) rfl) ?_
    refine rc_p (p_iconst (v := 0) (dk_at ktX7_isWord_0 14 rfl) (by decide) (b := 25) rfl) ?_
    refine rc_p (p_istore (ls' := [(4, .int 0), (3, .int 1), (2, .int (nI (txWe T nn w))), (0, .ref m), (1, .ref (1000 + i))]) (dk_at ktX7_isWord_0 15 rfl) (by decide) rfl (b := 27) rfl) ?_
    refine rc_sub [1, 0, 2, 3, 4] (ls' := [(3, .int 1), (4, .int 0), (2, .int (nI (txWe T nn w))), (0, .ref m), (1, .ref (1000 + i))]) rfl ?_
    exact cut27 2000 0 true (by omega) (by omega) (fun _ => ⟨c15, fun j hj => absurd hj (by omega)⟩) (fun q => absurd q (by decide))
set_option maxRecDepth 4000 in
set_option maxHeartbeats 4000000 in
theorem s_X7_passes {n : Nat} {sh : mS} {G : mG} {I : mI} {J : mJ} {m : Nat} {T : tT} {nn : Nat} (hm : ModG n sh G m) (hT : TR m I T nn) (w : Nat) (h12 : I m 12 = nI w) (hwn : w ≤ nn)  : Sp yX7_passes cX7_passes 1 (some FieldType.boolean) 4 192 0 0 [.ref m] n sh G I J (Qi (fun r_ I_ J_ => 1 = r_ ∧ J = J_ ∧ FF m [] [11] I I_ ∧ I_ m 11 = nI (txWe T nn w))) nX := by
  refine Sp.of (by decide) (ls := [(0, .ref m)]) (fun _ => rfl) (fun _ => Nat.le_of_ble_eq_true rfl) ?_
  refine rc_p (p_aload_n 0 (dk_at ktX7_passes_0 0 rfl) rfl rfl (b := 1) rfl) ?_
  refine rc_p (p_aload_n 0 (dk_at ktX7_passes_0 1 rfl) rfl rfl (b := 2) rfl) ?_
  refine r_iV (As' := []) (rest := [.ref m]) (s_X7_wordEnd hm hT w h12 (by omega)) cw_X7_97 qi_X7_wordEnd qv_X7_wordEnd rfl hm.l0 hm.s0 (dk_at ktX7_passes_0 2 rfl) rfl rfl (Nat.le_of_ble_eq_true rfl) (by decide) (b := 5) rfl (fun v4 I1 J2 q3 => ?_)
  obtain ⟨rfl, rfl, rfl⟩ := q3
  refine r_puti fl_X7_81 fw_X7_11 rfl hm.l0 hm.s0 rfl rfl (dk_at ktX7_passes_0 3 rfl) (b := 8) rfl ?_
  refine rc_p (p_iconst (v := 1) (dk_at ktX7_passes_0 4 rfl) (by decide) (b := 9) rfl) ?_
  refine r_iret (dk_at ktX7_passes_0 5 rfl) rfl rfl ⟨_, rfl, ?_⟩
  exact ⟨rfl, rfl, (FF.rf.uf (by simp)), up2_s⟩
set_option maxRecDepth 4000 in
theorem s_J9_min_f86c9 {n : Nat} {sh : mS} {G : mG} {I : mI} {J : mJ} (a b : Nat) (ha : a < 2 ^ 31) (hb : b < 2 ^ 31) : Sp yJ9_min_f86c9 cJ9_min_f86c9 4 (some FieldType.long) 1 48 0 0 [.long (Int32.toInt64 (nI a)), .long (Int32.toInt64 (nI b))] n sh G I J (Ql (fun r I' J' => Int32.toInt64 (nI (min a b)) = r ∧ I = I' ∧ J = J')) nX := by
  refine Sp.ofP (by decide +kernel) (ls := [(0, .long (Int32.toInt64 (nI a))), (2, .long (Int32.toInt64 (nI b)))]) (fun _ => rfl) (fun _ => Nat.le_of_ble_eq_true rfl) ?_
  refine rc_p (p_lload_n 0 (dk_at ktJ9_min_f86c9_0 0 rfl) rfl rfl (b := 1) rfl) ?_
  refine rc_p (p_lload_n 1 (dk_at ktJ9_min_f86c9_0 1 rfl) rfl rfl (b := 2) rfl) ?_
  refine rc_p (p_lcmp (dk_at ktJ9_min_f86c9_0 2 rfl) (b := 3) rfl) ?_
  refine r_if_gt (dk_at ktJ9_min_f86c9_0 3 rfl) (b := 10) (by decide) (b2 := 6) rfl (fun c3 => ?_) (fun c3 => ?_)
  · have c4 := (lg_cmp_gt _ _).mp c3
    refine rc_p (p_lload_n 1 (dk_at ktJ9_min_f86c9_0 6 rfl) rfl rfl (b := 11) rfl) ?_
    refine r_lret (dk_at ktJ9_min_f86c9_0 7 rfl) rfl ⟨_, rfl, ?_, rfl, rfl⟩
    have : ¬ a ≤ b := fun q => absurd ((lg_min ha hb).mpr q) (Int64.not_le.mpr c4)
    rw [show min a b = b by omega]
  · have c4 : ¬ _ := fun h => c3 ((lg_cmp_gt _ _).mpr h)
    refine rc_p (p_lload_n 0 (dk_at ktJ9_min_f86c9_0 4 rfl) rfl rfl (b := 7) rfl) ?_
    refine rc_p (p_goto (b := 11) (dk_at ktJ9_min_f86c9_0 5 rfl) (by decide)) ?_
    refine r_lret (dk_at ktJ9_min_f86c9_0 7 rfl) rfl ⟨_, rfl, ?_, rfl, rfl⟩
    have : a ≤ b := (lg_min ha hb).mp (Int64.not_lt.mp c4)
    rw [show min a b = a by omega]
set_option maxRecDepth 4000 in
set_option maxHeartbeats 4000000 in
theorem s_X7_reads {n : Nat} {sh : mS} {G : mG} {I : mI} {J : mJ} {m : Nat} {T : tT} {nn : Nat} (hm : ModG n sh G m) (hT : TR m I T nn) (h14 : I m 14 = 0) (p : Nat) (hp : I m 11 = nI p) (hpn : p ≤ nn) (lo hi : Nat) (hlo : lo < 1000000) (hhi : hi < 1000000) : Sp yX7_reads cX7_reads 5 (some FieldType.boolean) 4 192 0 0 [.ref m, .int (nI lo), .int (nI hi)] n sh G I J (Qi (fun r_ I_ J_ => bi (decide (txK T nn (txSk T nn p) lo hi = 0)) = r_ ∧ J = J_ ∧ FF m [] [11, 12, 13, 14, 16] I I_ ∧ I_ m 12 = nI (txSk T nn p) ∧ (txK T nn (txSk T nn p) lo hi = 0 → I_ m 14 = 0 ∧ I_ m 11 = nI (txDe T nn (txSk T nn p)) ∧ I_ m 16 = nI (txVa T nn (txSk T nn p))) ∧ (¬ txK T nn (txSk T nn p) lo hi = 0 → I_ m 14 = nI (txK T nn (txSk T nn p) lo hi) ∧ I_ m 13 = nI (txSk T nn p)))) nX := by
  refine Sp.of (by decide) (ls := [(0, .ref m), (1, .int (nI lo)), (2, .int (nI hi))]) (fun _ => rfl) (fun _ => Nat.le_of_ble_eq_true rfl) ?_
  have hn := hT.1.1
  have hsk := txSk_le (T := T) hpn
  have cut24 : ∀ (t q v : Nat) (Iz : mI), FF m [] [11, 12] I Iz → Iz m 11 = nI q → Iz m 12 = nI (txSk T nn p) → Iz m 14 = 0 → txD T (txSk T nn p) = true → q ≤ nn → nn - q < t → v ≤ 100000000 → vaF 100000000 T (nn - txSk T nn p) (txSk T nn p) 0 = vaF 100000000 T (nn - q) q v → txDe T nn (txSk T nn p) = scanF (txD T) (nn - q) q → Rc RX7 cX7_reads 5 (some FieldType.boolean) 4 192 0 0 n sh G (Qi (fun r_ I_ J_ => bi (decide (txK T nn (txSk T nn p) lo hi = 0)) = r_ ∧ J = J_ ∧ FF m [] [11, 12, 13, 14, 16] I I_ ∧ I_ m 12 = nI (txSk T nn p) ∧ (txK T nn (txSk T nn p) lo hi = 0 → I_ m 14 = 0 ∧ I_ m 11 = nI (txDe T nn (txSk T nn p)) ∧ I_ m 16 = nI (txVa T nn (txSk T nn p))) ∧ (¬ txK T nn (txSk T nn p) lo hi = 0 → I_ m 14 = nI (txK T nn (txSk T nn p) lo hi) ∧ I_ m 13 = nI (txSk T nn p)))) nX 0 0 24 [(3, .long (Int32.toInt64 (nI v))), (0, .ref m), (1, .int (nI lo)), (2, .int (nI hi))] [] Iz J := by
    intro t
    induction t
    · intro q v Iz _ _ _ _ _ _ h; omega
    rename_i t ih
    intro q v Iz hFz hq h12 h14 hd hqn ht hv hv8 hde
    refine rc_p (p_aload_n 1 (dk_at ktX7_reads_0 14 rfl) rfl rfl (b := 25) rfl) ?_
    refine rc_p (p_aload_n 1 (dk_at ktX7_reads_0 15 rfl) rfl rfl (b := 26) rfl) ?_
    refine r_geti fl_X7_81 rfl hm.l0 hm.s0 (dk_at ktX7_reads_0 16 rfl) (v := (nI q)) hq (b := 29) rfl ?_
    refine r_iV (As' := [.int (nI q)]) (rest := []) (s_X7_isDigit hm (hT.fr (show FP m I Iz from (hFz.mo (by simp) (by simp)))) q (by omega)) cw_X7_112 qi_X7_isDigit qv_X7_isDigit rfl hm.l0 hm.s0 (dk_at ktX7_reads_0 17 rfl) rfl rfl (Nat.le_of_ble_eq_true rfl) (by decide) (b := 32) rfl (fun v4 I1 J2 q3 => ?_)
    obtain ⟨rfl, rfl, rfl⟩ := q3
    refine r_if_eq (dk_at ktX7_reads_0 18 rfl) (b := 74) (by decide) (b2 := 35) rfl (fun c32 => ?_) (fun c32 => ?_)
    · have c32 := bi_f c32
      refine rc_p (p_lload_n 0 (dk_at ktX7_reads_0 40 rfl) rfl rfl (b := 75) rfl) ?_
      refine rc_p (p_iload_n 2 (dk_at ktX7_reads_0 41 rfl) rfl rfl (b := 76) rfl) ?_
      refine rc_p (p_i2l (v := (Int32.toInt64 (nI lo))) (dk_at ktX7_reads_0 42 rfl) rfl (b := 77) rfl) ?_
      refine rc_p (p_iload_n 3 (dk_at ktX7_reads_0 43 rfl) rfl rfl (b := 78) rfl) ?_
      refine rc_p (p_i2l (v := (Int32.toInt64 (nI hi))) (dk_at ktX7_reads_0 44 rfl) rfl (b := 79) rfl) ?_
      refine r_iS (As := [.long (Int32.toInt64 (nI v)), .long (Int32.toInt64 (nI lo)), .long (Int32.toInt64 (nI hi))]) (rest := []) (s_X7_in (Int32.toInt64 (nI v)) (Int32.toInt64 (nI lo)) (Int32.toInt64 (nI hi))) cw_X7_73 qs_X7_in (dk_at ktX7_reads_0 45 rfl) rfl rfl (Nat.le_of_ble_eq_true rfl) (by decide) (b := 82) rfl (fun v8 I5 J6 q7 => ?_)
      obtain ⟨rfl, rfl, rfl⟩ := q7
      refine r_val (y := bi (inI (nI v) (nI lo) (nI hi))) (congrArg bi (inJ_I (nI v) (nI lo) (nI hi))) ?_
      refine r_if_ne (dk_at ktX7_reads_0 46 rfl) (b := 91) (by decide) (b2 := 85) rfl (fun c82 => ?_) (fun c82 => ?_)
      · have c82 := bi_t c82
        refine rc_p (p_aload_n 1 (dk_at ktX7_reads_0 51 rfl) rfl rfl (b := 92) rfl) ?_
        refine rc_p (p_lload_n 0 (dk_at ktX7_reads_0 52 rfl) rfl rfl (b := 93) rfl) ?_
        refine rc_p (p_l2i (v := (nI v)) (dk_at ktX7_reads_0 53 rfl) (Int32.toInt32_toInt64 _) (b := 94) rfl) ?_
        refine r_puti fl_X7_128 fw_X7_16 rfl hm.l0 hm.s0 rfl rfl (dk_at ktX7_reads_0 54 rfl) (b := 97) rfl ?_
        refine rc_p (p_iconst (v := 1) (dk_at ktX7_reads_0 55 rfl) (by decide) (b := 98) rfl) ?_
        refine r_iret (dk_at ktX7_reads_0 56 rfl) rfl rfl ⟨_, rfl, ?_⟩
        have hva : txVa T nn (txSk T nn p) = min 1000000 v := by rw [txVa_8, hv8, vaF_n c32]
        have c83 := (inI_m (by omega) (by omega) (by omega)).symm.trans c82
        have c84 := of_decide_eq_true c83
        have hvv : txVa T nn (txSk T nn p) = v := by omega
        have hk := txK_0 (n := nn) (lo := lo) (hi := hi) hd (by omega)
        rw [hk]
        exact ⟨rfl, rfl, ((hFz.mo (by simp) (by simp)).uf (by simp)), ((up2_n (by omega)).trans h12), fun _ => ⟨((up2_n (by omega)).trans h14), ((up2_n (by omega)).trans hq).trans (congrArg nI (hde.trans (scan_n c32)).symm), by rw [hvv]; exact up2_s⟩, fun g => absurd rfl g⟩
      · have c82 := bi_f c82
        refine rc_p (p_aload_n 1 (dk_at ktX7_reads_0 47 rfl) rfl rfl (b := 86) rfl) ?_
        refine rc_p (p_iconst (v := 2) (dk_at ktX7_reads_0 48 rfl) (by decide) (b := 87) rfl) ?_
        refine r_iV (As' := [.int 2]) (rest := []) (s_X7_fails hm (hT.fr (show FP m I Iz from (hFz.mo (by simp) (by simp)))) h14 (txSk T nn p) h12 2) cw_X7_115 qi_X7_fails qv_X7_fails rfl hm.l0 hm.s0 (dk_at ktX7_reads_0 49 rfl) rfl rfl (Nat.le_of_ble_eq_true rfl) (by decide) (b := 90) rfl (fun v12 I9 J10 q11 => ?_)
        obtain ⟨rfl, rfl, hF13, hh14, hh15⟩ := q11
        refine r_iret (dk_at ktX7_reads_0 50 rfl) rfl rfl ⟨_, rfl, ?_⟩
        have hva : txVa T nn (txSk T nn p) = min 1000000 v := by rw [txVa_8, hv8, vaF_n c32]
        have c83 := (inI_m (by omega) (by omega) (by omega)).symm.trans c82
        have hk := txK_2 (n := nn) (lo := lo) (hi := hi) hd (by have := of_decide_eq_false c83; omega)
        rw [hk]
        exact ⟨rfl, rfl, ((hFz.mo (by simp) (by simp)).tr (hF13.mo (by simp) (by simp))), (((hF13.2 12 (by decide))).trans h12), fun g => absurd g (by decide), fun _ => ⟨hh14, hh15⟩⟩
    · have c32 := bi_t c32
      have hd2 := txD_ne c32
      have hl := txD_lt hT.1 c32
      refine rc_p (p_ldc2 (v := 100000000) ql_TwinBootModel_118 (dk_at ktX7_reads_0 19 rfl) (b := 38) rfl) ?_
      refine rc_p (p_ldc2 (v := 10) ql_TwinBootModel_120 (dk_at ktX7_reads_0 20 rfl) (b := 41) rfl) ?_
      refine rc_p (p_lload_n 0 (dk_at ktX7_reads_0 21 rfl) rfl rfl (b := 42) rfl) ?_
      refine rc_p (p_lmul (v := (10 * (Int32.toInt64 (nI v)))) (dk_at ktX7_reads_0 22 rfl) rfl (b := 43) rfl) ?_
      refine rc_p (p_aload_n 1 (dk_at ktX7_reads_0 23 rfl) rfl rfl (b := 44) rfl) ?_
      refine rc_p (p_aload_n 1 (dk_at ktX7_reads_0 24 rfl) rfl rfl (b := 45) rfl) ?_
      refine r_geti fl_X7_81 rfl hm.l0 hm.s0 (dk_at ktX7_reads_0 25 rfl) (v := (nI q)) hq (b := 48) rfl ?_
      refine r_iV (As' := [.int (nI q)]) (rest := [.long (10 * (Int32.toInt64 (nI v))), .long 100000000]) (s_X7_byteAt hm (hT.fr (show FP m I Iz from (hFz.mo (by simp) (by simp)))) q (by omega)) cw_X7_65 qi_X7_byteAt qv_X7_byteAt rfl hm.l0 hm.s0 (dk_at ktX7_reads_0 26 rfl) rfl rfl (Nat.le_of_ble_eq_true rfl) (by decide) (b := 51) rfl (fun v19 I16 J17 q18 => ?_)
      obtain ⟨rfl, rfl, rfl⟩ := q18
      refine rc_p (p_i2l (v := (Int32.toInt64 (nI (T q)))) (dk_at ktX7_reads_0 27 rfl) (congrArg Int32.toInt64 (bA_n (by omega))) (b := 52) rfl) ?_
      refine rc_p (p_ladd (v := ((10 * (Int32.toInt64 (nI v))) + (Int32.toInt64 (nI (T q))))) (dk_at ktX7_reads_0 28 rfl) rfl (b := 53) rfl) ?_
      refine rc_p (p_ldc2 (v := 48) ql_TwinBootModel_77 (dk_at ktX7_reads_0 29 rfl) (b := 56) rfl) ?_
      refine rc_p (p_lsub (v := (Int32.toInt64 (nI (10 * v + (T q - 48))))) (dk_at ktX7_reads_0 30 rfl) (lg_dig (by omega) hd2.1 hd2.2) (b := 57) rfl) ?_
      refine r_lS (As := [.long (Int32.toInt64 (nI 100000000)), .long (Int32.toInt64 (nI (10 * v + (T q - 48))))]) (rest := []) (s_J9_min_f86c9 100000000 (10 * v + (T q - 48)) (by decide) (by omega)) cw_X7_122 qs_J9_min_f86c9 (dk_at ktX7_reads_0 31 rfl) rfl rfl (Nat.le_of_ble_eq_true rfl) (by decide) (b := 60) rfl (fun v20 I21 J22 q23 => ?_)
      obtain ⟨rfl, rfl, rfl⟩ := q23
      refine rc_p (p_lstore_n (ls' := [(3, .long (Int32.toInt64 (nI (min 100000000 (10 * v + (T q - 48)))))), (0, .ref m), (1, .int (nI lo)), (2, .int (nI hi))]) (dk_at ktX7_reads_0 32 rfl) rfl (by decide) rfl (b := 61) rfl) ?_
      refine rc_p (p_aload_n 1 (dk_at ktX7_reads_0 33 rfl) rfl rfl (b := 62) rfl) ?_
      refine rc_p (p_dup (dk_at ktX7_reads_0 34 rfl) rfl (b := 63) rfl) ?_
      refine r_geti fl_X7_81 rfl hm.l0 hm.s0 (dk_at ktX7_reads_0 35 rfl) (v := (nI q)) hq (b := 66) rfl ?_
      refine rc_p (p_iconst (v := 1) (dk_at ktX7_reads_0 36 rfl) (by decide) (b := 67) rfl) ?_
      refine rc_p (p_iadd (v := (nI (q + 1))) (dk_at ktX7_reads_0 37 rfl) (nI_add q 1) (b := 68) rfl) ?_
      refine r_puti fl_X7_81 fw_X7_11 rfl hm.l0 hm.s0 rfl rfl (dk_at ktX7_reads_0 38 rfl) (b := 71) rfl ?_
      refine rc_p (p_goto (b := 24) (dk_at ktX7_reads_0 39 rfl) (by decide)) ?_
      exact ih (q + 1) _ _ ((hFz.mo (by simp) (by simp)).uf (by simp)) up2_s ((up2_n (by omega)).trans h12) ((up2_n (by omega)).trans h14) hd (by omega) (by omega) (Nat.min_le_left _ _) (hv8.trans (vaF_y hl c32)) (hde.trans (scan_y hl c32))
  refine rc_p (p_aload_n 0 (dk_at ktX7_reads_0 0 rfl) rfl rfl (b := 1) rfl) ?_
  refine r_iV (As' := []) (rest := []) (s_X7_see hm hT p hp (by omega)) cw_X7_109 qi_X7_see qv_X7_see rfl hm.l0 hm.s0 (dk_at ktX7_reads_0 1 rfl) rfl rfl (Nat.le_of_ble_eq_true rfl) (by decide) (b := 4) rfl (fun v27 I24 J25 q26 => ?_)
  obtain ⟨rfl, rfl, hF28, hh29, hh30⟩ := q26
  refine rc_p (p_pop (dk_at ktX7_reads_0 2 rfl) rfl (b := 5) rfl) ?_
  refine rc_p (p_aload_n 0 (dk_at ktX7_reads_0 3 rfl) rfl rfl (b := 6) rfl) ?_
  refine rc_p (p_aload_n 0 (dk_at ktX7_reads_0 4 rfl) rfl rfl (b := 7) rfl) ?_
  refine r_geti fl_X7_81 rfl hm.l0 hm.s0 (dk_at ktX7_reads_0 5 rfl) (v := (nI (txSk T nn p))) hh29 (b := 10) rfl ?_
  refine r_iV (As' := [.int (nI (txSk T nn p))]) (rest := []) (s_X7_isDigit hm (hT.fr (show FP m I I24 from (FF.rf.tr (hF28.mo (by simp) (by simp))))) (txSk T nn p) (by omega)) cw_X7_112 qi_X7_isDigit qv_X7_isDigit rfl hm.l0 hm.s0 (dk_at ktX7_reads_0 6 rfl) rfl rfl (Nat.le_of_ble_eq_true rfl) (by decide) (b := 13) rfl (fun v34 I31 J32 q33 => ?_)
  obtain ⟨rfl, rfl, rfl⟩ := q33
  refine r_if_ne (dk_at ktX7_reads_0 7 rfl) (b := 22) (by decide) (b2 := 16) rfl (fun c13 => ?_) (fun c13 => ?_)
  · have c13 := bi_t c13
    refine rc_p (p_lconst (v := 0) (dk_at ktX7_reads_0 12 rfl) (by decide) (b := 23) rfl) ?_
    refine rc_p (p_lstore_n (ls' := [(3, .long 0), (0, .ref m), (1, .int (nI lo)), (2, .int (nI hi))]) (dk_at ktX7_reads_0 13 rfl) rfl (by decide) rfl (b := 24) rfl) ?_
    exact cut24 1000 (txSk T nn p) 0 I24 (FF.rf.tr (hF28.mo (by simp) (by simp))) hh29 hh30 (((hF28.2 14 (by decide))).trans h14) c13 (by omega) (by omega) (by omega) rfl rfl
  · have c13 := bi_f c13
    refine rc_p (p_aload_n 0 (dk_at ktX7_reads_0 8 rfl) rfl rfl (b := 17) rfl) ?_
    refine rc_p (p_iconst (v := 1) (dk_at ktX7_reads_0 9 rfl) (by decide) (b := 18) rfl) ?_
    refine r_iV (As' := [.int 1]) (rest := []) (s_X7_fails hm (hT.fr (show FP m I I24 from (FF.rf.tr (hF28.mo (by simp) (by simp))))) (((hF28.2 14 (by decide))).trans h14) (txSk T nn p) hh30 1) cw_X7_115 qi_X7_fails qv_X7_fails rfl hm.l0 hm.s0 (dk_at ktX7_reads_0 10 rfl) rfl rfl (Nat.le_of_ble_eq_true rfl) (by decide) (b := 21) rfl (fun v38 I35 J36 q37 => ?_)
    obtain ⟨rfl, rfl, hF39, hh40, hh41⟩ := q37
    refine r_iret (dk_at ktX7_reads_0 11 rfl) rfl rfl ⟨_, rfl, ?_⟩
    have hk := txK_1 (n := nn) (lo := lo) (hi := hi) c13
    rw [hk]
    exact ⟨rfl, rfl, ((FF.rf.tr (hF28.mo (by simp) (by simp))).tr (hF39.mo (by simp) (by simp))), (((hF39.2 12 (by decide))).trans hh30), fun g => absurd g (by decide), fun _ => ⟨hh40, hh41⟩⟩

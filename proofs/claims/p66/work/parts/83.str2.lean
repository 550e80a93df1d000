/-! the JDK's code of a String's length and letters -/
set_option maxRecDepth 4000 in
set_option maxHeartbeats 4000000 in
theorem s_J0_coder_7d493 {n : Nat} {sh : mS} {G : mG} {I : mI} {J : mJ} (i : Nat) (hi : i < 6)  : Sp yJ0_coder_7d493 cJ0_coder_7d493 1 (some FieldType.byte) 1 48 0 0 [.ref (1000 + i)] n sh G I J (Qi (fun r I' J' => 0 = r ∧ I = I' ∧ J = J')) nX := by
  refine Sp.of (by decide) (ls := [(0, .ref (1000 + i))]) (fun _ => rfl) (fun _ => Nat.le_of_ble_eq_true rfl) ?_
  refine r_gcmp (dk_at ktJ0_coder_7d493_0 0 rfl) (b := 3) rfl ?_
  refine r_if_eq (dk_at ktJ0_coder_7d493_0 1 rfl) (b := 13) (by decide) (b2 := 6) rfl (fun c3 => ?_) (fun c3 => ?_)
  · first | exact absurd c3 (by decide) | exact absurd (by decide) c3
  · skip
    refine rc_p (p_aload_n 0 (dk_at ktJ0_coder_7d493_0 2 rfl) rfl rfl (b := 7) rfl) ?_
    refine r_scod hi (dk_at ktJ0_coder_7d493_0 3 rfl) (b := 10) rfl ?_
    refine rc_p (p_goto (b := 14) (dk_at ktJ0_coder_7d493_0 4 rfl) (by decide)) ?_
    refine r_iret (dk_at ktJ0_coder_7d493_0 6 rfl) rfl rfl ⟨_, rfl, ?_⟩
    exact ⟨rfl, rfl, rfl⟩
set_option maxRecDepth 4000 in
set_option maxHeartbeats 4000000 in
theorem s_J0_length_8abf5 {n : Nat} {sh : mS} {G : mG} {I : mI} {J : mJ} (i : Nat) (hi : i < 6)  : Sp yJ0_length_8abf5 cJ0_length_8abf5 1 (some FieldType.int) 2 96 0 0 [.ref (1000 + i)] n sh G I J (Qi (fun r I' J' => nI (bLen.getD i 0) = r ∧ I = I' ∧ J = J')) nX := by
  refine Sp.of (by decide) (ls := [(0, .ref (1000 + i))]) (fun _ => rfl) (fun _ => Nat.le_of_ble_eq_true rfl) ?_
  refine rc_p (p_aload_n 0 (dk_at ktJ0_length_8abf5_0 0 rfl) rfl rfl (b := 1) rfl) ?_
  refine r_sval hi (dk_at ktJ0_length_8abf5_0 1 rfl) (b := 4) rfl ?_
  refine r_slen hi (dk_at ktJ0_length_8abf5_0 2 rfl) (b := 5) rfl ?_
  refine rc_p (p_aload_n 0 (dk_at ktJ0_length_8abf5_0 3 rfl) rfl rfl (b := 6) rfl) ?_
  refine r_iVS (As' := []) (rest := [.int (nI (bLen.getD i 0))]) (s_J0_coder_7d493 i hi) hi cw_J0_335 qi_J0_coder_7d493 qv_J0_coder_7d493 (dk_at ktJ0_length_8abf5_0 4 rfl) rfl rfl (Nat.le_of_ble_eq_true rfl) (by decide) (b := 9) rfl (fun v4 I1 J2 q3 => ?_)
  obtain ⟨rfl, rfl, rfl⟩ := q3
  refine rc_p (p_ishr (v := (nI (bLen.getD i 0))) (dk_at ktJ0_length_8abf5_0 5 rfl) sh_0 (b := 10) rfl) ?_
  refine r_iret (dk_at ktJ0_length_8abf5_0 6 rfl) rfl rfl ⟨_, rfl, ?_⟩
  exact ⟨rfl, rfl, rfl⟩
set_option maxRecDepth 4000 in
set_option maxHeartbeats 4000000 in
theorem s_J0_isLatin1_aae02 {n : Nat} {sh : mS} {G : mG} {I : mI} {J : mJ} (i : Nat) (hi : i < 6)  : Sp yJ0_isLatin1_aae02 cJ0_isLatin1_aae02 1 (some FieldType.boolean) 1 48 0 0 [.ref (1000 + i)] n sh G I J (Qi (fun r I' J' => 1 = r ∧ I = I' ∧ J = J')) nX := by
  refine Sp.of (by decide) (ls := [(0, .ref (1000 + i))]) (fun _ => rfl) (fun _ => Nat.le_of_ble_eq_true rfl) ?_
  refine r_gcmp (dk_at ktJ0_isLatin1_aae02_0 0 rfl) (b := 3) rfl ?_
  refine r_if_eq (dk_at ktJ0_isLatin1_aae02_0 1 rfl) (b := 17) (by decide) (b2 := 6) rfl (fun c3 => ?_) (fun c3 => ?_)
  · first | exact absurd c3 (by decide) | exact absurd (by decide) c3
  · skip
    refine rc_p (p_aload_n 0 (dk_at ktJ0_isLatin1_aae02_0 2 rfl) rfl rfl (b := 7) rfl) ?_
    refine r_scod hi (dk_at ktJ0_isLatin1_aae02_0 3 rfl) (b := 10) rfl ?_
    refine r_if_ne (dk_at ktJ0_isLatin1_aae02_0 4 rfl) (b := 17) (by decide) (b2 := 13) rfl (fun c10 => ?_) (fun c10 => ?_)
    · first | exact absurd c10 (by decide) | exact absurd (by decide) c10
    · skip
      refine rc_p (p_iconst (v := 1) (dk_at ktJ0_isLatin1_aae02_0 5 rfl) (by decide) (b := 14) rfl) ?_
      refine rc_p (p_goto (b := 18) (dk_at ktJ0_isLatin1_aae02_0 6 rfl) (by decide)) ?_
      refine r_iret (dk_at ktJ0_isLatin1_aae02_0 8 rfl) rfl rfl ⟨_, rfl, ?_⟩
      exact ⟨rfl, rfl, rfl⟩
set_option maxRecDepth 4000 in
set_option maxHeartbeats 4000000 in
theorem s_J3_checkIndex_n {n : Nat} {sh : mS} {G : mG} {I : mI} {J : mJ} (k t : Nat) (h1 : k < t) (h2 : t < 1000000)  : Sp yJ3_checkIndex_8e157 cJ3_checkIndex_8e157 3 (some FieldType.int) 1 48 0 0 [.int (nI k), .int (nI t), .null] n sh G I J (Qi (fun r I' J' => nI k = r ∧ I = I' ∧ J = J')) nX := by
  refine Sp.of (by decide) (ls := [(0, .int (nI k)), (1, .int (nI t)), (2, .null)]) (fun _ => rfl) (fun _ => Nat.le_of_ble_eq_true rfl) ?_
  refine rc_p (p_iload_n 0 (dk_at ktJ3_checkIndex_8e157_0 0 rfl) rfl rfl (b := 1) rfl) ?_
  refine r_if_lt (dk_at ktJ3_checkIndex_8e157_0 1 rfl) (b := 9) (by decide) (b2 := 4) rfl (fun c1 => ?_) (fun c1 => ?_)
  · have c1 : k < 0 := (nI_ltI (a := k) (b := 0) (by omega) (by omega)).mp c1
    omega
  · have c1 : ¬ k < 0 := fun h => c1 ((nI_ltI (a := k) (b := 0) (by omega) (by omega)).mpr h)
    refine rc_p (p_iload_n 0 (dk_at ktJ3_checkIndex_8e157_0 2 rfl) rfl rfl (b := 5) rfl) ?_
    refine rc_p (p_iload_n 1 (dk_at ktJ3_checkIndex_8e157_0 3 rfl) rfl rfl (b := 6) rfl) ?_
    refine r_icmp_lt (dk_at ktJ3_checkIndex_8e157_0 4 rfl) (b := 16) (by decide) (b2 := 9) rfl (fun c6 => ?_) (fun c6 => ?_)
    · have c6 : k < t := (nI_ltI (a := k) (b := t) (by omega) (by omega)).mp c6
      refine rc_p (p_iload_n 0 (dk_at ktJ3_checkIndex_8e157_0 10 rfl) rfl rfl (b := 17) rfl) ?_
      refine r_iret (dk_at ktJ3_checkIndex_8e157_0 11 rfl) rfl rfl ⟨_, rfl, ?_⟩
      exact ⟨rfl, rfl, rfl⟩
    · have c6 : ¬ k < t := fun h => c6 ((nI_ltI (a := k) (b := t) (by omega) (by omega)).mpr h)
      omega
set_option maxRecDepth 4000 in
set_option maxHeartbeats 4000000 in
theorem s_J3_checkIndex_r {n : Nat} {sh : mS} {G : mG} {I : mI} {J : mJ} (k t : Nat) (h1 : k < t) (h2 : t < 1000000)  : Sp yJ3_checkIndex_8e157 cJ3_checkIndex_8e157 3 (some FieldType.int) 1 48 0 0 [.int (nI k), .int (nI t), .ref 1200] n sh G I J (Qi (fun r I' J' => nI k = r ∧ I = I' ∧ J = J')) nX := by
  refine Sp.of (by decide) (ls := [(0, .int (nI k)), (1, .int (nI t)), (2, .ref 1200)]) (fun _ => rfl) (fun _ => Nat.le_of_ble_eq_true rfl) ?_
  refine rc_p (p_iload_n 0 (dk_at ktJ3_checkIndex_8e157_0 0 rfl) rfl rfl (b := 1) rfl) ?_
  refine r_if_lt (dk_at ktJ3_checkIndex_8e157_0 1 rfl) (b := 9) (by decide) (b2 := 4) rfl (fun c1 => ?_) (fun c1 => ?_)
  · have c1 : k < 0 := (nI_ltI (a := k) (b := 0) (by omega) (by omega)).mp c1
    omega
  · have c1 : ¬ k < 0 := fun h => c1 ((nI_ltI (a := k) (b := 0) (by omega) (by omega)).mpr h)
    refine rc_p (p_iload_n 0 (dk_at ktJ3_checkIndex_8e157_0 2 rfl) rfl rfl (b := 5) rfl) ?_
    refine rc_p (p_iload_n 1 (dk_at ktJ3_checkIndex_8e157_0 3 rfl) rfl rfl (b := 6) rfl) ?_
    refine r_icmp_lt (dk_at ktJ3_checkIndex_8e157_0 4 rfl) (b := 16) (by decide) (b2 := 9) rfl (fun c6 => ?_) (fun c6 => ?_)
    · have c6 : k < t := (nI_ltI (a := k) (b := t) (by omega) (by omega)).mp c6
      refine rc_p (p_iload_n 0 (dk_at ktJ3_checkIndex_8e157_0 10 rfl) rfl rfl (b := 17) rfl) ?_
      refine r_iret (dk_at ktJ3_checkIndex_8e157_0 11 rfl) rfl rfl ⟨_, rfl, ?_⟩
      exact ⟨rfl, rfl, rfl⟩
    · have c6 : ¬ k < t := fun h => c6 ((nI_ltI (a := k) (b := t) (by omega) (by omega)).mpr h)
      omega
set_option maxRecDepth 4000 in
set_option maxHeartbeats 4000000 in
theorem s_J0_checkIndex_df160 {n : Nat} {sh : mS} {G : mG} {I : mI} {J : mJ} (k t : Nat) (h1 : k < t) (h2 : t < 1000000)  : Sp yJ0_checkIndex_df160 cJ0_checkIndex_df160 2 none 2 96 0 0 [.int (nI k), .int (nI t)] n sh G I J (Qv (fun I' J' => I = I' ∧ J = J')) nX := by
  refine Sp.of (by decide) (ls := [(0, .int (nI k)), (1, .int (nI t))]) (fun _ => rfl) (fun _ => Nat.le_of_ble_eq_true rfl) ?_
  refine rc_p (p_iload_n 0 (dk_at ktJ0_checkIndex_df160_0 0 rfl) rfl rfl (b := 1) rfl) ?_
  refine rc_p (p_iload_n 1 (dk_at ktJ0_checkIndex_df160_0 1 rfl) rfl rfl (b := 2) rfl) ?_
  refine r_gsio (dk_at ktJ0_checkIndex_df160_0 2 rfl) (b := 5) rfl ?_ ?_
  · refine r_iS (As := [.int (nI k), .int (nI t), .null]) (rest := []) (s_J3_checkIndex_n k t (by omega) (by omega)) cw_J0_1059 qs_J3_checkIndex_8e157 (dk_at ktJ0_checkIndex_df160_0 3 rfl) rfl rfl (Nat.le_of_ble_eq_true rfl) (by decide) (b := 8) rfl (fun v4 I1 J2 q3 => ?_)
    obtain ⟨rfl, rfl, rfl⟩ := q3
    refine rc_p (p_pop (dk_at ktJ0_checkIndex_df160_0 4 rfl) rfl (b := 9) rfl) ?_
    refine r_vret (dk_at ktJ0_checkIndex_df160_0 5 rfl) rfl ⟨rfl, ?_⟩
    exact ⟨rfl, rfl⟩
  · refine r_iS (As := [.int (nI k), .int (nI t), .ref 1200]) (rest := []) (s_J3_checkIndex_r k t (by omega) (by omega)) cw_J0_1059 qs_J3_checkIndex_8e157 (dk_at ktJ0_checkIndex_df160_0 3 rfl) rfl rfl (Nat.le_of_ble_eq_true rfl) (by decide) (b := 8) rfl (fun v8 I5 J6 q7 => ?_)
    obtain ⟨rfl, rfl, rfl⟩ := q7
    refine rc_p (p_pop (dk_at ktJ0_checkIndex_df160_0 4 rfl) rfl (b := 9) rfl) ?_
    refine r_vret (dk_at ktJ0_checkIndex_df160_0 5 rfl) rfl ⟨rfl, ?_⟩
    exact ⟨rfl, rfl⟩
set_option maxRecDepth 4000 in
set_option maxHeartbeats 4000000 in
theorem s_J1_charAt_3b067 {n : Nat} {sh : mS} {G : mG} {I : mI} {J : mJ} (i : Nat) (hi : i < 6) (j : Nat) (hj : j < bLen.getD i 0)  : Sp yJ1_charAt_3b067 cJ1_charAt_3b067 2 (some FieldType.char) 3 144 0 0 [.ref (1100 + i), .int (nI j)] n sh G I J (Qi (fun r I' J' => bC i j = r ∧ I = I' ∧ J = J')) nX := by
  refine Sp.of (by decide) (ls := [(0, .ref (1100 + i)), (1, .int (nI j))]) (fun _ => rfl) (fun _ => Nat.le_of_ble_eq_true rfl) ?_
  refine rc_p (p_iload_n 1 (dk_at ktJ1_charAt_3b067_0 0 rfl) rfl rfl (b := 1) rfl) ?_
  refine rc_p (p_aload_n 0 (dk_at ktJ1_charAt_3b067_0 1 rfl) rfl rfl (b := 2) rfl) ?_
  refine r_slen hi (dk_at ktJ1_charAt_3b067_0 2 rfl) (b := 3) rfl ?_
  refine r_vS (As := [.int (nI j), .int (nI (bLen.getD i 0))]) (rest := []) (s_J0_checkIndex_df160 j (bLen.getD i 0) hj (bL_le hi)) cw_J1_9 qs_J0_checkIndex_df160 (dk_at ktJ1_charAt_3b067_0 3 rfl) rfl rfl (Nat.le_of_ble_eq_true rfl) (by decide) (b := 6) rfl (fun I1 J2 q3 => ?_)
  obtain ⟨rfl, rfl⟩ := q3
  refine rc_p (p_aload_n 0 (dk_at ktJ1_charAt_3b067_0 4 rfl) rfl rfl (b := 7) rfl) ?_
  refine rc_p (p_iload_n 1 (dk_at ktJ1_charAt_3b067_0 5 rfl) rfl rfl (b := 8) rfl) ?_
  refine r_sbld (j := j) hi hj (dk_at ktJ1_charAt_3b067_0 6 rfl) (b := 9) rfl ?_
  refine rc_p (p_sipush (v := 255) (dk_at ktJ1_charAt_3b067_0 7 rfl) (by decide) (b := 12) rfl) ?_
  refine rc_p (p_iand (v := (bC i j)) (dk_at ktJ1_charAt_3b067_0 8 rfl) (bC_and hi hj) (b := 13) rfl) ?_
  refine rc_p (p_i2c (v := (bC i j)) (dk_at ktJ1_charAt_3b067_0 9 rfl) (bC_c hi hj) (b := 14) rfl) ?_
  refine r_iret (dk_at ktJ1_charAt_3b067_0 10 rfl) rfl (bC_nar hi hj) ⟨_, rfl, ?_⟩
  exact ⟨rfl, rfl, rfl⟩
set_option maxRecDepth 4000 in
set_option maxHeartbeats 4000000 in
theorem s_J0_charAt_5068e {n : Nat} {sh : mS} {G : mG} {I : mI} {J : mJ} (i : Nat) (hi : i < 6) (j : Nat) (hj : j < bLen.getD i 0)  : Sp yJ0_charAt_5068e cJ0_charAt_5068e 2 (some FieldType.char) 4 165 0 0 [.ref (1000 + i), .int (nI j)] n sh G I J (Qi (fun r I' J' => bC i j = r ∧ I = I' ∧ J = J')) nX := by
  refine Sp.of (by decide) (ls := [(0, .ref (1000 + i)), (1, .int (nI j))]) (fun _ => rfl) (fun _ => Nat.le_of_ble_eq_true rfl) ?_
  refine rc_p (p_aload_n 0 (dk_at ktJ0_charAt_5068e_0 0 rfl) rfl rfl (b := 1) rfl) ?_
  refine r_iVS (As' := []) (rest := []) (s_J0_isLatin1_aae02 i hi) hi cw_J0_492 qi_J0_isLatin1_aae02 qv_J0_isLatin1_aae02 (dk_at ktJ0_charAt_5068e_0 1 rfl) rfl rfl (Nat.le_of_ble_eq_true rfl) (by decide) (b := 4) rfl (fun v4 I1 J2 q3 => ?_)
  obtain ⟨rfl, rfl, rfl⟩ := q3
  refine r_if_eq (dk_at ktJ0_charAt_5068e_0 2 rfl) (b := 16) (by decide) (b2 := 7) rfl (fun c4 => ?_) (fun c4 => ?_)
  · first | exact absurd c4 (by decide) | exact absurd (by decide) c4
  · skip
    refine rc_p (p_aload_n 0 (dk_at ktJ0_charAt_5068e_0 3 rfl) rfl rfl (b := 8) rfl) ?_
    refine r_sval hi (dk_at ktJ0_charAt_5068e_0 4 rfl) (b := 11) rfl ?_
    refine rc_p (p_iload_n 1 (dk_at ktJ0_charAt_5068e_0 5 rfl) rfl rfl (b := 12) rfl) ?_
    refine r_iS (As := [.ref (1100 + i), .int (nI j)]) (rest := []) (s_J1_charAt_3b067 i hi j hj) cw_J0_495 qs_J1_charAt_3b067 (dk_at ktJ0_charAt_5068e_0 6 rfl) rfl rfl (Nat.le_of_ble_eq_true rfl) (by decide) (b := 15) rfl (fun v8 I5 J6 q7 => ?_)
    obtain ⟨rfl, rfl, rfl⟩ := q7
    refine r_iret (dk_at ktJ0_charAt_5068e_0 7 rfl) rfl (bC_nar hi hj) ⟨_, rfl, ?_⟩
    exact ⟨rfl, rfl, rfl⟩

/-! THE REFERENCE: leaves -/
set_option maxRecDepth 4000 in
set_option maxHeartbeats 4000000 in
theorem s_X7_in {n : Nat} {sh : mS} {G : mG} {I : mI} {J : mJ} (a b c : Int64) : Sp yX7_in cX7_in 6 (some FieldType.boolean) 1 48 0 0 [.long a, .long b, .long c] n sh G I J (Qi (fun r_ I_ J_ => bi (inJ a b c) = r_ ∧ I = I_ ∧ J = J_)) nX := by
  refine Sp.of (by decide) (ls := [(0, .long a), (2, .long b), (4, .long c)]) (fun _ => rfl) (fun _ => Nat.le_of_ble_eq_true rfl) ?_
  refine rc_p (p_lload_n 0 (dk_at ktX7_in_0 0 rfl) rfl rfl (b := 1) rfl) ?_
  refine rc_p (p_lload_n 1 (dk_at ktX7_in_0 1 rfl) rfl rfl (b := 2) rfl) ?_
  refine rc_p (p_lcmp (dk_at ktX7_in_0 2 rfl) (b := 3) rfl) ?_
  refine r_if_lt (dk_at ktX7_in_0 3 rfl) (b := 17) (by decide) (b2 := 6) rfl (fun c3 => ?_) (fun c3 => ?_)
  · have c3 := (lg_cmp_lt _ _).mp c3
    refine rc_p (p_iconst (v := 0) (dk_at ktX7_in_0 10 rfl) (by decide) (b := 18) rfl) ?_
    refine r_iret (dk_at ktX7_in_0 11 rfl) rfl rfl ⟨_, rfl, ?_⟩
    refine ⟨?_, rfl, rfl⟩
    simp_all [inJ, bi, Int64.lt_iff_toInt_lt, Int64.le_iff_toInt_le]
    all_goals (intro h; omega)
  · have c3 := fun h => c3 ((lg_cmp_lt _ _).mpr h)
    refine rc_p (p_lload_n 0 (dk_at ktX7_in_0 4 rfl) rfl rfl (b := 7) rfl) ?_
    refine rc_p (p_lload 2 (dk_at ktX7_in_0 5 rfl) rfl (b := 9) rfl) ?_
    refine rc_p (p_lcmp (dk_at ktX7_in_0 6 rfl) (b := 10) rfl) ?_
    refine r_if_gt (dk_at ktX7_in_0 7 rfl) (b := 17) (by decide) (b2 := 13) rfl (fun c10 => ?_) (fun c10 => ?_)
    · have c10 := (lg_cmp_gt _ _).mp c10
      refine rc_p (p_iconst (v := 0) (dk_at ktX7_in_0 10 rfl) (by decide) (b := 18) rfl) ?_
      refine r_iret (dk_at ktX7_in_0 11 rfl) rfl rfl ⟨_, rfl, ?_⟩
      refine ⟨?_, rfl, rfl⟩
      simp_all [inJ, bi, Int64.lt_iff_toInt_lt, Int64.le_iff_toInt_le]
      all_goals (intro h; omega)
    · have c10 := fun h => c10 ((lg_cmp_gt _ _).mpr h)
      refine rc_p (p_iconst (v := 1) (dk_at ktX7_in_0 8 rfl) (by decide) (b := 14) rfl) ?_
      refine rc_p (p_goto (b := 18) (dk_at ktX7_in_0 9 rfl) (by decide)) ?_
      refine r_iret (dk_at ktX7_in_0 11 rfl) rfl rfl ⟨_, rfl, ?_⟩
      refine ⟨?_, rfl, rfl⟩
      simp_all [inJ, bi, Int64.lt_iff_toInt_lt, Int64.le_iff_toInt_le]
      all_goals (intro h; omega)
set_option maxRecDepth 4000 in
set_option maxHeartbeats 4000000 in
theorem s_X7_wordOf {n : Nat} {sh : mS} {G : mG} {I : mI} {J : mJ} (k v : Int32) : Sp yX7_wordOf cX7_wordOf 2 (some FieldType.int) 1 48 0 0 [.int k, .int v] n sh G I J (Qi (fun r_ I_ J_ => wordI k v = r_ ∧ I = I_ ∧ J = J_)) nX := by
  refine Sp.of (by decide) (ls := [(0, .int k), (1, .int v)]) (fun _ => rfl) (fun _ => Nat.le_of_ble_eq_true rfl) ?_
  refine rc_p (p_sipush (v := 4096) (dk_at ktX7_wordOf_0 0 rfl) (by decide) (b := 3) rfl) ?_
  refine rc_p (p_iload_n 0 (dk_at ktX7_wordOf_0 1 rfl) rfl rfl (b := 4) rfl) ?_
  refine rc_p (p_imul (v := (4096 * k)) (dk_at ktX7_wordOf_0 2 rfl) rfl (b := 5) rfl) ?_
  refine rc_p (p_bipush (v := 16) (dk_at ktX7_wordOf_0 3 rfl) (by decide) (b := 7) rfl) ?_
  refine rc_p (p_iload_n 1 (dk_at ktX7_wordOf_0 4 rfl) rfl rfl (b := 8) rfl) ?_
  refine rc_p (p_imul (v := (16 * v)) (dk_at ktX7_wordOf_0 5 rfl) rfl (b := 9) rfl) ?_
  refine rc_p (p_iadd (v := ((4096 * k) + (16 * v))) (dk_at ktX7_wordOf_0 6 rfl) rfl (b := 10) rfl) ?_
  refine rc_p (p_iload_n 0 (dk_at ktX7_wordOf_0 7 rfl) rfl rfl (b := 11) rfl) ?_
  refine rc_p (p_iload_n 1 (dk_at ktX7_wordOf_0 8 rfl) rfl rfl (b := 12) rfl) ?_
  refine rc_p (p_bipush (v := 16) (dk_at ktX7_wordOf_0 9 rfl) (by decide) (b := 14) rfl) ?_
  refine rc_p (p_idiv (v := (v / 16)) (dk_at ktX7_wordOf_0 10 rfl) (by decide) rfl (b := 15) rfl) ?_
  refine rc_p (p_iadd (v := (k + (v / 16))) (dk_at ktX7_wordOf_0 11 rfl) rfl (b := 16) rfl) ?_
  refine rc_p (p_iload_n 1 (dk_at ktX7_wordOf_0 12 rfl) rfl rfl (b := 17) rfl) ?_
  refine rc_p (p_bipush (v := 16) (dk_at ktX7_wordOf_0 13 rfl) (by decide) (b := 19) rfl) ?_
  refine rc_p (p_irem (v := (v % 16)) (dk_at ktX7_wordOf_0 14 rfl) (by decide) (irem_eq_mod _ _) (b := 20) rfl) ?_
  refine rc_p (p_iadd (v := ((k + (v / 16)) + (v % 16))) (dk_at ktX7_wordOf_0 15 rfl) rfl (b := 21) rfl) ?_
  refine rc_p (p_bipush (v := 16) (dk_at ktX7_wordOf_0 16 rfl) (by decide) (b := 23) rfl) ?_
  refine rc_p (p_irem (v := (((k + (v / 16)) + (v % 16)) % 16)) (dk_at ktX7_wordOf_0 17 rfl) (by decide) (irem_eq_mod _ _) (b := 24) rfl) ?_
  refine rc_p (p_iadd (v := (((4096 * k) + (16 * v)) + (((k + (v / 16)) + (v % 16)) % 16))) (dk_at ktX7_wordOf_0 18 rfl) rfl (b := 25) rfl) ?_
  refine r_iret (dk_at ktX7_wordOf_0 19 rfl) rfl rfl ⟨_, rfl, ?_⟩
  exact ⟨rfl, rfl, rfl⟩
set_option maxRecDepth 4000 in
set_option maxHeartbeats 4000000 in
theorem s_X7_kindOf {n : Nat} {sh : mS} {G : mG} {I : mI} {J : mJ} (x : Int32) : Sp yX7_kindOf cX7_kindOf 1 (some FieldType.int) 1 48 0 0 [.int x] n sh G I J (Qi (fun r_ I_ J_ => kindI x = r_ ∧ I = I_ ∧ J = J_)) nX := by
  refine Sp.of (by decide) (ls := [(0, .int x)]) (fun _ => rfl) (fun _ => Nat.le_of_ble_eq_true rfl) ?_
  refine rc_p (p_iload_n 0 (dk_at ktX7_kindOf_0 0 rfl) rfl rfl (b := 1) rfl) ?_
  refine rc_p (p_sipush (v := 4096) (dk_at ktX7_kindOf_0 1 rfl) (by decide) (b := 4) rfl) ?_
  refine rc_p (p_idiv (v := (x / 4096)) (dk_at ktX7_kindOf_0 2 rfl) (by decide) rfl (b := 5) rfl) ?_
  refine r_iret (dk_at ktX7_kindOf_0 3 rfl) rfl rfl ⟨_, rfl, ?_⟩
  exact ⟨rfl, rfl, rfl⟩
set_option maxRecDepth 4000 in
set_option maxHeartbeats 4000000 in
theorem s_X7_valueOf {n : Nat} {sh : mS} {G : mG} {I : mI} {J : mJ} (x : Int32) : Sp yX7_valueOf cX7_valueOf 1 (some FieldType.int) 1 48 0 0 [.int x] n sh G I J (Qi (fun r_ I_ J_ => valI x = r_ ∧ I = I_ ∧ J = J_)) nX := by
  refine Sp.of (by decide) (ls := [(0, .int x)]) (fun _ => rfl) (fun _ => Nat.le_of_ble_eq_true rfl) ?_
  refine rc_p (p_iload_n 0 (dk_at ktX7_valueOf_0 0 rfl) rfl rfl (b := 1) rfl) ?_
  refine rc_p (p_bipush (v := 16) (dk_at ktX7_valueOf_0 1 rfl) (by decide) (b := 3) rfl) ?_
  refine rc_p (p_idiv (v := (x / 16)) (dk_at ktX7_valueOf_0 2 rfl) (by decide) rfl (b := 4) rfl) ?_
  refine rc_p (p_sipush (v := 256) (dk_at ktX7_valueOf_0 3 rfl) (by decide) (b := 7) rfl) ?_
  refine rc_p (p_irem (v := ((x / 16) % 256)) (dk_at ktX7_valueOf_0 4 rfl) (by decide) (irem_eq_mod _ _) (b := 8) rfl) ?_
  refine r_iret (dk_at ktX7_valueOf_0 5 rfl) rfl rfl ⟨_, rfl, ?_⟩
  exact ⟨rfl, rfl, rfl⟩
set_option maxRecDepth 4000 in
set_option maxHeartbeats 4000000 in
theorem s_X7_isRight {n : Nat} {sh : mS} {G : mG} {I : mI} {J : mJ} (x : Int32) : Sp yX7_isRight cX7_isRight 3 (some FieldType.boolean) 2 96 0 0 [.int x] n sh G I J (Qi (fun r_ I_ J_ => bi (rightI x) = r_ ∧ I = I_ ∧ J = J_)) nX := by
  refine Sp.of (by decide) (ls := [(0, .int x)]) (fun _ => rfl) (fun _ => Nat.le_of_ble_eq_true rfl) ?_
  refine rc_p (p_iload_n 0 (dk_at ktX7_isRight_0 0 rfl) rfl rfl (b := 1) rfl) ?_
  refine r_iS (As := [.int x]) (rest := []) (s_X7_kindOf x) cw_X7_206 qs_X7_kindOf (dk_at ktX7_isRight_0 1 rfl) rfl rfl (Nat.le_of_ble_eq_true rfl) (by decide) (b := 4) rfl (fun v4 I1 J2 q3 => ?_)
  obtain ⟨rfl, rfl, rfl⟩ := q3
  refine rc_p (p_istore_n (ls' := [(1, .int (kindI x)), (0, .int x)]) (dk_at ktX7_isRight_0 2 rfl) rfl (by decide) rfl (b := 5) rfl) ?_
  refine rc_p (p_iload_n 1 (dk_at ktX7_isRight_0 3 rfl) rfl rfl (b := 6) rfl) ?_
  refine r_iS (As := [.int x]) (rest := []) (s_X7_valueOf x) cw_X7_209 qs_X7_valueOf (dk_at ktX7_isRight_0 4 rfl) rfl rfl (Nat.le_of_ble_eq_true rfl) (by decide) (b := 9) rfl (fun v8 I5 J6 q7 => ?_)
  obtain ⟨rfl, rfl, rfl⟩ := q7
  refine rc_p (p_istore_n (ls' := [(2, .int (valI x)), (1, .int (kindI x)), (0, .int x)]) (dk_at ktX7_isRight_0 5 rfl) rfl (by decide) rfl (b := 10) rfl) ?_
  refine rc_p (p_iload_n 1 (dk_at ktX7_isRight_0 6 rfl) rfl rfl (b := 11) rfl) ?_
  refine rc_p (p_i2l (v := (Int32.toInt64 (kindI x))) (dk_at ktX7_isRight_0 7 rfl) rfl (b := 12) rfl) ?_
  refine rc_p (p_lconst (v := 1) (dk_at ktX7_isRight_0 8 rfl) (by decide) (b := 13) rfl) ?_
  refine rc_p (p_ldc2 (v := 6) ql_TwinBootModel_212 (dk_at ktX7_isRight_0 9 rfl) (b := 16) rfl) ?_
  refine r_iS (As := [.long (Int32.toInt64 (kindI x)), .long 1, .long 6]) (rest := []) (s_X7_in (Int32.toInt64 (kindI x)) 1 6) cw_X7_73 qs_X7_in (dk_at ktX7_isRight_0 10 rfl) rfl rfl (Nat.le_of_ble_eq_true rfl) (by decide) (b := 19) rfl (fun v12 I9 J10 q11 => ?_)
  obtain ⟨rfl, rfl, rfl⟩ := q11
  refine r_val (y := bi (inI (kindI x) 1 6)) (congrArg bi (inJ_I (kindI x) 1 6)) ?_
  refine r_if_eq (dk_at ktX7_isRight_0 11 rfl) (b := 54) (by decide) (b2 := 22) rfl (fun c19 => ?_) (fun c19 => ?_)
  · have c19 := bi_f c19
    refine rc_p (p_iconst (v := 0) (dk_at ktX7_isRight_0 28 rfl) (by decide) (b := 55) rfl) ?_
    refine r_iret (dk_at ktX7_isRight_0 29 rfl) rfl rfl ⟨_, rfl, ?_⟩
    refine ⟨?_, rfl, rfl⟩
    simp_all [rightI, bi]
  · have c19 := bi_t c19
    refine rc_p (p_iload_n 1 (dk_at ktX7_isRight_0 12 rfl) rfl rfl (b := 23) rfl) ?_
    refine rc_p (p_iload_n 0 (dk_at ktX7_isRight_0 13 rfl) rfl rfl (b := 24) rfl) ?_
    refine r_iS (As := [.int (kindI x), .int (valI x)]) (rest := []) (s_X7_wordOf (kindI x) (valI x)) cw_X7_50 qs_X7_wordOf (dk_at ktX7_isRight_0 14 rfl) rfl rfl (Nat.le_of_ble_eq_true rfl) (by decide) (b := 27) rfl (fun v16 I13 J14 q15 => ?_)
    obtain ⟨rfl, rfl, rfl⟩ := q15
    refine rc_p (p_iload_n 2 (dk_at ktX7_isRight_0 15 rfl) rfl rfl (b := 28) rfl) ?_
    refine r_icmp_ne (dk_at ktX7_isRight_0 16 rfl) (b := 54) (by decide) (b2 := 31) rfl (fun c28 => ?_) (fun c28 => ?_)
    · skip
      refine rc_p (p_iconst (v := 0) (dk_at ktX7_isRight_0 28 rfl) (by decide) (b := 55) rfl) ?_
      refine r_iret (dk_at ktX7_isRight_0 29 rfl) rfl rfl ⟨_, rfl, ?_⟩
      refine ⟨?_, rfl, rfl⟩
      simp_all [rightI, bi]
    · skip
      refine rc_p (p_iload_n 1 (dk_at ktX7_isRight_0 17 rfl) rfl rfl (b := 32) rfl) ?_
      refine rc_p (p_i2l (v := (Int32.toInt64 (kindI x))) (dk_at ktX7_isRight_0 18 rfl) rfl (b := 33) rfl) ?_
      refine rc_p (p_ldc2 (v := 2) ql_TwinBootModel_214 (dk_at ktX7_isRight_0 19 rfl) (b := 36) rfl) ?_
      refine rc_p (p_ldc2 (v := 5) ql_TwinBootModel_194 (dk_at ktX7_isRight_0 20 rfl) (b := 39) rfl) ?_
      refine r_iS (As := [.long (Int32.toInt64 (kindI x)), .long 2, .long 5]) (rest := []) (s_X7_in (Int32.toInt64 (kindI x)) 2 5) cw_X7_73 qs_X7_in (dk_at ktX7_isRight_0 21 rfl) rfl rfl (Nat.le_of_ble_eq_true rfl) (by decide) (b := 42) rfl (fun v20 I17 J18 q19 => ?_)
      obtain ⟨rfl, rfl, rfl⟩ := q19
      refine r_val (y := bi (inI (kindI x) 2 5)) (congrArg bi (inJ_I (kindI x) 2 5)) ?_
      refine r_if_eq (dk_at ktX7_isRight_0 22 rfl) (b := 50) (by decide) (b2 := 45) rfl (fun c42 => ?_) (fun c42 => ?_)
      · have c42 := bi_f c42
        refine rc_p (p_iconst (v := 1) (dk_at ktX7_isRight_0 26 rfl) (by decide) (b := 51) rfl) ?_
        refine rc_p (p_goto (b := 55) (dk_at ktX7_isRight_0 27 rfl) (by decide)) ?_
        refine r_iret (dk_at ktX7_isRight_0 29 rfl) rfl rfl ⟨_, rfl, ?_⟩
        refine ⟨?_, rfl, rfl⟩
        simp_all [rightI, bi]
      · have c42 := bi_t c42
        refine rc_p (p_iload_n 0 (dk_at ktX7_isRight_0 23 rfl) rfl rfl (b := 46) rfl) ?_
        refine rc_p (p_iconst (v := 1) (dk_at ktX7_isRight_0 24 rfl) (by decide) (b := 47) rfl) ?_
        refine r_icmp_gt (dk_at ktX7_isRight_0 25 rfl) (b := 54) (by decide) (b2 := 50) rfl (fun c47 => ?_) (fun c47 => ?_)
        · skip
          refine rc_p (p_iconst (v := 0) (dk_at ktX7_isRight_0 28 rfl) (by decide) (b := 55) rfl) ?_
          refine r_iret (dk_at ktX7_isRight_0 29 rfl) rfl rfl ⟨_, rfl, ?_⟩
          refine ⟨?_, rfl, rfl⟩
          simp_all [rightI, bi]
        · skip
          refine rc_p (p_iconst (v := 1) (dk_at ktX7_isRight_0 26 rfl) (by decide) (b := 51) rfl) ?_
          refine rc_p (p_goto (b := 55) (dk_at ktX7_isRight_0 27 rfl) (by decide)) ?_
          refine r_iret (dk_at ktX7_isRight_0 29 rfl) rfl rfl ⟨_, rfl, ?_⟩
          refine ⟨?_, rfl, rfl⟩
          simp_all [rightI, bi]
set_option maxRecDepth 4000 in
set_option maxHeartbeats 4000000 in
theorem s_X7_slotAt {n : Nat} {sh : mS} {G : mG} {I : mI} {J : mJ} (a : Nat) : Sp yX7_slotAt cX7_slotAt 1 (some FieldType.int) 1 48 0 0 [.int (nI a)] n sh G I J (Qi (fun r_ I_ J_ => nI (83 + 64 * a) = r_ ∧ I = I_ ∧ J = J_)) nX := by
  refine Sp.of (by decide) (ls := [(0, .int (nI a))]) (fun _ => rfl) (fun _ => Nat.le_of_ble_eq_true rfl) ?_
  refine rc_p (p_bipush (v := 83) (dk_at ktX7_slotAt_0 0 rfl) (by decide) (b := 2) rfl) ?_
  refine rc_p (p_bipush (v := 64) (dk_at ktX7_slotAt_0 1 rfl) (by decide) (b := 4) rfl) ?_
  refine rc_p (p_iload_n 0 (dk_at ktX7_slotAt_0 2 rfl) rfl rfl (b := 5) rfl) ?_
  refine rc_p (p_imul (v := (nI (64 * a))) (dk_at ktX7_slotAt_0 3 rfl) (pk_mul 64 a) (b := 6) rfl) ?_
  refine rc_p (p_iadd (v := (nI (83 + (64 * a)))) (dk_at ktX7_slotAt_0 4 rfl) (nI_add 83 (64 * a)) (b := 7) rfl) ?_
  refine r_iret (dk_at ktX7_slotAt_0 5 rfl) rfl rfl ⟨_, rfl, ?_⟩
  exact ⟨rfl, rfl, rfl⟩
set_option maxRecDepth 4000 in
set_option maxHeartbeats 4000000 in
theorem s_X7_pageAt {n : Nat} {sh : mS} {G : mG} {I : mI} {J : mJ} (a : Nat) : Sp yX7_pageAt cX7_pageAt 1 (some FieldType.int) 1 48 0 0 [.int (nI a)] n sh G I J (Qi (fun r_ I_ J_ => nI (211 + 32 * a) = r_ ∧ I = I_ ∧ J = J_)) nX := by
  refine Sp.of (by decide) (ls := [(0, .int (nI a))]) (fun _ => rfl) (fun _ => Nat.le_of_ble_eq_true rfl) ?_
  refine rc_p (p_sipush (v := 211) (dk_at ktX7_pageAt_0 0 rfl) (by decide) (b := 3) rfl) ?_
  refine rc_p (p_bipush (v := 32) (dk_at ktX7_pageAt_0 1 rfl) (by decide) (b := 5) rfl) ?_
  refine rc_p (p_iload_n 0 (dk_at ktX7_pageAt_0 2 rfl) rfl rfl (b := 6) rfl) ?_
  refine rc_p (p_imul (v := (nI (32 * a))) (dk_at ktX7_pageAt_0 3 rfl) (pk_mul 32 a) (b := 7) rfl) ?_
  refine rc_p (p_iadd (v := (nI (211 + (32 * a)))) (dk_at ktX7_pageAt_0 4 rfl) (nI_add 211 (32 * a)) (b := 8) rfl) ?_
  refine r_iret (dk_at ktX7_pageAt_0 5 rfl) rfl rfl ⟨_, rfl, ?_⟩
  exact ⟨rfl, rfl, rfl⟩

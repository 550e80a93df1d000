/-! THE CLASS: the ledger -/
set_option maxRecDepth 4000 in
set_option maxHeartbeats 4000000 in
theorem s_X2_wordOf {n : Nat} {sh : mS} {G : mG} {I : mI} {J : mJ} (k v : Int32) : Sp yX2_wordOf cX2_wordOf 2 (some FieldType.int) 1 48 0 0 [.int k, .int v] n sh G I J (Qi (fun r_ I_ J_ => wordI k v = r_ ∧ I = I_ ∧ J = J_)) nX := by
  refine Sp.of (by decide) (ls := [(0, .int k), (1, .int v)]) (fun _ => rfl) (fun _ => Nat.le_of_ble_eq_true rfl) ?_
  refine rc_p (p_sipush (v := 4096) (dk_at ktX2_wordOf_0 0 rfl) (by decide) (b := 3) rfl) ?_
  refine rc_p (p_iload_n 0 (dk_at ktX2_wordOf_0 1 rfl) rfl rfl (b := 4) rfl) ?_
  refine rc_p (p_imul (v := (4096 * k)) (dk_at ktX2_wordOf_0 2 rfl) rfl (b := 5) rfl) ?_
  refine rc_p (p_bipush (v := 16) (dk_at ktX2_wordOf_0 3 rfl) (by decide) (b := 7) rfl) ?_
  refine rc_p (p_iload_n 1 (dk_at ktX2_wordOf_0 4 rfl) rfl rfl (b := 8) rfl) ?_
  refine rc_p (p_imul (v := (16 * v)) (dk_at ktX2_wordOf_0 5 rfl) rfl (b := 9) rfl) ?_
  refine rc_p (p_iadd (v := ((4096 * k) + (16 * v))) (dk_at ktX2_wordOf_0 6 rfl) rfl (b := 10) rfl) ?_
  refine rc_p (p_iload_n 0 (dk_at ktX2_wordOf_0 7 rfl) rfl rfl (b := 11) rfl) ?_
  refine rc_p (p_iload_n 1 (dk_at ktX2_wordOf_0 8 rfl) rfl rfl (b := 12) rfl) ?_
  refine rc_p (p_bipush (v := 16) (dk_at ktX2_wordOf_0 9 rfl) (by decide) (b := 14) rfl) ?_
  refine rc_p (p_idiv (v := (v / 16)) (dk_at ktX2_wordOf_0 10 rfl) (by decide) rfl (b := 15) rfl) ?_
  refine rc_p (p_iadd (v := (k + (v / 16))) (dk_at ktX2_wordOf_0 11 rfl) rfl (b := 16) rfl) ?_
  refine rc_p (p_iload_n 1 (dk_at ktX2_wordOf_0 12 rfl) rfl rfl (b := 17) rfl) ?_
  refine rc_p (p_bipush (v := 16) (dk_at ktX2_wordOf_0 13 rfl) (by decide) (b := 19) rfl) ?_
  refine rc_p (p_irem (v := (v % 16)) (dk_at ktX2_wordOf_0 14 rfl) (by decide) (irem_eq_mod _ _) (b := 20) rfl) ?_
  refine rc_p (p_iadd (v := ((k + (v / 16)) + (v % 16))) (dk_at ktX2_wordOf_0 15 rfl) rfl (b := 21) rfl) ?_
  refine rc_p (p_bipush (v := 16) (dk_at ktX2_wordOf_0 16 rfl) (by decide) (b := 23) rfl) ?_
  refine rc_p (p_irem (v := (((k + (v / 16)) + (v % 16)) % 16)) (dk_at ktX2_wordOf_0 17 rfl) (by decide) (irem_eq_mod _ _) (b := 24) rfl) ?_
  refine rc_p (p_iadd (v := (((4096 * k) + (16 * v)) + (((k + (v / 16)) + (v % 16)) % 16))) (dk_at ktX2_wordOf_0 18 rfl) rfl (b := 25) rfl) ?_
  refine r_iret (dk_at ktX2_wordOf_0 19 rfl) rfl rfl ⟨_, rfl, ?_⟩
  exact ⟨rfl, rfl, rfl⟩
set_option maxRecDepth 4000 in
set_option maxHeartbeats 4000000 in
theorem s_X2_kindOf {n : Nat} {sh : mS} {G : mG} {I : mI} {J : mJ} {a : Nat} (ha : a < 65536)  : Sp yX2_kindOf cX2_kindOf 1 (some FieldType.int) 1 48 0 0 [.int (nI a)] n sh G I J (Qi (fun r_ I_ J_ => nI (a / 4096) = r_ ∧ I = I_ ∧ J = J_)) nX := by
  refine Sp.of (by decide) (ls := [(0, .int (nI a))]) (fun _ => rfl) (fun _ => Nat.le_of_ble_eq_true rfl) ?_
  refine rc_p (p_iload_n 0 (dk_at ktX2_kindOf_0 0 rfl) rfl rfl (b := 1) rfl) ?_
  refine rc_p (p_bipush (v := 12) (dk_at ktX2_kindOf_0 1 rfl) (by decide) (b := 3) rfl) ?_
  refine rc_p (p_ishr (v := (nI (a / 4096))) (dk_at ktX2_kindOf_0 2 rfl) (sh12 (by omega)) (b := 4) rfl) ?_
  refine r_iret (dk_at ktX2_kindOf_0 3 rfl) rfl rfl ⟨_, rfl, ?_⟩
  exact ⟨rfl, rfl, rfl⟩
set_option maxRecDepth 4000 in
set_option maxHeartbeats 4000000 in
theorem s_X2_valueOf {n : Nat} {sh : mS} {G : mG} {I : mI} {J : mJ} {a : Nat} (ha : a < 65536)  : Sp yX2_valueOf cX2_valueOf 1 (some FieldType.int) 1 48 0 0 [.int (nI a)] n sh G I J (Qi (fun r_ I_ J_ => nI (a / 16 % 256) = r_ ∧ I = I_ ∧ J = J_)) nX := by
  refine Sp.of (by decide) (ls := [(0, .int (nI a))]) (fun _ => rfl) (fun _ => Nat.le_of_ble_eq_true rfl) ?_
  refine rc_p (p_iload_n 0 (dk_at ktX2_valueOf_0 0 rfl) rfl rfl (b := 1) rfl) ?_
  refine rc_p (p_iconst (v := 4) (dk_at ktX2_valueOf_0 1 rfl) (by decide) (b := 2) rfl) ?_
  refine rc_p (p_ishr (v := (nI (a / 16))) (dk_at ktX2_valueOf_0 2 rfl) (sh4 (by omega)) (b := 3) rfl) ?_
  refine rc_p (p_sipush (v := 255) (dk_at ktX2_valueOf_0 3 rfl) (by decide) (b := 6) rfl) ?_
  refine rc_p (p_iand (v := (nI (a / 16 % 256))) (dk_at ktX2_valueOf_0 4 rfl) (an255 (by omega)) (b := 7) rfl) ?_
  refine r_iret (dk_at ktX2_valueOf_0 5 rfl) rfl rfl ⟨_, rfl, ?_⟩
  exact ⟨rfl, rfl, rfl⟩
set_option maxRecDepth 4000 in
set_option maxHeartbeats 4000000 in
theorem s_X2_rightKind {n : Nat} {sh : mS} {G : mG} {I : mI} {J : mJ} {a : Nat} (ha : a < 65536)  : Sp yX2_rightKind cX2_rightKind 5 (some FieldType.int) 1 48 0 0 [.int (nI a)] n sh G I J (Qi (fun r_ I_ J_ => nI (rkN a) = r_ ∧ I = I_ ∧ J = J_)) nX := by
  refine Sp.of (by decide) (ls := [(0, .int (nI a))]) (fun _ => rfl) (fun _ => Nat.le_of_ble_eq_true rfl) ?_
  refine rc_p (p_iload_n 0 (dk_at ktX2_rightKind_0 0 rfl) rfl rfl (b := 1) rfl) ?_
  refine rc_p (p_bipush (v := 12) (dk_at ktX2_rightKind_0 1 rfl) (by decide) (b := 3) rfl) ?_
  refine rc_p (p_ishr (v := (nI (a / 4096))) (dk_at ktX2_rightKind_0 2 rfl) (sh12 (by omega)) (b := 4) rfl) ?_
  refine rc_p (p_istore_n (ls' := [(1, .int (nI (a / 4096))), (0, .int (nI a))]) (dk_at ktX2_rightKind_0 3 rfl) rfl (by decide) rfl (b := 5) rfl) ?_
  refine rc_p (p_iload_n 1 (dk_at ktX2_rightKind_0 4 rfl) rfl rfl (b := 6) rfl) ?_
  refine rc_p (p_iconst (v := 4) (dk_at ktX2_rightKind_0 5 rfl) (by decide) (b := 7) rfl) ?_
  refine rc_p (p_ishr (v := (nI (a / 16))) (dk_at ktX2_rightKind_0 6 rfl) (sh4 (by omega)) (b := 8) rfl) ?_
  refine rc_p (p_sipush (v := 255) (dk_at ktX2_rightKind_0 7 rfl) (by decide) (b := 11) rfl) ?_
  refine rc_p (p_iand (v := (nI (a / 16 % 256))) (dk_at ktX2_rightKind_0 8 rfl) (an255 (by omega)) (b := 12) rfl) ?_
  refine rc_p (p_istore_n (ls' := [(2, .int (nI (a / 16 % 256))), (1, .int (nI (a / 4096))), (0, .int (nI a))]) (dk_at ktX2_rightKind_0 9 rfl) rfl (by decide) rfl (b := 13) rfl) ?_
  refine rc_p (p_iload_n 1 (dk_at ktX2_rightKind_0 10 rfl) rfl rfl (b := 14) rfl) ?_
  refine rc_p (p_iconst (v := 2) (dk_at ktX2_rightKind_0 11 rfl) (by decide) (b := 15) rfl) ?_
  refine r_icmp_lt (dk_at ktX2_rightKind_0 12 rfl) (b := 27) (by decide) (b2 := 18) rfl (fun c15 => ?_) (fun c15 => ?_)
  · have c15 : (a / 4096) < 2 := (nI_ltI (a := a / 4096) (b := 2) (by omega) (by omega)).mp c15
    refine rc_p (p_iconst (v := 0) (dk_at ktX2_rightKind_0 18 rfl) (by decide) (b := 28) rfl) ?_
    refine rc_p (p_istore_n (ls' := [(3, .int 0), (2, .int (nI (a / 16 % 256))), (1, .int (nI (a / 4096))), (0, .int (nI a))]) (dk_at ktX2_rightKind_0 19 rfl) rfl (by decide) rfl (b := 29) rfl) ?_
    refine rc_p (p_iload_n 3 (dk_at ktX2_rightKind_0 20 rfl) rfl rfl (b := 30) rfl) ?_
    refine rc_p (p_bipush (v := 15) (dk_at ktX2_rightKind_0 21 rfl) (by decide) (b := 32) rfl) ?_
    refine rc_p (p_iand (v := (nI (a % 16))) (dk_at ktX2_rightKind_0 22 rfl) (an15 (by omega)) (b := 33) rfl) ?_
    refine rc_p (p_iload_n 2 (dk_at ktX2_rightKind_0 23 rfl) rfl rfl (b := 34) rfl) ?_
    refine rc_p (p_iload_n 1 (dk_at ktX2_rightKind_0 24 rfl) rfl rfl (b := 35) rfl) ?_
    refine rc_p (p_bipush (v := 16) (dk_at ktX2_rightKind_0 25 rfl) (by decide) (b := 37) rfl) ?_
    refine rc_p (p_idiv (v := (nI ((a / 16 % 256) / 16))) (dk_at ktX2_rightKind_0 26 rfl) (by decide) (pk_div (a := a / 16 % 256) (d := 16) (by omega) (by decide) (by decide)) (b := 38) rfl) ?_
    refine rc_p (p_iadd (v := (nI (a / 4096 + ((a / 16 % 256) / 16)))) (dk_at ktX2_rightKind_0 27 rfl) (nI_add (a / 4096) ((a / 16 % 256) / 16)) (b := 39) rfl) ?_
    refine rc_p (p_iload_n 1 (dk_at ktX2_rightKind_0 28 rfl) rfl rfl (b := 40) rfl) ?_
    refine rc_p (p_bipush (v := 16) (dk_at ktX2_rightKind_0 29 rfl) (by decide) (b := 42) rfl) ?_
    refine rc_p (p_irem (v := (nI ((a / 16 % 256) % 16))) (dk_at ktX2_rightKind_0 30 rfl) (by decide) (pk_rem (a := a / 16 % 256) (d := 16) (by omega) (by decide) (by decide)) (b := 43) rfl) ?_
    refine rc_p (p_iadd (v := (nI (a / 4096 + ((a / 16 % 256) / 16) + ((a / 16 % 256) % 16)))) (dk_at ktX2_rightKind_0 31 rfl) (nI_add (a / 4096 + ((a / 16 % 256) / 16)) ((a / 16 % 256) % 16)) (b := 44) rfl) ?_
    refine rc_p (p_bipush (v := 16) (dk_at ktX2_rightKind_0 32 rfl) (by decide) (b := 46) rfl) ?_
    refine rc_p (p_irem (v := (nI ((a / 4096 + ((a / 16 % 256) / 16) + ((a / 16 % 256) % 16)) % 16))) (dk_at ktX2_rightKind_0 33 rfl) (by decide) (pk_rem (a := a / 4096 + ((a / 16 % 256) / 16) + ((a / 16 % 256) % 16)) (d := 16) (by omega) (by decide) (by decide)) (b := 47) rfl) ?_
    refine r_icmp_ne (dk_at ktX2_rightKind_0 34 rfl) (b := 54) (by decide) (b2 := 50) rfl (fun c47 => ?_) (fun c47 => ?_)
    · have c47 : ¬ (a % 16) = ((a / 4096 + ((a / 16 % 256) / 16) + ((a / 16 % 256) % 16)) % 16) := fun h => c47 ((nI_eq (a := a % 16) (b := (a / 4096 + ((a / 16 % 256) / 16) + ((a / 16 % 256) % 16)) % 16) (by omega) (by omega)).mpr h)
      refine rc_p (p_iconst (v := 0) (dk_at ktX2_rightKind_0 37 rfl) (by decide) (b := 55) rfl) ?_
      refine rc_p (p_istore (ls' := [(4, .int 0), (3, .int 0), (2, .int (nI (a / 16 % 256))), (1, .int (nI (a / 4096))), (0, .int (nI a))]) (dk_at ktX2_rightKind_0 38 rfl) (by decide) rfl (b := 57) rfl) ?_
      refine rc_p (p_iload_n 3 (dk_at ktX2_rightKind_0 39 rfl) rfl rfl (b := 58) rfl) ?_
      refine rc_p (p_iconst (v := 1) (dk_at ktX2_rightKind_0 40 rfl) (by decide) (b := 59) rfl) ?_
      refine r_icmp_lt (dk_at ktX2_rightKind_0 41 rfl) (b := 82) (by decide) (b2 := 62) rfl (fun c59 => ?_) (fun c59 => ?_)
      · have c59 : (a / 4096) < 1 := (nI_ltI (a := a / 4096) (b := 1) (by omega) (by omega)).mp c59
        refine rc_p (p_iconst (v := 0) (dk_at ktX2_rightKind_0 52 rfl) (by decide) (b := 83) rfl) ?_
        refine r_iret (dk_at ktX2_rightKind_0 53 rfl) rfl rfl ⟨_, rfl, ?_⟩
        refine ⟨?_, rfl, rfl⟩
        unfold rkN
        rw [if_neg (by omega)]; rfl
      · have c59 : ¬ (a / 4096) < 1 := fun h => c59 ((nI_ltI (a := a / 4096) (b := 1) (by omega) (by omega)).mpr h)
        refine rc_p (p_iload_n 3 (dk_at ktX2_rightKind_0 42 rfl) rfl rfl (b := 63) rfl) ?_
        refine rc_p (p_bipush (v := 6) (dk_at ktX2_rightKind_0 43 rfl) (by decide) (b := 65) rfl) ?_
        refine r_icmp_gt (dk_at ktX2_rightKind_0 44 rfl) (b := 82) (by decide) (b2 := 68) rfl (fun c65 => ?_) (fun c65 => ?_)
        · have c65 : 6 < (a / 4096) := (nI_ltI (a := 6) (b := a / 4096) (by omega) (by omega)).mp c65
          refine rc_p (p_iconst (v := 0) (dk_at ktX2_rightKind_0 52 rfl) (by decide) (b := 83) rfl) ?_
          refine r_iret (dk_at ktX2_rightKind_0 53 rfl) rfl rfl ⟨_, rfl, ?_⟩
          refine ⟨?_, rfl, rfl⟩
          unfold rkN
          rw [if_neg (by omega)]; rfl
        · have c65 : ¬ 6 < (a / 4096) := fun h => c65 ((nI_ltI (a := 6) (b := a / 4096) (by omega) (by omega)).mpr h)
          refine rc_p (p_iload 0 (dk_at ktX2_rightKind_0 45 rfl) rfl (b := 70) rfl) ?_
          refine r_if_eq (dk_at ktX2_rightKind_0 46 rfl) (b := 82) (by decide) (b2 := 73) rfl (fun c70 => ?_) (fun c70 => ?_)
          · skip
            refine rc_p (p_iconst (v := 0) (dk_at ktX2_rightKind_0 52 rfl) (by decide) (b := 83) rfl) ?_
            refine r_iret (dk_at ktX2_rightKind_0 53 rfl) rfl rfl ⟨_, rfl, ?_⟩
            refine ⟨?_, rfl, rfl⟩
            unfold rkN
            rw [if_neg (by omega)]; rfl
          · first | exact absurd c70 (by decide) | exact absurd (by decide) c70
    · have c47 : (a % 16) = ((a / 4096 + ((a / 16 % 256) / 16) + ((a / 16 % 256) % 16)) % 16) := (nI_eq (a := a % 16) (b := (a / 4096 + ((a / 16 % 256) / 16) + ((a / 16 % 256) % 16)) % 16) (by omega) (by omega)).mp c47
      refine rc_p (p_iconst (v := 1) (dk_at ktX2_rightKind_0 35 rfl) (by decide) (b := 51) rfl) ?_
      refine rc_p (p_goto (b := 55) (dk_at ktX2_rightKind_0 36 rfl) (by decide)) ?_
      refine rc_p (p_istore (ls' := [(4, .int 1), (3, .int 0), (2, .int (nI (a / 16 % 256))), (1, .int (nI (a / 4096))), (0, .int (nI a))]) (dk_at ktX2_rightKind_0 38 rfl) (by decide) rfl (b := 57) rfl) ?_
      refine rc_p (p_iload_n 3 (dk_at ktX2_rightKind_0 39 rfl) rfl rfl (b := 58) rfl) ?_
      refine rc_p (p_iconst (v := 1) (dk_at ktX2_rightKind_0 40 rfl) (by decide) (b := 59) rfl) ?_
      refine r_icmp_lt (dk_at ktX2_rightKind_0 41 rfl) (b := 82) (by decide) (b2 := 62) rfl (fun c59 => ?_) (fun c59 => ?_)
      · have c59 : (a / 4096) < 1 := (nI_ltI (a := a / 4096) (b := 1) (by omega) (by omega)).mp c59
        refine rc_p (p_iconst (v := 0) (dk_at ktX2_rightKind_0 52 rfl) (by decide) (b := 83) rfl) ?_
        refine r_iret (dk_at ktX2_rightKind_0 53 rfl) rfl rfl ⟨_, rfl, ?_⟩
        refine ⟨?_, rfl, rfl⟩
        unfold rkN
        rw [if_neg (by omega)]; rfl
      · have c59 : ¬ (a / 4096) < 1 := fun h => c59 ((nI_ltI (a := a / 4096) (b := 1) (by omega) (by omega)).mpr h)
        refine rc_p (p_iload_n 3 (dk_at ktX2_rightKind_0 42 rfl) rfl rfl (b := 63) rfl) ?_
        refine rc_p (p_bipush (v := 6) (dk_at ktX2_rightKind_0 43 rfl) (by decide) (b := 65) rfl) ?_
        refine r_icmp_gt (dk_at ktX2_rightKind_0 44 rfl) (b := 82) (by decide) (b2 := 68) rfl (fun c65 => ?_) (fun c65 => ?_)
        · have c65 : 6 < (a / 4096) := (nI_ltI (a := 6) (b := a / 4096) (by omega) (by omega)).mp c65
          refine rc_p (p_iconst (v := 0) (dk_at ktX2_rightKind_0 52 rfl) (by decide) (b := 83) rfl) ?_
          refine r_iret (dk_at ktX2_rightKind_0 53 rfl) rfl rfl ⟨_, rfl, ?_⟩
          refine ⟨?_, rfl, rfl⟩
          unfold rkN
          rw [if_neg (by omega)]; rfl
        · have c65 : ¬ 6 < (a / 4096) := fun h => c65 ((nI_ltI (a := 6) (b := a / 4096) (by omega) (by omega)).mpr h)
          refine rc_p (p_iload 0 (dk_at ktX2_rightKind_0 45 rfl) rfl (b := 70) rfl) ?_
          refine r_if_eq (dk_at ktX2_rightKind_0 46 rfl) (b := 82) (by decide) (b2 := 73) rfl (fun c70 => ?_) (fun c70 => ?_)
          · first | exact absurd c70 (by decide) | exact absurd (by decide) c70
          · skip
            refine rc_p (p_iload_n 1 (dk_at ktX2_rightKind_0 47 rfl) rfl rfl (b := 74) rfl) ?_
            refine r_if_eq (dk_at ktX2_rightKind_0 48 rfl) (b := 84) (by decide) (b2 := 77) rfl (fun c74 => ?_) (fun c74 => ?_)
            · skip
              refine rc_p (p_iload_n 3 (dk_at ktX2_rightKind_0 54 rfl) rfl rfl (b := 85) rfl) ?_
              refine r_iret (dk_at ktX2_rightKind_0 55 rfl) rfl rfl ⟨_, rfl, ?_⟩
              refine ⟨?_, rfl, rfl⟩
              unfold rkN
              rw [if_pos (by omega)]
            · first | exact absurd c74 (by decide) | exact absurd (by decide) c74
  · have c15 : ¬ (a / 4096) < 2 := fun h => c15 ((nI_ltI (a := a / 4096) (b := 2) (by omega) (by omega)).mpr h)
    refine rc_p (p_iload_n 1 (dk_at ktX2_rightKind_0 13 rfl) rfl rfl (b := 19) rfl) ?_
    refine rc_p (p_iconst (v := 5) (dk_at ktX2_rightKind_0 14 rfl) (by decide) (b := 20) rfl) ?_
    refine r_icmp_gt (dk_at ktX2_rightKind_0 15 rfl) (b := 27) (by decide) (b2 := 23) rfl (fun c20 => ?_) (fun c20 => ?_)
    · have c20 : 5 < (a / 4096) := (nI_ltI (a := 5) (b := a / 4096) (by omega) (by omega)).mp c20
      refine rc_p (p_iconst (v := 0) (dk_at ktX2_rightKind_0 18 rfl) (by decide) (b := 28) rfl) ?_
      refine rc_p (p_istore_n (ls' := [(3, .int 0), (2, .int (nI (a / 16 % 256))), (1, .int (nI (a / 4096))), (0, .int (nI a))]) (dk_at ktX2_rightKind_0 19 rfl) rfl (by decide) rfl (b := 29) rfl) ?_
      refine rc_p (p_iload_n 3 (dk_at ktX2_rightKind_0 20 rfl) rfl rfl (b := 30) rfl) ?_
      refine rc_p (p_bipush (v := 15) (dk_at ktX2_rightKind_0 21 rfl) (by decide) (b := 32) rfl) ?_
      refine rc_p (p_iand (v := (nI (a % 16))) (dk_at ktX2_rightKind_0 22 rfl) (an15 (by omega)) (b := 33) rfl) ?_
      refine rc_p (p_iload_n 2 (dk_at ktX2_rightKind_0 23 rfl) rfl rfl (b := 34) rfl) ?_
      refine rc_p (p_iload_n 1 (dk_at ktX2_rightKind_0 24 rfl) rfl rfl (b := 35) rfl) ?_
      refine rc_p (p_bipush (v := 16) (dk_at ktX2_rightKind_0 25 rfl) (by decide) (b := 37) rfl) ?_
      refine rc_p (p_idiv (v := (nI ((a / 16 % 256) / 16))) (dk_at ktX2_rightKind_0 26 rfl) (by decide) (pk_div (a := a / 16 % 256) (d := 16) (by omega) (by decide) (by decide)) (b := 38) rfl) ?_
      refine rc_p (p_iadd (v := (nI (a / 4096 + ((a / 16 % 256) / 16)))) (dk_at ktX2_rightKind_0 27 rfl) (nI_add (a / 4096) ((a / 16 % 256) / 16)) (b := 39) rfl) ?_
      refine rc_p (p_iload_n 1 (dk_at ktX2_rightKind_0 28 rfl) rfl rfl (b := 40) rfl) ?_
      refine rc_p (p_bipush (v := 16) (dk_at ktX2_rightKind_0 29 rfl) (by decide) (b := 42) rfl) ?_
      refine rc_p (p_irem (v := (nI ((a / 16 % 256) % 16))) (dk_at ktX2_rightKind_0 30 rfl) (by decide) (pk_rem (a := a / 16 % 256) (d := 16) (by omega) (by decide) (by decide)) (b := 43) rfl) ?_
      refine rc_p (p_iadd (v := (nI (a / 4096 + ((a / 16 % 256) / 16) + ((a / 16 % 256) % 16)))) (dk_at ktX2_rightKind_0 31 rfl) (nI_add (a / 4096 + ((a / 16 % 256) / 16)) ((a / 16 % 256) % 16)) (b := 44) rfl) ?_
      refine rc_p (p_bipush (v := 16) (dk_at ktX2_rightKind_0 32 rfl) (by decide) (b := 46) rfl) ?_
      refine rc_p (p_irem (v := (nI ((a / 4096 + ((a / 16 % 256) / 16) + ((a / 16 % 256) % 16)) % 16))) (dk_at ktX2_rightKind_0 33 rfl) (by decide) (pk_rem (a := a / 4096 + ((a / 16 % 256) / 16) + ((a / 16 % 256) % 16)) (d := 16) (by omega) (by decide) (by decide)) (b := 47) rfl) ?_
      refine r_icmp_ne (dk_at ktX2_rightKind_0 34 rfl) (b := 54) (by decide) (b2 := 50) rfl (fun c47 => ?_) (fun c47 => ?_)
      · have c47 : ¬ (a % 16) = ((a / 4096 + ((a / 16 % 256) / 16) + ((a / 16 % 256) % 16)) % 16) := fun h => c47 ((nI_eq (a := a % 16) (b := (a / 4096 + ((a / 16 % 256) / 16) + ((a / 16 % 256) % 16)) % 16) (by omega) (by omega)).mpr h)
        refine rc_p (p_iconst (v := 0) (dk_at ktX2_rightKind_0 37 rfl) (by decide) (b := 55) rfl) ?_
        refine rc_p (p_istore (ls' := [(4, .int 0), (3, .int 0), (2, .int (nI (a / 16 % 256))), (1, .int (nI (a / 4096))), (0, .int (nI a))]) (dk_at ktX2_rightKind_0 38 rfl) (by decide) rfl (b := 57) rfl) ?_
        refine rc_p (p_iload_n 3 (dk_at ktX2_rightKind_0 39 rfl) rfl rfl (b := 58) rfl) ?_
        refine rc_p (p_iconst (v := 1) (dk_at ktX2_rightKind_0 40 rfl) (by decide) (b := 59) rfl) ?_
        refine r_icmp_lt (dk_at ktX2_rightKind_0 41 rfl) (b := 82) (by decide) (b2 := 62) rfl (fun c59 => ?_) (fun c59 => ?_)
        · have c59 : (a / 4096) < 1 := (nI_ltI (a := a / 4096) (b := 1) (by omega) (by omega)).mp c59
          refine rc_p (p_iconst (v := 0) (dk_at ktX2_rightKind_0 52 rfl) (by decide) (b := 83) rfl) ?_
          refine r_iret (dk_at ktX2_rightKind_0 53 rfl) rfl rfl ⟨_, rfl, ?_⟩
          refine ⟨?_, rfl, rfl⟩
          unfold rkN
          rw [if_neg (by omega)]; rfl
        · have c59 : ¬ (a / 4096) < 1 := fun h => c59 ((nI_ltI (a := a / 4096) (b := 1) (by omega) (by omega)).mpr h)
          refine rc_p (p_iload_n 3 (dk_at ktX2_rightKind_0 42 rfl) rfl rfl (b := 63) rfl) ?_
          refine rc_p (p_bipush (v := 6) (dk_at ktX2_rightKind_0 43 rfl) (by decide) (b := 65) rfl) ?_
          refine r_icmp_gt (dk_at ktX2_rightKind_0 44 rfl) (b := 82) (by decide) (b2 := 68) rfl (fun c65 => ?_) (fun c65 => ?_)
          · have c65 : 6 < (a / 4096) := (nI_ltI (a := 6) (b := a / 4096) (by omega) (by omega)).mp c65
            refine rc_p (p_iconst (v := 0) (dk_at ktX2_rightKind_0 52 rfl) (by decide) (b := 83) rfl) ?_
            refine r_iret (dk_at ktX2_rightKind_0 53 rfl) rfl rfl ⟨_, rfl, ?_⟩
            refine ⟨?_, rfl, rfl⟩
            unfold rkN
            rw [if_neg (by omega)]; rfl
          · have c65 : ¬ 6 < (a / 4096) := fun h => c65 ((nI_ltI (a := 6) (b := a / 4096) (by omega) (by omega)).mpr h)
            refine rc_p (p_iload 0 (dk_at ktX2_rightKind_0 45 rfl) rfl (b := 70) rfl) ?_
            refine r_if_eq (dk_at ktX2_rightKind_0 46 rfl) (b := 82) (by decide) (b2 := 73) rfl (fun c70 => ?_) (fun c70 => ?_)
            · skip
              refine rc_p (p_iconst (v := 0) (dk_at ktX2_rightKind_0 52 rfl) (by decide) (b := 83) rfl) ?_
              refine r_iret (dk_at ktX2_rightKind_0 53 rfl) rfl rfl ⟨_, rfl, ?_⟩
              refine ⟨?_, rfl, rfl⟩
              unfold rkN
              rw [if_neg (by omega)]; rfl
            · first | exact absurd c70 (by decide) | exact absurd (by decide) c70
      · have c47 : (a % 16) = ((a / 4096 + ((a / 16 % 256) / 16) + ((a / 16 % 256) % 16)) % 16) := (nI_eq (a := a % 16) (b := (a / 4096 + ((a / 16 % 256) / 16) + ((a / 16 % 256) % 16)) % 16) (by omega) (by omega)).mp c47
        refine rc_p (p_iconst (v := 1) (dk_at ktX2_rightKind_0 35 rfl) (by decide) (b := 51) rfl) ?_
        refine rc_p (p_goto (b := 55) (dk_at ktX2_rightKind_0 36 rfl) (by decide)) ?_
        refine rc_p (p_istore (ls' := [(4, .int 1), (3, .int 0), (2, .int (nI (a / 16 % 256))), (1, .int (nI (a / 4096))), (0, .int (nI a))]) (dk_at ktX2_rightKind_0 38 rfl) (by decide) rfl (b := 57) rfl) ?_
        refine rc_p (p_iload_n 3 (dk_at ktX2_rightKind_0 39 rfl) rfl rfl (b := 58) rfl) ?_
        refine rc_p (p_iconst (v := 1) (dk_at ktX2_rightKind_0 40 rfl) (by decide) (b := 59) rfl) ?_
        refine r_icmp_lt (dk_at ktX2_rightKind_0 41 rfl) (b := 82) (by decide) (b2 := 62) rfl (fun c59 => ?_) (fun c59 => ?_)
        · have c59 : (a / 4096) < 1 := (nI_ltI (a := a / 4096) (b := 1) (by omega) (by omega)).mp c59
          refine rc_p (p_iconst (v := 0) (dk_at ktX2_rightKind_0 52 rfl) (by decide) (b := 83) rfl) ?_
          refine r_iret (dk_at ktX2_rightKind_0 53 rfl) rfl rfl ⟨_, rfl, ?_⟩
          refine ⟨?_, rfl, rfl⟩
          unfold rkN
          rw [if_neg (by omega)]; rfl
        · have c59 : ¬ (a / 4096) < 1 := fun h => c59 ((nI_ltI (a := a / 4096) (b := 1) (by omega) (by omega)).mpr h)
          refine rc_p (p_iload_n 3 (dk_at ktX2_rightKind_0 42 rfl) rfl rfl (b := 63) rfl) ?_
          refine rc_p (p_bipush (v := 6) (dk_at ktX2_rightKind_0 43 rfl) (by decide) (b := 65) rfl) ?_
          refine r_icmp_gt (dk_at ktX2_rightKind_0 44 rfl) (b := 82) (by decide) (b2 := 68) rfl (fun c65 => ?_) (fun c65 => ?_)
          · have c65 : 6 < (a / 4096) := (nI_ltI (a := 6) (b := a / 4096) (by omega) (by omega)).mp c65
            refine rc_p (p_iconst (v := 0) (dk_at ktX2_rightKind_0 52 rfl) (by decide) (b := 83) rfl) ?_
            refine r_iret (dk_at ktX2_rightKind_0 53 rfl) rfl rfl ⟨_, rfl, ?_⟩
            refine ⟨?_, rfl, rfl⟩
            unfold rkN
            rw [if_neg (by omega)]; rfl
          · have c65 : ¬ 6 < (a / 4096) := fun h => c65 ((nI_ltI (a := 6) (b := a / 4096) (by omega) (by omega)).mpr h)
            refine rc_p (p_iload 0 (dk_at ktX2_rightKind_0 45 rfl) rfl (b := 70) rfl) ?_
            refine r_if_eq (dk_at ktX2_rightKind_0 46 rfl) (b := 82) (by decide) (b2 := 73) rfl (fun c70 => ?_) (fun c70 => ?_)
            · first | exact absurd c70 (by decide) | exact absurd (by decide) c70
            · skip
              refine rc_p (p_iload_n 1 (dk_at ktX2_rightKind_0 47 rfl) rfl rfl (b := 74) rfl) ?_
              refine r_if_eq (dk_at ktX2_rightKind_0 48 rfl) (b := 84) (by decide) (b2 := 77) rfl (fun c74 => ?_) (fun c74 => ?_)
              · skip
                refine rc_p (p_iload_n 3 (dk_at ktX2_rightKind_0 54 rfl) rfl rfl (b := 85) rfl) ?_
                refine r_iret (dk_at ktX2_rightKind_0 55 rfl) rfl rfl ⟨_, rfl, ?_⟩
                refine ⟨?_, rfl, rfl⟩
                unfold rkN
                rw [if_pos (by omega)]
              · first | exact absurd c74 (by decide) | exact absurd (by decide) c74
    · have c20 : ¬ 5 < (a / 4096) := fun h => c20 ((nI_ltI (a := 5) (b := a / 4096) (by omega) (by omega)).mpr h)
      refine rc_p (p_iconst (v := 1) (dk_at ktX2_rightKind_0 16 rfl) (by decide) (b := 24) rfl) ?_
      refine rc_p (p_goto (b := 28) (dk_at ktX2_rightKind_0 17 rfl) (by decide)) ?_
      refine rc_p (p_istore_n (ls' := [(3, .int 1), (2, .int (nI (a / 16 % 256))), (1, .int (nI (a / 4096))), (0, .int (nI a))]) (dk_at ktX2_rightKind_0 19 rfl) rfl (by decide) rfl (b := 29) rfl) ?_
      refine rc_p (p_iload_n 3 (dk_at ktX2_rightKind_0 20 rfl) rfl rfl (b := 30) rfl) ?_
      refine rc_p (p_bipush (v := 15) (dk_at ktX2_rightKind_0 21 rfl) (by decide) (b := 32) rfl) ?_
      refine rc_p (p_iand (v := (nI (a % 16))) (dk_at ktX2_rightKind_0 22 rfl) (an15 (by omega)) (b := 33) rfl) ?_
      refine rc_p (p_iload_n 2 (dk_at ktX2_rightKind_0 23 rfl) rfl rfl (b := 34) rfl) ?_
      refine rc_p (p_iload_n 1 (dk_at ktX2_rightKind_0 24 rfl) rfl rfl (b := 35) rfl) ?_
      refine rc_p (p_bipush (v := 16) (dk_at ktX2_rightKind_0 25 rfl) (by decide) (b := 37) rfl) ?_
      refine rc_p (p_idiv (v := (nI ((a / 16 % 256) / 16))) (dk_at ktX2_rightKind_0 26 rfl) (by decide) (pk_div (a := a / 16 % 256) (d := 16) (by omega) (by decide) (by decide)) (b := 38) rfl) ?_
      refine rc_p (p_iadd (v := (nI (a / 4096 + ((a / 16 % 256) / 16)))) (dk_at ktX2_rightKind_0 27 rfl) (nI_add (a / 4096) ((a / 16 % 256) / 16)) (b := 39) rfl) ?_
      refine rc_p (p_iload_n 1 (dk_at ktX2_rightKind_0 28 rfl) rfl rfl (b := 40) rfl) ?_
      refine rc_p (p_bipush (v := 16) (dk_at ktX2_rightKind_0 29 rfl) (by decide) (b := 42) rfl) ?_
      refine rc_p (p_irem (v := (nI ((a / 16 % 256) % 16))) (dk_at ktX2_rightKind_0 30 rfl) (by decide) (pk_rem (a := a / 16 % 256) (d := 16) (by omega) (by decide) (by decide)) (b := 43) rfl) ?_
      refine rc_p (p_iadd (v := (nI (a / 4096 + ((a / 16 % 256) / 16) + ((a / 16 % 256) % 16)))) (dk_at ktX2_rightKind_0 31 rfl) (nI_add (a / 4096 + ((a / 16 % 256) / 16)) ((a / 16 % 256) % 16)) (b := 44) rfl) ?_
      refine rc_p (p_bipush (v := 16) (dk_at ktX2_rightKind_0 32 rfl) (by decide) (b := 46) rfl) ?_
      refine rc_p (p_irem (v := (nI ((a / 4096 + ((a / 16 % 256) / 16) + ((a / 16 % 256) % 16)) % 16))) (dk_at ktX2_rightKind_0 33 rfl) (by decide) (pk_rem (a := a / 4096 + ((a / 16 % 256) / 16) + ((a / 16 % 256) % 16)) (d := 16) (by omega) (by decide) (by decide)) (b := 47) rfl) ?_
      refine r_icmp_ne (dk_at ktX2_rightKind_0 34 rfl) (b := 54) (by decide) (b2 := 50) rfl (fun c47 => ?_) (fun c47 => ?_)
      · have c47 : ¬ (a % 16) = ((a / 4096 + ((a / 16 % 256) / 16) + ((a / 16 % 256) % 16)) % 16) := fun h => c47 ((nI_eq (a := a % 16) (b := (a / 4096 + ((a / 16 % 256) / 16) + ((a / 16 % 256) % 16)) % 16) (by omega) (by omega)).mpr h)
        refine rc_p (p_iconst (v := 0) (dk_at ktX2_rightKind_0 37 rfl) (by decide) (b := 55) rfl) ?_
        refine rc_p (p_istore (ls' := [(4, .int 0), (3, .int 1), (2, .int (nI (a / 16 % 256))), (1, .int (nI (a / 4096))), (0, .int (nI a))]) (dk_at ktX2_rightKind_0 38 rfl) (by decide) rfl (b := 57) rfl) ?_
        refine rc_p (p_iload_n 3 (dk_at ktX2_rightKind_0 39 rfl) rfl rfl (b := 58) rfl) ?_
        refine rc_p (p_iconst (v := 1) (dk_at ktX2_rightKind_0 40 rfl) (by decide) (b := 59) rfl) ?_
        refine r_icmp_lt (dk_at ktX2_rightKind_0 41 rfl) (b := 82) (by decide) (b2 := 62) rfl (fun c59 => ?_) (fun c59 => ?_)
        · have c59 : (a / 4096) < 1 := (nI_ltI (a := a / 4096) (b := 1) (by omega) (by omega)).mp c59
          refine rc_p (p_iconst (v := 0) (dk_at ktX2_rightKind_0 52 rfl) (by decide) (b := 83) rfl) ?_
          refine r_iret (dk_at ktX2_rightKind_0 53 rfl) rfl rfl ⟨_, rfl, ?_⟩
          refine ⟨?_, rfl, rfl⟩
          unfold rkN
          rw [if_neg (by omega)]; rfl
        · have c59 : ¬ (a / 4096) < 1 := fun h => c59 ((nI_ltI (a := a / 4096) (b := 1) (by omega) (by omega)).mpr h)
          refine rc_p (p_iload_n 3 (dk_at ktX2_rightKind_0 42 rfl) rfl rfl (b := 63) rfl) ?_
          refine rc_p (p_bipush (v := 6) (dk_at ktX2_rightKind_0 43 rfl) (by decide) (b := 65) rfl) ?_
          refine r_icmp_gt (dk_at ktX2_rightKind_0 44 rfl) (b := 82) (by decide) (b2 := 68) rfl (fun c65 => ?_) (fun c65 => ?_)
          · have c65 : 6 < (a / 4096) := (nI_ltI (a := 6) (b := a / 4096) (by omega) (by omega)).mp c65
            refine rc_p (p_iconst (v := 0) (dk_at ktX2_rightKind_0 52 rfl) (by decide) (b := 83) rfl) ?_
            refine r_iret (dk_at ktX2_rightKind_0 53 rfl) rfl rfl ⟨_, rfl, ?_⟩
            refine ⟨?_, rfl, rfl⟩
            unfold rkN
            rw [if_neg (by omega)]; rfl
          · have c65 : ¬ 6 < (a / 4096) := fun h => c65 ((nI_ltI (a := 6) (b := a / 4096) (by omega) (by omega)).mpr h)
            refine rc_p (p_iload 0 (dk_at ktX2_rightKind_0 45 rfl) rfl (b := 70) rfl) ?_
            refine r_if_eq (dk_at ktX2_rightKind_0 46 rfl) (b := 82) (by decide) (b2 := 73) rfl (fun c70 => ?_) (fun c70 => ?_)
            · skip
              refine rc_p (p_iconst (v := 0) (dk_at ktX2_rightKind_0 52 rfl) (by decide) (b := 83) rfl) ?_
              refine r_iret (dk_at ktX2_rightKind_0 53 rfl) rfl rfl ⟨_, rfl, ?_⟩
              refine ⟨?_, rfl, rfl⟩
              unfold rkN
              rw [if_neg (by omega)]; rfl
            · first | exact absurd c70 (by decide) | exact absurd (by decide) c70
      · have c47 : (a % 16) = ((a / 4096 + ((a / 16 % 256) / 16) + ((a / 16 % 256) % 16)) % 16) := (nI_eq (a := a % 16) (b := (a / 4096 + ((a / 16 % 256) / 16) + ((a / 16 % 256) % 16)) % 16) (by omega) (by omega)).mp c47
        refine rc_p (p_iconst (v := 1) (dk_at ktX2_rightKind_0 35 rfl) (by decide) (b := 51) rfl) ?_
        refine rc_p (p_goto (b := 55) (dk_at ktX2_rightKind_0 36 rfl) (by decide)) ?_
        refine rc_p (p_istore (ls' := [(4, .int 1), (3, .int 1), (2, .int (nI (a / 16 % 256))), (1, .int (nI (a / 4096))), (0, .int (nI a))]) (dk_at ktX2_rightKind_0 38 rfl) (by decide) rfl (b := 57) rfl) ?_
        refine rc_p (p_iload_n 3 (dk_at ktX2_rightKind_0 39 rfl) rfl rfl (b := 58) rfl) ?_
        refine rc_p (p_iconst (v := 1) (dk_at ktX2_rightKind_0 40 rfl) (by decide) (b := 59) rfl) ?_
        refine r_icmp_lt (dk_at ktX2_rightKind_0 41 rfl) (b := 82) (by decide) (b2 := 62) rfl (fun c59 => ?_) (fun c59 => ?_)
        · have c59 : (a / 4096) < 1 := (nI_ltI (a := a / 4096) (b := 1) (by omega) (by omega)).mp c59
          refine rc_p (p_iconst (v := 0) (dk_at ktX2_rightKind_0 52 rfl) (by decide) (b := 83) rfl) ?_
          refine r_iret (dk_at ktX2_rightKind_0 53 rfl) rfl rfl ⟨_, rfl, ?_⟩
          refine ⟨?_, rfl, rfl⟩
          unfold rkN
          rw [if_neg (by omega)]; rfl
        · have c59 : ¬ (a / 4096) < 1 := fun h => c59 ((nI_ltI (a := a / 4096) (b := 1) (by omega) (by omega)).mpr h)
          refine rc_p (p_iload_n 3 (dk_at ktX2_rightKind_0 42 rfl) rfl rfl (b := 63) rfl) ?_
          refine rc_p (p_bipush (v := 6) (dk_at ktX2_rightKind_0 43 rfl) (by decide) (b := 65) rfl) ?_
          refine r_icmp_gt (dk_at ktX2_rightKind_0 44 rfl) (b := 82) (by decide) (b2 := 68) rfl (fun c65 => ?_) (fun c65 => ?_)
          · have c65 : 6 < (a / 4096) := (nI_ltI (a := 6) (b := a / 4096) (by omega) (by omega)).mp c65
            refine rc_p (p_iconst (v := 0) (dk_at ktX2_rightKind_0 52 rfl) (by decide) (b := 83) rfl) ?_
            refine r_iret (dk_at ktX2_rightKind_0 53 rfl) rfl rfl ⟨_, rfl, ?_⟩
            refine ⟨?_, rfl, rfl⟩
            unfold rkN
            rw [if_neg (by omega)]; rfl
          · have c65 : ¬ 6 < (a / 4096) := fun h => c65 ((nI_ltI (a := 6) (b := a / 4096) (by omega) (by omega)).mpr h)
            refine rc_p (p_iload 0 (dk_at ktX2_rightKind_0 45 rfl) rfl (b := 70) rfl) ?_
            refine r_if_eq (dk_at ktX2_rightKind_0 46 rfl) (b := 82) (by decide) (b2 := 73) rfl (fun c70 => ?_) (fun c70 => ?_)
            · first | exact absurd c70 (by decide) | exact absurd (by decide) c70
            · skip
              refine rc_p (p_iload_n 1 (dk_at ktX2_rightKind_0 47 rfl) rfl rfl (b := 74) rfl) ?_
              refine r_if_eq (dk_at ktX2_rightKind_0 48 rfl) (b := 84) (by decide) (b2 := 77) rfl (fun c74 => ?_) (fun c74 => ?_)
              · first | exact absurd c74 (by decide) | exact absurd (by decide) c74
              · skip
                refine rc_p (p_iload_n 2 (dk_at ktX2_rightKind_0 49 rfl) rfl rfl (b := 78) rfl) ?_
                refine rc_p (p_iconst (v := 1) (dk_at ktX2_rightKind_0 50 rfl) (by decide) (b := 79) rfl) ?_
                refine r_icmp_le (dk_at ktX2_rightKind_0 51 rfl) (b := 84) (by decide) (b2 := 82) rfl (fun c79 => ?_) (fun c79 => ?_)
                · have c79 : (a / 16 % 256) ≤ 1 := (nI_leI (a := a / 16 % 256) (b := 1) (by omega) (by omega)).mp c79
                  refine rc_p (p_iload_n 3 (dk_at ktX2_rightKind_0 54 rfl) rfl rfl (b := 85) rfl) ?_
                  refine r_iret (dk_at ktX2_rightKind_0 55 rfl) rfl rfl ⟨_, rfl, ?_⟩
                  refine ⟨?_, rfl, rfl⟩
                  unfold rkN
                  rw [if_pos (by omega)]
                · have c79 : ¬ (a / 16 % 256) ≤ 1 := fun h => c79 ((nI_leI (a := a / 16 % 256) (b := 1) (by omega) (by omega)).mpr h)
                  refine rc_p (p_iconst (v := 0) (dk_at ktX2_rightKind_0 52 rfl) (by decide) (b := 83) rfl) ?_
                  refine r_iret (dk_at ktX2_rightKind_0 53 rfl) rfl rfl ⟨_, rfl, ?_⟩
                  refine ⟨?_, rfl, rfl⟩
                  unfold rkN
                  rw [if_neg (by omega)]; rfl
set_option maxRecDepth 4000 in
set_option maxHeartbeats 4000000 in
theorem s_X2_isEntry {n : Nat} {sh : mS} {G : mG} {I : mI} {J : mJ} {a : Nat} (ha : a < 65536)  : Sp yX2_isEntry cX2_isEntry 2 (some FieldType.boolean) 2 96 0 0 [.int (nI a)] n sh G I J (Qi (fun r_ I_ J_ => bi (entB a) = r_ ∧ I = I_ ∧ J = J_)) nX := by
  refine Sp.of (by decide) (ls := [(0, .int (nI a))]) (fun _ => rfl) (fun _ => Nat.le_of_ble_eq_true rfl) ?_
  refine rc_p (p_iload_n 0 (dk_at ktX2_isEntry_0 0 rfl) rfl rfl (b := 1) rfl) ?_
  refine r_iS (As := [.int (nI a)]) (rest := []) (s_X2_rightKind (a := a) (by omega)) cw_X2_9 qs_X2_rightKind (dk_at ktX2_isEntry_0 1 rfl) rfl rfl (Nat.le_of_ble_eq_true rfl) (by decide) (b := 4) rfl (fun v4 I1 J2 q3 => ?_)
  obtain ⟨rfl, rfl, rfl⟩ := q3
  have hk5 := rkN_le a
  refine rc_p (p_istore_n (ls' := [(1, .int (nI (rkN a))), (0, .int (nI a))]) (dk_at ktX2_isEntry_0 2 rfl) rfl (by decide) rfl (b := 5) rfl) ?_
  refine rc_p (p_iload_n 0 (dk_at ktX2_isEntry_0 3 rfl) rfl rfl (b := 6) rfl) ?_
  refine r_if_eq (dk_at ktX2_isEntry_0 4 rfl) (b := 19) (by decide) (b2 := 9) rfl (fun c6 => ?_) (fun c6 => ?_)
  · have c6 : (rkN a) = 0 := (nI_eq (a := rkN a) (b := 0) (by omega) (by omega)).mp c6
    refine rc_p (p_iconst (v := 0) (dk_at ktX2_isEntry_0 10 rfl) (by decide) (b := 20) rfl) ?_
    refine r_iret (dk_at ktX2_isEntry_0 11 rfl) rfl rfl ⟨_, rfl, ?_⟩
    refine ⟨?_, rfl, rfl⟩
    simp_all [entB, bi]
  · have c6 : ¬ (rkN a) = 0 := fun h => c6 ((nI_eq (a := rkN a) (b := 0) (by omega) (by omega)).mpr h)
    refine rc_p (p_iload_n 0 (dk_at ktX2_isEntry_0 5 rfl) rfl rfl (b := 10) rfl) ?_
    refine rc_p (p_bipush (v := 6) (dk_at ktX2_isEntry_0 6 rfl) (by decide) (b := 12) rfl) ?_
    refine r_icmp_eq (dk_at ktX2_isEntry_0 7 rfl) (b := 19) (by decide) (b2 := 15) rfl (fun c12 => ?_) (fun c12 => ?_)
    · have c12 : (rkN a) = 6 := (nI_eq (a := rkN a) (b := 6) (by omega) (by omega)).mp c12
      refine rc_p (p_iconst (v := 0) (dk_at ktX2_isEntry_0 10 rfl) (by decide) (b := 20) rfl) ?_
      refine r_iret (dk_at ktX2_isEntry_0 11 rfl) rfl rfl ⟨_, rfl, ?_⟩
      refine ⟨?_, rfl, rfl⟩
      simp_all [entB, bi]
    · have c12 : ¬ (rkN a) = 6 := fun h => c12 ((nI_eq (a := rkN a) (b := 6) (by omega) (by omega)).mpr h)
      refine rc_p (p_iconst (v := 1) (dk_at ktX2_isEntry_0 8 rfl) (by decide) (b := 16) rfl) ?_
      refine rc_p (p_goto (b := 20) (dk_at ktX2_isEntry_0 9 rfl) (by decide)) ?_
      refine r_iret (dk_at ktX2_isEntry_0 11 rfl) rfl rfl ⟨_, rfl, ?_⟩
      refine ⟨?_, rfl, rfl⟩
      simp_all [entB, bi]
set_option maxRecDepth 4000 in
set_option maxHeartbeats 4000000 in
theorem s_X2_activePageOf {n : Nat} {sh : mS} {G : mG} {I : mI} {J : mJ} {a b : Nat} (ha : a < 65536) (hb : b < 65536)  : Sp yX2_activePageOf cX2_activePageOf 3 (some FieldType.int) 2 96 0 0 [.int (nI a), .int (nI b)] n sh G I J (Qi (fun r_ I_ J_ => actN a b = r_ ∧ I = I_ ∧ J = J_)) nX := by
  refine Sp.of (by decide) (ls := [(0, .int (nI a)), (1, .int (nI b))]) (fun _ => rfl) (fun _ => Nat.le_of_ble_eq_true rfl) ?_
  have hdn : dN a b < 256 := Nat.mod_lt _ (by decide)
  refine rc_p (p_iload_n 0 (dk_at ktX2_activePageOf_0 0 rfl) rfl rfl (b := 1) rfl) ?_
  refine r_iS (As := [.int (nI a)]) (rest := []) (s_X2_rightKind (a := a) (by omega)) cw_X2_9 qs_X2_rightKind (dk_at ktX2_activePageOf_0 1 rfl) rfl rfl (Nat.le_of_ble_eq_true rfl) (by decide) (b := 4) rfl (fun v4 I1 J2 q3 => ?_)
  obtain ⟨rfl, rfl, rfl⟩ := q3
  have hk5 := rkN_le a
  refine rc_p (p_bipush (v := 6) (dk_at ktX2_activePageOf_0 2 rfl) (by decide) (b := 6) rfl) ?_
  refine r_icmp_eq (dk_at ktX2_activePageOf_0 3 rfl) (b := 24) (by decide) (b2 := 9) rfl (fun c6 => ?_) (fun c6 => ?_)
  · have c6 : (rkN a) = 6 := (nI_eq (a := rkN a) (b := 6) (by omega) (by omega)).mp c6
    refine rc_p (p_iload_n 1 (dk_at ktX2_activePageOf_0 12 rfl) rfl rfl (b := 25) rfl) ?_
    refine r_iS (As := [.int (nI b)]) (rest := []) (s_X2_rightKind (a := b) (by omega)) cw_X2_9 qs_X2_rightKind (dk_at ktX2_activePageOf_0 13 rfl) rfl rfl (Nat.le_of_ble_eq_true rfl) (by decide) (b := 28) rfl (fun v9 I6 J7 q8 => ?_)
    obtain ⟨rfl, rfl, rfl⟩ := q8
    have hk10 := rkN_le b
    refine rc_p (p_bipush (v := 6) (dk_at ktX2_activePageOf_0 14 rfl) (by decide) (b := 30) rfl) ?_
    refine r_icmp_eq (dk_at ktX2_activePageOf_0 15 rfl) (b := 35) (by decide) (b2 := 33) rfl (fun c30 => ?_) (fun c30 => ?_)
    · have c30 : (rkN b) = 6 := (nI_eq (a := rkN b) (b := 6) (by omega) (by omega)).mp c30
      refine rc_p (p_iload_n 1 (dk_at ktX2_activePageOf_0 18 rfl) rfl rfl (b := 36) rfl) ?_
      refine r_iS (As := [.int (nI b)]) (rest := []) (s_X2_valueOf (a := b) (by omega)) cw_X2_15 qs_X2_valueOf (dk_at ktX2_activePageOf_0 19 rfl) rfl rfl (Nat.le_of_ble_eq_true rfl) (by decide) (b := 39) rfl (fun v14 I11 J12 q13 => ?_)
      obtain ⟨rfl, rfl, rfl⟩ := q13
      refine rc_p (p_iload_n 0 (dk_at ktX2_activePageOf_0 20 rfl) rfl rfl (b := 40) rfl) ?_
      refine r_iS (As := [.int (nI a)]) (rest := [.int (nI (b / 16 % 256))]) (s_X2_valueOf (a := a) (by omega)) cw_X2_15 qs_X2_valueOf (dk_at ktX2_activePageOf_0 21 rfl) rfl rfl (Nat.le_of_ble_eq_true rfl) (by decide) (b := 43) rfl (fun v18 I15 J16 q17 => ?_)
      obtain ⟨rfl, rfl, rfl⟩ := q17
      refine rc_p (p_isub (v := ((nI (b / 16 % 256)) - (nI (a / 16 % 256)))) (dk_at ktX2_activePageOf_0 22 rfl) rfl (b := 44) rfl) ?_
      refine rc_p (p_sipush (v := 255) (dk_at ktX2_activePageOf_0 23 rfl) (by decide) (b := 47) rfl) ?_
      refine rc_p (p_iand (v := (nI (dN a b))) (dk_at ktX2_activePageOf_0 24 rfl) (sub255 (by omega) (by omega)) (b := 48) rfl) ?_
      refine rc_p (p_istore_n (ls' := [(2, .int (nI (dN a b))), (0, .int (nI a)), (1, .int (nI b))]) (dk_at ktX2_activePageOf_0 25 rfl) rfl (by decide) rfl (b := 49) rfl) ?_
      refine rc_p (p_iload_n 0 (dk_at ktX2_activePageOf_0 26 rfl) rfl rfl (b := 50) rfl) ?_
      refine rc_p (p_iconst (v := 1) (dk_at ktX2_activePageOf_0 27 rfl) (by decide) (b := 51) rfl) ?_
      refine r_icmp_lt (dk_at ktX2_activePageOf_0 28 rfl) (b := 64) (by decide) (b2 := 54) rfl (fun c51 => ?_) (fun c51 => ?_)
      · have c51 : (dN a b) < 1 := (nI_ltI (a := dN a b) (b := 1) (by omega) (by omega)).mp c51
        refine rc_p (p_iconst (v := 0) (dk_at ktX2_activePageOf_0 34 rfl) (by decide) (b := 65) rfl) ?_
        refine r_iret (dk_at ktX2_activePageOf_0 35 rfl) rfl rfl ⟨_, rfl, ?_⟩
        refine ⟨?_, rfl, rfl⟩
        unfold actN
        simp_all <;> omega
      · have c51 : ¬ (dN a b) < 1 := fun h => c51 ((nI_ltI (a := dN a b) (b := 1) (by omega) (by omega)).mpr h)
        refine rc_p (p_iload_n 0 (dk_at ktX2_activePageOf_0 29 rfl) rfl rfl (b := 55) rfl) ?_
        refine rc_p (p_bipush (v := 127) (dk_at ktX2_activePageOf_0 30 rfl) (by decide) (b := 57) rfl) ?_
        refine r_icmp_gt (dk_at ktX2_activePageOf_0 31 rfl) (b := 64) (by decide) (b2 := 60) rfl (fun c57 => ?_) (fun c57 => ?_)
        · have c57 : 127 < (dN a b) := (nI_ltI (a := 127) (b := dN a b) (by omega) (by omega)).mp c57
          refine rc_p (p_iconst (v := 0) (dk_at ktX2_activePageOf_0 34 rfl) (by decide) (b := 65) rfl) ?_
          refine r_iret (dk_at ktX2_activePageOf_0 35 rfl) rfl rfl ⟨_, rfl, ?_⟩
          refine ⟨?_, rfl, rfl⟩
          unfold actN
          simp_all <;> omega
        · have c57 : ¬ 127 < (dN a b) := fun h => c57 ((nI_ltI (a := 127) (b := dN a b) (by omega) (by omega)).mpr h)
          refine rc_p (p_iconst (v := 1) (dk_at ktX2_activePageOf_0 32 rfl) (by decide) (b := 61) rfl) ?_
          refine rc_p (p_goto (b := 65) (dk_at ktX2_activePageOf_0 33 rfl) (by decide)) ?_
          refine r_iret (dk_at ktX2_activePageOf_0 35 rfl) rfl rfl ⟨_, rfl, ?_⟩
          refine ⟨?_, rfl, rfl⟩
          unfold actN
          simp_all <;> omega
    · have c30 : ¬ (rkN b) = 6 := fun h => c30 ((nI_eq (a := rkN b) (b := 6) (by omega) (by omega)).mpr h)
      refine rc_p (p_iconst (v := 0) (dk_at ktX2_activePageOf_0 16 rfl) (by decide) (b := 34) rfl) ?_
      refine r_iret (dk_at ktX2_activePageOf_0 17 rfl) rfl rfl ⟨_, rfl, ?_⟩
      refine ⟨?_, rfl, rfl⟩
      unfold actN
      simp_all <;> omega
  · have c6 : ¬ (rkN a) = 6 := fun h => c6 ((nI_eq (a := rkN a) (b := 6) (by omega) (by omega)).mpr h)
    refine rc_p (p_iload_n 1 (dk_at ktX2_activePageOf_0 4 rfl) rfl rfl (b := 10) rfl) ?_
    refine r_iS (As := [.int (nI b)]) (rest := []) (s_X2_rightKind (a := b) (by omega)) cw_X2_9 qs_X2_rightKind (dk_at ktX2_activePageOf_0 5 rfl) rfl rfl (Nat.le_of_ble_eq_true rfl) (by decide) (b := 13) rfl (fun v22 I19 J20 q21 => ?_)
    obtain ⟨rfl, rfl, rfl⟩ := q21
    have hk23 := rkN_le b
    refine rc_p (p_bipush (v := 6) (dk_at ktX2_activePageOf_0 6 rfl) (by decide) (b := 15) rfl) ?_
    refine r_icmp_ne (dk_at ktX2_activePageOf_0 7 rfl) (b := 22) (by decide) (b2 := 18) rfl (fun c15 => ?_) (fun c15 => ?_)
    · have c15 : ¬ (rkN b) = 6 := fun h => c15 ((nI_eq (a := rkN b) (b := 6) (by omega) (by omega)).mpr h)
      refine rc_p (p_iconst (v := (-1)) (dk_at ktX2_activePageOf_0 10 rfl) (by decide) (b := 23) rfl) ?_
      refine r_iret (dk_at ktX2_activePageOf_0 11 rfl) rfl rfl ⟨_, rfl, ?_⟩
      refine ⟨?_, rfl, rfl⟩
      unfold actN
      simp_all <;> omega
    · have c15 : (rkN b) = 6 := (nI_eq (a := rkN b) (b := 6) (by omega) (by omega)).mp c15
      refine rc_p (p_iconst (v := 1) (dk_at ktX2_activePageOf_0 8 rfl) (by decide) (b := 19) rfl) ?_
      refine rc_p (p_goto (b := 23) (dk_at ktX2_activePageOf_0 9 rfl) (by decide)) ?_
      refine r_iret (dk_at ktX2_activePageOf_0 11 rfl) rfl rfl ⟨_, rfl, ?_⟩
      refine ⟨?_, rfl, rfl⟩
      unfold actN
      simp_all <;> omega
set_option maxRecDepth 4000 in
set_option maxHeartbeats 4000000 in
theorem s_X2_forgetFresh {n : Nat} {sh : mS} {G : mG} {I : mI} {J : mJ} {d : Nat} (hd : DevG n sh G d) (v f g : Int32) (h7 : I (d + 16) 7 = f) (h8 : I (d + 16) 8 = g) : Sp yX2_forgetFresh cX2_forgetFresh 2 none 1 48 0 0 [.ref (d + 16), .int v] n sh G I J (Qv (fun I_ J_ => J = J_ ∧ FF (d + 16) [] [7, 8] I I_ ∧ I_ (d + 16) 7 = (if f = v then -1 else f) ∧ I_ (d + 16) 8 = (if f = v then 0 else g))) nX := by
  refine Sp.of (by decide) (ls := [(0, .ref (d + 16)), (1, .int v)]) (fun _ => rfl) (fun _ => Nat.le_of_ble_eq_true rfl) ?_
  refine rc_p (p_iload_n 1 (dk_at ktX2_forgetFresh_0 0 rfl) rfl rfl (b := 1) rfl) ?_
  refine rc_p (p_aload_n 0 (dk_at ktX2_forgetFresh_0 1 rfl) rfl rfl (b := 2) rfl) ?_
  refine r_geti fl_X2_50 rfl (hd.lt 16 (by decide)) hd.s16 (dk_at ktX2_forgetFresh_0 2 rfl) (v := f) h7 (b := 5) rfl ?_
  refine r_icmp_ne (dk_at ktX2_forgetFresh_0 3 rfl) (b := 18) (by decide) (b2 := 8) rfl (fun c5 => ?_) (fun c5 => ?_)
  · skip
    refine r_vret (dk_at ktX2_forgetFresh_0 10 rfl) rfl ⟨rfl, ?_⟩
    refine ⟨rfl, ?_, ?_, ?_⟩
    · repeat (first | exact FF.rf | refine FF.uf ?_ (by decide))
    · rw [if_neg (fun q => c5 q.symm)]; exact h7
    · rw [if_neg (fun q => c5 q.symm)]; exact h8
  · skip
    refine rc_p (p_aload_n 0 (dk_at ktX2_forgetFresh_0 4 rfl) rfl rfl (b := 9) rfl) ?_
    refine rc_p (p_iconst (v := (-1)) (dk_at ktX2_forgetFresh_0 5 rfl) (by decide) (b := 10) rfl) ?_
    refine r_puti fl_X2_50 fw_X2_7 rfl (hd.lt 16 (by decide)) hd.s16 rfl rfl (dk_at ktX2_forgetFresh_0 6 rfl) (b := 13) rfl ?_
    refine rc_p (p_aload_n 0 (dk_at ktX2_forgetFresh_0 7 rfl) rfl rfl (b := 14) rfl) ?_
    refine rc_p (p_iconst (v := 0) (dk_at ktX2_forgetFresh_0 8 rfl) (by decide) (b := 15) rfl) ?_
    refine r_puti fl_X2_53 fw_X2_8 rfl (hd.lt 16 (by decide)) hd.s16 rfl rfl (dk_at ktX2_forgetFresh_0 9 rfl) (b := 18) rfl ?_
    refine r_vret (dk_at ktX2_forgetFresh_0 10 rfl) rfl ⟨rfl, ?_⟩
    refine ⟨rfl, ?_, ?_, ?_⟩
    · repeat (first | exact FF.rf | refine FF.uf ?_ (by decide))
    · rw [if_pos c5.symm, up2_k (by decide), up2_s]
    · rw [if_pos c5.symm, up2_s]
set_option maxRecDepth 4000 in
set_option maxHeartbeats 4000000 in
theorem s_X2_take {n : Nat} {sh : mS} {G : mG} {I : mI} {J : mJ} {d : Nat} (hd : DevG n sh G d) {τ : sT} (hT : ∀ j, j < 5 → I (d + 16) (5 + j) = τ j) (k v : Int32) (hk : k = 1 ∨ k = 2 ∨ k = 3 ∨ k = 4 ∨ k = 5) : Sp yX2_take cX2_take 3 none 2 96 0 0 [.ref (d + 16), .int k, .int v] n sh G I J (Qv (fun I_ J_ => J = J_ ∧ (∀ j, j < 5 → I_ (d + 16) (5 + j) = takeI τ k v j) ∧ FF (d + 16) [] [5, 6, 7, 8, 9] I I_)) nX := by
  rcases hk with rfl | rfl | rfl | rfl | rfl
  · refine Sp.of (by decide) (ls := [(0, .ref (d + 16)), (1, .int 1), (2, .int v)]) (fun _ => rfl) (fun _ => Nat.le_of_ble_eq_true rfl) ?_
    refine rc_p (p_iload_n 1 (dk_at ktX2_take_0 0 rfl) rfl rfl (b := 1) rfl) ?_
    refine rc_p (p_tabIn (b := 32) (dk_at ktX2_take_0 1 rfl) (by decide) (by decide) rfl (by decide)) ?_
    refine rc_p (p_aload_n 0 (dk_at ktX2_take_0 2 rfl) rfl rfl (b := 33) rfl) ?_
    refine rc_p (p_aload_n 0 (dk_at ktX2_take_0 3 rfl) rfl rfl (b := 34) rfl) ?_
    refine r_geti fl_X2_44 rfl (hd.lt 16 (by decide)) hd.s16 (dk_at ktX2_take_0 4 rfl) (v := (τ 0)) (hT 0 (by decide)) (b := 37) rfl ?_
    refine rc_p (p_iload_n 2 (dk_at ktX2_take_0 5 rfl) rfl rfl (b := 38) rfl) ?_
    refine r_mmax (v := (if (τ 0) < v then v else (τ 0))) qm_X2_74 qmax_s qmath_n qmax_c (dk_at ktX2_take_0 6 rfl) ⟨by decide, Nat.le_of_ble_eq_true rfl⟩ rfl (b := 41) rfl ?_
    refine r_puti fl_X2_44 fw_X2_5 rfl (hd.lt 16 (by decide)) hd.s16 rfl rfl (dk_at ktX2_take_0 7 rfl) (b := 44) rfl ?_
    refine rc_p (p_goto (b := 163) (dk_at ktX2_take_0 8 rfl) (by decide)) ?_
    refine r_vret (dk_at ktX2_take_1 17 rfl) rfl ⟨rfl, ?_⟩
    refine ⟨rfl, fun j hj => ?_, ?_⟩
    · match j, hj with
      | 0, _ => exact Eq.trans up2_s (by simp [takeI, upd])
      | 1, _ => exact Eq.trans ((up2_n (by omega)).trans (hT 1 (by decide))) (by simp [takeI, upd])
      | 2, _ => exact Eq.trans ((up2_n (by omega)).trans (hT 2 (by decide))) (by simp [takeI, upd])
      | 3, _ => exact Eq.trans ((up2_n (by omega)).trans (hT 3 (by decide))) (by simp [takeI, upd])
      | 4, _ => exact Eq.trans ((up2_n (by omega)).trans (hT 4 (by decide))) (by simp [takeI, upd])
      | j + 5, h => omega
    · exact (FF.uf FF.rf (by decide))
  · refine Sp.of (by decide) (ls := [(0, .ref (d + 16)), (1, .int 2), (2, .int v)]) (fun _ => rfl) (fun _ => Nat.le_of_ble_eq_true rfl) ?_
    refine rc_p (p_iload_n 1 (dk_at ktX2_take_0 0 rfl) rfl rfl (b := 1) rfl) ?_
    refine rc_p (p_tabIn (b := 47) (dk_at ktX2_take_0 1 rfl) (by decide) (by decide) rfl (by decide)) ?_
    refine rc_p (p_aload_n 0 (dk_at ktX2_take_0 9 rfl) rfl rfl (b := 48) rfl) ?_
    refine rc_p (p_iload_n 2 (dk_at ktX2_take_0 10 rfl) rfl rfl (b := 49) rfl) ?_
    refine r_puti fl_X2_47 fw_X2_6 rfl (hd.lt 16 (by decide)) hd.s16 rfl rfl (dk_at ktX2_take_0 11 rfl) (b := 52) rfl ?_
    refine rc_p (p_aload_n 0 (dk_at ktX2_take_0 12 rfl) rfl rfl (b := 53) rfl) ?_
    refine rc_p (p_dup (dk_at ktX2_take_0 13 rfl) rfl (b := 54) rfl) ?_
    refine r_geti fl_X2_56 rfl (hd.lt 16 (by decide)) hd.s16 (dk_at ktX2_take_0 14 rfl) (v := (τ 4)) ((up2_n (by omega)).trans (hT 4 (by decide))) (b := 57) rfl ?_
    refine rc_p (p_iconst (v := 1) (dk_at ktX2_take_0 15 rfl) (by decide) (b := 58) rfl) ?_
    refine rc_p (p_iload_n 2 (dk_at ktX2_take_0 16 rfl) rfl rfl (b := 59) rfl) ?_
    refine rc_p (p_ishl (v := (1 <<< (v &&& 31))) (dk_at ktX2_take_0 17 rfl) rfl (b := 60) rfl) ?_
    refine rc_p (p_iconst (v := (-1)) (dk_at ktX2_take_0 18 rfl) (by decide) (b := 61) rfl) ?_
    refine rc_p (p_ixor (v := ((1 <<< (v &&& 31)) ^^^ (-1))) (dk_at ktX2_take_0 19 rfl) rfl (b := 62) rfl) ?_
    refine rc_p (p_iand (v := ((τ 4) &&& ((1 <<< (v &&& 31)) ^^^ (-1)))) (dk_at ktX2_take_0 20 rfl) rfl (b := 63) rfl) ?_
    refine r_puti fl_X2_56 fw_X2_9 rfl (hd.lt 16 (by decide)) hd.s16 rfl rfl (dk_at ktX2_take_0 21 rfl) (b := 66) rfl ?_
    refine rc_p (p_aload_n 0 (dk_at ktX2_take_0 22 rfl) rfl rfl (b := 67) rfl) ?_
    refine rc_p (p_iload_n 2 (dk_at ktX2_take_0 23 rfl) rfl rfl (b := 68) rfl) ?_
    refine r_vV (As' := [.int v]) (rest := []) (s_X2_forgetFresh hd v (τ 2) (τ 3) ((up2_n (by omega)).trans ((up2_n (by omega)).trans (hT 2 (by decide)))) ((up2_n (by omega)).trans ((up2_n (by omega)).trans (hT 3 (by decide))))) cw_X2_79 qi_X2_forgetFresh qv_X2_forgetFresh rfl (hd.lt 16 (by decide)) hd.s16 (dk_at ktX2_take_0 24 rfl) rfl rfl (Nat.le_of_ble_eq_true rfl) (by decide) (b := 71) rfl (fun I1 J2 q3 => ?_)
    obtain ⟨rfl, hF5, h6, h7⟩ := q3
    refine rc_p (p_goto (b := 163) (dk_at ktX2_take_0 25 rfl) (by decide)) ?_
    refine r_vret (dk_at ktX2_take_1 17 rfl) rfl ⟨rfl, ?_⟩
    refine ⟨rfl, fun j hj => ?_, ?_⟩
    · match j, hj with
      | 0, _ => exact Eq.trans (((hF5.2 5 (by decide))).trans ((up2_n (by omega)).trans ((up2_n (by omega)).trans (hT 0 (by decide))))) (by simp [takeI, upd])
      | 1, _ => exact Eq.trans (((hF5.2 6 (by decide))).trans ((up2_n (by omega)).trans up2_s)) (by simp [takeI, upd])
      | 2, _ => exact Eq.trans h6 (by simp [takeI, upd])
      | 3, _ => exact Eq.trans h7 (by simp [takeI, upd])
      | 4, _ => exact Eq.trans (((hF5.2 9 (by decide))).trans up2_s) (by simp [takeI, upd])
      | j + 5, h => omega
    · exact (FF.tr (FF.uf (FF.uf FF.rf (by decide)) (by decide)) (hF5.mo (by decide) (by decide)))
  · refine Sp.of (by decide) (ls := [(0, .ref (d + 16)), (1, .int 3), (2, .int v)]) (fun _ => rfl) (fun _ => Nat.le_of_ble_eq_true rfl) ?_
    refine rc_p (p_iload_n 1 (dk_at ktX2_take_0 0 rfl) rfl rfl (b := 1) rfl) ?_
    refine rc_p (p_tabIn (b := 74) (dk_at ktX2_take_0 1 rfl) (by decide) (by decide) rfl (by decide)) ?_
    refine rc_p (p_aload_n 0 (dk_at ktX2_take_0 26 rfl) rfl rfl (b := 75) rfl) ?_
    refine rc_p (p_iload_n 2 (dk_at ktX2_take_0 27 rfl) rfl rfl (b := 76) rfl) ?_
    refine r_puti fl_X2_50 fw_X2_7 rfl (hd.lt 16 (by decide)) hd.s16 rfl rfl (dk_at ktX2_take_0 28 rfl) (b := 79) rfl ?_
    refine rc_p (p_aload_n 0 (dk_at ktX2_take_0 29 rfl) rfl rfl (b := 80) rfl) ?_
    refine rc_p (p_dup (dk_at ktX2_take_0 30 rfl) rfl (b := 81) rfl) ?_
    refine r_geti fl_X2_56 rfl (hd.lt 16 (by decide)) hd.s16 (dk_at ktX2_take_0 31 rfl) (v := (τ 4)) ((up2_n (by omega)).trans (hT 4 (by decide))) (b := 84) rfl ?_
    refine rc_p (p_iconst (v := 1) (dk_at ktX2_take_0 32 rfl) (by decide) (b := 85) rfl) ?_
    refine rc_p (p_iload_n 2 (dk_at ktX2_take_0 33 rfl) rfl rfl (b := 86) rfl) ?_
    refine rc_p (p_ishl (v := (1 <<< (v &&& 31))) (dk_at ktX2_take_0 34 rfl) rfl (b := 87) rfl) ?_
    refine rc_p (p_iconst (v := (-1)) (dk_at ktX2_take_0 35 rfl) (by decide) (b := 88) rfl) ?_
    refine rc_p (p_ixor (v := ((1 <<< (v &&& 31)) ^^^ (-1))) (dk_at ktX2_take_0 36 rfl) rfl (b := 89) rfl) ?_
    refine rc_p (p_iand (v := ((τ 4) &&& ((1 <<< (v &&& 31)) ^^^ (-1)))) (dk_at ktX2_take_0 37 rfl) rfl (b := 90) rfl) ?_
    refine r_puti fl_X2_56 fw_X2_9 rfl (hd.lt 16 (by decide)) hd.s16 rfl rfl (dk_at ktX2_take_0 38 rfl) (b := 93) rfl ?_
    refine rc_p (p_aload_n 0 (dk_at ktX2_take_0 39 rfl) rfl rfl (b := 94) rfl) ?_
    refine rc_p (p_iconst (v := 0) (dk_at ktX2_take_0 40 rfl) (by decide) (b := 95) rfl) ?_
    refine r_puti fl_X2_53 fw_X2_8 rfl (hd.lt 16 (by decide)) hd.s16 rfl rfl (dk_at ktX2_take_0 41 rfl) (b := 98) rfl ?_
    refine rc_p (p_goto (b := 163) (dk_at ktX2_take_0 42 rfl) (by decide)) ?_
    refine r_vret (dk_at ktX2_take_1 17 rfl) rfl ⟨rfl, ?_⟩
    refine ⟨rfl, fun j hj => ?_, ?_⟩
    · match j, hj with
      | 0, _ => exact Eq.trans ((up2_n (by omega)).trans ((up2_n (by omega)).trans ((up2_n (by omega)).trans (hT 0 (by decide))))) (by simp [takeI, upd])
      | 1, _ => exact Eq.trans ((up2_n (by omega)).trans ((up2_n (by omega)).trans ((up2_n (by omega)).trans (hT 1 (by decide))))) (by simp [takeI, upd])
      | 2, _ => exact Eq.trans ((up2_n (by omega)).trans ((up2_n (by omega)).trans up2_s)) (by simp [takeI, upd])
      | 3, _ => exact Eq.trans up2_s (by simp [takeI, upd])
      | 4, _ => exact Eq.trans ((up2_n (by omega)).trans up2_s) (by simp [takeI, upd])
      | j + 5, h => omega
    · exact (FF.uf (FF.uf (FF.uf FF.rf (by decide)) (by decide)) (by decide))
  · refine Sp.of (by decide) (ls := [(0, .ref (d + 16)), (1, .int 4), (2, .int v)]) (fun _ => rfl) (fun _ => Nat.le_of_ble_eq_true rfl) ?_
    refine rc_p (p_iload_n 1 (dk_at ktX2_take_0 0 rfl) rfl rfl (b := 1) rfl) ?_
    refine rc_p (p_tabIn (b := 101) (dk_at ktX2_take_0 1 rfl) (by decide) (by decide) rfl (by decide)) ?_
    refine rc_p (p_aload_n 0 (dk_at ktX2_take_0 43 rfl) rfl rfl (b := 102) rfl) ?_
    refine rc_p (p_dup (dk_at ktX2_take_0 44 rfl) rfl (b := 103) rfl) ?_
    refine r_geti fl_X2_53 rfl (hd.lt 16 (by decide)) hd.s16 (dk_at ktX2_take_0 45 rfl) (v := (τ 3)) (hT 3 (by decide)) (b := 106) rfl ?_
    refine rc_p (p_iload_n 2 (dk_at ktX2_take_0 46 rfl) rfl rfl (b := 107) rfl) ?_
    refine rc_p (p_aload_n 0 (dk_at ktX2_take_0 47 rfl) rfl rfl (b := 108) rfl) ?_
    refine r_geti fl_X2_50 rfl (hd.lt 16 (by decide)) hd.s16 (dk_at ktX2_take_0 48 rfl) (v := (τ 2)) (hT 2 (by decide)) (b := 111) rfl ?_
    refine r_icmp_ne (dk_at ktX2_take_0 49 rfl) (b := 118) (by decide) (b2 := 114) rfl (fun c111 => ?_) (fun c111 => ?_)
    · skip
      refine rc_p (p_iconst (v := 0) (dk_at ktX2_take_0 52 rfl) (by decide) (b := 119) rfl) ?_
      refine rc_p (p_iadd (v := ((τ 3) + 0)) (dk_at ktX2_take_0 53 rfl) rfl (b := 120) rfl) ?_
      refine r_puti fl_X2_53 fw_X2_8 rfl (hd.lt 16 (by decide)) hd.s16 rfl rfl (dk_at ktX2_take_0 54 rfl) (b := 123) rfl ?_
      refine rc_p (p_goto (b := 163) (dk_at ktX2_take_0 55 rfl) (by decide)) ?_
      refine r_vret (dk_at ktX2_take_1 17 rfl) rfl ⟨rfl, ?_⟩
      refine ⟨rfl, fun j hj => ?_, ?_⟩
      · have e111 : ¬ τ 2 = v := fun q => c111 q.symm
        match j, hj with
        | 0, _ => exact Eq.trans ((up2_n (by omega)).trans (hT 0 (by decide))) (by simp [takeI, upd, e111])
        | 1, _ => exact Eq.trans ((up2_n (by omega)).trans (hT 1 (by decide))) (by simp [takeI, upd, e111])
        | 2, _ => exact Eq.trans ((up2_n (by omega)).trans (hT 2 (by decide))) (by simp [takeI, upd, e111])
        | 3, _ => exact Eq.trans up2_s (by simp [takeI, upd, e111])
        | 4, _ => exact Eq.trans ((up2_n (by omega)).trans (hT 4 (by decide))) (by simp [takeI, upd, e111])
        | j + 5, h => omega
      · exact (FF.uf FF.rf (by decide))
    · skip
      refine rc_p (p_iconst (v := 1) (dk_at ktX2_take_0 50 rfl) (by decide) (b := 115) rfl) ?_
      refine rc_p (p_goto (b := 119) (dk_at ktX2_take_0 51 rfl) (by decide)) ?_
      refine rc_p (p_iadd (v := ((τ 3) + 1)) (dk_at ktX2_take_0 53 rfl) rfl (b := 120) rfl) ?_
      refine r_puti fl_X2_53 fw_X2_8 rfl (hd.lt 16 (by decide)) hd.s16 rfl rfl (dk_at ktX2_take_0 54 rfl) (b := 123) rfl ?_
      refine rc_p (p_goto (b := 163) (dk_at ktX2_take_0 55 rfl) (by decide)) ?_
      refine r_vret (dk_at ktX2_take_1 17 rfl) rfl ⟨rfl, ?_⟩
      refine ⟨rfl, fun j hj => ?_, ?_⟩
      · have e111 : τ 2 = v := c111.symm
        match j, hj with
        | 0, _ => exact Eq.trans ((up2_n (by omega)).trans (hT 0 (by decide))) (by simp [takeI, upd, e111])
        | 1, _ => exact Eq.trans ((up2_n (by omega)).trans (hT 1 (by decide))) (by simp [takeI, upd, e111])
        | 2, _ => exact Eq.trans ((up2_n (by omega)).trans (hT 2 (by decide))) (by simp [takeI, upd, e111])
        | 3, _ => exact Eq.trans up2_s (by simp [takeI, upd, e111])
        | 4, _ => exact Eq.trans ((up2_n (by omega)).trans (hT 4 (by decide))) (by simp [takeI, upd, e111])
        | j + 5, h => omega
      · exact (FF.uf FF.rf (by decide))
  · refine Sp.of (by decide) (ls := [(0, .ref (d + 16)), (1, .int 5), (2, .int v)]) (fun _ => rfl) (fun _ => Nat.le_of_ble_eq_true rfl) ?_
    refine rc_p (p_iload_n 1 (dk_at ktX2_take_0 0 rfl) rfl rfl (b := 1) rfl) ?_
    refine rc_p (p_tabOut (b := 126) (dk_at ktX2_take_0 1 rfl) (by decide) (by decide)) ?_
    refine rc_p (p_aload_n 0 (dk_at ktX2_take_0 56 rfl) rfl rfl (b := 127) rfl) ?_
    refine rc_p (p_dup (dk_at ktX2_take_0 57 rfl) rfl (b := 128) rfl) ?_
    refine r_geti fl_X2_56 rfl (hd.lt 16 (by decide)) hd.s16 (dk_at ktX2_take_0 58 rfl) (v := (τ 4)) (hT 4 (by decide)) (b := 131) rfl ?_
    refine rc_p (p_iconst (v := 1) (dk_at ktX2_take_0 59 rfl) (by decide) (b := 132) rfl) ?_
    refine rc_p (p_iload_n 2 (dk_at ktX2_take_1 0 rfl) rfl rfl (b := 133) rfl) ?_
    refine rc_p (p_ishl (v := (1 <<< (v &&& 31))) (dk_at ktX2_take_1 1 rfl) rfl (b := 134) rfl) ?_
    refine rc_p (p_ior (v := ((τ 4) ||| (1 <<< (v &&& 31)))) (dk_at ktX2_take_1 2 rfl) rfl (b := 135) rfl) ?_
    refine r_puti fl_X2_56 fw_X2_9 rfl (hd.lt 16 (by decide)) hd.s16 rfl rfl (dk_at ktX2_take_1 3 rfl) (b := 138) rfl ?_
    refine rc_p (p_aload_n 0 (dk_at ktX2_take_1 4 rfl) rfl rfl (b := 139) rfl) ?_
    refine rc_p (p_iload_n 2 (dk_at ktX2_take_1 5 rfl) rfl rfl (b := 140) rfl) ?_
    refine r_vV (As' := [.int v]) (rest := []) (s_X2_forgetFresh hd v (τ 2) (τ 3) ((up2_n (by omega)).trans (hT 2 (by decide))) ((up2_n (by omega)).trans (hT 3 (by decide)))) cw_X2_79 qi_X2_forgetFresh qv_X2_forgetFresh rfl (hd.lt 16 (by decide)) hd.s16 (dk_at ktX2_take_1 6 rfl) rfl rfl (Nat.le_of_ble_eq_true rfl) (by decide) (b := 143) rfl (fun I8 J9 q10 => ?_)
    obtain ⟨rfl, hF12, h13, h14⟩ := q10
    refine rc_p (p_aload_n 0 (dk_at ktX2_take_1 7 rfl) rfl rfl (b := 144) rfl) ?_
    refine rc_p (p_iload_n 2 (dk_at ktX2_take_1 8 rfl) rfl rfl (b := 145) rfl) ?_
    refine rc_p (p_aload_n 0 (dk_at ktX2_take_1 9 rfl) rfl rfl (b := 146) rfl) ?_
    refine r_geti fl_X2_47 rfl (hd.lt 16 (by decide)) hd.s16 (dk_at ktX2_take_1 10 rfl) (v := (τ 1)) (((hF12.2 6 (by decide))).trans ((up2_n (by omega)).trans (hT 1 (by decide)))) (b := 149) rfl ?_
    refine r_icmp_ne (dk_at ktX2_take_1 11 rfl) (b := 156) (by decide) (b2 := 152) rfl (fun c149 => ?_) (fun c149 => ?_)
    · skip
      refine rc_p (p_aload_n 0 (dk_at ktX2_take_1 14 rfl) rfl rfl (b := 157) rfl) ?_
      refine r_geti fl_X2_47 rfl (hd.lt 16 (by decide)) hd.s16 (dk_at ktX2_take_1 15 rfl) (v := (τ 1)) (((hF12.2 6 (by decide))).trans ((up2_n (by omega)).trans (hT 1 (by decide)))) (b := 160) rfl ?_
      refine r_puti fl_X2_47 fw_X2_6 rfl (hd.lt 16 (by decide)) hd.s16 rfl rfl (dk_at ktX2_take_1 16 rfl) (b := 163) rfl ?_
      refine r_vret (dk_at ktX2_take_1 17 rfl) rfl ⟨rfl, ?_⟩
      refine ⟨rfl, fun j hj => ?_, ?_⟩
      · have e149 : ¬ τ 1 = v := fun q => c149 q.symm
        match j, hj with
        | 0, _ => exact Eq.trans ((up2_n (by omega)).trans (((hF12.2 5 (by decide))).trans ((up2_n (by omega)).trans (hT 0 (by decide))))) (by simp [takeI, upd, e149])
        | 1, _ => exact Eq.trans up2_s (by simp [takeI, upd, e149])
        | 2, _ => exact Eq.trans ((up2_n (by omega)).trans h13) (by simp [takeI, upd, e149])
        | 3, _ => exact Eq.trans ((up2_n (by omega)).trans h14) (by simp [takeI, upd, e149])
        | 4, _ => exact Eq.trans ((up2_n (by omega)).trans (((hF12.2 9 (by decide))).trans up2_s)) (by simp [takeI, upd, e149])
        | j + 5, h => omega
      · exact (FF.uf (FF.tr (FF.uf FF.rf (by decide)) (hF12.mo (by decide) (by decide))) (by decide))
    · skip
      refine rc_p (p_iconst (v := (-1)) (dk_at ktX2_take_1 12 rfl) (by decide) (b := 153) rfl) ?_
      refine rc_p (p_goto (b := 160) (dk_at ktX2_take_1 13 rfl) (by decide)) ?_
      refine r_puti fl_X2_47 fw_X2_6 rfl (hd.lt 16 (by decide)) hd.s16 rfl rfl (dk_at ktX2_take_1 16 rfl) (b := 163) rfl ?_
      refine r_vret (dk_at ktX2_take_1 17 rfl) rfl ⟨rfl, ?_⟩
      refine ⟨rfl, fun j hj => ?_, ?_⟩
      · have e149 : τ 1 = v := c149.symm
        match j, hj with
        | 0, _ => exact Eq.trans ((up2_n (by omega)).trans (((hF12.2 5 (by decide))).trans ((up2_n (by omega)).trans (hT 0 (by decide))))) (by simp [takeI, upd, e149])
        | 1, _ => exact Eq.trans up2_s (by simp [takeI, upd, e149])
        | 2, _ => exact Eq.trans ((up2_n (by omega)).trans h13) (by simp [takeI, upd, e149])
        | 3, _ => exact Eq.trans ((up2_n (by omega)).trans h14) (by simp [takeI, upd, e149])
        | 4, _ => exact Eq.trans ((up2_n (by omega)).trans (((hF12.2 9 (by decide))).trans up2_s)) (by simp [takeI, upd, e149])
        | j + 5, h => omega
      · exact (FF.uf (FF.tr (FF.uf FF.rf (by decide)) (hF12.mo (by decide) (by decide))) (by decide))
set_option maxRecDepth 4000 in
set_option maxHeartbeats 4000000 in
theorem s_X2_readFrom {n : Nat} {sh : mS} {G : mG} {I : mI} {J : mJ} {d : Nat} {σ : sT} {T N : Nat} (hd : DevG n sh G d) (hR : RelD d I σ T N) (hI : Inv σ)  : Sp yX2_readFrom cX2_readFrom 5 none 3 144 0 0 [.ref (d + 16), .ref (d + 1)] n sh G I J (Qv (fun I_ J_ => J = J_ ∧ RelD d I_ σ T N ∧ LedR d I_ σ ∧ FD d [16] I I_)) nX := by
  refine Sp.of (by decide) (ls := [(0, .ref (d + 16)), (1, .ref (d + 1))]) (fun _ => rfl) (fun _ => Nat.le_of_ble_eq_true rfl) ?_
  have cut106 : ∀ (p : Nat), p < 2 → activeI σ = nI p → ∀ (t k : Nat) (Iz : mI), 32 - k < t → 1 ≤ k → k ≤ nJ σ → RelD d Iz σ T N → FD d [16] I Iz → Iz (d + 16) 0 = nI p → Iz (d + 16) 1 = genI σ p → Iz (d + 16) 2 = nI (ffree σ p k) → Iz (d + 16) 3 = nI (cntN σ p k) → Iz (d + 16) 4 = nI (splN σ p k) → (∀ j, j < 5 → Iz (d + 16) (5 + j) = tellK σ p k j) → Rc RX2 cX2_readFrom 5 none 3 144 0 0 n sh G (Qv (fun I_ J_ => J = J_ ∧ RelD d I_ σ T N ∧ LedR d I_ σ ∧ FD d [16] I I_)) nX 0 0 106 [(3, .int (nI k)), (2, .ref (d + 3 + (2 + p))), (0, .ref (d + 16)), (1, .ref (d + 1))] [] Iz J := by
    have hb := hI.bd
    intro p hp ep t
    induction t
    · intro k Iz h; omega
    rename_i t ih
    intro k Iz ht hk0 hk1 hRz hFz h0 h1 h2 h3 h4 hTz
    refine rc_p (p_iload_n 0 (dk_at ktX2_readFrom_1 6 rfl) rfl rfl (b := 107) rfl) ?_
    refine rc_p (p_aload_n 3 (dk_at ktX2_readFrom_1 7 rfl) rfl rfl (b := 108) rfl) ?_
    refine r_geti fl_X2_59 rfl (hd.lt 1 (by decide)) hd.s1 (dk_at ktX2_readFrom_1 8 rfl) (v := (nI (nJ σ))) ((hRz.1 1 5 2 lc_1_5).trans (hI).w2) (b := 111) rfl ?_
    refine r_icmp_ge (dk_at ktX2_readFrom_1 9 rfl) (b := 187) (by decide) (b2 := 114) rfl (fun c111 => ?_) (fun c111 => ?_)
    · have c111 : (nJ σ) ≤ k := (nI_leI (a := nJ σ) (b := k) (by omega) (by omega)).mp c111
      refine r_vret (dk_at ktX2_readFrom_1 47 rfl) rfl ⟨rfl, ?_⟩
      have hkJ : k = nJ σ := by omega
      subst hkJ
      refine ⟨rfl, hRz, ⟨h0.trans ep.symm, fun q => absurd (ep.symm.trans q) (nI_nm1 (by omega)), fun q hq eq => ?_, fun j hj => ?_⟩, hFz⟩
      · have e : q = p := by
          have := eq.symm.trans ep
          exact (nI_eq (by omega) (by omega)).mp this
        subst e
        exact ⟨h1, h2, h3, h4⟩
      · rw [told, if_neg (by rw [ep]; exact nI_nm1 (by omega)), ep, tn_nI (by omega)]
        exact hTz j hj
    · have c111 : ¬ (nJ σ) ≤ k := fun h => c111 ((nI_leI (a := nJ σ) (b := k) (by omega) (by omega)).mpr h)
      refine rc_p (p_aload_n 1 (dk_at ktX2_readFrom_1 10 rfl) rfl rfl (b := 115) rfl) ?_
      refine rc_p (p_iload_n 0 (dk_at ktX2_readFrom_1 11 rfl) rfl rfl (b := 116) rfl) ?_
      have hkv := kv_n (hI.2.2.2.1 (211 + 32 * p + k) (by omega) (by omega))
      have hwk := wd_tn (hI.2.2.2.1 (211 + 32 * p + k) (by omega) (by omega))
      refine r_iald (j := k) (by have := hd.1; omega) (hd.sc (by omega)) (dk_at ktX2_readFrom_1 12 rfl) rfl ⟨by omega, by decide⟩ (v := (nI (tn (σ (211 + 32 * p + k))))) (((hRz.at3 (q := 3) (r := (2 + p)) (k := k) (a := 211 + 32 * p + k) (lc_j (by omega) (by omega)))).trans (wd_tn (hI.2.2.2.1 (211 + 32 * p + k) (by omega) (by omega))).1) (b := 117) rfl ?_
      refine rc_p (p_istore (ls' := [(4, .int (nI (tn (σ (211 + 32 * p + k))))), (3, .int (nI k)), (2, .ref (d + 3 + (2 + p))), (0, .ref (d + 16)), (1, .ref (d + 1))]) (dk_at ktX2_readFrom_1 13 rfl) (by decide) rfl (b := 119) rfl) ?_
      refine rc_p (p_iload 0 (dk_at ktX2_readFrom_1 14 rfl) rfl (b := 121) rfl) ?_
      refine rc_p (p_ldc (v := 65535) qk_TwinBoot_Ledger_62 (dk_at ktX2_readFrom_1 15 rfl) (b := 123) rfl) ?_
      refine r_icmp_ne (dk_at ktX2_readFrom_1 16 rfl) (b := 129) (by decide) (b2 := 126) rfl (fun c123 => ?_) (fun c123 => ?_)
      · have c123 : ¬ (tn (σ (211 + 32 * p + k))) = 65535 := fun h => c123 ((nI_eq (a := tn (σ (211 + 32 * p + k))) (b := 65535) (by omega) (by omega)).mpr h)
        refine rc_p (p_aload_n 3 (dk_at ktX2_readFrom_1 18 rfl) rfl rfl (b := 130) rfl) ?_
        refine rc_p (p_iload_n 1 (dk_at ktX2_readFrom_1 19 rfl) rfl rfl (b := 131) rfl) ?_
        refine rc_p (p_iconst (v := 1) (dk_at ktX2_readFrom_1 20 rfl) (by decide) (b := 132) rfl) ?_
        refine rc_p (p_iadd (v := (nI (k + 1))) (dk_at ktX2_readFrom_1 21 rfl) (nI_add k 1) (b := 133) rfl) ?_
        refine r_puti fl_X2_35 fw_X2_2 rfl (hd.lt 16 (by decide)) hd.s16 rfl rfl (dk_at ktX2_readFrom_1 22 rfl) (b := 136) rfl ?_
        refine rc_p (p_iload 0 (dk_at ktX2_readFrom_1 23 rfl) rfl (b := 138) rfl) ?_
        refine r_iS (As := [.int (nI (tn (σ (211 + 32 * p + k))))]) (rest := []) (s_X2_isEntry (a := tn (σ (211 + 32 * p + k))) (by omega)) cw_X2_63 qs_X2_isEntry (dk_at ktX2_readFrom_1 24 rfl) rfl rfl (Nat.le_of_ble_eq_true rfl) (by decide) (b := 141) rfl (fun v4 I1 J2 q3 => ?_)
        obtain ⟨rfl, rfl, rfl⟩ := q3
        refine r_if_eq (dk_at ktX2_readFrom_1 25 rfl) (b := 171) (by decide) (b2 := 144) rfl (fun c141 => ?_) (fun c141 => ?_)
        · have c141 := bi_f c141
          refine rc_p (p_aload_n 3 (dk_at ktX2_readFrom_1 39 rfl) rfl rfl (b := 172) rfl) ?_
          refine rc_p (p_dup (dk_at ktX2_readFrom_1 40 rfl) rfl (b := 173) rfl) ?_
          refine r_geti fl_X2_41 rfl (hd.lt 16 (by decide)) hd.s16 (dk_at ktX2_readFrom_1 41 rfl) (v := (nI (splN σ p k))) ((up2_n (by omega)).trans h4) (b := 176) rfl ?_
          refine rc_p (p_iconst (v := 1) (dk_at ktX2_readFrom_1 42 rfl) (by decide) (b := 177) rfl) ?_
          refine rc_p (p_iadd (v := (nI (splN σ p k + 1))) (dk_at ktX2_readFrom_1 43 rfl) (nI_add (splN σ p k) 1) (b := 178) rfl) ?_
          refine r_puti fl_X2_41 fw_X2_4 rfl (hd.lt 16 (by decide)) hd.s16 rfl rfl (dk_at ktX2_readFrom_1 44 rfl) (b := 181) rfl ?_
          refine rc_p (p_iinc (j := 1) (v := (nI (k + 1))) (ls' := [(3, .int (nI (k + 1))), (4, .int (nI (tn (σ (211 + 32 * p + k))))), (2, .ref (d + 3 + (2 + p))), (0, .ref (d + 16)), (1, .ref (d + 1))]) (dk_at ktX2_readFrom_1 45 rfl) rfl (nI_add k 1) (by decide) rfl (b := 184) rfl) ?_
          refine rc_p (p_goto (b := 106) (dk_at ktX2_readFrom_1 46 rfl) (by decide)) ?_
          refine rc_sub [0, 2, 3, 4] (ls' := [(3, .int (nI (k + 1))), (2, .ref (d + 3 + (2 + p))), (0, .ref (d + 16)), (1, .ref (d + 1))]) rfl ?_
          have hff : ¬ σ (211 + 32 * p + k) = 65535 := by
            rw [hwk.1]; exact fun q => c123 ((nI_eq (b := 65535) (by omega) (by decide)).mp q)
          have hrc : recB σ p k = false := by rw [← ent_rec (by omega) (hI.2.2.2.1 _ (by omega) (by omega))]; exact c141
          exact ih (k + 1) _ (by omega) (by omega) (by omega) (hR.skip (((FD.up (FD.up hFz (by decide)) (by decide))).mo (by decide))) (FD.up (FD.up hFz (by decide)) (by decide)) ((up2_n (by omega)).trans ((up2_n (by omega)).trans h0)) ((up2_n (by omega)).trans ((up2_n (by omega)).trans h1)) (by rw [ffree, if_neg hff]; exact ((up2_n (by omega)).trans up2_s)) (by rw [cntN, if_neg (by rw [hrc]; decide)]; exact ((up2_n (by omega)).trans ((up2_n (by omega)).trans h3))) (by rw [splN, if_neg (fun q => q.elim (by omega) (fun q => q.elim hff (by rw [hrc]; decide)))]; exact up2_s) (fun j hj => by
            rw [tellK, if_neg (by rw [hrc]; decide)]
            match j, hj with
            | 0, _ => exact ((up2_n (by omega)).trans ((up2_n (by omega)).trans (hTz 0 (by decide))))
            | 1, _ => exact ((up2_n (by omega)).trans ((up2_n (by omega)).trans (hTz 1 (by decide))))
            | 2, _ => exact ((up2_n (by omega)).trans ((up2_n (by omega)).trans (hTz 2 (by decide))))
            | 3, _ => exact ((up2_n (by omega)).trans ((up2_n (by omega)).trans (hTz 3 (by decide))))
            | 4, _ => exact ((up2_n (by omega)).trans ((up2_n (by omega)).trans (hTz 4 (by decide))))
            | j + 5, h => omega)
        · have c141 := bi_t c141
          refine rc_p (p_aload_n 3 (dk_at ktX2_readFrom_1 26 rfl) rfl rfl (b := 145) rfl) ?_
          refine rc_p (p_dup (dk_at ktX2_readFrom_1 27 rfl) rfl (b := 146) rfl) ?_
          refine r_geti fl_X2_38 rfl (hd.lt 16 (by decide)) hd.s16 (dk_at ktX2_readFrom_1 28 rfl) (v := (nI (cntN σ p k))) ((up2_n (by omega)).trans h3) (b := 149) rfl ?_
          refine rc_p (p_iconst (v := 1) (dk_at ktX2_readFrom_1 29 rfl) (by decide) (b := 150) rfl) ?_
          refine rc_p (p_iadd (v := (nI (cntN σ p k + 1))) (dk_at ktX2_readFrom_1 30 rfl) (nI_add (cntN σ p k) 1) (b := 151) rfl) ?_
          refine r_puti fl_X2_38 fw_X2_3 rfl (hd.lt 16 (by decide)) hd.s16 rfl rfl (dk_at ktX2_readFrom_1 31 rfl) (b := 154) rfl ?_
          refine rc_p (p_aload_n 3 (dk_at ktX2_readFrom_1 32 rfl) rfl rfl (b := 155) rfl) ?_
          refine rc_p (p_iload 0 (dk_at ktX2_readFrom_1 33 rfl) rfl (b := 157) rfl) ?_
          refine r_iS (As := [.int (nI (tn (σ (211 + 32 * p + k))))]) (rest := [.ref (d + 16)]) (s_X2_kindOf (a := tn (σ (211 + 32 * p + k))) (by omega)) cw_X2_67 qs_X2_kindOf (dk_at ktX2_readFrom_1 34 rfl) rfl rfl (Nat.le_of_ble_eq_true rfl) (by decide) (b := 160) rfl (fun v8 I5 J6 q7 => ?_)
          obtain ⟨rfl, rfl, rfl⟩ := q7
          refine rc_p (p_iload 0 (dk_at ktX2_readFrom_1 35 rfl) rfl (b := 162) rfl) ?_
          refine r_iS (As := [.int (nI (tn (σ (211 + 32 * p + k))))]) (rest := [.int (nI ((tn (σ (211 + 32 * p + k))) / 4096)), .ref (d + 16)]) (s_X2_valueOf (a := tn (σ (211 + 32 * p + k))) (by omega)) cw_X2_15 qs_X2_valueOf (dk_at ktX2_readFrom_1 36 rfl) rfl rfl (Nat.le_of_ble_eq_true rfl) (by decide) (b := 165) rfl (fun v12 I9 J10 q11 => ?_)
          obtain ⟨rfl, rfl, rfl⟩ := q11
          have hx13 : ∀ j, j < 5 → (up2 (up2 Iz (d + 16) 2 (nI (k + 1))) (d + 16) 3 (nI (cntN σ p k + 1))) (d + 16) (5 + j) = tellK σ p k j := fun j hj => by
            match j, hj with
            | 0, _ => exact ((up2_n (by omega)).trans ((up2_n (by omega)).trans (hTz 0 (by decide))))
            | 1, _ => exact ((up2_n (by omega)).trans ((up2_n (by omega)).trans (hTz 1 (by decide))))
            | 2, _ => exact ((up2_n (by omega)).trans ((up2_n (by omega)).trans (hTz 2 (by decide))))
            | 3, _ => exact ((up2_n (by omega)).trans ((up2_n (by omega)).trans (hTz 3 (by decide))))
            | 4, _ => exact ((up2_n (by omega)).trans ((up2_n (by omega)).trans (hTz 4 (by decide))))
            | j + 5, h => omega
          refine r_vV (As' := [.int (nI ((tn (σ (211 + 32 * p + k))) / 4096)), .int (nI ((tn (σ (211 + 32 * p + k))) / 16 % 256))]) (rest := []) (s_X2_take hd (τ := tellK σ p k) hx13 (nI ((tn (σ (211 + 32 * p + k))) / 4096)) (nI ((tn (σ (211 + 32 * p + k))) / 16 % 256)) (recK (hI.2.2.2.1 (211 + 32 * p + k) (by omega) (by omega)) c141)) cw_X2_70 qi_X2_take qv_X2_take rfl (hd.lt 16 (by decide)) hd.s16 (dk_at ktX2_readFrom_1 37 rfl) rfl rfl (Nat.le_of_ble_eq_true rfl) (by decide) (b := 168) rfl (fun I14 J15 q16 => ?_)
          obtain ⟨rfl, hT18, hF19⟩ := q16
          refine rc_p (p_goto (b := 181) (dk_at ktX2_readFrom_1 38 rfl) (by decide)) ?_
          refine rc_p (p_iinc (j := 1) (v := (nI (k + 1))) (ls' := [(3, .int (nI (k + 1))), (4, .int (nI (tn (σ (211 + 32 * p + k))))), (2, .ref (d + 3 + (2 + p))), (0, .ref (d + 16)), (1, .ref (d + 1))]) (dk_at ktX2_readFrom_1 45 rfl) rfl (nI_add k 1) (by decide) rfl (b := 184) rfl) ?_
          refine rc_p (p_goto (b := 106) (dk_at ktX2_readFrom_1 46 rfl) (by decide)) ?_
          refine rc_sub [0, 2, 3, 4] (ls' := [(3, .int (nI (k + 1))), (2, .ref (d + 3 + (2 + p))), (0, .ref (d + 16)), (1, .ref (d + 1))]) rfl ?_
          have hff : ¬ σ (211 + 32 * p + k) = 65535 := by
            rw [hwk.1]; exact fun q => c123 ((nI_eq (b := 65535) (by omega) (by decide)).mp q)
          have hrc : recB σ p k = true := by rw [← ent_rec (by omega) (hI.2.2.2.1 _ (by omega) (by omega))]; exact c141
          exact ih (k + 1) _ (by omega) (by omega) (by omega) (hR.skip (((FD.tr (FD.up (FD.up hFz (by decide)) (by decide)) (FD.of16 hF19))).mo (by decide))) (FD.tr (FD.up (FD.up hFz (by decide)) (by decide)) (FD.of16 hF19)) (((hF19.2 0 (by decide))).trans ((up2_n (by omega)).trans ((up2_n (by omega)).trans h0))) (((hF19.2 1 (by decide))).trans ((up2_n (by omega)).trans ((up2_n (by omega)).trans h1))) (by rw [ffree, if_neg hff]; exact (((hF19.2 2 (by decide))).trans ((up2_n (by omega)).trans up2_s))) (by rw [cntN, if_pos hrc]; exact (((hF19.2 3 (by decide))).trans up2_s)) (by rw [splN, if_pos (Or.inr (Or.inr hrc))]; exact (((hF19.2 4 (by decide))).trans ((up2_n (by omega)).trans ((up2_n (by omega)).trans h4)))) (fun j hj => by rw [tellK, if_pos hrc, hkv.1, hkv.2]; exact hT18 j hj)
      · have c123 : (tn (σ (211 + 32 * p + k))) = 65535 := (nI_eq (a := tn (σ (211 + 32 * p + k))) (b := 65535) (by omega) (by omega)).mp c123
        refine rc_p (p_goto (b := 181) (dk_at ktX2_readFrom_1 17 rfl) (by decide)) ?_
        refine rc_p (p_iinc (j := 1) (v := (nI (k + 1))) (ls' := [(3, .int (nI (k + 1))), (4, .int (nI (tn (σ (211 + 32 * p + k))))), (2, .ref (d + 3 + (2 + p))), (0, .ref (d + 16)), (1, .ref (d + 1))]) (dk_at ktX2_readFrom_1 45 rfl) rfl (nI_add k 1) (by decide) rfl (b := 184) rfl) ?_
        refine rc_p (p_goto (b := 106) (dk_at ktX2_readFrom_1 46 rfl) (by decide)) ?_
        refine rc_sub [0, 2, 3, 4] (ls' := [(3, .int (nI (k + 1))), (2, .ref (d + 3 + (2 + p))), (0, .ref (d + 16)), (1, .ref (d + 1))]) rfl ?_
        have hff : σ (211 + 32 * p + k) = 65535 := by
          rw [hwk.1]; exact congrArg nI c123
        exact ih (k + 1) _ (by omega) (by omega) (by omega) hRz hFz h0 h1 (by rw [ffree, if_pos hff]; exact h2) (by rw [cntN, if_neg (by rw [rec_ff hff]; decide)]; exact h3) (by rw [splN, if_pos (Or.inr (Or.inl hff))]; exact h4) (fun j hj => by rw [tellK, if_neg (by rw [rec_ff hff]; decide)]; exact hTz j hj)
  have cut68 : ∀ (Iz : mI), RelD d Iz σ T N → FD d [16] I Iz → Iz (d + 16) 0 = activeI σ → Iz (d + 16) 1 = -1 → Iz (d + 16) 2 = 0 → Iz (d + 16) 3 = 0 → Iz (d + 16) 4 = 0 → (∀ j, j < 5 → Iz (d + 16) (5 + j) = tau0 j) → Rc RX2 cX2_readFrom 5 none 3 144 0 0 n sh G (Qv (fun I_ J_ => J = J_ ∧ RelD d I_ σ T N ∧ LedR d I_ σ ∧ FD d [16] I I_)) nX 0 0 68 [(0, .ref (d + 16)), (1, .ref (d + 1))] [] Iz J := by
    have hb := hI.bd
    intro Iz hRz hFz h0 h1 h2 h3 h4 hTz
    refine rc_p (p_aload_n 0 (dk_at ktX2_readFrom_0 42 rfl) rfl rfl (b := 69) rfl) ?_
    refine r_geti fl_X2_28 rfl (hd.lt 16 (by decide)) hd.s16 (dk_at ktX2_readFrom_0 43 rfl) (v := (activeI σ)) h0 (b := 72) rfl ?_
    refine rc_p (p_iconst (v := (-1)) (dk_at ktX2_readFrom_0 44 rfl) (by decide) (b := 73) rfl) ?_
    refine r_icmp_ne (dk_at ktX2_readFrom_0 45 rfl) (b := 77) (by decide) (b2 := 76) rfl (fun c73 => ?_) (fun c73 => ?_)
    · skip
      obtain ⟨p, hp, ep⟩ := act_n rfl c73
      refine rc_p (p_aload_n 1 (dk_at ktX2_readFrom_0 47 rfl) rfl rfl (b := 78) rfl) ?_
      refine r_geta fl_X2_18 rfl (hd.lt 1 (by decide)) hd.s1 (dk_at ktX2_readFrom_0 48 rfl) hd.g1_0 (b := 81) rfl ?_
      refine rc_p (p_iconst (v := 2) (dk_at ktX2_readFrom_0 49 rfl) (by decide) (b := 82) rfl) ?_
      refine rc_p (p_aload_n 0 (dk_at ktX2_readFrom_0 50 rfl) rfl rfl (b := 83) rfl) ?_
      refine r_geti fl_X2_28 rfl (hd.lt 16 (by decide)) hd.s16 (dk_at ktX2_readFrom_0 51 rfl) (v := (nI p)) (h0.trans ep) (b := 86) rfl ?_
      refine rc_p (p_iadd (v := (nI (2 + p))) (dk_at ktX2_readFrom_0 52 rfl) (nI_add 2 p) (b := 87) rfl) ?_
      refine r_aald (j := 2 + p) (id2 := (d + 3 + (2 + p))) (hd.lt 2 (by decide)) hd.s2 (by decide) (dk_at ktX2_readFrom_0 53 rfl) rfl ⟨by omega, by decide⟩ (hd.gc (by omega)) (b := 88) rfl ?_
      refine rc_p (p_astore_n (ls' := [(2, .ref (d + 3 + (2 + p))), (0, .ref (d + 16)), (1, .ref (d + 1))]) (dk_at ktX2_readFrom_0 54 rfl) rfl (by decide) rfl (b := 89) rfl) ?_
      refine rc_p (p_aload_n 1 (dk_at ktX2_readFrom_0 55 rfl) rfl rfl (b := 90) rfl) ?_
      refine rc_p (p_aload_n 0 (dk_at ktX2_readFrom_0 56 rfl) rfl rfl (b := 91) rfl) ?_
      refine rc_p (p_iconst (v := 0) (dk_at ktX2_readFrom_0 57 rfl) (by decide) (b := 92) rfl) ?_
      have hw0 := wd_tn (hI.2.2.2.1 (211 + 32 * p + 0) (by omega) (by omega))
      refine r_iald (j := 0) (by have := hd.1; omega) (hd.sc (by omega)) (dk_at ktX2_readFrom_0 58 rfl) rfl ⟨by decide, by decide⟩ (v := (nI (tn (σ (211 + 32 * p + 0))))) (((hRz.at3 (q := 3) (r := (2 + p)) (k := 0) (a := 211 + 32 * p + 0) (lc_j (by omega) (by decide)))).trans (wd_tn (hI.2.2.2.1 (211 + 32 * p + 0) (by omega) (by omega))).1) (b := 93) rfl ?_
      refine r_iS (As := [.int (nI (tn (σ (211 + 32 * p + 0))))]) (rest := [.ref (d + 16)]) (s_X2_valueOf (a := tn (σ (211 + 32 * p + 0))) (by omega)) cw_X2_15 qs_X2_valueOf (dk_at ktX2_readFrom_0 59 rfl) rfl rfl (Nat.le_of_ble_eq_true rfl) (by decide) (b := 96) rfl (fun v23 I20 J21 q22 => ?_)
      obtain ⟨rfl, rfl, rfl⟩ := q22
      refine r_puti fl_X2_32 fw_X2_1 rfl (hd.lt 16 (by decide)) hd.s16 rfl rfl (dk_at ktX2_readFrom_1 0 rfl) (b := 99) rfl ?_
      refine rc_p (p_aload_n 1 (dk_at ktX2_readFrom_1 1 rfl) rfl rfl (b := 100) rfl) ?_
      refine rc_p (p_iconst (v := 1) (dk_at ktX2_readFrom_1 2 rfl) (by decide) (b := 101) rfl) ?_
      refine r_puti fl_X2_35 fw_X2_2 rfl (hd.lt 16 (by decide)) hd.s16 rfl rfl (dk_at ktX2_readFrom_1 3 rfl) (b := 104) rfl ?_
      refine rc_p (p_iconst (v := 1) (dk_at ktX2_readFrom_1 4 rfl) (by decide) (b := 105) rfl) ?_
      refine rc_p (p_istore_n (ls' := [(3, .int 1), (2, .ref (d + 3 + (2 + p))), (0, .ref (d + 16)), (1, .ref (d + 1))]) (dk_at ktX2_readFrom_1 5 rfl) rfl (by decide) rfl (b := 106) rfl) ?_
      have hF1 : FD d [16] I (up2 (up2 Iz (d + 16) 1 (nI ((tn (σ (211 + 32 * p + 0))) / 16 % 256))) (d + 16) 2 1) := (FD.up (FD.up hFz (by decide)) (by decide))
      have hgn : genI σ p = nI (tn (σ (211 + 32 * p + 0)) / 16 % 256) := gen_n (hI.2.2.2.1 _ (by omega) (by omega))
      refine cut106 p hp ep 1000 1 _ (by omega) (by omega) (by omega) (hR.skip (hF1.mo (by decide))) hF1 ((up2_n (by omega)).trans ((up2_n (by omega)).trans (h0.trans ep))) (by rw [hgn]; exact ((up2_n (by omega)).trans up2_s)) (by rw [free_1 (head_act ep hp)]; exact up2_s) ((up2_n (by omega)).trans ((up2_n (by omega)).trans h3)) ((up2_n (by omega)).trans ((up2_n (by omega)).trans h4)) ?_
      intro j hj
      match j, hj with
      | 0, _ => exact ((up2_n (by omega)).trans ((up2_n (by omega)).trans (hTz 0 (by decide))))
      | 1, _ => exact ((up2_n (by omega)).trans ((up2_n (by omega)).trans (hTz 1 (by decide))))
      | 2, _ => exact ((up2_n (by omega)).trans ((up2_n (by omega)).trans (hTz 2 (by decide))))
      | 3, _ => exact ((up2_n (by omega)).trans ((up2_n (by omega)).trans (hTz 3 (by decide))))
      | 4, _ => exact ((up2_n (by omega)).trans ((up2_n (by omega)).trans (hTz 4 (by decide))))
      | j + 5, h => omega
    · skip
      refine r_vret (dk_at ktX2_readFrom_0 46 rfl) rfl ⟨rfl, ?_⟩
      refine ⟨rfl, hRz, ⟨h0, fun _ => ⟨h1, h2, h3, h4⟩, fun q hq eq => absurd (eq.symm.trans c73) (nI_nm1 (by omega)), fun j hj => ?_⟩, hFz⟩
      rw [told, if_pos c73]
      exact hTz j hj
  have hb := hI.bd
  have w0 := wd_tn (hI.2.2.2.1 211 (by decide) (by decide))
  have w1 := wd_tn (hI.2.2.2.1 243 (by decide) (by decide))
  refine rc_p (p_aload_n 0 (dk_at ktX2_readFrom_0 0 rfl) rfl rfl (b := 1) rfl) ?_
  refine rc_p (p_aload_n 1 (dk_at ktX2_readFrom_0 1 rfl) rfl rfl (b := 2) rfl) ?_
  refine r_geta fl_X2_18 rfl (hd.lt 1 (by decide)) hd.s1 (dk_at ktX2_readFrom_0 2 rfl) hd.g1_0 (b := 5) rfl ?_
  refine rc_p (p_iconst (v := 2) (dk_at ktX2_readFrom_0 3 rfl) (by decide) (b := 6) rfl) ?_
  refine r_aald (j := 2) (id2 := (d + 5)) (hd.lt 2 (by decide)) hd.s2 (by decide) (dk_at ktX2_readFrom_0 4 rfl) rfl ⟨by decide, by decide⟩ hd.g2_2 (b := 7) rfl ?_
  refine rc_p (p_iconst (v := 0) (dk_at ktX2_readFrom_0 5 rfl) (by decide) (b := 8) rfl) ?_
  refine r_iald (j := 0) (hd.lt 5 (by decide)) hd.s5 (dk_at ktX2_readFrom_0 6 rfl) rfl ⟨by decide, by decide⟩ (v := (nI (tn (σ 211)))) (((hR.1 5 0 (211) (lc_j0 (by decide)))).trans w0.1) (b := 9) rfl ?_
  refine rc_p (p_aload_n 1 (dk_at ktX2_readFrom_0 7 rfl) rfl rfl (b := 10) rfl) ?_
  refine r_geta fl_X2_18 rfl (hd.lt 1 (by decide)) hd.s1 (dk_at ktX2_readFrom_0 8 rfl) hd.g1_0 (b := 13) rfl ?_
  refine rc_p (p_iconst (v := 3) (dk_at ktX2_readFrom_0 9 rfl) (by decide) (b := 14) rfl) ?_
  refine r_aald (j := 3) (id2 := (d + 6)) (hd.lt 2 (by decide)) hd.s2 (by decide) (dk_at ktX2_readFrom_0 10 rfl) rfl ⟨by decide, by decide⟩ hd.g2_3 (b := 15) rfl ?_
  refine rc_p (p_iconst (v := 0) (dk_at ktX2_readFrom_0 11 rfl) (by decide) (b := 16) rfl) ?_
  refine r_iald (j := 0) (hd.lt 6 (by decide)) hd.s6 (dk_at ktX2_readFrom_0 12 rfl) rfl ⟨by decide, by decide⟩ (v := (nI (tn (σ 243)))) (((hR.1 6 0 (243) (lc_j1 (by decide)))).trans w1.1) (b := 17) rfl ?_
  refine r_iS (As := [.int (nI (tn (σ 211))), .int (nI (tn (σ 243)))]) (rest := [.ref (d + 16)]) (s_X2_activePageOf (a := tn (σ 211)) (b := tn (σ 243)) (by omega) (by omega)) cw_X2_24 qs_X2_activePageOf (dk_at ktX2_readFrom_0 13 rfl) rfl rfl (Nat.le_of_ble_eq_true rfl) (by decide) (b := 20) rfl (fun v27 I24 J25 q26 => ?_)
  obtain ⟨rfl, rfl, rfl⟩ := q26
  refine r_val (act_act hI) ?_
  refine r_puti fl_X2_28 fw_X2_0 rfl (hd.lt 16 (by decide)) hd.s16 rfl rfl (dk_at ktX2_readFrom_0 14 rfl) (b := 23) rfl ?_
  refine rc_p (p_aload_n 0 (dk_at ktX2_readFrom_0 15 rfl) rfl rfl (b := 24) rfl) ?_
  refine rc_p (p_iconst (v := (-1)) (dk_at ktX2_readFrom_0 16 rfl) (by decide) (b := 25) rfl) ?_
  refine r_puti fl_X2_32 fw_X2_1 rfl (hd.lt 16 (by decide)) hd.s16 rfl rfl (dk_at ktX2_readFrom_0 17 rfl) (b := 28) rfl ?_
  refine rc_p (p_aload_n 0 (dk_at ktX2_readFrom_0 18 rfl) rfl rfl (b := 29) rfl) ?_
  refine rc_p (p_iconst (v := 0) (dk_at ktX2_readFrom_0 19 rfl) (by decide) (b := 30) rfl) ?_
  refine r_puti fl_X2_35 fw_X2_2 rfl (hd.lt 16 (by decide)) hd.s16 rfl rfl (dk_at ktX2_readFrom_0 20 rfl) (b := 33) rfl ?_
  refine rc_p (p_aload_n 0 (dk_at ktX2_readFrom_0 21 rfl) rfl rfl (b := 34) rfl) ?_
  refine rc_p (p_iconst (v := 0) (dk_at ktX2_readFrom_0 22 rfl) (by decide) (b := 35) rfl) ?_
  refine r_puti fl_X2_38 fw_X2_3 rfl (hd.lt 16 (by decide)) hd.s16 rfl rfl (dk_at ktX2_readFrom_0 23 rfl) (b := 38) rfl ?_
  refine rc_p (p_aload_n 0 (dk_at ktX2_readFrom_0 24 rfl) rfl rfl (b := 39) rfl) ?_
  refine rc_p (p_iconst (v := 0) (dk_at ktX2_readFrom_0 25 rfl) (by decide) (b := 40) rfl) ?_
  refine r_puti fl_X2_41 fw_X2_4 rfl (hd.lt 16 (by decide)) hd.s16 rfl rfl (dk_at ktX2_readFrom_0 26 rfl) (b := 43) rfl ?_
  refine rc_p (p_aload_n 0 (dk_at ktX2_readFrom_0 27 rfl) rfl rfl (b := 44) rfl) ?_
  refine rc_p (p_iconst (v := 0) (dk_at ktX2_readFrom_0 28 rfl) (by decide) (b := 45) rfl) ?_
  refine r_puti fl_X2_44 fw_X2_5 rfl (hd.lt 16 (by decide)) hd.s16 rfl rfl (dk_at ktX2_readFrom_0 29 rfl) (b := 48) rfl ?_
  refine rc_p (p_aload_n 0 (dk_at ktX2_readFrom_0 30 rfl) rfl rfl (b := 49) rfl) ?_
  refine rc_p (p_iconst (v := (-1)) (dk_at ktX2_readFrom_0 31 rfl) (by decide) (b := 50) rfl) ?_
  refine r_puti fl_X2_47 fw_X2_6 rfl (hd.lt 16 (by decide)) hd.s16 rfl rfl (dk_at ktX2_readFrom_0 32 rfl) (b := 53) rfl ?_
  refine rc_p (p_aload_n 0 (dk_at ktX2_readFrom_0 33 rfl) rfl rfl (b := 54) rfl) ?_
  refine rc_p (p_iconst (v := (-1)) (dk_at ktX2_readFrom_0 34 rfl) (by decide) (b := 55) rfl) ?_
  refine r_puti fl_X2_50 fw_X2_7 rfl (hd.lt 16 (by decide)) hd.s16 rfl rfl (dk_at ktX2_readFrom_0 35 rfl) (b := 58) rfl ?_
  refine rc_p (p_aload_n 0 (dk_at ktX2_readFrom_0 36 rfl) rfl rfl (b := 59) rfl) ?_
  refine rc_p (p_iconst (v := 0) (dk_at ktX2_readFrom_0 37 rfl) (by decide) (b := 60) rfl) ?_
  refine r_puti fl_X2_53 fw_X2_8 rfl (hd.lt 16 (by decide)) hd.s16 rfl rfl (dk_at ktX2_readFrom_0 38 rfl) (b := 63) rfl ?_
  refine rc_p (p_aload_n 0 (dk_at ktX2_readFrom_0 39 rfl) rfl rfl (b := 64) rfl) ?_
  refine rc_p (p_iconst (v := 0) (dk_at ktX2_readFrom_0 40 rfl) (by decide) (b := 65) rfl) ?_
  refine r_puti fl_X2_56 fw_X2_9 rfl (hd.lt 16 (by decide)) hd.s16 rfl rfl (dk_at ktX2_readFrom_0 41 rfl) (b := 68) rfl ?_
  have hF0 : FD d [16] I (up2 (up2 (up2 (up2 (up2 (up2 (up2 (up2 (up2 (up2 I (d + 16) 0 (activeI σ)) (d + 16) 1 (-1)) (d + 16) 2 0) (d + 16) 3 0) (d + 16) 4 0) (d + 16) 5 0) (d + 16) 6 (-1)) (d + 16) 7 (-1)) (d + 16) 8 0) (d + 16) 9 0) := (FD.up (FD.up (FD.up (FD.up (FD.up (FD.up (FD.up (FD.up (FD.up (FD.up FD.rf (by decide)) (by decide)) (by decide)) (by decide)) (by decide)) (by decide)) (by decide)) (by decide)) (by decide)) (by decide))
  refine cut68 _ (hR.skip (hF0.mo (by decide))) hF0 ((up2_n (by omega)).trans ((up2_n (by omega)).trans ((up2_n (by omega)).trans ((up2_n (by omega)).trans ((up2_n (by omega)).trans ((up2_n (by omega)).trans ((up2_n (by omega)).trans ((up2_n (by omega)).trans ((up2_n (by omega)).trans up2_s))))))))) ((up2_n (by omega)).trans ((up2_n (by omega)).trans ((up2_n (by omega)).trans ((up2_n (by omega)).trans ((up2_n (by omega)).trans ((up2_n (by omega)).trans ((up2_n (by omega)).trans ((up2_n (by omega)).trans up2_s)))))))) ((up2_n (by omega)).trans ((up2_n (by omega)).trans ((up2_n (by omega)).trans ((up2_n (by omega)).trans ((up2_n (by omega)).trans ((up2_n (by omega)).trans ((up2_n (by omega)).trans up2_s))))))) ((up2_n (by omega)).trans ((up2_n (by omega)).trans ((up2_n (by omega)).trans ((up2_n (by omega)).trans ((up2_n (by omega)).trans ((up2_n (by omega)).trans up2_s)))))) ((up2_n (by omega)).trans ((up2_n (by omega)).trans ((up2_n (by omega)).trans ((up2_n (by omega)).trans ((up2_n (by omega)).trans up2_s))))) ?_
  intro j hj
  match j, hj with
  | 0, _ => exact ((up2_n (by omega)).trans ((up2_n (by omega)).trans ((up2_n (by omega)).trans ((up2_n (by omega)).trans up2_s))))
  | 1, _ => exact ((up2_n (by omega)).trans ((up2_n (by omega)).trans ((up2_n (by omega)).trans up2_s)))
  | 2, _ => exact ((up2_n (by omega)).trans ((up2_n (by omega)).trans up2_s))
  | 3, _ => exact ((up2_n (by omega)).trans up2_s)
  | 4, _ => exact up2_s
  | j + 5, h => omega

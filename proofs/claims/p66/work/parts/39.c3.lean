/-! THE CLASS: images -/
set_option maxRecDepth 4000 in
set_option maxHeartbeats 4000000 in
theorem s_X1_sum {n : Nat} {sh : mS} {G : mG} {I : mI} {J : mJ} {ar : Nat} (ha : ArG n sh ar 64) (v c : Nat) (hv : v < 256) (hc : c ≤ 61) (hw : ∀ j, j < c → wd (I ar (3 + j))) : Sp yX1_sum cX1_sum 5 (some FieldType.int) 1 48 0 0 [.int (nI v), .int (nI c), .ref ar] n sh G I J (Qi (fun r_ I_ J_ => sumF (I ar) 0 (nI v) c = r_ ∧ I = I_ ∧ J = J_)) nX := by
  refine Sp.of (by decide) (ls := [(0, .int (nI v)), (1, .int (nI c)), (2, .ref ar)]) (fun _ => rfl) (fun _ => Nat.le_of_ble_eq_true rfl) ?_
  have cut9 : ∀ (t k : Nat), c - k < t → k ≤ c → Rc RX1 cX1_sum 5 (some FieldType.int) 1 48 0 0 n sh G (Qi (fun r_ I_ J_ => sumF (I ar) 0 (nI v) c = r_ ∧ I = I_ ∧ J = J_)) nX 0 0 9 [(4, .int (nI k)), (3, .int (nI (snN (fun j => tn (I ar (3 + j))) (v + 3 * c) k))), (0, .int (nI v)), (1, .int (nI c)), (2, .ref ar)] [] I J := by
    intro t
    induction t
    · intro k h; omega
    rename_i t ih
    intro k ht h1
    refine rc_p (p_iload 0 (dk_at ktX1_sum_0 8 rfl) rfl (b := 11) rfl) ?_
    refine rc_p (p_iload_n 3 (dk_at ktX1_sum_0 9 rfl) rfl rfl (b := 12) rfl) ?_
    refine r_icmp_ge (dk_at ktX1_sum_0 10 rfl) (b := 44) (by decide) (b2 := 15) rfl (fun c12 => ?_) (fun c12 => ?_)
    · have c12 : c ≤ k := (nI_leI (a := c) (b := k) (by omega) (by omega)).mp c12
      refine rc_p (p_iload_n 1 (dk_at ktX1_sum_0 31 rfl) rfl rfl (b := 45) rfl) ?_
      refine rc_p (p_ldc (v := 65535) qk_TwinBoot_Flash_62 (dk_at ktX1_sum_0 32 rfl) (b := 47) rfl) ?_
      refine rc_p (p_iand (v := (nI (snN (fun j => tn (I ar (3 + j))) (v + 3 * c) k % 65536))) (dk_at ktX1_sum_0 33 rfl) (an16 (by have := snN_le (w := fun j => tn (I ar (3 + j))) (s0 := v + 3 * c) (k := k) (by omega) (fun j hj => (wd_tn (hw j (by omega))).2); omega)) (b := 48) rfl) ?_
      refine r_iret (dk_at ktX1_sum_0 34 rfl) rfl rfl ⟨_, rfl, ?_⟩
      have hk : k = c := by omega
      subst hk
      exact ⟨sumF_n hv hc hw, rfl, rfl⟩
    · have c12 : ¬ c ≤ k := fun h => c12 ((nI_leI (a := c) (b := k) (by omega) (by omega)).mpr h)
      refine rc_p (p_iconst (v := 3) (dk_at ktX1_sum_0 11 rfl) (by decide) (b := 16) rfl) ?_
      refine rc_p (p_iload 0 (dk_at ktX1_sum_0 12 rfl) rfl (b := 18) rfl) ?_
      refine rc_p (p_iadd (v := (nI (3 + k))) (dk_at ktX1_sum_0 13 rfl) (nI_add 3 k) (b := 19) rfl) ?_
      refine rc_p (p_aload_n 4 (dk_at ktX1_sum_0 14 rfl) rfl rfl (b := 20) rfl) ?_
      refine r_alenI (len := 64) ha.l0 ha.s0 (dk_at ktX1_sum_0 15 rfl) (b := 21) rfl ?_
      refine r_icmp_ge (dk_at ktX1_sum_0 16 rfl) (b := 44) (by decide) (b2 := 24) rfl (fun c21 => ?_) (fun c21 => ?_)
      · have c21 : 64 ≤ (3 + k) := (nI_leI (a := 64) (b := 3 + k) (by omega) (by omega)).mp c21
        omega
      · have c21 : ¬ 64 ≤ (3 + k) := fun h => c21 ((nI_leI (a := 64) (b := 3 + k) (by omega) (by omega)).mpr h)
        refine rc_p (p_iload_n 1 (dk_at ktX1_sum_0 17 rfl) rfl rfl (b := 25) rfl) ?_
        refine rc_p (p_iload 0 (dk_at ktX1_sum_0 18 rfl) rfl (b := 27) rfl) ?_
        refine rc_p (p_iconst (v := 1) (dk_at ktX1_sum_0 19 rfl) (by decide) (b := 28) rfl) ?_
        refine rc_p (p_iadd (v := (nI (k + 1))) (dk_at ktX1_sum_0 20 rfl) (nI_add k 1) (b := 29) rfl) ?_
        refine rc_p (p_aload_n 4 (dk_at ktX1_sum_0 21 rfl) rfl rfl (b := 30) rfl) ?_
        refine rc_p (p_iconst (v := 3) (dk_at ktX1_sum_0 22 rfl) (by decide) (b := 31) rfl) ?_
        refine rc_p (p_iload 0 (dk_at ktX1_sum_0 23 rfl) rfl (b := 33) rfl) ?_
        refine rc_p (p_iadd (v := (nI (3 + k))) (dk_at ktX1_sum_0 24 rfl) (nI_add 3 k) (b := 34) rfl) ?_
        refine r_iald (j := 3 + k) ha.l0 ha.s0 (dk_at ktX1_sum_0 25 rfl) rfl ⟨by omega, by decide⟩ (v := (nI (tn (I ar (3 + k))))) ((wd_tn (hw k (by omega))).1) (b := 35) rfl ?_
        refine rc_p (p_imul (v := (nI ((k + 1) * (tn (I ar (3 + k)))))) (dk_at ktX1_sum_0 26 rfl) (pk_mul (k + 1) (tn (I ar (3 + k)))) (b := 36) rfl) ?_
        refine rc_p (p_iadd (v := (nI (snN (fun j => tn (I ar (3 + j))) (v + 3 * c) k + ((k + 1) * (tn (I ar (3 + k))))))) (dk_at ktX1_sum_0 27 rfl) (nI_add (snN (fun j => tn (I ar (3 + j))) (v + 3 * c) k) ((k + 1) * (tn (I ar (3 + k))))) (b := 37) rfl) ?_
        refine rc_p (p_istore_n (ls' := [(3, .int (nI (snN (fun j => tn (I ar (3 + j))) (v + 3 * c) k + ((k + 1) * (tn (I ar (3 + k))))))), (4, .int (nI k)), (0, .int (nI v)), (1, .int (nI c)), (2, .ref ar)]) (dk_at ktX1_sum_0 28 rfl) rfl (by decide) rfl (b := 38) rfl) ?_
        refine rc_p (p_iinc (j := 1) (v := (nI (k + 1))) (ls' := [(4, .int (nI (k + 1))), (3, .int (nI (snN (fun j => tn (I ar (3 + j))) (v + 3 * c) k + ((k + 1) * (tn (I ar (3 + k))))))), (0, .int (nI v)), (1, .int (nI c)), (2, .ref ar)]) (dk_at ktX1_sum_0 29 rfl) rfl (nI_add k 1) (by decide) rfl (b := 41) rfl) ?_
        refine rc_p (p_goto (b := 9) (dk_at ktX1_sum_0 30 rfl) (by decide)) ?_
        exact ih (k + 1) (by omega) (by omega)
  refine rc_p (p_iload_n 0 (dk_at ktX1_sum_0 0 rfl) rfl rfl (b := 1) rfl) ?_
  refine rc_p (p_iconst (v := 3) (dk_at ktX1_sum_0 1 rfl) (by decide) (b := 2) rfl) ?_
  refine rc_p (p_iload_n 1 (dk_at ktX1_sum_0 2 rfl) rfl rfl (b := 3) rfl) ?_
  refine rc_p (p_imul (v := (nI (3 * c))) (dk_at ktX1_sum_0 3 rfl) (pk_mul 3 c) (b := 4) rfl) ?_
  refine rc_p (p_iadd (v := (nI (v + (3 * c)))) (dk_at ktX1_sum_0 4 rfl) (nI_add v (3 * c)) (b := 5) rfl) ?_
  refine rc_p (p_istore_n (ls' := [(3, .int (nI (v + (3 * c)))), (0, .int (nI v)), (1, .int (nI c)), (2, .ref ar)]) (dk_at ktX1_sum_0 5 rfl) rfl (by decide) rfl (b := 6) rfl) ?_
  refine rc_p (p_iconst (v := 0) (dk_at ktX1_sum_0 6 rfl) (by decide) (b := 7) rfl) ?_
  refine rc_p (p_istore (ls' := [(4, .int 0), (3, .int (nI (v + (3 * c)))), (0, .int (nI v)), (1, .int (nI c)), (2, .ref ar)]) (dk_at ktX1_sum_0 7 rfl) (by decide) rfl (b := 9) rfl) ?_
  exact cut9 1000 0 (by omega) (Nat.zero_le _)
set_option maxRecDepth 4000 in
set_option maxHeartbeats 4000000 in
theorem s_X1_room {n : Nat} {sh : mS} {G : mG} {I : mI} {J : mJ} {d : Nat} {σ : sT} {T N : Nat} (hd : DevG n sh G d) (hR : RelD d I σ T N) (hI : Inv σ)  : Sp yX1_room cX1_room 1 (some FieldType.int) 1 48 0 0 [.ref (d + 1)] n sh G I J (Qi (fun r_ I_ J_ => nI (nW σ - 3) = r_ ∧ I = I_ ∧ J = J_)) nX := by
  refine Sp.of (by decide) (ls := [(0, .ref (d + 1))]) (fun _ => rfl) (fun _ => Nat.le_of_ble_eq_true rfl) ?_
  have hb := hI.bd
  refine rc_p (p_aload_n 0 (dk_at ktX1_room_0 0 rfl) rfl rfl (b := 1) rfl) ?_
  refine r_geti fl_X1_25 rfl (hd.lt 1 (by decide)) hd.s1 (dk_at ktX1_room_0 1 rfl) (v := (nI (nW σ))) ((hR.1 1 2 0 lc_1_2).trans (hI).w0) (b := 4) rfl ?_
  refine rc_p (p_iconst (v := 3) (dk_at ktX1_room_0 2 rfl) (by decide) (b := 5) rfl) ?_
  refine rc_p (p_isub (v := (nI (nW σ - 3))) (dk_at ktX1_room_0 3 rfl) (pk_sub (a := nW σ) (b := 3) (by omega)) (b := 6) rfl) ?_
  refine r_iret (dk_at ktX1_room_0 4 rfl) rfl rfl ⟨_, rfl, ?_⟩
  exact ⟨rfl, rfl, rfl⟩
set_option maxRecDepth 4000 in
set_option maxHeartbeats 4000000 in
theorem s_X1_sumOf {n : Nat} {sh : mS} {G : mG} {I : mI} {J : mJ} {d : Nat} {σ : sT} {T N : Nat} (hd : DevG n sh G d) (hR : RelD d I σ T N) (hI : Inv σ) (s : Nat) (hs : s < 2) : Sp yX1_sumOf cX1_sumOf 4 (some FieldType.int) 2 96 0 0 [.ref (d + 1), .int (nI s)] n sh G I J (Qi (fun r_ I_ J_ => sumS σ s = r_ ∧ I = I_ ∧ J = J_)) nX := by
  refine Sp.of (by decide) (ls := [(0, .ref (d + 1)), (1, .int (nI s))]) (fun _ => rfl) (fun _ => Nat.le_of_ble_eq_true rfl) ?_
  have hb := hI.bd
  have w0 := wd_tn (hI.2.2.2.1 (83 + 64 * s) (by omega) (by omega))
  have w1 := wd_tn (hI.2.2.2.1 (83 + 64 * s + 1) (by omega) (by omega))
  refine rc_p (p_aload_n 0 (dk_at ktX1_sumOf_0 0 rfl) rfl rfl (b := 1) rfl) ?_
  refine r_geta fl_X1_11 rfl (hd.lt 1 (by decide)) hd.s1 (dk_at ktX1_sumOf_0 1 rfl) hd.g1_0 (b := 4) rfl ?_
  refine rc_p (p_iload_n 1 (dk_at ktX1_sumOf_0 2 rfl) rfl rfl (b := 5) rfl) ?_
  refine r_aald (j := s) (id2 := (d + 3 + s)) (hd.lt 2 (by decide)) hd.s2 (by decide) (dk_at ktX1_sumOf_0 3 rfl) rfl ⟨by omega, by decide⟩ (hd.gc (by omega)) (b := 6) rfl ?_
  refine rc_p (p_iconst (v := 0) (dk_at ktX1_sumOf_0 4 rfl) (by decide) (b := 7) rfl) ?_
  refine r_iald (j := 0) (by have := hd.1; omega) (hd.sc (by omega)) (dk_at ktX1_sumOf_0 5 rfl) rfl ⟨by decide, by decide⟩ (v := (nI (tn (σ (83 + 64 * s))))) (((hR.at3 (q := 3) (r := s) (k := 0) (a := 83 + 64 * s + 0) (lc_s (by omega) (by decide)))).trans (wd_tn (hI.2.2.2.1 (83 + 64 * s) (by omega) (by omega))).1) (b := 8) rfl ?_
  refine rc_p (p_istore_n (ls' := [(2, .int (nI (tn (σ (83 + 64 * s))))), (0, .ref (d + 1)), (1, .int (nI s))]) (dk_at ktX1_sumOf_0 6 rfl) rfl (by decide) rfl (b := 9) rfl) ?_
  refine rc_p (p_aload_n 1 (dk_at ktX1_sumOf_0 7 rfl) rfl rfl (b := 10) rfl) ?_
  refine r_geta fl_X1_11 rfl (hd.lt 1 (by decide)) hd.s1 (dk_at ktX1_sumOf_0 8 rfl) hd.g1_0 (b := 13) rfl ?_
  refine rc_p (p_iload_n 2 (dk_at ktX1_sumOf_0 9 rfl) rfl rfl (b := 14) rfl) ?_
  refine r_aald (j := s) (id2 := (d + 3 + s)) (hd.lt 2 (by decide)) hd.s2 (by decide) (dk_at ktX1_sumOf_0 10 rfl) rfl ⟨by omega, by decide⟩ (hd.gc (by omega)) (b := 15) rfl ?_
  refine rc_p (p_iconst (v := 1) (dk_at ktX1_sumOf_0 11 rfl) (by decide) (b := 16) rfl) ?_
  refine r_iald (j := 1) (by have := hd.1; omega) (hd.sc (by omega)) (dk_at ktX1_sumOf_0 12 rfl) rfl ⟨by decide, by decide⟩ (v := (nI (tn (σ (83 + 64 * s + 1))))) (((hR.at3 (q := 3) (r := s) (k := 1) (a := 83 + 64 * s + 1) (lc_s (by omega) (by decide)))).trans (wd_tn (hI.2.2.2.1 (83 + 64 * s + 1) (by omega) (by omega))).1) (b := 17) rfl ?_
  refine rc_p (p_istore_n (ls' := [(3, .int (nI (tn (σ (83 + 64 * s + 1))))), (2, .int (nI (tn (σ (83 + 64 * s))))), (0, .ref (d + 1)), (1, .int (nI s))]) (dk_at ktX1_sumOf_0 13 rfl) rfl (by decide) rfl (b := 18) rfl) ?_
  refine rc_p (p_iload_n 1 (dk_at ktX1_sumOf_0 14 rfl) rfl rfl (b := 19) rfl) ?_
  refine rc_p (p_iconst (v := 1) (dk_at ktX1_sumOf_0 15 rfl) (by decide) (b := 20) rfl) ?_
  refine r_icmp_lt (dk_at ktX1_sumOf_0 16 rfl) (b := 43) (by decide) (b2 := 23) rfl (fun c20 => ?_) (fun c20 => ?_)
  · have c20 : (tn (σ (83 + 64 * s))) < 1 := (nI_ltI (a := tn (σ (83 + 64 * s))) (b := 1) (by omega) (by omega)).mp c20
    refine rc_p (p_iconst (v := (-1)) (dk_at ktX1_sumOf_0 27 rfl) (by decide) (b := 44) rfl) ?_
    refine r_iret (dk_at ktX1_sumOf_0 28 rfl) rfl rfl ⟨_, rfl, ?_⟩
    refine ⟨?_, rfl, rfl⟩
    rw [sumS, if_neg (by rw [told_N hI hs, decide_eq_true_eq]; omega)]
  · have c20 : ¬ (tn (σ (83 + 64 * s))) < 1 := fun h => c20 ((nI_ltI (a := tn (σ (83 + 64 * s))) (b := 1) (by omega) (by omega)).mpr h)
    refine rc_p (p_iload_n 1 (dk_at ktX1_sumOf_0 17 rfl) rfl rfl (b := 24) rfl) ?_
    refine rc_p (p_sipush (v := 255) (dk_at ktX1_sumOf_0 18 rfl) (by decide) (b := 27) rfl) ?_
    refine r_icmp_gt (dk_at ktX1_sumOf_0 19 rfl) (b := 43) (by decide) (b2 := 30) rfl (fun c27 => ?_) (fun c27 => ?_)
    · have c27 : 255 < (tn (σ (83 + 64 * s))) := (nI_ltI (a := 255) (b := tn (σ (83 + 64 * s))) (by omega) (by omega)).mp c27
      refine rc_p (p_iconst (v := (-1)) (dk_at ktX1_sumOf_0 27 rfl) (by decide) (b := 44) rfl) ?_
      refine r_iret (dk_at ktX1_sumOf_0 28 rfl) rfl rfl ⟨_, rfl, ?_⟩
      refine ⟨?_, rfl, rfl⟩
      rw [sumS, if_neg (by rw [told_N hI hs, decide_eq_true_eq]; omega)]
    · have c27 : ¬ 255 < (tn (σ (83 + 64 * s))) := fun h => c27 ((nI_ltI (a := 255) (b := tn (σ (83 + 64 * s))) (by omega) (by omega)).mpr h)
      refine rc_p (p_iload_n 0 (dk_at ktX1_sumOf_0 20 rfl) rfl rfl (b := 31) rfl) ?_
      refine rc_p (p_iconst (v := 1) (dk_at ktX1_sumOf_0 21 rfl) (by decide) (b := 32) rfl) ?_
      refine r_icmp_lt (dk_at ktX1_sumOf_0 22 rfl) (b := 43) (by decide) (b2 := 35) rfl (fun c32 => ?_) (fun c32 => ?_)
      · have c32 : (tn (σ (83 + 64 * s + 1))) < 1 := (nI_ltI (a := tn (σ (83 + 64 * s + 1))) (b := 1) (by omega) (by omega)).mp c32
        refine rc_p (p_iconst (v := (-1)) (dk_at ktX1_sumOf_0 27 rfl) (by decide) (b := 44) rfl) ?_
        refine r_iret (dk_at ktX1_sumOf_0 28 rfl) rfl rfl ⟨_, rfl, ?_⟩
        refine ⟨?_, rfl, rfl⟩
        rw [sumS, if_neg (by rw [told_N hI hs, decide_eq_true_eq]; omega)]
      · have c32 : ¬ (tn (σ (83 + 64 * s + 1))) < 1 := fun h => c32 ((nI_ltI (a := tn (σ (83 + 64 * s + 1))) (b := 1) (by omega) (by omega)).mpr h)
        refine rc_p (p_iload_n 0 (dk_at ktX1_sumOf_0 23 rfl) rfl rfl (b := 36) rfl) ?_
        refine rc_p (p_aload_n 2 (dk_at ktX1_sumOf_0 24 rfl) rfl rfl (b := 37) rfl) ?_
        refine r_iV (As' := []) (rest := [.int (nI (tn (σ (83 + 64 * s + 1))))]) (s_X1_room hd (σ := σ) hR hI) cw_X1_90 qi_X1_room qv_X1_room rfl (hd.lt 1 (by decide)) hd.s1 (dk_at ktX1_sumOf_0 25 rfl) rfl rfl (Nat.le_of_ble_eq_true rfl) (by decide) (b := 40) rfl (fun v4 I1 J2 q3 => ?_)
        obtain ⟨rfl, rfl, rfl⟩ := q3
        refine r_icmp_le (dk_at ktX1_sumOf_0 26 rfl) (b := 45) (by decide) (b2 := 43) rfl (fun c40 => ?_) (fun c40 => ?_)
        · have c40 : (tn (σ (83 + 64 * s + 1))) ≤ (nW σ - 3) := (nI_leI (a := tn (σ (83 + 64 * s + 1))) (b := nW σ - 3) (by omega) (by omega)).mp c40
          refine rc_p (p_iload_n 1 (dk_at ktX1_sumOf_0 29 rfl) rfl rfl (b := 46) rfl) ?_
          refine rc_p (p_iload_n 0 (dk_at ktX1_sumOf_0 30 rfl) rfl rfl (b := 47) rfl) ?_
          refine rc_p (p_aload_n 2 (dk_at ktX1_sumOf_0 31 rfl) rfl rfl (b := 48) rfl) ?_
          refine r_geta fl_X1_11 rfl (hd.lt 1 (by decide)) hd.s1 (dk_at ktX1_sumOf_0 32 rfl) hd.g1_0 (b := 51) rfl ?_
          refine rc_p (p_iload_n 3 (dk_at ktX1_sumOf_0 33 rfl) rfl rfl (b := 52) rfl) ?_
          refine r_aald (j := s) (id2 := (d + 3 + s)) (hd.lt 2 (by decide)) hd.s2 (by decide) (dk_at ktX1_sumOf_0 34 rfl) rfl ⟨by omega, by decide⟩ (hd.gc (by omega)) (b := 53) rfl ?_
          refine r_iS (As := [.int (nI (tn (σ (83 + 64 * s)))), .int (nI (tn (σ (83 + 64 * s + 1)))), .ref (d + 3 + s)]) (rest := []) (s_X1_sum (ar := (d + 3 + s)) ⟨(by have := hd.1; omega), (hd.sc (by omega))⟩ (tn (σ (83 + 64 * s))) (tn (σ (83 + 64 * s + 1))) (by omega) (by omega) (fun j hj => by rw [hR.at3 (lc_s hs (by omega))]; exact hI.2.2.2.1 _ (by omega) (by omega))) cw_X1_94 qs_X1_sum (dk_at ktX1_sumOf_0 35 rfl) rfl rfl (Nat.le_of_ble_eq_true rfl) (by decide) (b := 56) rfl (fun v8 I5 J6 q7 => ?_)
          obtain ⟨rfl, rfl, rfl⟩ := q7
          refine r_val (y := sumF σ (83 + 64 * s) (σ (83 + 64 * s)) (tn (σ (83 + 64 * s + 1)))) (by rw [w0.1, tn_nI (by omega)]; exact sumF_congr (fun k hk => by rw [Nat.zero_add]; exact (hR.at3 (lc_s hs (by omega))).trans (by rw [← Nat.add_assoc]))) ?_
          refine r_iret (dk_at ktX1_sumOf_0 36 rfl) rfl rfl ⟨_, rfl, ?_⟩
          refine ⟨?_, rfl, rfl⟩
          rw [sumS, if_pos (by rw [told_N hI hs, decide_eq_true_eq]; omega)]
        · have c40 : ¬ (tn (σ (83 + 64 * s + 1))) ≤ (nW σ - 3) := fun h => c40 ((nI_leI (a := tn (σ (83 + 64 * s + 1))) (b := nW σ - 3) (by omega) (by omega)).mpr h)
          refine rc_p (p_iconst (v := (-1)) (dk_at ktX1_sumOf_0 27 rfl) (by decide) (b := 44) rfl) ?_
          refine r_iret (dk_at ktX1_sumOf_0 28 rfl) rfl rfl ⟨_, rfl, ?_⟩
          refine ⟨?_, rfl, rfl⟩
          rw [sumS, if_neg (by rw [told_N hI hs, decide_eq_true_eq]; omega)]
set_option maxRecDepth 4000 in
set_option maxHeartbeats 4000000 in
theorem s_X1_holdsImage {n : Nat} {sh : mS} {G : mG} {I : mI} {J : mJ} {d : Nat} {σ : sT} {T N : Nat} (hd : DevG n sh G d) (hR : RelD d I σ T N) (hI : Inv σ) (s : Nat) (hs : s < 2) : Sp yX1_holdsImage cX1_holdsImage 2 (some FieldType.boolean) 3 144 0 0 [.ref (d + 1), .int (nI s)] n sh G I J (Qi (fun r_ I_ J_ => bi (wholeB σ s) = r_ ∧ I = I_ ∧ J = J_)) nX := by
  refine Sp.of (by decide) (ls := [(0, .ref (d + 1)), (1, .int (nI s))]) (fun _ => rfl) (fun _ => Nat.le_of_ble_eq_true rfl) ?_
  refine rc_p (p_aload_n 0 (dk_at ktX1_holdsImage_0 0 rfl) rfl rfl (b := 1) rfl) ?_
  refine rc_p (p_iload_n 1 (dk_at ktX1_holdsImage_0 1 rfl) rfl rfl (b := 2) rfl) ?_
  refine r_iV (As' := [.int (nI s)]) (rest := []) (s_X1_sumOf hd (σ := σ) hR hI s (by omega)) cw_X1_98 qi_X1_sumOf qv_X1_sumOf rfl (hd.lt 1 (by decide)) hd.s1 (dk_at ktX1_holdsImage_0 2 rfl) rfl rfl (Nat.le_of_ble_eq_true rfl) (by decide) (b := 5) rfl (fun v4 I1 J2 q3 => ?_)
  obtain ⟨rfl, rfl, rfl⟩ := q3
  refine rc_p (p_aload_n 0 (dk_at ktX1_holdsImage_0 3 rfl) rfl rfl (b := 6) rfl) ?_
  refine r_geta fl_X1_11 rfl (hd.lt 1 (by decide)) hd.s1 (dk_at ktX1_holdsImage_0 4 rfl) hd.g1_0 (b := 9) rfl ?_
  refine rc_p (p_iload_n 1 (dk_at ktX1_holdsImage_0 5 rfl) rfl rfl (b := 10) rfl) ?_
  refine r_aald (j := s) (id2 := (d + 3 + s)) (hd.lt 2 (by decide)) hd.s2 (by decide) (dk_at ktX1_holdsImage_0 6 rfl) rfl ⟨by omega, by decide⟩ (hd.gc (by omega)) (b := 11) rfl ?_
  refine rc_p (p_iconst (v := 2) (dk_at ktX1_holdsImage_0 7 rfl) (by decide) (b := 12) rfl) ?_
  refine r_iald (j := 2) (by have := hd.1; omega) (hd.sc (by omega)) (dk_at ktX1_holdsImage_0 8 rfl) rfl ⟨by decide, by decide⟩ (v := (σ (83 + 64 * s + 2))) (hR.at3 (q := 3) (r := s) (k := 2) (a := 83 + 64 * s + 2) (lc_s (by omega) (by decide))) (b := 13) rfl ?_
  refine r_icmp_ne (dk_at ktX1_holdsImage_0 9 rfl) (b := 20) (by decide) (b2 := 16) rfl (fun c13 => ?_) (fun c13 => ?_)
  · skip
    refine rc_p (p_iconst (v := 0) (dk_at ktX1_holdsImage_0 12 rfl) (by decide) (b := 21) rfl) ?_
    refine r_iret (dk_at ktX1_holdsImage_0 13 rfl) rfl rfl ⟨_, rfl, ?_⟩
    refine ⟨?_, rfl, rfl⟩
    rw [whole_i hI hs]
    simp_all [bi]
  · skip
    refine rc_p (p_iconst (v := 1) (dk_at ktX1_holdsImage_0 10 rfl) (by decide) (b := 17) rfl) ?_
    refine rc_p (p_goto (b := 21) (dk_at ktX1_holdsImage_0 11 rfl) (by decide)) ?_
    refine r_iret (dk_at ktX1_holdsImage_0 13 rfl) rfl rfl ⟨_, rfl, ?_⟩
    refine ⟨?_, rfl, rfl⟩
    rw [whole_i hI hs]
    simp_all [bi]
set_option maxRecDepth 4000 in
set_option maxHeartbeats 4000000 in
theorem s_X1_mustErase {n : Nat} {sh : mS} {G : mG} {I : mI} {J : mJ} {d : Nat} {σ : sT} {T N : Nat} (hd : DevG n sh G d) (hR : RelD d I σ T N) (hI : Inv σ) {ar : Nat} (ha : ArG n sh ar 64) (s p : Nat) (hs : s < 2) (hp : p < nW σ / nP σ) (pay : sT) (c : Nat) (hc : c ≤ 61) (hP : ∀ j, j < c → I ar (3 + j) = pay (3 + j))  : Sp yX1_mustErase cX1_mustErase 8 (some FieldType.boolean) 1 48 0 0 [.ref (d + 1), .int (nI s), .int (nI p), .ref ar, .int (nI c)] n sh G I J (Qi (fun r_ I_ J_ => bi (spentB σ s p pay c) = r_ ∧ I = I_ ∧ J = J_)) nX := by
  refine Sp.of (by decide) (ls := [(0, .ref (d + 1)), (1, .int (nI s)), (2, .int (nI p)), (3, .ref ar), (4, .int (nI c))]) (fun _ => rfl) (fun _ => Nat.le_of_ble_eq_true rfl) ?_
  have cut36 : ∀ (t i : Nat), (min (3 + c) (nP σ * p + nP σ)) - i < t → 3 ≤ i → i ≤ 1000 → nP σ * p ≤ i → (∀ j, (max 3 (nP σ * p)) ≤ j → j < i → σ (83 + 64 * s + j) &&& pay j = pay j) → Rc RX1 cX1_mustErase 8 (some FieldType.boolean) 1 48 0 0 n sh G (Qi (fun r_ I_ J_ => bi (spentB σ s p pay c) = r_ ∧ I = I_ ∧ J = J_)) nX 0 0 36 [(7, .int (nI i)), (6, .int (nI (min (3 + c) (nP σ * p + nP σ)))), (0, .ref (d + 1)), (1, .int (nI s)), (2, .int (nI p)), (3, .ref ar), (4, .int (nI c))] [] I J := by
    have hb := hI.bd
    have hpp := page_le hb.2.2.1 hp
    intro t
    induction t
    · intro i h; omega
    rename_i t ih
    intro i ht h1 h1000 h2 hg
    have hp16 : p < 16 := page_16 hb.2.1 hb.2.2.1 hp
    refine rc_p (p_iload 0 (dk_at ktX1_mustErase_0 21 rfl) rfl (b := 38) rfl) ?_
    refine rc_p (p_iload 1 (dk_at ktX1_mustErase_0 22 rfl) rfl (b := 40) rfl) ?_
    refine r_icmp_ge (dk_at ktX1_mustErase_0 23 rfl) (b := 72) (by decide) (b2 := 43) rfl (fun c40 => ?_) (fun c40 => ?_)
    · have c40 : (min (3 + c) (nP σ * p + nP σ)) ≤ i := (nI_leI (a := (min (3 + c) (nP σ * p + nP σ))) (b := i) (by omega) (by omega)).mp c40
      refine rc_p (p_iload_n 4 (dk_at ktX1_mustErase_0 42 rfl) rfl rfl (b := 73) rfl) ?_
      refine r_if_ne (dk_at ktX1_mustErase_0 43 rfl) (b := 80) (by decide) (b2 := 76) rfl (fun c73 => ?_) (fun c73 => ?_)
      · have c73 : ¬ p = 0 := fun h => c73 ((nI_eq (a := p) (b := 0) (by omega) (by omega)).mpr h)
        refine rc_p (p_iconst (v := 0) (dk_at ktX1_mustErase_0 46 rfl) (by decide) (b := 81) rfl) ?_
        refine r_iret (dk_at ktX1_mustErase_0 47 rfl) rfl rfl ⟨_, rfl, ?_⟩
        refine ⟨?_, rfl, rfl⟩
        rw [spent_n (by omega) (fun j h1 h2 h3 h4 => hg j (by omega) (by omega))]
        rw [decide_eq_false c73]; rfl
      · have c73 : p = 0 := (nI_eq (a := p) (b := 0) (by omega) (by omega)).mp c73
        refine rc_p (p_iconst (v := 1) (dk_at ktX1_mustErase_0 44 rfl) (by decide) (b := 77) rfl) ?_
        refine rc_p (p_goto (b := 81) (dk_at ktX1_mustErase_0 45 rfl) (by decide)) ?_
        refine r_iret (dk_at ktX1_mustErase_0 47 rfl) rfl rfl ⟨_, rfl, ?_⟩
        refine ⟨?_, rfl, rfl⟩
        rw [spent_n (by omega) (fun j h1 h2 h3 h4 => hg j (by omega) (by omega))]
        rw [decide_eq_true c73]; rfl
    · have c40 : ¬ (min (3 + c) (nP σ * p + nP σ)) ≤ i := fun h => c40 ((nI_leI (a := (min (3 + c) (nP σ * p + nP σ))) (b := i) (by omega) (by omega)).mpr h)
      refine rc_p (p_aload_n 2 (dk_at ktX1_mustErase_0 24 rfl) rfl rfl (b := 44) rfl) ?_
      refine r_geta fl_X1_11 rfl (hd.lt 1 (by decide)) hd.s1 (dk_at ktX1_mustErase_0 25 rfl) hd.g1_0 (b := 47) rfl ?_
      refine rc_p (p_iload_n 3 (dk_at ktX1_mustErase_0 26 rfl) rfl rfl (b := 48) rfl) ?_
      refine r_aald (j := s) (id2 := (d + 3 + s)) (hd.lt 2 (by decide)) hd.s2 (by decide) (dk_at ktX1_mustErase_0 27 rfl) rfl ⟨by omega, by decide⟩ (hd.gc (by omega)) (b := 49) rfl ?_
      refine rc_p (p_iload 0 (dk_at ktX1_mustErase_0 28 rfl) rfl (b := 51) rfl) ?_
      refine r_iald (j := i) (by have := hd.1; omega) (hd.sc (by omega)) (dk_at ktX1_mustErase_0 29 rfl) rfl ⟨by omega, by decide⟩ (v := (σ (83 + 64 * s + i))) (hR.at3 (q := 3) (r := s) (k := i) (a := 83 + 64 * s + i) (lc_s (by omega) (by omega))) (b := 52) rfl ?_
      refine rc_p (p_aload_n 5 (dk_at ktX1_mustErase_0 30 rfl) rfl rfl (b := 53) rfl) ?_
      refine rc_p (p_iload 0 (dk_at ktX1_mustErase_0 31 rfl) rfl (b := 55) rfl) ?_
      refine r_iald (j := i) ha.l0 ha.s0 (dk_at ktX1_mustErase_0 32 rfl) rfl ⟨by omega, by decide⟩ (v := (pay i)) ((by have := hP (i - 3) (by omega); rw [show 3 + (i - 3) = i by omega] at this; exact this) : I ar i = pay i) (b := 56) rfl ?_
      refine rc_p (p_iand (v := ((σ (83 + 64 * s + i)) &&& (pay i))) (dk_at ktX1_mustErase_0 33 rfl) rfl (b := 57) rfl) ?_
      refine rc_p (p_aload_n 5 (dk_at ktX1_mustErase_0 34 rfl) rfl rfl (b := 58) rfl) ?_
      refine rc_p (p_iload 0 (dk_at ktX1_mustErase_0 35 rfl) rfl (b := 60) rfl) ?_
      refine r_iald (j := i) ha.l0 ha.s0 (dk_at ktX1_mustErase_0 36 rfl) rfl ⟨by omega, by decide⟩ (v := (pay i)) ((by have := hP (i - 3) (by omega); rw [show 3 + (i - 3) = i by omega] at this; exact this) : I ar i = pay i) (b := 61) rfl ?_
      refine r_icmp_eq (dk_at ktX1_mustErase_0 37 rfl) (b := 66) (by decide) (b2 := 64) rfl (fun c61 => ?_) (fun c61 => ?_)
      · skip
        refine rc_p (p_iinc (j := 0) (v := (nI (i + 1))) (ls' := [(7, .int (nI (i + 1))), (6, .int (nI (min (3 + c) (nP σ * p + nP σ)))), (0, .ref (d + 1)), (1, .int (nI s)), (2, .int (nI p)), (3, .ref ar), (4, .int (nI c))]) (dk_at ktX1_mustErase_0 40 rfl) rfl (nI_add i 1) (by decide) rfl (b := 69) rfl) ?_
        refine rc_p (p_goto (b := 36) (dk_at ktX1_mustErase_0 41 rfl) (by decide)) ?_
        exact ih (i + 1) (by omega) (by omega) (by omega) (by omega) (fun j h3 h4 => by
          by_cases e : j = i
          · subst e; exact c61
          · exact hg j h3 (by omega))
      · skip
        refine rc_p (p_iconst (v := 1) (dk_at ktX1_mustErase_0 38 rfl) (by decide) (b := 65) rfl) ?_
        refine r_iret (dk_at ktX1_mustErase_0 39 rfl) rfl rfl ⟨_, rfl, ?_⟩
        refine ⟨?_, rfl, rfl⟩
        rw [spent_y (i := i) (by omega) (by omega) (by omega) (by omega) (by omega) c61]
        rfl
  have hb := hI.bd
  have hpp := page_le hb.2.2.1 hp
  refine rc_p (p_iconst (v := 3) (dk_at ktX1_mustErase_0 0 rfl) (by decide) (b := 1) rfl) ?_
  refine rc_p (p_iload_n 2 (dk_at ktX1_mustErase_0 1 rfl) rfl rfl (b := 2) rfl) ?_
  refine rc_p (p_aload_n 0 (dk_at ktX1_mustErase_0 2 rfl) rfl rfl (b := 3) rfl) ?_
  refine r_geti fl_X1_29 rfl (hd.lt 1 (by decide)) hd.s1 (dk_at ktX1_mustErase_0 3 rfl) (v := (nI (nP σ))) ((hR.1 1 3 1 lc_1_3).trans (hI).w1) (b := 6) rfl ?_
  refine rc_p (p_imul (v := (nI (nP σ * p))) (dk_at ktX1_mustErase_0 4 rfl) ((pk_mul p (nP σ)).trans (congrArg nI (Nat.mul_comm p (nP σ)))) (b := 7) rfl) ?_
  refine r_mmax (v := (nI (max 3 (nP σ * p)))) qm_X1_101 qmax_s qmath_n qmax_c (dk_at ktX1_mustErase_0 5 rfl) ⟨by decide, Nat.le_of_ble_eq_true rfl⟩ (nmax (a := 3) (b := nP σ * p) (by decide) (by omega)) (b := 10) rfl ?_
  refine rc_p (p_istore (ls' := [(5, .int (nI (max 3 (nP σ * p)))), (0, .ref (d + 1)), (1, .int (nI s)), (2, .int (nI p)), (3, .ref ar), (4, .int (nI c))]) (dk_at ktX1_mustErase_0 6 rfl) (by decide) rfl (b := 12) rfl) ?_
  refine rc_p (p_iconst (v := 3) (dk_at ktX1_mustErase_0 7 rfl) (by decide) (b := 13) rfl) ?_
  refine rc_p (p_iload 5 (dk_at ktX1_mustErase_0 8 rfl) rfl (b := 15) rfl) ?_
  refine rc_p (p_iadd (v := (nI (3 + c))) (dk_at ktX1_mustErase_0 9 rfl) (nI_add 3 c) (b := 16) rfl) ?_
  refine rc_p (p_iload_n 3 (dk_at ktX1_mustErase_0 10 rfl) rfl rfl (b := 17) rfl) ?_
  refine rc_p (p_aload_n 1 (dk_at ktX1_mustErase_0 11 rfl) rfl rfl (b := 18) rfl) ?_
  refine r_geti fl_X1_29 rfl (hd.lt 1 (by decide)) hd.s1 (dk_at ktX1_mustErase_0 12 rfl) (v := (nI (nP σ))) ((hR.1 1 3 1 lc_1_3).trans (hI).w1) (b := 21) rfl ?_
  refine rc_p (p_imul (v := (nI (nP σ * p))) (dk_at ktX1_mustErase_0 13 rfl) ((pk_mul p (nP σ)).trans (congrArg nI (Nat.mul_comm p (nP σ)))) (b := 22) rfl) ?_
  refine rc_p (p_aload_n 1 (dk_at ktX1_mustErase_0 14 rfl) rfl rfl (b := 23) rfl) ?_
  refine r_geti fl_X1_29 rfl (hd.lt 1 (by decide)) hd.s1 (dk_at ktX1_mustErase_0 15 rfl) (v := (nI (nP σ))) ((hR.1 1 3 1 lc_1_3).trans (hI).w1) (b := 26) rfl ?_
  refine rc_p (p_iadd (v := (nI (nP σ * p + (nP σ)))) (dk_at ktX1_mustErase_0 16 rfl) (nI_add (nP σ * p) (nP σ)) (b := 27) rfl) ?_
  refine r_mmin (v := (nI (min (3 + c) (nP σ * p + nP σ)))) qm_X1_106 qmin_s qmath_n qmin_c (dk_at ktX1_mustErase_0 17 rfl) ⟨by decide, Nat.le_of_ble_eq_true rfl⟩ (nmin (a := 3 + c) (b := nP σ * p + nP σ) (by omega) (by omega)) (b := 30) rfl ?_
  refine rc_p (p_istore (ls' := [(6, .int (nI (min (3 + c) (nP σ * p + nP σ)))), (5, .int (nI (max 3 (nP σ * p)))), (0, .ref (d + 1)), (1, .int (nI s)), (2, .int (nI p)), (3, .ref ar), (4, .int (nI c))]) (dk_at ktX1_mustErase_0 18 rfl) (by decide) rfl (b := 32) rfl) ?_
  refine rc_p (p_iload 1 (dk_at ktX1_mustErase_0 19 rfl) rfl (b := 34) rfl) ?_
  refine rc_p (p_istore (ls' := [(7, .int (nI (max 3 (nP σ * p)))), (6, .int (nI (min (3 + c) (nP σ * p + nP σ)))), (5, .int (nI (max 3 (nP σ * p)))), (0, .ref (d + 1)), (1, .int (nI s)), (2, .int (nI p)), (3, .ref ar), (4, .int (nI c))]) (dk_at ktX1_mustErase_0 20 rfl) (by decide) rfl (b := 36) rfl) ?_
  refine rc_sub [0, 1, 3, 4, 5, 6, 7] (ls' := [(7, .int (nI (max 3 (nP σ * p)))), (6, .int (nI (min (3 + c) (nP σ * p + nP σ)))), (0, .ref (d + 1)), (1, .int (nI s)), (2, .int (nI p)), (3, .ref ar), (4, .int (nI c))]) rfl ?_
  exact cut36 1000 (max 3 (nP σ * p)) (by omega) (by omega) (by omega) (by omega) (fun j h1 h2 => by omega)
set_option maxRecDepth 4000 in
set_option maxHeartbeats 4000000 in
theorem s_X1_writeImage {n : Nat} {sh : mS} {G : mG} {I : mI} {J : mJ} {d : Nat} {σ : sT} {T N : Nat} (hd : DevG n sh G d) (hR : RelD d I σ T N) (hI : Inv σ) {ar : Nat} (ha : ArG n sh ar 64) (s v : Nat) (hs : s < 2) (hv : v < 256) (pay : sT) (c : Nat) (hc : c ≤ 61) (hP : ∀ j, j < c → I ar (3 + j) = pay (3 + j)) (hw : ∀ j, j < c → wd (pay (3 + j))) (thr : Bool) (har : ∀ o, o ∈ [1, 3 + s, 8 + s] → ar ≠ d + o)  : Sp yX1_writeImage cX1_writeImage 8 (some FieldType.boolean) 4 170 0 0 [.ref (d + 1), .int (nI s), .int (nI v), .ref ar, .int (nI c), .int (bi thr)] n sh G I J (Qi (fun r_ I_ J_ => bi ((fImg s thr pay c (nI v) σ).1) = r_ ∧ J = J_ ∧ RelD d I_ ((fImg s thr pay c (nI v) σ).2) T N ∧ FD d [1, 3 + s, 8 + s] I I_)) nX := by
  refine Sp.of (by decide) (ls := [(0, .ref (d + 1)), (1, .int (nI s)), (2, .int (nI v)), (3, .ref ar), (4, .int (nI c)), (5, .int (bi thr))]) (fun _ => rfl) (fun _ => Nat.le_of_ble_eq_true rfl) ?_
  have cut63 : ∀ (σp : sT) (t k : Nat) (Iz : mI) (σz : sT), c - k < t → k ≤ c → itK (fPw s pay) k σp = (true, σz) → RelD d Iz σz T N → Inv σz → FD d [1, 3 + s, 8 + s] I Iz → fImg s thr pay c (nI v) σ = sq (itK (fPw s pay) c) (fHd s c (sumF pay 0 (nI v) c) (nI v)) σp → Rc RX1 cX1_writeImage 8 (some FieldType.boolean) 4 170 0 0 n sh G (Qi (fun r_ I_ J_ => bi ((fImg s thr pay c (nI v) σ).1) = r_ ∧ J = J_ ∧ RelD d I_ ((fImg s thr pay c (nI v) σ).2) T N ∧ FD d [1, 3 + s, 8 + s] I I_)) nX 0 0 63 [(6, .int (nI (3 + k))), (0, .ref (d + 1)), (1, .int (nI s)), (2, .int (nI v)), (3, .ref ar), (4, .int (nI c))] [] Iz J := by
    intro σp t
    induction t
    · intro k Iz σz h; omega
    rename_i t ih
    intro k Iz σz ht h1 hE hRz hIz hFz hG
    have hPz : ∀ j, j < c → Iz ar (3 + j) = pay (3 + j) := fun j hj => (congrFun (hFz _ (fun o ho => har o ho)) _).trans (hP j hj)
    have hN := hRz.2.2.2.2.1
    refine rc_p (p_iload 0 (dk_at ktX1_writeImage_0 32 rfl) rfl (b := 65) rfl) ?_
    refine rc_p (p_iconst (v := 3) (dk_at ktX1_writeImage_0 33 rfl) (by decide) (b := 66) rfl) ?_
    refine rc_p (p_iload 5 (dk_at ktX1_writeImage_0 34 rfl) rfl (b := 68) rfl) ?_
    refine rc_p (p_iadd (v := (nI (3 + c))) (dk_at ktX1_writeImage_0 35 rfl) (nI_add 3 c) (b := 69) rfl) ?_
    refine r_icmp_ge (dk_at ktX1_writeImage_0 36 rfl) (b := 110) (by decide) (b2 := 72) rfl (fun c69 => ?_) (fun c69 => ?_)
    · have c69 : (3 + c) ≤ (3 + k) := (nI_leI (a := 3 + c) (b := 3 + k) (by omega) (by omega)).mp c69
      refine rc_p (p_aload_n 1 (dk_at ktX1_writeImage_0 59 rfl) rfl rfl (b := 111) rfl) ?_
      refine rc_p (p_iload_n 2 (dk_at ktX1_writeImage_1 0 rfl) rfl rfl (b := 112) rfl) ?_
      refine rc_p (p_iconst (v := 1) (dk_at ktX1_writeImage_1 1 rfl) (by decide) (b := 113) rfl) ?_
      refine rc_p (p_iload 5 (dk_at ktX1_writeImage_1 2 rfl) rfl (b := 115) rfl) ?_
      refine r_iV (As' := [.int (nI s), .int 1, .int (nI c)]) (rest := []) (s_X1_write hd (σ := σz) hRz hIz s 1 (83 + 64 * s + 1) (by omega) (by omega) (lc_s (by omega) (by decide)) (nI c)) cw_X1_117 qi_X1_write qv_X1_write rfl (hd.lt 1 (by decide)) hd.s1 (dk_at ktX1_writeImage_1 3 rfl) rfl rfl (Nat.le_of_ble_eq_true rfl) (by decide) (b := 118) rfl (fun v4 I1 J2 q3 => ?_)
      obtain ⟨rfl, rfl, hR5, hF6⟩ := q3
      refine r_if_eq (dk_at ktX1_writeImage_1 4 rfl) (b := 151) (by decide) (b2 := 121) rfl (fun c118 => ?_) (fun c118 => ?_)
      · have c118 := bi_f c118
        refine rc_p (p_iconst (v := 0) (dk_at ktX1_writeImage_1 22 rfl) (by decide) (b := 152) rfl) ?_
        refine r_iret (dk_at ktX1_writeImage_1 23 rfl) rfl rfl ⟨_, rfl, ?_⟩
        have hk : k = c := by omega
        subst hk
        have he : fImg s thr pay k (nI v) σ = (false, (sWr σz (83 + 64 * s + 1) (nI k))) := by
          rw [hG, sq_e (f := itK (fPw s pay) k) hE]; unfold fHd; rw [sq_n (fWr_e c118)]
        exact ⟨by rw [he]; rfl, rfl, by rw [he]; exact hR5, (FD.tr hFz (hF6.mo (by simp)))⟩
      · have c118 := bi_t c118
        refine rc_p (p_aload_n 1 (dk_at ktX1_writeImage_1 5 rfl) rfl rfl (b := 122) rfl) ?_
        refine rc_p (p_iload_n 2 (dk_at ktX1_writeImage_1 6 rfl) rfl rfl (b := 123) rfl) ?_
        refine rc_p (p_iconst (v := 2) (dk_at ktX1_writeImage_1 7 rfl) (by decide) (b := 124) rfl) ?_
        refine rc_p (p_iload_n 3 (dk_at ktX1_writeImage_1 8 rfl) rfl rfl (b := 125) rfl) ?_
        refine rc_p (p_iload 5 (dk_at ktX1_writeImage_1 9 rfl) rfl (b := 127) rfl) ?_
        refine rc_p (p_aload_n 4 (dk_at ktX1_writeImage_1 10 rfl) rfl rfl (b := 128) rfl) ?_
        refine r_iS (As := [.int (nI v), .int (nI c), .ref ar]) (rest := [.int 2, .int (nI s), .ref (d + 1)]) (s_X1_sum ha v c hv hc (fun j hj => by rw [(((congrFun (hF6 _ (fun o ho => har o (by simp at ho ⊢; omega))) (3 + j))).trans (hPz j (by omega)))]; exact hw j hj)) cw_X1_94 qs_X1_sum (dk_at ktX1_writeImage_1 11 rfl) rfl rfl (Nat.le_of_ble_eq_true rfl) (by decide) (b := 131) rfl (fun v10 I7 J8 q9 => ?_)
        obtain ⟨rfl, rfl, rfl⟩ := q9
        refine r_val (y := sumF pay 0 (nI v) c) (sumF_congr (fun j hj => by rw [show 0 + 3 + j = 3 + j by omega]; exact (((congrFun (hF6 _ (fun o ho => har o (by simp at ho ⊢; omega))) (3 + j))).trans (hPz j (by omega))))) ?_
        refine r_iV (As' := [.int (nI s), .int 2, .int (sumF pay 0 (nI v) c)]) (rest := []) (s_X1_write hd (σ := (sWr σz (83 + 64 * s + 1) (nI c))) hR5 (Inv.wr hIz (by omega) (by omega)) s 2 (83 + 64 * s + 2) (by omega) (by omega) (lc_s (by omega) (by decide)) (sumF pay 0 (nI v) c)) cw_X1_117 qi_X1_write qv_X1_write rfl (hd.lt 1 (by decide)) hd.s1 (dk_at ktX1_writeImage_1 12 rfl) rfl rfl (Nat.le_of_ble_eq_true rfl) (by decide) (b := 134) rfl (fun v14 I11 J12 q13 => ?_)
        obtain ⟨rfl, rfl, hR15, hF16⟩ := q13
        refine r_if_eq (dk_at ktX1_writeImage_1 13 rfl) (b := 151) (by decide) (b2 := 137) rfl (fun c134 => ?_) (fun c134 => ?_)
        · have c134 := bi_f c134
          refine rc_p (p_iconst (v := 0) (dk_at ktX1_writeImage_1 22 rfl) (by decide) (b := 152) rfl) ?_
          refine r_iret (dk_at ktX1_writeImage_1 23 rfl) rfl rfl ⟨_, rfl, ?_⟩
          have hk : k = c := by omega
          subst hk
          have he : fImg s thr pay k (nI v) σ = (false, (sWr (sWr σz (83 + 64 * s + 1) (nI k)) (83 + 64 * s + 2) (sumF pay 0 (nI v) k))) := by
            rw [hG, sq_e (f := itK (fPw s pay) k) hE]; unfold fHd; rw [sq_e (fWr_e c118), sq_n (fWr_e c134)]
          exact ⟨by rw [he]; rfl, rfl, by rw [he]; exact hR15, (FD.tr (FD.tr hFz (hF6.mo (by simp))) (hF16.mo (by simp)))⟩
        · have c134 := bi_t c134
          refine rc_p (p_aload_n 1 (dk_at ktX1_writeImage_1 14 rfl) rfl rfl (b := 138) rfl) ?_
          refine rc_p (p_iload_n 2 (dk_at ktX1_writeImage_1 15 rfl) rfl rfl (b := 139) rfl) ?_
          refine rc_p (p_iconst (v := 0) (dk_at ktX1_writeImage_1 16 rfl) (by decide) (b := 140) rfl) ?_
          refine rc_p (p_iload_n 3 (dk_at ktX1_writeImage_1 17 rfl) rfl rfl (b := 141) rfl) ?_
          refine r_iV (As' := [.int (nI s), .int 0, .int (nI v)]) (rest := []) (s_X1_write hd (σ := (sWr (sWr σz (83 + 64 * s + 1) (nI c)) (83 + 64 * s + 2) (sumF pay 0 (nI v) c))) hR15 (Inv.wr (Inv.wr hIz (by omega) (by omega)) (by omega) (by omega)) s 0 (83 + 64 * s) (by omega) (by omega) (lc_s (by omega) (by decide)) (nI v)) cw_X1_117 qi_X1_write qv_X1_write rfl (hd.lt 1 (by decide)) hd.s1 (dk_at ktX1_writeImage_1 18 rfl) rfl rfl (Nat.le_of_ble_eq_true rfl) (by decide) (b := 144) rfl (fun v20 I17 J18 q19 => ?_)
          obtain ⟨rfl, rfl, hR21, hF22⟩ := q19
          refine r_if_eq (dk_at ktX1_writeImage_1 19 rfl) (b := 151) (by decide) (b2 := 147) rfl (fun c144 => ?_) (fun c144 => ?_)
          · have c144 := bi_f c144
            refine rc_p (p_iconst (v := 0) (dk_at ktX1_writeImage_1 22 rfl) (by decide) (b := 152) rfl) ?_
            refine r_iret (dk_at ktX1_writeImage_1 23 rfl) rfl rfl ⟨_, rfl, ?_⟩
            have hk : k = c := by omega
            subst hk
            have he : fImg s thr pay k (nI v) σ = (false, (sWr (sWr (sWr σz (83 + 64 * s + 1) (nI k)) (83 + 64 * s + 2) (sumF pay 0 (nI v) k)) (83 + 64 * s) (nI v))) := by
              rw [hG, sq_e (f := itK (fPw s pay) k) hE]; unfold fHd; rw [sq_e (fWr_e c118), sq_e (fWr_e c134)]; exact fWr_e c144
            exact ⟨by rw [he]; rfl, rfl, by rw [he]; exact hR21, (FD.tr (FD.tr (FD.tr hFz (hF6.mo (by simp))) (hF16.mo (by simp))) (hF22.mo (by simp)))⟩
          · have c144 := bi_t c144
            refine rc_p (p_iconst (v := 1) (dk_at ktX1_writeImage_1 20 rfl) (by decide) (b := 148) rfl) ?_
            refine rc_p (p_goto (b := 152) (dk_at ktX1_writeImage_1 21 rfl) (by decide)) ?_
            refine r_iret (dk_at ktX1_writeImage_1 23 rfl) rfl rfl ⟨_, rfl, ?_⟩
            have hk : k = c := by omega
            subst hk
            have he : fImg s thr pay k (nI v) σ = (true, (sWr (sWr (sWr σz (83 + 64 * s + 1) (nI k)) (83 + 64 * s + 2) (sumF pay 0 (nI v) k)) (83 + 64 * s) (nI v))) := by
              rw [hG, sq_e (f := itK (fPw s pay) k) hE]; unfold fHd; rw [sq_e (fWr_e c118), sq_e (fWr_e c134)]; exact fWr_e c144
            exact ⟨by rw [he]; rfl, rfl, by rw [he]; exact hR21, (FD.tr (FD.tr (FD.tr hFz (hF6.mo (by simp))) (hF16.mo (by simp))) (hF22.mo (by simp)))⟩
    · have c69 : ¬ (3 + c) ≤ (3 + k) := fun h => c69 ((nI_leI (a := 3 + c) (b := 3 + k) (by omega) (by omega)).mpr h)
      refine rc_p (p_aload_n 1 (dk_at ktX1_writeImage_0 37 rfl) rfl rfl (b := 73) rfl) ?_
      refine r_geta fl_X1_11 rfl (hd.lt 1 (by decide)) hd.s1 (dk_at ktX1_writeImage_0 38 rfl) hd.g1_0 (b := 76) rfl ?_
      refine rc_p (p_iload_n 2 (dk_at ktX1_writeImage_0 39 rfl) rfl rfl (b := 77) rfl) ?_
      refine r_aald (j := s) (id2 := (d + 3 + s)) (hd.lt 2 (by decide)) hd.s2 (by decide) (dk_at ktX1_writeImage_0 40 rfl) rfl ⟨by omega, by decide⟩ (hd.gc (by omega)) (b := 78) rfl ?_
      refine rc_p (p_iload 0 (dk_at ktX1_writeImage_0 41 rfl) rfl (b := 80) rfl) ?_
      refine r_iald (j := 3 + k) (by have := hd.1; omega) (hd.sc (by omega)) (dk_at ktX1_writeImage_0 42 rfl) rfl ⟨by omega, by decide⟩ (v := (σz (83 + 64 * s + (3 + k)))) (hRz.at3 (q := 3) (r := s) (k := 3 + k) (a := 83 + 64 * s + (3 + k)) (lc_s (by omega) (by omega))) (b := 81) rfl ?_
      refine rc_p (p_aload_n 4 (dk_at ktX1_writeImage_0 43 rfl) rfl rfl (b := 82) rfl) ?_
      refine rc_p (p_iload 0 (dk_at ktX1_writeImage_0 44 rfl) rfl (b := 84) rfl) ?_
      refine r_iald (j := 3 + k) ha.l0 ha.s0 (dk_at ktX1_writeImage_0 45 rfl) rfl ⟨by omega, by decide⟩ (v := (pay (3 + k))) (hPz k (by omega)) (b := 85) rfl ?_
      refine r_icmp_eq (dk_at ktX1_writeImage_0 46 rfl) (b := 104) (by decide) (b2 := 88) rfl (fun c85 => ?_) (fun c85 => ?_)
      · skip
        refine rc_p (p_iinc (j := 0) (v := (nI (3 + k + 1))) (ls' := [(6, .int (nI (3 + k + 1))), (0, .ref (d + 1)), (1, .int (nI s)), (2, .int (nI v)), (3, .ref ar), (4, .int (nI c))]) (dk_at ktX1_writeImage_0 57 rfl) rfl (nI_add (3 + k) 1) (by decide) rfl (b := 107) rfl) ?_
        refine rc_p (p_goto (b := 63) (dk_at ktX1_writeImage_0 58 rfl) (by decide)) ?_
        exact ih (k + 1) Iz σz (by omega) (by omega) (by rw [itK_s hE, fPw_y' c85]) hRz hIz hFz hG
      · skip
        refine rc_p (p_aload_n 1 (dk_at ktX1_writeImage_0 47 rfl) rfl rfl (b := 89) rfl) ?_
        refine rc_p (p_iload_n 2 (dk_at ktX1_writeImage_0 48 rfl) rfl rfl (b := 90) rfl) ?_
        refine rc_p (p_iload 0 (dk_at ktX1_writeImage_0 49 rfl) rfl (b := 92) rfl) ?_
        refine rc_p (p_aload_n 4 (dk_at ktX1_writeImage_0 50 rfl) rfl rfl (b := 93) rfl) ?_
        refine rc_p (p_iload 0 (dk_at ktX1_writeImage_0 51 rfl) rfl (b := 95) rfl) ?_
        refine r_iald (j := 3 + k) ha.l0 ha.s0 (dk_at ktX1_writeImage_0 52 rfl) rfl ⟨by omega, by decide⟩ (v := (pay (3 + k))) (hPz k (by omega)) (b := 96) rfl ?_
        refine r_iV (As' := [.int (nI s), .int (nI (3 + k)), .int (pay (3 + k))]) (rest := []) (s_X1_write hd (σ := σz) hRz hIz s (3 + k) (83 + 64 * s + (3 + k)) (by omega) (by omega) (lc_s (by omega) (by omega)) (pay (3 + k))) cw_X1_117 qi_X1_write qv_X1_write rfl (hd.lt 1 (by decide)) hd.s1 (dk_at ktX1_writeImage_0 53 rfl) rfl rfl (Nat.le_of_ble_eq_true rfl) (by decide) (b := 99) rfl (fun v26 I23 J24 q25 => ?_)
        obtain ⟨rfl, rfl, hR27, hF28⟩ := q25
        refine r_if_ne (dk_at ktX1_writeImage_0 54 rfl) (b := 104) (by decide) (b2 := 102) rfl (fun c99 => ?_) (fun c99 => ?_)
        · have c99 := bi_t c99
          refine rc_p (p_iinc (j := 0) (v := (nI (3 + k + 1))) (ls' := [(6, .int (nI (3 + k + 1))), (0, .ref (d + 1)), (1, .int (nI s)), (2, .int (nI v)), (3, .ref ar), (4, .int (nI c))]) (dk_at ktX1_writeImage_0 57 rfl) rfl (nI_add (3 + k) 1) (by decide) rfl (b := 107) rfl) ?_
          refine rc_p (p_goto (b := 63) (dk_at ktX1_writeImage_0 58 rfl) (by decide)) ?_
          exact ih (k + 1) I23 _ (by omega) (by omega) (by rw [itK_s hE, fPw_n' c85]; exact fWr_e c99) hR27 (Inv.wr hIz (by omega) (by omega)) (FD.tr hFz (hF28.mo (by simp))) hG
        · have c99 := bi_f c99
          refine rc_p (p_iconst (v := 0) (dk_at ktX1_writeImage_0 55 rfl) (by decide) (b := 103) rfl) ?_
          refine r_iret (dk_at ktX1_writeImage_0 56 rfl) rfl rfl ⟨_, rfl, ?_⟩
          have he : fImg s thr pay c (nI v) σ = (false, (sWr σz (83 + 64 * s + (3 + k)) (pay (3 + k)))) := by
            rw [hG, sq_n (f := itK (fPw s pay) c) (itK_stop (k := k + 1) (by rw [itK_s hE, fPw_n' c85]; exact fWr_e c99) (by omega))]
          exact ⟨by rw [he]; rfl, rfl, by rw [he]; exact hR27, (FD.tr hFz (hF28.mo (by simp)))⟩
  have cut3 : ∀ (t k : Nat) (Iz : mI) (σz : sT), (nW σ / nP σ) - k < t → k ≤ (nW σ / nP σ) → itK (fPg s thr pay c) k σ = (true, σz) → RelD d Iz σz T N → Inv σz → FD d [1, 3 + s, 8 + s] I Iz → σz 0 = σ 0 → σz 1 = σ 1 → Rc RX1 cX1_writeImage 8 (some FieldType.boolean) 4 170 0 0 n sh G (Qi (fun r_ I_ J_ => bi ((fImg s thr pay c (nI v) σ).1) = r_ ∧ J = J_ ∧ RelD d I_ ((fImg s thr pay c (nI v) σ).2) T N ∧ FD d [1, 3 + s, 8 + s] I I_)) nX 0 0 3 [(6, .int (nI k)), (0, .ref (d + 1)), (1, .int (nI s)), (2, .int (nI v)), (3, .ref ar), (4, .int (nI c)), (5, .int (bi thr))] [] Iz J := by
    have hb := hI.bd
    have hp0 : nW σ / nP σ ≤ 16 := by have h3 : nW σ / nP σ ≤ nW σ / 4 := Nat.div_le_div_left hb.2.2.1 (by decide); omega
    intro t
    induction t
    · intro k Iz σz h; omega
    rename_i t ih
    intro k Iz σz ht h1 hE hRz hIz hFz hz0 hz1
    have hPz : ∀ j, j < c → Iz ar (3 + j) = pay (3 + j) := fun j hj => (congrFun (hFz _ (fun o ho => har o ho)) _).trans (hP j hj)
    have hN := hRz.2.2.2.2.1
    refine rc_p (p_iload 0 (dk_at ktX1_writeImage_0 2 rfl) rfl (b := 5) rfl) ?_
    refine rc_p (p_aload_n 1 (dk_at ktX1_writeImage_0 3 rfl) rfl rfl (b := 6) rfl) ?_
    refine r_geti fl_X1_30 rfl (hd.lt 1 (by decide)) hd.s1 (dk_at ktX1_writeImage_0 4 rfl) (v := (nI (nW σ / nP σ))) (hRz.2.1.trans (pg_of hz0 hz1)) (b := 9) rfl ?_
    refine r_icmp_ge (dk_at ktX1_writeImage_0 5 rfl) (b := 60) (by decide) (b2 := 12) rfl (fun c9 => ?_) (fun c9 => ?_)
    · have c9 : (nW σ / nP σ) ≤ k := (nI_leI (a := nW σ / nP σ) (b := k) (by omega) (by omega)).mp c9
      refine rc_p (p_iconst (v := 3) (dk_at ktX1_writeImage_0 30 rfl) (by decide) (b := 61) rfl) ?_
      refine rc_p (p_istore (ls' := [(6, .int 3), (0, .ref (d + 1)), (1, .int (nI s)), (2, .int (nI v)), (3, .ref ar), (4, .int (nI c)), (5, .int (bi thr))]) (dk_at ktX1_writeImage_0 31 rfl) (by decide) rfl (b := 63) rfl) ?_
      refine rc_sub [0, 1, 2, 3, 4, 5] (ls' := [(6, .int 3), (0, .ref (d + 1)), (1, .int (nI s)), (2, .int (nI v)), (3, .ref ar), (4, .int (nI c))]) rfl ?_
      exact cut63 σz 1000 0 Iz σz (by omega) (Nat.zero_le _) rfl hRz hIz hFz (by have hk : k = (nW σ / nP σ) := (by omega); subst hk; unfold fImg; rw [sq_e (f := itK (fPg s thr pay c) (nW σ / nP σ)) hE])
    · have c9 : ¬ (nW σ / nP σ) ≤ k := fun h => c9 ((nI_leI (a := nW σ / nP σ) (b := k) (by omega) (by omega)).mpr h)
      refine rc_p (p_iload 6 (dk_at ktX1_writeImage_0 6 rfl) rfl (b := 14) rfl) ?_
      refine r_if_eq (dk_at ktX1_writeImage_0 7 rfl) (b := 30) (by decide) (b2 := 17) rfl (fun c14 => ?_) (fun c14 => ?_)
      · have c14 := bi_f c14
        refine rc_p (p_iconst (v := 1) (dk_at ktX1_writeImage_0 15 rfl) (by decide) (b := 31) rfl) ?_
        refine rc_p (p_goto (b := 35) (dk_at ktX1_writeImage_0 16 rfl) (by decide)) ?_
        refine rc_p (p_istore (ls' := [(7, .int 1), (6, .int (nI k)), (0, .ref (d + 1)), (1, .int (nI s)), (2, .int (nI v)), (3, .ref ar), (4, .int (nI c)), (5, .int (bi thr))]) (dk_at ktX1_writeImage_0 18 rfl) (by decide) rfl (b := 37) rfl) ?_
        refine rc_p (p_iload 0 (dk_at ktX1_writeImage_0 19 rfl) rfl (b := 39) rfl) ?_
        refine r_if_eq (dk_at ktX1_writeImage_0 20 rfl) (b := 54) (by decide) (b2 := 42) rfl (fun c39 => ?_) (fun c39 => ?_)
        · first | exact absurd c39 (by decide) | exact absurd (by decide) c39
        · skip
          refine rc_p (p_aload_n 2 (dk_at ktX1_writeImage_0 21 rfl) rfl rfl (b := 43) rfl) ?_
          refine rc_p (p_iload_n 3 (dk_at ktX1_writeImage_0 22 rfl) rfl rfl (b := 44) rfl) ?_
          refine rc_p (p_iload 1 (dk_at ktX1_writeImage_0 23 rfl) rfl (b := 46) rfl) ?_
          refine r_iV (As' := [.int (nI s), .int (nI k)]) (rest := []) (s_X1_eraseSlotPage hd (σ := σz) hRz hIz s k hs (by rw [nW_of hz0, nP_of hz1]; omega)) cw_X1_113 qi_X1_eraseSlotPage qv_X1_eraseSlotPage rfl (hd.lt 1 (by decide)) hd.s1 (dk_at ktX1_writeImage_0 24 rfl) rfl rfl (Nat.le_of_ble_eq_true rfl) (by decide) (b := 49) rfl (fun v32 I29 J30 q31 => ?_)
          obtain ⟨rfl, rfl, hR33, hF34⟩ := q31
          refine r_if_ne (dk_at ktX1_writeImage_0 25 rfl) (b := 54) (by decide) (b2 := 52) rfl (fun c49 => ?_) (fun c49 => ?_)
          · have c49 := bi_t c49
            refine rc_p (p_iinc (j := 1) (v := (nI (k + 1))) (ls' := [(6, .int (nI (k + 1))), (7, .int 1), (0, .ref (d + 1)), (1, .int (nI s)), (2, .int (nI v)), (3, .ref ar), (4, .int (nI c)), (5, .int (bi thr))]) (dk_at ktX1_writeImage_0 28 rfl) rfl (nI_add k 1) (by decide) rfl (b := 57) rfl) ?_
            refine rc_p (p_goto (b := 3) (dk_at ktX1_writeImage_0 29 rfl) (by decide)) ?_
            refine rc_sub [0, 2, 3, 4, 5, 6, 7] (ls' := [(6, .int (nI (k + 1))), (0, .ref (d + 1)), (1, .int (nI s)), (2, .int (nI v)), (3, .ref ar), (4, .int (nI c)), (5, .int (bi thr))]) rfl ?_
            exact ih (k + 1) I29 _ (by omega) (by omega) (by rw [itK_s hE, (fPg_1 c14)]; exact fErP_e c49) hR33 (Inv.erp hIz hs (by rw [nW_of hz0, nP_of hz1]; omega)) (FD.tr hFz (hF34.mo (by simp))) ((sErP_ne (by decide) (by decide) (by decide)).trans hz0) ((sErP_ne (by decide) (by decide) (by decide)).trans hz1)
          · have c49 := bi_f c49
            refine rc_p (p_iconst (v := 0) (dk_at ktX1_writeImage_0 26 rfl) (by decide) (b := 53) rfl) ?_
            refine r_iret (dk_at ktX1_writeImage_0 27 rfl) rfl rfl ⟨_, rfl, ?_⟩
            have he : fImg s thr pay c (nI v) σ = (false, (sErP σz s k)) := by
              unfold fImg; rw [sq_n (f := itK (fPg s thr pay c) (nW σ / nP σ)) (itK_stop (k := k + 1) (by rw [itK_s hE, (fPg_1 c14)]; exact fErP_e c49) (by omega))]
            exact ⟨by rw [he]; rfl, rfl, by rw [he]; exact hR33, (FD.tr hFz (hF34.mo (by simp)))⟩
      · have c14 := bi_t c14
        refine rc_p (p_aload_n 1 (dk_at ktX1_writeImage_0 8 rfl) rfl rfl (b := 18) rfl) ?_
        refine rc_p (p_iload_n 2 (dk_at ktX1_writeImage_0 9 rfl) rfl rfl (b := 19) rfl) ?_
        refine rc_p (p_iload 0 (dk_at ktX1_writeImage_0 10 rfl) rfl (b := 21) rfl) ?_
        refine rc_p (p_aload_n 4 (dk_at ktX1_writeImage_0 11 rfl) rfl rfl (b := 22) rfl) ?_
        refine rc_p (p_iload 5 (dk_at ktX1_writeImage_0 12 rfl) rfl (b := 24) rfl) ?_
        refine r_iV (As' := [.int (nI s), .int (nI k), .ref ar, .int (nI c)]) (rest := []) (s_X1_mustErase hd (σ := σz) hRz hIz ha s k hs (by rw [nW_of hz0, nP_of hz1]; omega) pay c hc hPz) cw_X1_109 qi_X1_mustErase qv_X1_mustErase rfl (hd.lt 1 (by decide)) hd.s1 (dk_at ktX1_writeImage_0 13 rfl) rfl rfl (Nat.le_of_ble_eq_true rfl) (by decide) (b := 27) rfl (fun v38 I35 J36 q37 => ?_)
        obtain ⟨rfl, rfl, rfl⟩ := q37
        refine r_if_eq (dk_at ktX1_writeImage_0 14 rfl) (b := 34) (by decide) (b2 := 30) rfl (fun c27 => ?_) (fun c27 => ?_)
        · have c27 := bi_f c27
          refine rc_p (p_iconst (v := 0) (dk_at ktX1_writeImage_0 17 rfl) (by decide) (b := 35) rfl) ?_
          refine rc_p (p_istore (ls' := [(7, .int 0), (6, .int (nI k)), (0, .ref (d + 1)), (1, .int (nI s)), (2, .int (nI v)), (3, .ref ar), (4, .int (nI c)), (5, .int (bi thr))]) (dk_at ktX1_writeImage_0 18 rfl) (by decide) rfl (b := 37) rfl) ?_
          refine rc_p (p_iload 0 (dk_at ktX1_writeImage_0 19 rfl) rfl (b := 39) rfl) ?_
          refine r_if_eq (dk_at ktX1_writeImage_0 20 rfl) (b := 54) (by decide) (b2 := 42) rfl (fun c39 => ?_) (fun c39 => ?_)
          · skip
            refine rc_p (p_iinc (j := 1) (v := (nI (k + 1))) (ls' := [(6, .int (nI (k + 1))), (7, .int 0), (0, .ref (d + 1)), (1, .int (nI s)), (2, .int (nI v)), (3, .ref ar), (4, .int (nI c)), (5, .int (bi thr))]) (dk_at ktX1_writeImage_0 28 rfl) rfl (nI_add k 1) (by decide) rfl (b := 57) rfl) ?_
            refine rc_p (p_goto (b := 3) (dk_at ktX1_writeImage_0 29 rfl) (by decide)) ?_
            refine rc_sub [0, 2, 3, 4, 5, 6, 7] (ls' := [(6, .int (nI (k + 1))), (0, .ref (d + 1)), (1, .int (nI s)), (2, .int (nI v)), (3, .ref ar), (4, .int (nI c)), (5, .int (bi thr))]) rfl ?_
            exact ih (k + 1) Iz σz (by omega) (by omega) (by rw [itK_s hE, fPg_3 c14 c27]) hRz hIz hFz hz0 hz1
          · first | exact absurd c39 (by decide) | exact absurd (by decide) c39
        · have c27 := bi_t c27
          refine rc_p (p_iconst (v := 1) (dk_at ktX1_writeImage_0 15 rfl) (by decide) (b := 31) rfl) ?_
          refine rc_p (p_goto (b := 35) (dk_at ktX1_writeImage_0 16 rfl) (by decide)) ?_
          refine rc_p (p_istore (ls' := [(7, .int 1), (6, .int (nI k)), (0, .ref (d + 1)), (1, .int (nI s)), (2, .int (nI v)), (3, .ref ar), (4, .int (nI c)), (5, .int (bi thr))]) (dk_at ktX1_writeImage_0 18 rfl) (by decide) rfl (b := 37) rfl) ?_
          refine rc_p (p_iload 0 (dk_at ktX1_writeImage_0 19 rfl) rfl (b := 39) rfl) ?_
          refine r_if_eq (dk_at ktX1_writeImage_0 20 rfl) (b := 54) (by decide) (b2 := 42) rfl (fun c39 => ?_) (fun c39 => ?_)
          · first | exact absurd c39 (by decide) | exact absurd (by decide) c39
          · skip
            refine rc_p (p_aload_n 2 (dk_at ktX1_writeImage_0 21 rfl) rfl rfl (b := 43) rfl) ?_
            refine rc_p (p_iload_n 3 (dk_at ktX1_writeImage_0 22 rfl) rfl rfl (b := 44) rfl) ?_
            refine rc_p (p_iload 1 (dk_at ktX1_writeImage_0 23 rfl) rfl (b := 46) rfl) ?_
            refine r_iV (As' := [.int (nI s), .int (nI k)]) (rest := []) (s_X1_eraseSlotPage hd (σ := σz) hRz hIz s k hs (by rw [nW_of hz0, nP_of hz1]; omega)) cw_X1_113 qi_X1_eraseSlotPage qv_X1_eraseSlotPage rfl (hd.lt 1 (by decide)) hd.s1 (dk_at ktX1_writeImage_0 24 rfl) rfl rfl (Nat.le_of_ble_eq_true rfl) (by decide) (b := 49) rfl (fun v42 I39 J40 q41 => ?_)
            obtain ⟨rfl, rfl, hR43, hF44⟩ := q41
            refine r_if_ne (dk_at ktX1_writeImage_0 25 rfl) (b := 54) (by decide) (b2 := 52) rfl (fun c49 => ?_) (fun c49 => ?_)
            · have c49 := bi_t c49
              refine rc_p (p_iinc (j := 1) (v := (nI (k + 1))) (ls' := [(6, .int (nI (k + 1))), (7, .int 1), (0, .ref (d + 1)), (1, .int (nI s)), (2, .int (nI v)), (3, .ref ar), (4, .int (nI c)), (5, .int (bi thr))]) (dk_at ktX1_writeImage_0 28 rfl) rfl (nI_add k 1) (by decide) rfl (b := 57) rfl) ?_
              refine rc_p (p_goto (b := 3) (dk_at ktX1_writeImage_0 29 rfl) (by decide)) ?_
              refine rc_sub [0, 2, 3, 4, 5, 6, 7] (ls' := [(6, .int (nI (k + 1))), (0, .ref (d + 1)), (1, .int (nI s)), (2, .int (nI v)), (3, .ref ar), (4, .int (nI c)), (5, .int (bi thr))]) rfl ?_
              exact ih (k + 1) I39 _ (by omega) (by omega) (by rw [itK_s hE, (fPg_2 c27)]; exact fErP_e c49) hR43 (Inv.erp hIz hs (by rw [nW_of hz0, nP_of hz1]; omega)) (FD.tr hFz (hF44.mo (by simp))) ((sErP_ne (by decide) (by decide) (by decide)).trans hz0) ((sErP_ne (by decide) (by decide) (by decide)).trans hz1)
            · have c49 := bi_f c49
              refine rc_p (p_iconst (v := 0) (dk_at ktX1_writeImage_0 26 rfl) (by decide) (b := 53) rfl) ?_
              refine r_iret (dk_at ktX1_writeImage_0 27 rfl) rfl rfl ⟨_, rfl, ?_⟩
              have he : fImg s thr pay c (nI v) σ = (false, (sErP σz s k)) := by
                unfold fImg; rw [sq_n (f := itK (fPg s thr pay c) (nW σ / nP σ)) (itK_stop (k := k + 1) (by rw [itK_s hE, (fPg_2 c27)]; exact fErP_e c49) (by omega))]
              exact ⟨by rw [he]; rfl, rfl, by rw [he]; exact hR43, (FD.tr hFz (hF44.mo (by simp)))⟩
  have hb := hI.bd
  have hp0 : nW σ / nP σ ≤ 16 := by have h3 : nW σ / nP σ ≤ nW σ / 4 := Nat.div_le_div_left hb.2.2.1 (by decide); omega
  refine rc_p (p_iconst (v := 0) (dk_at ktX1_writeImage_0 0 rfl) (by decide) (b := 1) rfl) ?_
  refine rc_p (p_istore (ls' := [(6, .int 0), (0, .ref (d + 1)), (1, .int (nI s)), (2, .int (nI v)), (3, .ref ar), (4, .int (nI c)), (5, .int (bi thr))]) (dk_at ktX1_writeImage_0 1 rfl) (by decide) rfl (b := 3) rfl) ?_
  exact cut3 1000 0 I σ (by omega) (Nat.zero_le _) rfl hR hI FD.rf rfl rfl

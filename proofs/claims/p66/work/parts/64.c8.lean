/-! THE CLASS: copies of devices -/
set_option maxRecDepth 4000 in
set_option maxHeartbeats 4000000 in
theorem s_X1_copyFrom {n : Nat} {sh : mS} {G : mG} {I : mI} {J : mJ} {d o : Nat} (hd : DevG n sh G d) (ho : DevG n sh G o) (hdo : o + 19 ≤ d ∨ d + 19 ≤ o)  : Sp yX1_copyFrom cX1_copyFrom 3 none 2 96 0 0 [.ref (d + 1), .ref (o + 1)] n sh G I J (Qv (fun I_ J_ => J = J_ ∧ (∀ b, b < d ∨ d + 19 ≤ b → I_ b = I b) ∧ (∀ q k, q < 4 → k < 64 → I_ (d + 3 + q) k = I (o + 3 + q) k) ∧ (∀ q k, q < 3 → k < 16 → I_ (d + 8 + q) k = I (o + 8 + q) k) ∧ ∀ k, 2 ≤ k → k < 9 → I_ (d + 1) k = I (o + 1) k)) nX := by
  refine Sp.of (by decide) (ls := [(0, .ref (d + 1)), (1, .ref (o + 1))]) (fun _ => rfl) (fun _ => Nat.le_of_ble_eq_true rfl) ?_
  have cut34 : ∀ (t i : Nat) (Iz : mI), 3 - i < t → i ≤ 3 → (∀ b, b < d ∨ d + 19 ≤ b → Iz b = I b) → (∀ q k, q < 4 → k < 64 → Iz (d + 3 + q) k = I (o + 3 + q) k) → (∀ q k, q < i → k < 16 → Iz (d + 8 + q) k = I (o + 8 + q) k) → Rc RX1 cX1_copyFrom 3 none 2 96 0 0 n sh G (Qv (fun I_ J_ => J = J_ ∧ (∀ b, b < d ∨ d + 19 ≤ b → I_ b = I b) ∧ (∀ q k, q < 4 → k < 64 → I_ (d + 3 + q) k = I (o + 3 + q) k) ∧ (∀ q k, q < 3 → k < 16 → I_ (d + 8 + q) k = I (o + 8 + q) k) ∧ ∀ k, 2 ≤ k → k < 9 → I_ (d + 1) k = I (o + 1) k)) nX 0 0 34 [(2, .int (nI i)), (0, .ref (d + 1)), (1, .ref (o + 1))] [] Iz J := by
    intro t
    induction t
    · intro i Iz h; omega
    rename_i t ih
    intro i Iz ht h1 hF hC hW
    refine rc_p (p_iload_n 0 (dk_at ktX1_copyFrom_0 21 rfl) rfl rfl (b := 35) rfl) ?_
    refine rc_p (p_iconst (v := 2) (dk_at ktX1_copyFrom_0 22 rfl) (by decide) (b := 36) rfl) ?_
    refine r_icmp_gt (dk_at ktX1_copyFrom_0 23 rfl) (b := 64) (by decide) (b2 := 39) rfl (fun c36 => ?_) (fun c36 => ?_)
    · have c36 : 2 < i := (nI_ltI (a := 2) (b := i) (by omega) (by omega)).mp c36
      refine rc_p (p_aload_n 1 (dk_at ktX1_copyFrom_0 38 rfl) rfl rfl (b := 65) rfl) ?_
      refine rc_p (p_aload_n 2 (dk_at ktX1_copyFrom_0 39 rfl) rfl rfl (b := 66) rfl) ?_
      refine r_geti fl_X1_25 rfl (ho.lt 1 (by decide)) ho.s1 (dk_at ktX1_copyFrom_0 40 rfl) (v := (I (o + 1) 2)) (congrFun (hF _ (by omega)) 2) (b := 69) rfl ?_
      refine r_puti fl_X1_25 fw_X1_2 rfl (hd.lt 1 (by decide)) hd.s1 rfl rfl (dk_at ktX1_copyFrom_0 41 rfl) (b := 72) rfl ?_
      refine rc_p (p_aload_n 1 (dk_at ktX1_copyFrom_0 42 rfl) rfl rfl (b := 73) rfl) ?_
      refine rc_p (p_aload_n 2 (dk_at ktX1_copyFrom_0 43 rfl) rfl rfl (b := 74) rfl) ?_
      refine r_geti fl_X1_29 rfl (ho.lt 1 (by decide)) ho.s1 (dk_at ktX1_copyFrom_0 44 rfl) (v := (I (o + 1) 3)) ((up2_n (by omega)).trans (congrFun (hF _ (by omega)) 3)) (b := 77) rfl ?_
      refine r_puti fl_X1_29 fw_X1_3 rfl (hd.lt 1 (by decide)) hd.s1 rfl rfl (dk_at ktX1_copyFrom_0 45 rfl) (b := 80) rfl ?_
      refine rc_p (p_aload_n 1 (dk_at ktX1_copyFrom_0 46 rfl) rfl rfl (b := 81) rfl) ?_
      refine rc_p (p_aload_n 2 (dk_at ktX1_copyFrom_0 47 rfl) rfl rfl (b := 82) rfl) ?_
      refine r_geti fl_X1_30 rfl (ho.lt 1 (by decide)) ho.s1 (dk_at ktX1_copyFrom_0 48 rfl) (v := (I (o + 1) 4)) ((up2_n (by omega)).trans ((up2_n (by omega)).trans (congrFun (hF _ (by omega)) 4))) (b := 85) rfl ?_
      refine r_puti fl_X1_30 fw_X1_4 rfl (hd.lt 1 (by decide)) hd.s1 rfl rfl (dk_at ktX1_copyFrom_0 49 rfl) (b := 88) rfl ?_
      refine rc_p (p_aload_n 1 (dk_at ktX1_copyFrom_0 50 rfl) rfl rfl (b := 89) rfl) ?_
      refine rc_p (p_aload_n 2 (dk_at ktX1_copyFrom_0 51 rfl) rfl rfl (b := 90) rfl) ?_
      refine r_geti fl_X1_36 rfl (ho.lt 1 (by decide)) ho.s1 (dk_at ktX1_copyFrom_0 52 rfl) (v := (I (o + 1) 5)) ((up2_n (by omega)).trans ((up2_n (by omega)).trans ((up2_n (by omega)).trans (congrFun (hF _ (by omega)) 5)))) (b := 93) rfl ?_
      refine r_puti fl_X1_36 fw_X1_5 rfl (hd.lt 1 (by decide)) hd.s1 rfl rfl (dk_at ktX1_copyFrom_0 53 rfl) (b := 96) rfl ?_
      refine rc_p (p_aload_n 1 (dk_at ktX1_copyFrom_0 54 rfl) rfl rfl (b := 97) rfl) ?_
      refine rc_p (p_aload_n 2 (dk_at ktX1_copyFrom_0 55 rfl) rfl rfl (b := 98) rfl) ?_
      refine r_geti fl_X1_40 rfl (ho.lt 1 (by decide)) ho.s1 (dk_at ktX1_copyFrom_0 56 rfl) (v := (I (o + 1) 6)) ((up2_n (by omega)).trans ((up2_n (by omega)).trans ((up2_n (by omega)).trans ((up2_n (by omega)).trans (congrFun (hF _ (by omega)) 6))))) (b := 101) rfl ?_
      refine r_puti fl_X1_40 fw_X1_6 rfl (hd.lt 1 (by decide)) hd.s1 rfl rfl (dk_at ktX1_copyFrom_0 57 rfl) (b := 104) rfl ?_
      refine rc_p (p_aload_n 1 (dk_at ktX1_copyFrom_0 58 rfl) rfl rfl (b := 105) rfl) ?_
      refine rc_p (p_aload_n 2 (dk_at ktX1_copyFrom_0 59 rfl) rfl rfl (b := 106) rfl) ?_
      refine r_geti fl_X1_41 rfl (ho.lt 1 (by decide)) ho.s1 (dk_at ktX1_copyFrom_1 0 rfl) (v := (I (o + 1) 7)) ((up2_n (by omega)).trans ((up2_n (by omega)).trans ((up2_n (by omega)).trans ((up2_n (by omega)).trans ((up2_n (by omega)).trans (congrFun (hF _ (by omega)) 7)))))) (b := 109) rfl ?_
      refine r_puti fl_X1_41 fw_X1_7 rfl (hd.lt 1 (by decide)) hd.s1 rfl rfl (dk_at ktX1_copyFrom_1 1 rfl) (b := 112) rfl ?_
      refine rc_p (p_aload_n 1 (dk_at ktX1_copyFrom_1 2 rfl) rfl rfl (b := 113) rfl) ?_
      refine rc_p (p_aload_n 2 (dk_at ktX1_copyFrom_1 3 rfl) rfl rfl (b := 114) rfl) ?_
      refine r_geti fl_X1_44 rfl (ho.lt 1 (by decide)) ho.s1 (dk_at ktX1_copyFrom_1 4 rfl) (v := (I (o + 1) 8)) ((up2_n (by omega)).trans ((up2_n (by omega)).trans ((up2_n (by omega)).trans ((up2_n (by omega)).trans ((up2_n (by omega)).trans ((up2_n (by omega)).trans (congrFun (hF _ (by omega)) 8))))))) (b := 117) rfl ?_
      refine r_puti fl_X1_44 fw_X1_8 rfl (hd.lt 1 (by decide)) hd.s1 rfl rfl (dk_at ktX1_copyFrom_1 5 rfl) (b := 120) rfl ?_
      refine r_vret (dk_at ktX1_copyFrom_1 6 rfl) rfl ⟨rfl, ?_⟩
      refine ⟨rfl, fun b hb => (up2_off (by omega)).trans ((up2_off (by omega)).trans ((up2_off (by omega)).trans ((up2_off (by omega)).trans ((up2_off (by omega)).trans ((up2_off (by omega)).trans ((up2_off (by omega)).trans (hF b hb))))))), fun q k hq hk => (congrFun ((up2_off (by omega)).trans ((up2_off (by omega)).trans ((up2_off (by omega)).trans ((up2_off (by omega)).trans ((up2_off (by omega)).trans ((up2_off (by omega)).trans ((up2_off (by omega)).trans (rfl)))))))) k).trans (hC q k hq hk), fun q k hq hk => (congrFun ((up2_off (by omega)).trans ((up2_off (by omega)).trans ((up2_off (by omega)).trans ((up2_off (by omega)).trans ((up2_off (by omega)).trans ((up2_off (by omega)).trans ((up2_off (by omega)).trans (rfl)))))))) k).trans (hW q k (by omega) hk), fun k h1 h2 => ?_⟩
      rcases (by omega : k = 2 ∨ k = 3 ∨ k = 4 ∨ k = 5 ∨ k = 6 ∨ k = 7 ∨ k = 8) with rfl | rfl | rfl | rfl | rfl | rfl | rfl
      · exact ((up2_n (by omega)).trans ((up2_n (by omega)).trans ((up2_n (by omega)).trans ((up2_n (by omega)).trans ((up2_n (by omega)).trans ((up2_n (by omega)).trans up2_s))))))
      · exact ((up2_n (by omega)).trans ((up2_n (by omega)).trans ((up2_n (by omega)).trans ((up2_n (by omega)).trans ((up2_n (by omega)).trans up2_s)))))
      · exact ((up2_n (by omega)).trans ((up2_n (by omega)).trans ((up2_n (by omega)).trans ((up2_n (by omega)).trans up2_s))))
      · exact ((up2_n (by omega)).trans ((up2_n (by omega)).trans ((up2_n (by omega)).trans up2_s)))
      · exact ((up2_n (by omega)).trans ((up2_n (by omega)).trans up2_s))
      · exact ((up2_n (by omega)).trans up2_s)
      · exact up2_s
    · have c36 : ¬ 2 < i := fun h => c36 ((nI_ltI (a := 2) (b := i) (by omega) (by omega)).mpr h)
      refine rc_p (p_aload_n 2 (dk_at ktX1_copyFrom_0 24 rfl) rfl rfl (b := 40) rfl) ?_
      refine r_geta fl_X1_16 rfl (ho.lt 1 (by decide)) ho.s1 (dk_at ktX1_copyFrom_0 25 rfl) ho.g1_1 (b := 43) rfl ?_
      refine rc_p (p_iload_n 0 (dk_at ktX1_copyFrom_0 26 rfl) rfl rfl (b := 44) rfl) ?_
      refine r_aald (j := i) (id2 := (o + 8 + i)) (ho.lt 7 (by decide)) ho.s7 (by decide) (dk_at ktX1_copyFrom_0 27 rfl) rfl ⟨by omega, by decide⟩ (ho.gw (by omega)) (b := 45) rfl ?_
      refine rc_p (p_iconst (v := 0) (dk_at ktX1_copyFrom_0 28 rfl) (by decide) (b := 46) rfl) ?_
      refine rc_p (p_aload_n 1 (dk_at ktX1_copyFrom_0 29 rfl) rfl rfl (b := 47) rfl) ?_
      refine r_geta fl_X1_16 rfl (hd.lt 1 (by decide)) hd.s1 (dk_at ktX1_copyFrom_0 30 rfl) hd.g1_1 (b := 50) rfl ?_
      refine rc_p (p_iload_n 0 (dk_at ktX1_copyFrom_0 31 rfl) rfl rfl (b := 51) rfl) ?_
      refine r_aald (j := i) (id2 := (d + 8 + i)) (hd.lt 7 (by decide)) hd.s7 (by decide) (dk_at ktX1_copyFrom_0 32 rfl) rfl ⟨by omega, by decide⟩ (hd.gw (by omega)) (b := 52) rfl ?_
      refine rc_p (p_iconst (v := 0) (dk_at ktX1_copyFrom_0 33 rfl) (by decide) (b := 53) rfl) ?_
      refine rc_p (p_bipush (v := 16) (dk_at ktX1_copyFrom_0 34 rfl) (by decide) (b := 55) rfl) ?_
      refine r_copy (N := 16) qm_X1_56 qn_java_lang_System (by have := ho.1; omega) (ho.sw (by omega)) (by have := hd.1; omega) (hd.sw (by omega)) (by decide) rfl rfl rfl (by decide) (dk_at ktX1_copyFrom_0 35 rfl) (b := 58) rfl ?_
      refine rc_p (p_iinc (j := 0) (v := (nI (i + 1))) (ls' := [(2, .int (nI (i + 1))), (0, .ref (d + 1)), (1, .ref (o + 1))]) (dk_at ktX1_copyFrom_0 36 rfl) rfl (nI_add i 1) (by decide) rfl (b := 61) rfl) ?_
      refine rc_p (p_goto (b := 34) (dk_at ktX1_copyFrom_0 37 rfl) (by decide)) ?_
      exact ih (i + 1) _ (by omega) (by omega) (fun b hb => (cpy_off (by omega)).trans (hF b hb)) (fun q k hq hk => (congrFun (cpy_off (by omega)) k).trans (hC q k hq hk)) (fun q k hq hk => by
        by_cases e : q = i
        · subst e; exact (cpy_in hk).trans (congrFun (hF _ (by omega)) k)
        · exact (congrFun (cpy_off (by omega)) k).trans (hW q k (by omega) hk))
  have cut2 : ∀ (t i : Nat) (Iz : mI), 4 - i < t → i ≤ 4 → (∀ b, b < d ∨ d + 19 ≤ b → Iz b = I b) → (∀ q k, q < i → k < 64 → Iz (d + 3 + q) k = I (o + 3 + q) k) → Rc RX1 cX1_copyFrom 3 none 2 96 0 0 n sh G (Qv (fun I_ J_ => J = J_ ∧ (∀ b, b < d ∨ d + 19 ≤ b → I_ b = I b) ∧ (∀ q k, q < 4 → k < 64 → I_ (d + 3 + q) k = I (o + 3 + q) k) ∧ (∀ q k, q < 3 → k < 16 → I_ (d + 8 + q) k = I (o + 8 + q) k) ∧ ∀ k, 2 ≤ k → k < 9 → I_ (d + 1) k = I (o + 1) k)) nX 0 0 2 [(2, .int (nI i)), (0, .ref (d + 1)), (1, .ref (o + 1))] [] Iz J := by
    intro t
    induction t
    · intro i Iz h; omega
    rename_i t ih
    intro i Iz ht h1 hF hC
    refine rc_p (p_iload_n 0 (dk_at ktX1_copyFrom_0 2 rfl) rfl rfl (b := 3) rfl) ?_
    refine rc_p (p_iconst (v := 3) (dk_at ktX1_copyFrom_0 3 rfl) (by decide) (b := 4) rfl) ?_
    refine r_icmp_gt (dk_at ktX1_copyFrom_0 4 rfl) (b := 32) (by decide) (b2 := 7) rfl (fun c4 => ?_) (fun c4 => ?_)
    · have c4 : 3 < i := (nI_ltI (a := 3) (b := i) (by omega) (by omega)).mp c4
      refine rc_p (p_iconst (v := 0) (dk_at ktX1_copyFrom_0 19 rfl) (by decide) (b := 33) rfl) ?_
      refine rc_p (p_istore_n (ls' := [(2, .int 0), (0, .ref (d + 1)), (1, .ref (o + 1))]) (dk_at ktX1_copyFrom_0 20 rfl) rfl (by decide) rfl (b := 34) rfl) ?_
      exact cut34 1000 0 Iz (by omega) (by omega) hF (fun q k hq hk => hC q k (by omega) hk) (fun q k hq => absurd hq (by omega))
    · have c4 : ¬ 3 < i := fun h => c4 ((nI_ltI (a := 3) (b := i) (by omega) (by omega)).mpr h)
      refine rc_p (p_aload_n 2 (dk_at ktX1_copyFrom_0 5 rfl) rfl rfl (b := 8) rfl) ?_
      refine r_geta fl_X1_11 rfl (ho.lt 1 (by decide)) ho.s1 (dk_at ktX1_copyFrom_0 6 rfl) ho.g1_0 (b := 11) rfl ?_
      refine rc_p (p_iload_n 0 (dk_at ktX1_copyFrom_0 7 rfl) rfl rfl (b := 12) rfl) ?_
      refine r_aald (j := i) (id2 := (o + 3 + i)) (ho.lt 2 (by decide)) ho.s2 (by decide) (dk_at ktX1_copyFrom_0 8 rfl) rfl ⟨by omega, by decide⟩ (ho.gc (by omega)) (b := 13) rfl ?_
      refine rc_p (p_iconst (v := 0) (dk_at ktX1_copyFrom_0 9 rfl) (by decide) (b := 14) rfl) ?_
      refine rc_p (p_aload_n 1 (dk_at ktX1_copyFrom_0 10 rfl) rfl rfl (b := 15) rfl) ?_
      refine r_geta fl_X1_11 rfl (hd.lt 1 (by decide)) hd.s1 (dk_at ktX1_copyFrom_0 11 rfl) hd.g1_0 (b := 18) rfl ?_
      refine rc_p (p_iload_n 0 (dk_at ktX1_copyFrom_0 12 rfl) rfl rfl (b := 19) rfl) ?_
      refine r_aald (j := i) (id2 := (d + 3 + i)) (hd.lt 2 (by decide)) hd.s2 (by decide) (dk_at ktX1_copyFrom_0 13 rfl) rfl ⟨by omega, by decide⟩ (hd.gc (by omega)) (b := 20) rfl ?_
      refine rc_p (p_iconst (v := 0) (dk_at ktX1_copyFrom_0 14 rfl) (by decide) (b := 21) rfl) ?_
      refine rc_p (p_bipush (v := 64) (dk_at ktX1_copyFrom_0 15 rfl) (by decide) (b := 23) rfl) ?_
      refine r_copy (N := 64) qm_X1_56 qn_java_lang_System (by have := ho.1; omega) (ho.sc (by omega)) (by have := hd.1; omega) (hd.sc (by omega)) (by decide) rfl rfl rfl (by decide) (dk_at ktX1_copyFrom_0 16 rfl) (b := 26) rfl ?_
      refine rc_p (p_iinc (j := 0) (v := (nI (i + 1))) (ls' := [(2, .int (nI (i + 1))), (0, .ref (d + 1)), (1, .ref (o + 1))]) (dk_at ktX1_copyFrom_0 17 rfl) rfl (nI_add i 1) (by decide) rfl (b := 29) rfl) ?_
      refine rc_p (p_goto (b := 2) (dk_at ktX1_copyFrom_0 18 rfl) (by decide)) ?_
      exact ih (i + 1) _ (by omega) (by omega) (fun b hb => (cpy_off (by omega)).trans (hF b hb)) (fun q k hq hk => by
        by_cases e : q = i
        · subst e; exact (cpy_in hk).trans (congrFun (hF _ (by omega)) k)
        · exact (congrFun (cpy_off (by omega)) k).trans (hC q k (by omega) hk))
  refine rc_p (p_iconst (v := 0) (dk_at ktX1_copyFrom_0 0 rfl) (by decide) (b := 1) rfl) ?_
  refine rc_p (p_istore_n (ls' := [(2, .int 0), (0, .ref (d + 1)), (1, .ref (o + 1))]) (dk_at ktX1_copyFrom_0 1 rfl) rfl (by decide) rfl (b := 2) rfl) ?_
  exact cut2 1000 0 I (by omega) (by omega) (fun _ _ => rfl) (fun q k hq => absurd hq (by omega))
set_option maxRecDepth 4000 in
set_option maxHeartbeats 4000000 in
theorem s_X3_copyFrom {n : Nat} {sh : mS} {G : mG} {I : mI} {J : mJ} {d o : Nat} (hd : DevG n sh G d) (ho : DevG n sh G o) (hdo : o + 19 ≤ d ∨ d + 19 ≤ o)  : Sp yX3_copyFrom cX3_copyFrom 2 none 2 96 0 0 [.ref (d + 11), .ref (o + 11)] n sh G I J (Qv (fun I_ J_ => J = J_ ∧ (∀ b, b < d + 11 ∨ d + 16 ≤ b → I_ b = I b) ∧ (∀ q k, q < 3 → k < 40 → I_ (d + 12 + q) k = I (o + 12 + q) k) ∧ (∀ k, k < 8 → I_ (d + 15) k = I (o + 15) k) ∧ I_ (d + 11) 4 = I (o + 11) 4)) nX := by
  refine Sp.of (by decide) (ls := [(0, .ref (d + 11)), (1, .ref (o + 11))]) (fun _ => rfl) (fun _ => Nat.le_of_ble_eq_true rfl) ?_
  refine rc_p (p_aload_n 1 (dk_at ktX3_copyFrom_0 0 rfl) rfl rfl (b := 1) rfl) ?_
  refine r_geta fl_X3_11 rfl (ho.lt 11 (by decide)) ho.s11 (dk_at ktX3_copyFrom_0 1 rfl) ho.g11_0 (b := 4) rfl ?_
  refine rc_p (p_iconst (v := 0) (dk_at ktX3_copyFrom_0 2 rfl) (by decide) (b := 5) rfl) ?_
  refine rc_p (p_aload_n 0 (dk_at ktX3_copyFrom_0 3 rfl) rfl rfl (b := 6) rfl) ?_
  refine r_geta fl_X3_11 rfl (hd.lt 11 (by decide)) hd.s11 (dk_at ktX3_copyFrom_0 4 rfl) hd.g11_0 (b := 9) rfl ?_
  refine rc_p (p_iconst (v := 0) (dk_at ktX3_copyFrom_0 5 rfl) (by decide) (b := 10) rfl) ?_
  refine rc_p (p_bipush (v := 40) (dk_at ktX3_copyFrom_0 6 rfl) (by decide) (b := 12) rfl) ?_
  refine r_copy (N := 40) qm_X3_34 qn_java_lang_System (ho.lt 12 (by decide)) ho.s12 (hd.lt 12 (by decide)) hd.s12 (by decide) rfl rfl rfl (by decide) (dk_at ktX3_copyFrom_0 7 rfl) (b := 15) rfl ?_
  refine rc_p (p_aload_n 1 (dk_at ktX3_copyFrom_0 8 rfl) rfl rfl (b := 16) rfl) ?_
  refine r_geta fl_X3_15 rfl (ho.lt 11 (by decide)) ho.s11 (dk_at ktX3_copyFrom_0 9 rfl) ho.g11_1 (b := 19) rfl ?_
  refine rc_p (p_iconst (v := 0) (dk_at ktX3_copyFrom_0 10 rfl) (by decide) (b := 20) rfl) ?_
  refine rc_p (p_aload_n 0 (dk_at ktX3_copyFrom_0 11 rfl) rfl rfl (b := 21) rfl) ?_
  refine r_geta fl_X3_15 rfl (hd.lt 11 (by decide)) hd.s11 (dk_at ktX3_copyFrom_0 12 rfl) hd.g11_1 (b := 24) rfl ?_
  refine rc_p (p_iconst (v := 0) (dk_at ktX3_copyFrom_0 13 rfl) (by decide) (b := 25) rfl) ?_
  refine rc_p (p_bipush (v := 40) (dk_at ktX3_copyFrom_0 14 rfl) (by decide) (b := 27) rfl) ?_
  refine r_copy (N := 40) qm_X3_34 qn_java_lang_System (ho.lt 13 (by decide)) ho.s13 (hd.lt 13 (by decide)) hd.s13 (by decide) rfl rfl rfl (by decide) (dk_at ktX3_copyFrom_0 15 rfl) (b := 30) rfl ?_
  refine rc_p (p_aload_n 1 (dk_at ktX3_copyFrom_0 16 rfl) rfl rfl (b := 31) rfl) ?_
  refine r_geta fl_X3_18 rfl (ho.lt 11 (by decide)) ho.s11 (dk_at ktX3_copyFrom_0 17 rfl) ho.g11_2 (b := 34) rfl ?_
  refine rc_p (p_iconst (v := 0) (dk_at ktX3_copyFrom_0 18 rfl) (by decide) (b := 35) rfl) ?_
  refine rc_p (p_aload_n 0 (dk_at ktX3_copyFrom_0 19 rfl) rfl rfl (b := 36) rfl) ?_
  refine r_geta fl_X3_18 rfl (hd.lt 11 (by decide)) hd.s11 (dk_at ktX3_copyFrom_0 20 rfl) hd.g11_2 (b := 39) rfl ?_
  refine rc_p (p_iconst (v := 0) (dk_at ktX3_copyFrom_0 21 rfl) (by decide) (b := 40) rfl) ?_
  refine rc_p (p_bipush (v := 40) (dk_at ktX3_copyFrom_0 22 rfl) (by decide) (b := 42) rfl) ?_
  refine r_copy (N := 40) qm_X3_34 qn_java_lang_System (ho.lt 14 (by decide)) ho.s14 (hd.lt 14 (by decide)) hd.s14 (by decide) rfl rfl rfl (by decide) (dk_at ktX3_copyFrom_0 23 rfl) (b := 45) rfl ?_
  refine rc_p (p_aload_n 1 (dk_at ktX3_copyFrom_0 24 rfl) rfl rfl (b := 46) rfl) ?_
  refine r_geta fl_X3_21 rfl (ho.lt 11 (by decide)) ho.s11 (dk_at ktX3_copyFrom_0 25 rfl) ho.g11_3 (b := 49) rfl ?_
  refine rc_p (p_iconst (v := 0) (dk_at ktX3_copyFrom_0 26 rfl) (by decide) (b := 50) rfl) ?_
  refine rc_p (p_aload_n 0 (dk_at ktX3_copyFrom_0 27 rfl) rfl rfl (b := 51) rfl) ?_
  refine r_geta fl_X3_21 rfl (hd.lt 11 (by decide)) hd.s11 (dk_at ktX3_copyFrom_0 28 rfl) hd.g11_3 (b := 54) rfl ?_
  refine rc_p (p_iconst (v := 0) (dk_at ktX3_copyFrom_0 29 rfl) (by decide) (b := 55) rfl) ?_
  refine rc_p (p_aload_n 0 (dk_at ktX3_copyFrom_0 30 rfl) rfl rfl (b := 56) rfl) ?_
  refine r_geta fl_X3_21 rfl (hd.lt 11 (by decide)) hd.s11 (dk_at ktX3_copyFrom_0 31 rfl) hd.g11_3 (b := 59) rfl ?_
  refine r_alenI (len := 8) (hd.lt 15 (by decide)) hd.s15 (dk_at ktX3_copyFrom_0 32 rfl) (b := 60) rfl ?_
  refine r_copy (N := 8) qm_X3_34 qn_java_lang_System (ho.lt 15 (by decide)) ho.s15 (hd.lt 15 (by decide)) hd.s15 (by decide) rfl rfl rfl (by decide) (dk_at ktX3_copyFrom_0 33 rfl) (b := 63) rfl ?_
  refine rc_p (p_aload_n 0 (dk_at ktX3_copyFrom_0 34 rfl) rfl rfl (b := 64) rfl) ?_
  refine rc_p (p_aload_n 1 (dk_at ktX3_copyFrom_0 35 rfl) rfl rfl (b := 65) rfl) ?_
  refine r_geti fl_X3_24 rfl (ho.lt 11 (by decide)) ho.s11 (dk_at ktX3_copyFrom_0 36 rfl) (v := (I (o + 11) 4)) (((congrFun (cpy_off (by omega)) 4)).trans (((congrFun (cpy_off (by omega)) 4)).trans (((congrFun (cpy_off (by omega)) 4)).trans (congrFun (cpy_off (by omega)) 4)))) (b := 68) rfl ?_
  refine r_puti fl_X3_24 fw_X3_4 rfl (hd.lt 11 (by decide)) hd.s11 rfl rfl (dk_at ktX3_copyFrom_0 37 rfl) (b := 71) rfl ?_
  refine r_vret (dk_at ktX3_copyFrom_0 38 rfl) rfl ⟨rfl, ?_⟩
  refine ⟨rfl, fun b hb => (up2_off (by omega)).trans ((cpy_off (by omega)).trans ((cpy_off (by omega)).trans ((cpy_off (by omega)).trans ((cpy_off (by omega)).trans (rfl))))), fun q k hq hk => ?_, fun k hk => ?_, up2_s⟩
  · rcases (by omega : q = 0 ∨ q = 1 ∨ q = 2) with rfl | rfl | rfl
    · exact (congrFun ((up2_off (by omega)).trans ((cpy_off (by omega)).trans ((cpy_off (by omega)).trans (cpy_off (by omega))))) k).trans (cpy_in hk)
    · exact (congrFun ((up2_off (by omega)).trans ((cpy_off (by omega)).trans (cpy_off (by omega)))) k).trans ((cpy_in hk).trans (congrFun (cpy_off (by omega)) k))
    · exact (congrFun ((up2_off (by omega)).trans (cpy_off (by omega))) k).trans ((cpy_in hk).trans (congrFun ((cpy_off (by omega)).trans (cpy_off (by omega))) k))
  · exact (congrFun (up2_off (by omega)) k).trans ((cpy_in hk).trans (congrFun ((cpy_off (by omega)).trans ((cpy_off (by omega)).trans (cpy_off (by omega)))) k))
set_option maxRecDepth 4000 in
set_option maxHeartbeats 4000000 in
theorem s_X0_copyFrom {n : Nat} {sh : mS} {G : mG} {I : mI} {J : mJ} {d o : Nat} (hd : DevG n sh G d) (ho : DevG n sh G o) (hdo : o + 19 ≤ d ∨ d + 19 ≤ o) {σ : sT} {T N : Nat} (hR : RelD o I σ T N) : Sp yX0_copyFrom cX0_copyFrom 2 none 3 144 0 0 [.ref d, .ref o] n sh G I J (Qv (fun I_ J_ => J = J_ ∧ RelD d I_ σ T N ∧ (∀ b, b < d ∨ d + 19 ≤ b → I_ b = I b))) nX := by
  refine Sp.of (by decide) (ls := [(0, .ref d), (1, .ref o)]) (fun _ => rfl) (fun _ => Nat.le_of_ble_eq_true rfl) ?_
  refine rc_p (p_aload_n 0 (dk_at ktX0_copyFrom_0 0 rfl) rfl rfl (b := 1) rfl) ?_
  refine r_geta fl_X0_12 rfl hd.l0 hd.s0 (dk_at ktX0_copyFrom_0 1 rfl) hd.g0_0 (b := 4) rfl ?_
  refine rc_p (p_aload_n 1 (dk_at ktX0_copyFrom_0 2 rfl) rfl rfl (b := 5) rfl) ?_
  refine r_geta fl_X0_12 rfl ho.l0 ho.s0 (dk_at ktX0_copyFrom_0 3 rfl) ho.g0_0 (b := 8) rfl ?_
  refine r_vV (As' := [.ref (o + 1)]) (rest := []) (s_X1_copyFrom hd ho hdo) cw_X0_61 qi_X1_copyFrom qv_X1_copyFrom rfl (hd.lt 1 (by decide)) hd.s1 (dk_at ktX0_copyFrom_0 4 rfl) rfl rfl (Nat.le_of_ble_eq_true rfl) (by decide) (b := 11) rfl (fun I1 J2 q3 => ?_)
  obtain ⟨rfl, f1, f2, f3, f4⟩ := q3
  refine rc_p (p_aload_n 0 (dk_at ktX0_copyFrom_0 5 rfl) rfl rfl (b := 12) rfl) ?_
  refine r_geta fl_X0_21 rfl hd.l0 hd.s0 (dk_at ktX0_copyFrom_0 6 rfl) hd.g0_1 (b := 15) rfl ?_
  refine rc_p (p_aload_n 1 (dk_at ktX0_copyFrom_0 7 rfl) rfl rfl (b := 16) rfl) ?_
  refine r_geta fl_X0_21 rfl ho.l0 ho.s0 (dk_at ktX0_copyFrom_0 8 rfl) ho.g0_1 (b := 19) rfl ?_
  refine r_vV (As' := [.ref (o + 11)]) (rest := []) (s_X3_copyFrom hd ho hdo) cw_X0_65 qi_X3_copyFrom qv_X3_copyFrom rfl (hd.lt 11 (by decide)) hd.s11 (dk_at ktX0_copyFrom_0 9 rfl) rfl rfl (Nat.le_of_ble_eq_true rfl) (by decide) (b := 22) rfl (fun I5 J6 q7 => ?_)
  obtain ⟨rfl, g1, g2, g3, g4⟩ := q7
  refine rc_p (p_aload_n 1 (dk_at ktX0_copyFrom_0 10 rfl) rfl rfl (b := 23) rfl) ?_
  refine r_geta fl_X0_36 rfl ho.l0 ho.s0 (dk_at ktX0_copyFrom_0 11 rfl) ho.g0_4 (b := 26) rfl ?_
  refine rc_p (p_iconst (v := 0) (dk_at ktX0_copyFrom_0 12 rfl) (by decide) (b := 27) rfl) ?_
  refine rc_p (p_aload_n 0 (dk_at ktX0_copyFrom_0 13 rfl) rfl rfl (b := 28) rfl) ?_
  refine r_geta fl_X0_36 rfl hd.l0 hd.s0 (dk_at ktX0_copyFrom_0 14 rfl) hd.g0_4 (b := 31) rfl ?_
  refine rc_p (p_iconst (v := 0) (dk_at ktX0_copyFrom_0 15 rfl) (by decide) (b := 32) rfl) ?_
  refine rc_p (p_bipush (v := 64) (dk_at ktX0_copyFrom_0 16 rfl) (by decide) (b := 34) rfl) ?_
  refine r_copy (N := 64) qm_X0_68 qn_java_lang_System (ho.lt 18 (by decide)) ho.s18 (hd.lt 18 (by decide)) hd.s18 (by decide) rfl rfl rfl (by decide) (dk_at ktX0_copyFrom_0 17 rfl) (b := 37) rfl ?_
  refine rc_p (p_aload_n 0 (dk_at ktX0_copyFrom_0 18 rfl) rfl rfl (b := 38) rfl) ?_
  refine rc_p (p_aload_n 1 (dk_at ktX0_copyFrom_0 19 rfl) rfl rfl (b := 39) rfl) ?_
  refine r_geti fl_X0_46 rfl ho.l0 ho.s0 (dk_at ktX0_copyFrom_0 20 rfl) (v := (I5 o 5)) (congrFun (cpy_off (by omega)) 5) (b := 42) rfl ?_
  refine r_puti fl_X0_46 fw_X0_5 rfl hd.l0 hd.s0 rfl rfl (dk_at ktX0_copyFrom_0 21 rfl) (b := 45) rfl ?_
  refine rc_p (p_aload_n 0 (dk_at ktX0_copyFrom_0 22 rfl) rfl rfl (b := 46) rfl) ?_
  refine rc_p (p_aload_n 1 (dk_at ktX0_copyFrom_0 23 rfl) rfl rfl (b := 47) rfl) ?_
  refine r_geti fl_X0_55 rfl ho.l0 ho.s0 (dk_at ktX0_copyFrom_0 24 rfl) (v := (I5 o 6)) ((up2_n (by omega)).trans (congrFun (cpy_off (by omega)) 6)) (b := 50) rfl ?_
  refine r_puti fl_X0_55 fw_X0_6 rfl hd.l0 hd.s0 rfl rfl (dk_at ktX0_copyFrom_0 25 rfl) (b := 53) rfl ?_
  refine rc_p (p_aload_n 0 (dk_at ktX0_copyFrom_0 26 rfl) rfl rfl (b := 54) rfl) ?_
  refine rc_p (p_aload_n 1 (dk_at ktX0_copyFrom_0 27 rfl) rfl rfl (b := 55) rfl) ?_
  refine r_geti fl_X0_74 rfl ho.l0 ho.s0 (dk_at ktX0_copyFrom_0 28 rfl) (v := (I5 o 7)) ((up2_n (by omega)).trans ((up2_n (by omega)).trans (congrFun (cpy_off (by omega)) 7))) (b := 58) rfl ?_
  refine r_puti fl_X0_74 fw_X0_7 rfl hd.l0 hd.s0 rfl rfl (dk_at ktX0_copyFrom_0 29 rfl) (b := 61) rfl ?_
  refine rc_p (p_aload_n 0 (dk_at ktX0_copyFrom_0 30 rfl) rfl rfl (b := 62) rfl) ?_
  refine rc_p (p_aload_n 1 (dk_at ktX0_copyFrom_0 31 rfl) rfl rfl (b := 63) rfl) ?_
  refine r_geti fl_X0_77 rfl ho.l0 ho.s0 (dk_at ktX0_copyFrom_0 32 rfl) (v := (I5 o 8)) ((up2_n (by omega)).trans ((up2_n (by omega)).trans ((up2_n (by omega)).trans (congrFun (cpy_off (by omega)) 8)))) (b := 66) rfl ?_
  refine r_puti fl_X0_77 fw_X0_8 rfl hd.l0 hd.s0 rfl rfl (dk_at ktX0_copyFrom_0 33 rfl) (b := 69) rfl ?_
  refine r_vret (dk_at ktX0_copyFrom_0 34 rfl) rfl ⟨rfl, ?_⟩
  have e0 : ∀ b, b ≠ d → b ≠ d + 18 → (up2 (up2 (up2 (up2 (cpy I5 (o + 18) (d + 18) 64) d 5 (I5 o 5)) d 6 (I5 o 6)) d 7 (I5 o 7)) d 8 (I5 o 8)) b = I5 b := fun b h1 h2 => (up2_off h1).trans ((up2_off h1).trans ((up2_off h1).trans ((up2_off h1).trans (cpy_off h2))))
  have e1 : ∀ b, b ≠ d → b ≠ d + 18 → (b < d + 11 ∨ d + 16 ≤ b) → (up2 (up2 (up2 (up2 (cpy I5 (o + 18) (d + 18) 64) d 5 (I5 o 5)) d 6 (I5 o 6)) d 7 (I5 o 7)) d 8 (I5 o 8)) b = I1 b := fun b h1 h2 h3 => (e0 b h1 h2).trans (g1 b h3)
  have eo : ∀ q, q < 19 → I5 (o + q) = I (o + q) := fun q hq => (g1 _ (by omega)).trans (f1 _ (by omega))
  have hN := hR.2.2.2.2.1
  refine ⟨rfl, hR.cp (fun q k a hq => ?_) ?_ ?_ (fun q k hq hk => ?_), fun b hb => (e1 b (by omega) (by omega) (by omega)).trans (f1 b hb)⟩
  · unfold Loc at hq
    rcases hq with ⟨rfl, hq⟩ | ⟨rfl, hq⟩ | hq | hq | hq | hq | hq | hq
    · rw [e1 _ (by omega) (by omega) (by omega)]; exact f4 k (by omega) (by omega)
    · rcases (by omega : k = 5 ∨ k = 6 ∨ k = 7 ∨ k = 8) with rfl | rfl | rfl | rfl
      · exact Eq.trans ((up2_n (by omega)).trans ((up2_n (by omega)).trans ((up2_n (by omega)).trans up2_s))) (by first | exact congrFun (eo 0 (by decide)) 5 | exact (congrFun (cpy_off (by omega)) 5).trans (congrFun (eo 0 (by decide)) 5) | (rw [up2_off (by omega), cpy_off (by omega)]; exact congrFun (eo 0 (by decide)) 5) | (simp only [Nat.add_zero]; repeat (first | rw [up2_off (by omega)] | rw [cpy_off (by omega)]); exact congrFun (eo 0 (by decide)) 5))
      · exact Eq.trans ((up2_n (by omega)).trans ((up2_n (by omega)).trans up2_s)) (by first | exact congrFun (eo 0 (by decide)) 6 | exact (congrFun (cpy_off (by omega)) 6).trans (congrFun (eo 0 (by decide)) 6) | (rw [up2_off (by omega), cpy_off (by omega)]; exact congrFun (eo 0 (by decide)) 6) | (simp only [Nat.add_zero]; repeat (first | rw [up2_off (by omega)] | rw [cpy_off (by omega)]); exact congrFun (eo 0 (by decide)) 6))
      · exact Eq.trans ((up2_n (by omega)).trans up2_s) (by first | exact congrFun (eo 0 (by decide)) 7 | exact (congrFun (cpy_off (by omega)) 7).trans (congrFun (eo 0 (by decide)) 7) | (rw [up2_off (by omega), cpy_off (by omega)]; exact congrFun (eo 0 (by decide)) 7) | (simp only [Nat.add_zero]; repeat (first | rw [up2_off (by omega)] | rw [cpy_off (by omega)]); exact congrFun (eo 0 (by decide)) 7))
      · exact Eq.trans up2_s (by first | exact congrFun (eo 0 (by decide)) 8 | exact (congrFun (cpy_off (by omega)) 8).trans (congrFun (eo 0 (by decide)) 8) | (rw [up2_off (by omega), cpy_off (by omega)]; exact congrFun (eo 0 (by decide)) 8) | (simp only [Nat.add_zero]; repeat (first | rw [up2_off (by omega)] | rw [cpy_off (by omega)]); exact congrFun (eo 0 (by decide)) 8))
    · obtain ⟨r, rfl⟩ : ∃ r, q = 3 + r := ⟨q - 3, by omega⟩
      rw [e1 _ (by omega) (by omega) (by omega), ← Nat.add_assoc, ← Nat.add_assoc]; exact f2 r k (by omega) (by omega)
    · obtain ⟨r, rfl⟩ : ∃ r, q = 3 + r := ⟨q - 3, by omega⟩
      rw [e1 _ (by omega) (by omega) (by omega), ← Nat.add_assoc, ← Nat.add_assoc]; exact f2 r k (by omega) (by omega)
    · obtain ⟨r, rfl⟩ : ∃ r, q = 8 + r := ⟨q - 8, by omega⟩
      rw [e1 _ (by omega) (by omega) (by omega), ← Nat.add_assoc, ← Nat.add_assoc]; exact f3 r k (by omega) (by omega)
    · obtain ⟨rfl, hq⟩ := hq
      rw [e1 _ (by omega) (by omega) (by omega)]; exact f3 2 k (by decide) (by omega)
    · obtain ⟨rfl, hq⟩ := hq
      rw [e0 _ (by omega) (by omega), g3 k (by omega), f1 _ (by omega)]
    · obtain ⟨rfl, h3, h4, _⟩ := hq
      exact (congrFun ((up2_off (by omega)).trans ((up2_off (by omega)).trans ((up2_off (by omega)).trans (up2_off (by omega))))) k).trans ((cpy_in (by omega)).trans (congrFun (eo 18 (by decide)) k))
  · rw [e1 _ (by omega) (by omega) (by omega)]; exact f4 4 (by decide) (by decide)
  · rw [e0 _ (by omega) (by omega), g4, f1 _ (by omega)]
  · rw [e0 _ (by omega) (by omega), g2 q k hq hk, f1 _ (by omega)]

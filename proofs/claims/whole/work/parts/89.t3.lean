/-! THE REFERENCE: load, loadError -/
set_option maxRecDepth 4000 in
set_option maxHeartbeats 4000000 in
theorem s_X7_begins {n : Nat} {sh : mS} {G : mG} {I : mI} {J : mJ} {ar : Nat} (ha : ArG n sh ar 429)  : Sp yX7_begins cX7_begins 2 none 1 48 0 0 [.ref ar] n sh G I J (Qv (fun I_ J_ => J = J_ ∧ (∀ b, b ≠ ar → I_ b = I b) ∧ ∀ k, k < 309 → I_ ar k = row0 k)) nX := by
  refine Sp.of (by decide) (ls := [(0, .ref ar)]) (fun _ => rfl) (fun _ => Nat.le_of_ble_eq_true rfl) ?_
  have cut22 : ∀ (t k : Nat) (Iz : mI), 300 - k < t → 83 ≤ k → k ≤ 275 → (∀ b, b ≠ ar → Iz b = I b) → (∀ j, j < 309 → Iz ar j = if 83 ≤ j ∧ j < k then 65535 else 0) → Rc RX7 cX7_begins 2 none 1 48 0 0 n sh G (Qv (fun I_ J_ => J = J_ ∧ (∀ b, b ≠ ar → I_ b = I b) ∧ ∀ k, k < 309 → I_ ar k = row0 k)) nX 0 0 22 [(1, .int (nI k)), (0, .ref ar)] [] Iz J := by
    intro t
    induction t
    · intro k Iz h; omega
    rename_i t ih
    intro k Iz ht h1 h2 hF h0
    refine rc_p (p_iload_n 0 (dk_at ktX7_begins_0 13 rfl) rfl rfl (b := 23) rfl) ?_
    refine rc_p (p_sipush (v := 275) (dk_at ktX7_begins_0 14 rfl) (by decide) (b := 26) rfl) ?_
    refine r_icmp_ge (dk_at ktX7_begins_0 15 rfl) (b := 40) (by decide) (b2 := 29) rfl (fun c26 => ?_) (fun c26 => ?_)
    · have c26 : 275 ≤ k := (nI_leI (a := 275) (b := k) (by omega) (by omega)).mp c26
      refine rc_p (p_aload_n 1 (dk_at ktX7_begins_0 22 rfl) rfl rfl (b := 41) rfl) ?_
      refine rc_p (p_iconst (v := 3) (dk_at ktX7_begins_0 23 rfl) (by decide) (b := 42) rfl) ?_
      refine rc_p (p_iconst (v := 3) (dk_at ktX7_begins_0 24 rfl) (by decide) (b := 43) rfl) ?_
      refine r_iast (j := 3) ha.l0 ha.s0 (dk_at ktX7_begins_0 25 rfl) rfl ⟨by decide, by decide⟩ (b := 44) rfl ?_
      refine rc_p (p_aload_n 1 (dk_at ktX7_begins_0 26 rfl) rfl rfl (b := 45) rfl) ?_
      refine rc_p (p_bipush (v := 6) (dk_at ktX7_begins_0 27 rfl) (by decide) (b := 47) rfl) ?_
      refine rc_p (p_iconst (v := (-1)) (dk_at ktX7_begins_0 28 rfl) (by decide) (b := 48) rfl) ?_
      refine r_iast (j := 6) ha.l0 ha.s0 (dk_at ktX7_begins_0 29 rfl) rfl ⟨by decide, by decide⟩ (b := 49) rfl ?_
      refine rc_p (p_aload_n 1 (dk_at ktX7_begins_0 30 rfl) rfl rfl (b := 50) rfl) ?_
      refine rc_p (p_bipush (v := 8) (dk_at ktX7_begins_0 31 rfl) (by decide) (b := 52) rfl) ?_
      refine rc_p (p_iconst (v := (-1)) (dk_at ktX7_begins_0 32 rfl) (by decide) (b := 53) rfl) ?_
      refine r_iast (j := 8) ha.l0 ha.s0 (dk_at ktX7_begins_0 33 rfl) rfl ⟨by decide, by decide⟩ (b := 54) rfl ?_
      refine r_vret (dk_at ktX7_begins_0 34 rfl) rfl ⟨rfl, ?_⟩
      refine ⟨rfl, fun b hb => (up2_off hb).trans ((up2_off hb).trans ((up2_off hb).trans (hF b hb))), fun j hj => ?_⟩
      have hk : k = 275 := by omega
      subst hk
      unfold row0
      by_cases e8 : j = 8
      · subst e8; exact up2_s
      · refine (up2_k e8).trans ?_
        by_cases e6 : j = 6
        · subst e6; exact up2_s
        · refine (up2_k e6).trans ?_
          by_cases e3 : j = 3
          · subst e3; exact up2_s
          · refine (up2_k e3).trans ((h0 j (by omega)).trans ?_)
            by_cases q : 83 ≤ j ∧ j < 275
            · rw [if_pos q, if_pos q]
            · rw [if_neg q, if_neg q, if_neg e3, if_neg e6, if_neg e8]
    · have c26 : ¬ 275 ≤ k := fun h => c26 ((nI_leI (a := 275) (b := k) (by omega) (by omega)).mpr h)
      refine rc_p (p_aload_n 1 (dk_at ktX7_begins_0 16 rfl) rfl rfl (b := 30) rfl) ?_
      refine rc_p (p_iload_n 0 (dk_at ktX7_begins_0 17 rfl) rfl rfl (b := 31) rfl) ?_
      refine rc_p (p_ldc (v := 65535) qk_TwinBootModel_49 (dk_at ktX7_begins_0 18 rfl) (b := 33) rfl) ?_
      refine r_iast (j := k) ha.l0 ha.s0 (dk_at ktX7_begins_0 19 rfl) rfl ⟨by omega, by decide⟩ (b := 34) rfl ?_
      refine rc_p (p_iinc (j := 0) (v := (nI (k + 1))) (ls' := [(1, .int (nI (k + 1))), (0, .ref ar)]) (dk_at ktX7_begins_0 20 rfl) rfl (nI_add k 1) (by decide) rfl (b := 37) rfl) ?_
      refine rc_p (p_goto (b := 22) (dk_at ktX7_begins_0 21 rfl) (by decide)) ?_
      exact ih (k + 1) _ (by omega) (by omega) (by omega) (fun b hb => (up2_off hb).trans (hF b hb)) (fun j hj => by
        by_cases e : j = k
        · subst e; rw [if_pos (by omega)]; exact up2_s
        · refine (up2_k e).trans ((h0 j hj).trans ?_)
          by_cases q : 83 ≤ j ∧ j < k
          · rw [if_pos q, if_pos (by omega)]
          · rw [if_neg q, if_neg (by omega)])
  have cut2 : ∀ (t k : Nat) (Iz : mI), 430 - k < t → k ≤ 429 → (∀ b, b ≠ ar → Iz b = I b) → (∀ j, j < k → Iz ar j = 0) → Rc RX7 cX7_begins 2 none 1 48 0 0 n sh G (Qv (fun I_ J_ => J = J_ ∧ (∀ b, b ≠ ar → I_ b = I b) ∧ ∀ k, k < 309 → I_ ar k = row0 k)) nX 0 0 2 [(1, .int (nI k)), (0, .ref ar)] [] Iz J := by
    intro t
    induction t
    · intro k Iz h; omega
    rename_i t ih
    intro k Iz ht h1 hF h0
    refine rc_p (p_iload_n 0 (dk_at ktX7_begins_0 2 rfl) rfl rfl (b := 3) rfl) ?_
    refine rc_p (p_sipush (v := 429) (dk_at ktX7_begins_0 3 rfl) (by decide) (b := 6) rfl) ?_
    refine r_icmp_ge (dk_at ktX7_begins_0 4 rfl) (b := 19) (by decide) (b2 := 9) rfl (fun c6 => ?_) (fun c6 => ?_)
    · have c6 : 429 ≤ k := (nI_leI (a := 429) (b := k) (by omega) (by omega)).mp c6
      refine rc_p (p_bipush (v := 83) (dk_at ktX7_begins_0 11 rfl) (by decide) (b := 21) rfl) ?_
      refine rc_p (p_istore_n (ls' := [(1, .int 83), (0, .ref ar)]) (dk_at ktX7_begins_0 12 rfl) rfl (by decide) rfl (b := 22) rfl) ?_
      exact cut22 1000 83 Iz (by omega) (by omega) (by omega) hF (fun j hj => (h0 j (by omega)).trans (if_neg (by omega)).symm)
    · have c6 : ¬ 429 ≤ k := fun h => c6 ((nI_leI (a := 429) (b := k) (by omega) (by omega)).mpr h)
      refine rc_p (p_aload_n 1 (dk_at ktX7_begins_0 5 rfl) rfl rfl (b := 10) rfl) ?_
      refine rc_p (p_iload_n 0 (dk_at ktX7_begins_0 6 rfl) rfl rfl (b := 11) rfl) ?_
      refine rc_p (p_iconst (v := 0) (dk_at ktX7_begins_0 7 rfl) (by decide) (b := 12) rfl) ?_
      refine r_iast (j := k) ha.l0 ha.s0 (dk_at ktX7_begins_0 8 rfl) rfl ⟨by omega, by decide⟩ (b := 13) rfl ?_
      refine rc_p (p_iinc (j := 0) (v := (nI (k + 1))) (ls' := [(1, .int (nI (k + 1))), (0, .ref ar)]) (dk_at ktX7_begins_0 9 rfl) rfl (nI_add k 1) (by decide) rfl (b := 16) rfl) ?_
      refine rc_p (p_goto (b := 2) (dk_at ktX7_begins_0 10 rfl) (by decide)) ?_
      exact ih (k + 1) _ (by omega) (by omega) (fun b hb => (up2_off hb).trans (hF b hb)) (fun j hj => by
        by_cases e : j = k
        · subst e; exact up2_s
        · exact (up2_k e).trans (h0 j (by omega)))
  refine rc_p (p_iconst (v := 0) (dk_at ktX7_begins_0 0 rfl) (by decide) (b := 1) rfl) ?_
  refine rc_p (p_istore_n (ls' := [(1, .int 0), (0, .ref ar)]) (dk_at ktX7_begins_0 1 rfl) rfl (by decide) rfl (b := 2) rfl) ?_
  exact cut2 1000 0 I (by omega) (by omega) (fun _ _ => rfl) (fun j hj => absurd hj (by omega))
set_option maxRecDepth 4000 in
set_option maxHeartbeats 4000000 in
theorem s_X7_lays {n : Nat} {sh : mS} {G : mG} {I : mI} {J : mJ} {m : Nat} {S : PSt} (hm : ModG n sh G m) (hS : RS m I S) (hfl : S.fl ≤ 255)  : Sp yX7_lays cX7_lays 3 none 2 96 0 0 [.ref m, .ref (m + 3)] n sh G I J (Qv (fun I_ J_ => J = J_ ∧ FF m [3] [] I I_ ∧ ∀ k, k < 309 → I_ (m + 3) k = newS S k)) nX := by
  refine Sp.of (by decide) (ls := [(0, .ref m), (1, .ref (m + 3))]) (fun _ => rfl) (fun _ => Nat.le_of_ble_eq_true rfl) ?_
  refine rc_p (p_sipush (v := 211) (dk_at ktX7_lays_0 0 rfl) (by decide) (b := 3) rfl) ?_
  refine rc_p (p_istore_n (ls' := [(2, .int 211), (0, .ref m), (1, .ref (m + 3))]) (dk_at ktX7_lays_0 1 rfl) rfl (by decide) rfl (b := 4) rfl) ?_
  refine rc_p (p_aload_n 2 (dk_at ktX7_lays_0 2 rfl) rfl rfl (b := 5) rfl) ?_
  refine rc_p (p_iload_n 0 (dk_at ktX7_lays_0 3 rfl) rfl rfl (b := 6) rfl) ?_
  refine rc_p (p_bipush (v := 6) (dk_at ktX7_lays_0 4 rfl) (by decide) (b := 8) rfl) ?_
  refine rc_p (p_iconst (v := 0) (dk_at ktX7_lays_0 5 rfl) (by decide) (b := 9) rfl) ?_
  refine r_iS (As := [.int 6, .int 0]) (rest := [.int 211, .ref (m + 3)]) (s_X7_wordOf 6 0) cw_X7_50 qs_X7_wordOf (dk_at ktX7_lays_0 6 rfl) rfl rfl (Nat.le_of_ble_eq_true rfl) (by decide) (b := 12) rfl (fun v4 I1 J2 q3 => ?_)
  obtain ⟨rfl, rfl, rfl⟩ := q3
  refine r_iast (j := 211) (hm.lt 3 (by decide)) hm.s3 (dk_at ktX7_lays_0 7 rfl) rfl ⟨by decide, by decide⟩ (b := 13) rfl ?_
  refine rc_p (p_aload_n 1 (dk_at ktX7_lays_0 8 rfl) rfl rfl (b := 14) rfl) ?_
  refine r_geti fl_X7_54 rfl hm.l0 hm.s0 (dk_at ktX7_lays_0 9 rfl) (v := (nI S.fl)) ((up2_n (by omega)).trans hS.2.1) (b := 17) rfl ?_
  refine r_if_le (dk_at ktX7_lays_0 10 rfl) (b := 34) (by decide) (b2 := 20) rfl (fun c17 => ?_) (fun c17 => ?_)
  · have c17 : S.fl ≤ 0 := (nI_leI (a := S.fl) (b := 0) (by omega) (by omega)).mp c17
    refine rc_p (p_aload_n 1 (dk_at ktX7_lays_0 19 rfl) rfl rfl (b := 35) rfl) ?_
    refine r_geti fl_X7_29 rfl hm.l0 hm.s0 (dk_at ktX7_lays_0 20 rfl) (v := S.gd) ((up2_n (by omega)).trans hS.2.2.1) (b := 38) rfl ?_
    refine rc_p (p_iconst (v := (-1)) (dk_at ktX7_lays_0 21 rfl) (by decide) (b := 39) rfl) ?_
    refine r_icmp_eq (dk_at ktX7_lays_0 22 rfl) (b := 55) (by decide) (b2 := 42) rfl (fun c39 => ?_) (fun c39 => ?_)
    · skip
      refine r_vret (dk_at ktX7_lays_0 32 rfl) rfl ⟨rfl, ?_⟩
      have c17 : ¬ 0 < S.fl := by omega
      refine ⟨rfl, (FF.rf.ua (o := 3) (by simp) (by decide)), fun j hj => ?_⟩
      unfold newS
      by_cases e1 : j = 211
      · subst e1; rw [if_pos rfl]; exact up2_s
      · rw [if_neg e1]
        by_cases e2 : j = 212
        · subst e2; rw [if_pos rfl]; rw [if_neg c17, if_pos c39]; exact (up2_k (by decide)).trans (hS.1 212 (by decide))
        · rw [if_neg e2]
          by_cases e3 : j = 213
          · subst e3; rw [if_pos rfl]; rw [if_neg (fun q => c17 q.1)]; exact (up2_k (by decide)).trans (hS.1 213 (by decide))
          · rw [if_neg e3, if_pos hj]
            exact (up2_k e1).trans (hS.1 j hj)
    · skip
      refine rc_p (p_aload_n 2 (dk_at ktX7_lays_0 23 rfl) rfl rfl (b := 43) rfl) ?_
      refine rc_p (p_iload_n 0 (dk_at ktX7_lays_0 24 rfl) rfl rfl (b := 44) rfl) ?_
      refine rc_p (p_iconst (v := 1) (dk_at ktX7_lays_0 25 rfl) (by decide) (b := 45) rfl) ?_
      refine rc_p (p_iadd (v := 212) (dk_at ktX7_lays_0 26 rfl) rfl (b := 46) rfl) ?_
      refine rc_p (p_iconst (v := 2) (dk_at ktX7_lays_0 27 rfl) (by decide) (b := 47) rfl) ?_
      refine rc_p (p_aload_n 1 (dk_at ktX7_lays_0 28 rfl) rfl rfl (b := 48) rfl) ?_
      refine r_geti fl_X7_29 rfl hm.l0 hm.s0 (dk_at ktX7_lays_0 29 rfl) (v := S.gd) ((up2_n (by omega)).trans hS.2.2.1) (b := 51) rfl ?_
      refine r_iS (As := [.int 2, .int S.gd]) (rest := [.int 212, .ref (m + 3)]) (s_X7_wordOf 2 S.gd) cw_X7_50 qs_X7_wordOf (dk_at ktX7_lays_0 30 rfl) rfl rfl (Nat.le_of_ble_eq_true rfl) (by decide) (b := 54) rfl (fun v8 I5 J6 q7 => ?_)
      obtain ⟨rfl, rfl, rfl⟩ := q7
      refine r_iast (j := 212) (hm.lt 3 (by decide)) hm.s3 (dk_at ktX7_lays_0 31 rfl) rfl ⟨by decide, by decide⟩ (b := 55) rfl ?_
      refine r_vret (dk_at ktX7_lays_0 32 rfl) rfl ⟨rfl, ?_⟩
      have c17 : ¬ 0 < S.fl := by omega
      refine ⟨rfl, ((FF.rf.ua (o := 3) (by simp) (by decide)).ua (o := 3) (by simp) (by decide)), fun j hj => ?_⟩
      unfold newS
      by_cases e1 : j = 211
      · subst e1; rw [if_pos rfl]; exact (up2_k (by decide)).trans (up2_s)
      · rw [if_neg e1]
        by_cases e2 : j = 212
        · subst e2; rw [if_pos rfl]; rw [if_neg c17, if_neg c39]; exact up2_s
        · rw [if_neg e2]
          by_cases e3 : j = 213
          · subst e3; rw [if_pos rfl]; rw [if_neg (fun q => c17 q.1)]; exact (up2_k (by decide)).trans ((up2_k (by decide)).trans (hS.1 213 (by decide)))
          · rw [if_neg e3, if_pos hj]
            exact (up2_k e2).trans ((up2_k e1).trans (hS.1 j hj))
  · have c17 : ¬ S.fl ≤ 0 := fun h => c17 ((nI_leI (a := S.fl) (b := 0) (by omega) (by omega)).mpr h)
    refine rc_p (p_iinc (j := 0) (v := 212) (ls' := [(2, .int 212), (0, .ref m), (1, .ref (m + 3))]) (dk_at ktX7_lays_0 11 rfl) rfl (by decide) (by decide) rfl (b := 23) rfl) ?_
    refine rc_p (p_aload_n 2 (dk_at ktX7_lays_0 12 rfl) rfl rfl (b := 24) rfl) ?_
    refine rc_p (p_iload_n 0 (dk_at ktX7_lays_0 13 rfl) rfl rfl (b := 25) rfl) ?_
    refine rc_p (p_iconst (v := 1) (dk_at ktX7_lays_0 14 rfl) (by decide) (b := 26) rfl) ?_
    refine rc_p (p_aload_n 1 (dk_at ktX7_lays_0 15 rfl) rfl rfl (b := 27) rfl) ?_
    refine r_geti fl_X7_54 rfl hm.l0 hm.s0 (dk_at ktX7_lays_0 16 rfl) (v := (nI S.fl)) ((up2_n (by omega)).trans hS.2.1) (b := 30) rfl ?_
    refine r_iS (As := [.int 1, .int (nI S.fl)]) (rest := [.int 212, .ref (m + 3)]) (s_X7_wordOf 1 (nI S.fl)) cw_X7_50 qs_X7_wordOf (dk_at ktX7_lays_0 17 rfl) rfl rfl (Nat.le_of_ble_eq_true rfl) (by decide) (b := 33) rfl (fun v12 I9 J10 q11 => ?_)
    obtain ⟨rfl, rfl, rfl⟩ := q11
    refine r_iast (j := 212) (hm.lt 3 (by decide)) hm.s3 (dk_at ktX7_lays_0 18 rfl) rfl ⟨by decide, by decide⟩ (b := 34) rfl ?_
    refine rc_p (p_aload_n 1 (dk_at ktX7_lays_0 19 rfl) rfl rfl (b := 35) rfl) ?_
    refine r_geti fl_X7_29 rfl hm.l0 hm.s0 (dk_at ktX7_lays_0 20 rfl) (v := S.gd) ((up2_n (by omega)).trans ((up2_n (by omega)).trans hS.2.2.1)) (b := 38) rfl ?_
    refine rc_p (p_iconst (v := (-1)) (dk_at ktX7_lays_0 21 rfl) (by decide) (b := 39) rfl) ?_
    refine r_icmp_eq (dk_at ktX7_lays_0 22 rfl) (b := 55) (by decide) (b2 := 42) rfl (fun c39 => ?_) (fun c39 => ?_)
    · skip
      refine r_vret (dk_at ktX7_lays_0 32 rfl) rfl ⟨rfl, ?_⟩
      have c17 : 0 < S.fl := by omega
      refine ⟨rfl, ((FF.rf.ua (o := 3) (by simp) (by decide)).ua (o := 3) (by simp) (by decide)), fun j hj => ?_⟩
      unfold newS
      by_cases e1 : j = 211
      · subst e1; rw [if_pos rfl]; exact (up2_k (by decide)).trans (up2_s)
      · rw [if_neg e1]
        by_cases e2 : j = 212
        · subst e2; rw [if_pos rfl]; rw [if_pos c17]; exact up2_s
        · rw [if_neg e2]
          by_cases e3 : j = 213
          · subst e3; rw [if_pos rfl]; rw [if_neg (fun q => q.2 c39)]; exact (up2_k (by decide)).trans ((up2_k (by decide)).trans (hS.1 213 (by decide)))
          · rw [if_neg e3, if_pos hj]
            exact (up2_k e2).trans ((up2_k e1).trans (hS.1 j hj))
    · skip
      refine rc_p (p_aload_n 2 (dk_at ktX7_lays_0 23 rfl) rfl rfl (b := 43) rfl) ?_
      refine rc_p (p_iload_n 0 (dk_at ktX7_lays_0 24 rfl) rfl rfl (b := 44) rfl) ?_
      refine rc_p (p_iconst (v := 1) (dk_at ktX7_lays_0 25 rfl) (by decide) (b := 45) rfl) ?_
      refine rc_p (p_iadd (v := 213) (dk_at ktX7_lays_0 26 rfl) rfl (b := 46) rfl) ?_
      refine rc_p (p_iconst (v := 2) (dk_at ktX7_lays_0 27 rfl) (by decide) (b := 47) rfl) ?_
      refine rc_p (p_aload_n 1 (dk_at ktX7_lays_0 28 rfl) rfl rfl (b := 48) rfl) ?_
      refine r_geti fl_X7_29 rfl hm.l0 hm.s0 (dk_at ktX7_lays_0 29 rfl) (v := S.gd) ((up2_n (by omega)).trans ((up2_n (by omega)).trans hS.2.2.1)) (b := 51) rfl ?_
      refine r_iS (As := [.int 2, .int S.gd]) (rest := [.int 213, .ref (m + 3)]) (s_X7_wordOf 2 S.gd) cw_X7_50 qs_X7_wordOf (dk_at ktX7_lays_0 30 rfl) rfl rfl (Nat.le_of_ble_eq_true rfl) (by decide) (b := 54) rfl (fun v16 I13 J14 q15 => ?_)
      obtain ⟨rfl, rfl, rfl⟩ := q15
      refine r_iast (j := 213) (hm.lt 3 (by decide)) hm.s3 (dk_at ktX7_lays_0 31 rfl) rfl ⟨by decide, by decide⟩ (b := 55) rfl ?_
      refine r_vret (dk_at ktX7_lays_0 32 rfl) rfl ⟨rfl, ?_⟩
      have c17 : 0 < S.fl := by omega
      refine ⟨rfl, (((FF.rf.ua (o := 3) (by simp) (by decide)).ua (o := 3) (by simp) (by decide)).ua (o := 3) (by simp) (by decide)), fun j hj => ?_⟩
      unfold newS
      by_cases e1 : j = 211
      · subst e1; rw [if_pos rfl]; exact (up2_k (by decide)).trans ((up2_k (by decide)).trans (up2_s))
      · rw [if_neg e1]
        by_cases e2 : j = 212
        · subst e2; rw [if_pos rfl]; rw [if_pos c17]; exact (up2_k (by decide)).trans (up2_s)
        · rw [if_neg e2]
          by_cases e3 : j = 213
          · subst e3; rw [if_pos rfl]; rw [if_pos ⟨c17, c39⟩]; exact up2_s
          · rw [if_neg e3, if_pos hj]
            exact (up2_k e3).trans ((up2_k e2).trans ((up2_k e1).trans (hS.1 j hj)))
set_option maxRecDepth 4000 in
set_option maxHeartbeats 4000000 in
theorem s_X7_load {n : Nat} {sh : mS} {G : mG} {I : mI} {J : mJ} {m : Nat} {T : tT} {nn : Nat} (hm : ModG n sh G m) (hT : TR m I T nn) {σ : sT} (hR : RelW (I (m + 1)) σ)  : Sp yX7_load cX7_load 2 (some FieldType.int) 9 432 0 0 [.ref m] n sh G I J (Qi (fun r_ I_ J_ => loadA T nn = r_ ∧ I_ m 6 = 0 ∧ J = J_ ∧ RelW (I_ (m + 1)) (loadT T nn σ) ∧ FF m [1, 3] [6, 7, 8, 10, 11, 12, 13, 14, 15, 16, 17] I I_ ∧ I_ m 10 = nI 0 ∧ I_ m 15 = nI (parseO T nn).k)) nX := by
  refine Sp.of (by decide) (ls := [(0, .ref m)]) (fun _ => rfl) (fun _ => Nat.le_of_ble_eq_true rfl) ?_
  refine rc_p (p_aload_n 0 (dk_at ktX7_load_0 0 rfl) rfl rfl (b := 1) rfl) ?_
  refine rc_p (p_iconst (v := 0) (dk_at ktX7_load_0 1 rfl) (by decide) (b := 2) rfl) ?_
  refine r_puti fl_X7_46 fw_X7_6 rfl hm.l0 hm.s0 rfl rfl (dk_at ktX7_load_0 2 rfl) (b := 5) rfl ?_
  refine rc_p (p_aload_n 0 (dk_at ktX7_load_0 3 rfl) rfl rfl (b := 6) rfl) ?_
  refine r_geta fl_X7_16 rfl hm.l0 hm.s0 (dk_at ktX7_load_0 4 rfl) hm.g0_2 (b := 9) rfl ?_
  refine r_vS (As := [.ref (m + 3)]) (rest := []) (s_X7_begins (ar := (m + 3)) ⟨(hm.lt 3 (by decide)), hm.s3⟩) cw_X7_39 qs_X7_begins (dk_at ktX7_load_0 5 rfl) rfl rfl (Nat.le_of_ble_eq_true rfl) (by decide) (b := 12) rfl (fun I1 J2 q3 => ?_)
  obtain ⟨rfl, hF5, hh6⟩ := q3
  refine rc_p (p_aload_n 0 (dk_at ktX7_load_0 6 rfl) rfl rfl (b := 13) rfl) ?_
  refine rc_p (p_iconst (v := 0) (dk_at ktX7_load_0 7 rfl) (by decide) (b := 14) rfl) ?_
  refine r_puti fl_X7_81 fw_X7_11 rfl hm.l0 hm.s0 rfl rfl (dk_at ktX7_load_0 8 rfl) (b := 17) rfl ?_
  refine rc_p (p_aload_n 0 (dk_at ktX7_load_0 9 rfl) rfl rfl (b := 18) rfl) ?_
  refine rc_p (p_iconst (v := 0) (dk_at ktX7_load_0 10 rfl) (by decide) (b := 19) rfl) ?_
  refine r_puti fl_X7_87 fw_X7_14 rfl hm.l0 hm.s0 rfl rfl (dk_at ktX7_load_0 11 rfl) (b := 22) rfl ?_
  refine rc_p (p_aload_n 0 (dk_at ktX7_load_0 12 rfl) rfl rfl (b := 23) rfl) ?_
  refine rc_p (p_iconst (v := 0) (dk_at ktX7_load_0 13 rfl) (by decide) (b := 24) rfl) ?_
  refine r_puti fl_X7_149 fw_X7_17 rfl hm.l0 hm.s0 rfl rfl (dk_at ktX7_load_0 14 rfl) (b := 27) rfl ?_
  refine rc_p (p_aload_n 0 (dk_at ktX7_load_0 15 rfl) rfl rfl (b := 28) rfl) ?_
  refine rc_p (p_iconst (v := 0) (dk_at ktX7_load_0 16 rfl) (by decide) (b := 29) rfl) ?_
  refine r_puti fl_X7_54 fw_X7_7 rfl hm.l0 hm.s0 rfl rfl (dk_at ktX7_load_0 17 rfl) (b := 32) rfl ?_
  refine rc_p (p_aload_n 0 (dk_at ktX7_load_0 18 rfl) rfl rfl (b := 33) rfl) ?_
  refine rc_p (p_iconst (v := (-1)) (dk_at ktX7_load_0 19 rfl) (by decide) (b := 34) rfl) ?_
  refine r_puti fl_X7_29 fw_X7_8 rfl hm.l0 hm.s0 rfl rfl (dk_at ktX7_load_0 20 rfl) (b := 37) rfl ?_
  refine rc_p (p_aload_n 0 (dk_at ktX7_load_0 21 rfl) rfl rfl (b := 38) rfl) ?_
  refine r_iV (As' := []) (rest := []) (s_X7_readsAll hm (hT.fu (((((((FF.rf.uf (by simp)).tr ((FF.cp hF5 (by decide) (show 3 ∈ [3] by simp) : FF m [3] [] (up2 I m 6 0) I1).mo (by simp) (by simp))).uf (by simp)).uf (by simp)).uf (by simp)).uf (by simp)).uf (by simp)) : TR m _ T nn) ((up2_n (by omega)).trans ((up2_n (by omega)).trans ((up2_n (by omega)).trans up2_s))) ((up2_n (by omega)).trans ((up2_n (by omega)).trans ((up2_n (by omega)).trans ((up2_n (by omega)).trans up2_s)))) ⟨fun k hk => (((up2_n (by omega)).trans ((up2_n (by omega)).trans ((up2_n (by omega)).trans ((up2_n (by omega)).trans ((up2_n (by omega)).trans (hh6 k hk))))))), ((up2_n (by omega)).trans up2_s), up2_s, ((up2_n (by omega)).trans ((up2_n (by omega)).trans up2_s))⟩) cw_X7_178 qi_X7_readsAll qv_X7_readsAll rfl hm.l0 hm.s0 (dk_at ktX7_load_0 22 rfl) rfl rfl (Nat.le_of_ble_eq_true rfl) (by decide) (b := 41) rfl (fun v10 I7 J8 q9 => ?_)
  obtain ⟨rfl, rfl, hF11, hy12, hy13⟩ := q9
  have hh14 : I7 m 14 = nI (parseO T nn).k := by
    by_cases g : (parseO T nn).k = 0
    · rw [(hy12 g).1, g]; rfl
    · exact (hy13 g).1
  refine rc_p (p_istore_n (ls' := [(1, .int (bi (decide ((parseO T nn).k = 0)))), (0, .ref m)]) (dk_at ktX7_load_0 23 rfl) rfl (by decide) rfl (b := 42) rfl) ?_
  refine rc_p (p_aload_n 1 (dk_at ktX7_load_0 24 rfl) rfl rfl (b := 43) rfl) ?_
  refine rc_p (p_iconst (v := 0) (dk_at ktX7_load_0 25 rfl) (by decide) (b := 44) rfl) ?_
  refine r_puti fl_X7_59 fw_X7_10 rfl hm.l0 hm.s0 rfl rfl (dk_at ktX7_load_0 26 rfl) (b := 47) rfl ?_
  refine rc_p (p_aload_n 1 (dk_at ktX7_load_0 27 rfl) rfl rfl (b := 48) rfl) ?_
  refine rc_p (p_aload_n 1 (dk_at ktX7_load_0 28 rfl) rfl rfl (b := 49) rfl) ?_
  refine r_geti fl_X7_87 rfl hm.l0 hm.s0 (dk_at ktX7_load_0 29 rfl) (v := (nI ((parseO T nn).k))) ((up2_n (by omega)).trans hh14) (b := 52) rfl ?_
  refine r_puti fl_X7_62 fw_X7_15 rfl hm.l0 hm.s0 rfl rfl (dk_at ktX7_load_0 30 rfl) (b := 55) rfl ?_
  refine rc_p (p_iload_n 0 (dk_at ktX7_load_0 31 rfl) rfl rfl (b := 56) rfl) ?_
  refine r_if_ne (dk_at ktX7_load_0 32 rfl) (b := 67) (by decide) (b2 := 59) rfl (fun c56 => ?_) (fun c56 => ?_)
  · have c56 := bi_t c56
    have hk0 := of_decide_eq_true c56
    obtain ⟨_, _, hRS0⟩ := hy12 hk0
    have hok := parse_ok hT.1 hk0
    have hRS1 : RS m (up2 (up2 I7 m 10 0) m 15 (nI ((parseO T nn).k))) (parseO T nn).st := ((hRS0.u (by decide) (by decide) (by decide)).u (by decide) (by decide) (by decide))
    refine rc_p (p_aload_n 1 (dk_at ktX7_load_0 38 rfl) rfl rfl (b := 68) rfl) ?_
    refine rc_p (p_aload_n 1 (dk_at ktX7_load_0 39 rfl) rfl rfl (b := 69) rfl) ?_
    refine r_geta fl_X7_16 rfl hm.l0 hm.s0 (dk_at ktX7_load_0 40 rfl) hm.g0_2 (b := 72) rfl ?_
    refine r_vV (As' := [.ref (m + 3)]) (rest := []) (s_X7_lays hm hRS1 (hok.2.2.1)) cw_X7_43 qi_X7_lays qv_X7_lays rfl hm.l0 hm.s0 (dk_at ktX7_load_0 41 rfl) rfl rfl (Nat.le_of_ble_eq_true rfl) (by decide) (b := 75) rfl (fun I15 J16 q17 => ?_)
    obtain ⟨rfl, hF19, hh20⟩ := q17
    refine rc_p (p_aload_n 1 (dk_at ktX7_load_0 42 rfl) rfl rfl (b := 76) rfl) ?_
    refine r_geta fl_X7_16 rfl hm.l0 hm.s0 (dk_at ktX7_load_0 43 rfl) hm.g0_2 (b := 79) rfl ?_
    refine rc_p (p_aload_n 1 (dk_at ktX7_load_0 44 rfl) rfl rfl (b := 80) rfl) ?_
    refine r_geta fl_X7_9 rfl hm.l0 hm.s0 (dk_at ktX7_load_0 45 rfl) hm.g0_0 (b := 83) rfl ?_
    refine r_vS (As := [.ref (m + 3), .ref (m + 1)]) (rest := []) (s_X7_copies (a := m + 3) (b := m + 1) ⟨hm.lt 3 (by decide), hm.s3⟩ ⟨hm.lt 1 (by decide), hm.s1⟩ (by omega)) cw_X7_181 qs_X7_copies (dk_at ktX7_load_0 46 rfl) rfl rfl (Nat.le_of_ble_eq_true rfl) (by decide) (b := 86) rfl (fun I21 J22 q23 => ?_)
    obtain ⟨rfl, hF25, hh26⟩ := q23
    have hRn27 : RelW (I21 (m + 1)) (newS (parseO T nn).st) := newS_rel hok (fun k hk => (hh26 k (by omega)).trans (hh20 k hk))
    refine rc_p (p_aload_n 1 (dk_at ktX7_load_0 47 rfl) rfl rfl (b := 87) rfl) ?_
    refine rc_p (p_iconst (v := 0) (dk_at ktX7_load_0 48 rfl) (by decide) (b := 88) rfl) ?_
    refine r_iV (As' := [.int 0]) (rest := []) (s_X7_wholeAt hm (σ := (newS (parseO T nn).st)) hRn27 (newS_inv hok) 0 (by omega)) cw_X7_185 qi_X7_wholeAt qv_X7_wholeAt rfl hm.l0 hm.s0 (dk_at ktX7_load_0 49 rfl) rfl rfl (Nat.le_of_ble_eq_true rfl) (by decide) (b := 91) rfl (fun v31 I28 J29 q30 => ?_)
    obtain ⟨rfl, rfl, rfl⟩ := q30
    refine r_if_eq (dk_at ktX7_load_0 50 rfl) (b := 98) (by decide) (b2 := 94) rfl (fun c91 => ?_) (fun c91 => ?_)
    · have c91 := bi_f c91
      refine rc_p (p_iconst (v := 0) (dk_at ktX7_load_0 53 rfl) (by decide) (b := 99) rfl) ?_
      refine rc_p (p_aload_n 1 (dk_at ktX7_load_0 54 rfl) rfl rfl (b := 100) rfl) ?_
      refine rc_p (p_iconst (v := 1) (dk_at ktX7_load_0 55 rfl) (by decide) (b := 101) rfl) ?_
      refine r_iV (As' := [.int 1]) (rest := [.int 0]) (s_X7_wholeAt hm (σ := (newS (parseO T nn).st)) hRn27 (newS_inv hok) 1 (by omega)) cw_X7_185 qi_X7_wholeAt qv_X7_wholeAt rfl hm.l0 hm.s0 (dk_at ktX7_load_0 56 rfl) rfl rfl (Nat.le_of_ble_eq_true rfl) (by decide) (b := 104) rfl (fun v35 I32 J33 q34 => ?_)
      obtain ⟨rfl, rfl, rfl⟩ := q34
      refine r_if_eq (dk_at ktX7_load_0 57 rfl) (b := 111) (by decide) (b2 := 107) rfl (fun c104 => ?_) (fun c104 => ?_)
      · have c104 := bi_f c104
        refine rc_p (p_iconst (v := 0) (dk_at ktX7_load_1 0 rfl) (by decide) (b := 112) rfl) ?_
        refine rc_p (p_iadd (v := 0) (dk_at ktX7_load_1 1 rfl) rfl (b := 113) rfl) ?_
        refine r_iret (dk_at ktX7_load_1 2 rfl) rfl rfl ⟨_, rfl, ?_⟩
        refine ⟨?_, (((congrFun (hF25 _ (by omega)) 6)).trans (((hF19.2 6 (by decide))).trans ((up2_n (by omega)).trans ((up2_n (by omega)).trans (((hF11.2 6 (by decide))).trans ((up2_n (by omega)).trans ((up2_n (by omega)).trans ((up2_n (by omega)).trans ((up2_n (by omega)).trans ((up2_n (by omega)).trans (((congrFun (hF5 _ (by omega)) 6)).trans up2_s))))))))))), rfl, ?_, ((((((((((((FF.rf.uf (by simp)).tr ((FF.cp hF5 (by decide) (show 3 ∈ [3] by simp) : FF m [3] [] (up2 I m 6 0) I1).mo (by simp) (by simp))).uf (by simp)).uf (by simp)).uf (by simp)).uf (by simp)).uf (by simp)).tr (hF11.mo (by simp) (by simp))).uf (by simp)).uf (by simp)).tr (hF19.mo (by simp) (by simp))).tr ((FF.cp hF25 (by decide) (show 1 ∈ [1] by simp) : FF m [1] [] I15 I21).mo (by simp) (by simp))), (((congrFun (hF25 _ (by omega)) 10)).trans (((hF19.2 10 (by decide))).trans ((up2_n (by omega)).trans up2_s))), (((congrFun (hF25 _ (by omega)) 15)).trans (((hF19.2 15 (by decide))).trans up2_s))⟩
        · rw [show loadA T nn = bi (wholeB (newS (parseO T nn).st) 0) + bi (wholeB (newS (parseO T nn).st) 1) from if_pos hk0]; simp_all [bi]
        · rw [show loadT T nn σ = newS (parseO T nn).st from if_pos hk0]; exact hRn27
      · have c104 := bi_t c104
        refine rc_p (p_iconst (v := 1) (dk_at ktX7_load_0 58 rfl) (by decide) (b := 108) rfl) ?_
        refine rc_p (p_goto (b := 112) (dk_at ktX7_load_0 59 rfl) (by decide)) ?_
        refine rc_p (p_iadd (v := 1) (dk_at ktX7_load_1 1 rfl) rfl (b := 113) rfl) ?_
        refine r_iret (dk_at ktX7_load_1 2 rfl) rfl rfl ⟨_, rfl, ?_⟩
        refine ⟨?_, (((congrFun (hF25 _ (by omega)) 6)).trans (((hF19.2 6 (by decide))).trans ((up2_n (by omega)).trans ((up2_n (by omega)).trans (((hF11.2 6 (by decide))).trans ((up2_n (by omega)).trans ((up2_n (by omega)).trans ((up2_n (by omega)).trans ((up2_n (by omega)).trans ((up2_n (by omega)).trans (((congrFun (hF5 _ (by omega)) 6)).trans up2_s))))))))))), rfl, ?_, ((((((((((((FF.rf.uf (by simp)).tr ((FF.cp hF5 (by decide) (show 3 ∈ [3] by simp) : FF m [3] [] (up2 I m 6 0) I1).mo (by simp) (by simp))).uf (by simp)).uf (by simp)).uf (by simp)).uf (by simp)).uf (by simp)).tr (hF11.mo (by simp) (by simp))).uf (by simp)).uf (by simp)).tr (hF19.mo (by simp) (by simp))).tr ((FF.cp hF25 (by decide) (show 1 ∈ [1] by simp) : FF m [1] [] I15 I21).mo (by simp) (by simp))), (((congrFun (hF25 _ (by omega)) 10)).trans (((hF19.2 10 (by decide))).trans ((up2_n (by omega)).trans up2_s))), (((congrFun (hF25 _ (by omega)) 15)).trans (((hF19.2 15 (by decide))).trans up2_s))⟩
        · rw [show loadA T nn = bi (wholeB (newS (parseO T nn).st) 0) + bi (wholeB (newS (parseO T nn).st) 1) from if_pos hk0]; simp_all [bi]
        · rw [show loadT T nn σ = newS (parseO T nn).st from if_pos hk0]; exact hRn27
    · have c91 := bi_t c91
      refine rc_p (p_iconst (v := 1) (dk_at ktX7_load_0 51 rfl) (by decide) (b := 95) rfl) ?_
      refine rc_p (p_goto (b := 99) (dk_at ktX7_load_0 52 rfl) (by decide)) ?_
      refine rc_p (p_aload_n 1 (dk_at ktX7_load_0 54 rfl) rfl rfl (b := 100) rfl) ?_
      refine rc_p (p_iconst (v := 1) (dk_at ktX7_load_0 55 rfl) (by decide) (b := 101) rfl) ?_
      refine r_iV (As' := [.int 1]) (rest := [.int 1]) (s_X7_wholeAt hm (σ := (newS (parseO T nn).st)) hRn27 (newS_inv hok) 1 (by omega)) cw_X7_185 qi_X7_wholeAt qv_X7_wholeAt rfl hm.l0 hm.s0 (dk_at ktX7_load_0 56 rfl) rfl rfl (Nat.le_of_ble_eq_true rfl) (by decide) (b := 104) rfl (fun v39 I36 J37 q38 => ?_)
      obtain ⟨rfl, rfl, rfl⟩ := q38
      refine r_if_eq (dk_at ktX7_load_0 57 rfl) (b := 111) (by decide) (b2 := 107) rfl (fun c104 => ?_) (fun c104 => ?_)
      · have c104 := bi_f c104
        refine rc_p (p_iconst (v := 0) (dk_at ktX7_load_1 0 rfl) (by decide) (b := 112) rfl) ?_
        refine rc_p (p_iadd (v := 1) (dk_at ktX7_load_1 1 rfl) rfl (b := 113) rfl) ?_
        refine r_iret (dk_at ktX7_load_1 2 rfl) rfl rfl ⟨_, rfl, ?_⟩
        refine ⟨?_, (((congrFun (hF25 _ (by omega)) 6)).trans (((hF19.2 6 (by decide))).trans ((up2_n (by omega)).trans ((up2_n (by omega)).trans (((hF11.2 6 (by decide))).trans ((up2_n (by omega)).trans ((up2_n (by omega)).trans ((up2_n (by omega)).trans ((up2_n (by omega)).trans ((up2_n (by omega)).trans (((congrFun (hF5 _ (by omega)) 6)).trans up2_s))))))))))), rfl, ?_, ((((((((((((FF.rf.uf (by simp)).tr ((FF.cp hF5 (by decide) (show 3 ∈ [3] by simp) : FF m [3] [] (up2 I m 6 0) I1).mo (by simp) (by simp))).uf (by simp)).uf (by simp)).uf (by simp)).uf (by simp)).uf (by simp)).tr (hF11.mo (by simp) (by simp))).uf (by simp)).uf (by simp)).tr (hF19.mo (by simp) (by simp))).tr ((FF.cp hF25 (by decide) (show 1 ∈ [1] by simp) : FF m [1] [] I15 I21).mo (by simp) (by simp))), (((congrFun (hF25 _ (by omega)) 10)).trans (((hF19.2 10 (by decide))).trans ((up2_n (by omega)).trans up2_s))), (((congrFun (hF25 _ (by omega)) 15)).trans (((hF19.2 15 (by decide))).trans up2_s))⟩
        · rw [show loadA T nn = bi (wholeB (newS (parseO T nn).st) 0) + bi (wholeB (newS (parseO T nn).st) 1) from if_pos hk0]; simp_all [bi]
        · rw [show loadT T nn σ = newS (parseO T nn).st from if_pos hk0]; exact hRn27
      · have c104 := bi_t c104
        refine rc_p (p_iconst (v := 1) (dk_at ktX7_load_0 58 rfl) (by decide) (b := 108) rfl) ?_
        refine rc_p (p_goto (b := 112) (dk_at ktX7_load_0 59 rfl) (by decide)) ?_
        refine rc_p (p_iadd (v := 2) (dk_at ktX7_load_1 1 rfl) rfl (b := 113) rfl) ?_
        refine r_iret (dk_at ktX7_load_1 2 rfl) rfl rfl ⟨_, rfl, ?_⟩
        refine ⟨?_, (((congrFun (hF25 _ (by omega)) 6)).trans (((hF19.2 6 (by decide))).trans ((up2_n (by omega)).trans ((up2_n (by omega)).trans (((hF11.2 6 (by decide))).trans ((up2_n (by omega)).trans ((up2_n (by omega)).trans ((up2_n (by omega)).trans ((up2_n (by omega)).trans ((up2_n (by omega)).trans (((congrFun (hF5 _ (by omega)) 6)).trans up2_s))))))))))), rfl, ?_, ((((((((((((FF.rf.uf (by simp)).tr ((FF.cp hF5 (by decide) (show 3 ∈ [3] by simp) : FF m [3] [] (up2 I m 6 0) I1).mo (by simp) (by simp))).uf (by simp)).uf (by simp)).uf (by simp)).uf (by simp)).uf (by simp)).tr (hF11.mo (by simp) (by simp))).uf (by simp)).uf (by simp)).tr (hF19.mo (by simp) (by simp))).tr ((FF.cp hF25 (by decide) (show 1 ∈ [1] by simp) : FF m [1] [] I15 I21).mo (by simp) (by simp))), (((congrFun (hF25 _ (by omega)) 10)).trans (((hF19.2 10 (by decide))).trans ((up2_n (by omega)).trans up2_s))), (((congrFun (hF25 _ (by omega)) 15)).trans (((hF19.2 15 (by decide))).trans up2_s))⟩
        · rw [show loadA T nn = bi (wholeB (newS (parseO T nn).st) 0) + bi (wholeB (newS (parseO T nn).st) 1) from if_pos hk0]; simp_all [bi]
        · rw [show loadT T nn σ = newS (parseO T nn).st from if_pos hk0]; exact hRn27
  · have c56 := bi_f c56
    have hk0 := of_decide_eq_false c56
    obtain ⟨_, h13⟩ := hy13 hk0
    refine rc_p (p_bipush (v := (-100)) (dk_at ktX7_load_0 33 rfl) (by decide) (b := 61) rfl) ?_
    refine rc_p (p_aload_n 1 (dk_at ktX7_load_0 34 rfl) rfl rfl (b := 62) rfl) ?_
    refine r_geti fl_X7_90 rfl hm.l0 hm.s0 (dk_at ktX7_load_0 35 rfl) (v := (nI ((parseO T nn).a))) ((up2_n (by omega)).trans ((up2_n (by omega)).trans h13)) (b := 65) rfl ?_
    refine rc_p (p_isub (v := ((-100) - (nI ((parseO T nn).a)))) (dk_at ktX7_load_0 36 rfl) rfl (b := 66) rfl) ?_
    refine r_iret (dk_at ktX7_load_0 37 rfl) rfl rfl ⟨_, rfl, ?_⟩
    refine ⟨if_neg hk0, ((up2_n (by omega)).trans ((up2_n (by omega)).trans (((hF11.2 6 (by decide))).trans ((up2_n (by omega)).trans ((up2_n (by omega)).trans ((up2_n (by omega)).trans ((up2_n (by omega)).trans ((up2_n (by omega)).trans (((congrFun (hF5 _ (by omega)) 6)).trans up2_s))))))))), rfl, ?_, ((show FF m [3] [6, 7, 8, 10, 11, 12, 13, 14, 15, 16, 17] I (up2 (up2 I7 m 10 0) m 15 (nI ((parseO T nn).k))) from ((((((((((FF.rf.uf (by simp)).tr ((FF.cp hF5 (by decide) (show 3 ∈ [3] by simp) : FF m [3] [] (up2 I m 6 0) I1).mo (by simp) (by simp))).uf (by simp)).uf (by simp)).uf (by simp)).uf (by simp)).uf (by simp)).tr (hF11.mo (by simp) (by simp))).uf (by simp)).uf (by simp))).mo (by simp) (by simp)), ((up2_n (by omega)).trans up2_s), up2_s⟩
    rw [show loadT T nn σ = σ from if_neg hk0, (show FF m [3] [6, 7, 8, 10, 11, 12, 13, 14, 15, 16, 17] I (up2 (up2 I7 m 10 0) m 15 (nI ((parseO T nn).k))) from ((((((((((FF.rf.uf (by simp)).tr ((FF.cp hF5 (by decide) (show 3 ∈ [3] by simp) : FF m [3] [] (up2 I m 6 0) I1).mo (by simp) (by simp))).uf (by simp)).uf (by simp)).uf (by simp)).uf (by simp)).uf (by simp)).tr (hF11.mo (by simp) (by simp))).uf (by simp)).uf (by simp))).1 (m + 1) (by omega) (by simp)]
    exact hR
set_option maxRecDepth 4000 in
set_option maxHeartbeats 4000000 in
theorem s_X7_loadError {n : Nat} {sh : mS} {G : mG} {I : mI} {J : mJ} {m : Nat} (hm : ModG n sh G m)  : Sp yX7_loadError cX7_loadError 1 (some FieldType.int) 1 48 0 0 [.ref m] n sh G I J (Qi (fun r_ I_ J_ => I m 15 = r_ ∧ I_ m 6 = 0 ∧ J = J_ ∧ FF m [] [6] I I_)) nX := by
  refine Sp.of (by decide) (ls := [(0, .ref m)]) (fun _ => rfl) (fun _ => Nat.le_of_ble_eq_true rfl) ?_
  refine rc_p (p_aload_n 0 (dk_at ktX7_loadError_0 0 rfl) rfl rfl (b := 1) rfl) ?_
  refine rc_p (p_iconst (v := 0) (dk_at ktX7_loadError_0 1 rfl) (by decide) (b := 2) rfl) ?_
  refine r_puti fl_X7_46 fw_X7_6 rfl hm.l0 hm.s0 rfl rfl (dk_at ktX7_loadError_0 2 rfl) (b := 5) rfl ?_
  refine rc_p (p_aload_n 0 (dk_at ktX7_loadError_0 3 rfl) rfl rfl (b := 6) rfl) ?_
  refine r_geti fl_X7_62 rfl hm.l0 hm.s0 (dk_at ktX7_loadError_0 4 rfl) (v := (I m 15)) (up2_n (by omega)) (b := 9) rfl ?_
  refine r_iret (dk_at ktX7_loadError_0 5 rfl) rfl rfl ⟨_, rfl, ?_⟩
  exact ⟨rfl, up2_s, rfl, FF.rf.uf (by simp)⟩

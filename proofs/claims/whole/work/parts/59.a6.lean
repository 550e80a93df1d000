/-! THE REFERENCE: its calls, predictions -/
theorem FF.cp {m o : Nat} {bs l : List Nat} {I I1 : mI} (h : ∀ c, c ≠ m + o → I1 c = I c) (h0 : 0 < o) (ho : o ∈ bs) : FF m bs l I I1 := ⟨fun c _ hc => h c (hc o ho), fun j _ => congrFun (h m (by omega)) j⟩
set_option maxRecDepth 4000 in
set_option maxHeartbeats 4000000 in
theorem s_X7_goesAside {n : Nat} {sh : mS} {G : mG} {I : mI} {J : mJ} {m : Nat} {σ : sT} (hm : ModG n sh G m) (hR : RelW (I (m + 1)) σ) (hI : Inv σ) (p : Int32) : Sp yX7_goesAside cX7_goesAside 2 none 2 96 0 0 [.ref m, .int p] n sh G I J (Qv (fun I_ J_ => J = J_ ∧ RelW (I_ (m + 1)) (upd σ 6 p) ∧ RelW (I_ (m + 2)) σ ∧ FF m [1, 2] [] I I_)) nX := by
  refine Sp.of (by decide) (ls := [(0, .ref m), (1, .int p)]) (fun _ => rfl) (fun _ => Nat.le_of_ble_eq_true rfl) ?_
  refine rc_p (p_aload_n 0 (dk_at ktX7_goesAside_0 0 rfl) rfl rfl (b := 1) rfl) ?_
  refine r_geta fl_X7_9 rfl hm.l0 hm.s0 (dk_at ktX7_goesAside_0 1 rfl) hm.g0_0 (b := 4) rfl ?_
  refine rc_p (p_aload_n 0 (dk_at ktX7_goesAside_0 2 rfl) rfl rfl (b := 5) rfl) ?_
  refine r_geta fl_X7_13 rfl hm.l0 hm.s0 (dk_at ktX7_goesAside_0 3 rfl) hm.g0_1 (b := 8) rfl ?_
  refine r_vS (As := [.ref (m + 1), .ref (m + 2)]) (rest := []) (s_X7_copies ⟨hm.lt 1 (by decide), hm.s1⟩ ⟨hm.lt 2 (by decide), hm.s2⟩ (by omega)) cw_X7_181 qs_X7_copies (dk_at ktX7_goesAside_0 4 rfl) rfl rfl (Nat.le_of_ble_eq_true rfl) (by decide) (b := 11) rfl (fun I1 J2 q3 => ?_)
  obtain ⟨rfl, h05, h16⟩ := q3
  have hF7 : FF m [2] [] I I1 := FF.cp h05 (by decide) (by decide)
  have hR8 : RelW (I1 (m + 2)) σ := RelW.cp (show RelW (I (m + 1)) σ from hR) hI.2.1.2 h16
  have hR9 : RelW (I1 (m + 1)) σ := by rw [h05 (m + 1) (by omega)]; exact hR
  refine rc_p (p_aload_n 0 (dk_at ktX7_goesAside_0 5 rfl) rfl rfl (b := 12) rfl) ?_
  refine r_geta fl_X7_9 rfl hm.l0 hm.s0 (dk_at ktX7_goesAside_0 6 rfl) hm.g0_0 (b := 15) rfl ?_
  refine rc_p (p_bipush (v := 6) (dk_at ktX7_goesAside_0 7 rfl) (by decide) (b := 17) rfl) ?_
  refine rc_p (p_iload_n 1 (dk_at ktX7_goesAside_0 8 rfl) rfl rfl (b := 18) rfl) ?_
  refine r_iast (j := 6) (hm.lt 1 (by decide)) hm.s1 (dk_at ktX7_goesAside_0 9 rfl) rfl ⟨by decide, by decide⟩ (b := 19) rfl ?_
  refine r_vret (dk_at ktX7_goesAside_0 10 rfl) rfl ⟨rfl, ?_⟩
  exact ⟨rfl, (by rw [up2_row]; exact RelW.up hR9 (by first | decide | omega) (by first | decide | omega)), by rw [up2_off (by omega)]; exact hR8, (FF.ua (FF.tr FF.rf (hF7.mo (by decide) (by decide))) (by decide) (by decide))⟩
set_option maxRecDepth 4000 in
set_option maxHeartbeats 4000000 in
theorem s_X7_comesBack {n : Nat} {sh : mS} {G : mG} {I : mI} {J : mJ} {m : Nat} {σ : sT} (hm : ModG n sh G m) (hA : RelW (I (m + 2)) σ) (hL : nL σ ≤ 40) : Sp yX7_comesBack cX7_comesBack 1 none 2 96 0 0 [.ref m] n sh G I J (Qv (fun I_ J_ => J = J_ ∧ RelW (I_ (m + 1)) σ ∧ FF m [1] [] I I_)) nX := by
  refine Sp.of (by decide) (ls := [(0, .ref m)]) (fun _ => rfl) (fun _ => Nat.le_of_ble_eq_true rfl) ?_
  refine rc_p (p_aload_n 0 (dk_at ktX7_comesBack_0 0 rfl) rfl rfl (b := 1) rfl) ?_
  refine r_geta fl_X7_13 rfl hm.l0 hm.s0 (dk_at ktX7_comesBack_0 1 rfl) hm.g0_1 (b := 4) rfl ?_
  refine rc_p (p_aload_n 0 (dk_at ktX7_comesBack_0 2 rfl) rfl rfl (b := 5) rfl) ?_
  refine r_geta fl_X7_9 rfl hm.l0 hm.s0 (dk_at ktX7_comesBack_0 3 rfl) hm.g0_0 (b := 8) rfl ?_
  refine r_vS (As := [.ref (m + 2), .ref (m + 1)]) (rest := []) (s_X7_copies ⟨hm.lt 2 (by decide), hm.s2⟩ ⟨hm.lt 1 (by decide), hm.s1⟩ (by omega)) cw_X7_181 qs_X7_copies (dk_at ktX7_comesBack_0 4 rfl) rfl rfl (Nat.le_of_ble_eq_true rfl) (by decide) (b := 11) rfl (fun I1 J2 q3 => ?_)
  obtain ⟨rfl, h05, h16⟩ := q3
  have hF7 : FF m [1] [] I I1 := FF.cp h05 (by decide) (by decide)
  have hR8 : RelW (I1 (m + 1)) σ := RelW.cp hA hL h16
  refine r_vret (dk_at ktX7_comesBack_0 5 rfl) rfl ⟨rfl, ?_⟩
  exact ⟨rfl, hR8, hF7⟩
set_option maxRecDepth 4000 in
set_option maxHeartbeats 4000000 in
theorem s_X7_bootsFreely {n : Nat} {sh : mS} {G : mG} {I : mI} {J : mJ} {m : Nat} {σ : sT} (hm : ModG n sh G m) (hR : RelW (I (m + 1)) σ) (hI : Inv σ)  : Sp yX7_bootsFreely cX7_bootsFreely 1 (some FieldType.int) 10 480 0 0 [.ref m] n sh G I J (Qi (fun r_ I_ J_ => (fBoot (upd σ 6 (-1))).1 = r_ ∧ J = J_ ∧ RelW (I_ (m + 1)) (fBoot (upd σ 6 (-1))).2 ∧ FF m [1] [18, 19, 20, 21, 22, 23, 24] I I_)) nX := by
  refine Sp.of (by decide) (ls := [(0, .ref m)]) (fun _ => rfl) (fun _ => Nat.le_of_ble_eq_true rfl) ?_
  refine rc_p (p_aload_n 0 (dk_at ktX7_bootsFreely_0 0 rfl) rfl rfl (b := 1) rfl) ?_
  refine r_geta fl_X7_9 rfl hm.l0 hm.s0 (dk_at ktX7_bootsFreely_0 1 rfl) hm.g0_0 (b := 4) rfl ?_
  refine rc_p (p_bipush (v := 6) (dk_at ktX7_bootsFreely_0 2 rfl) (by decide) (b := 6) rfl) ?_
  refine rc_p (p_iconst (v := (-1)) (dk_at ktX7_bootsFreely_0 3 rfl) (by decide) (b := 7) rfl) ?_
  refine r_iast (j := 6) (hm.lt 1 (by decide)) hm.s1 (dk_at ktX7_bootsFreely_0 4 rfl) rfl ⟨by decide, by decide⟩ (b := 8) rfl ?_
  refine rc_p (p_aload_n 0 (dk_at ktX7_bootsFreely_0 5 rfl) rfl rfl (b := 9) rfl) ?_
  refine r_iV (As' := []) (rest := []) (s_X7_boots hm (σ := (upd σ 6 (-1))) (show RelW ((up2 I (m + 1) 6 (-1)) (m + 1)) (upd σ 6 (-1)) from (by rw [up2_row]; exact RelW.up hR (by first | decide | omega) (by first | decide | omega))) (Inv.pm hI)) cw_X7_319 qi_X7_boots qv_X7_boots rfl hm.l0 hm.s0 (dk_at ktX7_bootsFreely_0 6 rfl) rfl rfl (Nat.le_of_ble_eq_true rfl) (by decide) (b := 12) rfl (fun v4 I1 J2 q3 => ?_)
  obtain ⟨eq7, rfl, hR5, hF6⟩ := q3
  refine r_iret (dk_at ktX7_bootsFreely_0 7 rfl) rfl rfl ⟨_, rfl, ?_⟩
  exact ⟨eq7, rfl, hR5, (FF.tr (FF.ua FF.rf (by decide) (by decide)) (hF6.mo (by decide) (by decide)))⟩
set_option maxRecDepth 4000 in
set_option maxHeartbeats 4000000 in
theorem s_X7_bootWould {n : Nat} {sh : mS} {G : mG} {I : mI} {J : mJ} {m : Nat} {σ : sT} (hm : ModG n sh G m) (hR : RelW (I (m + 1)) σ) (hI : Inv σ)  : Sp yX7_bootWould cX7_bootWould 2 (some FieldType.int) 11 528 0 0 [.ref m] n sh G I J (Qi (fun r_ I_ J_ => (0 = 0 → (fBoot (upd σ 6 (-1))).1 = r_) ∧ I_ m 6 = 0 ∧ J = J_ ∧ RelW (I_ (m + 1)) (σ) ∧ FF m [1, 2, 8] [6, 18, 19, 20, 21, 22, 23, 24, 26, 27] I I_)) nX := by
  have hb := hI.bd
  refine Sp.of (by decide) (ls := [(0, .ref m)]) (fun _ => rfl) (fun _ => Nat.le_of_ble_eq_true rfl) ?_
  refine rc_p (p_aload_n 0 (dk_at ktX7_bootWould_0 0 rfl) rfl rfl (b := 1) rfl) ?_
  refine rc_p (p_iconst (v := 0) (dk_at ktX7_bootWould_0 1 rfl) (by decide) (b := 2) rfl) ?_
  refine r_puti fl_X7_46 fw_X7_6 rfl hm.l0 hm.s0 rfl rfl (dk_at ktX7_bootWould_0 2 rfl) (b := 5) rfl ?_
  refine rc_p (p_aload_n 0 (dk_at ktX7_bootWould_0 3 rfl) rfl rfl (b := 6) rfl) ?_
  refine rc_p (p_iconst (v := (-1)) (dk_at ktX7_bootWould_0 4 rfl) (by decide) (b := 7) rfl) ?_
  refine r_vV (As' := [.int (-1)]) (rest := []) (s_X7_goesAside hm (σ := σ) (show RelW ((up2 I m 6 0) (m + 1)) σ from (by rw [up2_off (by omega)]; exact hR)) hI (-1)) cw_X7_388 qi_X7_goesAside qv_X7_goesAside rfl hm.l0 hm.s0 (dk_at ktX7_bootWould_0 5 rfl) rfl rfl (Nat.le_of_ble_eq_true rfl) (by decide) (b := 10) rfl (fun I1 J2 q3 => ?_)
  obtain ⟨rfl, hR5, hA6, hF7⟩ := q3
  refine rc_p (p_aload_n 0 (dk_at ktX7_bootWould_0 6 rfl) rfl rfl (b := 11) rfl) ?_
  refine r_iV (As' := []) (rest := []) (s_X7_boots hm (σ := (upd σ 6 (-1))) hR5 (Inv.pm hI)) cw_X7_319 qi_X7_boots qv_X7_boots rfl hm.l0 hm.s0 (dk_at ktX7_bootWould_0 7 rfl) rfl rfl (Nat.le_of_ble_eq_true rfl) (by decide) (b := 14) rfl (fun v11 I8 J9 q10 => ?_)
  obtain ⟨eq14, rfl, hR12, hF13⟩ := q10
  refine rc_p (p_istore_n (ls' := [(1, .int v11), (0, .ref m)]) (dk_at ktX7_bootWould_0 8 rfl) rfl (by decide) rfl (b := 15) rfl) ?_
  refine rc_p (p_aload_n 1 (dk_at ktX7_bootWould_0 9 rfl) rfl rfl (b := 16) rfl) ?_
  refine r_vV (As' := []) (rest := []) (s_X7_comesBack hm (σ := σ) (RelW.cp hA6 (hI).2.1.2 (fun k _ => (congrFun (hF13.1 _ (by omega) (by simp)) k))) (hI).2.1.2) cw_X7_392 qi_X7_comesBack qv_X7_comesBack rfl hm.l0 hm.s0 (dk_at ktX7_bootWould_0 10 rfl) rfl rfl (Nat.le_of_ble_eq_true rfl) (by decide) (b := 19) rfl (fun I15 J16 q17 => ?_)
  obtain ⟨rfl, hR19, hF20⟩ := q17
  refine rc_p (p_iload_n 0 (dk_at ktX7_bootWould_0 11 rfl) rfl rfl (b := 20) rfl) ?_
  refine r_iret (dk_at ktX7_bootWould_0 12 rfl) rfl rfl ⟨_, rfl, ?_⟩
  refine ⟨fun _ => ?_, Eq.trans (((hF20.2 6 (by decide))).trans (((hF13.2 6 (by decide))).trans (((hF7.2 6 (by decide))).trans up2_s))) (by rfl), rfl, hR19, (FF.tr (FF.tr (FF.tr (FF.uf FF.rf (by decide)) (hF7.mo (by decide) (by decide))) (hF13.mo (by decide) (by decide))) (hF20.mo (by decide) (by decide)))⟩
  exact eq14
set_option maxRecDepth 4000 in
set_option maxHeartbeats 4000000 in
theorem s_X7_bootOperations {n : Nat} {sh : mS} {G : mG} {I : mI} {J : mJ} {m : Nat} {σ : sT} (hm : ModG n sh G m) (hR : RelW (I (m + 1)) σ) (hI : Inv σ)  : Sp yX7_bootOperations cX7_bootOperations 4 (some FieldType.int) 11 528 0 0 [.ref m] n sh G I J (Qi (fun r_ I_ J_ => (0 = 0 → a_bop σ = r_) ∧ I_ m 6 = 0 ∧ J = J_ ∧ RelW (I_ (m + 1)) (σ) ∧ FF m [1, 2, 8] [6, 18, 19, 20, 21, 22, 23, 24, 26, 27] I I_)) nX := by
  have hb := hI.bd
  refine Sp.of (by decide) (ls := [(0, .ref m)]) (fun _ => rfl) (fun _ => Nat.le_of_ble_eq_true rfl) ?_
  refine rc_p (p_aload_n 0 (dk_at ktX7_bootOperations_0 0 rfl) rfl rfl (b := 1) rfl) ?_
  refine rc_p (p_iconst (v := 0) (dk_at ktX7_bootOperations_0 1 rfl) (by decide) (b := 2) rfl) ?_
  refine r_puti fl_X7_46 fw_X7_6 rfl hm.l0 hm.s0 rfl rfl (dk_at ktX7_bootOperations_0 2 rfl) (b := 5) rfl ?_
  refine rc_p (p_aload_n 0 (dk_at ktX7_bootOperations_0 3 rfl) rfl rfl (b := 6) rfl) ?_
  refine rc_p (p_iconst (v := (-1)) (dk_at ktX7_bootOperations_0 4 rfl) (by decide) (b := 7) rfl) ?_
  refine r_vV (As' := [.int (-1)]) (rest := []) (s_X7_goesAside hm (σ := σ) (show RelW ((up2 I m 6 0) (m + 1)) σ from (by rw [up2_off (by omega)]; exact hR)) hI (-1)) cw_X7_388 qi_X7_goesAside qv_X7_goesAside rfl hm.l0 hm.s0 (dk_at ktX7_bootOperations_0 5 rfl) rfl rfl (Nat.le_of_ble_eq_true rfl) (by decide) (b := 10) rfl (fun I1 J2 q3 => ?_)
  obtain ⟨rfl, hR5, hA6, hF7⟩ := q3
  refine rc_p (p_aload_n 0 (dk_at ktX7_bootOperations_0 6 rfl) rfl rfl (b := 11) rfl) ?_
  refine r_geta fl_X7_9 rfl hm.l0 hm.s0 (dk_at ktX7_bootOperations_0 7 rfl) hm.g0_0 (b := 14) rfl ?_
  refine rc_p (p_bipush (v := 9) (dk_at ktX7_bootOperations_0 8 rfl) (by decide) (b := 16) rfl) ?_
  refine r_iald (j := 9) (hm.lt 1 (by decide)) hm.s1 (dk_at ktX7_bootOperations_0 9 rfl) rfl ⟨by decide, by decide⟩ (v := ((upd σ 6 (-1)) 9)) (hR5.1 9 (by decide)) (b := 17) rfl ?_
  refine rc_p (p_istore_n (ls' := [(1, .int ((upd σ 6 (-1)) 9)), (0, .ref m)]) (dk_at ktX7_bootOperations_0 10 rfl) rfl (by decide) rfl (b := 18) rfl) ?_
  refine rc_p (p_aload_n 1 (dk_at ktX7_bootOperations_0 11 rfl) rfl rfl (b := 19) rfl) ?_
  refine r_iV (As' := []) (rest := []) (s_X7_boots hm (σ := (upd σ 6 (-1))) hR5 (Inv.pm hI)) cw_X7_319 qi_X7_boots qv_X7_boots rfl hm.l0 hm.s0 (dk_at ktX7_bootOperations_0 12 rfl) rfl rfl (Nat.le_of_ble_eq_true rfl) (by decide) (b := 22) rfl (fun v11 I8 J9 q10 => ?_)
  obtain ⟨eq14, rfl, hR12, hF13⟩ := q10
  refine rc_p (p_istore_n (ls' := [(2, .int v11), (1, .int ((upd σ 6 (-1)) 9)), (0, .ref m)]) (dk_at ktX7_bootOperations_0 13 rfl) rfl (by decide) rfl (b := 23) rfl) ?_
  refine rc_p (p_aload_n 2 (dk_at ktX7_bootOperations_0 14 rfl) rfl rfl (b := 24) rfl) ?_
  refine r_geta fl_X7_9 rfl hm.l0 hm.s0 (dk_at ktX7_bootOperations_0 15 rfl) hm.g0_0 (b := 27) rfl ?_
  refine rc_p (p_bipush (v := 9) (dk_at ktX7_bootOperations_0 16 rfl) (by decide) (b := 29) rfl) ?_
  refine r_iald (j := 9) (hm.lt 1 (by decide)) hm.s1 (dk_at ktX7_bootOperations_0 17 rfl) rfl ⟨by decide, by decide⟩ (v := ((fBoot (upd σ 6 (-1))).2 9)) (hR12.1 9 (by decide)) (b := 30) rfl ?_
  refine rc_p (p_iload_n 1 (dk_at ktX7_bootOperations_0 18 rfl) rfl rfl (b := 31) rfl) ?_
  refine rc_p (p_isub (v := (((fBoot (upd σ 6 (-1))).2 9) - ((upd σ 6 (-1)) 9))) (dk_at ktX7_bootOperations_0 19 rfl) rfl (b := 32) rfl) ?_
  refine rc_p (p_istore_n (ls' := [(3, .int (((fBoot (upd σ 6 (-1))).2 9) - ((upd σ 6 (-1)) 9))), (2, .int v11), (1, .int ((upd σ 6 (-1)) 9)), (0, .ref m)]) (dk_at ktX7_bootOperations_0 20 rfl) rfl (by decide) rfl (b := 33) rfl) ?_
  refine rc_p (p_aload_n 3 (dk_at ktX7_bootOperations_0 21 rfl) rfl rfl (b := 34) rfl) ?_
  refine r_vV (As' := []) (rest := []) (s_X7_comesBack hm (σ := σ) (RelW.cp hA6 (hI).2.1.2 (fun k _ => (congrFun (hF13.1 _ (by omega) (by simp)) k))) (hI).2.1.2) cw_X7_392 qi_X7_comesBack qv_X7_comesBack rfl hm.l0 hm.s0 (dk_at ktX7_bootOperations_0 22 rfl) rfl rfl (Nat.le_of_ble_eq_true rfl) (by decide) (b := 37) rfl (fun I15 J16 q17 => ?_)
  obtain ⟨rfl, hR19, hF20⟩ := q17
  refine rc_p (p_iload_n 0 (dk_at ktX7_bootOperations_0 23 rfl) rfl rfl (b := 38) rfl) ?_
  refine r_iret (dk_at ktX7_bootOperations_0 24 rfl) rfl rfl ⟨_, rfl, ?_⟩
  refine ⟨fun _ => ?_, Eq.trans (((hF20.2 6 (by decide))).trans (((hF13.2 6 (by decide))).trans (((hF7.2 6 (by decide))).trans up2_s))) (by rfl), rfl, hR19, (FF.tr (FF.tr (FF.tr (FF.uf FF.rf (by decide)) (hF7.mo (by decide) (by decide))) (hF13.mo (by decide) (by decide))) (hF20.mo (by decide) (by decide)))⟩
  rfl
set_option maxRecDepth 4000 in
set_option maxHeartbeats 4000000 in
theorem s_X7_operationsOf {n : Nat} {sh : mS} {G : mG} {I : mI} {J : mJ} {m : Nat} {σ : sT} (hm : ModG n sh G m) (hR : RelW (I (m + 1)) σ) (hI : Inv σ) (v : Int32) (thr : Bool) : Sp yX7_operationsOf cX7_operationsOf 4 (some FieldType.int) 10 480 0 0 [.ref m, .int v, .int (bi thr)] n sh G I J (Qi (fun r_ I_ J_ => (cIn v 1 255 = 0 → (fUpd v thr (upd σ 6 (-1))).1 = r_) ∧ I_ m 6 = cIn v 1 255 ∧ J = J_ ∧ RelW (I_ (m + 1)) (σ) ∧ FF m [1, 2, 8] [6, 18, 19, 20, 21, 22, 23, 24, 26, 27] I I_)) nX := by
  have hb := hI.bd
  rcases Bool.eq_false_or_eq_true (inI v 1 255) with hib | hw
  · refine Sp.of (by decide) (ls := [(0, .ref m), (1, .int v), (2, .int (bi thr))]) (fun _ => rfl) (fun _ => Nat.le_of_ble_eq_true rfl) ?_
    refine rc_p (p_aload_n 0 (dk_at ktX7_operationsOf_0 0 rfl) rfl rfl (b := 1) rfl) ?_
    refine rc_p (p_iload_n 1 (dk_at ktX7_operationsOf_0 1 rfl) rfl rfl (b := 2) rfl) ?_
    refine r_iV (As' := [.int v]) (rest := []) (s_X7_noVersion hm (σ := σ) hR hI v) cw_X7_352 qi_X7_noVersion qv_X7_noVersion rfl hm.l0 hm.s0 (dk_at ktX7_operationsOf_0 2 rfl) rfl rfl (Nat.le_of_ble_eq_true rfl) (by decide) (b := 5) rfl (fun v4 I1 J2 q3 => ?_)
    obtain ⟨rfl, rfl, hR5, hF6, h67⟩ := q3
    refine r_val (y := 0) (by rw [hib]; rfl) ?_
    have h68 : I1 m 6 = 0 := h67.trans (by rw [hib]; rfl)
    refine r_if_eq (dk_at ktX7_operationsOf_0 3 rfl) (b := 10) (by decide) (b2 := 8) rfl (fun c5 => ?_) (fun c5 => ?_)
    · skip
      refine rc_p (p_aload_n 0 (dk_at ktX7_operationsOf_0 6 rfl) rfl rfl (b := 11) rfl) ?_
      refine rc_p (p_iconst (v := (-1)) (dk_at ktX7_operationsOf_0 7 rfl) (by decide) (b := 12) rfl) ?_
      refine r_vV (As' := [.int (-1)]) (rest := []) (s_X7_goesAside hm (σ := σ) (show RelW (I1 (m + 1)) σ from hR5) hI (-1)) cw_X7_388 qi_X7_goesAside qv_X7_goesAside rfl hm.l0 hm.s0 (dk_at ktX7_operationsOf_0 8 rfl) rfl rfl (Nat.le_of_ble_eq_true rfl) (by decide) (b := 15) rfl (fun I9 J10 q11 => ?_)
      obtain ⟨rfl, hR13, hA14, hF15⟩ := q11
      refine rc_p (p_aload_n 0 (dk_at ktX7_operationsOf_0 9 rfl) rfl rfl (b := 16) rfl) ?_
      refine rc_p (p_iload_n 1 (dk_at ktX7_operationsOf_0 10 rfl) rfl rfl (b := 17) rfl) ?_
      refine rc_p (p_iload_n 2 (dk_at ktX7_operationsOf_0 11 rfl) rfl rfl (b := 18) rfl) ?_
      refine r_iV (As' := [.int v, .int (bi thr)]) (rest := []) (s_X7_updates hm (σ := (upd σ 6 (-1))) (show RelW (I9 (m + 1)) (upd σ 6 (-1)) from hR13) (Inv.pm hI) v thr) cw_X7_355 qi_X7_updates qv_X7_updates rfl hm.l0 hm.s0 (dk_at ktX7_operationsOf_0 12 rfl) rfl rfl (Nat.le_of_ble_eq_true rfl) (by decide) (b := 21) rfl (fun v19 I16 J17 q18 => ?_)
      obtain ⟨eq22, rfl, hR20, hF21⟩ := q18
      refine rc_p (p_istore_n (ls' := [(3, .int v19), (0, .ref m), (1, .int v), (2, .int (bi thr))]) (dk_at ktX7_operationsOf_0 13 rfl) rfl (by decide) rfl (b := 22) rfl) ?_
      refine rc_p (p_aload_n 1 (dk_at ktX7_operationsOf_0 14 rfl) rfl rfl (b := 23) rfl) ?_
      refine r_vV (As' := []) (rest := []) (s_X7_comesBack hm (σ := σ) (RelW.cp hA14 (hI).2.1.2 (fun k _ => (congrFun (hF21.1 _ (by omega) (by simp)) k))) (hI).2.1.2) cw_X7_392 qi_X7_comesBack qv_X7_comesBack rfl hm.l0 hm.s0 (dk_at ktX7_operationsOf_0 15 rfl) rfl rfl (Nat.le_of_ble_eq_true rfl) (by decide) (b := 26) rfl (fun I23 J24 q25 => ?_)
      obtain ⟨rfl, hR27, hF28⟩ := q25
      refine rc_p (p_iload_n 0 (dk_at ktX7_operationsOf_0 16 rfl) rfl rfl (b := 27) rfl) ?_
      refine r_iret (dk_at ktX7_operationsOf_0 17 rfl) rfl rfl ⟨_, rfl, ?_⟩
      refine ⟨fun _ => ?_, Eq.trans (((hF28.2 6 (by decide))).trans (((hF21.2 6 (by decide))).trans (((hF15.2 6 (by decide))).trans h68))) (by first | rfl | exact (cIn_t hib).symm), rfl, hR27, (FF.tr (FF.tr (FF.tr (FF.tr FF.rf (hF6.mo (by decide) (by decide))) (hF15.mo (by decide) (by decide))) (hF21.mo (by decide) (by decide))) (hF28.mo (by decide) (by decide)))⟩
      exact eq22
    · first | exact absurd c5 (by decide) | exact absurd (by decide) c5
  · refine Sp.of (by decide) (ls := [(0, .ref m), (1, .int v), (2, .int (bi thr))]) (fun _ => rfl) (fun _ => Nat.le_of_ble_eq_true rfl) ?_
    refine rc_p (p_aload_n 0 (dk_at ktX7_operationsOf_0 0 rfl) rfl rfl (b := 1) rfl) ?_
    refine rc_p (p_iload_n 1 (dk_at ktX7_operationsOf_0 1 rfl) rfl rfl (b := 2) rfl) ?_
    refine r_iV (As' := [.int v]) (rest := []) (s_X7_noVersion hm (σ := σ) hR hI v) cw_X7_352 qi_X7_noVersion qv_X7_noVersion rfl hm.l0 hm.s0 (dk_at ktX7_operationsOf_0 2 rfl) rfl rfl (Nat.le_of_ble_eq_true rfl) (by decide) (b := 5) rfl (fun v32 I29 J30 q31 => ?_)
    obtain ⟨rfl, rfl, hR33, hF34, h635⟩ := q31
    refine r_val (y := 1) (by rw [hw]; rfl) ?_
    have h636 : I29 m 6 = 1 := h635.trans (by rw [hw]; rfl)
    refine r_if_eq (dk_at ktX7_operationsOf_0 3 rfl) (b := 10) (by decide) (b2 := 8) rfl (fun c5 => ?_) (fun c5 => ?_)
    · first | exact absurd c5 (by decide) | exact absurd (by decide) c5
    · skip
      refine rc_p (p_iconst (v := 0) (dk_at ktX7_operationsOf_0 4 rfl) (by decide) (b := 9) rfl) ?_
      refine r_iret (dk_at ktX7_operationsOf_0 5 rfl) rfl rfl ⟨_, rfl, ?_⟩
      refine ⟨fun hz => ?_, ?_, rfl, ?_, (hF34.mo (by decide) (by decide))⟩
      · exact absurd (hz.symm.trans (cIn_f hw)) (by decide)
      · exact Eq.trans h636 (by exact (cIn_f hw).symm)
      · exact hR33
set_option maxRecDepth 4000 in
set_option maxHeartbeats 4000000 in
theorem s_X7_updateOperations {n : Nat} {sh : mS} {G : mG} {I : mI} {J : mJ} {m : Nat} {σ : sT} (hm : ModG n sh G m) (hR : RelW (I (m + 1)) σ) (hI : Inv σ) (v : Int32) : Sp yX7_updateOperations cX7_updateOperations 2 (some FieldType.int) 11 528 0 0 [.ref m, .int v] n sh G I J (Qi (fun r_ I_ J_ => (cIn v 1 255 = 0 → (fUpd v false (upd σ 6 (-1))).1 = r_) ∧ I_ m 6 = cIn v 1 255 ∧ J = J_ ∧ RelW (I_ (m + 1)) (σ) ∧ FF m [1, 2, 8] [6, 18, 19, 20, 21, 22, 23, 24, 26, 27] I I_)) nX := by
  have hb := hI.bd
  refine Sp.of (by decide) (ls := [(0, .ref m), (1, .int v)]) (fun _ => rfl) (fun _ => Nat.le_of_ble_eq_true rfl) ?_
  refine rc_p (p_aload_n 0 (dk_at ktX7_updateOperations_0 0 rfl) rfl rfl (b := 1) rfl) ?_
  refine rc_p (p_iload_n 1 (dk_at ktX7_updateOperations_0 1 rfl) rfl rfl (b := 2) rfl) ?_
  refine rc_p (p_iconst (v := 0) (dk_at ktX7_updateOperations_0 2 rfl) (by decide) (b := 3) rfl) ?_
  refine r_iV (As' := [.int v, .int 0]) (rest := []) (s_X7_operationsOf hm (σ := σ) hR hI v false) cw_X7_395 qi_X7_operationsOf qv_X7_operationsOf rfl hm.l0 hm.s0 (dk_at ktX7_updateOperations_0 3 rfl) rfl rfl (Nat.le_of_ble_eq_true rfl) (by decide) (b := 6) rfl (fun v4 I1 J2 q3 => ?_)
  refine r_iret (dk_at ktX7_updateOperations_0 4 rfl) rfl rfl ⟨_, rfl, ?_⟩
  exact q3
set_option maxRecDepth 4000 in
set_option maxHeartbeats 4000000 in
theorem s_X7_thriftyOperations {n : Nat} {sh : mS} {G : mG} {I : mI} {J : mJ} {m : Nat} {σ : sT} (hm : ModG n sh G m) (hR : RelW (I (m + 1)) σ) (hI : Inv σ) (v : Int32) : Sp yX7_thriftyOperations cX7_thriftyOperations 2 (some FieldType.int) 11 528 0 0 [.ref m, .int v] n sh G I J (Qi (fun r_ I_ J_ => (cIn v 1 255 = 0 → (fUpd v true (upd σ 6 (-1))).1 = r_) ∧ I_ m 6 = cIn v 1 255 ∧ J = J_ ∧ RelW (I_ (m + 1)) (σ) ∧ FF m [1, 2, 8] [6, 18, 19, 20, 21, 22, 23, 24, 26, 27] I I_)) nX := by
  have hb := hI.bd
  refine Sp.of (by decide) (ls := [(0, .ref m), (1, .int v)]) (fun _ => rfl) (fun _ => Nat.le_of_ble_eq_true rfl) ?_
  refine rc_p (p_aload_n 0 (dk_at ktX7_thriftyOperations_0 0 rfl) rfl rfl (b := 1) rfl) ?_
  refine rc_p (p_iload_n 1 (dk_at ktX7_thriftyOperations_0 1 rfl) rfl rfl (b := 2) rfl) ?_
  refine rc_p (p_iconst (v := 1) (dk_at ktX7_thriftyOperations_0 2 rfl) (by decide) (b := 3) rfl) ?_
  refine r_iV (As' := [.int v, .int 1]) (rest := []) (s_X7_operationsOf hm (σ := σ) hR hI v true) cw_X7_395 qi_X7_operationsOf qv_X7_operationsOf rfl hm.l0 hm.s0 (dk_at ktX7_thriftyOperations_0 3 rfl) rfl rfl (Nat.le_of_ble_eq_true rfl) (by decide) (b := 6) rfl (fun v4 I1 J2 q3 => ?_)
  refine r_iret (dk_at ktX7_thriftyOperations_0 4 rfl) rfl rfl ⟨_, rfl, ?_⟩
  exact q3
set_option maxRecDepth 4000 in
set_option maxHeartbeats 4000000 in
theorem s_X7_after {n : Nat} {sh : mS} {G : mG} {I : mI} {J : mJ} {m : Nat} {σ : sT} (hm : ModG n sh G m) (hR : RelW (I (m + 1)) σ) (hI : Inv σ) (v : Int32) (thr : Bool) (c bc : Int32) (hc : (-1 : Int) ≤ c.toInt) (hbc : (-1 : Int) ≤ bc.toInt)  : Sp yX7_after cX7_after 8 (some FieldType.int) 11 528 0 0 [.ref m, .int v, .int c, .int bc, .int (bi thr), .int (-1)] n sh G I J (Qi (fun r_ I_ J_ => (fAft v thr c bc σ).1 = r_ ∧ J = J_ ∧ RelW (I_ (m + 1)) σ ∧ I_ m 27 = bi (decide ((fUpd v thr (upd σ 6 c)).1 = -4)) ∧ FF m [1, 2, 8] [18, 19, 20, 21, 22, 23, 24, 26, 27] I I_)) nX := by
  refine Sp.of (by decide) (ls := [(0, .ref m), (1, .int v), (2, .int c), (3, .int bc), (4, .int (bi thr)), (5, .int (-1))]) (fun _ => rfl) (fun _ => Nat.le_of_ble_eq_true rfl) ?_
  refine rc_p (p_aload_n 0 (dk_at ktX7_after_0 0 rfl) rfl rfl (b := 1) rfl) ?_
  refine rc_p (p_iload_n 2 (dk_at ktX7_after_0 1 rfl) rfl rfl (b := 2) rfl) ?_
  refine r_vV (As' := [.int c]) (rest := []) (s_X7_goesAside hm (σ := σ) (show RelW (I (m + 1)) σ from hR) hI c) cw_X7_388 qi_X7_goesAside qv_X7_goesAside rfl hm.l0 hm.s0 (dk_at ktX7_after_0 2 rfl) rfl rfl (Nat.le_of_ble_eq_true rfl) (by decide) (b := 5) rfl (fun I1 J2 q3 => ?_)
  obtain ⟨rfl, hR5, hA6, hF7⟩ := q3
  refine rc_p (p_aload_n 0 (dk_at ktX7_after_0 3 rfl) rfl rfl (b := 6) rfl) ?_
  refine rc_p (p_aload_n 0 (dk_at ktX7_after_0 4 rfl) rfl rfl (b := 7) rfl) ?_
  refine rc_p (p_iload_n 1 (dk_at ktX7_after_0 5 rfl) rfl rfl (b := 8) rfl) ?_
  refine rc_p (p_iload 4 (dk_at ktX7_after_0 6 rfl) rfl (b := 10) rfl) ?_
  refine r_iV (As' := [.int v, .int (bi thr)]) (rest := [.ref m]) (s_X7_updates hm (σ := (upd σ 6 c)) (show RelW (I1 (m + 1)) (upd σ 6 c) from hR5) (Inv.p6 hI hc) v thr) cw_X7_355 qi_X7_updates qv_X7_updates rfl hm.l0 hm.s0 (dk_at ktX7_after_0 7 rfl) rfl rfl (Nat.le_of_ble_eq_true rfl) (by decide) (b := 13) rfl (fun v11 I8 J9 q10 => ?_)
  obtain ⟨eq14, rfl, hR12, hF13⟩ := q10
  refine rc_p (p_bipush (v := (-4)) (dk_at ktX7_after_0 8 rfl) (by decide) (b := 15) rfl) ?_
  refine r_icmp_ne (dk_at ktX7_after_0 9 rfl) (b := 22) (by decide) (b2 := 18) rfl (fun c15 => ?_) (fun c15 => ?_)
  · skip
    refine rc_p (p_iconst (v := 0) (dk_at ktX7_after_0 12 rfl) (by decide) (b := 23) rfl) ?_
    refine r_puti fl_X7_398 fw_X7_27 rfl hm.l0 hm.s0 rfl rfl (dk_at ktX7_after_0 13 rfl) (b := 26) rfl ?_
    refine rc_p (p_bipush (v := (-2)) (dk_at ktX7_after_0 14 rfl) (by decide) (b := 28) rfl) ?_
    refine rc_p (p_istore (ls' := [(6, .int (-2)), (0, .ref m), (1, .int v), (2, .int c), (3, .int bc), (4, .int (bi thr)), (5, .int (-1))]) (dk_at ktX7_after_0 15 rfl) (by decide) rfl (b := 30) rfl) ?_
    refine rc_p (p_aload_n 1 (dk_at ktX7_after_0 16 rfl) rfl rfl (b := 31) rfl) ?_
    refine r_geti fl_X7_398 rfl hm.l0 hm.s0 (dk_at ktX7_after_0 17 rfl) (v := 0) up2_s (b := 34) rfl ?_
    refine r_if_eq (dk_at ktX7_after_0 18 rfl) (b := 64) (by decide) (b2 := 37) rfl (fun c34 => ?_) (fun c34 => ?_)
    · skip
      refine rc_p (p_iload 6 (dk_at ktX7_after_0 33 rfl) rfl (b := 66) rfl) ?_
      refine rc_p (p_iconst (v := (-1)) (dk_at ktX7_after_0 34 rfl) (by decide) (b := 67) rfl) ?_
      refine r_icmp_ne (dk_at ktX7_after_0 35 rfl) (b := 75) (by decide) (b2 := 70) rfl (fun c67 => ?_) (fun c67 => ?_)
      · first | exact absurd c67 (by decide) | exact absurd (by decide) c67
      · skip
        refine rc_p (p_iload 0 (dk_at ktX7_after_0 36 rfl) rfl (b := 72) rfl) ?_
        refine rc_p (p_goto (b := 81) (dk_at ktX7_after_0 37 rfl) (by decide)) ?_
        refine rc_p (p_istore (ls' := [(7, .int (-2)), (6, .int (-2)), (0, .ref m), (1, .int v), (2, .int c), (3, .int bc), (4, .int (bi thr)), (5, .int (-1))]) (dk_at ktX7_after_0 41 rfl) (by decide) rfl (b := 83) rfl) ?_
        refine rc_p (p_aload_n 2 (dk_at ktX7_after_0 42 rfl) rfl rfl (b := 84) rfl) ?_
        refine r_vV (As' := []) (rest := []) (s_X7_comesBack hm (σ := σ) (RelW.cp hA6 (hI).2.1.2 (fun k _ => ((up2_n (by omega)).trans (congrFun (hF13.1 _ (by omega) (by simp)) k)))) (hI).2.1.2) cw_X7_392 qi_X7_comesBack qv_X7_comesBack rfl hm.l0 hm.s0 (dk_at ktX7_after_0 43 rfl) rfl rfl (Nat.le_of_ble_eq_true rfl) (by decide) (b := 87) rfl (fun I15 J16 q17 => ?_)
        obtain ⟨rfl, hR19, hF20⟩ := q17
        refine rc_p (p_iload 0 (dk_at ktX7_after_0 44 rfl) rfl (b := 89) rfl) ?_
        refine r_iret (dk_at ktX7_after_0 45 rfl) rfl rfl ⟨_, rfl, ?_⟩
        have e1 : ¬ (fUpd v thr (upd σ 6 c)).1 = -4 := fun q => c15 (eq14.symm.trans q)
        have he := aft_n (bc := bc) e1
        refine ⟨?_, rfl, hR19, Eq.trans (((hF20.2 27 (by decide))).trans up2_s) (by rw [decide_eq_false e1]; rfl), (FF.tr (FF.uf (FF.tr (FF.tr FF.rf (hF7.mo (by decide) (by decide))) (hF13.mo (by decide) (by decide))) (by decide)) (hF20.mo (by decide) (by decide)))⟩
        rw [he]
    · first | exact absurd c34 (by decide) | exact absurd (by decide) c34
  · skip
    refine rc_p (p_iconst (v := 1) (dk_at ktX7_after_0 10 rfl) (by decide) (b := 19) rfl) ?_
    refine rc_p (p_goto (b := 23) (dk_at ktX7_after_0 11 rfl) (by decide)) ?_
    refine r_puti fl_X7_398 fw_X7_27 rfl hm.l0 hm.s0 rfl rfl (dk_at ktX7_after_0 13 rfl) (b := 26) rfl ?_
    refine rc_p (p_bipush (v := (-2)) (dk_at ktX7_after_0 14 rfl) (by decide) (b := 28) rfl) ?_
    refine rc_p (p_istore (ls' := [(6, .int (-2)), (0, .ref m), (1, .int v), (2, .int c), (3, .int bc), (4, .int (bi thr)), (5, .int (-1))]) (dk_at ktX7_after_0 15 rfl) (by decide) rfl (b := 30) rfl) ?_
    refine rc_p (p_aload_n 1 (dk_at ktX7_after_0 16 rfl) rfl rfl (b := 31) rfl) ?_
    refine r_geti fl_X7_398 rfl hm.l0 hm.s0 (dk_at ktX7_after_0 17 rfl) (v := 1) up2_s (b := 34) rfl ?_
    refine r_if_eq (dk_at ktX7_after_0 18 rfl) (b := 64) (by decide) (b2 := 37) rfl (fun c34 => ?_) (fun c34 => ?_)
    · first | exact absurd c34 (by decide) | exact absurd (by decide) c34
    · skip
      refine rc_p (p_aload_n 1 (dk_at ktX7_after_0 19 rfl) rfl rfl (b := 38) rfl) ?_
      refine r_geta fl_X7_9 rfl hm.l0 hm.s0 (dk_at ktX7_after_0 20 rfl) hm.g0_0 (b := 41) rfl ?_
      refine rc_p (p_bipush (v := 6) (dk_at ktX7_after_0 21 rfl) (by decide) (b := 43) rfl) ?_
      refine rc_p (p_iload_n 4 (dk_at ktX7_after_0 22 rfl) rfl rfl (b := 44) rfl) ?_
      refine r_iast (j := 6) (hm.lt 1 (by decide)) hm.s1 (dk_at ktX7_after_0 23 rfl) rfl ⟨by decide, by decide⟩ (b := 45) rfl ?_
      refine rc_p (p_aload_n 1 (dk_at ktX7_after_0 24 rfl) rfl rfl (b := 46) rfl) ?_
      refine r_iV (As' := []) (rest := []) (s_X7_boots hm (σ := (upd (fUpd v thr (upd σ 6 c)).2 6 bc)) (show RelW ((up2 (up2 I8 m 27 1) (m + 1) 6 bc) (m + 1)) (upd (fUpd v thr (upd σ 6 c)).2 6 bc) from (by rw [up2_row]; exact RelW.up (by rw [up2_off (by omega)]; exact hR12) (by first | decide | omega) (by first | decide | omega))) (Inv.p6 (Inv.upda (Inv.p6 hI hc)) hbc)) cw_X7_319 qi_X7_boots qv_X7_boots rfl hm.l0 hm.s0 (dk_at ktX7_after_0 25 rfl) rfl rfl (Nat.le_of_ble_eq_true rfl) (by decide) (b := 49) rfl (fun v24 I21 J22 q23 => ?_)
      obtain ⟨eq27, rfl, hR25, hF26⟩ := q23
      refine rc_p (p_istore (ls' := [(6, .int v24), (0, .ref m), (1, .int v), (2, .int c), (3, .int bc), (4, .int (bi thr)), (5, .int (-1))]) (dk_at ktX7_after_0 26 rfl) (by decide) rfl (b := 51) rfl) ?_
      refine rc_p (p_iload 0 (dk_at ktX7_after_0 27 rfl) rfl (b := 53) rfl) ?_
      refine rc_p (p_bipush (v := (-4)) (dk_at ktX7_after_0 28 rfl) (by decide) (b := 55) rfl) ?_
      refine r_icmp_ne (dk_at ktX7_after_0 29 rfl) (b := 64) (by decide) (b2 := 58) rfl (fun c55 => ?_) (fun c55 => ?_)
      · skip
        refine rc_p (p_iload 6 (dk_at ktX7_after_0 33 rfl) rfl (b := 66) rfl) ?_
        refine rc_p (p_iconst (v := (-1)) (dk_at ktX7_after_0 34 rfl) (by decide) (b := 67) rfl) ?_
        refine r_icmp_ne (dk_at ktX7_after_0 35 rfl) (b := 75) (by decide) (b2 := 70) rfl (fun c67 => ?_) (fun c67 => ?_)
        · first | exact absurd c67 (by decide) | exact absurd (by decide) c67
        · skip
          refine rc_p (p_iload 0 (dk_at ktX7_after_0 36 rfl) rfl (b := 72) rfl) ?_
          refine rc_p (p_goto (b := 81) (dk_at ktX7_after_0 37 rfl) (by decide)) ?_
          refine rc_p (p_istore (ls' := [(7, .int v24), (6, .int v24), (0, .ref m), (1, .int v), (2, .int c), (3, .int bc), (4, .int (bi thr)), (5, .int (-1))]) (dk_at ktX7_after_0 41 rfl) (by decide) rfl (b := 83) rfl) ?_
          refine rc_p (p_aload_n 2 (dk_at ktX7_after_0 42 rfl) rfl rfl (b := 84) rfl) ?_
          refine r_vV (As' := []) (rest := []) (s_X7_comesBack hm (σ := σ) (RelW.cp hA6 (hI).2.1.2 (fun k _ => (((congrFun (hF26.1 _ (by omega) (by simp)) k)).trans ((up2_n (by omega)).trans ((up2_n (by omega)).trans (congrFun (hF13.1 _ (by omega) (by simp)) k)))))) (hI).2.1.2) cw_X7_392 qi_X7_comesBack qv_X7_comesBack rfl hm.l0 hm.s0 (dk_at ktX7_after_0 43 rfl) rfl rfl (Nat.le_of_ble_eq_true rfl) (by decide) (b := 87) rfl (fun I28 J29 q30 => ?_)
          obtain ⟨rfl, hR32, hF33⟩ := q30
          refine rc_p (p_iload 0 (dk_at ktX7_after_0 44 rfl) rfl (b := 89) rfl) ?_
          refine r_iret (dk_at ktX7_after_0 45 rfl) rfl rfl ⟨_, rfl, ?_⟩
          have e1 : (fUpd v thr (upd σ 6 c)).1 = -4 := eq14.trans c15
          have e2 : ¬ (fBoot (upd (fUpd v thr (upd σ 6 c)).2 6 bc)).1 = -4 := fun q => c55 (eq27.symm.trans q)
          have he := (aft_y (bc := bc) e1).trans (bt_n e2)
          refine ⟨?_, rfl, hR32, Eq.trans (((hF33.2 27 (by decide))).trans (((hF26.2 27 (by decide))).trans ((up2_n (by omega)).trans up2_s))) (by rw [decide_eq_true e1]; rfl), (FF.tr (FF.tr (FF.ua (FF.uf (FF.tr (FF.tr FF.rf (hF7.mo (by decide) (by decide))) (hF13.mo (by decide) (by decide))) (by decide)) (by decide) (by decide)) (hF26.mo (by decide) (by decide))) (hF33.mo (by decide) (by decide)))⟩
          rw [he]; exact eq27
      · skip
        refine rc_p (p_aload_n 1 (dk_at ktX7_after_0 30 rfl) rfl rfl (b := 59) rfl) ?_
        refine r_iV (As' := []) (rest := []) (s_X7_bootsFreely hm (σ := (fBoot (upd (fUpd v thr (upd σ 6 c)).2 6 bc)).2) (show RelW (I21 (m + 1)) ((fBoot (upd (fUpd v thr (upd σ 6 c)).2 6 bc)).2) from hR25) (Inv.boot (Inv.p6 (Inv.upda (Inv.p6 hI hc)) hbc))) cw_X7_401 qi_X7_bootsFreely qv_X7_bootsFreely rfl hm.l0 hm.s0 (dk_at ktX7_after_0 31 rfl) rfl rfl (Nat.le_of_ble_eq_true rfl) (by decide) (b := 62) rfl (fun v37 I34 J35 q36 => ?_)
        obtain ⟨eq40, rfl, hR38, hF39⟩ := q36
        refine rc_p (p_istore (ls' := [(6, .int v37), (0, .ref m), (1, .int v), (2, .int c), (3, .int bc), (4, .int (bi thr)), (5, .int (-1))]) (dk_at ktX7_after_0 32 rfl) (by decide) rfl (b := 64) rfl) ?_
        refine rc_p (p_iload 6 (dk_at ktX7_after_0 33 rfl) rfl (b := 66) rfl) ?_
        refine rc_p (p_iconst (v := (-1)) (dk_at ktX7_after_0 34 rfl) (by decide) (b := 67) rfl) ?_
        refine r_icmp_ne (dk_at ktX7_after_0 35 rfl) (b := 75) (by decide) (b2 := 70) rfl (fun c67 => ?_) (fun c67 => ?_)
        · first | exact absurd c67 (by decide) | exact absurd (by decide) c67
        · skip
          refine rc_p (p_iload 0 (dk_at ktX7_after_0 36 rfl) rfl (b := 72) rfl) ?_
          refine rc_p (p_goto (b := 81) (dk_at ktX7_after_0 37 rfl) (by decide)) ?_
          refine rc_p (p_istore (ls' := [(7, .int v37), (6, .int v37), (0, .ref m), (1, .int v), (2, .int c), (3, .int bc), (4, .int (bi thr)), (5, .int (-1))]) (dk_at ktX7_after_0 41 rfl) (by decide) rfl (b := 83) rfl) ?_
          refine rc_p (p_aload_n 2 (dk_at ktX7_after_0 42 rfl) rfl rfl (b := 84) rfl) ?_
          refine r_vV (As' := []) (rest := []) (s_X7_comesBack hm (σ := σ) (RelW.cp hA6 (hI).2.1.2 (fun k _ => (((congrFun (hF39.1 _ (by omega) (by simp)) k)).trans (((congrFun (hF26.1 _ (by omega) (by simp)) k)).trans ((up2_n (by omega)).trans ((up2_n (by omega)).trans (congrFun (hF13.1 _ (by omega) (by simp)) k))))))) (hI).2.1.2) cw_X7_392 qi_X7_comesBack qv_X7_comesBack rfl hm.l0 hm.s0 (dk_at ktX7_after_0 43 rfl) rfl rfl (Nat.le_of_ble_eq_true rfl) (by decide) (b := 87) rfl (fun I41 J42 q43 => ?_)
          obtain ⟨rfl, hR45, hF46⟩ := q43
          refine rc_p (p_iload 0 (dk_at ktX7_after_0 44 rfl) rfl (b := 89) rfl) ?_
          refine r_iret (dk_at ktX7_after_0 45 rfl) rfl rfl ⟨_, rfl, ?_⟩
          have e1 : (fUpd v thr (upd σ 6 c)).1 = -4 := eq14.trans c15
          have e2 : (fBoot (upd (fUpd v thr (upd σ 6 c)).2 6 bc)).1 = -4 := eq27.trans c55
          have he := (aft_y (bc := bc) e1).trans (bt_y e2)
          refine ⟨?_, rfl, hR45, Eq.trans (((hF46.2 27 (by decide))).trans (((hF39.2 27 (by decide))).trans (((hF26.2 27 (by decide))).trans ((up2_n (by omega)).trans up2_s)))) (by rw [decide_eq_true e1]; rfl), (FF.tr (FF.tr (FF.tr (FF.ua (FF.uf (FF.tr (FF.tr FF.rf (hF7.mo (by decide) (by decide))) (hF13.mo (by decide) (by decide))) (by decide)) (by decide) (by decide)) (hF26.mo (by decide) (by decide))) (hF39.mo (by decide) (by decide))) (hF46.mo (by decide) (by decide)))⟩
          rw [he]; exact eq40
set_option maxRecDepth 4000 in
set_option maxHeartbeats 4000000 in
theorem s_X7_afterT {n : Nat} {sh : mS} {G : mG} {I : mI} {J : mJ} {m : Nat} {σ : sT} (hm : ModG n sh G m) (hR : RelW (I (m + 1)) σ) (hI : Inv σ) (v : Int32) (thr : Bool) (c bc : Int32) (hc : (-1 : Int) ≤ c.toInt) (hbc : (-1 : Int) ≤ bc.toInt) (w : Nat) (hw : w < 5) : Sp yX7_after cX7_after 8 (some FieldType.int) 11 528 0 0 [.ref m, .int v, .int c, .int bc, .int (bi thr), .int (nI w)] n sh G I J (Qi (fun r_ I_ J_ => told (fAft v thr c bc σ).2 w = r_ ∧ J = J_ ∧ RelW (I_ (m + 1)) σ ∧ I_ m 27 = bi (decide ((fUpd v thr (upd σ 6 c)).1 = -4)) ∧ FF m [1, 2, 8] [18, 19, 20, 21, 22, 23, 24, 26, 27] I I_)) nX := by
  refine Sp.of (by decide) (ls := [(0, .ref m), (1, .int v), (2, .int c), (3, .int bc), (4, .int (bi thr)), (5, .int (nI w))]) (fun _ => rfl) (fun _ => Nat.le_of_ble_eq_true rfl) ?_
  refine rc_p (p_aload_n 0 (dk_at ktX7_after_0 0 rfl) rfl rfl (b := 1) rfl) ?_
  refine rc_p (p_iload_n 2 (dk_at ktX7_after_0 1 rfl) rfl rfl (b := 2) rfl) ?_
  refine r_vV (As' := [.int c]) (rest := []) (s_X7_goesAside hm (σ := σ) (show RelW (I (m + 1)) σ from hR) hI c) cw_X7_388 qi_X7_goesAside qv_X7_goesAside rfl hm.l0 hm.s0 (dk_at ktX7_after_0 2 rfl) rfl rfl (Nat.le_of_ble_eq_true rfl) (by decide) (b := 5) rfl (fun I1 J2 q3 => ?_)
  obtain ⟨rfl, hR5, hA6, hF7⟩ := q3
  refine rc_p (p_aload_n 0 (dk_at ktX7_after_0 3 rfl) rfl rfl (b := 6) rfl) ?_
  refine rc_p (p_aload_n 0 (dk_at ktX7_after_0 4 rfl) rfl rfl (b := 7) rfl) ?_
  refine rc_p (p_iload_n 1 (dk_at ktX7_after_0 5 rfl) rfl rfl (b := 8) rfl) ?_
  refine rc_p (p_iload 4 (dk_at ktX7_after_0 6 rfl) rfl (b := 10) rfl) ?_
  refine r_iV (As' := [.int v, .int (bi thr)]) (rest := [.ref m]) (s_X7_updates hm (σ := (upd σ 6 c)) (show RelW (I1 (m + 1)) (upd σ 6 c) from hR5) (Inv.p6 hI hc) v thr) cw_X7_355 qi_X7_updates qv_X7_updates rfl hm.l0 hm.s0 (dk_at ktX7_after_0 7 rfl) rfl rfl (Nat.le_of_ble_eq_true rfl) (by decide) (b := 13) rfl (fun v11 I8 J9 q10 => ?_)
  obtain ⟨eq14, rfl, hR12, hF13⟩ := q10
  refine rc_p (p_bipush (v := (-4)) (dk_at ktX7_after_0 8 rfl) (by decide) (b := 15) rfl) ?_
  refine r_icmp_ne (dk_at ktX7_after_0 9 rfl) (b := 22) (by decide) (b2 := 18) rfl (fun c15 => ?_) (fun c15 => ?_)
  · skip
    refine rc_p (p_iconst (v := 0) (dk_at ktX7_after_0 12 rfl) (by decide) (b := 23) rfl) ?_
    refine r_puti fl_X7_398 fw_X7_27 rfl hm.l0 hm.s0 rfl rfl (dk_at ktX7_after_0 13 rfl) (b := 26) rfl ?_
    refine rc_p (p_bipush (v := (-2)) (dk_at ktX7_after_0 14 rfl) (by decide) (b := 28) rfl) ?_
    refine rc_p (p_istore (ls' := [(6, .int (-2)), (0, .ref m), (1, .int v), (2, .int c), (3, .int bc), (4, .int (bi thr)), (5, .int (nI w))]) (dk_at ktX7_after_0 15 rfl) (by decide) rfl (b := 30) rfl) ?_
    refine rc_p (p_aload_n 1 (dk_at ktX7_after_0 16 rfl) rfl rfl (b := 31) rfl) ?_
    refine r_geti fl_X7_398 rfl hm.l0 hm.s0 (dk_at ktX7_after_0 17 rfl) (v := 0) up2_s (b := 34) rfl ?_
    refine r_if_eq (dk_at ktX7_after_0 18 rfl) (b := 64) (by decide) (b2 := 37) rfl (fun c34 => ?_) (fun c34 => ?_)
    · skip
      refine rc_p (p_iload 6 (dk_at ktX7_after_0 33 rfl) rfl (b := 66) rfl) ?_
      refine rc_p (p_iconst (v := (-1)) (dk_at ktX7_after_0 34 rfl) (by decide) (b := 67) rfl) ?_
      refine r_icmp_ne (dk_at ktX7_after_0 35 rfl) (b := 75) (by decide) (b2 := 70) rfl (fun c67 => ?_) (fun c67 => ?_)
      · skip
        refine rc_p (p_aload_n 1 (dk_at ktX7_after_0 38 rfl) rfl rfl (b := 76) rfl) ?_
        refine rc_p (p_iload 6 (dk_at ktX7_after_0 39 rfl) rfl (b := 78) rfl) ?_
        refine r_iV (As' := [.int (nI w)]) (rest := []) (s_X7_toldNow hm (σ := (fUpd v thr (upd σ 6 c)).2) (by rw [up2_off (by omega)]; exact hR12) (Inv.upda (Inv.p6 hI hc)) w (by omega)) cw_X7_385 qi_X7_toldNow qv_X7_toldNow rfl hm.l0 hm.s0 (dk_at ktX7_after_0 40 rfl) rfl rfl (Nat.le_of_ble_eq_true rfl) (by decide) (b := 81) rfl (fun v18 I15 J16 q17 => ?_)
        obtain ⟨rfl, rfl, hR21, hT19, hF20⟩ := q17
        refine rc_p (p_istore (ls' := [(7, .int (told (fUpd v thr (upd σ 6 c)).2 w)), (6, .int (-2)), (0, .ref m), (1, .int v), (2, .int c), (3, .int bc), (4, .int (bi thr)), (5, .int (nI w))]) (dk_at ktX7_after_0 41 rfl) (by decide) rfl (b := 83) rfl) ?_
        refine rc_p (p_aload_n 2 (dk_at ktX7_after_0 42 rfl) rfl rfl (b := 84) rfl) ?_
        refine r_vV (As' := []) (rest := []) (s_X7_comesBack hm (σ := σ) (RelW.cp hA6 (hI).2.1.2 (fun k _ => (((congrFun (hF20.1 _ (by omega) (by simp)) k)).trans ((up2_n (by omega)).trans (congrFun (hF13.1 _ (by omega) (by simp)) k))))) (hI).2.1.2) cw_X7_392 qi_X7_comesBack qv_X7_comesBack rfl hm.l0 hm.s0 (dk_at ktX7_after_0 43 rfl) rfl rfl (Nat.le_of_ble_eq_true rfl) (by decide) (b := 87) rfl (fun I22 J23 q24 => ?_)
        obtain ⟨rfl, hR26, hF27⟩ := q24
        refine rc_p (p_iload 0 (dk_at ktX7_after_0 44 rfl) rfl (b := 89) rfl) ?_
        refine r_iret (dk_at ktX7_after_0 45 rfl) rfl rfl ⟨_, rfl, ?_⟩
        have e1 : ¬ (fUpd v thr (upd σ 6 c)).1 = -4 := fun q => c15 (eq14.symm.trans q)
        have he := aft_n (bc := bc) e1
        refine ⟨?_, rfl, hR26, Eq.trans (((hF27.2 27 (by decide))).trans (((hF20.2 27 (by decide))).trans up2_s)) (by rw [decide_eq_false e1]; rfl), (FF.tr (FF.tr (FF.uf (FF.tr (FF.tr FF.rf (hF7.mo (by decide) (by decide))) (hF13.mo (by decide) (by decide))) (by decide)) (hF20.mo (by decide) (by decide))) (hF27.mo (by decide) (by decide)))⟩
        rw [he]
      · skip
        exact absurd c67 (nI_nm1 (by omega))
    · first | exact absurd c34 (by decide) | exact absurd (by decide) c34
  · skip
    refine rc_p (p_iconst (v := 1) (dk_at ktX7_after_0 10 rfl) (by decide) (b := 19) rfl) ?_
    refine rc_p (p_goto (b := 23) (dk_at ktX7_after_0 11 rfl) (by decide)) ?_
    refine r_puti fl_X7_398 fw_X7_27 rfl hm.l0 hm.s0 rfl rfl (dk_at ktX7_after_0 13 rfl) (b := 26) rfl ?_
    refine rc_p (p_bipush (v := (-2)) (dk_at ktX7_after_0 14 rfl) (by decide) (b := 28) rfl) ?_
    refine rc_p (p_istore (ls' := [(6, .int (-2)), (0, .ref m), (1, .int v), (2, .int c), (3, .int bc), (4, .int (bi thr)), (5, .int (nI w))]) (dk_at ktX7_after_0 15 rfl) (by decide) rfl (b := 30) rfl) ?_
    refine rc_p (p_aload_n 1 (dk_at ktX7_after_0 16 rfl) rfl rfl (b := 31) rfl) ?_
    refine r_geti fl_X7_398 rfl hm.l0 hm.s0 (dk_at ktX7_after_0 17 rfl) (v := 1) up2_s (b := 34) rfl ?_
    refine r_if_eq (dk_at ktX7_after_0 18 rfl) (b := 64) (by decide) (b2 := 37) rfl (fun c34 => ?_) (fun c34 => ?_)
    · first | exact absurd c34 (by decide) | exact absurd (by decide) c34
    · skip
      refine rc_p (p_aload_n 1 (dk_at ktX7_after_0 19 rfl) rfl rfl (b := 38) rfl) ?_
      refine r_geta fl_X7_9 rfl hm.l0 hm.s0 (dk_at ktX7_after_0 20 rfl) hm.g0_0 (b := 41) rfl ?_
      refine rc_p (p_bipush (v := 6) (dk_at ktX7_after_0 21 rfl) (by decide) (b := 43) rfl) ?_
      refine rc_p (p_iload_n 4 (dk_at ktX7_after_0 22 rfl) rfl rfl (b := 44) rfl) ?_
      refine r_iast (j := 6) (hm.lt 1 (by decide)) hm.s1 (dk_at ktX7_after_0 23 rfl) rfl ⟨by decide, by decide⟩ (b := 45) rfl ?_
      refine rc_p (p_aload_n 1 (dk_at ktX7_after_0 24 rfl) rfl rfl (b := 46) rfl) ?_
      refine r_iV (As' := []) (rest := []) (s_X7_boots hm (σ := (upd (fUpd v thr (upd σ 6 c)).2 6 bc)) (show RelW ((up2 (up2 I8 m 27 1) (m + 1) 6 bc) (m + 1)) (upd (fUpd v thr (upd σ 6 c)).2 6 bc) from (by rw [up2_row]; exact RelW.up (by rw [up2_off (by omega)]; exact hR12) (by first | decide | omega) (by first | decide | omega))) (Inv.p6 (Inv.upda (Inv.p6 hI hc)) hbc)) cw_X7_319 qi_X7_boots qv_X7_boots rfl hm.l0 hm.s0 (dk_at ktX7_after_0 25 rfl) rfl rfl (Nat.le_of_ble_eq_true rfl) (by decide) (b := 49) rfl (fun v31 I28 J29 q30 => ?_)
      obtain ⟨eq34, rfl, hR32, hF33⟩ := q30
      refine rc_p (p_istore (ls' := [(6, .int v31), (0, .ref m), (1, .int v), (2, .int c), (3, .int bc), (4, .int (bi thr)), (5, .int (nI w))]) (dk_at ktX7_after_0 26 rfl) (by decide) rfl (b := 51) rfl) ?_
      refine rc_p (p_iload 0 (dk_at ktX7_after_0 27 rfl) rfl (b := 53) rfl) ?_
      refine rc_p (p_bipush (v := (-4)) (dk_at ktX7_after_0 28 rfl) (by decide) (b := 55) rfl) ?_
      refine r_icmp_ne (dk_at ktX7_after_0 29 rfl) (b := 64) (by decide) (b2 := 58) rfl (fun c55 => ?_) (fun c55 => ?_)
      · skip
        refine rc_p (p_iload 6 (dk_at ktX7_after_0 33 rfl) rfl (b := 66) rfl) ?_
        refine rc_p (p_iconst (v := (-1)) (dk_at ktX7_after_0 34 rfl) (by decide) (b := 67) rfl) ?_
        refine r_icmp_ne (dk_at ktX7_after_0 35 rfl) (b := 75) (by decide) (b2 := 70) rfl (fun c67 => ?_) (fun c67 => ?_)
        · skip
          refine rc_p (p_aload_n 1 (dk_at ktX7_after_0 38 rfl) rfl rfl (b := 76) rfl) ?_
          refine rc_p (p_iload 6 (dk_at ktX7_after_0 39 rfl) rfl (b := 78) rfl) ?_
          refine r_iV (As' := [.int (nI w)]) (rest := []) (s_X7_toldNow hm (σ := (fBoot (upd (fUpd v thr (upd σ 6 c)).2 6 bc)).2) hR32 (Inv.boot (Inv.p6 (Inv.upda (Inv.p6 hI hc)) hbc)) w (by omega)) cw_X7_385 qi_X7_toldNow qv_X7_toldNow rfl hm.l0 hm.s0 (dk_at ktX7_after_0 40 rfl) rfl rfl (Nat.le_of_ble_eq_true rfl) (by decide) (b := 81) rfl (fun v38 I35 J36 q37 => ?_)
          obtain ⟨rfl, rfl, hR41, hT39, hF40⟩ := q37
          refine rc_p (p_istore (ls' := [(7, .int (told (fBoot (upd (fUpd v thr (upd σ 6 c)).2 6 bc)).2 w)), (6, .int v31), (0, .ref m), (1, .int v), (2, .int c), (3, .int bc), (4, .int (bi thr)), (5, .int (nI w))]) (dk_at ktX7_after_0 41 rfl) (by decide) rfl (b := 83) rfl) ?_
          refine rc_p (p_aload_n 2 (dk_at ktX7_after_0 42 rfl) rfl rfl (b := 84) rfl) ?_
          refine r_vV (As' := []) (rest := []) (s_X7_comesBack hm (σ := σ) (RelW.cp hA6 (hI).2.1.2 (fun k _ => (((congrFun (hF40.1 _ (by omega) (by simp)) k)).trans (((congrFun (hF33.1 _ (by omega) (by simp)) k)).trans ((up2_n (by omega)).trans ((up2_n (by omega)).trans (congrFun (hF13.1 _ (by omega) (by simp)) k))))))) (hI).2.1.2) cw_X7_392 qi_X7_comesBack qv_X7_comesBack rfl hm.l0 hm.s0 (dk_at ktX7_after_0 43 rfl) rfl rfl (Nat.le_of_ble_eq_true rfl) (by decide) (b := 87) rfl (fun I42 J43 q44 => ?_)
          obtain ⟨rfl, hR46, hF47⟩ := q44
          refine rc_p (p_iload 0 (dk_at ktX7_after_0 44 rfl) rfl (b := 89) rfl) ?_
          refine r_iret (dk_at ktX7_after_0 45 rfl) rfl rfl ⟨_, rfl, ?_⟩
          have e1 : (fUpd v thr (upd σ 6 c)).1 = -4 := eq14.trans c15
          have e2 : ¬ (fBoot (upd (fUpd v thr (upd σ 6 c)).2 6 bc)).1 = -4 := fun q => c55 (eq34.symm.trans q)
          have he := (aft_y (bc := bc) e1).trans (bt_n e2)
          refine ⟨?_, rfl, hR46, Eq.trans (((hF47.2 27 (by decide))).trans (((hF40.2 27 (by decide))).trans (((hF33.2 27 (by decide))).trans ((up2_n (by omega)).trans up2_s)))) (by rw [decide_eq_true e1]; rfl), (FF.tr (FF.tr (FF.tr (FF.ua (FF.uf (FF.tr (FF.tr FF.rf (hF7.mo (by decide) (by decide))) (hF13.mo (by decide) (by decide))) (by decide)) (by decide) (by decide)) (hF33.mo (by decide) (by decide))) (hF40.mo (by decide) (by decide))) (hF47.mo (by decide) (by decide)))⟩
          rw [he]
        · skip
          exact absurd c67 (nI_nm1 (by omega))
      · skip
        refine rc_p (p_aload_n 1 (dk_at ktX7_after_0 30 rfl) rfl rfl (b := 59) rfl) ?_
        refine r_iV (As' := []) (rest := []) (s_X7_bootsFreely hm (σ := (fBoot (upd (fUpd v thr (upd σ 6 c)).2 6 bc)).2) (show RelW (I28 (m + 1)) ((fBoot (upd (fUpd v thr (upd σ 6 c)).2 6 bc)).2) from hR32) (Inv.boot (Inv.p6 (Inv.upda (Inv.p6 hI hc)) hbc))) cw_X7_401 qi_X7_bootsFreely qv_X7_bootsFreely rfl hm.l0 hm.s0 (dk_at ktX7_after_0 31 rfl) rfl rfl (Nat.le_of_ble_eq_true rfl) (by decide) (b := 62) rfl (fun v51 I48 J49 q50 => ?_)
        obtain ⟨eq54, rfl, hR52, hF53⟩ := q50
        refine rc_p (p_istore (ls' := [(6, .int v51), (0, .ref m), (1, .int v), (2, .int c), (3, .int bc), (4, .int (bi thr)), (5, .int (nI w))]) (dk_at ktX7_after_0 32 rfl) (by decide) rfl (b := 64) rfl) ?_
        refine rc_p (p_iload 6 (dk_at ktX7_after_0 33 rfl) rfl (b := 66) rfl) ?_
        refine rc_p (p_iconst (v := (-1)) (dk_at ktX7_after_0 34 rfl) (by decide) (b := 67) rfl) ?_
        refine r_icmp_ne (dk_at ktX7_after_0 35 rfl) (b := 75) (by decide) (b2 := 70) rfl (fun c67 => ?_) (fun c67 => ?_)
        · skip
          refine rc_p (p_aload_n 1 (dk_at ktX7_after_0 38 rfl) rfl rfl (b := 76) rfl) ?_
          refine rc_p (p_iload 6 (dk_at ktX7_after_0 39 rfl) rfl (b := 78) rfl) ?_
          refine r_iV (As' := [.int (nI w)]) (rest := []) (s_X7_toldNow hm (σ := (fBoot (upd (fBoot (upd (fUpd v thr (upd σ 6 c)).2 6 bc)).2 6 (-1))).2) hR52 (Inv.boot (Inv.pm (Inv.boot (Inv.p6 (Inv.upda (Inv.p6 hI hc)) hbc)))) w (by omega)) cw_X7_385 qi_X7_toldNow qv_X7_toldNow rfl hm.l0 hm.s0 (dk_at ktX7_after_0 40 rfl) rfl rfl (Nat.le_of_ble_eq_true rfl) (by decide) (b := 81) rfl (fun v58 I55 J56 q57 => ?_)
          obtain ⟨rfl, rfl, hR61, hT59, hF60⟩ := q57
          refine rc_p (p_istore (ls' := [(7, .int (told (fBoot (upd (fBoot (upd (fUpd v thr (upd σ 6 c)).2 6 bc)).2 6 (-1))).2 w)), (6, .int v51), (0, .ref m), (1, .int v), (2, .int c), (3, .int bc), (4, .int (bi thr)), (5, .int (nI w))]) (dk_at ktX7_after_0 41 rfl) (by decide) rfl (b := 83) rfl) ?_
          refine rc_p (p_aload_n 2 (dk_at ktX7_after_0 42 rfl) rfl rfl (b := 84) rfl) ?_
          refine r_vV (As' := []) (rest := []) (s_X7_comesBack hm (σ := σ) (RelW.cp hA6 (hI).2.1.2 (fun k _ => (((congrFun (hF60.1 _ (by omega) (by simp)) k)).trans (((congrFun (hF53.1 _ (by omega) (by simp)) k)).trans (((congrFun (hF33.1 _ (by omega) (by simp)) k)).trans ((up2_n (by omega)).trans ((up2_n (by omega)).trans (congrFun (hF13.1 _ (by omega) (by simp)) k)))))))) (hI).2.1.2) cw_X7_392 qi_X7_comesBack qv_X7_comesBack rfl hm.l0 hm.s0 (dk_at ktX7_after_0 43 rfl) rfl rfl (Nat.le_of_ble_eq_true rfl) (by decide) (b := 87) rfl (fun I62 J63 q64 => ?_)
          obtain ⟨rfl, hR66, hF67⟩ := q64
          refine rc_p (p_iload 0 (dk_at ktX7_after_0 44 rfl) rfl (b := 89) rfl) ?_
          refine r_iret (dk_at ktX7_after_0 45 rfl) rfl rfl ⟨_, rfl, ?_⟩
          have e1 : (fUpd v thr (upd σ 6 c)).1 = -4 := eq14.trans c15
          have e2 : (fBoot (upd (fUpd v thr (upd σ 6 c)).2 6 bc)).1 = -4 := eq34.trans c55
          have he := (aft_y (bc := bc) e1).trans (bt_y e2)
          refine ⟨?_, rfl, hR66, Eq.trans (((hF67.2 27 (by decide))).trans (((hF60.2 27 (by decide))).trans (((hF53.2 27 (by decide))).trans (((hF33.2 27 (by decide))).trans ((up2_n (by omega)).trans up2_s))))) (by rw [decide_eq_true e1]; rfl), (FF.tr (FF.tr (FF.tr (FF.tr (FF.ua (FF.uf (FF.tr (FF.tr FF.rf (hF7.mo (by decide) (by decide))) (hF13.mo (by decide) (by decide))) (by decide)) (by decide) (by decide)) (hF33.mo (by decide) (by decide))) (hF53.mo (by decide) (by decide))) (hF60.mo (by decide) (by decide))) (hF67.mo (by decide) (by decide)))⟩
          rw [he]
        · skip
          exact absurd c67 (nI_nm1 (by omega))

/-! THE CLASS reads a text: letters, words, numbers -/
set_option maxRecDepth 4000 in
set_option maxHeartbeats 4000000 in
theorem s_X5_fail {n : Nat} {sh : mS} {G : mG} {I : mI} {J : mJ} {x : Nat} (hx : TxtG n sh G x) (k a : Nat) : Sp yX5_fail cX5_fail 3 (some FieldType.boolean) 1 48 0 0 [.ref x, .int (nI k), .int (nI a)] n sh G I J (Qi (fun r_ I_ J_ => 0 = r_ ∧ J = J_ ∧ FF x [] [6, 7] I I_ ∧ I_ x 6 = nI k ∧ I_ x 7 = nI a)) nX := by
  refine Sp.of (by decide) (ls := [(0, .ref x), (1, .int (nI k)), (2, .int (nI a))]) (fun _ => rfl) (fun _ => Nat.le_of_ble_eq_true rfl) ?_
  refine rc_p (p_aload_n 0 (dk_at ktX5_fail_0 0 rfl) rfl rfl (b := 1) rfl) ?_
  refine rc_p (p_iload_n 1 (dk_at ktX5_fail_0 1 rfl) rfl rfl (b := 2) rfl) ?_
  refine r_puti fl_X5_34 fw_X5_6 rfl hx.l0 hx.s0 rfl rfl (dk_at ktX5_fail_0 2 rfl) (b := 5) rfl ?_
  refine rc_p (p_aload_n 0 (dk_at ktX5_fail_0 3 rfl) rfl rfl (b := 6) rfl) ?_
  refine rc_p (p_iload_n 2 (dk_at ktX5_fail_0 4 rfl) rfl rfl (b := 7) rfl) ?_
  refine r_puti fl_X5_37 fw_X5_7 rfl hx.l0 hx.s0 rfl rfl (dk_at ktX5_fail_0 5 rfl) (b := 10) rfl ?_
  refine rc_p (p_iconst (v := 0) (dk_at ktX5_fail_0 6 rfl) (by decide) (b := 11) rfl) ?_
  refine r_iret (dk_at ktX5_fail_0 7 rfl) rfl rfl ⟨_, rfl, ?_⟩
  exact ⟨rfl, rfl, ((FF.rf.uf (by simp)).uf (by simp)), (up2_k (by decide)).trans up2_s, up2_s⟩
set_option maxRecDepth 4000 in
set_option maxHeartbeats 4000000 in
theorem s_X5_skipSpaces {n : Nat} {sh : mS} {G : mG} {I : mI} {J : mJ} {x : Nat} {T : tT} {nn : Nat} (hx : TxtG n sh G x) (hT : TC x I T nn) (p : Nat) (hp : I x 3 = nI p) (hpn : p ≤ nn)  : Sp yX5_skipSpaces cX5_skipSpaces 1 none 1 48 0 0 [.ref x] n sh G I J (Qv (fun I_ J_ => J = J_ ∧ FF x [] [3] I I_ ∧ I_ x 3 = nI (txSk T nn p))) nX := by
  refine Sp.of (by decide) (ls := [(0, .ref x)]) (fun _ => rfl) (fun _ => Nat.le_of_ble_eq_true rfl) ?_
  have hn := hT.1.1
  have h256 := tx_256 hT.1
  have cut0 : ∀ (t q : Nat) (Iz : mI), FF x [] [3] I Iz → Iz x 3 = nI q → q ≤ nn → nn - q < t → txSk T nn p = scanF (txS T) (nn - q) q → Rc RX5 cX5_skipSpaces 1 none 1 48 0 0 n sh G (Qv (fun I_ J_ => J = J_ ∧ FF x [] [3] I I_ ∧ I_ x 3 = nI (txSk T nn p))) nX 0 0 0 [(0, .ref x)] [] Iz J := by
    intro t
    induction t
    · intro q Iz _ _ _ h; omega
    rename_i t ih
    intro q Iz hFz hq hqn ht hx2
    refine rc_p (p_aload_n 0 (dk_at ktX5_skipSpaces_0 0 rfl) rfl rfl (b := 1) rfl) ?_
    refine r_geti fl_X5_31 rfl hx.l0 hx.s0 (dk_at ktX5_skipSpaces_0 1 rfl) (v := (nI q)) hq (b := 4) rfl ?_
    refine rc_p (p_aload_n 0 (dk_at ktX5_skipSpaces_0 2 rfl) rfl rfl (b := 5) rfl) ?_
    refine r_geti fl_X5_24 rfl hx.l0 hx.s0 (dk_at ktX5_skipSpaces_0 3 rfl) (v := (nI nn)) ((hT.fr (show FQ x I Iz from (hFz.mo (by simp) (by simp)))).2.1) (b := 8) rfl ?_
    refine r_icmp_ge (dk_at ktX5_skipSpaces_0 4 rfl) (b := 38) (by decide) (b2 := 11) rfl (fun c8 => ?_) (fun c8 => ?_)
    · have c8 : nn ≤ q := (nI_leI (a := nn) (b := q) (by omega) (by omega)).mp c8
      refine r_vret (dk_at ktX5_skipSpaces_0 19 rfl) rfl ⟨rfl, ?_⟩
      have e : txSk T nn p = q := hx2.trans (scan_n (tx_no hT.1 (by omega)).1)
      rw [e]
      exact ⟨rfl, hFz, hq⟩
    · have c8 : ¬ nn ≤ q := fun h => c8 ((nI_leI (a := nn) (b := q) (by omega) (by omega)).mpr h)
      refine rc_p (p_aload_n 0 (dk_at ktX5_skipSpaces_0 5 rfl) rfl rfl (b := 12) rfl) ?_
      refine r_geta fl_X5_11 rfl hx.l0 hx.s0 (dk_at ktX5_skipSpaces_0 6 rfl) hx.g0_0 (b := 15) rfl ?_
      refine rc_p (p_aload_n 0 (dk_at ktX5_skipSpaces_0 7 rfl) rfl rfl (b := 16) rfl) ?_
      refine r_geti fl_X5_31 rfl hx.l0 hx.s0 (dk_at ktX5_skipSpaces_0 8 rfl) (v := (nI q)) hq (b := 19) rfl ?_
      refine r_bald (j := q) (hx.lt 1 (by decide)) hx.s1 (dk_at ktX5_skipSpaces_0 9 rfl) rfl ⟨by omega, by decide⟩ (v := (sg (T q))) ((hT.fr (show FQ x I Iz from (hFz.mo (by simp) (by simp)))).2.2 q (by omega)) (b := 20) rfl ?_
      refine rc_p (p_bipush (v := 32) (dk_at ktX5_skipSpaces_0 10 rfl) (by decide) (b := 22) rfl) ?_
      refine r_icmp_ne (dk_at ktX5_skipSpaces_0 11 rfl) (b := 38) (by decide) (b2 := 25) rfl (fun c22 => ?_) (fun c22 => ?_)
      · skip
        refine r_vret (dk_at ktX5_skipSpaces_0 19 rfl) rfl ⟨rfl, ?_⟩
        have e : txSk T nn p = q := hx2.trans (scan_n (decide_eq_false (fun g => c22 ((sg_all _ (h256 q)).1.mpr g))))
        rw [e]
        exact ⟨rfl, hFz, hq⟩
      · skip
        refine rc_p (p_aload_n 0 (dk_at ktX5_skipSpaces_0 12 rfl) rfl rfl (b := 26) rfl) ?_
        refine rc_p (p_dup (dk_at ktX5_skipSpaces_0 13 rfl) rfl (b := 27) rfl) ?_
        refine r_geti fl_X5_31 rfl hx.l0 hx.s0 (dk_at ktX5_skipSpaces_0 14 rfl) (v := (nI q)) hq (b := 30) rfl ?_
        refine rc_p (p_iconst (v := 1) (dk_at ktX5_skipSpaces_0 15 rfl) (by decide) (b := 31) rfl) ?_
        refine rc_p (p_iadd (v := (nI (q + 1))) (dk_at ktX5_skipSpaces_0 16 rfl) (nI_add q 1) (b := 32) rfl) ?_
        refine r_puti fl_X5_31 fw_X5_3 rfl hx.l0 hx.s0 rfl rfl (dk_at ktX5_skipSpaces_0 17 rfl) (b := 35) rfl ?_
        refine rc_p (p_goto (b := 0) (dk_at ktX5_skipSpaces_0 18 rfl) (by decide)) ?_
        have e8 : txS T q = true := decide_eq_true ((sg_all _ (h256 q)).1.mp c22)
        exact ih (q + 1) _ (hFz.uf (by simp)) up2_s (by omega) (by omega) (hx2.trans (scan_y (by omega) e8))
  exact cut0 1000 p I FF.rf hp hpn (by omega) rfl
set_option maxRecDepth 4000 in
set_option maxHeartbeats 4000000 in
theorem s_X5_isAtEnd {n : Nat} {sh : mS} {G : mG} {I : mI} {J : mJ} {x : Nat} {T : tT} {nn : Nat} (hx : TxtG n sh G x) (hT : TC x I T nn) (p : Nat) (hp : I x 3 = nI p) (hpn : p ≤ nn)  : Sp yX5_isAtEnd cX5_isAtEnd 1 (some FieldType.boolean) 2 96 0 0 [.ref x] n sh G I J (Qi (fun r_ I_ J_ => bi (decide (nn ≤ txSk T nn p)) = r_ ∧ J = J_ ∧ FF x [] [3] I I_ ∧ I_ x 3 = nI (txSk T nn p))) nX := by
  refine Sp.of (by decide) (ls := [(0, .ref x)]) (fun _ => rfl) (fun _ => Nat.le_of_ble_eq_true rfl) ?_
  have hn := hT.1.1
  have hsk := txSk_le (T := T) hpn
  have h256 := tx_256 hT.1
  refine rc_p (p_aload_n 0 (dk_at ktX5_isAtEnd_0 0 rfl) rfl rfl (b := 1) rfl) ?_
  refine r_vV (As' := []) (rest := []) (s_X5_skipSpaces hx hT p hp (by omega)) cw_X5_53 qi_X5_skipSpaces qv_X5_skipSpaces rfl hx.l0 hx.s0 (dk_at ktX5_isAtEnd_0 1 rfl) rfl rfl (Nat.le_of_ble_eq_true rfl) (by decide) (b := 4) rfl (fun I1 J2 q3 => ?_)
  obtain ⟨rfl, hF5, hh6⟩ := q3
  refine rc_p (p_aload_n 0 (dk_at ktX5_isAtEnd_0 2 rfl) rfl rfl (b := 5) rfl) ?_
  refine r_geti fl_X5_31 rfl hx.l0 hx.s0 (dk_at ktX5_isAtEnd_0 3 rfl) (v := (nI (txSk T nn p))) hh6 (b := 8) rfl ?_
  refine rc_p (p_aload_n 0 (dk_at ktX5_isAtEnd_0 4 rfl) rfl rfl (b := 9) rfl) ?_
  refine r_geti fl_X5_24 rfl hx.l0 hx.s0 (dk_at ktX5_isAtEnd_0 5 rfl) (v := (nI nn)) (((hF5.2 2 (by decide))).trans (hT.2.1)) (b := 12) rfl ?_
  refine r_icmp_lt (dk_at ktX5_isAtEnd_0 6 rfl) (b := 19) (by decide) (b2 := 15) rfl (fun c12 => ?_) (fun c12 => ?_)
  · have c12 : (txSk T nn p) < nn := (nI_ltI (a := txSk T nn p) (b := nn) (by omega) (by omega)).mp c12
    refine rc_p (p_iconst (v := 0) (dk_at ktX5_isAtEnd_0 9 rfl) (by decide) (b := 20) rfl) ?_
    refine r_iret (dk_at ktX5_isAtEnd_0 10 rfl) rfl rfl ⟨_, rfl, ?_⟩
    refine ⟨?_, rfl, (FF.rf.tr (hF5.mo (by simp) (by simp))), hh6⟩
    rw [decide_eq_false (by omega)]; rfl
  · have c12 : ¬ (txSk T nn p) < nn := fun h => c12 ((nI_ltI (a := txSk T nn p) (b := nn) (by omega) (by omega)).mpr h)
    refine rc_p (p_iconst (v := 1) (dk_at ktX5_isAtEnd_0 7 rfl) (by decide) (b := 16) rfl) ?_
    refine rc_p (p_goto (b := 20) (dk_at ktX5_isAtEnd_0 8 rfl) (by decide)) ?_
    refine r_iret (dk_at ktX5_isAtEnd_0 10 rfl) rfl rfl ⟨_, rfl, ?_⟩
    refine ⟨?_, rfl, (FF.rf.tr (hF5.mo (by simp) (by simp))), hh6⟩
    rw [decide_eq_true (by omega)]; rfl
set_option maxRecDepth 4000 in
set_option maxHeartbeats 4000000 in
theorem s_X5_isAtDigit {n : Nat} {sh : mS} {G : mG} {I : mI} {J : mJ} {x : Nat} {T : tT} {nn : Nat} (hx : TxtG n sh G x) (hT : TC x I T nn) (p : Nat) (hp : I x 3 = nI p) (hpn : p ≤ nn)  : Sp yX5_isAtDigit cX5_isAtDigit 1 (some FieldType.boolean) 2 96 0 0 [.ref x] n sh G I J (Qi (fun r_ I_ J_ => bi (txD T (txSk T nn p)) = r_ ∧ J = J_ ∧ FF x [] [3] I I_ ∧ I_ x 3 = nI (txSk T nn p))) nX := by
  refine Sp.of (by decide) (ls := [(0, .ref x)]) (fun _ => rfl) (fun _ => Nat.le_of_ble_eq_true rfl) ?_
  have hn := hT.1.1
  have hsk := txSk_le (T := T) hpn
  have h256 := tx_256 hT.1
  refine rc_p (p_aload_n 0 (dk_at ktX5_isAtDigit_0 0 rfl) rfl rfl (b := 1) rfl) ?_
  refine r_vV (As' := []) (rest := []) (s_X5_skipSpaces hx hT p hp (by omega)) cw_X5_53 qi_X5_skipSpaces qv_X5_skipSpaces rfl hx.l0 hx.s0 (dk_at ktX5_isAtDigit_0 1 rfl) rfl rfl (Nat.le_of_ble_eq_true rfl) (by decide) (b := 4) rfl (fun I1 J2 q3 => ?_)
  obtain ⟨rfl, hF5, hh6⟩ := q3
  refine rc_p (p_aload_n 0 (dk_at ktX5_isAtDigit_0 2 rfl) rfl rfl (b := 5) rfl) ?_
  refine r_geti fl_X5_31 rfl hx.l0 hx.s0 (dk_at ktX5_isAtDigit_0 3 rfl) (v := (nI (txSk T nn p))) hh6 (b := 8) rfl ?_
  refine rc_p (p_aload_n 0 (dk_at ktX5_isAtDigit_0 4 rfl) rfl rfl (b := 9) rfl) ?_
  refine r_geti fl_X5_24 rfl hx.l0 hx.s0 (dk_at ktX5_isAtDigit_0 5 rfl) (v := (nI nn)) (((hF5.2 2 (by decide))).trans (hT.2.1)) (b := 12) rfl ?_
  refine r_icmp_ge (dk_at ktX5_isAtDigit_0 6 rfl) (b := 47) (by decide) (b2 := 15) rfl (fun c12 => ?_) (fun c12 => ?_)
  · have c12 : nn ≤ (txSk T nn p) := (nI_leI (a := nn) (b := txSk T nn p) (by omega) (by omega)).mp c12
    refine rc_p (p_iconst (v := 0) (dk_at ktX5_isAtDigit_0 23 rfl) (by decide) (b := 48) rfl) ?_
    refine r_iret (dk_at ktX5_isAtDigit_0 24 rfl) rfl rfl ⟨_, rfl, ?_⟩
    refine ⟨?_, rfl, (FF.rf.tr (hF5.mo (by simp) (by simp))), hh6⟩
    rw [show txD T (txSk T nn p) = false from (tx_no hT.1 (by omega)).2.2]; rfl
  · have c12 : ¬ nn ≤ (txSk T nn p) := fun h => c12 ((nI_leI (a := nn) (b := txSk T nn p) (by omega) (by omega)).mpr h)
    refine rc_p (p_aload_n 0 (dk_at ktX5_isAtDigit_0 7 rfl) rfl rfl (b := 16) rfl) ?_
    refine r_geta fl_X5_11 rfl hx.l0 hx.s0 (dk_at ktX5_isAtDigit_0 8 rfl) hx.g0_0 (b := 19) rfl ?_
    refine rc_p (p_aload_n 0 (dk_at ktX5_isAtDigit_0 9 rfl) rfl rfl (b := 20) rfl) ?_
    refine r_geti fl_X5_31 rfl hx.l0 hx.s0 (dk_at ktX5_isAtDigit_0 10 rfl) (v := (nI (txSk T nn p))) hh6 (b := 23) rfl ?_
    refine r_bald (j := txSk T nn p) (hx.lt 1 (by decide)) hx.s1 (dk_at ktX5_isAtDigit_0 11 rfl) rfl ⟨by omega, by decide⟩ (v := (sg (T (txSk T nn p)))) ((hT.fr (show FQ x I I1 from (FF.rf.tr (hF5.mo (by simp) (by simp))))).2.2 (txSk T nn p) (by omega)) (b := 24) rfl ?_
    refine rc_p (p_bipush (v := 48) (dk_at ktX5_isAtDigit_0 12 rfl) (by decide) (b := 26) rfl) ?_
    refine r_icmp_lt (dk_at ktX5_isAtDigit_0 13 rfl) (b := 47) (by decide) (b2 := 29) rfl (fun c26 => ?_) (fun c26 => ?_)
    · skip
      refine rc_p (p_iconst (v := 0) (dk_at ktX5_isAtDigit_0 23 rfl) (by decide) (b := 48) rfl) ?_
      refine r_iret (dk_at ktX5_isAtDigit_0 24 rfl) rfl rfl ⟨_, rfl, ?_⟩
      refine ⟨?_, rfl, (FF.rf.tr (hF5.mo (by simp) (by simp))), hh6⟩
      rw [show txD T (txSk T nn p) = false from decide_eq_false (sg_nd (h256 _) (Or.inl c26))]; rfl
    · skip
      refine rc_p (p_aload_n 0 (dk_at ktX5_isAtDigit_0 14 rfl) rfl rfl (b := 30) rfl) ?_
      refine r_geta fl_X5_11 rfl hx.l0 hx.s0 (dk_at ktX5_isAtDigit_0 15 rfl) hx.g0_0 (b := 33) rfl ?_
      refine rc_p (p_aload_n 0 (dk_at ktX5_isAtDigit_0 16 rfl) rfl rfl (b := 34) rfl) ?_
      refine r_geti fl_X5_31 rfl hx.l0 hx.s0 (dk_at ktX5_isAtDigit_0 17 rfl) (v := (nI (txSk T nn p))) hh6 (b := 37) rfl ?_
      refine r_bald (j := txSk T nn p) (hx.lt 1 (by decide)) hx.s1 (dk_at ktX5_isAtDigit_0 18 rfl) rfl ⟨by omega, by decide⟩ (v := (sg (T (txSk T nn p)))) ((hT.fr (show FQ x I I1 from (FF.rf.tr (hF5.mo (by simp) (by simp))))).2.2 (txSk T nn p) (by omega)) (b := 38) rfl ?_
      refine rc_p (p_bipush (v := 57) (dk_at ktX5_isAtDigit_0 19 rfl) (by decide) (b := 40) rfl) ?_
      refine r_icmp_gt (dk_at ktX5_isAtDigit_0 20 rfl) (b := 47) (by decide) (b2 := 43) rfl (fun c40 => ?_) (fun c40 => ?_)
      · skip
        refine rc_p (p_iconst (v := 0) (dk_at ktX5_isAtDigit_0 23 rfl) (by decide) (b := 48) rfl) ?_
        refine r_iret (dk_at ktX5_isAtDigit_0 24 rfl) rfl rfl ⟨_, rfl, ?_⟩
        refine ⟨?_, rfl, (FF.rf.tr (hF5.mo (by simp) (by simp))), hh6⟩
        rw [show txD T (txSk T nn p) = false from decide_eq_false (sg_nd (h256 _) (Or.inr c40))]; rfl
      · skip
        refine rc_p (p_iconst (v := 1) (dk_at ktX5_isAtDigit_0 21 rfl) (by decide) (b := 44) rfl) ?_
        refine rc_p (p_goto (b := 48) (dk_at ktX5_isAtDigit_0 22 rfl) (by decide)) ?_
        refine r_iret (dk_at ktX5_isAtDigit_0 24 rfl) rfl rfl ⟨_, rfl, ?_⟩
        refine ⟨?_, rfl, (FF.rf.tr (hF5.mo (by simp) (by simp))), hh6⟩
        rw [show txD T (txSk T nn p) = true from decide_eq_true (sg_d (h256 _) c26 c40)]; rfl
set_option maxRecDepth 4000 in
set_option maxHeartbeats 4000000 in
theorem s_X5_readSemicolon {n : Nat} {sh : mS} {G : mG} {I : mI} {J : mJ} {x : Nat} {T : tT} {nn : Nat} (hx : TxtG n sh G x) (hT : TC x I T nn) (p : Nat) (hp : I x 3 = nI p) (hpn : p ≤ nn)  : Sp yX5_readSemicolon cX5_readSemicolon 1 (some FieldType.boolean) 2 96 0 0 [.ref x] n sh G I J (Qi (fun r_ I_ J_ => bi (decide (T p = 59)) = r_ ∧ J = J_ ∧ FF x [] [3, 6, 7] I I_ ∧ (T p = 59 → FF x [] [3] I I_ ∧ I_ x 3 = nI (p + 1)) ∧ (¬ T p = 59 → I_ x 6 = nI 1 ∧ I_ x 7 = nI p))) nX := by
  refine Sp.of (by decide) (ls := [(0, .ref x)]) (fun _ => rfl) (fun _ => Nat.le_of_ble_eq_true rfl) ?_
  have hn := hT.1.1
  have h256 := tx_256 hT.1
  refine rc_p (p_aload_n 0 (dk_at ktX5_readSemicolon_0 0 rfl) rfl rfl (b := 1) rfl) ?_
  refine r_geti fl_X5_31 rfl hx.l0 hx.s0 (dk_at ktX5_readSemicolon_0 1 rfl) (v := (nI p)) hp (b := 4) rfl ?_
  refine rc_p (p_aload_n 0 (dk_at ktX5_readSemicolon_0 2 rfl) rfl rfl (b := 5) rfl) ?_
  refine r_geti fl_X5_24 rfl hx.l0 hx.s0 (dk_at ktX5_readSemicolon_0 3 rfl) (v := (nI nn)) (hT.2.1) (b := 8) rfl ?_
  refine r_icmp_ge (dk_at ktX5_readSemicolon_0 4 rfl) (b := 25) (by decide) (b2 := 11) rfl (fun c8 => ?_) (fun c8 => ?_)
  · have c8 : nn ≤ p := (nI_leI (a := nn) (b := p) (by omega) (by omega)).mp c8
    refine rc_p (p_aload_n 0 (dk_at ktX5_readSemicolon_0 12 rfl) rfl rfl (b := 26) rfl) ?_
    refine rc_p (p_iconst (v := 1) (dk_at ktX5_readSemicolon_0 13 rfl) (by decide) (b := 27) rfl) ?_
    refine rc_p (p_aload_n 0 (dk_at ktX5_readSemicolon_0 14 rfl) rfl rfl (b := 28) rfl) ?_
    refine r_geti fl_X5_31 rfl hx.l0 hx.s0 (dk_at ktX5_readSemicolon_0 15 rfl) (v := (nI p)) hp (b := 31) rfl ?_
    refine r_iV (As' := [.int 1, .int (nI p)]) (rest := []) (s_X5_fail hx 1 p) cw_X5_56 qi_X5_fail qv_X5_fail rfl hx.l0 hx.s0 (dk_at ktX5_readSemicolon_0 16 rfl) rfl rfl (Nat.le_of_ble_eq_true rfl) (by decide) (b := 34) rfl (fun v4 I1 J2 q3 => ?_)
    obtain ⟨rfl, rfl, hF5, hh6, hh7⟩ := q3
    refine r_iret (dk_at ktX5_readSemicolon_0 17 rfl) rfl rfl ⟨_, rfl, ?_⟩
    have e : ¬ T p = 59 := by have := hT.1.2.2 p (by omega); omega
    refine ⟨by rw [decide_eq_false e]; rfl, rfl, (FF.rf.tr (hF5.mo (by simp) (by simp))), fun g => absurd g e, fun _ => ⟨hh6, hh7⟩⟩
  · have c8 : ¬ nn ≤ p := fun h => c8 ((nI_leI (a := nn) (b := p) (by omega) (by omega)).mpr h)
    refine rc_p (p_aload_n 0 (dk_at ktX5_readSemicolon_0 5 rfl) rfl rfl (b := 12) rfl) ?_
    refine r_geta fl_X5_11 rfl hx.l0 hx.s0 (dk_at ktX5_readSemicolon_0 6 rfl) hx.g0_0 (b := 15) rfl ?_
    refine rc_p (p_aload_n 0 (dk_at ktX5_readSemicolon_0 7 rfl) rfl rfl (b := 16) rfl) ?_
    refine r_geti fl_X5_31 rfl hx.l0 hx.s0 (dk_at ktX5_readSemicolon_0 8 rfl) (v := (nI p)) hp (b := 19) rfl ?_
    refine r_bald (j := p) (hx.lt 1 (by decide)) hx.s1 (dk_at ktX5_readSemicolon_0 9 rfl) rfl ⟨by omega, by decide⟩ (v := (sg (T p))) (hT.2.2 p (by omega)) (b := 20) rfl ?_
    refine rc_p (p_bipush (v := 59) (dk_at ktX5_readSemicolon_0 10 rfl) (by decide) (b := 22) rfl) ?_
    refine r_icmp_eq (dk_at ktX5_readSemicolon_0 11 rfl) (b := 35) (by decide) (b2 := 25) rfl (fun c22 => ?_) (fun c22 => ?_)
    · skip
      refine rc_p (p_aload_n 0 (dk_at ktX5_readSemicolon_0 18 rfl) rfl rfl (b := 36) rfl) ?_
      refine rc_p (p_dup (dk_at ktX5_readSemicolon_0 19 rfl) rfl (b := 37) rfl) ?_
      refine r_geti fl_X5_31 rfl hx.l0 hx.s0 (dk_at ktX5_readSemicolon_0 20 rfl) (v := (nI p)) hp (b := 40) rfl ?_
      refine rc_p (p_iconst (v := 1) (dk_at ktX5_readSemicolon_0 21 rfl) (by decide) (b := 41) rfl) ?_
      refine rc_p (p_iadd (v := (nI (p + 1))) (dk_at ktX5_readSemicolon_0 22 rfl) (nI_add p 1) (b := 42) rfl) ?_
      refine r_puti fl_X5_31 fw_X5_3 rfl hx.l0 hx.s0 rfl rfl (dk_at ktX5_readSemicolon_0 23 rfl) (b := 45) rfl ?_
      refine rc_p (p_iconst (v := 1) (dk_at ktX5_readSemicolon_0 24 rfl) (by decide) (b := 46) rfl) ?_
      refine r_iret (dk_at ktX5_readSemicolon_0 25 rfl) rfl rfl ⟨_, rfl, ?_⟩
      have e := (sg_all _ (h256 p)).2.1.mp c22
      refine ⟨by rw [decide_eq_true e]; rfl, rfl, (FF.rf.uf (by simp)), fun _ => ⟨(FF.rf.uf (by simp)), up2_s⟩, fun g => absurd e g⟩
    · skip
      refine rc_p (p_aload_n 0 (dk_at ktX5_readSemicolon_0 12 rfl) rfl rfl (b := 26) rfl) ?_
      refine rc_p (p_iconst (v := 1) (dk_at ktX5_readSemicolon_0 13 rfl) (by decide) (b := 27) rfl) ?_
      refine rc_p (p_aload_n 0 (dk_at ktX5_readSemicolon_0 14 rfl) rfl rfl (b := 28) rfl) ?_
      refine r_geti fl_X5_31 rfl hx.l0 hx.s0 (dk_at ktX5_readSemicolon_0 15 rfl) (v := (nI p)) hp (b := 31) rfl ?_
      refine r_iV (As' := [.int 1, .int (nI p)]) (rest := []) (s_X5_fail hx 1 p) cw_X5_56 qi_X5_fail qv_X5_fail rfl hx.l0 hx.s0 (dk_at ktX5_readSemicolon_0 16 rfl) rfl rfl (Nat.le_of_ble_eq_true rfl) (by decide) (b := 34) rfl (fun v11 I8 J9 q10 => ?_)
      obtain ⟨rfl, rfl, hF12, hh13, hh14⟩ := q10
      refine r_iret (dk_at ktX5_readSemicolon_0 17 rfl) rfl rfl ⟨_, rfl, ?_⟩
      have e : ¬ T p = 59 := fun g => c22 ((sg_all _ (h256 p)).2.1.mpr g)
      refine ⟨by rw [decide_eq_false e]; rfl, rfl, (FF.rf.tr (hF12.mo (by simp) (by simp))), fun g => absurd g e, fun _ => ⟨hh13, hh14⟩⟩
set_option maxRecDepth 4000 in
set_option maxHeartbeats 4000000 in
theorem s_X5_passWord {n : Nat} {sh : mS} {G : mG} {I : mI} {J : mJ} {x : Nat} {T : tT} {nn : Nat} (hx : TxtG n sh G x) (hT : TC x I T nn) (p : Nat) (hp : I x 3 = nI p) (hpn : p ≤ nn)  : Sp yX5_passWord cX5_passWord 2 (some FieldType.int) 2 96 0 0 [.ref x] n sh G I J (Qi (fun r_ I_ J_ => nI (txSk T nn p) = r_ ∧ J = J_ ∧ FF x [] [3] I I_ ∧ I_ x 3 = nI (txWe T nn (txSk T nn p)))) nX := by
  refine Sp.of (by decide) (ls := [(0, .ref x)]) (fun _ => rfl) (fun _ => Nat.le_of_ble_eq_true rfl) ?_
  have hn := hT.1.1
  have h256 := tx_256 hT.1
  have hsk := txSk_le (T := T) hpn
  have cut9 : ∀ (t q : Nat) (Iz : mI), FF x [] [3] I Iz → Iz x 3 = nI q → q ≤ nn → nn - q < t → txWe T nn (txSk T nn p) = scanF (txL T) (nn - q) q → Rc RX5 cX5_passWord 2 (some FieldType.int) 2 96 0 0 n sh G (Qi (fun r_ I_ J_ => nI (txSk T nn p) = r_ ∧ J = J_ ∧ FF x [] [3] I I_ ∧ I_ x 3 = nI (txWe T nn (txSk T nn p)))) nX 0 0 9 [(1, .int (nI (txSk T nn p))), (0, .ref x)] [] Iz J := by
    intro t
    induction t
    · intro q Iz _ _ _ h; omega
    rename_i t ih
    intro q Iz hFz hq hqn ht hx2
    refine rc_p (p_aload_n 1 (dk_at ktX5_passWord_0 5 rfl) rfl rfl (b := 10) rfl) ?_
    refine r_geti fl_X5_31 rfl hx.l0 hx.s0 (dk_at ktX5_passWord_0 6 rfl) (v := (nI q)) hq (b := 13) rfl ?_
    refine rc_p (p_aload_n 1 (dk_at ktX5_passWord_0 7 rfl) rfl rfl (b := 14) rfl) ?_
    refine r_geti fl_X5_24 rfl hx.l0 hx.s0 (dk_at ktX5_passWord_0 8 rfl) (v := (nI nn)) ((hT.fr (show FQ x I Iz from (hFz.mo (by simp) (by simp)))).2.1) (b := 17) rfl ?_
    refine r_icmp_ge (dk_at ktX5_passWord_0 9 rfl) (b := 61) (by decide) (b2 := 20) rfl (fun c17 => ?_) (fun c17 => ?_)
    · have c17 : nn ≤ q := (nI_leI (a := nn) (b := q) (by omega) (by omega)).mp c17
      refine rc_p (p_iload_n 0 (dk_at ktX5_passWord_0 31 rfl) rfl rfl (b := 62) rfl) ?_
      refine r_iret (dk_at ktX5_passWord_0 32 rfl) rfl rfl ⟨_, rfl, ?_⟩
      have e : txWe T nn (txSk T nn p) = q := hx2.trans (scan_n (tx_no hT.1 (by omega)).2.1)
      rw [e]
      exact ⟨rfl, rfl, hFz, hq⟩
    · have c17 : ¬ nn ≤ q := fun h => c17 ((nI_leI (a := nn) (b := q) (by omega) (by omega)).mpr h)
      refine rc_p (p_aload_n 1 (dk_at ktX5_passWord_0 10 rfl) rfl rfl (b := 21) rfl) ?_
      refine r_geta fl_X5_11 rfl hx.l0 hx.s0 (dk_at ktX5_passWord_0 11 rfl) hx.g0_0 (b := 24) rfl ?_
      refine rc_p (p_aload_n 1 (dk_at ktX5_passWord_0 12 rfl) rfl rfl (b := 25) rfl) ?_
      refine r_geti fl_X5_31 rfl hx.l0 hx.s0 (dk_at ktX5_passWord_0 13 rfl) (v := (nI q)) hq (b := 28) rfl ?_
      refine r_bald (j := q) (hx.lt 1 (by decide)) hx.s1 (dk_at ktX5_passWord_0 14 rfl) rfl ⟨by omega, by decide⟩ (v := (sg (T q))) ((hT.fr (show FQ x I Iz from (hFz.mo (by simp) (by simp)))).2.2 q (by omega)) (b := 29) rfl ?_
      refine rc_p (p_bipush (v := 97) (dk_at ktX5_passWord_0 15 rfl) (by decide) (b := 31) rfl) ?_
      refine r_icmp_lt (dk_at ktX5_passWord_0 16 rfl) (b := 61) (by decide) (b2 := 34) rfl (fun c31 => ?_) (fun c31 => ?_)
      · skip
        refine rc_p (p_iload_n 0 (dk_at ktX5_passWord_0 31 rfl) rfl rfl (b := 62) rfl) ?_
        refine r_iret (dk_at ktX5_passWord_0 32 rfl) rfl rfl ⟨_, rfl, ?_⟩
        have e : txWe T nn (txSk T nn p) = q := hx2.trans (scan_n (decide_eq_false (sg_nl (h256 q) (Or.inl c31))))
        rw [e]
        exact ⟨rfl, rfl, hFz, hq⟩
      · skip
        refine rc_p (p_aload_n 1 (dk_at ktX5_passWord_0 17 rfl) rfl rfl (b := 35) rfl) ?_
        refine r_geta fl_X5_11 rfl hx.l0 hx.s0 (dk_at ktX5_passWord_0 18 rfl) hx.g0_0 (b := 38) rfl ?_
        refine rc_p (p_aload_n 1 (dk_at ktX5_passWord_0 19 rfl) rfl rfl (b := 39) rfl) ?_
        refine r_geti fl_X5_31 rfl hx.l0 hx.s0 (dk_at ktX5_passWord_0 20 rfl) (v := (nI q)) hq (b := 42) rfl ?_
        refine r_bald (j := q) (hx.lt 1 (by decide)) hx.s1 (dk_at ktX5_passWord_0 21 rfl) rfl ⟨by omega, by decide⟩ (v := (sg (T q))) ((hT.fr (show FQ x I Iz from (hFz.mo (by simp) (by simp)))).2.2 q (by omega)) (b := 43) rfl ?_
        refine rc_p (p_bipush (v := 122) (dk_at ktX5_passWord_0 22 rfl) (by decide) (b := 45) rfl) ?_
        refine r_icmp_gt (dk_at ktX5_passWord_0 23 rfl) (b := 61) (by decide) (b2 := 48) rfl (fun c45 => ?_) (fun c45 => ?_)
        · skip
          refine rc_p (p_iload_n 0 (dk_at ktX5_passWord_0 31 rfl) rfl rfl (b := 62) rfl) ?_
          refine r_iret (dk_at ktX5_passWord_0 32 rfl) rfl rfl ⟨_, rfl, ?_⟩
          have e : txWe T nn (txSk T nn p) = q := hx2.trans (scan_n (decide_eq_false (sg_nl (h256 q) (Or.inr c45))))
          rw [e]
          exact ⟨rfl, rfl, hFz, hq⟩
        · skip
          refine rc_p (p_aload_n 1 (dk_at ktX5_passWord_0 24 rfl) rfl rfl (b := 49) rfl) ?_
          refine rc_p (p_dup (dk_at ktX5_passWord_0 25 rfl) rfl (b := 50) rfl) ?_
          refine r_geti fl_X5_31 rfl hx.l0 hx.s0 (dk_at ktX5_passWord_0 26 rfl) (v := (nI q)) hq (b := 53) rfl ?_
          refine rc_p (p_iconst (v := 1) (dk_at ktX5_passWord_0 27 rfl) (by decide) (b := 54) rfl) ?_
          refine rc_p (p_iadd (v := (nI (q + 1))) (dk_at ktX5_passWord_0 28 rfl) (nI_add q 1) (b := 55) rfl) ?_
          refine r_puti fl_X5_31 fw_X5_3 rfl hx.l0 hx.s0 rfl rfl (dk_at ktX5_passWord_0 29 rfl) (b := 58) rfl ?_
          refine rc_p (p_goto (b := 9) (dk_at ktX5_passWord_0 30 rfl) (by decide)) ?_
          have e8 : txL T q = true := decide_eq_true (sg_l (h256 q) c31 c45)
          exact ih (q + 1) _ (hFz.uf (by simp)) up2_s (by omega) (by omega) (hx2.trans (scan_y (by omega) e8))
  refine rc_p (p_aload_n 0 (dk_at ktX5_passWord_0 0 rfl) rfl rfl (b := 1) rfl) ?_
  refine r_vV (As' := []) (rest := []) (s_X5_skipSpaces hx hT p hp (by omega)) cw_X5_53 qi_X5_skipSpaces qv_X5_skipSpaces rfl hx.l0 hx.s0 (dk_at ktX5_passWord_0 1 rfl) rfl rfl (Nat.le_of_ble_eq_true rfl) (by decide) (b := 4) rfl (fun I1 J2 q3 => ?_)
  obtain ⟨rfl, hF5, hh6⟩ := q3
  refine rc_p (p_aload_n 0 (dk_at ktX5_passWord_0 2 rfl) rfl rfl (b := 5) rfl) ?_
  refine r_geti fl_X5_31 rfl hx.l0 hx.s0 (dk_at ktX5_passWord_0 3 rfl) (v := (nI (txSk T nn p))) hh6 (b := 8) rfl ?_
  refine rc_p (p_istore_n (ls' := [(1, .int (nI (txSk T nn p))), (0, .ref x)]) (dk_at ktX5_passWord_0 4 rfl) rfl (by decide) rfl (b := 9) rfl) ?_
  exact cut9 1000 (txSk T nn p) I1 (FF.rf.tr (hF5.mo (by simp) (by simp))) hh6 (by omega) (by omega) rfl
set_option maxRecDepth 4000 in
set_option maxHeartbeats 4000000 in
theorem s_X5_isWord {n : Nat} {sh : mS} {G : mG} {I : mI} {J : mJ} {x : Nat} {T : tT} {nn : Nat} (hx : TxtG n sh G x) (hT : TC x I T nn) (p : Nat) (hp : I x 3 = nI p) (hpn : p ≤ nn) (w i : Nat) (hw : w ≤ p) (hi : i < 6) : Sp yX5_isWord cX5_isWord 4 (some FieldType.boolean) 5 186 0 0 [.ref x, .int (nI w), .ref (1000 + i)] n sh G I J (Qi (fun r_ I_ J_ => bi (isW T w p i) = r_ ∧ I = I_ ∧ J = J_)) nX := by
  refine Sp.of (by decide) (ls := [(0, .ref x), (1, .int (nI w)), (2, .ref (1000 + i))]) (fun _ => rfl) (fun _ => Nat.le_of_ble_eq_true rfl) ?_
  have hn := hT.1.1
  have h256 := tx_256 hT.1
  have hbl := bL_5 hi
  have cut17 : ∀ (t k : Nat), 1000 - k < t → k ≤ bLen.getD i 0 → (∀ j, j < k → nI (T (w + j)) = bC i j) → (p - w = bLen.getD i 0) → Rc RX5 cX5_isWord 4 (some FieldType.boolean) 5 186 0 0 n sh G (Qi (fun r_ I_ J_ => bi (isW T w p i) = r_ ∧ I = I_ ∧ J = J_)) nX 0 0 17 [(3, .int (nI k)), (0, .ref x), (1, .int (nI w)), (2, .ref (1000 + i))] [] I J := by
    intro t
    induction t
    · intro k h; omega
    rename_i t ih
    intro k ht hk h1 c10
    refine rc_p (p_iload_n 0 (dk_at ktX5_isWord_0 11 rfl) rfl rfl (b := 18) rfl) ?_
    refine rc_p (p_aload_n 3 (dk_at ktX5_isWord_0 12 rfl) rfl rfl (b := 19) rfl) ?_
    refine r_iVS (As' := []) (rest := [.int (nI k)]) (s_J0_length_8abf5 i hi) hi cw_X5_60 qi_J0_length_8abf5 qv_J0_length_8abf5 (dk_at ktX5_isWord_0 13 rfl) rfl rfl (Nat.le_of_ble_eq_true rfl) (by decide) (b := 22) rfl (fun v4 I1 J2 q3 => ?_)
    obtain ⟨rfl, rfl, rfl⟩ := q3
    refine r_icmp_ge (dk_at ktX5_isWord_0 14 rfl) (b := 49) (by decide) (b2 := 25) rfl (fun c22 => ?_) (fun c22 => ?_)
    · have c22 : (bLen.getD i 0) ≤ k := (nI_leI (a := bLen.getD i 0) (b := k) (by omega) (by omega)).mp c22
      refine rc_p (p_iconst (v := 1) (dk_at ktX5_isWord_0 29 rfl) (by decide) (b := 50) rfl) ?_
      refine r_iret (dk_at ktX5_isWord_0 30 rfl) rfl rfl ⟨_, rfl, ?_⟩
      exact ⟨congrArg bi (isW_t c10 (fun j hj => h1 j (by omega))), rfl, rfl⟩
    · have c22 : ¬ (bLen.getD i 0) ≤ k := fun h => c22 ((nI_leI (a := bLen.getD i 0) (b := k) (by omega) (by omega)).mpr h)
      have hj2 : k < bLen.getD i 0 := by omega
      refine rc_p (p_aload_n 1 (dk_at ktX5_isWord_0 15 rfl) rfl rfl (b := 26) rfl) ?_
      refine r_geta fl_X5_11 rfl hx.l0 hx.s0 (dk_at ktX5_isWord_0 16 rfl) hx.g0_0 (b := 29) rfl ?_
      refine rc_p (p_iload_n 2 (dk_at ktX5_isWord_0 17 rfl) rfl rfl (b := 30) rfl) ?_
      refine rc_p (p_iload_n 0 (dk_at ktX5_isWord_0 18 rfl) rfl rfl (b := 31) rfl) ?_
      refine rc_p (p_iadd (v := (nI (w + k))) (dk_at ktX5_isWord_0 19 rfl) (nI_add w k) (b := 32) rfl) ?_
      refine r_bald (j := w + k) (hx.lt 1 (by decide)) hx.s1 (dk_at ktX5_isWord_0 20 rfl) rfl ⟨by omega, by decide⟩ (v := (sg (T (w + k)))) (hT.2.2 (w + k) (by omega)) (b := 33) rfl ?_
      refine rc_p (p_aload_n 3 (dk_at ktX5_isWord_0 21 rfl) rfl rfl (b := 34) rfl) ?_
      refine rc_p (p_iload_n 0 (dk_at ktX5_isWord_0 22 rfl) rfl rfl (b := 35) rfl) ?_
      refine r_iVS (As' := [.int (nI k)]) (rest := [.int (sg (T (w + k)))]) (s_J0_charAt_5068e i hi k hj2) hi cw_X5_65 qi_J0_charAt_5068e qv_J0_charAt_5068e (dk_at ktX5_isWord_0 23 rfl) rfl rfl (Nat.le_of_ble_eq_true rfl) (by decide) (b := 38) rfl (fun v8 I5 J6 q7 => ?_)
      obtain ⟨rfl, rfl, rfl⟩ := q7
      refine r_icmp_eq (dk_at ktX5_isWord_0 24 rfl) (b := 43) (by decide) (b2 := 41) rfl (fun c38 => ?_) (fun c38 => ?_)
      · skip
        refine rc_p (p_iinc (j := 0) (v := (nI (k + 1))) (ls' := [(3, .int (nI (k + 1))), (0, .ref x), (1, .int (nI w)), (2, .ref (1000 + i))]) (dk_at ktX5_isWord_0 27 rfl) rfl (nI_add k 1) (by decide) rfl (b := 46) rfl) ?_
        refine rc_p (p_goto (b := 17) (dk_at ktX5_isWord_0 28 rfl) (by decide)) ?_
        exact ih (k + 1) (by omega) (by omega) (fun j hj => by
          by_cases e : j = k
          · subst e; exact (sg_b hi hj2 (h256 _)).mp c38
          · exact h1 j (by omega)) c10
      · skip
        refine rc_p (p_iconst (v := 0) (dk_at ktX5_isWord_0 25 rfl) (by decide) (b := 42) rfl) ?_
        refine r_iret (dk_at ktX5_isWord_0 26 rfl) rfl rfl ⟨_, rfl, ?_⟩
        exact ⟨congrArg bi (isW_f hj2 (fun g => c38 ((sg_b hi hj2 (h256 _)).mpr g))), rfl, rfl⟩
  have hn := hT.1.1
  have hbl := bL_5 hi
  refine rc_p (p_aload_n 0 (dk_at ktX5_isWord_0 0 rfl) rfl rfl (b := 1) rfl) ?_
  refine r_geti fl_X5_31 rfl hx.l0 hx.s0 (dk_at ktX5_isWord_0 1 rfl) (v := (nI p)) hp (b := 4) rfl ?_
  refine rc_p (p_iload_n 1 (dk_at ktX5_isWord_0 2 rfl) rfl rfl (b := 5) rfl) ?_
  refine rc_p (p_isub (v := (nI (p - w))) (dk_at ktX5_isWord_0 3 rfl) (pk_sub (a := p) (b := w) (by omega)) (b := 6) rfl) ?_
  refine rc_p (p_aload_n 2 (dk_at ktX5_isWord_0 4 rfl) rfl rfl (b := 7) rfl) ?_
  refine r_iVS (As' := []) (rest := [.int (nI (p - w))]) (s_J0_length_8abf5 i hi) hi cw_X5_60 qi_J0_length_8abf5 qv_J0_length_8abf5 (dk_at ktX5_isWord_0 5 rfl) rfl rfl (Nat.le_of_ble_eq_true rfl) (by decide) (b := 10) rfl (fun v12 I9 J10 q11 => ?_)
  obtain ⟨rfl, rfl, rfl⟩ := q11
  refine r_icmp_eq (dk_at ktX5_isWord_0 6 rfl) (b := 15) (by decide) (b2 := 13) rfl (fun c10 => ?_) (fun c10 => ?_)
  · have c10 : (p - w) = (bLen.getD i 0) := (nI_eq (a := p - w) (b := bLen.getD i 0) (by omega) (by omega)).mp c10
    refine rc_p (p_iconst (v := 0) (dk_at ktX5_isWord_0 9 rfl) (by decide) (b := 16) rfl) ?_
    refine rc_p (p_istore_n (ls' := [(3, .int 0), (0, .ref x), (1, .int (nI w)), (2, .ref (1000 + i))]) (dk_at ktX5_isWord_0 10 rfl) rfl (by decide) rfl (b := 17) rfl) ?_
    exact cut17 2000 0 (by omega) (by omega) (fun j hj => absurd hj (by omega)) c10
  · have c10 : ¬ (p - w) = (bLen.getD i 0) := fun h => c10 ((nI_eq (a := p - w) (b := bLen.getD i 0) (by omega) (by omega)).mpr h)
    refine rc_p (p_iconst (v := 0) (dk_at ktX5_isWord_0 7 rfl) (by decide) (b := 14) rfl) ?_
    refine r_iret (dk_at ktX5_isWord_0 8 rfl) rfl rfl ⟨_, rfl, ?_⟩
    exact ⟨congrArg bi (isW_l c10), rfl, rfl⟩
set_option maxRecDepth 4000 in
set_option maxHeartbeats 4000000 in
theorem s_X5_readNumber {n : Nat} {sh : mS} {G : mG} {I : mI} {J : mJ} {x : Nat} {T : tT} {nn : Nat} (hx : TxtG n sh G x) (hT : TC x I T nn) (p : Nat) (hp : I x 3 = nI p) (hpn : p ≤ nn) (lo hi : Nat) (hlo : lo < 1000000) (hhi : hi < 1000000) : Sp yX5_readNumber cX5_readNumber 3 (some FieldType.boolean) 3 144 0 0 [.ref x, .int (nI lo), .int (nI hi)] n sh G I J (Qi (fun r_ I_ J_ => bi (decide (txK T nn (txSk T nn p) lo hi = 0)) = r_ ∧ J = J_ ∧ FF x [] [3, 4, 5, 6, 7] I I_ ∧ (txK T nn (txSk T nn p) lo hi = 0 → I_ x 6 = I x 6 ∧ I_ x 3 = nI (txDe T nn (txSk T nn p)) ∧ I_ x 4 = nI (txVa T nn (txSk T nn p)) ∧ I_ x 5 = nI (txSk T nn p)) ∧ (¬ txK T nn (txSk T nn p) lo hi = 0 → I_ x 6 = nI (txK T nn (txSk T nn p) lo hi) ∧ I_ x 7 = nI (txSk T nn p)))) nX := by
  refine Sp.of (by decide) (ls := [(0, .ref x), (1, .int (nI lo)), (2, .int (nI hi))]) (fun _ => rfl) (fun _ => Nat.le_of_ble_eq_true rfl) ?_
  have hn := hT.1.1
  have h256 := tx_256 hT.1
  have hsk := txSk_le (T := T) hpn
  have cut30 : ∀ (t q v : Nat) (Iz : mI), FF x [] [3, 4, 5] I Iz → Iz x 3 = nI q → Iz x 4 = nI v → Iz x 5 = nI (txSk T nn p) → Iz x 6 = I x 6 → txD T (txSk T nn p) = true → q ≤ nn → nn - q < t → v ≤ 1000000 → vaF 1000000 T (nn - txSk T nn p) (txSk T nn p) 0 = vaF 1000000 T (nn - q) q v → txDe T nn (txSk T nn p) = scanF (txD T) (nn - q) q → Rc RX5 cX5_readNumber 3 (some FieldType.boolean) 3 144 0 0 n sh G (Qi (fun r_ I_ J_ => bi (decide (txK T nn (txSk T nn p) lo hi = 0)) = r_ ∧ J = J_ ∧ FF x [] [3, 4, 5, 6, 7] I I_ ∧ (txK T nn (txSk T nn p) lo hi = 0 → I_ x 6 = I x 6 ∧ I_ x 3 = nI (txDe T nn (txSk T nn p)) ∧ I_ x 4 = nI (txVa T nn (txSk T nn p)) ∧ I_ x 5 = nI (txSk T nn p)) ∧ (¬ txK T nn (txSk T nn p) lo hi = 0 → I_ x 6 = nI (txK T nn (txSk T nn p) lo hi) ∧ I_ x 7 = nI (txSk T nn p)))) nX 0 0 30 [(0, .ref x), (1, .int (nI lo)), (2, .int (nI hi))] [] Iz J := by
    intro t
    induction t
    · intro q v Iz _ _ _ _ _ _ _ h; omega
    rename_i t ih
    intro q v Iz hFz hq h4 h5 h6 hd hqn ht hv hv8 hde
    refine rc_p (p_aload_n 0 (dk_at ktX5_readNumber_0 16 rfl) rfl rfl (b := 31) rfl) ?_
    refine r_geti fl_X5_31 rfl hx.l0 hx.s0 (dk_at ktX5_readNumber_0 17 rfl) (v := (nI q)) hq (b := 34) rfl ?_
    refine rc_p (p_aload_n 0 (dk_at ktX5_readNumber_0 18 rfl) rfl rfl (b := 35) rfl) ?_
    refine r_geti fl_X5_24 rfl hx.l0 hx.s0 (dk_at ktX5_readNumber_0 19 rfl) (v := (nI nn)) ((hT.fr (show FQ x I Iz from (hFz.mo (by simp) (by simp)))).2.1) (b := 38) rfl ?_
    refine r_icmp_ge (dk_at ktX5_readNumber_0 20 rfl) (b := 111) (by decide) (b2 := 41) rfl (fun c38 => ?_) (fun c38 => ?_)
    · have c38 : nn ≤ q := (nI_leI (a := nn) (b := q) (by omega) (by omega)).mp c38
      refine rc_p (p_aload_n 0 (dk_at ktX5_readNumber_0 58 rfl) rfl rfl (b := 112) rfl) ?_
      refine r_geti fl_X5_75 rfl hx.l0 hx.s0 (dk_at ktX5_readNumber_0 59 rfl) (v := (nI v)) h4 (b := 115) rfl ?_
      refine rc_p (p_iload_n 1 (dk_at ktX5_readNumber_1 0 rfl) rfl rfl (b := 116) rfl) ?_
      refine r_icmp_lt (dk_at ktX5_readNumber_1 1 rfl) (b := 127) (by decide) (b2 := 119) rfl (fun c116 => ?_) (fun c116 => ?_)
      · have c116 : v < lo := (nI_ltI (a := v) (b := lo) (by omega) (by omega)).mp c116
        refine rc_p (p_aload_n 0 (dk_at ktX5_readNumber_1 6 rfl) rfl rfl (b := 128) rfl) ?_
        refine rc_p (p_iconst (v := 2) (dk_at ktX5_readNumber_1 7 rfl) (by decide) (b := 129) rfl) ?_
        refine rc_p (p_aload_n 0 (dk_at ktX5_readNumber_1 8 rfl) rfl rfl (b := 130) rfl) ?_
        refine r_geti fl_X5_72 rfl hx.l0 hx.s0 (dk_at ktX5_readNumber_1 9 rfl) (v := (nI (txSk T nn p))) h5 (b := 133) rfl ?_
        refine r_iV (As' := [.int 2, .int (nI (txSk T nn p))]) (rest := []) (s_X5_fail hx 2 (txSk T nn p)) cw_X5_56 qi_X5_fail qv_X5_fail rfl hx.l0 hx.s0 (dk_at ktX5_readNumber_1 10 rfl) rfl rfl (Nat.le_of_ble_eq_true rfl) (by decide) (b := 136) rfl (fun v4 I1 J2 q3 => ?_)
        obtain ⟨rfl, rfl, hF5, hh6, hh7⟩ := q3
        refine r_iret (dk_at ktX5_readNumber_1 11 rfl) rfl rfl ⟨_, rfl, ?_⟩
        have e8 : txD T q = false := (tx_no hT.1 (by omega)).2.2
        have hva : txVa T nn (txSk T nn p) = v := hv8.trans (vaF_n e8)
        have hk := txK_2 (n := nn) (lo := lo) (hi := hi) hd (by omega)
        rw [hk]
        exact ⟨rfl, rfl, ((hFz.mo (by simp) (by simp)).tr (hF5.mo (by simp) (by simp))), fun g => absurd g (by decide), fun _ => ⟨hh6, hh7⟩⟩
      · have c116 : ¬ v < lo := fun h => c116 ((nI_ltI (a := v) (b := lo) (by omega) (by omega)).mpr h)
        refine rc_p (p_aload_n 0 (dk_at ktX5_readNumber_1 2 rfl) rfl rfl (b := 120) rfl) ?_
        refine r_geti fl_X5_75 rfl hx.l0 hx.s0 (dk_at ktX5_readNumber_1 3 rfl) (v := (nI v)) h4 (b := 123) rfl ?_
        refine rc_p (p_iload_n 2 (dk_at ktX5_readNumber_1 4 rfl) rfl rfl (b := 124) rfl) ?_
        refine r_icmp_le (dk_at ktX5_readNumber_1 5 rfl) (b := 137) (by decide) (b2 := 127) rfl (fun c124 => ?_) (fun c124 => ?_)
        · have c124 : v ≤ hi := (nI_leI (a := v) (b := hi) (by omega) (by omega)).mp c124
          refine rc_p (p_iconst (v := 1) (dk_at ktX5_readNumber_1 12 rfl) (by decide) (b := 138) rfl) ?_
          refine r_iret (dk_at ktX5_readNumber_1 13 rfl) rfl rfl ⟨_, rfl, ?_⟩
          have e8 : txD T q = false := (tx_no hT.1 (by omega)).2.2
          have hva : txVa T nn (txSk T nn p) = v := hv8.trans (vaF_n e8)
          have hk := txK_0 (n := nn) (lo := lo) (hi := hi) hd (by omega)
          rw [hk]
          exact ⟨rfl, rfl, (hFz.mo (by simp) (by simp)), fun _ => ⟨h6, hq.trans (congrArg nI (hde.trans (scan_n e8)).symm), h4.trans (congrArg nI hva.symm), h5⟩, fun g => absurd rfl g⟩
        · have c124 : ¬ v ≤ hi := fun h => c124 ((nI_leI (a := v) (b := hi) (by omega) (by omega)).mpr h)
          refine rc_p (p_aload_n 0 (dk_at ktX5_readNumber_1 6 rfl) rfl rfl (b := 128) rfl) ?_
          refine rc_p (p_iconst (v := 2) (dk_at ktX5_readNumber_1 7 rfl) (by decide) (b := 129) rfl) ?_
          refine rc_p (p_aload_n 0 (dk_at ktX5_readNumber_1 8 rfl) rfl rfl (b := 130) rfl) ?_
          refine r_geti fl_X5_72 rfl hx.l0 hx.s0 (dk_at ktX5_readNumber_1 9 rfl) (v := (nI (txSk T nn p))) h5 (b := 133) rfl ?_
          refine r_iV (As' := [.int 2, .int (nI (txSk T nn p))]) (rest := []) (s_X5_fail hx 2 (txSk T nn p)) cw_X5_56 qi_X5_fail qv_X5_fail rfl hx.l0 hx.s0 (dk_at ktX5_readNumber_1 10 rfl) rfl rfl (Nat.le_of_ble_eq_true rfl) (by decide) (b := 136) rfl (fun v11 I8 J9 q10 => ?_)
          obtain ⟨rfl, rfl, hF12, hh13, hh14⟩ := q10
          refine r_iret (dk_at ktX5_readNumber_1 11 rfl) rfl rfl ⟨_, rfl, ?_⟩
          have e8 : txD T q = false := (tx_no hT.1 (by omega)).2.2
          have hva : txVa T nn (txSk T nn p) = v := hv8.trans (vaF_n e8)
          have hk := txK_2 (n := nn) (lo := lo) (hi := hi) hd (by omega)
          rw [hk]
          exact ⟨rfl, rfl, ((hFz.mo (by simp) (by simp)).tr (hF12.mo (by simp) (by simp))), fun g => absurd g (by decide), fun _ => ⟨hh13, hh14⟩⟩
    · have c38 : ¬ nn ≤ q := fun h => c38 ((nI_leI (a := nn) (b := q) (by omega) (by omega)).mpr h)
      refine rc_p (p_aload_n 0 (dk_at ktX5_readNumber_0 21 rfl) rfl rfl (b := 42) rfl) ?_
      refine r_geta fl_X5_11 rfl hx.l0 hx.s0 (dk_at ktX5_readNumber_0 22 rfl) hx.g0_0 (b := 45) rfl ?_
      refine rc_p (p_aload_n 0 (dk_at ktX5_readNumber_0 23 rfl) rfl rfl (b := 46) rfl) ?_
      refine r_geti fl_X5_31 rfl hx.l0 hx.s0 (dk_at ktX5_readNumber_0 24 rfl) (v := (nI q)) hq (b := 49) rfl ?_
      refine r_bald (j := q) (hx.lt 1 (by decide)) hx.s1 (dk_at ktX5_readNumber_0 25 rfl) rfl ⟨by omega, by decide⟩ (v := (sg (T q))) ((hT.fr (show FQ x I Iz from (hFz.mo (by simp) (by simp)))).2.2 q (by omega)) (b := 50) rfl ?_
      refine rc_p (p_bipush (v := 48) (dk_at ktX5_readNumber_0 26 rfl) (by decide) (b := 52) rfl) ?_
      refine r_icmp_lt (dk_at ktX5_readNumber_0 27 rfl) (b := 111) (by decide) (b2 := 55) rfl (fun c52 => ?_) (fun c52 => ?_)
      · skip
        refine rc_p (p_aload_n 0 (dk_at ktX5_readNumber_0 58 rfl) rfl rfl (b := 112) rfl) ?_
        refine r_geti fl_X5_75 rfl hx.l0 hx.s0 (dk_at ktX5_readNumber_0 59 rfl) (v := (nI v)) h4 (b := 115) rfl ?_
        refine rc_p (p_iload_n 1 (dk_at ktX5_readNumber_1 0 rfl) rfl rfl (b := 116) rfl) ?_
        refine r_icmp_lt (dk_at ktX5_readNumber_1 1 rfl) (b := 127) (by decide) (b2 := 119) rfl (fun c116 => ?_) (fun c116 => ?_)
        · have c116 : v < lo := (nI_ltI (a := v) (b := lo) (by omega) (by omega)).mp c116
          refine rc_p (p_aload_n 0 (dk_at ktX5_readNumber_1 6 rfl) rfl rfl (b := 128) rfl) ?_
          refine rc_p (p_iconst (v := 2) (dk_at ktX5_readNumber_1 7 rfl) (by decide) (b := 129) rfl) ?_
          refine rc_p (p_aload_n 0 (dk_at ktX5_readNumber_1 8 rfl) rfl rfl (b := 130) rfl) ?_
          refine r_geti fl_X5_72 rfl hx.l0 hx.s0 (dk_at ktX5_readNumber_1 9 rfl) (v := (nI (txSk T nn p))) h5 (b := 133) rfl ?_
          refine r_iV (As' := [.int 2, .int (nI (txSk T nn p))]) (rest := []) (s_X5_fail hx 2 (txSk T nn p)) cw_X5_56 qi_X5_fail qv_X5_fail rfl hx.l0 hx.s0 (dk_at ktX5_readNumber_1 10 rfl) rfl rfl (Nat.le_of_ble_eq_true rfl) (by decide) (b := 136) rfl (fun v18 I15 J16 q17 => ?_)
          obtain ⟨rfl, rfl, hF19, hh20, hh21⟩ := q17
          refine r_iret (dk_at ktX5_readNumber_1 11 rfl) rfl rfl ⟨_, rfl, ?_⟩
          have e8 : txD T q = false := decide_eq_false (sg_nd (h256 q) (Or.inl c52))
          have hva : txVa T nn (txSk T nn p) = v := hv8.trans (vaF_n e8)
          have hk := txK_2 (n := nn) (lo := lo) (hi := hi) hd (by omega)
          rw [hk]
          exact ⟨rfl, rfl, ((hFz.mo (by simp) (by simp)).tr (hF19.mo (by simp) (by simp))), fun g => absurd g (by decide), fun _ => ⟨hh20, hh21⟩⟩
        · have c116 : ¬ v < lo := fun h => c116 ((nI_ltI (a := v) (b := lo) (by omega) (by omega)).mpr h)
          refine rc_p (p_aload_n 0 (dk_at ktX5_readNumber_1 2 rfl) rfl rfl (b := 120) rfl) ?_
          refine r_geti fl_X5_75 rfl hx.l0 hx.s0 (dk_at ktX5_readNumber_1 3 rfl) (v := (nI v)) h4 (b := 123) rfl ?_
          refine rc_p (p_iload_n 2 (dk_at ktX5_readNumber_1 4 rfl) rfl rfl (b := 124) rfl) ?_
          refine r_icmp_le (dk_at ktX5_readNumber_1 5 rfl) (b := 137) (by decide) (b2 := 127) rfl (fun c124 => ?_) (fun c124 => ?_)
          · have c124 : v ≤ hi := (nI_leI (a := v) (b := hi) (by omega) (by omega)).mp c124
            refine rc_p (p_iconst (v := 1) (dk_at ktX5_readNumber_1 12 rfl) (by decide) (b := 138) rfl) ?_
            refine r_iret (dk_at ktX5_readNumber_1 13 rfl) rfl rfl ⟨_, rfl, ?_⟩
            have e8 : txD T q = false := decide_eq_false (sg_nd (h256 q) (Or.inl c52))
            have hva : txVa T nn (txSk T nn p) = v := hv8.trans (vaF_n e8)
            have hk := txK_0 (n := nn) (lo := lo) (hi := hi) hd (by omega)
            rw [hk]
            exact ⟨rfl, rfl, (hFz.mo (by simp) (by simp)), fun _ => ⟨h6, hq.trans (congrArg nI (hde.trans (scan_n e8)).symm), h4.trans (congrArg nI hva.symm), h5⟩, fun g => absurd rfl g⟩
          · have c124 : ¬ v ≤ hi := fun h => c124 ((nI_leI (a := v) (b := hi) (by omega) (by omega)).mpr h)
            refine rc_p (p_aload_n 0 (dk_at ktX5_readNumber_1 6 rfl) rfl rfl (b := 128) rfl) ?_
            refine rc_p (p_iconst (v := 2) (dk_at ktX5_readNumber_1 7 rfl) (by decide) (b := 129) rfl) ?_
            refine rc_p (p_aload_n 0 (dk_at ktX5_readNumber_1 8 rfl) rfl rfl (b := 130) rfl) ?_
            refine r_geti fl_X5_72 rfl hx.l0 hx.s0 (dk_at ktX5_readNumber_1 9 rfl) (v := (nI (txSk T nn p))) h5 (b := 133) rfl ?_
            refine r_iV (As' := [.int 2, .int (nI (txSk T nn p))]) (rest := []) (s_X5_fail hx 2 (txSk T nn p)) cw_X5_56 qi_X5_fail qv_X5_fail rfl hx.l0 hx.s0 (dk_at ktX5_readNumber_1 10 rfl) rfl rfl (Nat.le_of_ble_eq_true rfl) (by decide) (b := 136) rfl (fun v25 I22 J23 q24 => ?_)
            obtain ⟨rfl, rfl, hF26, hh27, hh28⟩ := q24
            refine r_iret (dk_at ktX5_readNumber_1 11 rfl) rfl rfl ⟨_, rfl, ?_⟩
            have e8 : txD T q = false := decide_eq_false (sg_nd (h256 q) (Or.inl c52))
            have hva : txVa T nn (txSk T nn p) = v := hv8.trans (vaF_n e8)
            have hk := txK_2 (n := nn) (lo := lo) (hi := hi) hd (by omega)
            rw [hk]
            exact ⟨rfl, rfl, ((hFz.mo (by simp) (by simp)).tr (hF26.mo (by simp) (by simp))), fun g => absurd g (by decide), fun _ => ⟨hh27, hh28⟩⟩
      · skip
        refine rc_p (p_aload_n 0 (dk_at ktX5_readNumber_0 28 rfl) rfl rfl (b := 56) rfl) ?_
        refine r_geta fl_X5_11 rfl hx.l0 hx.s0 (dk_at ktX5_readNumber_0 29 rfl) hx.g0_0 (b := 59) rfl ?_
        refine rc_p (p_aload_n 0 (dk_at ktX5_readNumber_0 30 rfl) rfl rfl (b := 60) rfl) ?_
        refine r_geti fl_X5_31 rfl hx.l0 hx.s0 (dk_at ktX5_readNumber_0 31 rfl) (v := (nI q)) hq (b := 63) rfl ?_
        refine r_bald (j := q) (hx.lt 1 (by decide)) hx.s1 (dk_at ktX5_readNumber_0 32 rfl) rfl ⟨by omega, by decide⟩ (v := (sg (T q))) ((hT.fr (show FQ x I Iz from (hFz.mo (by simp) (by simp)))).2.2 q (by omega)) (b := 64) rfl ?_
        refine rc_p (p_bipush (v := 57) (dk_at ktX5_readNumber_0 33 rfl) (by decide) (b := 66) rfl) ?_
        refine r_icmp_gt (dk_at ktX5_readNumber_0 34 rfl) (b := 111) (by decide) (b2 := 69) rfl (fun c66 => ?_) (fun c66 => ?_)
        · skip
          refine rc_p (p_aload_n 0 (dk_at ktX5_readNumber_0 58 rfl) rfl rfl (b := 112) rfl) ?_
          refine r_geti fl_X5_75 rfl hx.l0 hx.s0 (dk_at ktX5_readNumber_0 59 rfl) (v := (nI v)) h4 (b := 115) rfl ?_
          refine rc_p (p_iload_n 1 (dk_at ktX5_readNumber_1 0 rfl) rfl rfl (b := 116) rfl) ?_
          refine r_icmp_lt (dk_at ktX5_readNumber_1 1 rfl) (b := 127) (by decide) (b2 := 119) rfl (fun c116 => ?_) (fun c116 => ?_)
          · have c116 : v < lo := (nI_ltI (a := v) (b := lo) (by omega) (by omega)).mp c116
            refine rc_p (p_aload_n 0 (dk_at ktX5_readNumber_1 6 rfl) rfl rfl (b := 128) rfl) ?_
            refine rc_p (p_iconst (v := 2) (dk_at ktX5_readNumber_1 7 rfl) (by decide) (b := 129) rfl) ?_
            refine rc_p (p_aload_n 0 (dk_at ktX5_readNumber_1 8 rfl) rfl rfl (b := 130) rfl) ?_
            refine r_geti fl_X5_72 rfl hx.l0 hx.s0 (dk_at ktX5_readNumber_1 9 rfl) (v := (nI (txSk T nn p))) h5 (b := 133) rfl ?_
            refine r_iV (As' := [.int 2, .int (nI (txSk T nn p))]) (rest := []) (s_X5_fail hx 2 (txSk T nn p)) cw_X5_56 qi_X5_fail qv_X5_fail rfl hx.l0 hx.s0 (dk_at ktX5_readNumber_1 10 rfl) rfl rfl (Nat.le_of_ble_eq_true rfl) (by decide) (b := 136) rfl (fun v32 I29 J30 q31 => ?_)
            obtain ⟨rfl, rfl, hF33, hh34, hh35⟩ := q31
            refine r_iret (dk_at ktX5_readNumber_1 11 rfl) rfl rfl ⟨_, rfl, ?_⟩
            have e8 : txD T q = false := decide_eq_false (sg_nd (h256 q) (Or.inr c66))
            have hva : txVa T nn (txSk T nn p) = v := hv8.trans (vaF_n e8)
            have hk := txK_2 (n := nn) (lo := lo) (hi := hi) hd (by omega)
            rw [hk]
            exact ⟨rfl, rfl, ((hFz.mo (by simp) (by simp)).tr (hF33.mo (by simp) (by simp))), fun g => absurd g (by decide), fun _ => ⟨hh34, hh35⟩⟩
          · have c116 : ¬ v < lo := fun h => c116 ((nI_ltI (a := v) (b := lo) (by omega) (by omega)).mpr h)
            refine rc_p (p_aload_n 0 (dk_at ktX5_readNumber_1 2 rfl) rfl rfl (b := 120) rfl) ?_
            refine r_geti fl_X5_75 rfl hx.l0 hx.s0 (dk_at ktX5_readNumber_1 3 rfl) (v := (nI v)) h4 (b := 123) rfl ?_
            refine rc_p (p_iload_n 2 (dk_at ktX5_readNumber_1 4 rfl) rfl rfl (b := 124) rfl) ?_
            refine r_icmp_le (dk_at ktX5_readNumber_1 5 rfl) (b := 137) (by decide) (b2 := 127) rfl (fun c124 => ?_) (fun c124 => ?_)
            · have c124 : v ≤ hi := (nI_leI (a := v) (b := hi) (by omega) (by omega)).mp c124
              refine rc_p (p_iconst (v := 1) (dk_at ktX5_readNumber_1 12 rfl) (by decide) (b := 138) rfl) ?_
              refine r_iret (dk_at ktX5_readNumber_1 13 rfl) rfl rfl ⟨_, rfl, ?_⟩
              have e8 : txD T q = false := decide_eq_false (sg_nd (h256 q) (Or.inr c66))
              have hva : txVa T nn (txSk T nn p) = v := hv8.trans (vaF_n e8)
              have hk := txK_0 (n := nn) (lo := lo) (hi := hi) hd (by omega)
              rw [hk]
              exact ⟨rfl, rfl, (hFz.mo (by simp) (by simp)), fun _ => ⟨h6, hq.trans (congrArg nI (hde.trans (scan_n e8)).symm), h4.trans (congrArg nI hva.symm), h5⟩, fun g => absurd rfl g⟩
            · have c124 : ¬ v ≤ hi := fun h => c124 ((nI_leI (a := v) (b := hi) (by omega) (by omega)).mpr h)
              refine rc_p (p_aload_n 0 (dk_at ktX5_readNumber_1 6 rfl) rfl rfl (b := 128) rfl) ?_
              refine rc_p (p_iconst (v := 2) (dk_at ktX5_readNumber_1 7 rfl) (by decide) (b := 129) rfl) ?_
              refine rc_p (p_aload_n 0 (dk_at ktX5_readNumber_1 8 rfl) rfl rfl (b := 130) rfl) ?_
              refine r_geti fl_X5_72 rfl hx.l0 hx.s0 (dk_at ktX5_readNumber_1 9 rfl) (v := (nI (txSk T nn p))) h5 (b := 133) rfl ?_
              refine r_iV (As' := [.int 2, .int (nI (txSk T nn p))]) (rest := []) (s_X5_fail hx 2 (txSk T nn p)) cw_X5_56 qi_X5_fail qv_X5_fail rfl hx.l0 hx.s0 (dk_at ktX5_readNumber_1 10 rfl) rfl rfl (Nat.le_of_ble_eq_true rfl) (by decide) (b := 136) rfl (fun v39 I36 J37 q38 => ?_)
              obtain ⟨rfl, rfl, hF40, hh41, hh42⟩ := q38
              refine r_iret (dk_at ktX5_readNumber_1 11 rfl) rfl rfl ⟨_, rfl, ?_⟩
              have e8 : txD T q = false := decide_eq_false (sg_nd (h256 q) (Or.inr c66))
              have hva : txVa T nn (txSk T nn p) = v := hv8.trans (vaF_n e8)
              have hk := txK_2 (n := nn) (lo := lo) (hi := hi) hd (by omega)
              rw [hk]
              exact ⟨rfl, rfl, ((hFz.mo (by simp) (by simp)).tr (hF40.mo (by simp) (by simp))), fun g => absurd g (by decide), fun _ => ⟨hh41, hh42⟩⟩
        · skip
          have hd2 := sg_d (h256 q) c52 c66
          refine rc_p (p_aload_n 0 (dk_at ktX5_readNumber_0 35 rfl) rfl rfl (b := 70) rfl) ?_
          refine rc_p (p_ldc (v := 1000000) qk_TwinBoot_Text_78 (dk_at ktX5_readNumber_0 36 rfl) (b := 72) rfl) ?_
          refine rc_p (p_bipush (v := 10) (dk_at ktX5_readNumber_0 37 rfl) (by decide) (b := 74) rfl) ?_
          refine rc_p (p_aload_n 0 (dk_at ktX5_readNumber_0 38 rfl) rfl rfl (b := 75) rfl) ?_
          refine r_geti fl_X5_75 rfl hx.l0 hx.s0 (dk_at ktX5_readNumber_0 39 rfl) (v := (nI v)) h4 (b := 78) rfl ?_
          refine rc_p (p_imul (v := (nI (10 * v))) (dk_at ktX5_readNumber_0 40 rfl) (pk_mul 10 v) (b := 79) rfl) ?_
          refine rc_p (p_aload_n 0 (dk_at ktX5_readNumber_0 41 rfl) rfl rfl (b := 80) rfl) ?_
          refine r_geta fl_X5_11 rfl hx.l0 hx.s0 (dk_at ktX5_readNumber_0 42 rfl) hx.g0_0 (b := 83) rfl ?_
          refine rc_p (p_aload_n 0 (dk_at ktX5_readNumber_0 43 rfl) rfl rfl (b := 84) rfl) ?_
          refine r_geti fl_X5_31 rfl hx.l0 hx.s0 (dk_at ktX5_readNumber_0 44 rfl) (v := (nI q)) hq (b := 87) rfl ?_
          refine r_bald (j := q) (hx.lt 1 (by decide)) hx.s1 (dk_at ktX5_readNumber_0 45 rfl) rfl ⟨by omega, by decide⟩ (v := (nI (T q))) (((hT.fr (show FQ x I Iz from (hFz.mo (by simp) (by simp)))).2.2 q (by omega)).trans ((sg_all _ (h256 q)).2.2.2.2.2.2 (by have := sg_d (h256 q) c52 c66; omega))) (b := 88) rfl ?_
          refine rc_p (p_iadd (v := (nI (10 * v + (T q)))) (dk_at ktX5_readNumber_0 46 rfl) (nI_add (10 * v) (T q)) (b := 89) rfl) ?_
          refine rc_p (p_bipush (v := 48) (dk_at ktX5_readNumber_0 47 rfl) (by decide) (b := 91) rfl) ?_
          refine rc_p (p_isub (v := (nI (10 * v + (T q - 48)))) (dk_at ktX5_readNumber_0 48 rfl) (dig_sub hd2.1) (b := 92) rfl) ?_
          refine r_mmin (v := (if (nI (10 * v + (T q - 48))) < 1000000 then (nI (10 * v + (T q - 48))) else 1000000)) qm_X5_79 qmin_s qmath_n qmin_c (dk_at ktX5_readNumber_0 49 rfl) ⟨by decide, Nat.le_of_ble_eq_true rfl⟩ rfl (b := 95) rfl ?_
          refine r_val (y := nI (min 1000000 (10 * v + (T q - 48)))) (min_nI (a := 1000000) (b := 10 * v + (T q - 48)) (by decide) (by omega)) ?_
          refine r_puti fl_X5_75 fw_X5_4 rfl hx.l0 hx.s0 rfl rfl (dk_at ktX5_readNumber_0 50 rfl) (b := 98) rfl ?_
          refine rc_p (p_aload_n 0 (dk_at ktX5_readNumber_0 51 rfl) rfl rfl (b := 99) rfl) ?_
          refine rc_p (p_dup (dk_at ktX5_readNumber_0 52 rfl) rfl (b := 100) rfl) ?_
          refine r_geti fl_X5_31 rfl hx.l0 hx.s0 (dk_at ktX5_readNumber_0 53 rfl) (v := (nI q)) ((up2_n (by omega)).trans hq) (b := 103) rfl ?_
          refine rc_p (p_iconst (v := 1) (dk_at ktX5_readNumber_0 54 rfl) (by decide) (b := 104) rfl) ?_
          refine rc_p (p_iadd (v := (nI (q + 1))) (dk_at ktX5_readNumber_0 55 rfl) (nI_add q 1) (b := 105) rfl) ?_
          refine r_puti fl_X5_31 fw_X5_3 rfl hx.l0 hx.s0 rfl rfl (dk_at ktX5_readNumber_0 56 rfl) (b := 108) rfl ?_
          refine rc_p (p_goto (b := 30) (dk_at ktX5_readNumber_0 57 rfl) (by decide)) ?_
          have e8 : txD T q = true := decide_eq_true (sg_d (h256 q) c52 c66)
          exact ih (q + 1) _ _ (((hFz.mo (by simp) (by simp)).uf (by simp)).uf (by simp)) up2_s ((up2_n (by omega)).trans up2_s) ((up2_n (by omega)).trans ((up2_n (by omega)).trans h5)) ((up2_n (by omega)).trans ((up2_n (by omega)).trans h6)) hd (by omega) (by omega) (Nat.min_le_left _ _) (hv8.trans (vaF_y (by omega) e8)) (hde.trans (scan_y (by omega) e8))
  have hn := hT.1.1
  have hsk := txSk_le (T := T) hpn
  have h256 := tx_256 hT.1
  refine rc_p (p_aload_n 0 (dk_at ktX5_readNumber_0 0 rfl) rfl rfl (b := 1) rfl) ?_
  refine r_iV (As' := []) (rest := []) (s_X5_isAtDigit hx hT p hp (by omega)) cw_X5_69 qi_X5_isAtDigit qv_X5_isAtDigit rfl hx.l0 hx.s0 (dk_at ktX5_readNumber_0 1 rfl) rfl rfl (Nat.le_of_ble_eq_true rfl) (by decide) (b := 4) rfl (fun v46 I43 J44 q45 => ?_)
  obtain ⟨rfl, rfl, hF47, hh48⟩ := q45
  refine r_if_ne (dk_at ktX5_readNumber_0 2 rfl) (b := 17) (by decide) (b2 := 7) rfl (fun c4 => ?_) (fun c4 => ?_)
  · have c4 := bi_t c4
    refine rc_p (p_aload_n 0 (dk_at ktX5_readNumber_0 9 rfl) rfl rfl (b := 18) rfl) ?_
    refine rc_p (p_aload_n 0 (dk_at ktX5_readNumber_0 10 rfl) rfl rfl (b := 19) rfl) ?_
    refine r_geti fl_X5_31 rfl hx.l0 hx.s0 (dk_at ktX5_readNumber_0 11 rfl) (v := (nI (txSk T nn p))) hh48 (b := 22) rfl ?_
    refine r_puti fl_X5_72 fw_X5_5 rfl hx.l0 hx.s0 rfl rfl (dk_at ktX5_readNumber_0 12 rfl) (b := 25) rfl ?_
    refine rc_p (p_aload_n 0 (dk_at ktX5_readNumber_0 13 rfl) rfl rfl (b := 26) rfl) ?_
    refine rc_p (p_iconst (v := 0) (dk_at ktX5_readNumber_0 14 rfl) (by decide) (b := 27) rfl) ?_
    refine r_puti fl_X5_75 fw_X5_4 rfl hx.l0 hx.s0 rfl rfl (dk_at ktX5_readNumber_0 15 rfl) (b := 30) rfl ?_
    exact cut30 1000 (txSk T nn p) 0 (up2 (up2 I43 x 5 (nI (txSk T nn p))) x 4 0) (((FF.rf.tr (hF47.mo (by simp) (by simp))).uf (by simp)).uf (by simp)) ((up2_n (by omega)).trans ((up2_n (by omega)).trans hh48)) up2_s ((up2_n (by omega)).trans up2_s) ((up2_n (by omega)).trans ((up2_n (by omega)).trans (hF47.2 6 (by decide)))) c4 (by omega) (by omega) (by omega) rfl rfl
  · have c4 := bi_f c4
    refine rc_p (p_aload_n 0 (dk_at ktX5_readNumber_0 3 rfl) rfl rfl (b := 8) rfl) ?_
    refine rc_p (p_iconst (v := 1) (dk_at ktX5_readNumber_0 4 rfl) (by decide) (b := 9) rfl) ?_
    refine rc_p (p_aload_n 0 (dk_at ktX5_readNumber_0 5 rfl) rfl rfl (b := 10) rfl) ?_
    refine r_geti fl_X5_31 rfl hx.l0 hx.s0 (dk_at ktX5_readNumber_0 6 rfl) (v := (nI (txSk T nn p))) hh48 (b := 13) rfl ?_
    refine r_iV (As' := [.int 1, .int (nI (txSk T nn p))]) (rest := []) (s_X5_fail hx 1 (txSk T nn p)) cw_X5_56 qi_X5_fail qv_X5_fail rfl hx.l0 hx.s0 (dk_at ktX5_readNumber_0 7 rfl) rfl rfl (Nat.le_of_ble_eq_true rfl) (by decide) (b := 16) rfl (fun v52 I49 J50 q51 => ?_)
    obtain ⟨rfl, rfl, hF53, hh54, hh55⟩ := q51
    refine r_iret (dk_at ktX5_readNumber_0 8 rfl) rfl rfl ⟨_, rfl, ?_⟩
    have hk := txK_1 (n := nn) (lo := lo) (hi := hi) c4
    rw [hk]
    exact ⟨rfl, rfl, ((FF.rf.tr (hF47.mo (by simp) (by simp))).tr (hF53.mo (by simp) (by simp))), fun g => absurd g (by decide), fun _ => ⟨hh54, hh55⟩⟩

/-! THE CLASS: rows of the JDK, the log, flash -/
set_option maxRecDepth 4000 in
set_option maxHeartbeats 4000000 in
theorem s_J7_fill_53178 {n : Nat} {sh : mS} {G : mG} {I : mI} {J : mJ} {ar len : Nat} (ha : ArG n sh ar len) (hl : len < 1000000) (v : Int32) : Sp yJ7_fill_53178 cJ7_fill_53178 4 none 1 48 0 0 [.ref ar, .int v] n sh G I J (Qv (fun I_ J_ => J = J_ ∧ fl1 I ar 0 len v = I_)) nX := by
  refine Sp.of (by decide) (ls := [(0, .ref ar), (1, .int v)]) (fun _ => rfl) (fun _ => Nat.le_of_ble_eq_true rfl) ?_
  have cut5 : ∀ (t k : Nat) (Iz : mI), len - k < t → k ≤ len → fl1 I ar 0 k v = Iz → Rc RJ7 cJ7_fill_53178 4 none 1 48 0 0 n sh G (Qv (fun I_ J_ => J = J_ ∧ fl1 I ar 0 len v = I_)) nX 0 0 5 [(2, .int (nI k)), (3, .int (nI len)), (0, .ref ar), (1, .int v)] [] Iz J := by
    intro t
    induction t
    · intro k Iz h; omega
    rename_i t ih
    intro k Iz ht h1 hz
    refine rc_p (p_iload_n 0 (dk_at ktJ7_fill_53178_0 5 rfl) rfl rfl (b := 6) rfl) ?_
    refine rc_p (p_iload_n 1 (dk_at ktJ7_fill_53178_0 6 rfl) rfl rfl (b := 7) rfl) ?_
    refine r_icmp_ge (dk_at ktJ7_fill_53178_0 7 rfl) (b := 20) (by decide) (b2 := 10) rfl (fun c7 => ?_) (fun c7 => ?_)
    · have c7 : len ≤ k := (nI_leI (a := len) (b := k) (by omega) (by omega)).mp c7
      refine r_vret (dk_at ktJ7_fill_53178_0 14 rfl) rfl ⟨rfl, ?_⟩
      have hk : k = len := by omega
      subst hk
      exact ⟨rfl, hz⟩
    · have c7 : ¬ len ≤ k := fun h => c7 ((nI_leI (a := len) (b := k) (by omega) (by omega)).mpr h)
      refine rc_p (p_aload_n 2 (dk_at ktJ7_fill_53178_0 8 rfl) rfl rfl (b := 11) rfl) ?_
      refine rc_p (p_iload_n 0 (dk_at ktJ7_fill_53178_0 9 rfl) rfl rfl (b := 12) rfl) ?_
      refine rc_p (p_iload_n 3 (dk_at ktJ7_fill_53178_0 10 rfl) rfl rfl (b := 13) rfl) ?_
      refine r_iast (j := k) ha.l0 ha.s0 (dk_at ktJ7_fill_53178_0 11 rfl) rfl ⟨by omega, by omega⟩ (b := 14) rfl ?_
      refine rc_p (p_iinc (j := 0) (v := (nI (k + 1))) (ls' := [(2, .int (nI (k + 1))), (3, .int (nI len)), (0, .ref ar), (1, .int v)]) (dk_at ktJ7_fill_53178_0 12 rfl) rfl (nI_add k 1) (by decide) rfl (b := 17) rfl) ?_
      refine rc_p (p_goto (b := 5) (dk_at ktJ7_fill_53178_0 13 rfl) (by decide)) ?_
      exact ih (k + 1) _ (by omega) (by omega) (by rw [← hz, ← fl1_s, Nat.zero_add])
  refine rc_p (p_iconst (v := 0) (dk_at ktJ7_fill_53178_0 0 rfl) (by decide) (b := 1) rfl) ?_
  refine rc_p (p_istore_n (ls' := [(2, .int 0), (0, .ref ar), (1, .int v)]) (dk_at ktJ7_fill_53178_0 1 rfl) rfl (by decide) rfl (b := 2) rfl) ?_
  refine rc_p (p_aload_n 1 (dk_at ktJ7_fill_53178_0 2 rfl) rfl rfl (b := 3) rfl) ?_
  refine r_alenI (len := len) ha.l0 ha.s0 (dk_at ktJ7_fill_53178_0 3 rfl) (b := 4) rfl ?_
  refine rc_p (p_istore_n (ls' := [(3, .int (nI len)), (2, .int 0), (0, .ref ar), (1, .int v)]) (dk_at ktJ7_fill_53178_0 4 rfl) rfl (by decide) rfl (b := 5) rfl) ?_
  refine rc_sub [1, 0, 2, 3] (ls' := [(2, .int 0), (3, .int (nI len)), (0, .ref ar), (1, .int v)]) rfl ?_
  exact cut5 1000000 0 I (by omega) (Nat.zero_le _) (fl1_0 _ _ _ _)
set_option maxRecDepth 4000 in
set_option maxHeartbeats 4000000 in
theorem s_J7_rangeCheck_23922 {n : Nat} {sh : mS} {G : mG} {I : mI} {J : mJ} (l f t : Nat) (h1 : f ≤ t) (h2 : t ≤ l) (h3 : l < 1000000) : Sp yJ7_rangeCheck_23922 cJ7_rangeCheck_23922 3 none 1 48 0 0 [.int (nI l), .int (nI f), .int (nI t)] n sh G I J (Qv (fun I_ J_ => I = I_ ∧ J = J_)) nX := by
  refine Sp.of (by decide) (ls := [(0, .int (nI l)), (1, .int (nI f)), (2, .int (nI t))]) (fun _ => rfl) (fun _ => Nat.le_of_ble_eq_true rfl) ?_
  refine rc_p (p_iload_n 1 (dk_at ktJ7_rangeCheck_23922_0 0 rfl) rfl rfl (b := 1) rfl) ?_
  refine rc_p (p_iload_n 2 (dk_at ktJ7_rangeCheck_23922_0 1 rfl) rfl rfl (b := 2) rfl) ?_
  refine r_icmp_le (dk_at ktJ7_rangeCheck_23922_0 2 rfl) (b := 46) (by decide) (b2 := 5) rfl (fun c2 => ?_) (fun c2 => ?_)
  · have c2 : f ≤ t := (nI_leI (a := f) (b := t) (by omega) (by omega)).mp c2
    refine rc_p (p_iload_n 1 (dk_at ktJ7_rangeCheck_23922_0 21 rfl) rfl rfl (b := 47) rfl) ?_
    refine r_if_ge (dk_at ktJ7_rangeCheck_23922_0 22 rfl) (b := 59) (by decide) (b2 := 50) rfl (fun c47 => ?_) (fun c47 => ?_)
    · have c47 : 0 ≤ f := (nI_leI (a := 0) (b := f) (by omega) (by omega)).mp c47
      refine rc_p (p_iload_n 2 (dk_at ktJ7_rangeCheck_23922_0 28 rfl) rfl rfl (b := 60) rfl) ?_
      refine rc_p (p_iload_n 0 (dk_at ktJ7_rangeCheck_23922_0 29 rfl) rfl rfl (b := 61) rfl) ?_
      refine r_icmp_le (dk_at ktJ7_rangeCheck_23922_0 30 rfl) (b := 73) (by decide) (b2 := 64) rfl (fun c61 => ?_) (fun c61 => ?_)
      · have c61 : t ≤ l := (nI_leI (a := t) (b := l) (by omega) (by omega)).mp c61
        refine r_vret (dk_at ktJ7_rangeCheck_23922_0 36 rfl) rfl ⟨rfl, ?_⟩
        exact ⟨rfl, rfl⟩
      · have c61 : ¬ t ≤ l := fun h => c61 ((nI_leI (a := t) (b := l) (by omega) (by omega)).mpr h)
        omega
    · have c47 : ¬ 0 ≤ f := fun h => c47 ((nI_leI (a := 0) (b := f) (by omega) (by omega)).mpr h)
      omega
  · have c2 : ¬ f ≤ t := fun h => c2 ((nI_leI (a := f) (b := t) (by omega) (by omega)).mpr h)
    omega
set_option maxRecDepth 4000 in
set_option maxHeartbeats 4000000 in
theorem s_J7_fill_fda19 {n : Nat} {sh : mS} {G : mG} {I : mI} {J : mJ} {ar len : Nat} (ha : ArG n sh ar len) (hl : len < 1000000) (f e : Nat) (h1 : f ≤ e) (h2 : e ≤ len) (v : Int32) : Sp yJ7_fill_fda19 cJ7_fill_fda19 5 none 2 96 0 0 [.ref ar, .int (nI f), .int (nI e), .int v] n sh G I J (Qv (fun I_ J_ => J = J_ ∧ fl1 I ar f (e - f) v = I_)) nX := by
  refine Sp.of (by decide) (ls := [(0, .ref ar), (1, .int (nI f)), (2, .int (nI e)), (3, .int v)]) (fun _ => rfl) (fun _ => Nat.le_of_ble_eq_true rfl) ?_
  have cut10 : ∀ (t k : Nat) (Iz : mI), e - (f + k) < t → f + k ≤ e → fl1 I ar f k v = Iz → Rc RJ7 cJ7_fill_fda19 5 none 2 96 0 0 n sh G (Qv (fun I_ J_ => J = J_ ∧ fl1 I ar f (e - f) v = I_)) nX 0 0 10 [(4, .int (nI (f + k))), (0, .ref ar), (1, .int (nI f)), (2, .int (nI e)), (3, .int v)] [] Iz J := by
    intro t
    induction t
    · intro k Iz h; omega
    rename_i t ih
    intro k Iz ht h3 hz
    refine rc_p (p_iload 0 (dk_at ktJ7_fill_fda19_0 7 rfl) rfl (b := 12) rfl) ?_
    refine rc_p (p_iload_n 3 (dk_at ktJ7_fill_fda19_0 8 rfl) rfl rfl (b := 13) rfl) ?_
    refine r_icmp_ge (dk_at ktJ7_fill_fda19_0 9 rfl) (b := 27) (by decide) (b2 := 16) rfl (fun c13 => ?_) (fun c13 => ?_)
    · have c13 : e ≤ (f + k) := (nI_leI (a := e) (b := f + k) (by omega) (by omega)).mp c13
      refine r_vret (dk_at ktJ7_fill_fda19_0 16 rfl) rfl ⟨rfl, ?_⟩
      have hk : e - f = k := by omega
      rw [hk]
      exact ⟨rfl, hz⟩
    · have c13 : ¬ e ≤ (f + k) := fun h => c13 ((nI_leI (a := e) (b := f + k) (by omega) (by omega)).mpr h)
      refine rc_p (p_aload_n 1 (dk_at ktJ7_fill_fda19_0 10 rfl) rfl rfl (b := 17) rfl) ?_
      refine rc_p (p_iload 0 (dk_at ktJ7_fill_fda19_0 11 rfl) rfl (b := 19) rfl) ?_
      refine rc_p (p_iload_n 4 (dk_at ktJ7_fill_fda19_0 12 rfl) rfl rfl (b := 20) rfl) ?_
      refine r_iast (j := f + k) ha.l0 ha.s0 (dk_at ktJ7_fill_fda19_0 13 rfl) rfl ⟨by omega, by omega⟩ (b := 21) rfl ?_
      refine rc_p (p_iinc (j := 0) (v := (nI (f + k + 1))) (ls' := [(4, .int (nI (f + k + 1))), (0, .ref ar), (1, .int (nI f)), (2, .int (nI e)), (3, .int v)]) (dk_at ktJ7_fill_fda19_0 14 rfl) rfl (nI_add (f + k) 1) (by decide) rfl (b := 24) rfl) ?_
      refine rc_p (p_goto (b := 10) (dk_at ktJ7_fill_fda19_0 15 rfl) (by decide)) ?_
      exact ih (k + 1) _ (by omega) (by omega) (by rw [← hz, ← fl1_s])
  refine rc_p (p_aload_n 0 (dk_at ktJ7_fill_fda19_0 0 rfl) rfl rfl (b := 1) rfl) ?_
  refine r_alenI (len := len) ha.l0 ha.s0 (dk_at ktJ7_fill_fda19_0 1 rfl) (b := 2) rfl ?_
  refine rc_p (p_iload_n 1 (dk_at ktJ7_fill_fda19_0 2 rfl) rfl rfl (b := 3) rfl) ?_
  refine rc_p (p_iload_n 2 (dk_at ktJ7_fill_fda19_0 3 rfl) rfl rfl (b := 4) rfl) ?_
  refine r_vS (As := [.int (nI len), .int (nI f), .int (nI e)]) (rest := []) (s_J7_rangeCheck_23922 len f e (by omega) (by omega) (by omega)) cw_J7_13 qs_J7_rangeCheck_23922 (dk_at ktJ7_fill_fda19_0 4 rfl) rfl rfl (Nat.le_of_ble_eq_true rfl) (by decide) (b := 7) rfl (fun I1 J2 q3 => ?_)
  obtain ⟨rfl, rfl⟩ := q3
  refine rc_p (p_iload_n 1 (dk_at ktJ7_fill_fda19_0 5 rfl) rfl rfl (b := 8) rfl) ?_
  refine rc_p (p_istore (ls' := [(4, .int (nI f)), (0, .ref ar), (1, .int (nI f)), (2, .int (nI e)), (3, .int v)]) (dk_at ktJ7_fill_fda19_0 6 rfl) (by decide) rfl (b := 10) rfl) ?_
  exact cut10 1000000 0 I (by omega) (by omega) (fl1_0 _ _ _ _)
set_option maxRecDepth 4000 in
set_option maxHeartbeats 4000000 in
theorem s_X3_note {n : Nat} {sh : mS} {G : mG} {I : mI} {J : mJ} {d : Nat} {σ : sT} {T N : Nat} (hd : DevG n sh G d) (hR : RelD d I σ T N) (hI : Inv σ) (hT : T + 1 < 1000000) (e : Nat) (he : e < 8) (x : Int32) : Sp yX3_note cX3_note 5 none 1 48 0 0 [.ref (d + 11), .int (nI e), .int x, .int (σ 9)] n sh G I J (Qv (fun I_ J_ => J = J_ ∧ RelD d I_ (sNote σ e x) (T + 1) N ∧ FD d [11, 12, 13, 14, 15] I I_)) nX := by
  refine Sp.of (by decide) (ls := [(0, .ref (d + 11)), (1, .int (nI e)), (2, .int x), (3, .int (σ 9))]) (fun _ => rfl) (fun _ => Nat.le_of_ble_eq_true rfl) ?_
  have hT2 := hR.2.2.2.2.2
  refine rc_p (p_aload_n 0 (dk_at ktX3_note_0 0 rfl) rfl rfl (b := 1) rfl) ?_
  refine r_geti fl_X3_24 rfl (hd.lt 11 (by decide)) hd.s11 (dk_at ktX3_note_0 1 rfl) (v := (nI T)) hR.2.2.1.1 (b := 4) rfl ?_
  refine rc_p (p_bipush (v := 40) (dk_at ktX3_note_0 2 rfl) (by decide) (b := 6) rfl) ?_
  refine rc_p (p_irem (v := (nI (T % 40))) (dk_at ktX3_note_0 3 rfl) (by decide) (pk_rem (a := T) (d := 40) (by omega) (by decide) (by decide)) (b := 7) rfl) ?_
  refine rc_p (p_istore (ls' := [(4, .int (nI (T % 40))), (0, .ref (d + 11)), (1, .int (nI e)), (2, .int x), (3, .int (σ 9))]) (dk_at ktX3_note_0 4 rfl) (by decide) rfl (b := 9) rfl) ?_
  refine rc_p (p_aload_n 1 (dk_at ktX3_note_0 5 rfl) rfl rfl (b := 10) rfl) ?_
  refine r_geta fl_X3_11 rfl (hd.lt 11 (by decide)) hd.s11 (dk_at ktX3_note_0 6 rfl) hd.g11_0 (b := 13) rfl ?_
  refine rc_p (p_iload 0 (dk_at ktX3_note_0 7 rfl) rfl (b := 15) rfl) ?_
  refine rc_p (p_iload_n 2 (dk_at ktX3_note_0 8 rfl) rfl rfl (b := 16) rfl) ?_
  refine r_iast (j := T % 40) (hd.lt 12 (by decide)) hd.s12 (dk_at ktX3_note_0 9 rfl) rfl ⟨by omega, by decide⟩ (b := 17) rfl ?_
  refine rc_p (p_aload_n 1 (dk_at ktX3_note_0 10 rfl) rfl rfl (b := 18) rfl) ?_
  refine r_geta fl_X3_15 rfl (hd.lt 11 (by decide)) hd.s11 (dk_at ktX3_note_0 11 rfl) hd.g11_1 (b := 21) rfl ?_
  refine rc_p (p_iload 0 (dk_at ktX3_note_0 12 rfl) rfl (b := 23) rfl) ?_
  refine rc_p (p_iload_n 3 (dk_at ktX3_note_0 13 rfl) rfl rfl (b := 24) rfl) ?_
  refine r_iast (j := T % 40) (hd.lt 13 (by decide)) hd.s13 (dk_at ktX3_note_0 14 rfl) rfl ⟨by omega, by decide⟩ (b := 25) rfl ?_
  refine rc_p (p_aload_n 1 (dk_at ktX3_note_0 15 rfl) rfl rfl (b := 26) rfl) ?_
  refine r_geta fl_X3_18 rfl (hd.lt 11 (by decide)) hd.s11 (dk_at ktX3_note_0 16 rfl) hd.g11_2 (b := 29) rfl ?_
  refine rc_p (p_iload 0 (dk_at ktX3_note_0 17 rfl) rfl (b := 31) rfl) ?_
  refine rc_p (p_iload_n 4 (dk_at ktX3_note_0 18 rfl) rfl rfl (b := 32) rfl) ?_
  refine r_iast (j := T % 40) (hd.lt 14 (by decide)) hd.s14 (dk_at ktX3_note_0 19 rfl) rfl ⟨by omega, by decide⟩ (b := 33) rfl ?_
  refine rc_p (p_aload_n 1 (dk_at ktX3_note_0 20 rfl) rfl rfl (b := 34) rfl) ?_
  refine r_geta fl_X3_21 rfl (hd.lt 11 (by decide)) hd.s11 (dk_at ktX3_note_0 21 rfl) hd.g11_3 (b := 37) rfl ?_
  refine rc_p (p_iload_n 2 (dk_at ktX3_note_0 22 rfl) rfl rfl (b := 38) rfl) ?_
  refine rc_p (p_dup2 (dk_at ktX3_note_0 23 rfl) rfl rfl (b := 39) rfl) ?_
  refine r_iald (j := e) (hd.lt 15 (by decide)) hd.s15 (dk_at ktX3_note_0 24 rfl) rfl ⟨by omega, by decide⟩ (v := (σ (11 + e))) ((up2_n (by omega)).trans ((up2_n (by omega)).trans ((up2_n (by omega)).trans (hR.1 15 e (11 + e) (lc_c (by omega)))))) (b := 40) rfl ?_
  refine rc_p (p_iconst (v := 1) (dk_at ktX3_note_0 25 rfl) (by decide) (b := 41) rfl) ?_
  refine rc_p (p_iadd (v := ((σ (11 + e)) + 1)) (dk_at ktX3_note_0 26 rfl) rfl (b := 42) rfl) ?_
  refine r_iast (j := e) (hd.lt 15 (by decide)) hd.s15 (dk_at ktX3_note_0 27 rfl) rfl ⟨by omega, by decide⟩ (b := 43) rfl ?_
  refine rc_p (p_aload_n 1 (dk_at ktX3_note_0 28 rfl) rfl rfl (b := 44) rfl) ?_
  refine rc_p (p_dup (dk_at ktX3_note_0 29 rfl) rfl (b := 45) rfl) ?_
  refine r_geti fl_X3_24 rfl (hd.lt 11 (by decide)) hd.s11 (dk_at ktX3_note_0 30 rfl) (v := (nI T)) ((up2_n (by omega)).trans ((up2_n (by omega)).trans ((up2_n (by omega)).trans ((up2_n (by omega)).trans hR.2.2.1.1)))) (b := 48) rfl ?_
  refine rc_p (p_iconst (v := 1) (dk_at ktX3_note_0 31 rfl) (by decide) (b := 49) rfl) ?_
  refine rc_p (p_iadd (v := (nI (T + 1))) (dk_at ktX3_note_0 32 rfl) (nI_add T 1) (b := 50) rfl) ?_
  refine r_puti fl_X3_24 fw_X3_4 rfl (hd.lt 11 (by decide)) hd.s11 rfl rfl (dk_at ktX3_note_0 33 rfl) (b := 53) rfl ?_
  refine r_vret (dk_at ktX3_note_0 34 rfl) rfl ⟨rfl, ?_⟩
  exact ⟨rfl, hR.note he hT, (FD.up (FD.up (FD.up (FD.up (FD.up FD.rf (by simp)) (by simp)) (by simp)) (by simp)) (by simp))⟩
set_option maxRecDepth 4000 in
set_option maxHeartbeats 4000000 in
theorem s_X0_note {n : Nat} {sh : mS} {G : mG} {I : mI} {J : mJ} {d : Nat} {σ : sT} {T N : Nat} (hd : DevG n sh G d) (hR : RelD d I σ T N) (hI : Inv σ) (hT : T + 1 < 1000000) (e : Nat) (he : e < 8) (x : Int32) : Sp yX0_note cX0_note 3 none 2 96 0 0 [.ref d, .int (nI e), .int x] n sh G I J (Qv (fun I_ J_ => J = J_ ∧ RelD d I_ (sNote σ e x) (T + 1) N ∧ FD d [11, 12, 13, 14, 15] I I_)) nX := by
  refine Sp.of (by decide) (ls := [(0, .ref d), (1, .int (nI e)), (2, .int x)]) (fun _ => rfl) (fun _ => Nat.le_of_ble_eq_true rfl) ?_
  refine rc_p (p_aload_n 0 (dk_at ktX0_note_0 0 rfl) rfl rfl (b := 1) rfl) ?_
  refine r_geta fl_X0_21 rfl hd.l0 hd.s0 (dk_at ktX0_note_0 1 rfl) hd.g0_1 (b := 4) rfl ?_
  refine rc_p (p_iload_n 1 (dk_at ktX0_note_0 2 rfl) rfl rfl (b := 5) rfl) ?_
  refine rc_p (p_iload_n 2 (dk_at ktX0_note_0 3 rfl) rfl rfl (b := 6) rfl) ?_
  refine rc_p (p_aload_n 0 (dk_at ktX0_note_0 4 rfl) rfl rfl (b := 7) rfl) ?_
  refine r_geta fl_X0_12 rfl hd.l0 hd.s0 (dk_at ktX0_note_0 5 rfl) hd.g0_0 (b := 10) rfl ?_
  refine r_geti fl_X0_80 rfl (hd.lt 1 (by decide)) hd.s1 (dk_at ktX0_note_0 6 rfl) (v := (σ 9)) (hR.1 1 8 9 lc_1_8) (b := 13) rfl ?_
  refine r_vV (As' := [.int (nI e), .int x, .int (σ 9)]) (rest := []) (s_X3_note hd (σ := σ) hR hI (by omega) e (by omega) x) cw_X0_83 qi_X3_note qv_X3_note rfl (hd.lt 11 (by decide)) hd.s11 (dk_at ktX0_note_0 7 rfl) rfl rfl (Nat.le_of_ble_eq_true rfl) (by decide) (b := 16) rfl (fun I1 J2 q3 => ?_)
  obtain ⟨rfl, hR5, hF6⟩ := q3
  refine r_vret (dk_at ktX0_note_0 8 rfl) rfl ⟨rfl, ?_⟩
  exact ⟨rfl, hR5, hF6⟩
set_option maxRecDepth 4000 in
set_option maxHeartbeats 4000000 in
theorem s_X1_takePower {n : Nat} {sh : mS} {G : mG} {I : mI} {J : mJ} {d : Nat} {σ : sT} {T N : Nat} (hd : DevG n sh G d) (hR : RelD d I σ T N) (hI : Inv σ)  : Sp yX1_takePower cX1_takePower 1 (some FieldType.boolean) 1 48 0 0 [.ref (d + 1)] n sh G I J (Qi (fun r_ I_ J_ => bi (sHas σ) = r_ ∧ J = J_ ∧ RelD d I_ (sTake σ) T N ∧ FD d [1] I I_)) nX := by
  refine Sp.of (by decide) (ls := [(0, .ref (d + 1))]) (fun _ => rfl) (fun _ => Nat.le_of_ble_eq_true rfl) ?_
  refine rc_p (p_aload_n 0 (dk_at ktX1_takePower_0 0 rfl) rfl rfl (b := 1) rfl) ?_
  refine rc_p (p_dup (dk_at ktX1_takePower_0 1 rfl) rfl (b := 2) rfl) ?_
  refine r_geti fl_X1_44 rfl (hd.lt 1 (by decide)) hd.s1 (dk_at ktX1_takePower_0 2 rfl) (v := (σ 9)) (hR.1 1 8 9 lc_1_8) (b := 5) rfl ?_
  refine rc_p (p_iconst (v := 1) (dk_at ktX1_takePower_0 3 rfl) (by decide) (b := 6) rfl) ?_
  refine rc_p (p_iadd (v := ((σ 9) + 1)) (dk_at ktX1_takePower_0 4 rfl) rfl (b := 7) rfl) ?_
  refine r_puti fl_X1_44 fw_X1_8 rfl (hd.lt 1 (by decide)) hd.s1 rfl rfl (dk_at ktX1_takePower_0 5 rfl) (b := 10) rfl ?_
  refine rc_p (p_aload_n 0 (dk_at ktX1_takePower_0 6 rfl) rfl rfl (b := 11) rfl) ?_
  refine r_geti fl_X1_41 rfl (hd.lt 1 (by decide)) hd.s1 (dk_at ktX1_takePower_0 7 rfl) (v := (σ 6)) ((up2_n (by omega)).trans (hR.1 1 7 6 lc_1_7)) (b := 14) rfl ?_
  refine rc_p (p_iconst (v := (-1)) (dk_at ktX1_takePower_0 8 rfl) (by decide) (b := 15) rfl) ?_
  refine r_icmp_ne (dk_at ktX1_takePower_0 9 rfl) (b := 20) (by decide) (b2 := 18) rfl (fun c15 => ?_) (fun c15 => ?_)
  · skip
    refine rc_p (p_aload_n 0 (dk_at ktX1_takePower_0 12 rfl) rfl rfl (b := 21) rfl) ?_
    refine r_geti fl_X1_41 rfl (hd.lt 1 (by decide)) hd.s1 (dk_at ktX1_takePower_0 13 rfl) (v := (σ 6)) ((up2_n (by omega)).trans (hR.1 1 7 6 lc_1_7)) (b := 24) rfl ?_
    refine r_if_ne (dk_at ktX1_takePower_0 14 rfl) (b := 29) (by decide) (b2 := 27) rfl (fun c24 => ?_) (fun c24 => ?_)
    · skip
      refine rc_p (p_aload_n 0 (dk_at ktX1_takePower_0 17 rfl) rfl rfl (b := 30) rfl) ?_
      refine rc_p (p_dup (dk_at ktX1_takePower_0 18 rfl) rfl (b := 31) rfl) ?_
      refine r_geti fl_X1_41 rfl (hd.lt 1 (by decide)) hd.s1 (dk_at ktX1_takePower_0 19 rfl) (v := (σ 6)) ((up2_n (by omega)).trans (hR.1 1 7 6 lc_1_7)) (b := 34) rfl ?_
      refine rc_p (p_iconst (v := 1) (dk_at ktX1_takePower_0 20 rfl) (by decide) (b := 35) rfl) ?_
      refine rc_p (p_isub (v := ((σ 6) - 1)) (dk_at ktX1_takePower_0 21 rfl) rfl (b := 36) rfl) ?_
      refine r_puti fl_X1_41 fw_X1_7 rfl (hd.lt 1 (by decide)) hd.s1 rfl rfl (dk_at ktX1_takePower_0 22 rfl) (b := 39) rfl ?_
      refine rc_p (p_iconst (v := 1) (dk_at ktX1_takePower_0 23 rfl) (by decide) (b := 40) rfl) ?_
      refine r_iret (dk_at ktX1_takePower_0 24 rfl) rfl rfl ⟨_, rfl, ?_⟩
      refine ⟨by rw [sHas_t c24]; rfl, rfl, ?_, (FD.up (FD.up FD.rf (by simp)) (by simp))⟩
      rw [sTake_p c24 (pw_pos hI c15 c24)]
      exact ((hR.set (o := 1) (k := 8) (a := 9) lc_1_8 (by omega) (by omega) (fun q => absurd q (by omega))).set (o := 1) (k := 7) (a := 6) lc_1_7 (by omega) (by omega) (fun q => absurd q (by omega)))
    · skip
      refine rc_p (p_iconst (v := 0) (dk_at ktX1_takePower_0 15 rfl) (by decide) (b := 28) rfl) ?_
      refine r_iret (dk_at ktX1_takePower_0 16 rfl) rfl rfl ⟨_, rfl, ?_⟩
      refine ⟨by rw [sHas_f c24]; rfl, rfl, ?_, (FD.up FD.rf (by simp))⟩
      rw [sTake_z c24]
      exact (hR.set (o := 1) (k := 8) (a := 9) lc_1_8 (by omega) (by omega) (fun q => absurd q (by omega)))
  · skip
    refine rc_p (p_iconst (v := 1) (dk_at ktX1_takePower_0 10 rfl) (by decide) (b := 19) rfl) ?_
    refine r_iret (dk_at ktX1_takePower_0 11 rfl) rfl rfl ⟨_, rfl, ?_⟩
    refine ⟨by rw [sHas_t (fun q => by rw [c15] at q; exact absurd q (by decide))]; rfl, rfl, ?_, (FD.up FD.rf (by simp))⟩
    rw [sTake_n (fun q => by rw [c15] at q; exact absurd q (by decide)) (by rw [c15]; decide)]
    exact (hR.set (o := 1) (k := 8) (a := 9) lc_1_8 (by omega) (by omega) (fun q => absurd q (by omega)))
set_option maxRecDepth 4000 in
set_option maxHeartbeats 4000000 in
theorem s_X1_write {n : Nat} {sh : mS} {G : mG} {I : mI} {J : mJ} {d : Nat} {σ : sT} {T N : Nat} (hd : DevG n sh G d) (hR : RelD d I σ T N) (hI : Inv σ) (r k a : Nat) (hr : r < 4) (hk : k < 64) (hl : Loc N (3 + r) k a) (v : Int32) : Sp yX1_write cX1_write 5 (some FieldType.boolean) 2 96 0 0 [.ref (d + 1), .int (nI r), .int (nI k), .int v] n sh G I J (Qi (fun r_ I_ J_ => bi (sHas σ) = r_ ∧ J = J_ ∧ RelD d I_ (sWr σ a v) T N ∧ FD d [1, 3 + r] I I_)) nX := by
  refine Sp.of (by decide) (ls := [(0, .ref (d + 1)), (1, .int (nI r)), (2, .int (nI k)), (3, .int v)]) (fun _ => rfl) (fun _ => Nat.le_of_ble_eq_true rfl) ?_
  have hla : 83 ≤ a ∧ a < 275 := by unfold Loc at hl; omega
  refine rc_p (p_aload_n 0 (dk_at ktX1_write_0 0 rfl) rfl rfl (b := 1) rfl) ?_
  refine r_iV (As' := []) (rest := []) (s_X1_takePower hd (σ := σ) hR hI) cw_X1_75 qi_X1_takePower qv_X1_takePower rfl (hd.lt 1 (by decide)) hd.s1 (dk_at ktX1_write_0 1 rfl) rfl rfl (Nat.le_of_ble_eq_true rfl) (by decide) (b := 4) rfl (fun v4 I1 J2 q3 => ?_)
  obtain ⟨rfl, rfl, hR5, hF6⟩ := q3
  refine rc_p (p_istore (ls' := [(4, .int (bi (sHas σ))), (0, .ref (d + 1)), (1, .int (nI r)), (2, .int (nI k)), (3, .int v)]) (dk_at ktX1_write_0 2 rfl) (by decide) rfl (b := 6) rfl) ?_
  refine rc_p (p_aload_n 1 (dk_at ktX1_write_0 3 rfl) rfl rfl (b := 7) rfl) ?_
  refine r_geta fl_X1_11 rfl (hd.lt 1 (by decide)) hd.s1 (dk_at ktX1_write_0 4 rfl) hd.g1_0 (b := 10) rfl ?_
  refine rc_p (p_iload_n 2 (dk_at ktX1_write_0 5 rfl) rfl rfl (b := 11) rfl) ?_
  refine r_aald (j := r) (id2 := (d + 3 + r)) (hd.lt 2 (by decide)) hd.s2 (by decide) (dk_at ktX1_write_0 6 rfl) rfl ⟨by omega, by decide⟩ (hd.gc (by omega)) (b := 12) rfl ?_
  refine rc_p (p_iload_n 3 (dk_at ktX1_write_0 7 rfl) rfl rfl (b := 13) rfl) ?_
  refine rc_p (p_dup2 (dk_at ktX1_write_0 8 rfl) rfl rfl (b := 14) rfl) ?_
  refine r_iald (j := k) (by have := hd.1; omega) (hd.sc (by omega)) (dk_at ktX1_write_0 9 rfl) rfl ⟨by omega, by decide⟩ (v := (σ a)) ((hR5.at3 hl).trans (sTake_ne (by omega) (by omega))) (b := 15) rfl ?_
  refine rc_p (p_iload 0 (dk_at ktX1_write_0 10 rfl) rfl (b := 17) rfl) ?_
  refine r_if_eq (dk_at ktX1_write_0 11 rfl) (b := 24) (by decide) (b2 := 20) rfl (fun c17 => ?_) (fun c17 => ?_)
  · have c17 := bi_f c17
    refine rc_p (p_iload_n 4 (dk_at ktX1_write_0 14 rfl) rfl rfl (b := 25) rfl) ?_
    refine rc_p (p_ldc (v := 65280) qk_TwinBoot_Flash_79 (dk_at ktX1_write_0 15 rfl) (b := 27) rfl) ?_
    refine rc_p (p_ior (v := (v ||| 65280)) (dk_at ktX1_write_0 16 rfl) rfl (b := 28) rfl) ?_
    refine rc_p (p_iand (v := ((σ a) &&& (v ||| 65280))) (dk_at ktX1_write_0 17 rfl) rfl (b := 29) rfl) ?_
    refine r_iast (j := k) (by have := hd.1; omega) (hd.sc (by omega)) (dk_at ktX1_write_0 18 rfl) rfl ⟨by omega, by decide⟩ (b := 30) rfl ?_
    refine rc_p (p_iload 0 (dk_at ktX1_write_0 19 rfl) rfl (b := 32) rfl) ?_
    refine r_iret (dk_at ktX1_write_0 20 rfl) rfl (bi_nar (sHas σ)) ⟨_, rfl, ?_⟩
    have he : sWr σ a v = upd (sTake σ) a (σ a &&& (v ||| 65280)) := by unfold sWr; rw [c17]; rfl
    exact ⟨rfl, rfl, by rw [he]; exact hR5.set3 (q := 3) (r := r) hl (by omega) (by omega) (by omega), (FD.upr (FD.tr FD.rf (hF6.mo (by simp))) (by simp))⟩
  · have c17 := bi_t c17
    refine rc_p (p_iload_n 4 (dk_at ktX1_write_0 12 rfl) rfl rfl (b := 21) rfl) ?_
    refine rc_p (p_goto (b := 28) (dk_at ktX1_write_0 13 rfl) (by decide)) ?_
    refine rc_p (p_iand (v := ((σ a) &&& v)) (dk_at ktX1_write_0 17 rfl) rfl (b := 29) rfl) ?_
    refine r_iast (j := k) (by have := hd.1; omega) (hd.sc (by omega)) (dk_at ktX1_write_0 18 rfl) rfl ⟨by omega, by decide⟩ (b := 30) rfl ?_
    refine rc_p (p_iload 0 (dk_at ktX1_write_0 19 rfl) rfl (b := 32) rfl) ?_
    refine r_iret (dk_at ktX1_write_0 20 rfl) rfl (bi_nar (sHas σ)) ⟨_, rfl, ?_⟩
    have he : sWr σ a v = upd (sTake σ) a (σ a &&& v) := by unfold sWr; rw [c17]; rfl
    exact ⟨rfl, rfl, by rw [he]; exact hR5.set3 (q := 3) (r := r) hl (by omega) (by omega) (by omega), (FD.upr (FD.tr FD.rf (hF6.mo (by simp))) (by simp))⟩
set_option maxRecDepth 4000 in
set_option maxHeartbeats 4000000 in
theorem s_X1_eraseSlotPage {n : Nat} {sh : mS} {G : mG} {I : mI} {J : mJ} {d : Nat} {σ : sT} {T N : Nat} (hd : DevG n sh G d) (hR : RelD d I σ T N) (hI : Inv σ) (s p : Nat) (hs : s < 2) (hp : p < nW σ / nP σ) : Sp yX1_eraseSlotPage cX1_eraseSlotPage 7 (some FieldType.boolean) 3 144 0 0 [.ref (d + 1), .int (nI s), .int (nI p)] n sh G I J (Qi (fun r_ I_ J_ => bi (sHas σ) = r_ ∧ J = J_ ∧ RelD d I_ (sErP σ s p) T N ∧ FD d [1, 3 + s, 8 + s] I I_)) nX := by
  refine Sp.of (by decide) (ls := [(0, .ref (d + 1)), (1, .int (nI s)), (2, .int (nI p))]) (fun _ => rfl) (fun _ => Nat.le_of_ble_eq_true rfl) ?_
  have hb := hI.bd
  have hpp := page_le hb.2.2.1 hp
  have hp16 : p < 16 := page_16 hb.2.1 hb.2.2.1 hp
  have hN := hR.2.2.2.2.1
  refine rc_p (p_aload_n 0 (dk_at ktX1_eraseSlotPage_0 0 rfl) rfl rfl (b := 1) rfl) ?_
  refine r_iV (As' := []) (rest := []) (s_X1_takePower hd (σ := σ) hR hI) cw_X1_75 qi_X1_takePower qv_X1_takePower rfl (hd.lt 1 (by decide)) hd.s1 (dk_at ktX1_eraseSlotPage_0 1 rfl) rfl rfl (Nat.le_of_ble_eq_true rfl) (by decide) (b := 4) rfl (fun v4 I1 J2 q3 => ?_)
  obtain ⟨rfl, rfl, hR5, hF6⟩ := q3
  refine rc_p (p_istore_n (ls' := [(3, .int (bi (sHas σ))), (0, .ref (d + 1)), (1, .int (nI s)), (2, .int (nI p))]) (dk_at ktX1_eraseSlotPage_0 2 rfl) rfl (by decide) rfl (b := 5) rfl) ?_
  refine rc_p (p_aload_n 1 (dk_at ktX1_eraseSlotPage_0 3 rfl) rfl rfl (b := 6) rfl) ?_
  refine r_geti fl_X1_40 rfl (hd.lt 1 (by decide)) hd.s1 (dk_at ktX1_eraseSlotPage_0 4 rfl) (v := (σ 5)) (((hR5.1 1 6 5 lc_1_6)).trans (sTake_ne (by omega) (by omega))) (b := 9) rfl ?_
  refine r_if_le (dk_at ktX1_eraseSlotPage_0 5 rfl) (b := 31) (by decide) (b2 := 12) rfl (fun c9 => ?_) (fun c9 => ?_)
  · skip
    refine rc_p (p_iconst (v := 0) (dk_at ktX1_eraseSlotPage_0 17 rfl) (by decide) (b := 32) rfl) ?_
    refine rc_p (p_istore (ls' := [(4, .int 0), (3, .int (bi (sHas σ))), (0, .ref (d + 1)), (1, .int (nI s)), (2, .int (nI p))]) (dk_at ktX1_eraseSlotPage_0 18 rfl) (by decide) rfl (b := 34) rfl) ?_
    refine rc_p (p_iload_n 4 (dk_at ktX1_eraseSlotPage_0 19 rfl) rfl rfl (b := 35) rfl) ?_
    refine rc_p (p_aload_n 2 (dk_at ktX1_eraseSlotPage_0 20 rfl) rfl rfl (b := 36) rfl) ?_
    refine r_geti fl_X1_29 rfl (hd.lt 1 (by decide)) hd.s1 (dk_at ktX1_eraseSlotPage_0 21 rfl) (v := (nI (nP σ))) ((((hR5.1 1 3 1 lc_1_3).trans (sTake_ne (by omega) (by omega)))).trans (hI).w1) (b := 39) rfl ?_
    refine rc_p (p_imul (v := (nI (nP σ * p))) (dk_at ktX1_eraseSlotPage_0 22 rfl) ((pk_mul p (nP σ)).trans (congrArg nI (Nat.mul_comm p (nP σ)))) (b := 40) rfl) ?_
    refine rc_p (p_istore (ls' := [(5, .int (nI (nP σ * p))), (4, .int 0), (3, .int (bi (sHas σ))), (0, .ref (d + 1)), (1, .int (nI s)), (2, .int (nI p))]) (dk_at ktX1_eraseSlotPage_0 23 rfl) (by decide) rfl (b := 42) rfl) ?_
    refine rc_p (p_iload_n 2 (dk_at ktX1_eraseSlotPage_0 24 rfl) rfl rfl (b := 43) rfl) ?_
    refine r_if_eq (dk_at ktX1_eraseSlotPage_0 25 rfl) (b := 53) (by decide) (b2 := 46) rfl (fun c43 => ?_) (fun c43 => ?_)
    · have c43 := bi_f c43
      refine rc_p (p_aload_n 3 (dk_at ktX1_eraseSlotPage_0 29 rfl) rfl rfl (b := 54) rfl) ?_
      refine r_geti fl_X1_29 rfl (hd.lt 1 (by decide)) hd.s1 (dk_at ktX1_eraseSlotPage_0 30 rfl) (v := (nI (nP σ))) ((((hR5.1 1 3 1 lc_1_3).trans (sTake_ne (by omega) (by omega)))).trans (hI).w1) (b := 57) rfl ?_
      refine rc_p (p_iconst (v := 2) (dk_at ktX1_eraseSlotPage_0 31 rfl) (by decide) (b := 58) rfl) ?_
      refine rc_p (p_idiv (v := (nI ((nP σ) / 2))) (dk_at ktX1_eraseSlotPage_0 32 rfl) (by decide) (pk_div (a := nP σ) (d := 2) (by omega) (by decide) (by decide)) (b := 59) rfl) ?_
      refine rc_p (p_istore (ls' := [(6, .int (nI ((nP σ) / 2))), (5, .int (nI (nP σ * p))), (4, .int 0), (3, .int (bi (sHas σ))), (0, .ref (d + 1)), (1, .int (nI s)), (2, .int (nI p))]) (dk_at ktX1_eraseSlotPage_0 33 rfl) (by decide) rfl (b := 61) rfl) ?_
      refine rc_p (p_aload_n 4 (dk_at ktX1_eraseSlotPage_0 34 rfl) rfl rfl (b := 62) rfl) ?_
      refine r_geta fl_X1_11 rfl (hd.lt 1 (by decide)) hd.s1 (dk_at ktX1_eraseSlotPage_0 35 rfl) hd.g1_0 (b := 65) rfl ?_
      refine rc_p (p_iload_n 5 (dk_at ktX1_eraseSlotPage_0 36 rfl) rfl rfl (b := 66) rfl) ?_
      refine r_aald (j := s) (id2 := (d + 3 + s)) (hd.lt 2 (by decide)) hd.s2 (by decide) (dk_at ktX1_eraseSlotPage_0 37 rfl) rfl ⟨by omega, by decide⟩ (hd.gc (by omega)) (b := 67) rfl ?_
      refine rc_p (p_iload 1 (dk_at ktX1_eraseSlotPage_0 38 rfl) rfl (b := 69) rfl) ?_
      refine rc_p (p_iload 1 (dk_at ktX1_eraseSlotPage_0 39 rfl) rfl (b := 71) rfl) ?_
      refine rc_p (p_iload 0 (dk_at ktX1_eraseSlotPage_0 40 rfl) rfl (b := 73) rfl) ?_
      refine rc_p (p_iadd (v := (nI (nP σ * p + ((nP σ) / 2)))) (dk_at ktX1_eraseSlotPage_0 41 rfl) (nI_add (nP σ * p) ((nP σ) / 2)) (b := 74) rfl) ?_
      refine rc_p (p_iload 2 (dk_at ktX1_eraseSlotPage_0 42 rfl) rfl (b := 76) rfl) ?_
      refine r_if_eq (dk_at ktX1_eraseSlotPage_0 43 rfl) (b := 84) (by decide) (b2 := 79) rfl (fun c76 => ?_) (fun c76 => ?_)
      · skip
        refine rc_p (p_ldc (v := 65535) qk_TwinBoot_Flash_62 (dk_at ktX1_eraseSlotPage_0 46 rfl) (b := 86) rfl) ?_
        refine r_vS (As := [.ref (d + 3 + s), .int (nI (nP σ * p)), .int (nI (nP σ * p + ((nP σ) / 2))), .int 65535]) (rest := []) (s_J7_fill_fda19 (ar := (d + 3 + s)) (len := 64) ⟨(by have := hd.1; omega), (hd.sc (by omega))⟩ (by decide) (nP σ * p) (nP σ * p + ((nP σ) / 2)) (by omega) (by omega) 65535) cw_X1_81 qs_J7_fill_fda19 (dk_at ktX1_eraseSlotPage_0 47 rfl) rfl rfl (Nat.le_of_ble_eq_true rfl) (by decide) (b := 89) rfl (fun I7 J8 q9 => ?_)
        obtain ⟨rfl, hz11⟩ := q9
        rw [show nP σ * p + ((nP σ) / 2) - (nP σ * p) = nP σ / 2 by omega] at hz11
        subst hz11
        refine rc_p (p_aload_n 4 (dk_at ktX1_eraseSlotPage_0 48 rfl) rfl rfl (b := 90) rfl) ?_
        refine r_geta fl_X1_16 rfl (hd.lt 1 (by decide)) hd.s1 (dk_at ktX1_eraseSlotPage_0 49 rfl) hd.g1_1 (b := 93) rfl ?_
        refine rc_p (p_iload_n 5 (dk_at ktX1_eraseSlotPage_0 50 rfl) rfl rfl (b := 94) rfl) ?_
        refine r_aald (j := s) (id2 := (d + 8 + s)) (hd.lt 7 (by decide)) hd.s7 (by decide) (dk_at ktX1_eraseSlotPage_0 51 rfl) rfl ⟨by omega, by decide⟩ (hd.gw (by omega)) (b := 95) rfl ?_
        refine rc_p (p_iload_n 6 (dk_at ktX1_eraseSlotPage_0 52 rfl) rfl rfl (b := 96) rfl) ?_
        refine rc_p (p_dup2 (dk_at ktX1_eraseSlotPage_0 53 rfl) rfl rfl (b := 97) rfl) ?_
        refine r_iald (j := p) (by have := hd.1; omega) (hd.sw (by omega)) (dk_at ktX1_eraseSlotPage_0 54 rfl) rfl ⟨by omega, by decide⟩ (v := ((sFill (sTake σ) (83 + 64 * s + nP σ * p) (nP σ / 2) 65535) (275 + 16 * s + p))) ((hR5.fill3 (q := 3) (r := s) (lo := nP σ * p) (c := nP σ / 2) (a := 83 + 64 * s + nP σ * p) (fun j hj => lc_sf (by omega) (by omega)) (by omega)).at3 (q := 8) (r := s) (k := p) (a := 275 + 16 * s + p) (lc_w (by omega) (by omega))) (b := 98) rfl ?_
        refine rc_p (p_iconst (v := 1) (dk_at ktX1_eraseSlotPage_0 55 rfl) (by decide) (b := 99) rfl) ?_
        refine rc_p (p_iadd (v := (((sFill (sTake σ) (83 + 64 * s + nP σ * p) (nP σ / 2) 65535) (275 + 16 * s + p)) + 1)) (dk_at ktX1_eraseSlotPage_0 56 rfl) rfl (b := 100) rfl) ?_
        refine r_iast (j := p) (by have := hd.1; omega) (hd.sw (by omega)) (dk_at ktX1_eraseSlotPage_0 57 rfl) rfl ⟨by omega, by decide⟩ (b := 101) rfl ?_
        refine rc_p (p_iload_n 3 (dk_at ktX1_eraseSlotPage_0 58 rfl) rfl rfl (b := 102) rfl) ?_
        refine r_iret (dk_at ktX1_eraseSlotPage_0 59 rfl) rfl (bi_nar (sHas σ)) ⟨_, rfl, ?_⟩
        have hw : wornB σ s p = false := by unfold wornB; rw [decide_eq_false (Int32.not_lt.mpr c9)]; rfl
        have he : sErP σ s p = (upd (sFill (sTake σ) (83 + 64 * s + nP σ * p) (nP σ / 2) 65535) (275 + 16 * s + p) (((sFill (sTake σ) (83 + 64 * s + nP σ * p) (nP σ / 2) 65535) (275 + 16 * s + p)) + 1)) := by
          unfold sErP
          rw [hw, sEr_b (b := false) c43 (by omega) (by omega) (by omega)]
          rfl
        exact ⟨rfl, rfl, by rw [he]; exact ((hR5.fill3 (q := 3) (r := s) (lo := nP σ * p) (c := nP σ / 2) (a := 83 + 64 * s + nP σ * p) (fun j hj => lc_sf (by omega) (by omega)) (by omega)).set3 (q := 8) (r := s) (k := p) (a := 275 + 16 * s + p) (lc_w (by omega) (by omega)) (by omega) (by omega) (by omega)), (FD.upr (FD.flr (FD.tr FD.rf (hF6.mo (by simp))) (by simp <;> omega)) (by simp))⟩
      · first | exact absurd c76 (by decide) | exact absurd (by decide) c76
    · have c43 := bi_t c43
      refine rc_p (p_aload_n 3 (dk_at ktX1_eraseSlotPage_0 26 rfl) rfl rfl (b := 47) rfl) ?_
      refine r_geti fl_X1_29 rfl (hd.lt 1 (by decide)) hd.s1 (dk_at ktX1_eraseSlotPage_0 27 rfl) (v := (nI (nP σ))) ((((hR5.1 1 3 1 lc_1_3).trans (sTake_ne (by omega) (by omega)))).trans (hI).w1) (b := 50) rfl ?_
      refine rc_p (p_goto (b := 59) (dk_at ktX1_eraseSlotPage_0 28 rfl) (by decide)) ?_
      refine rc_p (p_istore (ls' := [(6, .int (nI (nP σ))), (5, .int (nI (nP σ * p))), (4, .int 0), (3, .int (bi (sHas σ))), (0, .ref (d + 1)), (1, .int (nI s)), (2, .int (nI p))]) (dk_at ktX1_eraseSlotPage_0 33 rfl) (by decide) rfl (b := 61) rfl) ?_
      refine rc_p (p_aload_n 4 (dk_at ktX1_eraseSlotPage_0 34 rfl) rfl rfl (b := 62) rfl) ?_
      refine r_geta fl_X1_11 rfl (hd.lt 1 (by decide)) hd.s1 (dk_at ktX1_eraseSlotPage_0 35 rfl) hd.g1_0 (b := 65) rfl ?_
      refine rc_p (p_iload_n 5 (dk_at ktX1_eraseSlotPage_0 36 rfl) rfl rfl (b := 66) rfl) ?_
      refine r_aald (j := s) (id2 := (d + 3 + s)) (hd.lt 2 (by decide)) hd.s2 (by decide) (dk_at ktX1_eraseSlotPage_0 37 rfl) rfl ⟨by omega, by decide⟩ (hd.gc (by omega)) (b := 67) rfl ?_
      refine rc_p (p_iload 1 (dk_at ktX1_eraseSlotPage_0 38 rfl) rfl (b := 69) rfl) ?_
      refine rc_p (p_iload 1 (dk_at ktX1_eraseSlotPage_0 39 rfl) rfl (b := 71) rfl) ?_
      refine rc_p (p_iload 0 (dk_at ktX1_eraseSlotPage_0 40 rfl) rfl (b := 73) rfl) ?_
      refine rc_p (p_iadd (v := (nI (nP σ * p + (nP σ)))) (dk_at ktX1_eraseSlotPage_0 41 rfl) (nI_add (nP σ * p) (nP σ)) (b := 74) rfl) ?_
      refine rc_p (p_iload 2 (dk_at ktX1_eraseSlotPage_0 42 rfl) rfl (b := 76) rfl) ?_
      refine r_if_eq (dk_at ktX1_eraseSlotPage_0 43 rfl) (b := 84) (by decide) (b2 := 79) rfl (fun c76 => ?_) (fun c76 => ?_)
      · skip
        refine rc_p (p_ldc (v := 65535) qk_TwinBoot_Flash_62 (dk_at ktX1_eraseSlotPage_0 46 rfl) (b := 86) rfl) ?_
        refine r_vS (As := [.ref (d + 3 + s), .int (nI (nP σ * p)), .int (nI (nP σ * p + (nP σ))), .int 65535]) (rest := []) (s_J7_fill_fda19 (ar := (d + 3 + s)) (len := 64) ⟨(by have := hd.1; omega), (hd.sc (by omega))⟩ (by decide) (nP σ * p) (nP σ * p + (nP σ)) (by omega) (by omega) 65535) cw_X1_81 qs_J7_fill_fda19 (dk_at ktX1_eraseSlotPage_0 47 rfl) rfl rfl (Nat.le_of_ble_eq_true rfl) (by decide) (b := 89) rfl (fun I12 J13 q14 => ?_)
        obtain ⟨rfl, hz16⟩ := q14
        rw [show nP σ * p + (nP σ) - (nP σ * p) = nP σ by omega] at hz16
        subst hz16
        refine rc_p (p_aload_n 4 (dk_at ktX1_eraseSlotPage_0 48 rfl) rfl rfl (b := 90) rfl) ?_
        refine r_geta fl_X1_16 rfl (hd.lt 1 (by decide)) hd.s1 (dk_at ktX1_eraseSlotPage_0 49 rfl) hd.g1_1 (b := 93) rfl ?_
        refine rc_p (p_iload_n 5 (dk_at ktX1_eraseSlotPage_0 50 rfl) rfl rfl (b := 94) rfl) ?_
        refine r_aald (j := s) (id2 := (d + 8 + s)) (hd.lt 7 (by decide)) hd.s7 (by decide) (dk_at ktX1_eraseSlotPage_0 51 rfl) rfl ⟨by omega, by decide⟩ (hd.gw (by omega)) (b := 95) rfl ?_
        refine rc_p (p_iload_n 6 (dk_at ktX1_eraseSlotPage_0 52 rfl) rfl rfl (b := 96) rfl) ?_
        refine rc_p (p_dup2 (dk_at ktX1_eraseSlotPage_0 53 rfl) rfl rfl (b := 97) rfl) ?_
        refine r_iald (j := p) (by have := hd.1; omega) (hd.sw (by omega)) (dk_at ktX1_eraseSlotPage_0 54 rfl) rfl ⟨by omega, by decide⟩ (v := ((sFill (sTake σ) (83 + 64 * s + nP σ * p) (nP σ) 65535) (275 + 16 * s + p))) ((hR5.fill3 (q := 3) (r := s) (lo := nP σ * p) (c := nP σ) (a := 83 + 64 * s + nP σ * p) (fun j hj => lc_sf (by omega) (by omega)) (by omega)).at3 (q := 8) (r := s) (k := p) (a := 275 + 16 * s + p) (lc_w (by omega) (by omega))) (b := 98) rfl ?_
        refine rc_p (p_iconst (v := 1) (dk_at ktX1_eraseSlotPage_0 55 rfl) (by decide) (b := 99) rfl) ?_
        refine rc_p (p_iadd (v := (((sFill (sTake σ) (83 + 64 * s + nP σ * p) (nP σ) 65535) (275 + 16 * s + p)) + 1)) (dk_at ktX1_eraseSlotPage_0 56 rfl) rfl (b := 100) rfl) ?_
        refine r_iast (j := p) (by have := hd.1; omega) (hd.sw (by omega)) (dk_at ktX1_eraseSlotPage_0 57 rfl) rfl ⟨by omega, by decide⟩ (b := 101) rfl ?_
        refine rc_p (p_iload_n 3 (dk_at ktX1_eraseSlotPage_0 58 rfl) rfl rfl (b := 102) rfl) ?_
        refine r_iret (dk_at ktX1_eraseSlotPage_0 59 rfl) rfl (bi_nar (sHas σ)) ⟨_, rfl, ?_⟩
        have hw : wornB σ s p = false := by unfold wornB; rw [decide_eq_false (Int32.not_lt.mpr c9)]; rfl
        have he : sErP σ s p = (upd (sFill (sTake σ) (83 + 64 * s + nP σ * p) (nP σ) 65535) (275 + 16 * s + p) (((sFill (sTake σ) (83 + 64 * s + nP σ * p) (nP σ) 65535) (275 + 16 * s + p)) + 1)) := by
          unfold sErP
          rw [hw, sEr_b (b := true) c43 (by omega) (by omega) (by omega)]
          rfl
        exact ⟨rfl, rfl, by rw [he]; exact ((hR5.fill3 (q := 3) (r := s) (lo := nP σ * p) (c := nP σ) (a := 83 + 64 * s + nP σ * p) (fun j hj => lc_sf (by omega) (by omega)) (by omega)).set3 (q := 8) (r := s) (k := p) (a := 275 + 16 * s + p) (lc_w (by omega) (by omega)) (by omega) (by omega) (by omega)), (FD.upr (FD.flr (FD.tr FD.rf (hF6.mo (by simp))) (by simp <;> omega)) (by simp))⟩
      · first | exact absurd c76 (by decide) | exact absurd (by decide) c76
  · skip
    refine rc_p (p_aload_n 1 (dk_at ktX1_eraseSlotPage_0 6 rfl) rfl rfl (b := 13) rfl) ?_
    refine r_geta fl_X1_16 rfl (hd.lt 1 (by decide)) hd.s1 (dk_at ktX1_eraseSlotPage_0 7 rfl) hd.g1_1 (b := 16) rfl ?_
    refine rc_p (p_iload_n 2 (dk_at ktX1_eraseSlotPage_0 8 rfl) rfl rfl (b := 17) rfl) ?_
    refine r_aald (j := s) (id2 := (d + 8 + s)) (hd.lt 7 (by decide)) hd.s7 (by decide) (dk_at ktX1_eraseSlotPage_0 9 rfl) rfl ⟨by omega, by decide⟩ (hd.gw (by omega)) (b := 18) rfl ?_
    refine rc_p (p_iload_n 3 (dk_at ktX1_eraseSlotPage_0 10 rfl) rfl rfl (b := 19) rfl) ?_
    refine r_iald (j := p) (by have := hd.1; omega) (hd.sw (by omega)) (dk_at ktX1_eraseSlotPage_0 11 rfl) rfl ⟨by omega, by decide⟩ (v := (σ (275 + 16 * s + p))) (((hR5.at3 (q := 8) (r := s) (k := p) (a := 275 + 16 * s + p) (lc_w (by omega) (by omega)))).trans (sTake_ne (by omega) (by omega))) (b := 20) rfl ?_
    refine rc_p (p_aload_n 1 (dk_at ktX1_eraseSlotPage_0 12 rfl) rfl rfl (b := 21) rfl) ?_
    refine r_geti fl_X1_40 rfl (hd.lt 1 (by decide)) hd.s1 (dk_at ktX1_eraseSlotPage_0 13 rfl) (v := (σ 5)) (((hR5.1 1 6 5 lc_1_6)).trans (sTake_ne (by omega) (by omega))) (b := 24) rfl ?_
    refine r_icmp_lt (dk_at ktX1_eraseSlotPage_0 14 rfl) (b := 31) (by decide) (b2 := 27) rfl (fun c24 => ?_) (fun c24 => ?_)
    · skip
      refine rc_p (p_iconst (v := 0) (dk_at ktX1_eraseSlotPage_0 17 rfl) (by decide) (b := 32) rfl) ?_
      refine rc_p (p_istore (ls' := [(4, .int 0), (3, .int (bi (sHas σ))), (0, .ref (d + 1)), (1, .int (nI s)), (2, .int (nI p))]) (dk_at ktX1_eraseSlotPage_0 18 rfl) (by decide) rfl (b := 34) rfl) ?_
      refine rc_p (p_iload_n 4 (dk_at ktX1_eraseSlotPage_0 19 rfl) rfl rfl (b := 35) rfl) ?_
      refine rc_p (p_aload_n 2 (dk_at ktX1_eraseSlotPage_0 20 rfl) rfl rfl (b := 36) rfl) ?_
      refine r_geti fl_X1_29 rfl (hd.lt 1 (by decide)) hd.s1 (dk_at ktX1_eraseSlotPage_0 21 rfl) (v := (nI (nP σ))) ((((hR5.1 1 3 1 lc_1_3).trans (sTake_ne (by omega) (by omega)))).trans (hI).w1) (b := 39) rfl ?_
      refine rc_p (p_imul (v := (nI (nP σ * p))) (dk_at ktX1_eraseSlotPage_0 22 rfl) ((pk_mul p (nP σ)).trans (congrArg nI (Nat.mul_comm p (nP σ)))) (b := 40) rfl) ?_
      refine rc_p (p_istore (ls' := [(5, .int (nI (nP σ * p))), (4, .int 0), (3, .int (bi (sHas σ))), (0, .ref (d + 1)), (1, .int (nI s)), (2, .int (nI p))]) (dk_at ktX1_eraseSlotPage_0 23 rfl) (by decide) rfl (b := 42) rfl) ?_
      refine rc_p (p_iload_n 2 (dk_at ktX1_eraseSlotPage_0 24 rfl) rfl rfl (b := 43) rfl) ?_
      refine r_if_eq (dk_at ktX1_eraseSlotPage_0 25 rfl) (b := 53) (by decide) (b2 := 46) rfl (fun c43 => ?_) (fun c43 => ?_)
      · have c43 := bi_f c43
        refine rc_p (p_aload_n 3 (dk_at ktX1_eraseSlotPage_0 29 rfl) rfl rfl (b := 54) rfl) ?_
        refine r_geti fl_X1_29 rfl (hd.lt 1 (by decide)) hd.s1 (dk_at ktX1_eraseSlotPage_0 30 rfl) (v := (nI (nP σ))) ((((hR5.1 1 3 1 lc_1_3).trans (sTake_ne (by omega) (by omega)))).trans (hI).w1) (b := 57) rfl ?_
        refine rc_p (p_iconst (v := 2) (dk_at ktX1_eraseSlotPage_0 31 rfl) (by decide) (b := 58) rfl) ?_
        refine rc_p (p_idiv (v := (nI ((nP σ) / 2))) (dk_at ktX1_eraseSlotPage_0 32 rfl) (by decide) (pk_div (a := nP σ) (d := 2) (by omega) (by decide) (by decide)) (b := 59) rfl) ?_
        refine rc_p (p_istore (ls' := [(6, .int (nI ((nP σ) / 2))), (5, .int (nI (nP σ * p))), (4, .int 0), (3, .int (bi (sHas σ))), (0, .ref (d + 1)), (1, .int (nI s)), (2, .int (nI p))]) (dk_at ktX1_eraseSlotPage_0 33 rfl) (by decide) rfl (b := 61) rfl) ?_
        refine rc_p (p_aload_n 4 (dk_at ktX1_eraseSlotPage_0 34 rfl) rfl rfl (b := 62) rfl) ?_
        refine r_geta fl_X1_11 rfl (hd.lt 1 (by decide)) hd.s1 (dk_at ktX1_eraseSlotPage_0 35 rfl) hd.g1_0 (b := 65) rfl ?_
        refine rc_p (p_iload_n 5 (dk_at ktX1_eraseSlotPage_0 36 rfl) rfl rfl (b := 66) rfl) ?_
        refine r_aald (j := s) (id2 := (d + 3 + s)) (hd.lt 2 (by decide)) hd.s2 (by decide) (dk_at ktX1_eraseSlotPage_0 37 rfl) rfl ⟨by omega, by decide⟩ (hd.gc (by omega)) (b := 67) rfl ?_
        refine rc_p (p_iload 1 (dk_at ktX1_eraseSlotPage_0 38 rfl) rfl (b := 69) rfl) ?_
        refine rc_p (p_iload 1 (dk_at ktX1_eraseSlotPage_0 39 rfl) rfl (b := 71) rfl) ?_
        refine rc_p (p_iload 0 (dk_at ktX1_eraseSlotPage_0 40 rfl) rfl (b := 73) rfl) ?_
        refine rc_p (p_iadd (v := (nI (nP σ * p + ((nP σ) / 2)))) (dk_at ktX1_eraseSlotPage_0 41 rfl) (nI_add (nP σ * p) ((nP σ) / 2)) (b := 74) rfl) ?_
        refine rc_p (p_iload 2 (dk_at ktX1_eraseSlotPage_0 42 rfl) rfl (b := 76) rfl) ?_
        refine r_if_eq (dk_at ktX1_eraseSlotPage_0 43 rfl) (b := 84) (by decide) (b2 := 79) rfl (fun c76 => ?_) (fun c76 => ?_)
        · skip
          refine rc_p (p_ldc (v := 65535) qk_TwinBoot_Flash_62 (dk_at ktX1_eraseSlotPage_0 46 rfl) (b := 86) rfl) ?_
          refine r_vS (As := [.ref (d + 3 + s), .int (nI (nP σ * p)), .int (nI (nP σ * p + ((nP σ) / 2))), .int 65535]) (rest := []) (s_J7_fill_fda19 (ar := (d + 3 + s)) (len := 64) ⟨(by have := hd.1; omega), (hd.sc (by omega))⟩ (by decide) (nP σ * p) (nP σ * p + ((nP σ) / 2)) (by omega) (by omega) 65535) cw_X1_81 qs_J7_fill_fda19 (dk_at ktX1_eraseSlotPage_0 47 rfl) rfl rfl (Nat.le_of_ble_eq_true rfl) (by decide) (b := 89) rfl (fun I17 J18 q19 => ?_)
          obtain ⟨rfl, hz21⟩ := q19
          rw [show nP σ * p + ((nP σ) / 2) - (nP σ * p) = nP σ / 2 by omega] at hz21
          subst hz21
          refine rc_p (p_aload_n 4 (dk_at ktX1_eraseSlotPage_0 48 rfl) rfl rfl (b := 90) rfl) ?_
          refine r_geta fl_X1_16 rfl (hd.lt 1 (by decide)) hd.s1 (dk_at ktX1_eraseSlotPage_0 49 rfl) hd.g1_1 (b := 93) rfl ?_
          refine rc_p (p_iload_n 5 (dk_at ktX1_eraseSlotPage_0 50 rfl) rfl rfl (b := 94) rfl) ?_
          refine r_aald (j := s) (id2 := (d + 8 + s)) (hd.lt 7 (by decide)) hd.s7 (by decide) (dk_at ktX1_eraseSlotPage_0 51 rfl) rfl ⟨by omega, by decide⟩ (hd.gw (by omega)) (b := 95) rfl ?_
          refine rc_p (p_iload_n 6 (dk_at ktX1_eraseSlotPage_0 52 rfl) rfl rfl (b := 96) rfl) ?_
          refine rc_p (p_dup2 (dk_at ktX1_eraseSlotPage_0 53 rfl) rfl rfl (b := 97) rfl) ?_
          refine r_iald (j := p) (by have := hd.1; omega) (hd.sw (by omega)) (dk_at ktX1_eraseSlotPage_0 54 rfl) rfl ⟨by omega, by decide⟩ (v := ((sFill (sTake σ) (83 + 64 * s + nP σ * p) (nP σ / 2) 65535) (275 + 16 * s + p))) ((hR5.fill3 (q := 3) (r := s) (lo := nP σ * p) (c := nP σ / 2) (a := 83 + 64 * s + nP σ * p) (fun j hj => lc_sf (by omega) (by omega)) (by omega)).at3 (q := 8) (r := s) (k := p) (a := 275 + 16 * s + p) (lc_w (by omega) (by omega))) (b := 98) rfl ?_
          refine rc_p (p_iconst (v := 1) (dk_at ktX1_eraseSlotPage_0 55 rfl) (by decide) (b := 99) rfl) ?_
          refine rc_p (p_iadd (v := (((sFill (sTake σ) (83 + 64 * s + nP σ * p) (nP σ / 2) 65535) (275 + 16 * s + p)) + 1)) (dk_at ktX1_eraseSlotPage_0 56 rfl) rfl (b := 100) rfl) ?_
          refine r_iast (j := p) (by have := hd.1; omega) (hd.sw (by omega)) (dk_at ktX1_eraseSlotPage_0 57 rfl) rfl ⟨by omega, by decide⟩ (b := 101) rfl ?_
          refine rc_p (p_iload_n 3 (dk_at ktX1_eraseSlotPage_0 58 rfl) rfl rfl (b := 102) rfl) ?_
          refine r_iret (dk_at ktX1_eraseSlotPage_0 59 rfl) rfl (bi_nar (sHas σ)) ⟨_, rfl, ?_⟩
          have hw : wornB σ s p = false := by unfold wornB; rw [decide_eq_false (Int32.not_le.mpr c24), Bool.and_false]
          have he : sErP σ s p = (upd (sFill (sTake σ) (83 + 64 * s + nP σ * p) (nP σ / 2) 65535) (275 + 16 * s + p) (((sFill (sTake σ) (83 + 64 * s + nP σ * p) (nP σ / 2) 65535) (275 + 16 * s + p)) + 1)) := by
            unfold sErP
            rw [hw, sEr_b (b := false) c43 (by omega) (by omega) (by omega)]
            rfl
          exact ⟨rfl, rfl, by rw [he]; exact ((hR5.fill3 (q := 3) (r := s) (lo := nP σ * p) (c := nP σ / 2) (a := 83 + 64 * s + nP σ * p) (fun j hj => lc_sf (by omega) (by omega)) (by omega)).set3 (q := 8) (r := s) (k := p) (a := 275 + 16 * s + p) (lc_w (by omega) (by omega)) (by omega) (by omega) (by omega)), (FD.upr (FD.flr (FD.tr FD.rf (hF6.mo (by simp))) (by simp <;> omega)) (by simp))⟩
        · first | exact absurd c76 (by decide) | exact absurd (by decide) c76
      · have c43 := bi_t c43
        refine rc_p (p_aload_n 3 (dk_at ktX1_eraseSlotPage_0 26 rfl) rfl rfl (b := 47) rfl) ?_
        refine r_geti fl_X1_29 rfl (hd.lt 1 (by decide)) hd.s1 (dk_at ktX1_eraseSlotPage_0 27 rfl) (v := (nI (nP σ))) ((((hR5.1 1 3 1 lc_1_3).trans (sTake_ne (by omega) (by omega)))).trans (hI).w1) (b := 50) rfl ?_
        refine rc_p (p_goto (b := 59) (dk_at ktX1_eraseSlotPage_0 28 rfl) (by decide)) ?_
        refine rc_p (p_istore (ls' := [(6, .int (nI (nP σ))), (5, .int (nI (nP σ * p))), (4, .int 0), (3, .int (bi (sHas σ))), (0, .ref (d + 1)), (1, .int (nI s)), (2, .int (nI p))]) (dk_at ktX1_eraseSlotPage_0 33 rfl) (by decide) rfl (b := 61) rfl) ?_
        refine rc_p (p_aload_n 4 (dk_at ktX1_eraseSlotPage_0 34 rfl) rfl rfl (b := 62) rfl) ?_
        refine r_geta fl_X1_11 rfl (hd.lt 1 (by decide)) hd.s1 (dk_at ktX1_eraseSlotPage_0 35 rfl) hd.g1_0 (b := 65) rfl ?_
        refine rc_p (p_iload_n 5 (dk_at ktX1_eraseSlotPage_0 36 rfl) rfl rfl (b := 66) rfl) ?_
        refine r_aald (j := s) (id2 := (d + 3 + s)) (hd.lt 2 (by decide)) hd.s2 (by decide) (dk_at ktX1_eraseSlotPage_0 37 rfl) rfl ⟨by omega, by decide⟩ (hd.gc (by omega)) (b := 67) rfl ?_
        refine rc_p (p_iload 1 (dk_at ktX1_eraseSlotPage_0 38 rfl) rfl (b := 69) rfl) ?_
        refine rc_p (p_iload 1 (dk_at ktX1_eraseSlotPage_0 39 rfl) rfl (b := 71) rfl) ?_
        refine rc_p (p_iload 0 (dk_at ktX1_eraseSlotPage_0 40 rfl) rfl (b := 73) rfl) ?_
        refine rc_p (p_iadd (v := (nI (nP σ * p + (nP σ)))) (dk_at ktX1_eraseSlotPage_0 41 rfl) (nI_add (nP σ * p) (nP σ)) (b := 74) rfl) ?_
        refine rc_p (p_iload 2 (dk_at ktX1_eraseSlotPage_0 42 rfl) rfl (b := 76) rfl) ?_
        refine r_if_eq (dk_at ktX1_eraseSlotPage_0 43 rfl) (b := 84) (by decide) (b2 := 79) rfl (fun c76 => ?_) (fun c76 => ?_)
        · skip
          refine rc_p (p_ldc (v := 65535) qk_TwinBoot_Flash_62 (dk_at ktX1_eraseSlotPage_0 46 rfl) (b := 86) rfl) ?_
          refine r_vS (As := [.ref (d + 3 + s), .int (nI (nP σ * p)), .int (nI (nP σ * p + (nP σ))), .int 65535]) (rest := []) (s_J7_fill_fda19 (ar := (d + 3 + s)) (len := 64) ⟨(by have := hd.1; omega), (hd.sc (by omega))⟩ (by decide) (nP σ * p) (nP σ * p + (nP σ)) (by omega) (by omega) 65535) cw_X1_81 qs_J7_fill_fda19 (dk_at ktX1_eraseSlotPage_0 47 rfl) rfl rfl (Nat.le_of_ble_eq_true rfl) (by decide) (b := 89) rfl (fun I22 J23 q24 => ?_)
          obtain ⟨rfl, hz26⟩ := q24
          rw [show nP σ * p + (nP σ) - (nP σ * p) = nP σ by omega] at hz26
          subst hz26
          refine rc_p (p_aload_n 4 (dk_at ktX1_eraseSlotPage_0 48 rfl) rfl rfl (b := 90) rfl) ?_
          refine r_geta fl_X1_16 rfl (hd.lt 1 (by decide)) hd.s1 (dk_at ktX1_eraseSlotPage_0 49 rfl) hd.g1_1 (b := 93) rfl ?_
          refine rc_p (p_iload_n 5 (dk_at ktX1_eraseSlotPage_0 50 rfl) rfl rfl (b := 94) rfl) ?_
          refine r_aald (j := s) (id2 := (d + 8 + s)) (hd.lt 7 (by decide)) hd.s7 (by decide) (dk_at ktX1_eraseSlotPage_0 51 rfl) rfl ⟨by omega, by decide⟩ (hd.gw (by omega)) (b := 95) rfl ?_
          refine rc_p (p_iload_n 6 (dk_at ktX1_eraseSlotPage_0 52 rfl) rfl rfl (b := 96) rfl) ?_
          refine rc_p (p_dup2 (dk_at ktX1_eraseSlotPage_0 53 rfl) rfl rfl (b := 97) rfl) ?_
          refine r_iald (j := p) (by have := hd.1; omega) (hd.sw (by omega)) (dk_at ktX1_eraseSlotPage_0 54 rfl) rfl ⟨by omega, by decide⟩ (v := ((sFill (sTake σ) (83 + 64 * s + nP σ * p) (nP σ) 65535) (275 + 16 * s + p))) ((hR5.fill3 (q := 3) (r := s) (lo := nP σ * p) (c := nP σ) (a := 83 + 64 * s + nP σ * p) (fun j hj => lc_sf (by omega) (by omega)) (by omega)).at3 (q := 8) (r := s) (k := p) (a := 275 + 16 * s + p) (lc_w (by omega) (by omega))) (b := 98) rfl ?_
          refine rc_p (p_iconst (v := 1) (dk_at ktX1_eraseSlotPage_0 55 rfl) (by decide) (b := 99) rfl) ?_
          refine rc_p (p_iadd (v := (((sFill (sTake σ) (83 + 64 * s + nP σ * p) (nP σ) 65535) (275 + 16 * s + p)) + 1)) (dk_at ktX1_eraseSlotPage_0 56 rfl) rfl (b := 100) rfl) ?_
          refine r_iast (j := p) (by have := hd.1; omega) (hd.sw (by omega)) (dk_at ktX1_eraseSlotPage_0 57 rfl) rfl ⟨by omega, by decide⟩ (b := 101) rfl ?_
          refine rc_p (p_iload_n 3 (dk_at ktX1_eraseSlotPage_0 58 rfl) rfl rfl (b := 102) rfl) ?_
          refine r_iret (dk_at ktX1_eraseSlotPage_0 59 rfl) rfl (bi_nar (sHas σ)) ⟨_, rfl, ?_⟩
          have hw : wornB σ s p = false := by unfold wornB; rw [decide_eq_false (Int32.not_le.mpr c24), Bool.and_false]
          have he : sErP σ s p = (upd (sFill (sTake σ) (83 + 64 * s + nP σ * p) (nP σ) 65535) (275 + 16 * s + p) (((sFill (sTake σ) (83 + 64 * s + nP σ * p) (nP σ) 65535) (275 + 16 * s + p)) + 1)) := by
            unfold sErP
            rw [hw, sEr_b (b := true) c43 (by omega) (by omega) (by omega)]
            rfl
          exact ⟨rfl, rfl, by rw [he]; exact ((hR5.fill3 (q := 3) (r := s) (lo := nP σ * p) (c := nP σ) (a := 83 + 64 * s + nP σ * p) (fun j hj => lc_sf (by omega) (by omega)) (by omega)).set3 (q := 8) (r := s) (k := p) (a := 275 + 16 * s + p) (lc_w (by omega) (by omega)) (by omega) (by omega) (by omega)), (FD.upr (FD.flr (FD.tr FD.rf (hF6.mo (by simp))) (by simp <;> omega)) (by simp))⟩
        · first | exact absurd c76 (by decide) | exact absurd (by decide) c76
    · skip
      refine rc_p (p_iconst (v := 1) (dk_at ktX1_eraseSlotPage_0 15 rfl) (by decide) (b := 28) rfl) ?_
      refine rc_p (p_goto (b := 32) (dk_at ktX1_eraseSlotPage_0 16 rfl) (by decide)) ?_
      refine rc_p (p_istore (ls' := [(4, .int 1), (3, .int (bi (sHas σ))), (0, .ref (d + 1)), (1, .int (nI s)), (2, .int (nI p))]) (dk_at ktX1_eraseSlotPage_0 18 rfl) (by decide) rfl (b := 34) rfl) ?_
      refine rc_p (p_iload_n 4 (dk_at ktX1_eraseSlotPage_0 19 rfl) rfl rfl (b := 35) rfl) ?_
      refine rc_p (p_aload_n 2 (dk_at ktX1_eraseSlotPage_0 20 rfl) rfl rfl (b := 36) rfl) ?_
      refine r_geti fl_X1_29 rfl (hd.lt 1 (by decide)) hd.s1 (dk_at ktX1_eraseSlotPage_0 21 rfl) (v := (nI (nP σ))) ((((hR5.1 1 3 1 lc_1_3).trans (sTake_ne (by omega) (by omega)))).trans (hI).w1) (b := 39) rfl ?_
      refine rc_p (p_imul (v := (nI (nP σ * p))) (dk_at ktX1_eraseSlotPage_0 22 rfl) ((pk_mul p (nP σ)).trans (congrArg nI (Nat.mul_comm p (nP σ)))) (b := 40) rfl) ?_
      refine rc_p (p_istore (ls' := [(5, .int (nI (nP σ * p))), (4, .int 1), (3, .int (bi (sHas σ))), (0, .ref (d + 1)), (1, .int (nI s)), (2, .int (nI p))]) (dk_at ktX1_eraseSlotPage_0 23 rfl) (by decide) rfl (b := 42) rfl) ?_
      refine rc_p (p_iload_n 2 (dk_at ktX1_eraseSlotPage_0 24 rfl) rfl rfl (b := 43) rfl) ?_
      refine r_if_eq (dk_at ktX1_eraseSlotPage_0 25 rfl) (b := 53) (by decide) (b2 := 46) rfl (fun c43 => ?_) (fun c43 => ?_)
      · have c43 := bi_f c43
        refine rc_p (p_aload_n 3 (dk_at ktX1_eraseSlotPage_0 29 rfl) rfl rfl (b := 54) rfl) ?_
        refine r_geti fl_X1_29 rfl (hd.lt 1 (by decide)) hd.s1 (dk_at ktX1_eraseSlotPage_0 30 rfl) (v := (nI (nP σ))) ((((hR5.1 1 3 1 lc_1_3).trans (sTake_ne (by omega) (by omega)))).trans (hI).w1) (b := 57) rfl ?_
        refine rc_p (p_iconst (v := 2) (dk_at ktX1_eraseSlotPage_0 31 rfl) (by decide) (b := 58) rfl) ?_
        refine rc_p (p_idiv (v := (nI ((nP σ) / 2))) (dk_at ktX1_eraseSlotPage_0 32 rfl) (by decide) (pk_div (a := nP σ) (d := 2) (by omega) (by decide) (by decide)) (b := 59) rfl) ?_
        refine rc_p (p_istore (ls' := [(6, .int (nI ((nP σ) / 2))), (5, .int (nI (nP σ * p))), (4, .int 1), (3, .int (bi (sHas σ))), (0, .ref (d + 1)), (1, .int (nI s)), (2, .int (nI p))]) (dk_at ktX1_eraseSlotPage_0 33 rfl) (by decide) rfl (b := 61) rfl) ?_
        refine rc_p (p_aload_n 4 (dk_at ktX1_eraseSlotPage_0 34 rfl) rfl rfl (b := 62) rfl) ?_
        refine r_geta fl_X1_11 rfl (hd.lt 1 (by decide)) hd.s1 (dk_at ktX1_eraseSlotPage_0 35 rfl) hd.g1_0 (b := 65) rfl ?_
        refine rc_p (p_iload_n 5 (dk_at ktX1_eraseSlotPage_0 36 rfl) rfl rfl (b := 66) rfl) ?_
        refine r_aald (j := s) (id2 := (d + 3 + s)) (hd.lt 2 (by decide)) hd.s2 (by decide) (dk_at ktX1_eraseSlotPage_0 37 rfl) rfl ⟨by omega, by decide⟩ (hd.gc (by omega)) (b := 67) rfl ?_
        refine rc_p (p_iload 1 (dk_at ktX1_eraseSlotPage_0 38 rfl) rfl (b := 69) rfl) ?_
        refine rc_p (p_iload 1 (dk_at ktX1_eraseSlotPage_0 39 rfl) rfl (b := 71) rfl) ?_
        refine rc_p (p_iload 0 (dk_at ktX1_eraseSlotPage_0 40 rfl) rfl (b := 73) rfl) ?_
        refine rc_p (p_iadd (v := (nI (nP σ * p + ((nP σ) / 2)))) (dk_at ktX1_eraseSlotPage_0 41 rfl) (nI_add (nP σ * p) ((nP σ) / 2)) (b := 74) rfl) ?_
        refine rc_p (p_iload 2 (dk_at ktX1_eraseSlotPage_0 42 rfl) rfl (b := 76) rfl) ?_
        refine r_if_eq (dk_at ktX1_eraseSlotPage_0 43 rfl) (b := 84) (by decide) (b2 := 79) rfl (fun c76 => ?_) (fun c76 => ?_)
        · first | exact absurd c76 (by decide) | exact absurd (by decide) c76
        · skip
          refine rc_p (p_ldc (v := 65534) qk_TwinBoot_Flash_80 (dk_at ktX1_eraseSlotPage_0 44 rfl) (b := 81) rfl) ?_
          refine rc_p (p_goto (b := 86) (dk_at ktX1_eraseSlotPage_0 45 rfl) (by decide)) ?_
          refine r_vS (As := [.ref (d + 3 + s), .int (nI (nP σ * p)), .int (nI (nP σ * p + ((nP σ) / 2))), .int 65534]) (rest := []) (s_J7_fill_fda19 (ar := (d + 3 + s)) (len := 64) ⟨(by have := hd.1; omega), (hd.sc (by omega))⟩ (by decide) (nP σ * p) (nP σ * p + ((nP σ) / 2)) (by omega) (by omega) 65534) cw_X1_81 qs_J7_fill_fda19 (dk_at ktX1_eraseSlotPage_0 47 rfl) rfl rfl (Nat.le_of_ble_eq_true rfl) (by decide) (b := 89) rfl (fun I27 J28 q29 => ?_)
          obtain ⟨rfl, hz31⟩ := q29
          rw [show nP σ * p + ((nP σ) / 2) - (nP σ * p) = nP σ / 2 by omega] at hz31
          subst hz31
          refine rc_p (p_aload_n 4 (dk_at ktX1_eraseSlotPage_0 48 rfl) rfl rfl (b := 90) rfl) ?_
          refine r_geta fl_X1_16 rfl (hd.lt 1 (by decide)) hd.s1 (dk_at ktX1_eraseSlotPage_0 49 rfl) hd.g1_1 (b := 93) rfl ?_
          refine rc_p (p_iload_n 5 (dk_at ktX1_eraseSlotPage_0 50 rfl) rfl rfl (b := 94) rfl) ?_
          refine r_aald (j := s) (id2 := (d + 8 + s)) (hd.lt 7 (by decide)) hd.s7 (by decide) (dk_at ktX1_eraseSlotPage_0 51 rfl) rfl ⟨by omega, by decide⟩ (hd.gw (by omega)) (b := 95) rfl ?_
          refine rc_p (p_iload_n 6 (dk_at ktX1_eraseSlotPage_0 52 rfl) rfl rfl (b := 96) rfl) ?_
          refine rc_p (p_dup2 (dk_at ktX1_eraseSlotPage_0 53 rfl) rfl rfl (b := 97) rfl) ?_
          refine r_iald (j := p) (by have := hd.1; omega) (hd.sw (by omega)) (dk_at ktX1_eraseSlotPage_0 54 rfl) rfl ⟨by omega, by decide⟩ (v := ((sFill (sTake σ) (83 + 64 * s + nP σ * p) (nP σ / 2) 65534) (275 + 16 * s + p))) ((hR5.fill3 (q := 3) (r := s) (lo := nP σ * p) (c := nP σ / 2) (a := 83 + 64 * s + nP σ * p) (fun j hj => lc_sf (by omega) (by omega)) (by omega)).at3 (q := 8) (r := s) (k := p) (a := 275 + 16 * s + p) (lc_w (by omega) (by omega))) (b := 98) rfl ?_
          refine rc_p (p_iconst (v := 1) (dk_at ktX1_eraseSlotPage_0 55 rfl) (by decide) (b := 99) rfl) ?_
          refine rc_p (p_iadd (v := (((sFill (sTake σ) (83 + 64 * s + nP σ * p) (nP σ / 2) 65534) (275 + 16 * s + p)) + 1)) (dk_at ktX1_eraseSlotPage_0 56 rfl) rfl (b := 100) rfl) ?_
          refine r_iast (j := p) (by have := hd.1; omega) (hd.sw (by omega)) (dk_at ktX1_eraseSlotPage_0 57 rfl) rfl ⟨by omega, by decide⟩ (b := 101) rfl ?_
          refine rc_p (p_iload_n 3 (dk_at ktX1_eraseSlotPage_0 58 rfl) rfl rfl (b := 102) rfl) ?_
          refine r_iret (dk_at ktX1_eraseSlotPage_0 59 rfl) rfl (bi_nar (sHas σ)) ⟨_, rfl, ?_⟩
          have hw : wornB σ s p = true := by unfold wornB; rw [decide_eq_true (Int32.not_le.mp c9), decide_eq_true (Int32.not_lt.mp c24)]; rfl
          have he : sErP σ s p = (upd (sFill (sTake σ) (83 + 64 * s + nP σ * p) (nP σ / 2) 65534) (275 + 16 * s + p) (((sFill (sTake σ) (83 + 64 * s + nP σ * p) (nP σ / 2) 65534) (275 + 16 * s + p)) + 1)) := by
            unfold sErP
            rw [hw, sEr_b (b := false) c43 (by omega) (by omega) (by omega)]
            rfl
          exact ⟨rfl, rfl, by rw [he]; exact ((hR5.fill3 (q := 3) (r := s) (lo := nP σ * p) (c := nP σ / 2) (a := 83 + 64 * s + nP σ * p) (fun j hj => lc_sf (by omega) (by omega)) (by omega)).set3 (q := 8) (r := s) (k := p) (a := 275 + 16 * s + p) (lc_w (by omega) (by omega)) (by omega) (by omega) (by omega)), (FD.upr (FD.flr (FD.tr FD.rf (hF6.mo (by simp))) (by simp <;> omega)) (by simp))⟩
      · have c43 := bi_t c43
        refine rc_p (p_aload_n 3 (dk_at ktX1_eraseSlotPage_0 26 rfl) rfl rfl (b := 47) rfl) ?_
        refine r_geti fl_X1_29 rfl (hd.lt 1 (by decide)) hd.s1 (dk_at ktX1_eraseSlotPage_0 27 rfl) (v := (nI (nP σ))) ((((hR5.1 1 3 1 lc_1_3).trans (sTake_ne (by omega) (by omega)))).trans (hI).w1) (b := 50) rfl ?_
        refine rc_p (p_goto (b := 59) (dk_at ktX1_eraseSlotPage_0 28 rfl) (by decide)) ?_
        refine rc_p (p_istore (ls' := [(6, .int (nI (nP σ))), (5, .int (nI (nP σ * p))), (4, .int 1), (3, .int (bi (sHas σ))), (0, .ref (d + 1)), (1, .int (nI s)), (2, .int (nI p))]) (dk_at ktX1_eraseSlotPage_0 33 rfl) (by decide) rfl (b := 61) rfl) ?_
        refine rc_p (p_aload_n 4 (dk_at ktX1_eraseSlotPage_0 34 rfl) rfl rfl (b := 62) rfl) ?_
        refine r_geta fl_X1_11 rfl (hd.lt 1 (by decide)) hd.s1 (dk_at ktX1_eraseSlotPage_0 35 rfl) hd.g1_0 (b := 65) rfl ?_
        refine rc_p (p_iload_n 5 (dk_at ktX1_eraseSlotPage_0 36 rfl) rfl rfl (b := 66) rfl) ?_
        refine r_aald (j := s) (id2 := (d + 3 + s)) (hd.lt 2 (by decide)) hd.s2 (by decide) (dk_at ktX1_eraseSlotPage_0 37 rfl) rfl ⟨by omega, by decide⟩ (hd.gc (by omega)) (b := 67) rfl ?_
        refine rc_p (p_iload 1 (dk_at ktX1_eraseSlotPage_0 38 rfl) rfl (b := 69) rfl) ?_
        refine rc_p (p_iload 1 (dk_at ktX1_eraseSlotPage_0 39 rfl) rfl (b := 71) rfl) ?_
        refine rc_p (p_iload 0 (dk_at ktX1_eraseSlotPage_0 40 rfl) rfl (b := 73) rfl) ?_
        refine rc_p (p_iadd (v := (nI (nP σ * p + (nP σ)))) (dk_at ktX1_eraseSlotPage_0 41 rfl) (nI_add (nP σ * p) (nP σ)) (b := 74) rfl) ?_
        refine rc_p (p_iload 2 (dk_at ktX1_eraseSlotPage_0 42 rfl) rfl (b := 76) rfl) ?_
        refine r_if_eq (dk_at ktX1_eraseSlotPage_0 43 rfl) (b := 84) (by decide) (b2 := 79) rfl (fun c76 => ?_) (fun c76 => ?_)
        · first | exact absurd c76 (by decide) | exact absurd (by decide) c76
        · skip
          refine rc_p (p_ldc (v := 65534) qk_TwinBoot_Flash_80 (dk_at ktX1_eraseSlotPage_0 44 rfl) (b := 81) rfl) ?_
          refine rc_p (p_goto (b := 86) (dk_at ktX1_eraseSlotPage_0 45 rfl) (by decide)) ?_
          refine r_vS (As := [.ref (d + 3 + s), .int (nI (nP σ * p)), .int (nI (nP σ * p + (nP σ))), .int 65534]) (rest := []) (s_J7_fill_fda19 (ar := (d + 3 + s)) (len := 64) ⟨(by have := hd.1; omega), (hd.sc (by omega))⟩ (by decide) (nP σ * p) (nP σ * p + (nP σ)) (by omega) (by omega) 65534) cw_X1_81 qs_J7_fill_fda19 (dk_at ktX1_eraseSlotPage_0 47 rfl) rfl rfl (Nat.le_of_ble_eq_true rfl) (by decide) (b := 89) rfl (fun I32 J33 q34 => ?_)
          obtain ⟨rfl, hz36⟩ := q34
          rw [show nP σ * p + (nP σ) - (nP σ * p) = nP σ by omega] at hz36
          subst hz36
          refine rc_p (p_aload_n 4 (dk_at ktX1_eraseSlotPage_0 48 rfl) rfl rfl (b := 90) rfl) ?_
          refine r_geta fl_X1_16 rfl (hd.lt 1 (by decide)) hd.s1 (dk_at ktX1_eraseSlotPage_0 49 rfl) hd.g1_1 (b := 93) rfl ?_
          refine rc_p (p_iload_n 5 (dk_at ktX1_eraseSlotPage_0 50 rfl) rfl rfl (b := 94) rfl) ?_
          refine r_aald (j := s) (id2 := (d + 8 + s)) (hd.lt 7 (by decide)) hd.s7 (by decide) (dk_at ktX1_eraseSlotPage_0 51 rfl) rfl ⟨by omega, by decide⟩ (hd.gw (by omega)) (b := 95) rfl ?_
          refine rc_p (p_iload_n 6 (dk_at ktX1_eraseSlotPage_0 52 rfl) rfl rfl (b := 96) rfl) ?_
          refine rc_p (p_dup2 (dk_at ktX1_eraseSlotPage_0 53 rfl) rfl rfl (b := 97) rfl) ?_
          refine r_iald (j := p) (by have := hd.1; omega) (hd.sw (by omega)) (dk_at ktX1_eraseSlotPage_0 54 rfl) rfl ⟨by omega, by decide⟩ (v := ((sFill (sTake σ) (83 + 64 * s + nP σ * p) (nP σ) 65534) (275 + 16 * s + p))) ((hR5.fill3 (q := 3) (r := s) (lo := nP σ * p) (c := nP σ) (a := 83 + 64 * s + nP σ * p) (fun j hj => lc_sf (by omega) (by omega)) (by omega)).at3 (q := 8) (r := s) (k := p) (a := 275 + 16 * s + p) (lc_w (by omega) (by omega))) (b := 98) rfl ?_
          refine rc_p (p_iconst (v := 1) (dk_at ktX1_eraseSlotPage_0 55 rfl) (by decide) (b := 99) rfl) ?_
          refine rc_p (p_iadd (v := (((sFill (sTake σ) (83 + 64 * s + nP σ * p) (nP σ) 65534) (275 + 16 * s + p)) + 1)) (dk_at ktX1_eraseSlotPage_0 56 rfl) rfl (b := 100) rfl) ?_
          refine r_iast (j := p) (by have := hd.1; omega) (hd.sw (by omega)) (dk_at ktX1_eraseSlotPage_0 57 rfl) rfl ⟨by omega, by decide⟩ (b := 101) rfl ?_
          refine rc_p (p_iload_n 3 (dk_at ktX1_eraseSlotPage_0 58 rfl) rfl rfl (b := 102) rfl) ?_
          refine r_iret (dk_at ktX1_eraseSlotPage_0 59 rfl) rfl (bi_nar (sHas σ)) ⟨_, rfl, ?_⟩
          have hw : wornB σ s p = true := by unfold wornB; rw [decide_eq_true (Int32.not_le.mp c9), decide_eq_true (Int32.not_lt.mp c24)]; rfl
          have he : sErP σ s p = (upd (sFill (sTake σ) (83 + 64 * s + nP σ * p) (nP σ) 65534) (275 + 16 * s + p) (((sFill (sTake σ) (83 + 64 * s + nP σ * p) (nP σ) 65534) (275 + 16 * s + p)) + 1)) := by
            unfold sErP
            rw [hw, sEr_b (b := true) c43 (by omega) (by omega) (by omega)]
            rfl
          exact ⟨rfl, rfl, by rw [he]; exact ((hR5.fill3 (q := 3) (r := s) (lo := nP σ * p) (c := nP σ) (a := 83 + 64 * s + nP σ * p) (fun j hj => lc_sf (by omega) (by omega)) (by omega)).set3 (q := 8) (r := s) (k := p) (a := 275 + 16 * s + p) (lc_w (by omega) (by omega)) (by omega) (by omega) (by omega)), (FD.upr (FD.flr (FD.tr FD.rf (hF6.mo (by simp))) (by simp <;> omega)) (by simp))⟩
set_option maxRecDepth 4000 in
set_option maxHeartbeats 4000000 in
theorem s_X1_eraseJournalPage {n : Nat} {sh : mS} {G : mG} {I : mI} {J : mJ} {d : Nat} {σ : sT} {T N : Nat} (hd : DevG n sh G d) (hR : RelD d I σ T N) (hI : Inv σ) (p : Nat) (hp : p < 2) : Sp yX1_eraseJournalPage cX1_eraseJournalPage 3 (some FieldType.boolean) 3 144 0 0 [.ref (d + 1), .int (nI p)] n sh G I J (Qi (fun r_ I_ J_ => bi (sHas σ) = r_ ∧ J = J_ ∧ RelD d I_ (sErJ σ p) T N ∧ FD d [1, 5 + p, 10] I I_)) nX := by
  refine Sp.of (by decide) (ls := [(0, .ref (d + 1)), (1, .int (nI p))]) (fun _ => rfl) (fun _ => Nat.le_of_ble_eq_true rfl) ?_
  have hb := hI.bd
  have hN := hR.2.2.2.2.1
  refine rc_p (p_aload_n 0 (dk_at ktX1_eraseJournalPage_0 0 rfl) rfl rfl (b := 1) rfl) ?_
  refine r_iV (As' := []) (rest := []) (s_X1_takePower hd (σ := σ) hR hI) cw_X1_75 qi_X1_takePower qv_X1_takePower rfl (hd.lt 1 (by decide)) hd.s1 (dk_at ktX1_eraseJournalPage_0 1 rfl) rfl rfl (Nat.le_of_ble_eq_true rfl) (by decide) (b := 4) rfl (fun v4 I1 J2 q3 => ?_)
  obtain ⟨rfl, rfl, hR5, hF6⟩ := q3
  refine rc_p (p_istore_n (ls' := [(2, .int (bi (sHas σ))), (0, .ref (d + 1)), (1, .int (nI p))]) (dk_at ktX1_eraseJournalPage_0 2 rfl) rfl (by decide) rfl (b := 5) rfl) ?_
  refine rc_p (p_aload_n 1 (dk_at ktX1_eraseJournalPage_0 3 rfl) rfl rfl (b := 6) rfl) ?_
  refine r_geta fl_X1_11 rfl (hd.lt 1 (by decide)) hd.s1 (dk_at ktX1_eraseJournalPage_0 4 rfl) hd.g1_0 (b := 9) rfl ?_
  refine rc_p (p_iconst (v := 2) (dk_at ktX1_eraseJournalPage_0 5 rfl) (by decide) (b := 10) rfl) ?_
  refine rc_p (p_iload_n 2 (dk_at ktX1_eraseJournalPage_0 6 rfl) rfl rfl (b := 11) rfl) ?_
  refine rc_p (p_iadd (v := (nI (2 + p))) (dk_at ktX1_eraseJournalPage_0 7 rfl) (nI_add 2 p) (b := 12) rfl) ?_
  refine r_aald (j := 2 + p) (id2 := (d + 3 + (2 + p))) (hd.lt 2 (by decide)) hd.s2 (by decide) (dk_at ktX1_eraseJournalPage_0 8 rfl) rfl ⟨by omega, by decide⟩ (hd.gc (by omega)) (b := 13) rfl ?_
  refine rc_p (p_iconst (v := 0) (dk_at ktX1_eraseJournalPage_0 9 rfl) (by decide) (b := 14) rfl) ?_
  refine rc_p (p_iload_n 0 (dk_at ktX1_eraseJournalPage_0 10 rfl) rfl rfl (b := 15) rfl) ?_
  refine r_if_eq (dk_at ktX1_eraseJournalPage_0 11 rfl) (b := 25) (by decide) (b2 := 18) rfl (fun c15 => ?_) (fun c15 => ?_)
  · have c15 := bi_f c15
    refine rc_p (p_aload_n 1 (dk_at ktX1_eraseJournalPage_0 15 rfl) rfl rfl (b := 26) rfl) ?_
    refine r_geti fl_X1_36 rfl (hd.lt 1 (by decide)) hd.s1 (dk_at ktX1_eraseJournalPage_0 16 rfl) (v := (nI (nJ σ))) ((((hR5.1 1 5 2 lc_1_5).trans (sTake_ne (by omega) (by omega)))).trans (hI).w2) (b := 29) rfl ?_
    refine rc_p (p_iconst (v := 2) (dk_at ktX1_eraseJournalPage_0 17 rfl) (by decide) (b := 30) rfl) ?_
    refine rc_p (p_idiv (v := (nI ((nJ σ) / 2))) (dk_at ktX1_eraseJournalPage_0 18 rfl) (by decide) (pk_div (a := nJ σ) (d := 2) (by omega) (by decide) (by decide)) (b := 31) rfl) ?_
    refine rc_p (p_ldc (v := 65535) qk_TwinBoot_Flash_62 (dk_at ktX1_eraseJournalPage_0 19 rfl) (b := 33) rfl) ?_
    refine r_vS (As := [.ref (d + 3 + (2 + p)), .int 0, .int (nI ((nJ σ) / 2)), .int 65535]) (rest := []) (s_J7_fill_fda19 (ar := (d + 3 + (2 + p))) (len := 64) ⟨(by have := hd.1; omega), (hd.sc (by omega))⟩ (by decide) 0 ((nJ σ) / 2) (by omega) (by omega) 65535) cw_X1_81 qs_J7_fill_fda19 (dk_at ktX1_eraseJournalPage_0 20 rfl) rfl rfl (Nat.le_of_ble_eq_true rfl) (by decide) (b := 36) rfl (fun I7 J8 q9 => ?_)
    obtain ⟨rfl, hz11⟩ := q9
    rw [show (nJ σ) / 2 - 0 = nJ σ / 2 by omega] at hz11
    subst hz11
    refine rc_p (p_aload_n 1 (dk_at ktX1_eraseJournalPage_0 21 rfl) rfl rfl (b := 37) rfl) ?_
    refine r_geta fl_X1_16 rfl (hd.lt 1 (by decide)) hd.s1 (dk_at ktX1_eraseJournalPage_0 22 rfl) hd.g1_1 (b := 40) rfl ?_
    refine rc_p (p_iconst (v := 2) (dk_at ktX1_eraseJournalPage_0 23 rfl) (by decide) (b := 41) rfl) ?_
    refine r_aald (j := 2) (id2 := (d + 10)) (hd.lt 7 (by decide)) hd.s7 (by decide) (dk_at ktX1_eraseJournalPage_0 24 rfl) rfl ⟨by decide, by decide⟩ hd.g7_2 (b := 42) rfl ?_
    refine rc_p (p_iload_n 2 (dk_at ktX1_eraseJournalPage_0 25 rfl) rfl rfl (b := 43) rfl) ?_
    refine rc_p (p_dup2 (dk_at ktX1_eraseJournalPage_0 26 rfl) rfl rfl (b := 44) rfl) ?_
    refine r_iald (j := p) (hd.lt 10 (by decide)) hd.s10 (dk_at ktX1_eraseJournalPage_0 27 rfl) rfl ⟨by omega, by decide⟩ (v := ((sFill (sTake σ) (211 + 32 * p) (nJ σ / 2) 65535) (307 + p))) ((hR5.fill3 (q := 3) (r := (2 + p)) (lo := 0) (c := nJ σ / 2) (a := 211 + 32 * p) (fun j hj => lc_jf (by omega) (by omega)) (by omega)).1 10 p (307 + p) (lc_w2 (by omega))) (b := 45) rfl ?_
    refine rc_p (p_iconst (v := 1) (dk_at ktX1_eraseJournalPage_0 28 rfl) (by decide) (b := 46) rfl) ?_
    refine rc_p (p_iadd (v := (((sFill (sTake σ) (211 + 32 * p) (nJ σ / 2) 65535) (307 + p)) + 1)) (dk_at ktX1_eraseJournalPage_0 29 rfl) rfl (b := 47) rfl) ?_
    refine r_iast (j := p) (hd.lt 10 (by decide)) hd.s10 (dk_at ktX1_eraseJournalPage_0 30 rfl) rfl ⟨by omega, by decide⟩ (b := 48) rfl ?_
    refine rc_p (p_iload_n 0 (dk_at ktX1_eraseJournalPage_0 31 rfl) rfl rfl (b := 49) rfl) ?_
    refine r_iret (dk_at ktX1_eraseJournalPage_0 32 rfl) rfl (bi_nar (sHas σ)) ⟨_, rfl, ?_⟩
    have he : sErJ σ p = (upd (sFill (sTake σ) (211 + 32 * p) (nJ σ / 2) 65535) (307 + p) (((sFill (sTake σ) (211 + 32 * p) (nJ σ / 2) 65535) (307 + p)) + 1)) := by
      unfold sErJ
      rw [sEr_b (b := false) c15 (by omega) (by omega) (by omega)]
      rfl
    exact ⟨rfl, rfl, by rw [he]; exact ((hR5.fill3 (q := 3) (r := (2 + p)) (lo := 0) (c := nJ σ / 2) (a := 211 + 32 * p) (fun j hj => lc_jf (by omega) (by omega)) (by omega)).set (o := 10) (k := p) (a := 307 + p) (lc_w2 (by omega)) (by omega) (by omega) (fun q => absurd q (by omega))), (FD.up (FD.flr (FD.tr FD.rf (hF6.mo (by simp))) (by simp <;> omega)) (by simp))⟩
  · have c15 := bi_t c15
    refine rc_p (p_aload_n 1 (dk_at ktX1_eraseJournalPage_0 12 rfl) rfl rfl (b := 19) rfl) ?_
    refine r_geti fl_X1_36 rfl (hd.lt 1 (by decide)) hd.s1 (dk_at ktX1_eraseJournalPage_0 13 rfl) (v := (nI (nJ σ))) ((((hR5.1 1 5 2 lc_1_5).trans (sTake_ne (by omega) (by omega)))).trans (hI).w2) (b := 22) rfl ?_
    refine rc_p (p_goto (b := 31) (dk_at ktX1_eraseJournalPage_0 14 rfl) (by decide)) ?_
    refine rc_p (p_ldc (v := 65535) qk_TwinBoot_Flash_62 (dk_at ktX1_eraseJournalPage_0 19 rfl) (b := 33) rfl) ?_
    refine r_vS (As := [.ref (d + 3 + (2 + p)), .int 0, .int (nI (nJ σ)), .int 65535]) (rest := []) (s_J7_fill_fda19 (ar := (d + 3 + (2 + p))) (len := 64) ⟨(by have := hd.1; omega), (hd.sc (by omega))⟩ (by decide) 0 (nJ σ) (by omega) (by omega) 65535) cw_X1_81 qs_J7_fill_fda19 (dk_at ktX1_eraseJournalPage_0 20 rfl) rfl rfl (Nat.le_of_ble_eq_true rfl) (by decide) (b := 36) rfl (fun I12 J13 q14 => ?_)
    obtain ⟨rfl, hz16⟩ := q14
    rw [show nJ σ - 0 = nJ σ by omega] at hz16
    subst hz16
    refine rc_p (p_aload_n 1 (dk_at ktX1_eraseJournalPage_0 21 rfl) rfl rfl (b := 37) rfl) ?_
    refine r_geta fl_X1_16 rfl (hd.lt 1 (by decide)) hd.s1 (dk_at ktX1_eraseJournalPage_0 22 rfl) hd.g1_1 (b := 40) rfl ?_
    refine rc_p (p_iconst (v := 2) (dk_at ktX1_eraseJournalPage_0 23 rfl) (by decide) (b := 41) rfl) ?_
    refine r_aald (j := 2) (id2 := (d + 10)) (hd.lt 7 (by decide)) hd.s7 (by decide) (dk_at ktX1_eraseJournalPage_0 24 rfl) rfl ⟨by decide, by decide⟩ hd.g7_2 (b := 42) rfl ?_
    refine rc_p (p_iload_n 2 (dk_at ktX1_eraseJournalPage_0 25 rfl) rfl rfl (b := 43) rfl) ?_
    refine rc_p (p_dup2 (dk_at ktX1_eraseJournalPage_0 26 rfl) rfl rfl (b := 44) rfl) ?_
    refine r_iald (j := p) (hd.lt 10 (by decide)) hd.s10 (dk_at ktX1_eraseJournalPage_0 27 rfl) rfl ⟨by omega, by decide⟩ (v := ((sFill (sTake σ) (211 + 32 * p) (nJ σ) 65535) (307 + p))) ((hR5.fill3 (q := 3) (r := (2 + p)) (lo := 0) (c := nJ σ) (a := 211 + 32 * p) (fun j hj => lc_jf (by omega) (by omega)) (by omega)).1 10 p (307 + p) (lc_w2 (by omega))) (b := 45) rfl ?_
    refine rc_p (p_iconst (v := 1) (dk_at ktX1_eraseJournalPage_0 28 rfl) (by decide) (b := 46) rfl) ?_
    refine rc_p (p_iadd (v := (((sFill (sTake σ) (211 + 32 * p) (nJ σ) 65535) (307 + p)) + 1)) (dk_at ktX1_eraseJournalPage_0 29 rfl) rfl (b := 47) rfl) ?_
    refine r_iast (j := p) (hd.lt 10 (by decide)) hd.s10 (dk_at ktX1_eraseJournalPage_0 30 rfl) rfl ⟨by omega, by decide⟩ (b := 48) rfl ?_
    refine rc_p (p_iload_n 0 (dk_at ktX1_eraseJournalPage_0 31 rfl) rfl rfl (b := 49) rfl) ?_
    refine r_iret (dk_at ktX1_eraseJournalPage_0 32 rfl) rfl (bi_nar (sHas σ)) ⟨_, rfl, ?_⟩
    have he : sErJ σ p = (upd (sFill (sTake σ) (211 + 32 * p) (nJ σ) 65535) (307 + p) (((sFill (sTake σ) (211 + 32 * p) (nJ σ) 65535) (307 + p)) + 1)) := by
      unfold sErJ
      rw [sEr_b (b := true) c15 (by omega) (by omega) (by omega)]
      rfl
    exact ⟨rfl, rfl, by rw [he]; exact ((hR5.fill3 (q := 3) (r := (2 + p)) (lo := 0) (c := nJ σ) (a := 211 + 32 * p) (fun j hj => lc_jf (by omega) (by omega)) (by omega)).set (o := 10) (k := p) (a := 307 + p) (lc_w2 (by omega)) (by omega) (by omega) (fun q => absurd q (by omega))), (FD.up (FD.flr (FD.tr FD.rf (hF6.mo (by simp))) (by simp <;> omega)) (by simp))⟩

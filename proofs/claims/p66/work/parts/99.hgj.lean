/-! CONSTRUCTORS -/
theorem okVr {n a : Nat} (h : a < n) : okV n (.ref a) := Or.inl h
theorem okVi {n : Nat} {v : Int32} : okV n (.int v) := trivial
theorem okN {n : Nat} : ∀ v ∈ ([] : List Value), okV n v := fun _ h => absurd h List.not_mem_nil
theorem okC {n : Nat} {v : Value} {l : List Value} (h : okV n v) (t : ∀ x ∈ l, okV n x) : ∀ x ∈ v :: l, okV n x := fun x hx => (List.mem_cons.mp hx).elim (fun e => by rw [e]; exact h) (t x)
theorem okNl {n : Nat} : ∀ q ∈ ([] : List (Nat × Value)), okV n q.2 := fun _ h => absurd h List.not_mem_nil
theorem okCl {n : Nat} {k : Nat} {v : Value} {l : List (Nat × Value)} (h : okV n v) (t : ∀ x ∈ l, okV n x.2) : ∀ x ∈ (k, v) :: l, okV n x.2 := fun x hx => (List.mem_cons.mp hx).elim (fun e => by rw [e]; exact h) (t x)
theorem dv_X0 : ∀ j, j < 9 → defaultValue (mty 3 j) = if mr 3 j = true then .null else .int 0 := by decide
theorem dv_X1 : ∀ j, j < 9 → defaultValue (mty 4 j) = if mr 4 j = true then .null else .int 0 := by decide
theorem dv_X2 : ∀ j, j < 10 → defaultValue (mty 5 j) = if mr 5 j = true then .null else .int 0 := by decide
theorem dv_X3 : ∀ j, j < 5 → defaultValue (mty 6 j) = if mr 6 j = true then .null else .int 0 := by decide
theorem dv_X4 : ∀ j, j < 9 → defaultValue (mty 7 j) = if mr 7 j = true then .null else .int 0 := by decide
theorem dv_X5 : ∀ j, j < 8 → defaultValue (mty 8 j) = if mr 8 j = true then .null else .int 0 := by decide
theorem dv_X6 : ∀ j, j < 6 → defaultValue (mty 9 j) = if mr 9 j = true then .null else .int 0 := by decide
theorem dv_X7 : ∀ j, j < 28 → defaultValue (mty 10 j) = if mr 10 j = true then .null else .int 0 := by decide
set_option maxRecDepth 4000 in
set_option maxHeartbeats 4000000 in
theorem s_X1_init {sh : mS} {G : mG} {I : mI} {J : mJ} {f : Nat} (hlim : f + 10 ≤ 1000) (s0 : sh f = .inl (4, 9)) (s1 : sh (f + 1) = .inr (4, 4)) (s2 : sh (f + 2) = .inr (0, 64)) (s3 : sh (f + 3) = .inr (0, 64)) (s4 : sh (f + 4) = .inr (0, 64)) (s5 : sh (f + 5) = .inr (0, 64)) (s6 : sh (f + 6) = .inr (4, 3)) (s7 : sh (f + 7) = .inr (0, 16)) (s8 : sh (f + 8) = .inr (0, 16)) (s9 : sh (f + 9) = .inr (0, 16)) (hz : Zo (f + 1) I J G) : Sg yX1_init cX1_init 1 1 48 9 311 [.ref f] (f + 1) (f + 10) sh G I J (fun G_ I_ J_ => I_ = I ∧ J_ = J ∧ (∀ id, id < f → G_ id = G id) ∧ G_ f 0 = some (f + 1) ∧ G_ f 1 = some (f + 6) ∧ G_ (f + 1) 0 = some (f + 2) ∧ G_ (f + 1) 1 = some (f + 3) ∧ G_ (f + 1) 2 = some (f + 4) ∧ G_ (f + 1) 3 = some (f + 5) ∧ G_ (f + 6) 0 = some (f + 7) ∧ G_ (f + 6) 1 = some (f + 8) ∧ G_ (f + 6) 2 = some (f + 9)) := by
  refine Sg.of (by decide) (ls := [(0, .ref f)]) (fun _ => rfl) (fun _ => Nat.le_of_ble_eq_true rfl) ?_
  refine gc_p (p_aload_n 0 (dk_at ktX1_init_0 0 rfl) rfl rfl (b := 1) rfl) ?_
  refine g_oinit qm_X1_3 qi_obj qc_obj (dk_at ktX1_init_0 1 rfl) ⟨by decide, Nat.le_of_ble_eq_true rfl⟩ (b := 4) rfl ?_
  refine gc_p (p_aload_n 0 (dk_at ktX1_init_0 2 rfl) rfl rfl (b := 5) rfl) ?_
  refine gc_p (p_iconst (v := (nI 4)) (dk_at ktX1_init_0 3 rfl) (by decide) (b := 6) rfl) ?_
  refine gc_p (p_bipush (v := (nI 64)) (dk_at ktX1_init_0 4 rfl) (by decide) (b := 8) rfl) ?_
  have hr1 : ∀ k, k < 4 → sh ((f + 1) + 1 + k) = .inr (0, 64) := fun k hk => by
    rcases (by omega : k = 0 ∨ k = 1 ∨ k = 2 ∨ k = 3) with rfl | rfl | rfl | rfl
    · exact s2
    · exact s3
    · exact s4
    · exact s5
  refine g_multi (a := 4) (w := 64) hz (by omega) (by omega) s1 hr1 (by decide) (by decide) (by decide) ql2_X1_9 (by exact (okC (okVr (by omega)) okN)) (by exact (okCl (okVr (by omega)) okNl)) (kc' := 4) (ks' := 51) (by decide) (by decide) (dk_at ktX1_init_0 5 rfl) (b := 12) rfl ?_
  have hz1 := hz.mu (a := 4)
  refine g_putR (fun _ _ _ _ _ _ _ _ _ h => h.2.1) fl_X1_11 (fwF_w tyX1_ok nmX1 rfl rfl) rfl (by omega) s0 (fun _ => rfl) (fun _ => rfl) (dk_at ktX1_init_0 6 rfl) (b := 15) rfl ?_
  have hz2 := hz1.ug (a := f) (k := 0) (x := (f + 1)) (by omega) (by omega)
  refine gc_p (p_aload_n 0 (dk_at ktX1_init_0 7 rfl) rfl rfl (b := 16) rfl) ?_
  refine gc_p (p_iconst (v := (nI 3)) (dk_at ktX1_init_0 8 rfl) (by decide) (b := 17) rfl) ?_
  refine gc_p (p_bipush (v := (nI 16)) (dk_at ktX1_init_0 9 rfl) (by decide) (b := 19) rfl) ?_
  have hr6 : ∀ k, k < 3 → sh ((f + 6) + 1 + k) = .inr (0, 16) := fun k hk => by
    rcases (by omega : k = 0 ∨ k = 1 ∨ k = 2) with rfl | rfl | rfl
    · exact s7
    · exact s8
    · exact s9
  refine g_multi (a := 3) (w := 16) hz2 (by omega) (by omega) s6 hr6 (by decide) (by decide) (by decide) ql2_X1_9 (by exact (okC (okVr (by omega)) okN)) (by exact (okCl (okVr (by omega)) okNl)) (kc' := 0) (ks' := 0) (by decide) (by decide) (dk_at ktX1_init_0 10 rfl) (b := 23) rfl ?_
  have hz3 := hz2.mu (a := 3)
  refine g_putR (fun _ _ _ _ _ _ _ _ _ h => h.2.1) fl_X1_16 (fwF_w tyX1_ok nmX1 rfl rfl) rfl (by omega) s0 (fun _ => rfl) (fun _ => rfl) (dk_at ktX1_init_0 11 rfl) (b := 26) rfl ?_
  have hz4 := hz3.ug (a := f) (k := 1) (x := (f + 6)) (by omega) (by omega)
  refine g_iret (dk_at ktX1_init_0 12 rfl) ?_ hz4
  exact ⟨rfl, rfl, fun id h => ((upG_off (by omega)).trans ((funext fun _ => muG_o (by omega)).trans ((upG_off (by omega)).trans ((funext fun _ => muG_o (by omega)).trans rfl)))), ((upG_n (by omega)).trans ((muG_o (by omega)).trans upG_s)), upG_s, ((upG_n (by omega)).trans ((muG_o (by omega)).trans ((upG_n (by omega)).trans (muG_s (by decide))))), ((upG_n (by omega)).trans ((muG_o (by omega)).trans ((upG_n (by omega)).trans (muG_s (by decide))))), ((upG_n (by omega)).trans ((muG_o (by omega)).trans ((upG_n (by omega)).trans (muG_s (by decide))))), ((upG_n (by omega)).trans ((muG_o (by omega)).trans ((upG_n (by omega)).trans (muG_s (by decide))))), ((upG_n (by omega)).trans (muG_s (by decide))), ((upG_n (by omega)).trans (muG_s (by decide))), ((upG_n (by omega)).trans (muG_s (by decide)))⟩
set_option maxRecDepth 4000 in
set_option maxHeartbeats 4000000 in
theorem s_X3_init {sh : mS} {G : mG} {I : mI} {J : mJ} {g : Nat} (hlim : g + 5 ≤ 1000) (s0 : sh g = .inl (6, 5)) (s1 : sh (g + 1) = .inr (0, 40)) (s2 : sh (g + 2) = .inr (0, 40)) (s3 : sh (g + 3) = .inr (0, 40)) (s4 : sh (g + 4) = .inr (0, 8)) (hz : Zo (g + 1) I J G) : Sg yX3_init cX3_init 1 1 48 4 128 [.ref g] (g + 1) (g + 5) sh G I J (fun G_ I_ J_ => I_ = I ∧ J_ = J ∧ (∀ id, id < g → G_ id = G id) ∧ G_ g 0 = some (g + 1) ∧ G_ g 1 = some (g + 2) ∧ G_ g 2 = some (g + 3) ∧ G_ g 3 = some (g + 4)) := by
  refine Sg.of (by decide) (ls := [(0, .ref g)]) (fun _ => rfl) (fun _ => Nat.le_of_ble_eq_true rfl) ?_
  refine gc_p (p_aload_n 0 (dk_at ktX3_init_0 0 rfl) rfl rfl (b := 1) rfl) ?_
  refine g_oinit qm_X3_3 qi_obj qc_obj (dk_at ktX3_init_0 1 rfl) ⟨by decide, Nat.le_of_ble_eq_true rfl⟩ (b := 4) rfl ?_
  refine gc_p (p_aload_n 0 (dk_at ktX3_init_0 2 rfl) rfl rfl (b := 5) rfl) ?_
  refine gc_p (p_bipush (v := (nI 40)) (dk_at ktX3_init_0 3 rfl) (by decide) (b := 7) rfl) ?_
  refine g_newi (atype := .int) (t := 0) (len := 40) hz (by omega) (by omega) s1 (by decide) (Or.inl ⟨rfl, rfl⟩) qac_int (by exact (okC (okVr (by omega)) okN)) (by exact (okCl (okVr (by omega)) okNl)) (kc' := 3) (ks' := 88) (by decide) (by decide) (dk_at ktX3_init_0 4 rfl) (b := 9) rfl ?_
  have hc1 := (hz.1 _ (Nat.le_refl _) (by omega)).1
  have hz1 := hz.up (m := (g + 2)) (by omega)
  refine g_putR (fun _ _ _ _ _ _ _ _ _ h => h.2.1) fl_X3_11 (fwF_w tyX3_ok nmX3 rfl rfl) rfl (by omega) s0 (fun _ => rfl) (fun _ => rfl) (dk_at ktX3_init_0 5 rfl) (b := 12) rfl ?_
  have hz2 := hz1.ug (a := g) (k := 0) (x := (g + 1)) (by omega) (by omega)
  refine gc_p (p_aload_n 0 (dk_at ktX3_init_0 6 rfl) rfl rfl (b := 13) rfl) ?_
  refine gc_p (p_bipush (v := (nI 40)) (dk_at ktX3_init_0 7 rfl) (by decide) (b := 15) rfl) ?_
  refine g_newi (atype := .int) (t := 0) (len := 40) hz2 (by omega) (by omega) s2 (by decide) (Or.inl ⟨rfl, rfl⟩) qac_int (by exact (okC (okVr (by omega)) okN)) (by exact (okCl (okVr (by omega)) okNl)) (kc' := 2) (ks' := 48) (by decide) (by decide) (dk_at ktX3_init_0 8 rfl) (b := 17) rfl ?_
  have hc2 := (hz2.1 _ (Nat.le_refl _) (by omega)).1
  have hz3 := hz2.up (m := (g + 3)) (by omega)
  refine g_putR (fun _ _ _ _ _ _ _ _ _ h => h.2.1) fl_X3_15 (fwF_w tyX3_ok nmX3 rfl rfl) rfl (by omega) s0 (fun _ => rfl) (fun _ => rfl) (dk_at ktX3_init_0 9 rfl) (b := 20) rfl ?_
  have hz4 := hz3.ug (a := g) (k := 1) (x := (g + 2)) (by omega) (by omega)
  refine gc_p (p_aload_n 0 (dk_at ktX3_init_0 10 rfl) rfl rfl (b := 21) rfl) ?_
  refine gc_p (p_bipush (v := (nI 40)) (dk_at ktX3_init_0 11 rfl) (by decide) (b := 23) rfl) ?_
  refine g_newi (atype := .int) (t := 0) (len := 40) hz4 (by omega) (by omega) s3 (by decide) (Or.inl ⟨rfl, rfl⟩) qac_int (by exact (okC (okVr (by omega)) okN)) (by exact (okCl (okVr (by omega)) okNl)) (kc' := 1) (ks' := 8) (by decide) (by decide) (dk_at ktX3_init_0 12 rfl) (b := 25) rfl ?_
  have hc3 := (hz4.1 _ (Nat.le_refl _) (by omega)).1
  have hz5 := hz4.up (m := (g + 4)) (by omega)
  refine g_putR (fun _ _ _ _ _ _ _ _ _ h => h.2.1) fl_X3_18 (fwF_w tyX3_ok nmX3 rfl rfl) rfl (by omega) s0 (fun _ => rfl) (fun _ => rfl) (dk_at ktX3_init_0 13 rfl) (b := 28) rfl ?_
  have hz6 := hz5.ug (a := g) (k := 2) (x := (g + 3)) (by omega) (by omega)
  refine gc_p (p_aload_n 0 (dk_at ktX3_init_0 14 rfl) rfl rfl (b := 29) rfl) ?_
  refine gc_p (p_bipush (v := (nI 8)) (dk_at ktX3_init_0 15 rfl) (by decide) (b := 31) rfl) ?_
  refine g_newi (atype := .int) (t := 0) (len := 8) hz6 (by omega) (by omega) s4 (by decide) (Or.inl ⟨rfl, rfl⟩) qac_int (by exact (okC (okVr (by omega)) okN)) (by exact (okCl (okVr (by omega)) okNl)) (kc' := 0) (ks' := 0) (by decide) (by decide) (dk_at ktX3_init_0 16 rfl) (b := 33) rfl ?_
  have hc4 := (hz6.1 _ (Nat.le_refl _) (by omega)).1
  have hz7 := hz6.up (m := (g + 5)) (by omega)
  refine g_putR (fun _ _ _ _ _ _ _ _ _ h => h.2.1) fl_X3_21 (fwF_w tyX3_ok nmX3 rfl rfl) rfl (by omega) s0 (fun _ => rfl) (fun _ => rfl) (dk_at ktX3_init_0 17 rfl) (b := 36) rfl ?_
  have hz8 := hz7.ug (a := g) (k := 3) (x := (g + 4)) (by omega) (by omega)
  refine g_iret (dk_at ktX3_init_0 18 rfl) ?_ hz8
  exact ⟨rfl, rfl, fun id h => ((upG_off (by omega)).trans ((upG_off (by omega)).trans ((upG_off (by omega)).trans ((upG_off (by omega)).trans rfl)))), ((upG_n (by omega)).trans ((upG_n (by omega)).trans ((upG_n (by omega)).trans upG_s))), ((upG_n (by omega)).trans ((upG_n (by omega)).trans upG_s)), ((upG_n (by omega)).trans upG_s), upG_s⟩
set_option maxRecDepth 4000 in
set_option maxHeartbeats 4000000 in
theorem s_X2_init {sh : mS} {G : mG} {I : mI} {J : mJ} {h : Nat} (hz : Zo (h + 1) I J G) : Sg yX2_init cX2_init 1 1 48 0 0 [.ref h] (h + 1) (h + 1) sh G I J (fun G_ I_ J_ => I_ = I ∧ J_ = J ∧ G_ = G) := by
  refine Sg.of (by decide) (ls := [(0, .ref h)]) (fun _ => rfl) (fun _ => Nat.le_of_ble_eq_true rfl) ?_
  refine gc_p (p_aload_n 0 (dk_at ktX2_init_0 0 rfl) rfl rfl (b := 1) rfl) ?_
  refine g_oinit qm_X2_3 qi_obj qc_obj (dk_at ktX2_init_0 1 rfl) ⟨by decide, Nat.le_of_ble_eq_true rfl⟩ (b := 4) rfl ?_
  refine g_iret (dk_at ktX2_init_0 2 rfl) ?_ hz
  exact ⟨rfl, rfl, rfl⟩
def ShD (sh : mS) (d : Nat) : Prop := sh d = .inl (3, 9) ∧ sh (d + 1) = .inl (4, 9) ∧ sh (d + 2) = .inr (4, 4) ∧ sh (d + 3) = .inr (0, 64) ∧ sh (d + 4) = .inr (0, 64) ∧ sh (d + 5) = .inr (0, 64) ∧ sh (d + 6) = .inr (0, 64) ∧ sh (d + 7) = .inr (4, 3) ∧ sh (d + 8) = .inr (0, 16) ∧ sh (d + 9) = .inr (0, 16) ∧ sh (d + 10) = .inr (0, 16) ∧ sh (d + 11) = .inl (6, 5) ∧ sh (d + 12) = .inr (0, 40) ∧ sh (d + 13) = .inr (0, 40) ∧ sh (d + 14) = .inr (0, 40) ∧ sh (d + 15) = .inr (0, 8) ∧ sh (d + 16) = .inl (5, 10) ∧ sh (d + 17) = .inr (0, 8) ∧ sh (d + 18) = .inr (0, 64)
set_option maxRecDepth 4000 in
set_option maxHeartbeats 4000000 in
theorem s_X0_init {sh : mS} {G : mG} {I : mI} {J : mJ} {d : Nat} (hlim : d + 19 ≤ 1000) (hS : ShD sh d) (hz : Zo (d + 1) I J G) : Sg yX0_init cX0_init 1 2 96 18 535 [.ref d] (d + 1) (d + 19) sh G I J (fun G_ I_ J_ => I_ = I ∧ J_ = J ∧ (∀ id, id < d → G_ id = G id) ∧ DevG (d + 19) sh G_ d) := by
  obtain ⟨s0, s1, s2, s3, s4, s5, s6, s7, s8, s9, s10, s11, s12, s13, s14, s15, s16, s17, s18⟩ := hS
  refine Sg.of (by decide) (ls := [(0, .ref d)]) (fun _ => rfl) (fun _ => Nat.le_of_ble_eq_true rfl) ?_
  refine gc_p (p_aload_n 0 (dk_at ktX0_init_0 0 rfl) rfl rfl (b := 1) rfl) ?_
  refine g_oinit qm_X0_3 qi_obj qc_obj (dk_at ktX0_init_0 1 rfl) ⟨by decide, Nat.le_of_ble_eq_true rfl⟩ (b := 4) rfl ?_
  refine gc_p (p_aload_n 0 (dk_at ktX0_init_0 2 rfl) rfl rfl (b := 5) rfl) ?_
  refine g_new hz (by omega) (by omega) s1 rfl lay_X1 tyX1_ok ql2_X0_9 qin_X1 qn_TwinBoot_Flash dv_X1 (by exact (okC (okVr (by omega)) okN)) (by exact (okCl (okVr (by omega)) okNl)) (kc' := 17) (ks' := 526) (by decide) (by decide) (dk_at ktX0_init_0 3 rfl) (b := 8) rfl ?_
  have hc1 := (hz.1 _ (Nat.le_refl _) (by omega)).1
  have hz1 := hz.up (m := (d + 2)) (by omega)
  refine gc_p (p_dup (dk_at ktX0_init_0 4 rfl) rfl (b := 9) rfl) ?_
  refine g_callIN (ci := 0) (N := 0) (C := RX6) (T := TX6) (As' := []) (rest := [.ref (d + 1), .ref d]) (s_X1_init (f := (d + 1)) (by omega) s1 s2 s3 s4 s5 s6 s7 s8 s9 s10 hz1) (by omega) cwN_X0_11 qi_X1_init rfl (dk_at ktX0_init_0 5 rfl) rfl rfl (Nat.le_of_ble_eq_true rfl) ⟨by decide, by decide, by decide, by decide⟩ (by exact (okC (okVr (by omega)) (okC (okVr (by omega)) okN))) (by exact (okCl (okVr (by omega)) okNl)) (b := 12) rfl (fun G2 I2 J2 hq2 hz2 => ?_)
  obtain ⟨rfl, rfl, hf2, hg2_0, hg2_1, hg2_2, hg2_3, hg2_4, hg2_5, hg2_6, hg2_7, hg2_8⟩ := hq2
  refine g_putR (fun _ _ _ _ _ _ _ _ _ h => h.2.1) fl_X0_12 (fwF_w tyX0_ok nmX0 rfl rfl) rfl (by omega) s0 (fun _ => rfl) (fun _ => rfl) (dk_at ktX0_init_0 6 rfl) (b := 15) rfl ?_
  have hz3 := hz2.ug (a := d) (k := 0) (x := (d + 1)) (by omega) (by omega)
  refine gc_p (p_aload_n 0 (dk_at ktX0_init_0 7 rfl) rfl rfl (b := 16) rfl) ?_
  refine g_new hz3 (by omega) (by omega) s11 rfl lay_X3 tyX3_ok ql2_X0_18 qin_X3 qn_TwinBoot_Log dv_X3 (by exact (okC (okVr (by omega)) okN)) (by exact (okCl (okVr (by omega)) okNl)) (kc' := 7) (ks' := 210) (by decide) (by decide) (dk_at ktX0_init_0 8 rfl) (b := 19) rfl ?_
  have hc11 := (hz3.1 _ (Nat.le_refl _) (by omega)).1
  have hz4 := hz3.up (m := (d + 12)) (by omega)
  refine gc_p (p_dup (dk_at ktX0_init_0 9 rfl) rfl (b := 20) rfl) ?_
  refine g_callIN (ci := 0) (N := 0) (C := RX6) (T := TX6) (As' := []) (rest := [.ref (d + 11), .ref d]) (s_X3_init (g := (d + 11)) (by omega) s11 s12 s13 s14 s15 hz4) (by omega) cwN_X0_20 qi_X3_init rfl (dk_at ktX0_init_0 10 rfl) rfl rfl (Nat.le_of_ble_eq_true rfl) ⟨by decide, by decide, by decide, by decide⟩ (by exact (okC (okVr (by omega)) (okC (okVr (by omega)) okN))) (by exact (okCl (okVr (by omega)) okNl)) (b := 23) rfl (fun G5 I5 J5 hq5 hz5 => ?_)
  obtain ⟨rfl, rfl, hf5, hg5_0, hg5_1, hg5_2, hg5_3⟩ := hq5
  refine g_putR (fun _ _ _ _ _ _ _ _ _ h => h.2.1) fl_X0_21 (fwF_w tyX0_ok nmX0 rfl rfl) rfl (by omega) s0 (fun _ => rfl) (fun _ => rfl) (dk_at ktX0_init_0 11 rfl) (b := 26) rfl ?_
  have hz6 := hz5.ug (a := d) (k := 1) (x := (d + 11)) (by omega) (by omega)
  refine gc_p (p_aload_n 0 (dk_at ktX0_init_0 12 rfl) rfl rfl (b := 27) rfl) ?_
  refine g_new hz6 (by omega) (by omega) s16 rfl lay_X2 tyX2_ok ql2_X0_25 qin_X2 qn_TwinBoot_Ledger dv_X2 (by exact (okC (okVr (by omega)) okN)) (by exact (okCl (okVr (by omega)) okNl)) (kc' := 2) (ks' := 72) (by decide) (by decide) (dk_at ktX0_init_0 13 rfl) (b := 30) rfl ?_
  have hc16 := (hz6.1 _ (Nat.le_refl _) (by omega)).1
  have hz7 := hz6.up (m := (d + 17)) (by omega)
  refine gc_p (p_dup (dk_at ktX0_init_0 14 rfl) rfl (b := 31) rfl) ?_
  refine g_callIN (ci := 0) (N := 0) (C := RX6) (T := TX6) (As' := []) (rest := [.ref (d + 16), .ref d]) (s_X2_init (h := (d + 16)) hz7) (by omega) cwN_X0_27 qi_X2_init rfl (dk_at ktX0_init_0 15 rfl) rfl rfl (Nat.le_of_ble_eq_true rfl) ⟨by decide, by decide, by decide, by decide⟩ (by exact (okC (okVr (by omega)) (okC (okVr (by omega)) okN))) (by exact (okCl (okVr (by omega)) okNl)) (b := 34) rfl (fun G8 I8 J8 hq8 hz8 => ?_)
  obtain ⟨rfl, rfl, rfl⟩ := hq8
  refine g_putR (fun _ _ _ _ _ _ _ _ _ h => h.2.1) fl_X0_28 (fwF_w tyX0_ok nmX0 rfl rfl) rfl (by omega) s0 (fun _ => rfl) (fun _ => rfl) (dk_at ktX0_init_0 16 rfl) (b := 37) rfl ?_
  have hz9 := hz8.ug (a := d) (k := 2) (x := (d + 16)) (by omega) (by omega)
  refine gc_p (p_aload_n 0 (dk_at ktX0_init_0 17 rfl) rfl rfl (b := 38) rfl) ?_
  refine gc_p (p_bipush (v := (nI 8)) (dk_at ktX0_init_0 18 rfl) (by decide) (b := 40) rfl) ?_
  refine g_newi (atype := .int) (t := 0) (len := 8) hz9 (by omega) (by omega) s17 (by decide) (Or.inl ⟨rfl, rfl⟩) qac_int (by exact (okC (okVr (by omega)) okN)) (by exact (okCl (okVr (by omega)) okNl)) (kc' := 1) (ks' := 64) (by decide) (by decide) (dk_at ktX0_init_0 19 rfl) (b := 42) rfl ?_
  have hc17 := (hz9.1 _ (Nat.le_refl _) (by omega)).1
  have hz10 := hz9.up (m := (d + 18)) (by omega)
  refine g_putR (fun _ _ _ _ _ _ _ _ _ h => h.2.1) fl_X0_32 (fwF_w tyX0_ok nmX0 rfl rfl) rfl (by omega) s0 (fun _ => rfl) (fun _ => rfl) (dk_at ktX0_init_0 20 rfl) (b := 45) rfl ?_
  have hz11 := hz10.ug (a := d) (k := 3) (x := (d + 17)) (by omega) (by omega)
  refine gc_p (p_aload_n 0 (dk_at ktX0_init_0 21 rfl) rfl rfl (b := 46) rfl) ?_
  refine gc_p (p_bipush (v := (nI 64)) (dk_at ktX0_init_0 22 rfl) (by decide) (b := 48) rfl) ?_
  refine g_newi (atype := .int) (t := 0) (len := 64) hz11 (by omega) (by omega) s18 (by decide) (Or.inl ⟨rfl, rfl⟩) qac_int (by exact (okC (okVr (by omega)) okN)) (by exact (okCl (okVr (by omega)) okNl)) (kc' := 0) (ks' := 0) (by decide) (by decide) (dk_at ktX0_init_0 23 rfl) (b := 50) rfl ?_
  have hc18 := (hz11.1 _ (Nat.le_refl _) (by omega)).1
  have hz12 := hz11.up (m := (d + 19)) (by omega)
  refine g_putR (fun _ _ _ _ _ _ _ _ _ h => h.2.1) fl_X0_36 (fwF_w tyX0_ok nmX0 rfl rfl) rfl (by omega) s0 (fun _ => rfl) (fun _ => rfl) (dk_at ktX0_init_0 24 rfl) (b := 53) rfl ?_
  have hz13 := hz12.ug (a := d) (k := 4) (x := (d + 18)) (by omega) (by omega)
  refine g_iret (dk_at ktX0_init_0 25 rfl) ?_ hz13
  exact ⟨rfl, rfl, fun id h => ((upG_off (by omega)).trans ((upG_off (by omega)).trans ((upG_off (by omega)).trans ((upG_off (by omega)).trans ((hf5 _ (by omega)).trans ((upG_off (by omega)).trans ((hf2 _ (by omega)).trans rfl))))))), Nat.le_refl _, s0, s1, s2, s3, s4, s5, s6, s7, s8, s9, s10, s11, s12, s13, s14, s15, s16, s17, s18, ((upG_n (by omega)).trans ((upG_n (by omega)).trans ((upG_n (by omega)).trans ((upG_n (by omega)).trans ((congrFun (hf5 _ (by omega)) 0).trans upG_s))))), ((upG_n (by omega)).trans ((upG_n (by omega)).trans ((upG_n (by omega)).trans upG_s))), ((upG_n (by omega)).trans ((upG_n (by omega)).trans upG_s)), ((upG_n (by omega)).trans upG_s), upG_s, ((upG_n (by omega)).trans ((upG_n (by omega)).trans ((upG_n (by omega)).trans ((upG_n (by omega)).trans ((congrFun (hf5 _ (by omega)) 0).trans ((upG_n (by omega)).trans hg2_0)))))), ((upG_n (by omega)).trans ((upG_n (by omega)).trans ((upG_n (by omega)).trans ((upG_n (by omega)).trans ((congrFun (hf5 _ (by omega)) 1).trans ((upG_n (by omega)).trans hg2_1)))))), ((upG_n (by omega)).trans ((upG_n (by omega)).trans ((upG_n (by omega)).trans ((upG_n (by omega)).trans ((congrFun (hf5 _ (by omega)) 0).trans ((upG_n (by omega)).trans hg2_2)))))), ((upG_n (by omega)).trans ((upG_n (by omega)).trans ((upG_n (by omega)).trans ((upG_n (by omega)).trans ((congrFun (hf5 _ (by omega)) 1).trans ((upG_n (by omega)).trans hg2_3)))))), ((upG_n (by omega)).trans ((upG_n (by omega)).trans ((upG_n (by omega)).trans ((upG_n (by omega)).trans ((congrFun (hf5 _ (by omega)) 2).trans ((upG_n (by omega)).trans hg2_4)))))), ((upG_n (by omega)).trans ((upG_n (by omega)).trans ((upG_n (by omega)).trans ((upG_n (by omega)).trans ((congrFun (hf5 _ (by omega)) 3).trans ((upG_n (by omega)).trans hg2_5)))))), ((upG_n (by omega)).trans ((upG_n (by omega)).trans ((upG_n (by omega)).trans ((upG_n (by omega)).trans ((congrFun (hf5 _ (by omega)) 0).trans ((upG_n (by omega)).trans hg2_6)))))), ((upG_n (by omega)).trans ((upG_n (by omega)).trans ((upG_n (by omega)).trans ((upG_n (by omega)).trans ((congrFun (hf5 _ (by omega)) 1).trans ((upG_n (by omega)).trans hg2_7)))))), ((upG_n (by omega)).trans ((upG_n (by omega)).trans ((upG_n (by omega)).trans ((upG_n (by omega)).trans ((congrFun (hf5 _ (by omega)) 2).trans ((upG_n (by omega)).trans hg2_8)))))), ((upG_n (by omega)).trans ((upG_n (by omega)).trans ((upG_n (by omega)).trans ((upG_n (by omega)).trans hg5_0)))), ((upG_n (by omega)).trans ((upG_n (by omega)).trans ((upG_n (by omega)).trans ((upG_n (by omega)).trans hg5_1)))), ((upG_n (by omega)).trans ((upG_n (by omega)).trans ((upG_n (by omega)).trans ((upG_n (by omega)).trans hg5_2)))), ((upG_n (by omega)).trans ((upG_n (by omega)).trans ((upG_n (by omega)).trans ((upG_n (by omega)).trans hg5_3))))⟩

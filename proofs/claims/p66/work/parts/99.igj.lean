/-! CONSTRUCTORS of the plan, of the text, of both sides -/
def SI : PSt := ((S0.st 0 16).st 1 4).st 2 12
theorem SI_row {k : Nat} (h : 3 ≤ k) : SI.row k = row0 k := by
  show upd (upd (upd row0 0 (nI 16)) 1 (nI 4)) 2 (nI 12) k = _
  rw [upd_n (by omega), upd_n (by omega), upd_n (by omega)]
theorem GS_SI : GS SI := by
  refine ⟨⟨16, 4, 12, rfl, by decide, by decide, rfl, by decide, by decide, by decide, rfl, by decide, by decide⟩, GR.st (GR.st (GR.st GR_0 (by decide)) (by decide)) (by decide), by decide, Or.inl rfl, by decide⟩
def PlG (n : Nat) (sh : mS) (G : mG) (x : Nat) : Prop := x + 6 ≤ n ∧ sh (x + 2) = .inl (7, 9) ∧ sh (x + 3) = .inr (4, 2) ∧ sh (x + 4) = .inr (0, 64) ∧ sh (x + 5) = .inr (0, 64) ∧ G (x + 2) 0 = some (x + 3) ∧ G (x + 3) 0 = some (x + 4) ∧ G (x + 3) 1 = some (x + 5)
theorem PlG.lt {n : Nat} {sh : mS} {G : mG} {x : Nat} (h : PlG n sh G x) (k : Nat) (hk : k < 6) : x + k < n := by have := h.1; omega
theorem PlG.s2 {n : Nat} {sh : mS} {G : mG} {x : Nat} (h : PlG n sh G x) : sh (x + 2) = .inl (7, 9) := h.2.1
theorem PlG.s3 {n : Nat} {sh : mS} {G : mG} {x : Nat} (h : PlG n sh G x) : sh (x + 3) = .inr (4, 2) := h.2.2.1
theorem PlG.s4 {n : Nat} {sh : mS} {G : mG} {x : Nat} (h : PlG n sh G x) : sh (x + 4) = .inr (0, 64) := h.2.2.2.1
theorem PlG.s5 {n : Nat} {sh : mS} {G : mG} {x : Nat} (h : PlG n sh G x) : sh (x + 5) = .inr (0, 64) := h.2.2.2.2.1
theorem PlG.g2_0 {n : Nat} {sh : mS} {G : mG} {x : Nat} (h : PlG n sh G x) : G (x + 2) 0 = some (x + 3) := h.2.2.2.2.2.1
theorem PlG.g3_0 {n : Nat} {sh : mS} {G : mG} {x : Nat} (h : PlG n sh G x) : G (x + 3) 0 = some (x + 4) := h.2.2.2.2.2.2.1
theorem PlG.g3_1 {n : Nat} {sh : mS} {G : mG} {x : Nat} (h : PlG n sh G x) : G (x + 3) 1 = some (x + 5) := h.2.2.2.2.2.2.2
def RSw (m : Nat) (I : mI) (s : PSt) : Prop := (∀ k, k < 309 → I (m + 1) k = s.row k) ∧ I m 7 = nI s.fl ∧ I m 8 = s.gd ∧ I m 17 = nI s.gv
theorem TxtG.mono {n n' : Nat} {sh : mS} {G G' : mG} {t : Nat} (h : TxtG n sh G t) (hn : n ≤ n') (hG : ∀ id, t ≤ id → id < t + 6 → G' id = G id) : TxtG n' sh G' t := by
  unfold TxtG at h ⊢
  rw [hG t (by omega) (by omega), hG (t + 2) (by omega) (by omega), hG (t + 3) (by omega) (by omega)]
  exact ⟨Nat.le_trans h.1 hn, h.2⟩
theorem DevG.mono {n n' : Nat} {sh : mS} {G G' : mG} {t : Nat} (h : DevG n sh G t) (hn : n ≤ n') (hG : ∀ id, t ≤ id → id < t + 19 → G' id = G id) : DevG n' sh G' t := by
  unfold DevG at h ⊢
  rw [hG t (by omega) (by omega), hG (t + 1) (by omega) (by omega), hG (t + 2) (by omega) (by omega), hG (t + 7) (by omega) (by omega), hG (t + 11) (by omega) (by omega)]
  exact ⟨Nat.le_trans h.1 hn, h.2⟩
set_option maxRecDepth 4000 in
set_option maxHeartbeats 4000000 in
theorem s_X4_clearP {n : Nat} {sh : mS} {G : mG} {I : mI} {J : mJ} {x : Nat} (hx : PlG n sh G x)  : Sp yX4_clear cX4_clear 1 none 2 96 0 0 [.ref (x + 2)] n sh G I J (Qv (fun I_ J_ => J = J_ ∧ FF x [2, 4, 5] [] I I_ ∧ RC x I_ SI)) nX := by
  refine Sp.of (by decide) (ls := [(0, .ref (x + 2))]) (fun _ => rfl) (fun _ => Nat.le_of_ble_eq_true rfl) ?_
  refine rc_p (p_aload_n 0 (dk_at ktX4_clear_0 0 rfl) rfl rfl (b := 1) rfl) ?_
  refine rc_p (p_bipush (v := 16) (dk_at ktX4_clear_0 1 rfl) (by decide) (b := 3) rfl) ?_
  refine r_puti fl_X4_19 fw_X4_1 rfl (hx.lt 2 (by decide)) hx.s2 rfl rfl (dk_at ktX4_clear_0 2 rfl) (b := 6) rfl ?_
  refine rc_p (p_aload_n 0 (dk_at ktX4_clear_0 3 rfl) rfl rfl (b := 7) rfl) ?_
  refine rc_p (p_iconst (v := 4) (dk_at ktX4_clear_0 4 rfl) (by decide) (b := 8) rfl) ?_
  refine r_puti fl_X4_23 fw_X4_2 rfl (hx.lt 2 (by decide)) hx.s2 rfl rfl (dk_at ktX4_clear_0 5 rfl) (b := 11) rfl ?_
  refine rc_p (p_aload_n 0 (dk_at ktX4_clear_0 6 rfl) rfl rfl (b := 12) rfl) ?_
  refine rc_p (p_bipush (v := 12) (dk_at ktX4_clear_0 7 rfl) (by decide) (b := 14) rfl) ?_
  refine r_puti fl_X4_26 fw_X4_3 rfl (hx.lt 2 (by decide)) hx.s2 rfl rfl (dk_at ktX4_clear_0 8 rfl) (b := 17) rfl ?_
  refine rc_p (p_aload_n 0 (dk_at ktX4_clear_0 9 rfl) rfl rfl (b := 18) rfl) ?_
  refine rc_p (p_iconst (v := 3) (dk_at ktX4_clear_0 10 rfl) (by decide) (b := 19) rfl) ?_
  refine r_puti fl_X4_29 fw_X4_4 rfl (hx.lt 2 (by decide)) hx.s2 rfl rfl (dk_at ktX4_clear_0 11 rfl) (b := 22) rfl ?_
  refine rc_p (p_aload_n 0 (dk_at ktX4_clear_0 12 rfl) rfl rfl (b := 23) rfl) ?_
  refine rc_p (p_iconst (v := 0) (dk_at ktX4_clear_0 13 rfl) (by decide) (b := 24) rfl) ?_
  refine r_puti fl_X4_32 fw_X4_5 rfl (hx.lt 2 (by decide)) hx.s2 rfl rfl (dk_at ktX4_clear_0 14 rfl) (b := 27) rfl ?_
  refine rc_p (p_aload_n 0 (dk_at ktX4_clear_0 15 rfl) rfl rfl (b := 28) rfl) ?_
  refine rc_p (p_iconst (v := 0) (dk_at ktX4_clear_0 16 rfl) (by decide) (b := 29) rfl) ?_
  refine r_puti fl_X4_35 fw_X4_6 rfl (hx.lt 2 (by decide)) hx.s2 rfl rfl (dk_at ktX4_clear_0 17 rfl) (b := 32) rfl ?_
  refine rc_p (p_aload_n 0 (dk_at ktX4_clear_0 18 rfl) rfl rfl (b := 33) rfl) ?_
  refine rc_p (p_iconst (v := (-1)) (dk_at ktX4_clear_0 19 rfl) (by decide) (b := 34) rfl) ?_
  refine r_puti fl_X4_38 fw_X4_7 rfl (hx.lt 2 (by decide)) hx.s2 rfl rfl (dk_at ktX4_clear_0 20 rfl) (b := 37) rfl ?_
  refine rc_p (p_aload_n 0 (dk_at ktX4_clear_0 21 rfl) rfl rfl (b := 38) rfl) ?_
  refine rc_p (p_iconst (v := 0) (dk_at ktX4_clear_0 22 rfl) (by decide) (b := 39) rfl) ?_
  refine r_puti fl_X4_41 fw_X4_8 rfl (hx.lt 2 (by decide)) hx.s2 rfl rfl (dk_at ktX4_clear_0 23 rfl) (b := 42) rfl ?_
  refine rc_p (p_aload_n 0 (dk_at ktX4_clear_0 24 rfl) rfl rfl (b := 43) rfl) ?_
  refine r_geta fl_X4_11 rfl (hx.lt 2 (by decide)) hx.s2 (dk_at ktX4_clear_0 25 rfl) hx.g2_0 (b := 46) rfl ?_
  refine rc_p (p_iconst (v := 0) (dk_at ktX4_clear_0 26 rfl) (by decide) (b := 47) rfl) ?_
  refine r_aald (j := 0) (id2 := (x + 4)) (hx.lt 3 (by decide)) hx.s3 (by decide) (dk_at ktX4_clear_0 27 rfl) rfl ⟨by decide, by decide⟩ hx.g3_0 (b := 48) rfl ?_
  refine rc_p (p_ldc (v := 65535) qk_TwinBoot_Plan_44 (dk_at ktX4_clear_0 28 rfl) (b := 50) rfl) ?_
  refine r_vS (As := [.ref (x + 4), .int 65535]) (rest := []) (s_J7_fill_53178 (ar := (x + 4)) (len := 64) ⟨(hx.lt 4 (by decide)), hx.s4⟩ (by decide) 65535) cw_X4_45 qs_J7_fill_53178 (dk_at ktX4_clear_0 29 rfl) rfl rfl (Nat.le_of_ble_eq_true rfl) (by decide) (b := 53) rfl (fun I1 J2 q3 => ?_)
  obtain ⟨rfl, rfl⟩ := q3
  refine rc_p (p_aload_n 0 (dk_at ktX4_clear_0 30 rfl) rfl rfl (b := 54) rfl) ?_
  refine r_geta fl_X4_11 rfl (hx.lt 2 (by decide)) hx.s2 (dk_at ktX4_clear_0 31 rfl) hx.g2_0 (b := 57) rfl ?_
  refine rc_p (p_iconst (v := 1) (dk_at ktX4_clear_0 32 rfl) (by decide) (b := 58) rfl) ?_
  refine r_aald (j := 1) (id2 := (x + 5)) (hx.lt 3 (by decide)) hx.s3 (by decide) (dk_at ktX4_clear_0 33 rfl) rfl ⟨by decide, by decide⟩ hx.g3_1 (b := 59) rfl ?_
  refine rc_p (p_ldc (v := 65535) qk_TwinBoot_Plan_44 (dk_at ktX4_clear_0 34 rfl) (b := 61) rfl) ?_
  refine r_vS (As := [.ref (x + 5), .int 65535]) (rest := []) (s_J7_fill_53178 (ar := (x + 5)) (len := 64) ⟨(hx.lt 5 (by decide)), hx.s5⟩ (by decide) 65535) cw_X4_45 qs_J7_fill_53178 (dk_at ktX4_clear_0 35 rfl) rfl rfl (Nat.le_of_ble_eq_true rfl) (by decide) (b := 64) rfl (fun I5 J6 q7 => ?_)
  obtain ⟨rfl, rfl⟩ := q7
  refine r_vret (dk_at ktX4_clear_0 36 rfl) rfl ⟨rfl, ?_⟩
  refine ⟨rfl, ⟨fun b hb ho => ?_, fun j _ => ?_⟩, ⟨(((congrFun (fl1_off (by omega)) 1)).trans (((congrFun (fl1_off (by omega)) 1)).trans ((up2_n (by omega)).trans ((up2_n (by omega)).trans ((up2_n (by omega)).trans ((up2_n (by omega)).trans ((up2_n (by omega)).trans ((up2_n (by omega)).trans ((up2_n (by omega)).trans (up2_s)))))))))), (((congrFun (fl1_off (by omega)) 2)).trans (((congrFun (fl1_off (by omega)) 2)).trans ((up2_n (by omega)).trans ((up2_n (by omega)).trans ((up2_n (by omega)).trans ((up2_n (by omega)).trans ((up2_n (by omega)).trans ((up2_n (by omega)).trans (up2_s))))))))), (((congrFun (fl1_off (by omega)) 3)).trans (((congrFun (fl1_off (by omega)) 3)).trans ((up2_n (by omega)).trans ((up2_n (by omega)).trans ((up2_n (by omega)).trans ((up2_n (by omega)).trans ((up2_n (by omega)).trans (up2_s))))))))⟩, ⟨(((congrFun (fl1_off (by omega)) 4)).trans (((congrFun (fl1_off (by omega)) 4)).trans ((up2_n (by omega)).trans ((up2_n (by omega)).trans ((up2_n (by omega)).trans ((up2_n (by omega)).trans up2_s)))))), (((congrFun (fl1_off (by omega)) 5)).trans (((congrFun (fl1_off (by omega)) 5)).trans ((up2_n (by omega)).trans ((up2_n (by omega)).trans ((up2_n (by omega)).trans up2_s))))), (((congrFun (fl1_off (by omega)) 6)).trans (((congrFun (fl1_off (by omega)) 6)).trans ((up2_n (by omega)).trans ((up2_n (by omega)).trans up2_s)))), (((congrFun (fl1_off (by omega)) 7)).trans (((congrFun (fl1_off (by omega)) 7)).trans ((up2_n (by omega)).trans up2_s))), (((congrFun (fl1_off (by omega)) 8)).trans (((congrFun (fl1_off (by omega)) 8)).trans up2_s))⟩, fun q k hq hk => ?_⟩
  · have h2 := ho 2 (by simp)
    have h4 := ho 4 (by simp)
    have h5 := ho 5 (by simp)
    exact ((fl1_off (by omega)).trans ((fl1_off (by omega)).trans ((up2_off (by omega)).trans ((up2_off (by omega)).trans ((up2_off (by omega)).trans ((up2_off (by omega)).trans ((up2_off (by omega)).trans ((up2_off (by omega)).trans ((up2_off (by omega)).trans ((up2_off (by omega)).trans rfl))))))))))
  · exact congrFun (((fl1_off (by omega)).trans ((fl1_off (by omega)).trans ((up2_off (by omega)).trans ((up2_off (by omega)).trans ((up2_off (by omega)).trans ((up2_off (by omega)).trans ((up2_off (by omega)).trans ((up2_off (by omega)).trans ((up2_off (by omega)).trans ((up2_off (by omega)).trans rfl))))))))))) j
  · rw [SI_row (by omega), show row0 (83 + 64 * q + k) = 65535 from if_pos (by omega)]
    rcases (by omega : q = 0 ∨ q = 1) with rfl | rfl
    · exact (((congrFun (fl1_off (by omega)) k)).trans (if_pos ⟨rfl, Nat.zero_le _, by omega⟩))
    · exact (if_pos ⟨rfl, Nat.zero_le _, by omega⟩)
set_option maxRecDepth 4000 in
set_option maxHeartbeats 4000000 in
theorem s_X4_init {sh : mS} {G : mG} {I : mI} {J : mJ} {x : Nat} (hlim : x + 6 ≤ 1000) (s2 : sh (x + 2) = .inl (7, 9)) (s3 : sh (x + 3) = .inr (4, 2)) (s4 : sh (x + 4) = .inr (0, 64)) (s5 : sh (x + 5) = .inr (0, 64)) (hz : Zo (x + 3) I J G) : Sg yX4_init cX4_init 1 3 144 3 130 [.ref (x + 2)] (x + 3) (x + 6) sh G I J (fun G_ I_ J_ => J_ = J ∧ FF x [2, 4, 5] [] I I_ ∧ RC x I_ SI ∧ (∀ id, id < x + 2 → G_ id = G id) ∧ G_ (x + 2) 0 = some (x + 3) ∧ G_ (x + 3) 0 = some (x + 4) ∧ G_ (x + 3) 1 = some (x + 5)) := by
  refine Sg.of (by decide) (ls := [(0, .ref (x + 2))]) (fun _ => rfl) (fun _ => Nat.le_of_ble_eq_true rfl) ?_
  refine gc_p (p_aload_n 0 (dk_at ktX4_init_0 0 rfl) rfl rfl (b := 1) rfl) ?_
  refine g_oinit qm_X4_3 qi_obj qc_obj (dk_at ktX4_init_0 1 rfl) ⟨by decide, Nat.le_of_ble_eq_true rfl⟩ (b := 4) rfl ?_
  refine gc_p (p_aload_n 0 (dk_at ktX4_init_0 2 rfl) rfl rfl (b := 5) rfl) ?_
  refine gc_p (p_iconst (v := (nI 2)) (dk_at ktX4_init_0 3 rfl) (by decide) (b := 6) rfl) ?_
  refine gc_p (p_bipush (v := (nI 64)) (dk_at ktX4_init_0 4 rfl) (by decide) (b := 8) rfl) ?_
  have hr3 : ∀ k, k < 2 → sh ((x + 3) + 1 + k) = .inr (0, 64) := fun k hk => by
    rcases (by omega : k = 0 ∨ k = 1) with rfl | rfl
    · exact s4
    · exact s5
  refine g_multi (a := 2) (w := 64) hz (by omega) (by omega) s3 hr3 (by decide) (by decide) (by decide) ql2_X4_9 (by exact (okC (okVr (by omega)) okN)) (by exact (okCl (okVr (by omega)) okNl)) (kc' := 0) (ks' := 0) (by decide) (by decide) (dk_at ktX4_init_0 5 rfl) (b := 12) rfl ?_
  have hz1 := hz.mu (a := 2)
  refine g_putR (fun _ _ _ _ _ _ _ _ _ h => h.2.1) fl_X4_11 (fwF_w tyX4_ok nmX4 rfl rfl) rfl (by omega) s2 (fun _ => rfl) (fun _ => rfl) (dk_at ktX4_init_0 6 rfl) (b := 15) rfl ?_
  have hz2 := hz1.ug (a := (x + 2)) (k := 0) (x := (x + 3)) (by omega) (by omega)
  refine gc_p (p_aload_n 0 (dk_at ktX4_init_0 7 rfl) rfl rfl (b := 16) rfl) ?_
  refine g_callV (ci := 7) (As' := []) (rest := []) (s_X4_clearP (x := x) ⟨by omega, s2, s3, s4, s5, upG_s, ((upG_n (by omega)).trans (muG_s (by decide))), ((upG_n (by omega)).trans (muG_s (by decide)))⟩) cw_X4_16 qi_X4_clear qv_X4_clear rfl (by omega) s2 (dk_at ktX4_init_0 8 rfl) rfl rfl (Nat.le_of_ble_eq_true rfl) ⟨by decide, by decide, by decide, by decide⟩ (b := 19) rfl (fun r1 I1 J1 hq1 => ?_)
  obtain ⟨rfl, rfl, hF1, hR1⟩ := hq1
  have hz3 := hz2.of (fun id hid => hF1.1 id (by omega) (fun o ho => by simp at ho; omega))
  refine g_iret (dk_at ktX4_init_0 9 rfl) ?_ hz3
  exact ⟨rfl, hF1, hR1, fun id h => ((upG_off (by omega)).trans ((funext fun _ => muG_o (by omega)).trans rfl)), upG_s, ((upG_n (by omega)).trans (muG_s (by decide))), ((upG_n (by omega)).trans (muG_s (by decide)))⟩
set_option maxRecDepth 4000 in
set_option maxHeartbeats 4000000 in
theorem s_X5_init {sh : mS} {G : mG} {I : mI} {J : mJ} {x : Nat} (hlim : x + 6 ≤ 1000) (s0 : sh x = .inl (8, 8)) (s1 : sh (x + 1) = .inr (1, 900)) (s2 : sh (x + 2) = .inl (7, 9)) (s3 : sh (x + 3) = .inr (4, 2)) (s4 : sh (x + 4) = .inr (0, 64)) (s5 : sh (x + 5) = .inr (0, 64)) (hz : Zo (x + 1) I J G) (h0 : ∀ k, I x k = 0) : Sg yX5_init cX5_init 1 4 192 5 1039 [.ref x] (x + 1) (x + 6) sh G I J (fun G_ I_ J_ => J_ = J ∧ (∀ b, b < x → I_ b = I b) ∧ (∀ k, I_ x k = 0) ∧ RC x I_ SI ∧ (∀ id, id < x → G_ id = G id) ∧ TxtG (x + 6) sh G_ x) := by
  refine Sg.of (by decide) (ls := [(0, .ref x)]) (fun _ => rfl) (fun _ => Nat.le_of_ble_eq_true rfl) ?_
  refine gc_p (p_aload_n 0 (dk_at ktX5_init_0 0 rfl) rfl rfl (b := 1) rfl) ?_
  refine g_oinit qm_X5_3 qi_obj qc_obj (dk_at ktX5_init_0 1 rfl) ⟨by decide, Nat.le_of_ble_eq_true rfl⟩ (b := 4) rfl ?_
  refine gc_p (p_aload_n 0 (dk_at ktX5_init_0 2 rfl) rfl rfl (b := 5) rfl) ?_
  refine gc_p (p_sipush (v := (nI 900)) (dk_at ktX5_init_0 3 rfl) (by decide) (b := 8) rfl) ?_
  refine g_newi (atype := .byte) (t := 1) (len := 900) hz (by omega) (by omega) s1 (by decide) (Or.inr (Or.inl ⟨rfl, rfl⟩)) qac_byte (by exact (okC (okVr (by omega)) okN)) (by exact (okCl (okVr (by omega)) okNl)) (kc' := 4) (ks' := 139) (by decide) (by decide) (dk_at ktX5_init_0 4 rfl) (b := 10) rfl ?_
  have hc1 := (hz.1 _ (Nat.le_refl _) (by omega)).1
  have hz1 := hz.up (m := (x + 2)) (by omega)
  refine g_putR (fun _ _ _ _ _ _ _ _ _ h => h.2.1) fl_X5_11 (fwF_w tyX5_ok nmX5 rfl rfl) rfl (by omega) s0 (fun _ => rfl) (fun _ => rfl) (dk_at ktX5_init_0 5 rfl) (b := 13) rfl ?_
  have hz2 := hz1.ug (a := x) (k := 0) (x := (x + 1)) (by omega) (by omega)
  refine gc_p (p_aload_n 0 (dk_at ktX5_init_0 6 rfl) rfl rfl (b := 14) rfl) ?_
  refine g_new hz2 (by omega) (by omega) s2 rfl lay_X4 tyX4_ok ql2_X5_15 qin_X4 qn_TwinBoot_Plan dv_X4 (by exact (okC (okVr (by omega)) okN)) (by exact (okCl (okVr (by omega)) okNl)) (kc' := 3) (ks' := 130) (by decide) (by decide) (dk_at ktX5_init_0 7 rfl) (b := 17) rfl ?_
  have hc2 := (hz2.1 _ (Nat.le_refl _) (by omega)).1
  have hz3 := hz2.up (m := (x + 3)) (by omega)
  refine gc_p (p_dup (dk_at ktX5_init_0 8 rfl) rfl (b := 18) rfl) ?_
  refine g_callI (ci := 0) (N := 0) (d := (x + 2)) (C := RX6) (T := TX6) (As' := []) (rest := [.ref (x + 2), .ref x]) (s_X4_init (x := x) (by omega) s2 s3 s4 s5 hz3) (by omega) cw_X5_17 qi_X4_init rfl (dk_at ktX5_init_0 9 rfl) rfl rfl (Nat.le_of_ble_eq_true rfl) ⟨by decide, by decide, by decide, by decide⟩ (by exact (okC (okVr (by omega)) (okC (okVr (by omega)) okN))) (by exact (okCl (okVr (by omega)) okNl)) (b := 21) rfl (fun G4 I4 J4 hq4 hz4 => ?_)
  obtain ⟨rfl, hF4, hR4, hf4, hg4_0, hg4_1, hg4_2⟩ := hq4
  refine g_putR (fun _ _ _ _ _ _ _ _ _ h => h.2.1) fl_X5_18 (fwF_w tyX5_ok nmX5 rfl rfl) rfl (by omega) s0 (fun _ => rfl) (fun _ => rfl) (dk_at ktX5_init_0 10 rfl) (b := 24) rfl ?_
  have hz5 := hz4.ug (a := x) (k := 1) (x := (x + 2)) (by omega) (by omega)
  refine g_iret (dk_at ktX5_init_0 11 rfl) ?_ hz5
  exact ⟨rfl, fun b hb => hF4.1 b (by omega) (fun o ho => by simp at ho; omega), fun k => (hF4.2 k (by simp)).trans (h0 k), hR4, fun id h => ((upG_off (by omega)).trans ((hf4 _ (by omega)).trans ((upG_off (by omega)).trans rfl))), Nat.le_refl _, s0, s1, s2, s3, s4, s5, ((upG_n (by omega)).trans ((congrFun (hf4 _ (by omega)) 0).trans upG_s)), upG_s, ((upG_n (by omega)).trans hg4_0), ((upG_n (by omega)).trans hg4_1), ((upG_n (by omega)).trans hg4_2)⟩
set_option maxRecDepth 4000 in
set_option maxHeartbeats 4000000 in
theorem s_X6_init {sh : mS} {G : mG} {I : mI} {J : mJ} {x : Nat} (hlim : x + 104 ≤ 1000) (s0 : sh x = .inl (9, 6)) (s1 : sh (x + 1) = .inl (8, 8)) (s2 : sh (x + 2) = .inr (1, 900)) (s3 : sh (x + 3) = .inl (7, 9)) (s4 : sh (x + 4) = .inr (4, 2)) (s5 : sh (x + 5) = .inr (0, 64)) (s6 : sh (x + 6) = .inr (0, 64)) (hD7 : ShD sh (x + 7)) (hD26 : ShD sh (x + 26)) (hD45 : ShD sh (x + 45)) (hD65 : ShD sh (x + 65)) (hD84 : ShD sh (x + 84)) (s64 : sh (x + 64) = .inr (5, 2)) (s103 : sh (x + 103) = .inr (2, 2)) (hz : Zo (x + 1) I J G) : Sg yX6_init cX6_init 3 5 240 103 3771 [.ref x] (x + 1) (x + 104) sh G I J (fun G_ I_ J_ => J_ = J ∧ (∀ b, b < x → I_ b = I b) ∧ (∀ k, I_ (x + 1) k = 0) ∧ RelD (x + 7) I_ (newS SI) 0 0 ∧ (∀ k, I_ (x + 103) k = 0) ∧ (∀ id, id < x → G_ id = G id) ∧ BootG (x + 104) sh G_ x) := by
  refine Sg.of (by decide) (ls := [(0, .ref x)]) (fun _ => rfl) (fun _ => Nat.le_of_ble_eq_true rfl) ?_
  refine gc_p (p_aload_n 0 (dk_at ktX6_init_0 0 rfl) rfl rfl (b := 1) rfl) ?_
  refine g_oinit qm_X6_1 qi_obj qc_obj (dk_at ktX6_init_0 1 rfl) ⟨by decide, Nat.le_of_ble_eq_true rfl⟩ (b := 4) rfl ?_
  refine g_new hz (by omega) (by omega) s1 rfl lay_X5 tyX5_ok ql2_X6_7 qin_X5 qn_TwinBoot_Text dv_X5 (by exact okN) (by exact (okCl (okVr (by omega)) okNl)) (kc' := 102) (ks' := 3763) (by decide) (by decide) (dk_at ktX6_init_0 2 rfl) (b := 7) rfl ?_
  have hc1 := (hz.1 _ (Nat.le_refl _) (by omega)).1
  have hz1 := hz.up (m := (x + 2)) (by omega)
  refine gc_p (p_dup (dk_at ktX6_init_0 3 rfl) rfl (b := 8) rfl) ?_
  refine g_callIN (ci := 0) (N := 0) (C := RX6) (T := TX6) (As' := []) (rest := [.ref (x + 1)]) (s_X5_init (x := x + 1) (by omega) s1 s2 s3 s4 s5 s6 hz1 hc1) (by omega) cwN_X6_9 qi_X5_init rfl (dk_at ktX6_init_0 4 rfl) rfl rfl (Nat.le_of_ble_eq_true rfl) ⟨by decide, by decide, by decide, by decide⟩ (by exact (okC (okVr (by omega)) okN)) (by exact (okCl (okVr (by omega)) okNl)) (b := 11) rfl (fun G2 I2 J2 hq2 hz2 => ?_)
  obtain ⟨rfl, hb2, ht2, hR2, hf2, hT2⟩ := hq2
  refine gc_p (p_astore_n (ls' := [(1, .ref (x + 1)), (0, .ref x)]) (dk_at ktX6_init_0 5 rfl) rfl (by decide) rfl (b := 12) rfl) ?_
  refine g_new hz2 (by omega) (by omega) hD7.1 rfl lay_X0 tyX0_ok ql2_X6_10 qin_X0 qn_TwinBoot_Device dv_X0 (by exact okN) (by exact (okCl (okVr (by omega)) (okCl (okVr (by omega)) okNl))) (kc' := 96) (ks' := 2715) (by decide) (by decide) (dk_at ktX6_init_0 6 rfl) (b := 15) rfl ?_
  have hc7 := (hz2.1 _ (Nat.le_refl _) (by omega)).1
  have hz3 := hz2.up (m := (x + 8)) (by omega)
  refine gc_p (p_dup (dk_at ktX6_init_0 7 rfl) rfl (b := 16) rfl) ?_
  refine g_callIN (ci := 0) (N := 0) (C := RX6) (T := TX6) (As' := []) (rest := [.ref (x + 7)]) (s_X0_init (d := (x + 7)) (by omega) hD7 hz3) (by omega) cwN_X6_12 qi_X0_init rfl (dk_at ktX6_init_0 8 rfl) rfl rfl (Nat.le_of_ble_eq_true rfl) ⟨by decide, by decide, by decide, by decide⟩ (by exact (okC (okVr (by omega)) okN)) (by exact (okCl (okVr (by omega)) (okCl (okVr (by omega)) okNl))) (b := 19) rfl (fun G4 I4 J4 hq4 hz4 => ?_)
  obtain ⟨rfl, rfl, hf4, hG4⟩ := hq4
  refine gc_p (p_astore_n (ls' := [(2, .ref (x + 7)), (1, .ref (x + 1)), (0, .ref x)]) (dk_at ktX6_init_0 9 rfl) rfl (by decide) rfl (b := 20) rfl) ?_
  refine gc_p (p_aload_n 0 (dk_at ktX6_init_0 10 rfl) rfl rfl (b := 21) rfl) ?_
  refine gc_p (p_aload_n 1 (dk_at ktX6_init_0 11 rfl) rfl rfl (b := 22) rfl) ?_
  refine g_geta (id2 := (x + 3)) fl_X6_13 rfl (by omega) s1 (dk_at ktX6_init_0 12 rfl) ((congrFun (hf4 _ (by omega)) 1).trans hT2.g0_1) (b := 25) rfl ?_
  refine g_callV (ci := 3) (As' := [.ref (x + 3)]) (rest := []) (s_X0_begin (d := x + 7) (x := x + 1) (S := SI) (hG4.mono (by omega) (fun id _ _ => rfl)) (hT2.mono (by omega) (fun id _ _ => ((hf4 _ (by omega)).trans rfl))) (by omega) hR2 GS_SI) cw_X6_17 qi_X0_begin qv_X0_begin rfl (by omega) hD7.1 (dk_at ktX6_init_0 13 rfl) rfl rfl (Nat.le_of_ble_eq_true rfl) ⟨by decide, by decide, by decide, by decide⟩ (b := 28) rfl (fun rb Ib Jb hqb => ?_)
  obtain ⟨rfl, rfl, hDb, hFb⟩ := hqb
  have hz5 := hz4.of (fun id hid => hFb id (Or.inr (by omega)))
  refine gc_p (p_aload_n 2 (dk_at ktX6_init_0 14 rfl) rfl rfl (b := 29) rfl) ?_
  refine gc_p (p_aload_n 1 (dk_at ktX6_init_0 15 rfl) rfl rfl (b := 30) rfl) ?_
  refine g_putR (fun _ _ _ _ _ _ _ _ _ h => h.2.1) fl_X6_21 (fwF_w tyX6_ok nmX6 rfl rfl) rfl (by omega) s0 (fun _ => rfl) (fun _ => rfl) (dk_at ktX6_init_0 16 rfl) (b := 33) rfl ?_
  have hz6 := hz5.ug (a := x) (k := 0) (x := (x + 1)) (by omega) (by omega)
  refine gc_p (p_aload_n 2 (dk_at ktX6_init_0 17 rfl) rfl rfl (b := 34) rfl) ?_
  refine gc_p (p_aload_n 0 (dk_at ktX6_init_0 18 rfl) rfl rfl (b := 35) rfl) ?_
  refine g_putR (fun _ _ _ _ _ _ _ _ _ h => h.2.1) fl_X6_27 (fwF_w tyX6_ok nmX6 rfl rfl) rfl (by omega) s0 (fun _ => rfl) (fun _ => rfl) (dk_at ktX6_init_0 19 rfl) (b := 38) rfl ?_
  have hz7 := hz6.ug (a := x) (k := 1) (x := (x + 7)) (by omega) (by omega)
  refine gc_p (p_aload_n 2 (dk_at ktX6_init_0 20 rfl) rfl rfl (b := 39) rfl) ?_
  refine g_new hz7 (by omega) (by omega) hD26.1 rfl lay_X0 tyX0_ok ql2_X6_10 qin_X0 qn_TwinBoot_Device dv_X0 (by exact (okC (okVr (by omega)) okN)) (by exact (okCl (okVr (by omega)) (okCl (okVr (by omega)) (okCl (okVr (by omega)) okNl)))) (kc' := 77) (ks' := 2171) (by decide) (by decide) (dk_at ktX6_init_0 21 rfl) (b := 42) rfl ?_
  have hc26 := (hz7.1 _ (Nat.le_refl _) (by omega)).1
  have hz8 := hz7.up (m := (x + 27)) (by omega)
  refine gc_p (p_dup (dk_at ktX6_init_0 22 rfl) rfl (b := 43) rfl) ?_
  refine g_callIN (ci := 0) (N := 0) (C := RX6) (T := TX6) (As' := []) (rest := [.ref (x + 26), .ref x]) (s_X0_init (d := (x + 26)) (by omega) hD26 hz8) (by omega) cwN_X6_12 qi_X0_init rfl (dk_at ktX6_init_0 23 rfl) rfl rfl (Nat.le_of_ble_eq_true rfl) ⟨by decide, by decide, by decide, by decide⟩ (by exact (okC (okVr (by omega)) (okC (okVr (by omega)) okN))) (by exact (okCl (okVr (by omega)) (okCl (okVr (by omega)) (okCl (okVr (by omega)) okNl)))) (b := 46) rfl (fun G9 I9 J9 hq9 hz9 => ?_)
  obtain ⟨rfl, rfl, hf9, hG9⟩ := hq9
  refine g_putR (fun _ _ _ _ _ _ _ _ _ h => h.2.1) fl_X6_31 (fwF_w tyX6_ok nmX6 rfl rfl) rfl (by omega) s0 (fun _ => rfl) (fun _ => rfl) (dk_at ktX6_init_0 24 rfl) (b := 49) rfl ?_
  have hz10 := hz9.ug (a := x) (k := 2) (x := (x + 26)) (by omega) (by omega)
  refine gc_p (p_aload_n 2 (dk_at ktX6_init_0 25 rfl) rfl rfl (b := 50) rfl) ?_
  refine g_new hz10 (by omega) (by omega) hD45.1 rfl lay_X0 tyX0_ok ql2_X6_10 qin_X0 qn_TwinBoot_Device dv_X0 (by exact (okC (okVr (by omega)) okN)) (by exact (okCl (okVr (by omega)) (okCl (okVr (by omega)) (okCl (okVr (by omega)) okNl)))) (kc' := 58) (ks' := 1627) (by decide) (by decide) (dk_at ktX6_init_0 26 rfl) (b := 53) rfl ?_
  have hc45 := (hz10.1 _ (Nat.le_refl _) (by omega)).1
  have hz11 := hz10.up (m := (x + 46)) (by omega)
  refine gc_p (p_dup (dk_at ktX6_init_0 27 rfl) rfl (b := 54) rfl) ?_
  refine g_callIN (ci := 0) (N := 0) (C := RX6) (T := TX6) (As' := []) (rest := [.ref (x + 45), .ref x]) (s_X0_init (d := (x + 45)) (by omega) hD45 hz11) (by omega) cwN_X6_12 qi_X0_init rfl (dk_at ktX6_init_0 28 rfl) rfl rfl (Nat.le_of_ble_eq_true rfl) ⟨by decide, by decide, by decide, by decide⟩ (by exact (okC (okVr (by omega)) (okC (okVr (by omega)) okN))) (by exact (okCl (okVr (by omega)) (okCl (okVr (by omega)) (okCl (okVr (by omega)) okNl)))) (b := 57) rfl (fun G12 I12 J12 hq12 hz12 => ?_)
  obtain ⟨rfl, rfl, hf12, hG12⟩ := hq12
  refine g_putR (fun _ _ _ _ _ _ _ _ _ h => h.2.1) fl_X6_34 (fwF_w tyX6_ok nmX6 rfl rfl) rfl (by omega) s0 (fun _ => rfl) (fun _ => rfl) (dk_at ktX6_init_0 29 rfl) (b := 60) rfl ?_
  have hz13 := hz12.ug (a := x) (k := 3) (x := (x + 45)) (by omega) (by omega)
  refine gc_p (p_aload_n 2 (dk_at ktX6_init_0 30 rfl) rfl rfl (b := 61) rfl) ?_
  refine gc_p (p_iconst (v := (nI 2)) (dk_at ktX6_init_0 31 rfl) (by decide) (b := 62) rfl) ?_
  refine g_anew (a := 2) hz13 (by omega) (by omega) s64 (by decide) ql2_X6_10 (by exact (okC (okVr (by omega)) okN)) (by exact (okCl (okVr (by omega)) (okCl (okVr (by omega)) (okCl (okVr (by omega)) okNl)))) (kc' := 39) (ks' := 1090) (by decide) (by decide) (dk_at ktX6_init_0 32 rfl) (b := 65) rfl ?_
  have hz14 := hz13.up (m := (x + 65)) (by omega)
  refine gc_p (p_dup (dk_at ktX6_init_0 33 rfl) rfl (b := 66) rfl) ?_
  refine gc_p (p_iconst (v := (nI 0)) (dk_at ktX6_init_0 34 rfl) (by decide) (b := 67) rfl) ?_
  refine g_new hz14 (by omega) (by omega) hD65.1 rfl lay_X0 tyX0_ok ql2_X6_10 qin_X0 qn_TwinBoot_Device dv_X0 (by exact (okC okVi (okC (okVr (by omega)) (okC (okVr (by omega)) (okC (okVr (by omega)) okN))))) (by exact (okCl (okVr (by omega)) (okCl (okVr (by omega)) (okCl (okVr (by omega)) okNl)))) (kc' := 38) (ks' := 1081) (by decide) (by decide) (dk_at ktX6_init_0 35 rfl) (b := 70) rfl ?_
  have hc65 := (hz14.1 _ (Nat.le_refl _) (by omega)).1
  have hz15 := hz14.up (m := (x + 66)) (by omega)
  refine gc_p (p_dup (dk_at ktX6_init_0 36 rfl) rfl (b := 71) rfl) ?_
  refine g_callIN (ci := 0) (N := 0) (C := RX6) (T := TX6) (As' := []) (rest := [.ref (x + 65), .int (nI 0), .ref (x + 64), .ref (x + 64), .ref x]) (s_X0_init (d := (x + 65)) (by omega) hD65 hz15) (by omega) cwN_X6_12 qi_X0_init rfl (dk_at ktX6_init_0 37 rfl) rfl rfl (Nat.le_of_ble_eq_true rfl) ⟨by decide, by decide, by decide, by decide⟩ (by exact (okC (okVr (by omega)) (okC okVi (okC (okVr (by omega)) (okC (okVr (by omega)) (okC (okVr (by omega)) okN)))))) (by exact (okCl (okVr (by omega)) (okCl (okVr (by omega)) (okCl (okVr (by omega)) okNl)))) (b := 74) rfl (fun G16 I16 J16 hq16 hz16 => ?_)
  obtain ⟨rfl, rfl, hf16, hG16⟩ := hq16
  refine g_aast (j := 0) (by omega) s64 (by omega) hD65.1 (dk_at ktX6_init_0 38 rfl) ⟨by decide, by decide⟩ (b := 75) rfl ?_
  have hz17 := hz16.ug (a := (x + 64)) (k := 0) (x := (x + 65)) (by omega) (by omega)
  refine gc_p (p_dup (dk_at ktX6_init_0 39 rfl) rfl (b := 76) rfl) ?_
  refine gc_p (p_iconst (v := (nI 1)) (dk_at ktX6_init_0 40 rfl) (by decide) (b := 77) rfl) ?_
  refine g_new hz17 (by omega) (by omega) hD84.1 rfl lay_X0 tyX0_ok ql2_X6_10 qin_X0 qn_TwinBoot_Device dv_X0 (by exact (okC okVi (okC (okVr (by omega)) (okC (okVr (by omega)) (okC (okVr (by omega)) okN))))) (by exact (okCl (okVr (by omega)) (okCl (okVr (by omega)) (okCl (okVr (by omega)) okNl)))) (kc' := 19) (ks' := 537) (by decide) (by decide) (dk_at ktX6_init_0 41 rfl) (b := 80) rfl ?_
  have hc84 := (hz17.1 _ (Nat.le_refl _) (by omega)).1
  have hz18 := hz17.up (m := (x + 85)) (by omega)
  refine gc_p (p_dup (dk_at ktX6_init_0 42 rfl) rfl (b := 81) rfl) ?_
  refine g_callIN (ci := 0) (N := 0) (C := RX6) (T := TX6) (As' := []) (rest := [.ref (x + 84), .int (nI 1), .ref (x + 64), .ref (x + 64), .ref x]) (s_X0_init (d := (x + 84)) (by omega) hD84 hz18) (by omega) cwN_X6_12 qi_X0_init rfl (dk_at ktX6_init_0 43 rfl) rfl rfl (Nat.le_of_ble_eq_true rfl) ⟨by decide, by decide, by decide, by decide⟩ (by exact (okC (okVr (by omega)) (okC okVi (okC (okVr (by omega)) (okC (okVr (by omega)) (okC (okVr (by omega)) okN)))))) (by exact (okCl (okVr (by omega)) (okCl (okVr (by omega)) (okCl (okVr (by omega)) okNl)))) (b := 84) rfl (fun G19 I19 J19 hq19 hz19 => ?_)
  obtain ⟨rfl, rfl, hf19, hG19⟩ := hq19
  refine g_aast (j := 1) (by omega) s64 (by omega) hD84.1 (dk_at ktX6_init_0 44 rfl) ⟨by decide, by decide⟩ (b := 85) rfl ?_
  have hz20 := hz19.ug (a := (x + 64)) (k := 1) (x := (x + 84)) (by omega) (by omega)
  refine g_putR (fun _ _ _ _ _ _ _ _ _ h => h.2.1) fl_X6_37 (fwF_w tyX6_ok nmX6 rfl rfl) rfl (by omega) s0 (fun _ => rfl) (fun _ => rfl) (dk_at ktX6_init_0 45 rfl) (b := 88) rfl ?_
  have hz21 := hz20.ug (a := x) (k := 4) (x := (x + 64)) (by omega) (by omega)
  refine gc_p (p_aload_n 2 (dk_at ktX6_init_0 46 rfl) rfl rfl (b := 89) rfl) ?_
  refine gc_p (p_iconst (v := (nI 2)) (dk_at ktX6_init_0 47 rfl) (by decide) (b := 90) rfl) ?_
  refine g_newi (atype := .boolean) (t := 2) (len := 2) hz21 (by omega) (by omega) s103 (by decide) (Or.inr (Or.inr ⟨rfl, rfl⟩)) qac_boolean (by exact (okC (okVr (by omega)) okN)) (by exact (okCl (okVr (by omega)) (okCl (okVr (by omega)) (okCl (okVr (by omega)) okNl)))) (kc' := 0) (ks' := 0) (by decide) (by decide) (dk_at ktX6_init_0 48 rfl) (b := 92) rfl ?_
  have hc103 := (hz21.1 _ (Nat.le_refl _) (by omega)).1
  have hz22 := hz21.up (m := (x + 104)) (by omega)
  refine g_putR (fun _ _ _ _ _ _ _ _ _ h => h.2.1) fl_X6_41 (fwF_w tyX6_ok nmX6 rfl rfl) rfl (by omega) s0 (fun _ => rfl) (fun _ => rfl) (dk_at ktX6_init_0 49 rfl) (b := 95) rfl ?_
  have hz23 := hz22.ug (a := x) (k := 5) (x := (x + 103)) (by omega) (by omega)
  refine g_iret (dk_at ktX6_init_0 50 rfl) ?_ hz23
  refine ⟨rfl, fun b hb => (hFb b (Or.inl (by omega))).trans (hb2 b (by omega)), fun k => (congrFun (hFb (x + 1) (Or.inl (by omega))) k).trans (ht2 k), hDb, hc103, fun id h => ((upG_off (by omega)).trans ((upG_off (by omega)).trans ((upG_off (by omega)).trans ((hf19 _ (by omega)).trans ((upG_off (by omega)).trans ((hf16 _ (by omega)).trans ((upG_off (by omega)).trans ((hf12 _ (by omega)).trans ((upG_off (by omega)).trans ((hf9 _ (by omega)).trans ((upG_off (by omega)).trans ((upG_off (by omega)).trans ((hf4 _ (by omega)).trans ((hf2 _ (by omega)).trans rfl)))))))))))))), ?_⟩
  exact ⟨Nat.le_refl _, s0, hT2.mono (by omega) (fun id _ _ => ((upG_off (by omega)).trans ((upG_off (by omega)).trans ((upG_off (by omega)).trans ((hf19 _ (by omega)).trans ((upG_off (by omega)).trans ((hf16 _ (by omega)).trans ((upG_off (by omega)).trans ((hf12 _ (by omega)).trans ((upG_off (by omega)).trans ((hf9 _ (by omega)).trans ((upG_off (by omega)).trans ((upG_off (by omega)).trans ((hf4 _ (by omega)).trans rfl)))))))))))))), hG4.mono (by omega) (fun id _ _ => ((upG_off (by omega)).trans ((upG_off (by omega)).trans ((upG_off (by omega)).trans ((hf19 _ (by omega)).trans ((upG_off (by omega)).trans ((hf16 _ (by omega)).trans ((upG_off (by omega)).trans ((hf12 _ (by omega)).trans ((upG_off (by omega)).trans ((hf9 _ (by omega)).trans ((upG_off (by omega)).trans ((upG_off (by omega)).trans rfl))))))))))))), hG9.mono (by omega) (fun id _ _ => ((upG_off (by omega)).trans ((upG_off (by omega)).trans ((upG_off (by omega)).trans ((hf19 _ (by omega)).trans ((upG_off (by omega)).trans ((hf16 _ (by omega)).trans ((upG_off (by omega)).trans ((hf12 _ (by omega)).trans ((upG_off (by omega)).trans rfl)))))))))), hG12.mono (by omega) (fun id _ _ => ((upG_off (by omega)).trans ((upG_off (by omega)).trans ((upG_off (by omega)).trans ((hf19 _ (by omega)).trans ((upG_off (by omega)).trans ((hf16 _ (by omega)).trans ((upG_off (by omega)).trans rfl)))))))), s64, hG16.mono (by omega) (fun id _ _ => ((upG_off (by omega)).trans ((upG_off (by omega)).trans ((upG_off (by omega)).trans ((hf19 _ (by omega)).trans ((upG_off (by omega)).trans rfl)))))), hG19.mono (by omega) (fun id _ _ => ((upG_off (by omega)).trans ((upG_off (by omega)).trans ((upG_off (by omega)).trans rfl)))), s103, ((upG_n (by omega)).trans ((upG_n (by omega)).trans ((upG_n (by omega)).trans ((congrFun (hf19 _ (by omega)) 0).trans ((upG_n (by omega)).trans ((congrFun (hf16 _ (by omega)) 0).trans ((upG_n (by omega)).trans ((congrFun (hf12 _ (by omega)) 0).trans ((upG_n (by omega)).trans ((congrFun (hf9 _ (by omega)) 0).trans ((upG_n (by omega)).trans upG_s))))))))))), ((upG_n (by omega)).trans ((upG_n (by omega)).trans ((upG_n (by omega)).trans ((congrFun (hf19 _ (by omega)) 1).trans ((upG_n (by omega)).trans ((congrFun (hf16 _ (by omega)) 1).trans ((upG_n (by omega)).trans ((congrFun (hf12 _ (by omega)) 1).trans ((upG_n (by omega)).trans ((congrFun (hf9 _ (by omega)) 1).trans upG_s)))))))))), ((upG_n (by omega)).trans ((upG_n (by omega)).trans ((upG_n (by omega)).trans ((congrFun (hf19 _ (by omega)) 2).trans ((upG_n (by omega)).trans ((congrFun (hf16 _ (by omega)) 2).trans ((upG_n (by omega)).trans ((congrFun (hf12 _ (by omega)) 2).trans upG_s)))))))), ((upG_n (by omega)).trans ((upG_n (by omega)).trans ((upG_n (by omega)).trans ((congrFun (hf19 _ (by omega)) 3).trans ((upG_n (by omega)).trans ((congrFun (hf16 _ (by omega)) 3).trans upG_s)))))), ((upG_n (by omega)).trans upG_s), upG_s, ((upG_n (by omega)).trans ((upG_n (by omega)).trans ((upG_n (by omega)).trans ((congrFun (hf19 _ (by omega)) 0).trans upG_s)))), ((upG_n (by omega)).trans ((upG_n (by omega)).trans upG_s))⟩

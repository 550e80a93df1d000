/-! THE LAW: boots -/
theorem rs_sv0 {σ τ : sT} {sn : Nat → Option sT} : rsT 0 τ (svS 0 σ sn) = σ := rfl
theorem rs_sv1 {σ τ : sT} {sn : Nat → Option sT} : rsT 1 τ (svS 1 σ sn) = σ := rfl
theorem pow_m {σ : sT} : t_power σ (-1) = upd σ 6 (-1) := rfl
theorem pow_0 {σ : sT} : t_power σ 0 = upd σ 6 0 := rfl
theorem pow_in {j : Nat} (h : j < 100001) : inI (nI j) (-1) 100000 = true := by
  unfold inI
  rw [Bool.and_eq_true]
  refine ⟨decide_eq_true (Int32.le_iff_toInt_le.mpr ?_), decide_eq_true ((nI_leI (b := 100000) (by omega) (by decide)).mpr (by omega))⟩
  rw [nI_toInt (by omega)]
  have : (-1 : Int32).toInt = -1 := by decide
  omega
theorem pow_n {σ : sT} {j : Nat} (h : j < 100001) : t_power σ (nI j) = upd σ 6 (nI j) := if_pos (pow_in h)
theorem pow_c {j : Nat} (h : j < 100001) : cIn (nI j) (-1) 100000 = 0 := cIn_t (pow_in h)
theorem max0 {j : Nat} (h : j < 2 ^ 31) : (if 0 < nI j then nI j else 0) = nI j := by
  by_cases q : 0 < j
  · exact if_pos ((nI_ltI (a := 0) (by decide) h).mpr q)
  · obtain rfl : j = 0 := by omega
    rfl
theorem boot_run {σ : sT} (h : Inv σ) (q : ¬ (fBoot (upd σ 6 (-1))).1 < 0) : (fBoot (upd σ 6 (-1))).2 8 = (fBoot (upd σ 6 (-1))).1 := by
  rcases boot_m h with ⟨_, e⟩ | ⟨e, _⟩
  · exact e
  · exact absurd e q
theorem boot_wait {σ : sT} (h : Inv σ) (q : (fBoot (upd σ 6 (-1))).1 < 0) : (fBoot (upd σ 6 (-1))).2 7 = 2 := by
  rcases boot_m h with ⟨e, _⟩ | ⟨_, e⟩
  · exact absurd q (Int32.not_lt.mpr e)
  · exact e
theorem qmax_sL : Cond.static Lib.Math.max.name ∈ TT := qs_J9_max_7cf53

set_option maxRecDepth 4000 in
set_option maxHeartbeats 4000000 in
theorem bo_n {n : Nat} {sh : mS} {G : mG} {J : mJ} {B : Nat} {σ : sT} {sn : Nat → Option sT} (hB : Bt n sh G) (hI : Inv σ) (hG : Gd σ) (hBb : B + 100 < 1000000) : ∀ (I : mI), LwR (B + 6) I (fBoot (upd σ 6 (-1))).2 (svS 0 (σ) (sn)) → Rc RL cL_boots 8 (some FieldType.boolean) 10 390 400 2400 n sh G (Qi (fun r_ I_ J_ => 1 = r_ ∧ J = J_ ∧ ∃ sn_, LwR (B + 12) I_ σ sn_)) nX 150 900 119 [(0, .ref 0), (1, .long (whF σ)), (3, .int ((fBoot (upd σ 6 (-1))).1)), (4, .int (a_bop σ)), (5, .int (-1))] [] I J := by
  intro I hL
  refine rc_p (p_aload_n 0 (dk_at ktL_boots_1 3 rfl) rfl rfl (b := 120) rfl) ?_
  refine rc_p (p_iconst (v := 0) (dk_at ktL_boots_1 4 rfl) (by decide) (b := 121) rfl) ?_
  refine q_res (As' := [.int 0]) (rest := []) (fun T N hT hR => s_X6_restoreSnapshot hB hR hI.pm.boot hT hL.2 0) hL (by decide) hB cw_L_174 qi_X6_restoreSnapshot qv_X6_restoreSnapshot (dk_at ktL_boots_1 5 rfl) rfl rfl (by decide) ⟨by decide, Nat.le_of_ble_eq_true rfl⟩ (b := 124) rfl (kc' := 149) (ks' := 894) (Nat.le_of_ble_eq_true rfl) (Nat.le_of_ble_eq_true rfl) (fun I1 hI1 => ?_)
  have hI1 : LwR (B + 6) I1 (σ) (svS 0 (σ) (sn)) := hI1
  refine rc_p (p_pop (dk_at ktL_boots_1 6 rfl) rfl (b := 125) rfl) ?_
  refine rc_p (p_aload_n 0 (dk_at ktL_boots_1 7 rfl) rfl rfl (b := 126) rfl) ?_
  refine rc_p (p_iconst (v := 0) (dk_at ktL_boots_1 8 rfl) (by decide) (b := 127) rfl) ?_
  refine rc_p (p_iload 4 (dk_at ktL_boots_1 9 rfl) rfl (b := 129) rfl) ?_
  refine r_mmax (v := 0) qm_L_177 qmax_s qmath_n qmax_c (dk_at ktL_boots_1 10 rfl) ⟨by decide, Nat.le_of_ble_eq_true rfl⟩ (by decide) (b := 132) rfl ?_
  refine q_code (As' := [.int 0]) (rest := []) (e := 0) (σ' := t_power (σ) 0) (fun T N hT hR => s_X6_setPower hB hR hI 0) hI1 (by decide) hB cw_L_61 qi_X6_setPower qv_X6_setPower (dk_at ktL_boots_1 11 rfl) rfl rfl (by decide) ⟨by decide, Nat.le_of_ble_eq_true rfl⟩ (b := 135) rfl (kc' := 148) (ks' := 888) (Nat.le_of_ble_eq_true rfl) (Nat.le_of_ble_eq_true rfl) (fun I3 hI3 => ?_)
  have hI3 : LwR (B + 6) I3 (t_power (σ) 0) (svS 0 (σ) (sn)) := hI3
  have hI3 : LwR (B + 6) I3 (upd σ 6 0) (svS 0 (σ) (sn)) := hI3
  refine rc_p (p_pop (dk_at ktL_boots_1 12 rfl) rfl (b := 136) rfl) ?_
  refine rc_p (p_iload 4 (dk_at ktL_boots_1 13 rfl) rfl (b := 138) rfl) ?_
  refine r_if_lt (dk_at ktL_boots_1 14 rfl) (b := 174) (by decide) (b2 := 141) rfl (fun c138 => ?_) (fun c138 => ?_)
  · skip
    refine rc_p (p_aload_n 0 (dk_at ktL_boots_1 31 rfl) rfl rfl (b := 175) rfl) ?_
    refine rc_p (p_iconst (v := 0) (dk_at ktL_boots_1 32 rfl) (by decide) (b := 176) rfl) ?_
    refine q_res (As' := [.int 0]) (rest := []) (fun T N hT hR => s_X6_restoreSnapshot hB hR (hI.p6 (by decide)) hT hI3.2 0) hI3 (by decide) hB cw_L_174 qi_X6_restoreSnapshot qv_X6_restoreSnapshot (dk_at ktL_boots_1 33 rfl) rfl rfl (by decide) ⟨by decide, Nat.le_of_ble_eq_true rfl⟩ (b := 179) rfl (kc' := 147) (ks' := 882) (Nat.le_of_ble_eq_true rfl) (Nat.le_of_ble_eq_true rfl) (fun I4 hI4 => ?_)
    have hI4 : LwR (B + 6) I4 (σ) (svS 0 (σ) (sn)) := hI4
    refine rc_p (p_pop (dk_at ktL_boots_1 34 rfl) rfl (b := 180) rfl) ?_
    refine rc_p (p_aload_n 0 (dk_at ktL_boots_1 35 rfl) rfl rfl (b := 181) rfl) ?_
    refine r_lV (A := 0) (As' := [.ref 0]) (rest := []) (s_L_whole hB hI4 hI hG) cwL_whole qs_L_whole (dk_at ktL_boots_1 36 rfl) rfl rfl (by decide) ⟨by decide, Nat.le_of_ble_eq_true rfl⟩ (b := 184) rfl (kc' := 47) (ks' := 282) (Nat.le_of_ble_eq_true rfl) (Nat.le_of_ble_eq_true rfl) (fun v6 I5 J7 q8 => ?_)
    obtain ⟨rfl, rfl, hI5⟩ := q8
    refine rc_p (p_lload_n 1 (dk_at ktL_boots_1 37 rfl) rfl rfl (b := 185) rfl) ?_
    refine rc_p (p_lcmp (dk_at ktL_boots_1 38 rfl) (b := 186) rfl) ?_
    refine r_if_ne (dk_at ktL_boots_1 39 rfl) (b := 193) (by decide) (b2 := 189) rfl (fun c186 => ?_) (fun c186 => ?_)
    · have c186 := fun h => c186 ((lg_cmp_eq _ _).mpr h)
      exact absurd rfl c186
    · have c186 := (lg_cmp_eq _ _).mp c186
      refine rc_p (p_iconst (v := 1) (dk_at ktL_boots_1 40 rfl) (by decide) (b := 190) rfl) ?_
      refine rc_p (p_goto (b := 194) (dk_at ktL_boots_1 41 rfl) (by decide)) ?_
      refine r_iret (dk_at ktL_boots_1 43 rfl) rfl rfl ⟨_, rfl, ?_⟩
      exact ⟨rfl, rfl, _, hI5.le (by omega)⟩
  · first | exact absurd c138 (by decide) | exact absurd (by decide) c138
set_option maxRecDepth 4000 in
set_option maxHeartbeats 4000000 in
theorem bo_j {n : Nat} {sh : mS} {G : mG} {J : mJ} {B : Nat} {σ : sT} {sn : Nat → Option sT} (hB : Bt n sh G) (hI : Inv σ) (hG : Gd σ) (hBb : B + 100 < 1000000) {j : Nat} (hj : j < 1001) (h1 : nI j < a_bop σ) (h2 : (fBoot (upd σ 6 (nI j))).1 = -4) (h3 : ¬ fbW σ j = (fBoot (upd σ 6 (-1))).1) : ∀ (I : mI), LwR (B + 6) I (fBoot (upd σ 6 (-1))).2 (svS 0 (σ) (sn)) → Rc RL cL_boots 8 (some FieldType.boolean) 10 390 400 2400 n sh G (Qi (fun r_ I_ J_ => 1 = r_ ∧ J = J_ ∧ ∃ sn_, LwR (B + 12) I_ σ sn_)) nX 150 900 119 [(0, .ref 0), (1, .long (whF σ)), (3, .int ((fBoot (upd σ 6 (-1))).1)), (4, .int (a_bop σ)), (5, .int (nI j))] [] I J := by
  intro I hL
  have hIj : Inv (upd σ 6 (nI j)) := hI.pn (by omega)
  refine rc_p (p_aload_n 0 (dk_at ktL_boots_1 3 rfl) rfl rfl (b := 120) rfl) ?_
  refine rc_p (p_iconst (v := 0) (dk_at ktL_boots_1 4 rfl) (by decide) (b := 121) rfl) ?_
  refine q_res (As' := [.int 0]) (rest := []) (fun T N hT hR => s_X6_restoreSnapshot hB hR hI.pm.boot hT hL.2 0) hL (by decide) hB cw_L_174 qi_X6_restoreSnapshot qv_X6_restoreSnapshot (dk_at ktL_boots_1 5 rfl) rfl rfl (by decide) ⟨by decide, Nat.le_of_ble_eq_true rfl⟩ (b := 124) rfl (kc' := 149) (ks' := 894) (Nat.le_of_ble_eq_true rfl) (Nat.le_of_ble_eq_true rfl) (fun I1 hI1 => ?_)
  have hI1 : LwR (B + 6) I1 (σ) (svS 0 (σ) (sn)) := hI1
  refine rc_p (p_pop (dk_at ktL_boots_1 6 rfl) rfl (b := 125) rfl) ?_
  refine rc_p (p_aload_n 0 (dk_at ktL_boots_1 7 rfl) rfl rfl (b := 126) rfl) ?_
  refine rc_p (p_iconst (v := 0) (dk_at ktL_boots_1 8 rfl) (by decide) (b := 127) rfl) ?_
  refine rc_p (p_iload 4 (dk_at ktL_boots_1 9 rfl) rfl (b := 129) rfl) ?_
  refine r_mmax (v := (nI j)) qm_L_177 qmax_s qmath_n qmax_c (dk_at ktL_boots_1 10 rfl) ⟨by decide, Nat.le_of_ble_eq_true rfl⟩ (max0 (by omega)) (b := 132) rfl ?_
  refine q_code (As' := [.int (nI j)]) (rest := []) (e := 0) (σ' := t_power (σ) (nI j)) (fun T N hT hR => s_X6_setPower hB hR hI (nI j)) hI1 (pow_c (by omega)) hB cw_L_61 qi_X6_setPower qv_X6_setPower (dk_at ktL_boots_1 11 rfl) rfl rfl (by decide) ⟨by decide, Nat.le_of_ble_eq_true rfl⟩ (b := 135) rfl (kc' := 148) (ks' := 888) (Nat.le_of_ble_eq_true rfl) (Nat.le_of_ble_eq_true rfl) (fun I3 hI3 => ?_)
  have hI3 : LwR (B + 6) I3 (t_power (σ) (nI j)) (svS 0 (σ) (sn)) := hI3
  have hI3 : LwR (B + 6) I3 (upd σ 6 (nI j)) (svS 0 (σ) (sn)) := by rw [← pow_n (by omega)]; exact hI3
  refine rc_p (p_pop (dk_at ktL_boots_1 12 rfl) rfl (b := 136) rfl) ?_
  refine rc_p (p_iload 4 (dk_at ktL_boots_1 13 rfl) rfl (b := 138) rfl) ?_
  refine r_if_lt (dk_at ktL_boots_1 14 rfl) (b := 174) (by decide) (b2 := 141) rfl (fun c138 => ?_) (fun c138 => ?_)
  · have c138 : j < 0 := (nI_ltI (a := j) (b := 0) (by omega) (by omega)).mp c138
    exfalso; omega
  · have c138 : ¬ j < 0 := fun h => c138 ((nI_ltI (a := j) (b := 0) (by omega) (by omega)).mpr h)
    refine rc_p (p_iload 4 (dk_at ktL_boots_1 15 rfl) rfl (b := 143) rfl) ?_
    refine rc_p (p_iload 3 (dk_at ktL_boots_1 16 rfl) rfl (b := 145) rfl) ?_
    refine r_icmp_ge (dk_at ktL_boots_1 17 rfl) (b := 172) (by decide) (b2 := 148) rfl (fun c145 => ?_) (fun c145 => ?_)
    · skip
      exact absurd h1 (Int32.not_lt.mpr c145)
    · skip
      refine rc_p (p_aload_n 0 (dk_at ktL_boots_1 18 rfl) rfl rfl (b := 149) rfl) ?_
      refine q_plain (As' := []) (rest := []) (e := 6) (σ' := (fBoot (upd σ 6 (nI j))).2) (fun T N hT hR => s_X6_boot hB hR hIj (by omega)) hI3 hB cw_L_39 qi_X6_boot qv_X6_boot (dk_at ktL_boots_1 19 rfl) rfl rfl (by decide) ⟨by decide, Nat.le_of_ble_eq_true rfl⟩ (b := 152) rfl (fun I4 hI4 => ?_)
      refine r_val (y := (-4)) h2 ?_
      refine rc_p (p_bipush (v := (-4)) (dk_at ktL_boots_1 20 rfl) (by decide) (b := 154) rfl) ?_
      refine r_icmp_ne (dk_at ktL_boots_1 21 rfl) (b := 172) (by decide) (b2 := 157) rfl (fun c154 => ?_) (fun c154 => ?_)
      · first | exact absurd c154 (by decide) | exact absurd (by decide) c154
      · skip
        refine rc_p (p_aload_n 0 (dk_at ktL_boots_1 22 rfl) rfl rfl (b := 158) rfl) ?_
        refine q_plain (As' := []) (rest := []) (e := 0) (σ' := (fBoot (upd σ 6 (nI j))).2) (fun T N hT hR => s_X6_state hB hR hIj.boot) hI4 hB cw_L_84 qi_X6_state qv_X6_state (dk_at ktL_boots_1 23 rfl) rfl rfl (by decide) ⟨by decide, Nat.le_of_ble_eq_true rfl⟩ (b := 161) rfl (fun I5 hI5 => ?_)
        have hI5 : LwR (B + 6 + 6) I5 ((fBoot (upd σ 6 (nI j))).2) (svS 0 (σ) (sn)) := hI5
        refine r_val (y := 0) ((be_boot hIj).1 h2) ?_
        refine r_if_ne (dk_at ktL_boots_1 24 rfl) (b := 172) (by decide) (b2 := 164) rfl (fun c161 => ?_) (fun c161 => ?_)
        · first | exact absurd c161 (by decide) | exact absurd (by decide) c161
        · skip
          refine rc_p (p_aload_n 0 (dk_at ktL_boots_1 25 rfl) rfl rfl (b := 165) rfl) ?_
          refine q_prd (As' := []) (rest := []) (fun T N hT hR => s_X6_bootWould hB hR hIj.boot (by omega)) hI5 hB cw_L_159 qi_X6_bootWould qv_X6_bootWould (dk_at ktL_boots_1 26 rfl) rfl rfl (by decide) ⟨by decide, Nat.le_of_ble_eq_true rfl⟩ (b := 168) rfl (fun I6 hI6 => ?_)
          refine rc_p (p_iload_n 2 (dk_at ktL_boots_1 27 rfl) rfl rfl (b := 169) rfl) ?_
          refine r_icmp_ne (dk_at ktL_boots_1 28 rfl) (b := 174) (by decide) (b2 := 172) rfl (fun c169 => ?_) (fun c169 => ?_)
          · skip
            refine rc_p (p_aload_n 0 (dk_at ktL_boots_1 31 rfl) rfl rfl (b := 175) rfl) ?_
            refine rc_p (p_iconst (v := 0) (dk_at ktL_boots_1 32 rfl) (by decide) (b := 176) rfl) ?_
            refine q_res (As' := [.int 0]) (rest := []) (fun T N hT hR => s_X6_restoreSnapshot hB hR hIj.boot hT hI6.2 0) hI6 (by decide) hB cw_L_174 qi_X6_restoreSnapshot qv_X6_restoreSnapshot (dk_at ktL_boots_1 33 rfl) rfl rfl (by decide) ⟨by decide, Nat.le_of_ble_eq_true rfl⟩ (b := 179) rfl (kc' := 147) (ks' := 882) (Nat.le_of_ble_eq_true rfl) (Nat.le_of_ble_eq_true rfl) (fun I7 hI7 => ?_)
            have hI7 : LwR (B + 6 + 6) I7 (σ) (svS 0 (σ) (sn)) := hI7
            refine rc_p (p_pop (dk_at ktL_boots_1 34 rfl) rfl (b := 180) rfl) ?_
            refine rc_p (p_aload_n 0 (dk_at ktL_boots_1 35 rfl) rfl rfl (b := 181) rfl) ?_
            refine r_lV (A := 0) (As' := [.ref 0]) (rest := []) (s_L_whole hB hI7 hI hG) cwL_whole qs_L_whole (dk_at ktL_boots_1 36 rfl) rfl rfl (by decide) ⟨by decide, Nat.le_of_ble_eq_true rfl⟩ (b := 184) rfl (kc' := 47) (ks' := 282) (Nat.le_of_ble_eq_true rfl) (Nat.le_of_ble_eq_true rfl) (fun v9 I8 J10 q11 => ?_)
            obtain ⟨rfl, rfl, hI8⟩ := q11
            refine rc_p (p_lload_n 1 (dk_at ktL_boots_1 37 rfl) rfl rfl (b := 185) rfl) ?_
            refine rc_p (p_lcmp (dk_at ktL_boots_1 38 rfl) (b := 186) rfl) ?_
            refine r_if_ne (dk_at ktL_boots_1 39 rfl) (b := 193) (by decide) (b2 := 189) rfl (fun c186 => ?_) (fun c186 => ?_)
            · have c186 := fun h => c186 ((lg_cmp_eq _ _).mpr h)
              exact absurd rfl c186
            · have c186 := (lg_cmp_eq _ _).mp c186
              refine rc_p (p_iconst (v := 1) (dk_at ktL_boots_1 40 rfl) (by decide) (b := 190) rfl) ?_
              refine rc_p (p_goto (b := 194) (dk_at ktL_boots_1 41 rfl) (by decide)) ?_
              refine r_iret (dk_at ktL_boots_1 43 rfl) rfl rfl ⟨_, rfl, ?_⟩
              exact ⟨rfl, rfl, _, hI8.le (by omega)⟩
          · skip
            exact absurd c169 h3
set_option maxRecDepth 4000 in
set_option maxHeartbeats 4000000 in
theorem s_L_boots {n : Nat} {sh : mS} {G : mG} {I : mI} {J : mJ} {B : Nat} {σ : sT} {sn : Nat → Option sT} (hB : Bt n sh G) (hL : LwR B I σ sn) (hI : Inv σ) (hG : Gd σ) (hBb : B + 100 < 1000000) : Sp yL_boots cL_boots 8 (some FieldType.boolean) 10 390 400 2400 [.ref 0] n sh G I J (Qi (fun r_ I_ J_ => 1 = r_ ∧ J = J_ ∧ ∃ sn_, LwR (B + 12) I_ σ sn_)) nX := by
  refine Sp.of (by decide) (ls := [(0, .ref 0)]) (fun _ => rfl) (fun _ => Nat.le_of_ble_eq_true rfl) ?_
  refine rc_p (p_aload_n 0 (dk_at ktL_boots_0 0 rfl) rfl rfl (b := 1) rfl) ?_
  refine r_lV (A := 0) (As' := [.ref 0]) (rest := []) (s_L_whole hB hL hI hG) cwL_whole qs_L_whole (dk_at ktL_boots_0 1 rfl) rfl rfl (by decide) ⟨by decide, Nat.le_of_ble_eq_true rfl⟩ (b := 4) rfl (kc' := 300) (ks' := 1800) (Nat.le_of_ble_eq_true rfl) (Nat.le_of_ble_eq_true rfl) (fun v2 I1 J3 q4 => ?_)
  obtain ⟨rfl, rfl, hI1⟩ := q4
  refine rc_p (p_lstore_n (ls' := [(1, .long (whF (σ))), (0, .ref 0)]) (dk_at ktL_boots_0 2 rfl) rfl (by decide) rfl (b := 5) rfl) ?_
  refine rc_p (p_aload_n 1 (dk_at ktL_boots_0 3 rfl) rfl rfl (b := 6) rfl) ?_
  refine q_prd (As' := []) (rest := []) (fun T N hT hR => s_X6_bootWould hB hR hI (by omega)) hI1 hB cw_L_159 qi_X6_bootWould qv_X6_bootWould (dk_at ktL_boots_0 4 rfl) rfl rfl (by decide) ⟨by decide, Nat.le_of_ble_eq_true rfl⟩ (b := 9) rfl (fun I5 hI5 => ?_)
  refine rc_p (p_istore_n (ls' := [(3, .int ((fBoot (upd (σ) 6 (-1))).1)), (1, .long (whF (σ))), (0, .ref 0)]) (dk_at ktL_boots_0 5 rfl) rfl (by decide) rfl (b := 10) rfl) ?_
  refine rc_p (p_aload_n 2 (dk_at ktL_boots_0 6 rfl) rfl rfl (b := 11) rfl) ?_
  refine q_prd (As' := []) (rest := []) (fun T N hT hR => s_X6_bootOperations hB hR hI (by omega)) hI5 hB cw_L_162 qi_X6_bootOperations qv_X6_bootOperations (dk_at ktL_boots_0 7 rfl) rfl rfl (by decide) ⟨by decide, Nat.le_of_ble_eq_true rfl⟩ (b := 14) rfl (fun I6 hI6 => ?_)
  refine rc_p (p_istore (ls' := [(4, .int (a_bop (σ))), (3, .int ((fBoot (upd (σ) 6 (-1))).1)), (1, .long (whF (σ))), (0, .ref 0)]) (dk_at ktL_boots_0 8 rfl) (by decide) rfl (b := 16) rfl) ?_
  refine rc_p (p_aload_n 3 (dk_at ktL_boots_0 9 rfl) rfl rfl (b := 17) rfl) ?_
  refine q_prd (As' := []) (rest := []) (fun T N hT hR => s_X6_firstBootCut hB hR hI (by omega)) hI6 hB cw_L_165 qi_X6_firstBootCut qv_X6_firstBootCut (dk_at ktL_boots_0 10 rfl) rfl rfl (by decide) ⟨by decide, Nat.le_of_ble_eq_true rfl⟩ (b := 20) rfl (fun I7 hI7 => ?_)
  refine rc_p (p_istore (ls' := [(5, .int (a_fb (σ))), (4, .int (a_bop (σ))), (3, .int ((fBoot (upd (σ) 6 (-1))).1)), (1, .long (whF (σ))), (0, .ref 0)]) (dk_at ktL_boots_0 11 rfl) (by decide) rfl (b := 22) rfl) ?_
  refine rc_p (p_aload_n 4 (dk_at ktL_boots_0 12 rfl) rfl rfl (b := 23) rfl) ?_
  refine q_prd (As' := []) (rest := []) (fun T N hT hR => s_X6_bootsToRollback hB hR hI (by omega)) hI7 hB cw_L_168 qi_X6_bootsToRollback qv_X6_bootsToRollback (dk_at ktL_boots_0 13 rfl) rfl rfl (by decide) ⟨by decide, Nat.le_of_ble_eq_true rfl⟩ (b := 26) rfl (fun I8 hI8 => ?_)
  refine rc_p (p_istore (ls' := [(6, .int (a_br (σ))), (5, .int (a_fb (σ))), (4, .int (a_bop (σ))), (3, .int ((fBoot (upd (σ) 6 (-1))).1)), (1, .long (whF (σ))), (0, .ref 0)]) (dk_at ktL_boots_0 14 rfl) (by decide) rfl (b := 28) rfl) ?_
  refine rc_p (p_aload_n 5 (dk_at ktL_boots_0 15 rfl) rfl rfl (b := 29) rfl) ?_
  refine r_lV (A := 0) (As' := [.ref 0]) (rest := []) (s_L_whole hB hI8 hI hG) cwL_whole qs_L_whole (dk_at ktL_boots_0 16 rfl) rfl rfl (by decide) ⟨by decide, Nat.le_of_ble_eq_true rfl⟩ (b := 32) rfl (kc' := 200) (ks' := 1200) (Nat.le_of_ble_eq_true rfl) (Nat.le_of_ble_eq_true rfl) (fun v10 I9 J11 q12 => ?_)
  obtain ⟨rfl, rfl, hI9⟩ := q12
  refine rc_p (p_lload_n 4 (dk_at ktL_boots_0 17 rfl) rfl rfl (b := 33) rfl) ?_
  refine rc_p (p_lcmp (dk_at ktL_boots_0 18 rfl) (b := 34) rfl) ?_
  refine r_if_ne (dk_at ktL_boots_0 19 rfl) (b := 54) (by decide) (b2 := 37) rfl (fun c34 => ?_) (fun c34 => ?_)
  · have c34 := fun h => c34 ((lg_cmp_eq _ _).mpr h)
    exact absurd rfl c34
  · have c34 := (lg_cmp_eq _ _).mp c34
    refine rc_p (p_iload 2 (dk_at ktL_boots_0 20 rfl) rfl (b := 39) rfl) ?_
    refine r_if_lt (dk_at ktL_boots_0 21 rfl) (b := 54) (by decide) (b2 := 42) rfl (fun c39 => ?_) (fun c39 => ?_)
    · skip
      exact absurd (bop_in hI).1 (Int32.not_le.mpr c39)
    · skip
      refine rc_p (p_iload 0 (dk_at ktL_boots_0 22 rfl) rfl (b := 44) rfl) ?_
      refine r_if_eq (dk_at ktL_boots_0 23 rfl) (b := 54) (by decide) (b2 := 47) rfl (fun c44 => ?_) (fun c44 => ?_)
      · skip
        exact absurd c44 (br_in σ).1
      · skip
        refine rc_p (p_iload 0 (dk_at ktL_boots_0 24 rfl) rfl (b := 49) rfl) ?_
        refine rc_p (p_bipush (v := 10) (dk_at ktL_boots_0 25 rfl) (by decide) (b := 51) rfl) ?_
        refine r_icmp_le (dk_at ktL_boots_0 26 rfl) (b := 56) (by decide) (b2 := 54) rfl (fun c51 => ?_) (fun c51 => ?_)
        · skip
          refine rc_p (p_aload_n 5 (dk_at ktL_boots_0 29 rfl) rfl rfl (b := 57) rfl) ?_
          refine rc_p (p_iconst (v := 0) (dk_at ktL_boots_0 30 rfl) (by decide) (b := 58) rfl) ?_
          refine q_sav (As' := [.int 0]) (rest := []) (fun T N hT hR => s_X6_saveSnapshot hB hR hI hT hI9.2 0) hI9 (by decide) hB cw_L_171 qi_X6_saveSnapshot qv_X6_saveSnapshot (dk_at ktL_boots_0 31 rfl) rfl rfl (by decide) ⟨by decide, Nat.le_of_ble_eq_true rfl⟩ (b := 61) rfl (kc' := 199) (ks' := 1194) (Nat.le_of_ble_eq_true rfl) (Nat.le_of_ble_eq_true rfl) (fun I13 hI13 => ?_)
          refine rc_p (p_pop (dk_at ktL_boots_0 32 rfl) rfl (b := 62) rfl) ?_
          refine rc_p (p_aload_n 5 (dk_at ktL_boots_0 33 rfl) rfl rfl (b := 63) rfl) ?_
          refine rc_p (p_iconst (v := (-1)) (dk_at ktL_boots_0 34 rfl) (by decide) (b := 64) rfl) ?_
          refine q_code (As' := [.int (-1)]) (rest := []) (e := 0) (σ' := t_power (σ) (-1)) (fun T N hT hR => s_X6_setPower hB hR hI (-1)) hI13 (by decide) hB cw_L_61 qi_X6_setPower qv_X6_setPower (dk_at ktL_boots_0 35 rfl) rfl rfl (by decide) ⟨by decide, Nat.le_of_ble_eq_true rfl⟩ (b := 67) rfl (kc' := 198) (ks' := 1188) (Nat.le_of_ble_eq_true rfl) (Nat.le_of_ble_eq_true rfl) (fun I14 hI14 => ?_)
          have hI14 : LwR (B) I14 (t_power (σ) (-1)) (svS 0 (σ) (sn)) := hI14
          have hI14 : LwR (B) I14 (upd σ 6 (-1)) (svS 0 (σ) (sn)) := hI14
          refine rc_p (p_pop (dk_at ktL_boots_0 36 rfl) rfl (b := 68) rfl) ?_
          refine rc_p (p_aload_n 5 (dk_at ktL_boots_0 37 rfl) rfl rfl (b := 69) rfl) ?_
          refine q_plain (As' := []) (rest := []) (e := 0) (σ' := upd σ 6 (-1)) (fun T N hT hR => s_X6_operations hB hR hI.pm) hI14 hB cw_L_79 qi_X6_operations qv_X6_operations (dk_at ktL_boots_0 38 rfl) rfl rfl (by decide) ⟨by decide, Nat.le_of_ble_eq_true rfl⟩ (b := 72) rfl (fun I15 hI15 => ?_)
          have hI15 : LwR (B) I15 (upd σ 6 (-1)) (svS 0 (σ) (sn)) := hI15
          refine r_val (y := (σ 9)) (upd_n (by decide)) ?_
          refine rc_p (p_istore (ls' := [(7, .int (σ 9)), (6, .int (a_br (σ))), (5, .int (a_fb (σ))), (4, .int (a_bop (σ))), (3, .int ((fBoot (upd (σ) 6 (-1))).1)), (1, .long (whF (σ))), (0, .ref 0)]) (dk_at ktL_boots_0 39 rfl) (by decide) rfl (b := 74) rfl) ?_
          refine rc_p (p_aload_n 6 (dk_at ktL_boots_0 40 rfl) rfl rfl (b := 75) rfl) ?_
          refine q_plain (As' := []) (rest := []) (e := 6) (σ' := (fBoot (upd σ 6 (-1))).2) (fun T N hT hR => s_X6_boot hB hR hI.pm (by omega)) hI15 hB cw_L_39 qi_X6_boot qv_X6_boot (dk_at ktL_boots_0 41 rfl) rfl rfl (by decide) ⟨by decide, Nat.le_of_ble_eq_true rfl⟩ (b := 78) rfl (fun I16 hI16 => ?_)
          refine rc_p (p_iload_n 4 (dk_at ktL_boots_0 42 rfl) rfl rfl (b := 79) rfl) ?_
          refine r_icmp_ne (dk_at ktL_boots_0 43 rfl) (b := 117) (by decide) (b2 := 82) rfl (fun c79 => ?_) (fun c79 => ?_)
          · skip
            exact absurd rfl c79
          · skip
            refine rc_p (p_aload_n 6 (dk_at ktL_boots_0 44 rfl) rfl rfl (b := 83) rfl) ?_
            refine q_plain (As' := []) (rest := []) (e := 0) (σ' := (fBoot (upd σ 6 (-1))).2) (fun T N hT hR => s_X6_operations hB hR hI.pm.boot) hI16 hB cw_L_79 qi_X6_operations qv_X6_operations (dk_at ktL_boots_0 45 rfl) rfl rfl (by decide) ⟨by decide, Nat.le_of_ble_eq_true rfl⟩ (b := 86) rfl (fun I17 hI17 => ?_)
            have hI17 : LwR (B + 6) I17 ((fBoot (upd σ 6 (-1))).2) (svS 0 (σ) (sn)) := hI17
            refine rc_p (p_iload 0 (dk_at ktL_boots_0 46 rfl) rfl (b := 88) rfl) ?_
            refine rc_p (p_isub (v := ((((fBoot (upd σ 6 (-1))).2) 9) - (σ 9))) (dk_at ktL_boots_0 47 rfl) rfl (b := 89) rfl) ?_
            refine rc_p (p_iload 3 (dk_at ktL_boots_0 48 rfl) rfl (b := 91) rfl) ?_
            refine r_icmp_ne (dk_at ktL_boots_0 49 rfl) (b := 117) (by decide) (b2 := 94) rfl (fun c91 => ?_) (fun c91 => ?_)
            · skip
              exact absurd (bop_in hI).2 c91
            · skip
              refine rc_p (p_iload_n 4 (dk_at ktL_boots_0 50 rfl) rfl rfl (b := 95) rfl) ?_
              refine r_if_lt (dk_at ktL_boots_0 51 rfl) (b := 109) (by decide) (b2 := 98) rfl (fun c95 => ?_) (fun c95 => ?_)
              · skip
                refine rc_p (p_aload_n 6 (dk_at ktL_boots_0 57 rfl) rfl rfl (b := 110) rfl) ?_
                refine q_plain (As' := []) (rest := []) (e := 0) (σ' := (fBoot (upd σ 6 (-1))).2) (fun T N hT hR => s_X6_state hB hR hI.pm.boot) hI17 hB cw_L_84 qi_X6_state qv_X6_state (dk_at ktL_boots_0 58 rfl) rfl rfl (by decide) ⟨by decide, Nat.le_of_ble_eq_true rfl⟩ (b := 113) rfl (fun I18 hI18 => ?_)
                have hI18 : LwR (B + 6) I18 ((fBoot (upd σ 6 (-1))).2) (svS 0 (σ) (sn)) := hI18
                refine rc_p (p_iconst (v := 2) (dk_at ktL_boots_0 59 rfl) (by decide) (b := 114) rfl) ?_
                refine r_icmp_eq (dk_at ktL_boots_1 0 rfl) (b := 119) (by decide) (b2 := 117) rfl (fun c114 => ?_) (fun c114 => ?_)
                · skip
                  refine rc_sub [6, 5, 4, 3, 2] (ls' := [(0, .ref 0), (1, .long (whF (σ))), (3, .int ((fBoot (upd (σ) 6 (-1))).1)), (4, .int (a_bop (σ))), (5, .int (a_fb (σ)))]) rfl ?_
                  rcases fb_in hI with e | ⟨j, hj, e, h1, h2, h3⟩
                  · rw [e]
                    exact rc_weak (Nat.le_of_ble_eq_true rfl) (Nat.le_of_ble_eq_true rfl) (bo_n hB hI hG hBb _ hI18)
                  · rw [e]
                    exact rc_weak (Nat.le_of_ble_eq_true rfl) (Nat.le_of_ble_eq_true rfl) (bo_j hB hI hG hBb hj h1 h2 h3 _ hI18)
                · skip
                  exact absurd (boot_wait hI c95) c114
              · skip
                refine rc_p (p_aload_n 6 (dk_at ktL_boots_0 52 rfl) rfl rfl (b := 99) rfl) ?_
                refine q_plain (As' := []) (rest := []) (e := 0) (σ' := (fBoot (upd σ 6 (-1))).2) (fun T N hT hR => s_X6_running hB hR hI.pm.boot) hI17 hB cw_L_89 qi_X6_running qv_X6_running (dk_at ktL_boots_0 53 rfl) rfl rfl (by decide) ⟨by decide, Nat.le_of_ble_eq_true rfl⟩ (b := 102) rfl (fun I19 hI19 => ?_)
                have hI19 : LwR (B + 6) I19 ((fBoot (upd σ 6 (-1))).2) (svS 0 (σ) (sn)) := hI19
                refine rc_p (p_iload_n 4 (dk_at ktL_boots_0 54 rfl) rfl rfl (b := 103) rfl) ?_
                refine r_icmp_eq (dk_at ktL_boots_0 55 rfl) (b := 119) (by decide) (b2 := 106) rfl (fun c103 => ?_) (fun c103 => ?_)
                · skip
                  refine rc_sub [6, 5, 4, 3, 2] (ls' := [(0, .ref 0), (1, .long (whF (σ))), (3, .int ((fBoot (upd (σ) 6 (-1))).1)), (4, .int (a_bop (σ))), (5, .int (a_fb (σ)))]) rfl ?_
                  rcases fb_in hI with e | ⟨j, hj, e, h1, h2, h3⟩
                  · rw [e]
                    exact rc_weak (Nat.le_of_ble_eq_true rfl) (Nat.le_of_ble_eq_true rfl) (bo_n hB hI hG hBb _ hI19)
                  · rw [e]
                    exact rc_weak (Nat.le_of_ble_eq_true rfl) (Nat.le_of_ble_eq_true rfl) (bo_j hB hI hG hBb hj h1 h2 h3 _ hI19)
                · skip
                  exact absurd (boot_run hI c95) c103
        · skip
          exact absurd (br_in σ).2 c51

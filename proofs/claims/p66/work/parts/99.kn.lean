/-! THE LAW: updates -/
theorem tupd_y {v : Int32} {thr : Bool} {σ : sT} (h : inI v 1 255 = true) : t_upd v thr σ = (fUpd v thr σ).2 := if_pos h
theorem nge_m1 {c : Nat} (h : c < 2 ^ 31) : ¬ nI c ≤ -1 := fun e => by
  have := Int32.le_iff_toInt_le.mp e
  rw [nI_toInt h] at this
  have e1 : (-1 : Int32).toInt = -1 := by decide
  omega

set_option maxRecDepth 4000 in
set_option maxHeartbeats 4000000 in
theorem up_no {n : Nat} {sh : mS} {G : mG} {J : mJ} {B : Nat} {σ : sT} {sn : Nat → Option sT} (hB : Bt n sh G) (hI : Inv σ) (hG : Gd σ) {v k : Nat} (hv1 : 1 ≤ v) (hv2 : v < 256) (hk : k < 24) (hBb : B + 100 < 1000000) (hcv : cIn (nI v) 1 255 = 0) (hcs : cSac (nI v) (nI k) = 0) (he : ¬ errU (nI v) σ = 0) : ∀ (I : mI), LwR B I σ sn → Rc RL cL_updates 15 (some FieldType.boolean) 10 390 400 2400 n sh G (Qi (fun r_ I_ J_ => 1 = r_ ∧ J = J_ ∧ ∃ sn_, LwR (B + 20) I_ σ sn_)) nX 190 1140 71 [(0, .ref 0), (1, .int (nI v)), (2, .int (nI k)), (3, .long (whF σ)), (5, .int (errU (nI v) σ)), (6, .int (errU (nI v) σ)), (7, .int (errU (nI v) σ)), (8, .int ((errU (nI v) σ) - 100)), (10, .int (errU (nI v) σ)), (11, .int (errU (nI v) σ))] [] I J := by
  intro I hL
  have hno := upd_no he
  refine rc_p (p_iload 4 (dk_at ktL_updates_0 41 rfl) rfl (b := 73) rfl) ?_
  refine r_if_ge (dk_at ktL_updates_0 42 rfl) (b := 133) (by decide) (b2 := 76) rfl (fun c73 => ?_) (fun c73 => ?_)
  · skip
    exact absurd c73 (Int32.not_le.mpr hno.2.2.2.2.2)
  · skip
    refine rc_p (p_iload 4 (dk_at ktL_updates_0 43 rfl) rfl (b := 78) rfl) ?_
    refine rc_p (p_iload 6 (dk_at ktL_updates_0 44 rfl) rfl (b := 80) rfl) ?_
    refine r_icmp_ne (dk_at ktL_updates_0 45 rfl) (b := 131) (by decide) (b2 := 83) rfl (fun c80 => ?_) (fun c80 => ?_)
    · skip
      exact absurd rfl c80
    · skip
      refine rc_p (p_iload 5 (dk_at ktL_updates_0 46 rfl) rfl (b := 85) rfl) ?_
      refine rc_p (p_iload 4 (dk_at ktL_updates_0 47 rfl) rfl (b := 87) rfl) ?_
      refine r_icmp_ne (dk_at ktL_updates_0 48 rfl) (b := 131) (by decide) (b2 := 90) rfl (fun c87 => ?_) (fun c87 => ?_)
      · skip
        exact absurd rfl c87
      · skip
        refine rc_p (p_iload 7 (dk_at ktL_updates_0 49 rfl) rfl (b := 92) rfl) ?_
        refine rc_p (p_iload 4 (dk_at ktL_updates_0 50 rfl) rfl (b := 94) rfl) ?_
        refine rc_p (p_bipush (v := 100) (dk_at ktL_updates_0 51 rfl) (by decide) (b := 96) rfl) ?_
        refine rc_p (p_isub (v := ((errU (nI v) σ) - 100)) (dk_at ktL_updates_0 52 rfl) rfl (b := 97) rfl) ?_
        refine r_icmp_ne (dk_at ktL_updates_0 53 rfl) (b := 131) (by decide) (b2 := 100) rfl (fun c97 => ?_) (fun c97 => ?_)
        · skip
          exact absurd rfl c97
        · skip
          refine rc_p (p_iload 8 (dk_at ktL_updates_0 54 rfl) rfl (b := 102) rfl) ?_
          refine rc_p (p_iload 4 (dk_at ktL_updates_0 55 rfl) rfl (b := 104) rfl) ?_
          refine r_icmp_ne (dk_at ktL_updates_0 56 rfl) (b := 131) (by decide) (b2 := 107) rfl (fun c104 => ?_) (fun c104 => ?_)
          · skip
            exact absurd rfl c104
          · skip
            refine rc_p (p_iload 9 (dk_at ktL_updates_0 57 rfl) rfl (b := 109) rfl) ?_
            refine rc_p (p_iload 4 (dk_at ktL_updates_0 58 rfl) rfl (b := 111) rfl) ?_
            refine r_icmp_ne (dk_at ktL_updates_0 59 rfl) (b := 131) (by decide) (b2 := 114) rfl (fun c111 => ?_) (fun c111 => ?_)
            · skip
              exact absurd rfl c111
            · skip
              refine rc_p (p_aload_n 0 (dk_at ktL_updates_1 0 rfl) rfl rfl (b := 115) rfl) ?_
              refine rc_p (p_iload_n 1 (dk_at ktL_updates_1 1 rfl) rfl rfl (b := 116) rfl) ?_
              refine q_prc (As' := [.int (nI v)]) (rest := []) (fun T N hT hR => s_X6_firstUnsafeThriftyCut hB hR hI (by omega) (nI v)) hL hcv hB cw_L_201 qi_X6_firstUnsafeThriftyCut qv_X6_firstUnsafeThriftyCut (dk_at ktL_updates_1 2 rfl) rfl rfl (by decide) ⟨by decide, Nat.le_of_ble_eq_true rfl⟩ (b := 119) rfl (kc' := 189) (ks' := 1134) (Nat.le_of_ble_eq_true rfl) (Nat.le_of_ble_eq_true rfl) (fun I1 hI1 => ?_)
              refine r_val (y := ((errU (nI v) σ) - 100)) (hno.2.2.1 true) ?_
              refine rc_p (p_iload 4 (dk_at ktL_updates_1 3 rfl) rfl (b := 121) rfl) ?_
              refine rc_p (p_bipush (v := 100) (dk_at ktL_updates_1 4 rfl) (by decide) (b := 123) rfl) ?_
              refine rc_p (p_isub (v := ((errU (nI v) σ) - 100)) (dk_at ktL_updates_1 5 rfl) rfl (b := 124) rfl) ?_
              refine r_icmp_ne (dk_at ktL_updates_1 6 rfl) (b := 131) (by decide) (b2 := 127) rfl (fun c124 => ?_) (fun c124 => ?_)
              · skip
                exact absurd rfl c124
              · skip
                refine rc_p (p_iconst (v := 1) (dk_at ktL_updates_1 7 rfl) (by decide) (b := 128) rfl) ?_
                refine rc_p (p_goto (b := 132) (dk_at ktL_updates_1 8 rfl) (by decide)) ?_
                refine r_iret (dk_at ktL_updates_1 10 rfl) rfl rfl ⟨_, rfl, ?_⟩
                exact ⟨rfl, rfl, _, hI1.le (by omega)⟩
set_option maxRecDepth 4000 in
set_option maxHeartbeats 4000000 in
theorem up_z {n : Nat} {sh : mS} {G : mG} {J : mJ} {B : Nat} {σ : sT} {sn : Nat → Option sT} (hB : Bt n sh G) (hI : Inv σ) (hG : Gd σ) {v k : Nat} (hv1 : 1 ≤ v) (hv2 : v < 256) (hk : k < 24) (hBb : B + 100 < 1000000) (hcv : cIn (nI v) 1 255 = 0) (hcs : cSac (nI v) (nI k) = 0) {τ : sT} (hτ : Inv τ) : ∀ (I : mI), LwR (B + 18) I τ (svS 1 (σ) (sn)) → Rc RL cL_updates 15 (some FieldType.boolean) 10 390 400 2400 n sh G (Qi (fun r_ I_ J_ => 1 = r_ ∧ J = J_ ∧ ∃ sn_, LwR (B + 20) I_ σ sn_)) nX 110 660 326 [(0, .ref 0), (3, .long (whF σ))] [] I J := by
  intro I hL
  refine rc_p (p_aload_n 0 (dk_at ktL_updates_2 58 rfl) rfl rfl (b := 327) rfl) ?_
  refine rc_p (p_iconst (v := 1) (dk_at ktL_updates_2 59 rfl) (by decide) (b := 328) rfl) ?_
  refine q_res (As' := [.int 1]) (rest := []) (fun T N hT hR => s_X6_restoreSnapshot hB hR hτ hT hL.2 1) hL (by decide) hB cw_L_174 qi_X6_restoreSnapshot qv_X6_restoreSnapshot (dk_at ktL_updates_3 0 rfl) rfl rfl (by decide) ⟨by decide, Nat.le_of_ble_eq_true rfl⟩ (b := 331) rfl (kc' := 109) (ks' := 654) (Nat.le_of_ble_eq_true rfl) (Nat.le_of_ble_eq_true rfl) (fun I1 hI1 => ?_)
  have hI1 : LwR (B + 18) I1 (σ) (svS 1 (σ) (sn)) := hI1
  refine rc_p (p_pop (dk_at ktL_updates_3 1 rfl) rfl (b := 332) rfl) ?_
  refine rc_p (p_aload_n 0 (dk_at ktL_updates_3 2 rfl) rfl rfl (b := 333) rfl) ?_
  refine r_lV (A := 0) (As' := [.ref 0]) (rest := []) (s_L_whole hB hI1 hI hG) cwL_whole qs_L_whole (dk_at ktL_updates_3 3 rfl) rfl rfl (by decide) ⟨by decide, Nat.le_of_ble_eq_true rfl⟩ (b := 336) rfl (kc' := 9) (ks' := 54) (Nat.le_of_ble_eq_true rfl) (Nat.le_of_ble_eq_true rfl) (fun v3 I2 J4 q5 => ?_)
  obtain ⟨rfl, rfl, hI2⟩ := q5
  refine rc_p (p_lload_n 1 (dk_at ktL_updates_3 4 rfl) rfl rfl (b := 337) rfl) ?_
  refine rc_p (p_lcmp (dk_at ktL_updates_3 5 rfl) (b := 338) rfl) ?_
  refine r_if_ne (dk_at ktL_updates_3 6 rfl) (b := 345) (by decide) (b2 := 341) rfl (fun c338 => ?_) (fun c338 => ?_)
  · have c338 := fun h => c338 ((lg_cmp_eq _ _).mpr h)
    exact absurd rfl c338
  · have c338 := (lg_cmp_eq _ _).mp c338
    refine rc_p (p_iconst (v := 1) (dk_at ktL_updates_3 7 rfl) (by decide) (b := 342) rfl) ?_
    refine rc_p (p_goto (b := 346) (dk_at ktL_updates_3 8 rfl) (by decide)) ?_
    refine r_iret (dk_at ktL_updates_3 10 rfl) rfl rfl ⟨_, rfl, ?_⟩
    exact ⟨rfl, rfl, _, hI2.le (by omega)⟩
set_option maxRecDepth 4000 in
set_option maxHeartbeats 4000000 in
theorem up_y {n : Nat} {sh : mS} {G : mG} {J : mJ} {B : Nat} {σ : sT} {sn : Nat → Option sT} (hB : Bt n sh G) (hI : Inv σ) (hG : Gd σ) {v k : Nat} (hv1 : 1 ≤ v) (hv2 : v < 256) (hk : k < 24) (hBb : B + 100 < 1000000) (hcv : cIn (nI v) 1 255 = 0) (hcs : cSac (nI v) (nI k) = 0) (he : errU (nI v) σ = 0) {c : Nat} (hc1 : c ≤ 93) (e1 : (fUpd (nI v) false (upd σ 6 (-1))).1 = nI c) (e2 : (fUpd (nI v) false (upd σ 6 (-1))).2 9 - σ 9 = nI c) (e3 : (fUpd (nI v) false (upd σ 6 (-1))).2 4 = 0) (hk1 : c ≤ k → (fUpd (nI v) false (upd σ 6 (nI k))).1 = nI c) (hk2 : k < c → (fUpd (nI v) false (upd σ 6 (nI k))).1 = -4 ∧ (fBoot (upd (fUpd (nI v) false (upd σ 6 (nI k))).2 6 (-1))).1 = a_sac (nI v) (nI k) (-1) σ) : ∀ (I : mI), LwR B I σ sn → Rc RL cL_updates 15 (some FieldType.boolean) 10 390 400 2400 n sh G (Qi (fun r_ I_ J_ => 1 = r_ ∧ J = J_ ∧ ∃ sn_, LwR (B + 20) I_ σ sn_)) nX 190 1140 178 [(0, .ref 0), (1, .int (nI v)), (2, .int (nI k)), (3, .long (whF σ)), (5, .int (nI c)), (6, .int (a_sac (nI v) (nI k) (-1) (σ))), (7, .int ((fUpd (nI v) true (upd σ 6 (-1))).1))] [] I J := by
  intro I hL
  have hin : inI (nI v) 1 255 = true := rg_t (a := 1) (b := 255) hv1 (by omega) (by decide)
  have hIk : Inv (upd σ 6 (nI k)) := hI.pn (by omega)
  refine rc_p (p_aload_n 0 (dk_at ktL_updates_1 34 rfl) rfl rfl (b := 179) rfl) ?_
  refine rc_p (p_iconst (v := 1) (dk_at ktL_updates_1 35 rfl) (by decide) (b := 180) rfl) ?_
  refine q_sav (As' := [.int 1]) (rest := []) (fun T N hT hR => s_X6_saveSnapshot hB hR hI hT hL.2 1) hL (by decide) hB cw_L_171 qi_X6_saveSnapshot qv_X6_saveSnapshot (dk_at ktL_updates_1 36 rfl) rfl rfl (by decide) ⟨by decide, Nat.le_of_ble_eq_true rfl⟩ (b := 183) rfl (kc' := 189) (ks' := 1134) (Nat.le_of_ble_eq_true rfl) (Nat.le_of_ble_eq_true rfl) (fun I1 hI1 => ?_)
  refine rc_p (p_pop (dk_at ktL_updates_1 37 rfl) rfl (b := 184) rfl) ?_
  refine rc_p (p_aload_n 0 (dk_at ktL_updates_1 38 rfl) rfl rfl (b := 185) rfl) ?_
  refine rc_p (p_iconst (v := (-1)) (dk_at ktL_updates_1 39 rfl) (by decide) (b := 186) rfl) ?_
  refine q_code (As' := [.int (-1)]) (rest := []) (e := 0) (σ' := t_power (σ) (-1)) (fun T N hT hR => s_X6_setPower hB hR hI (-1)) hI1 (by decide) hB cw_L_61 qi_X6_setPower qv_X6_setPower (dk_at ktL_updates_1 40 rfl) rfl rfl (by decide) ⟨by decide, Nat.le_of_ble_eq_true rfl⟩ (b := 189) rfl (kc' := 188) (ks' := 1128) (Nat.le_of_ble_eq_true rfl) (Nat.le_of_ble_eq_true rfl) (fun I2 hI2 => ?_)
  have hI2 : LwR (B) I2 (t_power (σ) (-1)) (svS 1 (σ) (sn)) := hI2
  have hI2 : LwR (B) I2 (upd σ 6 (-1)) (svS 1 (σ) (sn)) := hI2
  refine rc_p (p_pop (dk_at ktL_updates_1 41 rfl) rfl (b := 190) rfl) ?_
  refine rc_p (p_aload_n 0 (dk_at ktL_updates_1 42 rfl) rfl rfl (b := 191) rfl) ?_
  refine q_plain (As' := []) (rest := []) (e := 0) (σ' := upd σ 6 (-1)) (fun T N hT hR => s_X6_operations hB hR hI.pm) hI2 hB cw_L_79 qi_X6_operations qv_X6_operations (dk_at ktL_updates_1 43 rfl) rfl rfl (by decide) ⟨by decide, Nat.le_of_ble_eq_true rfl⟩ (b := 194) rfl (fun I3 hI3 => ?_)
  have hI3 : LwR (B) I3 (upd σ 6 (-1)) (svS 1 (σ) (sn)) := hI3
  refine r_val (y := (σ 9)) (upd_n (by decide)) ?_
  refine rc_p (p_istore (ls' := [(12, .int (σ 9)), (0, .ref 0), (1, .int (nI v)), (2, .int (nI k)), (3, .long (whF σ)), (5, .int (nI c)), (6, .int (a_sac (nI v) (nI k) (-1) (σ))), (7, .int ((fUpd (nI v) true (upd σ 6 (-1))).1))]) (dk_at ktL_updates_1 44 rfl) (by decide) rfl (b := 196) rfl) ?_
  refine rc_p (p_aload_n 1 (dk_at ktL_updates_1 45 rfl) rfl rfl (b := 197) rfl) ?_
  refine rc_p (p_iload_n 2 (dk_at ktL_updates_1 46 rfl) rfl rfl (b := 198) rfl) ?_
  refine q_code (As' := [.int (nI v)]) (rest := []) (e := 4) (σ' := t_upd (nI v) false (upd σ 6 (-1))) (fun T N hT hR => s_X6_update hB hR hI.pm (by omega) (nI v)) hI3 hcv hB cw_L_45 qi_X6_update qv_X6_update (dk_at ktL_updates_1 47 rfl) rfl rfl (by decide) ⟨by decide, Nat.le_of_ble_eq_true rfl⟩ (b := 201) rfl (kc' := 187) (ks' := 1122) (Nat.le_of_ble_eq_true rfl) (Nat.le_of_ble_eq_true rfl) (fun I4 hI4 => ?_)
  have hI4 : LwR (B + 4) I4 (fUpd (nI v) false (upd σ 6 (-1))).2 (svS 1 (σ) (sn)) := by rw [← tupd_y hin]; exact hI4
  refine r_val (y := nI c) e1 ?_
  refine rc_p (p_iload 5 (dk_at ktL_updates_1 48 rfl) rfl (b := 203) rfl) ?_
  refine r_icmp_ne (dk_at ktL_updates_1 49 rfl) (b := 226) (by decide) (b2 := 206) rfl (fun c203 => ?_) (fun c203 => ?_)
  · have c203 : ¬ c = c := fun h => c203 ((nI_eq (a := c) (b := c) (by omega) (by omega)).mpr h)
    exact absurd rfl c203
  · have c203 : c = c := (nI_eq (a := c) (b := c) (by omega) (by omega)).mp c203
    refine rc_p (p_aload_n 1 (dk_at ktL_updates_1 50 rfl) rfl rfl (b := 207) rfl) ?_
    refine q_plain (As' := []) (rest := []) (e := 0) (σ' := (fUpd (nI v) false (upd σ 6 (-1))).2) (fun T N hT hR => s_X6_operations hB hR hI.pm.upda) hI4 hB cw_L_79 qi_X6_operations qv_X6_operations (dk_at ktL_updates_1 51 rfl) rfl rfl (by decide) ⟨by decide, Nat.le_of_ble_eq_true rfl⟩ (b := 210) rfl (fun I5 hI5 => ?_)
    have hI5 : LwR (B + 4) I5 ((fUpd (nI v) false (upd σ 6 (-1))).2) (svS 1 (σ) (sn)) := hI5
    refine rc_p (p_iload 0 (dk_at ktL_updates_1 52 rfl) rfl (b := 212) rfl) ?_
    refine rc_p (p_isub (v := (nI c)) (dk_at ktL_updates_1 53 rfl) e2 (b := 213) rfl) ?_
    refine rc_p (p_iload 5 (dk_at ktL_updates_1 54 rfl) rfl (b := 215) rfl) ?_
    refine r_icmp_ne (dk_at ktL_updates_1 55 rfl) (b := 226) (by decide) (b2 := 218) rfl (fun c215 => ?_) (fun c215 => ?_)
    · have c215 : ¬ c = c := fun h => c215 ((nI_eq (a := c) (b := c) (by omega) (by omega)).mpr h)
      exact absurd rfl c215
    · have c215 : c = c := (nI_eq (a := c) (b := c) (by omega) (by omega)).mp c215
      refine rc_p (p_aload_n 1 (dk_at ktL_updates_1 56 rfl) rfl rfl (b := 219) rfl) ?_
      refine rc_p (p_iconst (v := 4) (dk_at ktL_updates_1 57 rfl) (by decide) (b := 220) rfl) ?_
      refine q_code (As' := [.int 4]) (rest := []) (e := 0) (σ' := (fUpd (nI v) false (upd σ 6 (-1))).2) (fun T N hT hR => s_X6_setting hB hR hI.pm.upda 4) hI5 (by decide) hB cw_L_97 qi_X6_setting qv_X6_setting (dk_at ktL_updates_1 58 rfl) rfl rfl (by decide) ⟨by decide, Nat.le_of_ble_eq_true rfl⟩ (b := 223) rfl (kc' := 186) (ks' := 1116) (Nat.le_of_ble_eq_true rfl) (Nat.le_of_ble_eq_true rfl) (fun I6 hI6 => ?_)
      have hI6 : LwR (B + 4) I6 ((fUpd (nI v) false (upd σ 6 (-1))).2) (svS 1 (σ) (sn)) := hI6
      refine r_val (y := 0) e3 ?_
      refine r_if_eq (dk_at ktL_updates_1 59 rfl) (b := 228) (by decide) (b2 := 226) rfl (fun c223 => ?_) (fun c223 => ?_)
      · skip
        refine rc_p (p_aload_n 1 (dk_at ktL_updates_2 2 rfl) rfl rfl (b := 229) rfl) ?_
        refine rc_p (p_iconst (v := 1) (dk_at ktL_updates_2 3 rfl) (by decide) (b := 230) rfl) ?_
        refine q_res (As' := [.int 1]) (rest := []) (fun T N hT hR => s_X6_restoreSnapshot hB hR hI.pm.upda hT hI6.2 1) hI6 (by decide) hB cw_L_174 qi_X6_restoreSnapshot qv_X6_restoreSnapshot (dk_at ktL_updates_2 4 rfl) rfl rfl (by decide) ⟨by decide, Nat.le_of_ble_eq_true rfl⟩ (b := 233) rfl (kc' := 185) (ks' := 1110) (Nat.le_of_ble_eq_true rfl) (Nat.le_of_ble_eq_true rfl) (fun I7 hI7 => ?_)
        have hI7 : LwR (B + 4) I7 (σ) (svS 1 (σ) (sn)) := hI7
        refine rc_p (p_pop (dk_at ktL_updates_2 5 rfl) rfl (b := 234) rfl) ?_
        refine rc_p (p_aload_n 1 (dk_at ktL_updates_2 6 rfl) rfl rfl (b := 235) rfl) ?_
        refine rc_p (p_iconst (v := (-1)) (dk_at ktL_updates_2 7 rfl) (by decide) (b := 236) rfl) ?_
        refine q_code (As' := [.int (-1)]) (rest := []) (e := 0) (σ' := t_power (σ) (-1)) (fun T N hT hR => s_X6_setPower hB hR hI (-1)) hI7 (by decide) hB cw_L_61 qi_X6_setPower qv_X6_setPower (dk_at ktL_updates_2 8 rfl) rfl rfl (by decide) ⟨by decide, Nat.le_of_ble_eq_true rfl⟩ (b := 239) rfl (kc' := 184) (ks' := 1104) (Nat.le_of_ble_eq_true rfl) (Nat.le_of_ble_eq_true rfl) (fun I8 hI8 => ?_)
        have hI8 : LwR (B + 4) I8 (t_power (σ) (-1)) (svS 1 (σ) (sn)) := hI8
        have hI8 : LwR (B + 4) I8 (upd σ 6 (-1)) (svS 1 (σ) (sn)) := hI8
        refine rc_p (p_pop (dk_at ktL_updates_2 9 rfl) rfl (b := 240) rfl) ?_
        refine rc_p (p_aload_n 1 (dk_at ktL_updates_2 10 rfl) rfl rfl (b := 241) rfl) ?_
        refine q_plain (As' := []) (rest := []) (e := 0) (σ' := upd σ 6 (-1)) (fun T N hT hR => s_X6_thriftyPages hB hR hI.pm) hI8 hB cw_L_204 qi_X6_thriftyPages qv_X6_thriftyPages (dk_at ktL_updates_2 11 rfl) rfl rfl (by decide) ⟨by decide, Nat.le_of_ble_eq_true rfl⟩ (b := 244) rfl (fun I9 hI9 => ?_)
        have hI9 : LwR (B + 4) I9 (upd σ 6 (-1)) (svS 1 (σ) (sn)) := hI9
        refine rc_p (p_istore (ls' := [(13, .int (a_tp (upd σ 6 (-1)))), (12, .int (σ 9)), (0, .ref 0), (1, .int (nI v)), (2, .int (nI k)), (3, .long (whF σ)), (5, .int (nI c)), (6, .int (a_sac (nI v) (nI k) (-1) (σ))), (7, .int ((fUpd (nI v) true (upd σ 6 (-1))).1))]) (dk_at ktL_updates_2 12 rfl) (by decide) rfl (b := 246) rfl) ?_
        refine rc_p (p_iload 0 (dk_at ktL_updates_2 13 rfl) rfl (b := 248) rfl) ?_
        refine rc_p (p_iconst (v := 1) (dk_at ktL_updates_2 14 rfl) (by decide) (b := 249) rfl) ?_
        refine rc_p (p_iand (v := 1) (dk_at ktL_updates_2 15 rfl) (tp_1 hI.pm (errU_6.trans he)) (b := 250) rfl) ?_
        refine rc_p (p_iconst (v := 1) (dk_at ktL_updates_2 16 rfl) (by decide) (b := 251) rfl) ?_
        refine r_icmp_ne (dk_at ktL_updates_2 17 rfl) (b := 264) (by decide) (b2 := 254) rfl (fun c251 => ?_) (fun c251 => ?_)
        · first | exact absurd c251 (by decide) | exact absurd (by decide) c251
        · skip
          refine rc_p (p_aload_n 2 (dk_at ktL_updates_2 18 rfl) rfl rfl (b := 255) rfl) ?_
          refine rc_p (p_iload_n 3 (dk_at ktL_updates_2 19 rfl) rfl rfl (b := 256) rfl) ?_
          refine q_code (As' := [.int (nI v)]) (rest := []) (e := 4) (σ' := t_upd (nI v) true (upd σ 6 (-1))) (fun T N hT hR => s_X6_thriftyUpdate hB hR hI.pm (by omega) (nI v)) hI9 hcv hB cw_L_48 qi_X6_thriftyUpdate qv_X6_thriftyUpdate (dk_at ktL_updates_2 20 rfl) rfl rfl (by decide) ⟨by decide, Nat.le_of_ble_eq_true rfl⟩ (b := 259) rfl (kc' := 183) (ks' := 1098) (Nat.le_of_ble_eq_true rfl) (Nat.le_of_ble_eq_true rfl) (fun I10 hI10 => ?_)
          refine rc_p (p_iload 8 (dk_at ktL_updates_2 21 rfl) rfl (b := 261) rfl) ?_
          refine r_icmp_eq (dk_at ktL_updates_2 22 rfl) (b := 266) (by decide) (b2 := 264) rfl (fun c261 => ?_) (fun c261 => ?_)
          · skip
            refine rc_p (p_aload_n 2 (dk_at ktL_updates_2 25 rfl) rfl rfl (b := 267) rfl) ?_
            refine rc_p (p_iconst (v := 1) (dk_at ktL_updates_2 26 rfl) (by decide) (b := 268) rfl) ?_
            refine q_res (As' := [.int 1]) (rest := []) (fun T N hT hR => s_X6_restoreSnapshot hB hR (hI.pm.tup) hT hI10.2 1) hI10 (by decide) hB cw_L_174 qi_X6_restoreSnapshot qv_X6_restoreSnapshot (dk_at ktL_updates_2 27 rfl) rfl rfl (by decide) ⟨by decide, Nat.le_of_ble_eq_true rfl⟩ (b := 271) rfl (kc' := 182) (ks' := 1092) (Nat.le_of_ble_eq_true rfl) (Nat.le_of_ble_eq_true rfl) (fun I11 hI11 => ?_)
            have hI11 : LwR (B + 4 + 4) I11 (σ) (svS 1 (σ) (sn)) := hI11
            refine rc_p (p_pop (dk_at ktL_updates_2 28 rfl) rfl (b := 272) rfl) ?_
            refine rc_p (p_aload_n 2 (dk_at ktL_updates_2 29 rfl) rfl rfl (b := 273) rfl) ?_
            refine rc_p (p_iload_n 4 (dk_at ktL_updates_2 30 rfl) rfl rfl (b := 274) rfl) ?_
            refine q_code (As' := [.int (nI k)]) (rest := []) (e := 0) (σ' := t_power (σ) (nI k)) (fun T N hT hR => s_X6_setPower hB hR hI (nI k)) hI11 (pow_c (by omega)) hB cw_L_61 qi_X6_setPower qv_X6_setPower (dk_at ktL_updates_2 31 rfl) rfl rfl (by decide) ⟨by decide, Nat.le_of_ble_eq_true rfl⟩ (b := 277) rfl (kc' := 181) (ks' := 1086) (Nat.le_of_ble_eq_true rfl) (Nat.le_of_ble_eq_true rfl) (fun I12 hI12 => ?_)
            have hI12 : LwR (B + 4 + 4) I12 (t_power (σ) (nI k)) (svS 1 (σ) (sn)) := hI12
            have hI12 : LwR (B + 4 + 4) I12 (upd σ 6 (nI k)) (svS 1 (σ) (sn)) := by rw [← pow_n (by omega)]; exact hI12
            refine rc_p (p_pop (dk_at ktL_updates_2 32 rfl) rfl (b := 278) rfl) ?_
            refine rc_p (p_aload_n 2 (dk_at ktL_updates_2 33 rfl) rfl rfl (b := 279) rfl) ?_
            refine rc_p (p_iload_n 3 (dk_at ktL_updates_2 34 rfl) rfl rfl (b := 280) rfl) ?_
            refine q_code (As' := [.int (nI v)]) (rest := []) (e := 4) (σ' := t_upd (nI v) false (upd σ 6 (nI k))) (fun T N hT hR => s_X6_update hB hR hIk (by omega) (nI v)) hI12 hcv hB cw_L_45 qi_X6_update qv_X6_update (dk_at ktL_updates_2 35 rfl) rfl rfl (by decide) ⟨by decide, Nat.le_of_ble_eq_true rfl⟩ (b := 283) rfl (kc' := 180) (ks' := 1080) (Nat.le_of_ble_eq_true rfl) (Nat.le_of_ble_eq_true rfl) (fun I13 hI13 => ?_)
            have hI13 : LwR (B + 4 + 4 + 4) I13 (fUpd (nI v) false (upd σ 6 (nI k))).2 (svS 1 (σ) (sn)) := by rw [← tupd_y hin]; exact hI13
            refine rc_p (p_istore (ls' := [(14, .int ((fUpd (nI v) false (upd σ 6 (nI k))).1)), (13, .int (a_tp (upd σ 6 (-1)))), (12, .int (σ 9)), (0, .ref 0), (1, .int (nI v)), (2, .int (nI k)), (3, .long (whF σ)), (5, .int (nI c)), (6, .int (a_sac (nI v) (nI k) (-1) (σ))), (7, .int ((fUpd (nI v) true (upd σ 6 (-1))).1))]) (dk_at ktL_updates_2 36 rfl) (by decide) rfl (b := 285) rfl) ?_
            refine rc_p (p_aload_n 3 (dk_at ktL_updates_2 37 rfl) rfl rfl (b := 286) rfl) ?_
            refine rc_p (p_iconst (v := (-1)) (dk_at ktL_updates_2 38 rfl) (by decide) (b := 287) rfl) ?_
            refine q_code (As' := [.int (-1)]) (rest := []) (e := 0) (σ' := t_power ((fUpd (nI v) false (upd σ 6 (nI k))).2) (-1)) (fun T N hT hR => s_X6_setPower hB hR hIk.upda (-1)) hI13 (by decide) hB cw_L_61 qi_X6_setPower qv_X6_setPower (dk_at ktL_updates_2 39 rfl) rfl rfl (by decide) ⟨by decide, Nat.le_of_ble_eq_true rfl⟩ (b := 290) rfl (kc' := 179) (ks' := 1074) (Nat.le_of_ble_eq_true rfl) (Nat.le_of_ble_eq_true rfl) (fun I14 hI14 => ?_)
            have hI14 : LwR (B + 4 + 4 + 4) I14 (t_power ((fUpd (nI v) false (upd σ 6 (nI k))).2) (-1)) (svS 1 (σ) (sn)) := hI14
            have hI14 : LwR (B + 4 + 4 + 4) I14 (upd (fUpd (nI v) false (upd σ 6 (nI k))).2 6 (-1)) (svS 1 (σ) (sn)) := hI14
            refine rc_p (p_pop (dk_at ktL_updates_2 40 rfl) rfl (b := 291) rfl) ?_
            refine rc_p (p_iload 0 (dk_at ktL_updates_2 41 rfl) rfl (b := 293) rfl) ?_
            refine rc_p (p_iload_n 5 (dk_at ktL_updates_2 42 rfl) rfl rfl (b := 294) rfl) ?_
            refine rc_p (p_iload 7 (dk_at ktL_updates_2 43 rfl) rfl (b := 296) rfl) ?_
            refine r_icmp_ge (dk_at ktL_updates_2 44 rfl) (b := 304) (by decide) (b2 := 299) rfl (fun c296 => ?_) (fun c296 => ?_)
            · have c296 : c ≤ k := (nI_leI (a := c) (b := k) (by omega) (by omega)).mp c296
              refine rc_p (p_iload 7 (dk_at ktL_updates_2 47 rfl) rfl (b := 306) rfl) ?_
              refine r_icmp_ne (dk_at ktL_updates_2 48 rfl) (b := 324) (by decide) (b2 := 309) rfl (fun c306 => ?_) (fun c306 => ?_)
              · skip
                exact absurd (hk1 c296) c306
              · skip
                refine rc_p (p_iload_n 5 (dk_at ktL_updates_2 49 rfl) rfl rfl (b := 310) rfl) ?_
                refine rc_p (p_iload 7 (dk_at ktL_updates_2 50 rfl) rfl (b := 312) rfl) ?_
                refine r_icmp_ge (dk_at ktL_updates_2 51 rfl) (b := 326) (by decide) (b2 := 315) rfl (fun c312 => ?_) (fun c312 => ?_)
                · have c312 : c ≤ k := (nI_leI (a := c) (b := k) (by omega) (by omega)).mp c312
                  refine rc_sub [3, 6] (ls' := [(0, .ref 0), (3, .long (whF σ))]) rfl ?_
                  exact rc_weak (Nat.le_of_ble_eq_true rfl) (Nat.le_of_ble_eq_true rfl) (up_z hB hI hG hv1 hv2 hk hBb hcv hcs hIk.upda.pm _ (hI14.le (by omega)))
                · have c312 : ¬ c ≤ k := fun h => c312 ((nI_leI (a := c) (b := k) (by omega) (by omega)).mpr h)
                  exfalso; omega
            · have c296 : ¬ c ≤ k := fun h => c296 ((nI_leI (a := c) (b := k) (by omega) (by omega)).mpr h)
              refine rc_p (p_bipush (v := (-4)) (dk_at ktL_updates_2 45 rfl) (by decide) (b := 301) rfl) ?_
              refine rc_p (p_goto (b := 306) (dk_at ktL_updates_2 46 rfl) (by decide)) ?_
              refine r_icmp_ne (dk_at ktL_updates_2 48 rfl) (b := 324) (by decide) (b2 := 309) rfl (fun c306 => ?_) (fun c306 => ?_)
              · skip
                exact absurd (hk2 (by omega)).1 c306
              · skip
                refine rc_p (p_iload_n 5 (dk_at ktL_updates_2 49 rfl) rfl rfl (b := 310) rfl) ?_
                refine rc_p (p_iload 7 (dk_at ktL_updates_2 50 rfl) rfl (b := 312) rfl) ?_
                refine r_icmp_ge (dk_at ktL_updates_2 51 rfl) (b := 326) (by decide) (b2 := 315) rfl (fun c312 => ?_) (fun c312 => ?_)
                · have c312 : c ≤ k := (nI_leI (a := c) (b := k) (by omega) (by omega)).mp c312
                  exfalso; omega
                · have c312 : ¬ c ≤ k := fun h => c312 ((nI_leI (a := c) (b := k) (by omega) (by omega)).mpr h)
                  refine rc_p (p_aload_n 3 (dk_at ktL_updates_2 52 rfl) rfl rfl (b := 316) rfl) ?_
                  refine q_plain (As' := []) (rest := []) (e := 6) (σ' := (fBoot (upd (fUpd (nI v) false (upd σ 6 (nI k))).2 6 (-1))).2) (fun T N hT hR => s_X6_boot hB hR hIk.upda.pm (by omega)) hI14 hB cw_L_39 qi_X6_boot qv_X6_boot (dk_at ktL_updates_2 53 rfl) rfl rfl (by decide) ⟨by decide, Nat.le_of_ble_eq_true rfl⟩ (b := 319) rfl (fun I15 hI15 => ?_)
                  refine rc_p (p_iload 8 (dk_at ktL_updates_2 54 rfl) rfl (b := 321) rfl) ?_
                  refine r_icmp_eq (dk_at ktL_updates_2 55 rfl) (b := 326) (by decide) (b2 := 324) rfl (fun c321 => ?_) (fun c321 => ?_)
                  · skip
                    refine rc_sub [3, 6] (ls' := [(0, .ref 0), (3, .long (whF σ))]) rfl ?_
                    exact rc_weak (Nat.le_of_ble_eq_true rfl) (Nat.le_of_ble_eq_true rfl) (up_z hB hI hG hv1 hv2 hk hBb hcv hcs hIk.upda.pm.boot _ (hI15.le (by omega)))
                  · skip
                    exact absurd (hk2 (by omega)).2 c321
          · skip
            exact absurd rfl c261
      · first | exact absurd c223 (by decide) | exact absurd (by decide) c223
set_option maxRecDepth 4000 in
set_option maxHeartbeats 4000000 in
theorem up_71 {n : Nat} {sh : mS} {G : mG} {J : mJ} {B : Nat} {σ : sT} {sn : Nat → Option sT} (hB : Bt n sh G) (hI : Inv σ) (hG : Gd σ) {v k : Nat} (hv1 : 1 ≤ v) (hv2 : v < 256) (hk : k < 24) (hBb : B + 100 < 1000000) (hcv : cIn (nI v) 1 255 = 0) (hcs : cSac (nI v) (nI k) = 0) (he : errU (nI v) σ = 0) {c : Nat} (hc1 : c ≤ 93) (e1 : (fUpd (nI v) false (upd σ 6 (-1))).1 = nI c) (e2 : (fUpd (nI v) false (upd σ 6 (-1))).2 9 - σ 9 = nI c) (e3 : (fUpd (nI v) false (upd σ 6 (-1))).2 4 = 0) (hk1 : c ≤ k → (fUpd (nI v) false (upd σ 6 (nI k))).1 = nI c) (hk2 : k < c → (fUpd (nI v) false (upd σ 6 (nI k))).1 = -4 ∧ (fBoot (upd (fUpd (nI v) false (upd σ 6 (nI k))).2 6 (-1))).1 = a_sac (nI v) (nI k) (-1) σ) {u : Int32} {x y : Nat} (hxy : x + y ≤ c) (hu : ¬ nI c ≤ u) (hs : (a_sac (nI v) (nI k) (-1) (σ)) = -2 ↔ c ≤ k) : ∀ (I : mI), LwR B I σ sn → Rc RL cL_updates 15 (some FieldType.boolean) 10 390 400 2400 n sh G (Qi (fun r_ I_ J_ => 1 = r_ ∧ J = J_ ∧ ∃ sn_, LwR (B + 20) I_ σ sn_)) nX 190 1140 71 [(0, .ref 0), (1, .int (nI v)), (2, .int (nI k)), (3, .long (whF σ)), (5, .int (nI c)), (6, .int (a_sac (nI v) (nI k) (-1) (σ))), (7, .int ((fUpd (nI v) true (upd σ 6 (-1))).1)), (8, .int u), (10, .int (nI x)), (11, .int (nI y))] [] I J := by
  intro I hL
  refine rc_p (p_iload 4 (dk_at ktL_updates_0 41 rfl) rfl (b := 73) rfl) ?_
  refine r_if_ge (dk_at ktL_updates_0 42 rfl) (b := 133) (by decide) (b2 := 76) rfl (fun c73 => ?_) (fun c73 => ?_)
  · have c73 : 0 ≤ c := (nI_leI (a := 0) (b := c) (by omega) (by omega)).mp c73
    refine rc_p (p_iload 8 (dk_at ktL_updates_1 11 rfl) rfl (b := 135) rfl) ?_
    refine rc_p (p_iload 9 (dk_at ktL_updates_1 12 rfl) rfl (b := 137) rfl) ?_
    refine rc_p (p_iadd (v := (nI (x + y))) (dk_at ktL_updates_1 13 rfl) (nI_add x y) (b := 138) rfl) ?_
    refine rc_p (p_iload 4 (dk_at ktL_updates_1 14 rfl) rfl (b := 140) rfl) ?_
    refine r_icmp_gt (dk_at ktL_updates_1 15 rfl) (b := 176) (by decide) (b2 := 143) rfl (fun c140 => ?_) (fun c140 => ?_)
    · have c140 : c < (x + y) := (nI_ltI (a := c) (b := x + y) (by omega) (by omega)).mp c140
      exfalso; omega
    · have c140 : ¬ c < (x + y) := fun h => c140 ((nI_ltI (a := c) (b := x + y) (by omega) (by omega)).mpr h)
      refine rc_p (p_iload 7 (dk_at ktL_updates_1 16 rfl) rfl (b := 145) rfl) ?_
      refine rc_p (p_iload 4 (dk_at ktL_updates_1 17 rfl) rfl (b := 147) rfl) ?_
      refine r_icmp_ge (dk_at ktL_updates_1 18 rfl) (b := 176) (by decide) (b2 := 150) rfl (fun c147 => ?_) (fun c147 => ?_)
      · skip
        exact absurd c147 hu
      · skip
        refine rc_p (p_iload 5 (dk_at ktL_updates_1 19 rfl) rfl (b := 152) rfl) ?_
        refine rc_p (p_bipush (v := (-2)) (dk_at ktL_updates_1 20 rfl) (by decide) (b := 154) rfl) ?_
        refine r_icmp_ne (dk_at ktL_updates_1 21 rfl) (b := 161) (by decide) (b2 := 157) rfl (fun c154 => ?_) (fun c154 => ?_)
        · skip
          refine rc_p (p_iconst (v := 0) (dk_at ktL_updates_1 24 rfl) (by decide) (b := 162) rfl) ?_
          refine rc_p (p_iload_n 2 (dk_at ktL_updates_1 25 rfl) rfl rfl (b := 163) rfl) ?_
          refine rc_p (p_iload 4 (dk_at ktL_updates_1 26 rfl) rfl (b := 165) rfl) ?_
          refine r_icmp_lt (dk_at ktL_updates_1 27 rfl) (b := 172) (by decide) (b2 := 168) rfl (fun c165 => ?_) (fun c165 => ?_)
          · have c165 : k < c := (nI_ltI (a := k) (b := c) (by omega) (by omega)).mp c165
            refine rc_p (p_iconst (v := 0) (dk_at ktL_updates_1 30 rfl) (by decide) (b := 173) rfl) ?_
            refine r_icmp_eq (dk_at ktL_updates_1 31 rfl) (b := 178) (by decide) (b2 := 176) rfl (fun c173 => ?_) (fun c173 => ?_)
            · skip
              refine rc_sub [0, 1, 2, 3, 4, 5, 6] (ls' := [(0, .ref 0), (1, .int (nI v)), (2, .int (nI k)), (3, .long (whF σ)), (5, .int (nI c)), (6, .int (a_sac (nI v) (nI k) (-1) (σ))), (7, .int ((fUpd (nI v) true (upd σ 6 (-1))).1))]) rfl ?_
              exact rc_weak (Nat.le_of_ble_eq_true rfl) (Nat.le_of_ble_eq_true rfl) (up_y hB hI hG hv1 hv2 hk hBb hcv hcs he hc1 e1 e2 e3 hk1 hk2 _ hL)
            · first | exact absurd c173 (by decide) | exact absurd (by decide) c173
          · have c165 : ¬ k < c := fun h => c165 ((nI_ltI (a := k) (b := c) (by omega) (by omega)).mpr h)
            exact absurd (hs.mpr (by omega)) c154
        · skip
          refine rc_p (p_iconst (v := 1) (dk_at ktL_updates_1 22 rfl) (by decide) (b := 158) rfl) ?_
          refine rc_p (p_goto (b := 162) (dk_at ktL_updates_1 23 rfl) (by decide)) ?_
          refine rc_p (p_iload_n 2 (dk_at ktL_updates_1 25 rfl) rfl rfl (b := 163) rfl) ?_
          refine rc_p (p_iload 4 (dk_at ktL_updates_1 26 rfl) rfl (b := 165) rfl) ?_
          refine r_icmp_lt (dk_at ktL_updates_1 27 rfl) (b := 172) (by decide) (b2 := 168) rfl (fun c165 => ?_) (fun c165 => ?_)
          · have c165 : k < c := (nI_ltI (a := k) (b := c) (by omega) (by omega)).mp c165
            exfalso; have := hs.mp c154; omega
          · have c165 : ¬ k < c := fun h => c165 ((nI_ltI (a := k) (b := c) (by omega) (by omega)).mpr h)
            refine rc_p (p_iconst (v := 1) (dk_at ktL_updates_1 28 rfl) (by decide) (b := 169) rfl) ?_
            refine rc_p (p_goto (b := 173) (dk_at ktL_updates_1 29 rfl) (by decide)) ?_
            refine r_icmp_eq (dk_at ktL_updates_1 31 rfl) (b := 178) (by decide) (b2 := 176) rfl (fun c173 => ?_) (fun c173 => ?_)
            · skip
              refine rc_sub [0, 1, 2, 3, 4, 5, 6] (ls' := [(0, .ref 0), (1, .int (nI v)), (2, .int (nI k)), (3, .long (whF σ)), (5, .int (nI c)), (6, .int (a_sac (nI v) (nI k) (-1) (σ))), (7, .int ((fUpd (nI v) true (upd σ 6 (-1))).1))]) rfl ?_
              exact rc_weak (Nat.le_of_ble_eq_true rfl) (Nat.le_of_ble_eq_true rfl) (up_y hB hI hG hv1 hv2 hk hBb hcv hcs he hc1 e1 e2 e3 hk1 hk2 _ hL)
            · first | exact absurd c173 (by decide) | exact absurd (by decide) c173
  · have c73 : ¬ 0 ≤ c := fun h => c73 ((nI_leI (a := 0) (b := c) (by omega) (by omega)).mpr h)
    exfalso; omega
set_option maxRecDepth 4000 in
set_option maxHeartbeats 4000000 in
theorem s_L_updates {n : Nat} {sh : mS} {G : mG} {I : mI} {J : mJ} {B : Nat} {σ : sT} {sn : Nat → Option sT} (hB : Bt n sh G) (hL : LwR B I σ sn) (hI : Inv σ) (hG : Gd σ) {v k : Nat} (hv1 : 1 ≤ v) (hv2 : v < 256) (hk : k < 24) (hBb : B + 100 < 1000000) : Sp yL_updates cL_updates 15 (some FieldType.boolean) 10 390 400 2400 [.ref 0, .int (nI v), .int (nI k)] n sh G I J (Qi (fun r_ I_ J_ => 1 = r_ ∧ J = J_ ∧ ∃ sn_, LwR (B + 20) I_ σ sn_)) nX := by
  have hin : inI (nI v) 1 255 = true := rg_t (a := 1) (b := 255) hv1 (by omega) (by decide)
  have hcv : cIn (nI v) 1 255 = 0 := cIn_t hin
  have hcs : cSac (nI v) (nI k) = 0 := if_pos ⟨hin, rg_t (a := 0) (b := 1000) (by omega) (by omega) (by decide)⟩
  refine Sp.of (by decide) (ls := [(0, .ref 0), (1, .int (nI v)), (2, .int (nI k))]) (fun _ => rfl) (fun _ => Nat.le_of_ble_eq_true rfl) ?_
  refine rc_p (p_aload_n 0 (dk_at ktL_updates_0 0 rfl) rfl rfl (b := 1) rfl) ?_
  refine r_lV (A := 0) (As' := [.ref 0]) (rest := []) (s_L_whole hB hL hI hG) cwL_whole qs_L_whole (dk_at ktL_updates_0 1 rfl) rfl rfl (by decide) ⟨by decide, Nat.le_of_ble_eq_true rfl⟩ (b := 4) rfl (kc' := 300) (ks' := 1800) (Nat.le_of_ble_eq_true rfl) (Nat.le_of_ble_eq_true rfl) (fun v2 I1 J3 q4 => ?_)
  obtain ⟨rfl, rfl, hI1⟩ := q4
  refine rc_p (p_lstore_n (ls' := [(3, .long (whF (σ))), (0, .ref 0), (1, .int (nI v)), (2, .int (nI k))]) (dk_at ktL_updates_0 2 rfl) rfl (by decide) rfl (b := 5) rfl) ?_
  refine rc_p (p_aload_n 1 (dk_at ktL_updates_0 3 rfl) rfl rfl (b := 6) rfl) ?_
  refine rc_p (p_iload_n 2 (dk_at ktL_updates_0 4 rfl) rfl rfl (b := 7) rfl) ?_
  refine q_prc (As' := [.int (nI v)]) (rest := []) (fun T N hT hR => s_X6_updateOperations hB hR hI (by omega) (nI v)) hI1 hcv hB cw_L_180 qi_X6_updateOperations qv_X6_updateOperations (dk_at ktL_updates_0 5 rfl) rfl rfl (by decide) ⟨by decide, Nat.le_of_ble_eq_true rfl⟩ (b := 10) rfl (kc' := 299) (ks' := 1794) (Nat.le_of_ble_eq_true rfl) (Nat.le_of_ble_eq_true rfl) (fun I5 hI5 => ?_)
  refine rc_p (p_istore (ls' := [(5, .int ((fUpd (nI v) false (upd (σ) 6 (-1))).1)), (3, .long (whF (σ))), (0, .ref 0), (1, .int (nI v)), (2, .int (nI k))]) (dk_at ktL_updates_0 6 rfl) (by decide) rfl (b := 12) rfl) ?_
  refine rc_p (p_aload_n 2 (dk_at ktL_updates_0 7 rfl) rfl rfl (b := 13) rfl) ?_
  refine rc_p (p_iload_n 3 (dk_at ktL_updates_0 8 rfl) rfl rfl (b := 14) rfl) ?_
  refine rc_p (p_iload_n 4 (dk_at ktL_updates_0 9 rfl) rfl rfl (b := 15) rfl) ?_
  refine q_prc (As' := [.int (nI v), .int (nI k)]) (rest := []) (fun T N hT hR => s_X6_slotAfterCut hB hR hI (by omega) (nI v) (nI k)) hI5 hcs hB cw_L_183 qi_X6_slotAfterCut qv_X6_slotAfterCut (dk_at ktL_updates_0 10 rfl) rfl rfl (by decide) ⟨by decide, Nat.le_of_ble_eq_true rfl⟩ (b := 18) rfl (kc' := 297) (ks' := 1782) (Nat.le_of_ble_eq_true rfl) (Nat.le_of_ble_eq_true rfl) (fun I6 hI6 => ?_)
  refine rc_p (p_istore (ls' := [(6, .int (a_sac (nI v) (nI k) (-1) (σ))), (5, .int ((fUpd (nI v) false (upd (σ) 6 (-1))).1)), (3, .long (whF (σ))), (0, .ref 0), (1, .int (nI v)), (2, .int (nI k))]) (dk_at ktL_updates_0 11 rfl) (by decide) rfl (b := 20) rfl) ?_
  refine rc_p (p_aload_n 3 (dk_at ktL_updates_0 12 rfl) rfl rfl (b := 21) rfl) ?_
  refine rc_p (p_iload_n 4 (dk_at ktL_updates_0 13 rfl) rfl rfl (b := 22) rfl) ?_
  refine q_prc (As' := [.int (nI v)]) (rest := []) (fun T N hT hR => s_X6_thriftyOperations hB hR hI (by omega) (nI v)) hI6 hcv hB cw_L_186 qi_X6_thriftyOperations qv_X6_thriftyOperations (dk_at ktL_updates_0 14 rfl) rfl rfl (by decide) ⟨by decide, Nat.le_of_ble_eq_true rfl⟩ (b := 25) rfl (kc' := 296) (ks' := 1776) (Nat.le_of_ble_eq_true rfl) (Nat.le_of_ble_eq_true rfl) (fun I7 hI7 => ?_)
  refine rc_p (p_istore (ls' := [(7, .int ((fUpd (nI v) true (upd (σ) 6 (-1))).1)), (6, .int (a_sac (nI v) (nI k) (-1) (σ))), (5, .int ((fUpd (nI v) false (upd (σ) 6 (-1))).1)), (3, .long (whF (σ))), (0, .ref 0), (1, .int (nI v)), (2, .int (nI k))]) (dk_at ktL_updates_0 15 rfl) (by decide) rfl (b := 27) rfl) ?_
  refine rc_p (p_aload_n 4 (dk_at ktL_updates_0 16 rfl) rfl rfl (b := 28) rfl) ?_
  refine rc_p (p_iload_n 5 (dk_at ktL_updates_0 17 rfl) rfl rfl (b := 29) rfl) ?_
  refine q_prc (As' := [.int (nI v)]) (rest := []) (fun T N hT hR => s_X6_firstUnsafeCut hB hR hI (by omega) (nI v)) hI7 hcv hB cw_L_189 qi_X6_firstUnsafeCut qv_X6_firstUnsafeCut (dk_at ktL_updates_0 18 rfl) rfl rfl (by decide) ⟨by decide, Nat.le_of_ble_eq_true rfl⟩ (b := 32) rfl (kc' := 295) (ks' := 1770) (Nat.le_of_ble_eq_true rfl) (Nat.le_of_ble_eq_true rfl) (fun I8 hI8 => ?_)
  refine rc_p (p_istore (ls' := [(8, .int (a_fu (nI v) false (σ))), (7, .int ((fUpd (nI v) true (upd (σ) 6 (-1))).1)), (6, .int (a_sac (nI v) (nI k) (-1) (σ))), (5, .int ((fUpd (nI v) false (upd (σ) 6 (-1))).1)), (3, .long (whF (σ))), (0, .ref 0), (1, .int (nI v)), (2, .int (nI k))]) (dk_at ktL_updates_0 19 rfl) (by decide) rfl (b := 34) rfl) ?_
  refine rc_p (p_aload_n 5 (dk_at ktL_updates_0 20 rfl) rfl rfl (b := 35) rfl) ?_
  refine rc_p (p_iconst (v := 0) (dk_at ktL_updates_0 21 rfl) (by decide) (b := 36) rfl) ?_
  refine q_code (As' := [.int 0]) (rest := []) (e := 0) (σ' := σ) (fun T N hT hR => s_X6_told hB hR hI 0) hI8 (by decide) hB cw_L_192 qi_X6_told qv_X6_told (dk_at ktL_updates_0 22 rfl) rfl rfl (by decide) ⟨by decide, Nat.le_of_ble_eq_true rfl⟩ (b := 39) rfl (kc' := 294) (ks' := 1764) (Nat.le_of_ble_eq_true rfl) (Nat.le_of_ble_eq_true rfl) (fun I9 hI9 => ?_)
  have hI9 : LwR (B) I9 (σ) (sn) := hI9
  refine rc_p (p_istore (ls' := [(9, .int (told (σ) (tn 0))), (8, .int (a_fu (nI v) false (σ))), (7, .int ((fUpd (nI v) true (upd (σ) 6 (-1))).1)), (6, .int (a_sac (nI v) (nI k) (-1) (σ))), (5, .int ((fUpd (nI v) false (upd (σ) 6 (-1))).1)), (3, .long (whF (σ))), (0, .ref 0), (1, .int (nI v)), (2, .int (nI k))]) (dk_at ktL_updates_0 23 rfl) (by decide) rfl (b := 41) rfl) ?_
  refine rc_p (p_aload_n 6 (dk_at ktL_updates_0 24 rfl) rfl rfl (b := 42) rfl) ?_
  refine rc_p (p_iload_n 7 (dk_at ktL_updates_0 25 rfl) rfl rfl (b := 43) rfl) ?_
  refine q_prc (As' := [.int (nI v)]) (rest := []) (fun T N hT hR => s_X6_cutsToNew hB hR hI (by omega) (nI v)) hI9 hcv hB cw_L_195 qi_X6_cutsToNew qv_X6_cutsToNew (dk_at ktL_updates_0 26 rfl) rfl rfl (by decide) ⟨by decide, Nat.le_of_ble_eq_true rfl⟩ (b := 46) rfl (kc' := 293) (ks' := 1758) (Nat.le_of_ble_eq_true rfl) (Nat.le_of_ble_eq_true rfl) (fun I10 hI10 => ?_)
  refine rc_p (p_istore (ls' := [(10, .int (a_cn (nI v) (σ))), (9, .int (told (σ) (tn 0))), (8, .int (a_fu (nI v) false (σ))), (7, .int ((fUpd (nI v) true (upd (σ) 6 (-1))).1)), (6, .int (a_sac (nI v) (nI k) (-1) (σ))), (5, .int ((fUpd (nI v) false (upd (σ) 6 (-1))).1)), (3, .long (whF (σ))), (0, .ref 0), (1, .int (nI v)), (2, .int (nI k))]) (dk_at ktL_updates_0 27 rfl) (by decide) rfl (b := 48) rfl) ?_
  refine rc_p (p_aload_n 7 (dk_at ktL_updates_0 28 rfl) rfl rfl (b := 49) rfl) ?_
  refine rc_p (p_iload_n 8 (dk_at ktL_updates_0 29 rfl) rfl rfl (b := 50) rfl) ?_
  refine q_prc (As' := [.int (nI v)]) (rest := []) (fun T N hT hR => s_X6_longestOldRun hB hR hI (by omega) (nI v)) hI10 hcv hB cw_L_198 qi_X6_longestOldRun qv_X6_longestOldRun (dk_at ktL_updates_0 30 rfl) rfl rfl (by decide) ⟨by decide, Nat.le_of_ble_eq_true rfl⟩ (b := 53) rfl (kc' := 292) (ks' := 1752) (Nat.le_of_ble_eq_true rfl) (Nat.le_of_ble_eq_true rfl) (fun I11 hI11 => ?_)
  refine rc_p (p_istore (ls' := [(11, .int (a_lo (nI v) (σ))), (10, .int (a_cn (nI v) (σ))), (9, .int (told (σ) (tn 0))), (8, .int (a_fu (nI v) false (σ))), (7, .int ((fUpd (nI v) true (upd (σ) 6 (-1))).1)), (6, .int (a_sac (nI v) (nI k) (-1) (σ))), (5, .int ((fUpd (nI v) false (upd (σ) 6 (-1))).1)), (3, .long (whF (σ))), (0, .ref 0), (1, .int (nI v)), (2, .int (nI k))]) (dk_at ktL_updates_0 31 rfl) (by decide) rfl (b := 55) rfl) ?_
  refine rc_p (p_aload_n 8 (dk_at ktL_updates_0 32 rfl) rfl rfl (b := 56) rfl) ?_
  refine r_lV (A := 0) (As' := [.ref 0]) (rest := []) (s_L_whole hB hI11 hI hG) cwL_whole qs_L_whole (dk_at ktL_updates_0 33 rfl) rfl rfl (by decide) ⟨by decide, Nat.le_of_ble_eq_true rfl⟩ (b := 59) rfl (kc' := 192) (ks' := 1152) (Nat.le_of_ble_eq_true rfl) (Nat.le_of_ble_eq_true rfl) (fun v13 I12 J14 q15 => ?_)
  obtain ⟨rfl, rfl, hI12⟩ := q15
  refine rc_p (p_lload_n 7 (dk_at ktL_updates_0 34 rfl) rfl rfl (b := 60) rfl) ?_
  refine rc_p (p_lcmp (dk_at ktL_updates_0 35 rfl) (b := 61) rfl) ?_
  refine r_if_ne (dk_at ktL_updates_0 36 rfl) (b := 69) (by decide) (b2 := 64) rfl (fun c61 => ?_) (fun c61 => ?_)
  · have c61 := fun h => c61 ((lg_cmp_eq _ _).mpr h)
    exact absurd rfl c61
  · have c61 := (lg_cmp_eq _ _).mp c61
    refine rc_p (p_iload 2 (dk_at ktL_updates_0 37 rfl) rfl (b := 66) rfl) ?_
    refine r_if_ge (dk_at ktL_updates_0 38 rfl) (b := 71) (by decide) (b2 := 69) rfl (fun c66 => ?_) (fun c66 => ?_)
    · skip
      refine rc_sub [8, 9, 10, 7, 6, 5, 4, 3, 1, 0] (ls' := [(0, .ref 0), (1, .int (nI v)), (2, .int (nI k)), (3, .long (whF (σ))), (5, .int ((fUpd (nI v) false (upd (σ) 6 (-1))).1)), (6, .int (a_sac (nI v) (nI k) (-1) (σ))), (7, .int ((fUpd (nI v) true (upd (σ) 6 (-1))).1)), (8, .int (a_fu (nI v) false (σ))), (10, .int (a_cn (nI v) (σ))), (11, .int (a_lo (nI v) (σ)))]) rfl ?_
      by_cases he : errU (nI v) σ = 0
      · obtain ⟨c, x, y, c0, c1, e1, e2, e3, e4, e5, e6, e7, e8⟩ := upd_all hI he
        obtain ⟨g1, g2, g3⟩ := e8 k (by omega)
        rw [e1, e4, e5]
        refine rc_weak (Nat.le_of_ble_eq_true rfl) (Nat.le_of_ble_eq_true rfl) (up_71 hB hI hG hv1 hv2 hk hBb hcv hcs he c1 e1 e2 e3 g2 g3 e6 ?_ g1 _ hI12)
        rcases e7 with e | ⟨j, hj, e⟩
        · rw [e]; exact nge_m1 (by omega)
        · rw [e]; exact fun q => absurd ((nI_leI (by omega) (by omega)).mp q) (by omega)
      · have hno := upd_no he
        rw [hno.1 false (-1), hno.1 true (-1), hno.2.1 k, hno.2.2.1 false, hno.2.2.2.1, hno.2.2.2.2.1]
        exact rc_weak (Nat.le_of_ble_eq_true rfl) (Nat.le_of_ble_eq_true rfl) (up_no hB hI hG hv1 hv2 hk hBb hcv hcs he _ hI12)
    · skip
      exact absurd (Int32.not_lt.mp (told0 hI)) c66

/-! THE CLASS reads a text: its statements -/
set_option maxRecDepth 4000 in
set_option maxHeartbeats 4000000 in
theorem s_X5_claim {n : Nat} {sh : mS} {G : mG} {I : mI} {J : mJ} {x : Nat} (hx : TxtG n sh G x) {S : PSt} (hS : RC x I S) (hg : S.gv < 64) (b a : Nat) (hb : b < 6) : Sp yX5_claim cX5_claim 3 (some FieldType.boolean) 2 96 0 0 [.ref x, .int (nI (cs b)), .int (nI a)] n sh G I J (Qi (fun r_ I_ J_ => bi (!(S.gv.testBit b)) = r_ ∧ J = J_ ∧ FF x [2] [6, 7] I I_ ∧ (S.gv.testBit b = false → FF x [2] [] I I_ ∧ RC x I_ (S.cl b)) ∧ (S.gv.testBit b = true → I_ x 6 = 4 ∧ I_ x 7 = nI a))) nX := by
  refine Sp.of (by decide) (ls := [(0, .ref x), (1, .int (nI (cs b))), (2, .int (nI a))]) (fun _ => rfl) (fun _ => Nat.le_of_ble_eq_true rfl) ?_
  refine rc_p (p_aload_n 0 (dk_at ktX5_claim_0 0 rfl) rfl rfl (b := 1) rfl) ?_
  refine r_geta fl_X5_18 rfl hx.l0 hx.s0 (dk_at ktX5_claim_0 1 rfl) hx.g0_1 (b := 4) rfl ?_
  refine r_geti fl_X5_134 rfl (hx.lt 2 (by decide)) hx.s2 (dk_at ktX5_claim_0 2 rfl) (v := (nI (cg S.gv))) (hS.2.1.2.2.2.2) (b := 7) rfl ?_
  refine rc_p (p_iload_n 1 (dk_at ktX5_claim_0 3 rfl) rfl rfl (b := 8) rfl) ?_
  refine rc_p (p_iand (v := ((nI (cg S.gv)) &&& (nI (cs b)))) (dk_at ktX5_claim_0 4 rfl) rfl (b := 9) rfl) ?_
  refine r_if_eq (dk_at ktX5_claim_0 5 rfl) (b := 19) (by decide) (b2 := 12) rfl (fun c9 => ?_) (fun c9 => ?_)
  · skip
    refine rc_p (p_aload_n 0 (dk_at ktX5_claim_0 11 rfl) rfl rfl (b := 20) rfl) ?_
    refine r_geta fl_X5_18 rfl hx.l0 hx.s0 (dk_at ktX5_claim_0 12 rfl) hx.g0_1 (b := 23) rfl ?_
    refine rc_p (p_dup (dk_at ktX5_claim_0 13 rfl) rfl (b := 24) rfl) ?_
    refine r_geti fl_X5_134 rfl (hx.lt 2 (by decide)) hx.s2 (dk_at ktX5_claim_0 14 rfl) (v := (nI (cg S.gv))) (hS.2.1.2.2.2.2) (b := 27) rfl ?_
    refine rc_p (p_iload_n 1 (dk_at ktX5_claim_0 15 rfl) rfl rfl (b := 28) rfl) ?_
    refine rc_p (p_ior (v := (nI (cg (S.gv + 2 ^ b)))) (dk_at ktX5_claim_0 16 rfl) (cg_o hg hb ((cg_t hg hb).mp c9)) (b := 29) rfl) ?_
    refine r_puti fl_X5_134 fw_X4_8 rfl (hx.lt 2 (by decide)) hx.s2 rfl rfl (dk_at ktX5_claim_0 17 rfl) (b := 32) rfl ?_
    refine rc_p (p_iconst (v := 1) (dk_at ktX5_claim_0 18 rfl) (by decide) (b := 33) rfl) ?_
    refine r_iret (dk_at ktX5_claim_0 19 rfl) rfl rfl ⟨_, rfl, ?_⟩
    have hb0 := (cg_t hg hb).mp c9
    refine ⟨by rw [hb0]; rfl, rfl, (FF.rf.ua (o := 2) (by simp) (by decide)), fun _ => ⟨(FF.rf.ua (o := 2) (by simp) (by decide)), (hS.cl (b := b))⟩, fun g => absurd g (by rw [hb0]; decide)⟩
  · skip
    refine rc_p (p_aload_n 0 (dk_at ktX5_claim_0 6 rfl) rfl rfl (b := 13) rfl) ?_
    refine rc_p (p_iconst (v := 4) (dk_at ktX5_claim_0 7 rfl) (by decide) (b := 14) rfl) ?_
    refine rc_p (p_iload_n 2 (dk_at ktX5_claim_0 8 rfl) rfl rfl (b := 15) rfl) ?_
    refine r_iV (As' := [.int 4, .int (nI a)]) (rest := []) (s_X5_fail hx 4 a) cw_X5_56 qi_X5_fail qv_X5_fail rfl hx.l0 hx.s0 (dk_at ktX5_claim_0 9 rfl) rfl rfl (Nat.le_of_ble_eq_true rfl) (by decide) (b := 18) rfl (fun v4 I1 J2 q3 => ?_)
    obtain ⟨rfl, rfl, hF5, hh6, hh7⟩ := q3
    refine r_iret (dk_at ktX5_claim_0 10 rfl) rfl rfl ⟨_, rfl, ?_⟩
    have hb1 : S.gv.testBit b = true := by
      cases q : S.gv.testBit b
      · exact absurd ((cg_t hg hb).mpr q) c9
      · rfl
    rw [hb1]
    exact ⟨rfl, rfl, (FF.rf.tr (hF5.mo (by simp) (by simp))), fun g => absurd g (by decide), fun _ => ⟨hh6, hh7⟩⟩
set_option maxRecDepth 4000 in
set_option maxHeartbeats 4000000 in
theorem s_X5_readOnce {n : Nat} {sh : mS} {G : mG} {I : mI} {J : mJ} {x : Nat} {T : tT} {nn : Nat} (hx : TxtG n sh G x) (hT : TC x I T nn) (p : Nat) (hp : I x 3 = nI p) (hpn : p ≤ nn) (h6 : I x 6 = 0) {S : PSt} (hS : RC x I S) (hg : S.gv < 64) (b w lo hi : Nat) (hb : b < 6) (hlo : lo < 1000000) (hhi : hi < 1000000) : Sp yX5_readOnce cX5_readOnce 5 (some FieldType.boolean) 4 166 0 0 [.ref x, .int (nI (cs b)), .int (nI w), .int (nI lo), .int (nI hi)] n sh G I J (Qi (fun r_ I_ J_ => bi (!(S.gv.testBit b) && decide (txK T nn (txSk T nn p) lo hi = 0)) = r_ ∧ J = J_ ∧ FF x [2] [3, 4, 5, 6, 7] I I_ ∧ (S.gv.testBit b = false → txK T nn (txSk T nn p) lo hi = 0 → I_ x 6 = 0 ∧ I_ x 3 = nI (txDe T nn (txSk T nn p)) ∧ I_ x 4 = nI (txVa T nn (txSk T nn p)) ∧ RC x I_ (S.cl b)) ∧ (S.gv.testBit b = false → ¬ txK T nn (txSk T nn p) lo hi = 0 → I_ x 6 = nI (txK T nn (txSk T nn p) lo hi) ∧ I_ x 7 = nI (txSk T nn p)) ∧ (S.gv.testBit b = true → I_ x 6 = nI 4 ∧ I_ x 7 = nI w))) nX := by
  refine Sp.of (by decide) (ls := [(0, .ref x), (1, .int (nI (cs b))), (2, .int (nI w)), (3, .int (nI lo)), (4, .int (nI hi))]) (fun _ => rfl) (fun _ => Nat.le_of_ble_eq_true rfl) ?_
  have hn := hT.1.1
  have hsk := txSk_le (T := T) hpn
  have h256 := tx_256 hT.1
  refine rc_p (p_aload_n 0 (dk_at ktX5_readOnce_0 0 rfl) rfl rfl (b := 1) rfl) ?_
  refine rc_p (p_iload_n 1 (dk_at ktX5_readOnce_0 1 rfl) rfl rfl (b := 2) rfl) ?_
  refine rc_p (p_iload_n 2 (dk_at ktX5_readOnce_0 2 rfl) rfl rfl (b := 3) rfl) ?_
  refine r_iV (As' := [.int (nI (cs b)), .int (nI w)]) (rest := []) (s_X5_claim hx hS hg b w (by omega)) cw_X5_131 qi_X5_claim qv_X5_claim rfl hx.l0 hx.s0 (dk_at ktX5_readOnce_0 3 rfl) rfl rfl (Nat.le_of_ble_eq_true rfl) (by decide) (b := 6) rfl (fun v4 I1 J2 q3 => ?_)
  obtain ⟨rfl, rfl, hF5, hy6, hy7⟩ := q3
  refine r_if_eq (dk_at ktX5_readOnce_0 4 rfl) (b := 23) (by decide) (b2 := 9) rfl (fun c6 => ?_) (fun c6 => ?_)
  · have c6 := bi_f c6
    have hk8 : S.gv.testBit b = true := by simpa using c6
    obtain ⟨hh9, hh10⟩ := hy7 hk8
    refine rc_p (p_iconst (v := 0) (dk_at ktX5_readOnce_0 12 rfl) (by decide) (b := 24) rfl) ?_
    refine r_iret (dk_at ktX5_readOnce_0 13 rfl) rfl rfl ⟨_, rfl, ?_⟩
    rw [hk8]
    exact ⟨rfl, rfl, (FF.rf.tr (hF5.mo (by simp) (by simp))), fun g => absurd g (by decide), fun g => absurd g (by decide), fun _ => ⟨hh9, hh10⟩⟩
  · have c6 := bi_t c6
    have hk11 : S.gv.testBit b = false := by simpa using c6
    obtain ⟨hF12, hh13⟩ := hy6 hk11
    refine rc_p (p_aload_n 0 (dk_at ktX5_readOnce_0 5 rfl) rfl rfl (b := 10) rfl) ?_
    refine rc_p (p_iload_n 3 (dk_at ktX5_readOnce_0 6 rfl) rfl rfl (b := 11) rfl) ?_
    refine rc_p (p_iload 4 (dk_at ktX5_readOnce_0 7 rfl) rfl (b := 13) rfl) ?_
    refine r_iV (As' := [.int (nI lo), .int (nI hi)]) (rest := []) (s_X5_readNumber hx (hT.fr (show FQ x I I1 from (FF.rf.tr (hF12.mo (by simp) (by simp))))) p (((hF12.2 3 (by decide))).trans hp) (by omega) lo hi hlo hhi) cw_X5_94 qi_X5_readNumber qv_X5_readNumber rfl hx.l0 hx.s0 (dk_at ktX5_readOnce_0 8 rfl) rfl rfl (Nat.le_of_ble_eq_true rfl) (by decide) (b := 16) rfl (fun v17 I14 J15 q16 => ?_)
    obtain ⟨rfl, rfl, hF18, hy19, hy20⟩ := q16
    refine r_if_eq (dk_at ktX5_readOnce_0 9 rfl) (b := 23) (by decide) (b2 := 19) rfl (fun c16 => ?_) (fun c16 => ?_)
    · have c16 := bi_f c16
      have hk23 := of_decide_eq_false c16
      obtain ⟨hh21, hh22⟩ := hy20 hk23
      refine rc_p (p_iconst (v := 0) (dk_at ktX5_readOnce_0 12 rfl) (by decide) (b := 24) rfl) ?_
      refine r_iret (dk_at ktX5_readOnce_0 13 rfl) rfl rfl ⟨_, rfl, ?_⟩
      rw [hk11]
      exact ⟨by rw [decide_eq_false hk23]; rfl, rfl, ((FF.rf.tr (hF12.mo (by simp) (by simp))).tr (hF18.mo (by simp) (by simp))), fun _ g => absurd g hk23, fun _ _ => ⟨hh21, hh22⟩, fun g => absurd g (by decide)⟩
    · have c16 := bi_t c16
      have hk28 := of_decide_eq_true c16
      obtain ⟨hh24, hh25, hh26, hh27⟩ := hy19 hk28
      have hd29 := txDe_le (T := T) (n := nn) (p := txSk T nn p) (by omega)
      have hs30 := txSk_le (T := T) (n := nn) (p := txDe T nn (txSk T nn p)) (by omega)
      have hin31 := txK_in hk28
      refine rc_p (p_iconst (v := 1) (dk_at ktX5_readOnce_0 10 rfl) (by decide) (b := 20) rfl) ?_
      refine rc_p (p_goto (b := 24) (dk_at ktX5_readOnce_0 11 rfl) (by decide)) ?_
      refine r_iret (dk_at ktX5_readOnce_0 13 rfl) rfl rfl ⟨_, rfl, ?_⟩
      rw [hk11]
      exact ⟨by rw [decide_eq_true hk28]; rfl, rfl, ((FF.rf.tr (hF12.mo (by simp) (by simp))).tr (hF18.mo (by simp) (by simp))), fun _ _ => ⟨(hh24.trans (((hF12.2 6 (by decide))).trans h6)), hh25, hh26, (hh13.fr hF18)⟩, fun _ g => absurd hk28 g, fun g => absurd g (by decide)⟩
set_option maxRecDepth 4000 in
set_option maxHeartbeats 4000000 in
theorem s_X5_readFlash {n : Nat} {sh : mS} {G : mG} {I : mI} {J : mJ} {x : Nat} {T : tT} {nn : Nat} (hx : TxtG n sh G x) (hT : TC x I T nn) (p : Nat) (hp : I x 3 = nI p) (hpn : p ≤ nn) (h6 : I x 6 = 0) {S : PSt} (hS : RC0 x I S)  : Sp yX5_readFlash cX5_readFlash 2 (some FieldType.boolean) 6 209 0 0 [.ref x] n sh G I J (Qi (fun r_ I_ J_ => bi (decide ((flashO T nn p S).k = 0)) = r_ ∧ J = J_ ∧ PC x I I_ (flashO T nn p S))) nX := by
  refine Sp.of (by decide) (ls := [(0, .ref x)]) (fun _ => rfl) (fun _ => Nat.le_of_ble_eq_true rfl) ?_
  have hn := hT.1.1
  have hsk := txSk_le (T := T) hpn
  have hwe := txWe_le (T := T) hsk.2
  have hsk2 := txSk_le (T := T) hwe.2
  refine rc_p (p_aload_n 0 (dk_at ktX5_readFlash_0 0 rfl) rfl rfl (b := 1) rfl) ?_
  refine r_iV (As' := []) (rest := []) (s_X5_passWord hx hT p hp (by omega)) cw_X5_85 qi_X5_passWord qv_X5_passWord rfl hx.l0 hx.s0 (dk_at ktX5_readFlash_0 1 rfl) rfl rfl (Nat.le_of_ble_eq_true rfl) (by decide) (b := 4) rfl (fun v4 I1 J2 q3 => ?_)
  obtain ⟨rfl, rfl, hF5, hh6⟩ := q3
  refine rc_p (p_istore_n (ls' := [(1, .int (nI (txSk T nn p))), (0, .ref x)]) (dk_at ktX5_readFlash_0 2 rfl) rfl (by decide) rfl (b := 5) rfl) ?_
  refine rc_p (p_aload_n 1 (dk_at ktX5_readFlash_0 3 rfl) rfl rfl (b := 6) rfl) ?_
  refine rc_p (p_iload_n 0 (dk_at ktX5_readFlash_0 4 rfl) rfl rfl (b := 7) rfl) ?_
  refine r_ldcS (tx := "flash") (i := 0) (List.mem_of_getElem? (i := 0) rfl) (dk_at ktX5_readFlash_0 5 rfl) (b := 9) rfl ?_
  refine r_iV (As' := [.int (nI (txSk T nn p)), .ref (1000 + 0)]) (rest := []) (s_X5_isWord hx (hT.fr (show FQ x I I1 from (FF.rf.tr (hF5.mo (by simp) (by simp))))) (txWe T nn (txSk T nn p)) hh6 (by omega) (txSk T nn p) 0 (by omega) (by decide)) cw_X5_90 qi_X5_isWord qv_X5_isWord rfl hx.l0 hx.s0 (dk_at ktX5_readFlash_0 6 rfl) rfl rfl (Nat.le_of_ble_eq_true rfl) (by decide) (b := 12) rfl (fun v10 I7 J8 q9 => ?_)
  obtain ⟨rfl, rfl, rfl⟩ := q9
  refine r_if_ne (dk_at ktX5_readFlash_0 7 rfl) (b := 22) (by decide) (b2 := 15) rfl (fun c12 => ?_) (fun c12 => ?_)
  · have c12 := bi_t c12
    refine rc_p (p_aload_n 1 (dk_at ktX5_readFlash_0 13 rfl) rfl rfl (b := 23) rfl) ?_
    refine rc_p (p_bipush (v := 8) (dk_at ktX5_readFlash_0 14 rfl) (by decide) (b := 25) rfl) ?_
    refine rc_p (p_bipush (v := 64) (dk_at ktX5_readFlash_0 15 rfl) (by decide) (b := 27) rfl) ?_
    refine r_iV (As' := [.int 8, .int 64]) (rest := []) (s_X5_readNumber hx (hT.fr (show FQ x I I1 from (FF.rf.tr (hF5.mo (by simp) (by simp))))) (txWe T nn (txSk T nn p)) hh6 (by omega) 8 64 (by decide) (by decide)) cw_X5_94 qi_X5_readNumber qv_X5_readNumber rfl hx.l0 hx.s0 (dk_at ktX5_readFlash_0 16 rfl) rfl rfl (Nat.le_of_ble_eq_true rfl) (by decide) (b := 30) rfl (fun v14 I11 J12 q13 => ?_)
    obtain ⟨rfl, rfl, hF15, hy16, hy17⟩ := q13
    refine r_if_ne (dk_at ktX5_readFlash_0 17 rfl) (b := 35) (by decide) (b2 := 33) rfl (fun c30 => ?_) (fun c30 => ?_)
    · have c30 := bi_t c30
      have hk22 := of_decide_eq_true c30
      obtain ⟨hh18, hh19, hh20, hh21⟩ := hy16 hk22
      have hd23 := txDe_le (T := T) (n := nn) (p := txSk T nn (txWe T nn (txSk T nn p))) (by omega)
      have hs24 := txSk_le (T := T) (n := nn) (p := txDe T nn (txSk T nn (txWe T nn (txSk T nn p)))) (by omega)
      have hin25 := txK_in hk22
      refine rc_p (p_aload_n 1 (dk_at ktX5_readFlash_0 20 rfl) rfl rfl (b := 36) rfl) ?_
      refine r_geta fl_X5_18 rfl hx.l0 hx.s0 (dk_at ktX5_readFlash_0 21 rfl) hx.g0_1 (b := 39) rfl ?_
      refine rc_p (p_aload_n 1 (dk_at ktX5_readFlash_0 22 rfl) rfl rfl (b := 40) rfl) ?_
      refine r_geti fl_X5_75 rfl hx.l0 hx.s0 (dk_at ktX5_readFlash_0 23 rfl) (v := (nI (txVa T nn (txSk T nn (txWe T nn (txSk T nn p)))))) hh20 (b := 43) rfl ?_
      refine r_puti fl_X5_97 fw_X4_1 rfl (hx.lt 2 (by decide)) hx.s2 rfl rfl (dk_at ktX5_readFlash_0 24 rfl) (b := 46) rfl ?_
      refine rc_p (p_aload_n 1 (dk_at ktX5_readFlash_0 25 rfl) rfl rfl (b := 47) rfl) ?_
      refine rc_p (p_iconst (v := 4) (dk_at ktX5_readFlash_0 26 rfl) (by decide) (b := 48) rfl) ?_
      refine rc_p (p_bipush (v := 16) (dk_at ktX5_readFlash_0 27 rfl) (by decide) (b := 50) rfl) ?_
      refine r_iV (As' := [.int 4, .int 16]) (rest := []) (s_X5_readNumber hx (hT.fr (show FQ x I (up2 I11 (x + 2) 1 (nI (txVa T nn (txSk T nn (txWe T nn (txSk T nn p)))))) from (((FF.rf.tr (hF5.mo (by simp) (by simp))).tr (hF15.mo (by simp) (by simp))).ua (o := 2) (by simp) (by decide)))) (txDe T nn (txSk T nn (txWe T nn (txSk T nn p)))) ((up2_n (by omega)).trans hh19) (by omega) 4 16 (by decide) (by decide)) cw_X5_94 qi_X5_readNumber qv_X5_readNumber rfl hx.l0 hx.s0 (dk_at ktX5_readFlash_0 28 rfl) rfl rfl (Nat.le_of_ble_eq_true rfl) (by decide) (b := 53) rfl (fun v29 I26 J27 q28 => ?_)
      obtain ⟨rfl, rfl, hF30, hy31, hy32⟩ := q28
      refine r_if_ne (dk_at ktX5_readFlash_0 29 rfl) (b := 58) (by decide) (b2 := 56) rfl (fun c53 => ?_) (fun c53 => ?_)
      · have c53 := bi_t c53
        have hk37 := of_decide_eq_true c53
        obtain ⟨hh33, hh34, hh35, hh36⟩ := hy31 hk37
        have hd38 := txDe_le (T := T) (n := nn) (p := txSk T nn (txDe T nn (txSk T nn (txWe T nn (txSk T nn p))))) (by omega)
        have hs39 := txSk_le (T := T) (n := nn) (p := txDe T nn (txSk T nn (txDe T nn (txSk T nn (txWe T nn (txSk T nn p)))))) (by omega)
        have hin40 := txK_in hk37
        refine rc_p (p_aload_n 1 (dk_at ktX5_readFlash_0 32 rfl) rfl rfl (b := 59) rfl) ?_
        refine r_geta fl_X5_18 rfl hx.l0 hx.s0 (dk_at ktX5_readFlash_0 33 rfl) hx.g0_1 (b := 62) rfl ?_
        refine rc_p (p_aload_n 1 (dk_at ktX5_readFlash_0 34 rfl) rfl rfl (b := 63) rfl) ?_
        refine r_geti fl_X5_75 rfl hx.l0 hx.s0 (dk_at ktX5_readFlash_0 35 rfl) (v := (nI (txVa T nn (txSk T nn (txDe T nn (txSk T nn (txWe T nn (txSk T nn p)))))))) hh35 (b := 66) rfl ?_
        refine r_puti fl_X5_100 fw_X4_2 rfl (hx.lt 2 (by decide)) hx.s2 rfl rfl (dk_at ktX5_readFlash_0 36 rfl) (b := 69) rfl ?_
        refine rc_p (p_aload_n 1 (dk_at ktX5_readFlash_0 37 rfl) rfl rfl (b := 70) rfl) ?_
        refine r_geta fl_X5_18 rfl hx.l0 hx.s0 (dk_at ktX5_readFlash_0 38 rfl) hx.g0_1 (b := 73) rfl ?_
        refine r_geti fl_X5_100 rfl (hx.lt 2 (by decide)) hx.s2 (dk_at ktX5_readFlash_0 39 rfl) (v := (nI (txVa T nn (txSk T nn (txDe T nn (txSk T nn (txWe T nn (txSk T nn p)))))))) up2_s (b := 76) rfl ?_
        refine r_if_eq (dk_at ktX5_readFlash_0 40 rfl) (b := 97) (by decide) (b2 := 79) rfl (fun c76 => ?_) (fun c76 => ?_)
        · have c76 : (txVa T nn (txSk T nn (txDe T nn (txSk T nn (txWe T nn (txSk T nn p)))))) = 0 := (nI_eq (a := txVa T nn (txSk T nn (txDe T nn (txSk T nn (txWe T nn (txSk T nn p)))))) (b := 0) (by omega) (by omega)).mp c76
          omega
        · have c76 : ¬ (txVa T nn (txSk T nn (txDe T nn (txSk T nn (txWe T nn (txSk T nn p)))))) = 0 := fun h => c76 ((nI_eq (a := txVa T nn (txSk T nn (txDe T nn (txSk T nn (txWe T nn (txSk T nn p)))))) (b := 0) (by omega) (by omega)).mpr h)
          refine rc_p (p_aload_n 1 (dk_at ktX5_readFlash_0 41 rfl) rfl rfl (b := 80) rfl) ?_
          refine r_geta fl_X5_18 rfl hx.l0 hx.s0 (dk_at ktX5_readFlash_0 42 rfl) hx.g0_1 (b := 83) rfl ?_
          refine r_geti fl_X5_97 rfl (hx.lt 2 (by decide)) hx.s2 (dk_at ktX5_readFlash_0 43 rfl) (v := (nI (txVa T nn (txSk T nn (txWe T nn (txSk T nn p)))))) ((up2_n (by omega)).trans (((congrFun (hF30.1 _ (by omega) (by simp)) 1)).trans up2_s)) (b := 86) rfl ?_
          refine rc_p (p_aload_n 1 (dk_at ktX5_readFlash_0 44 rfl) rfl rfl (b := 87) rfl) ?_
          refine r_geta fl_X5_18 rfl hx.l0 hx.s0 (dk_at ktX5_readFlash_0 45 rfl) hx.g0_1 (b := 90) rfl ?_
          refine r_geti fl_X5_100 rfl (hx.lt 2 (by decide)) hx.s2 (dk_at ktX5_readFlash_0 46 rfl) (v := (nI (txVa T nn (txSk T nn (txDe T nn (txSk T nn (txWe T nn (txSk T nn p)))))))) up2_s (b := 93) rfl ?_
          have hmod := Nat.mod_le (txVa T nn (txSk T nn (txWe T nn (txSk T nn p)))) (txVa T nn (txSk T nn (txDe T nn (txSk T nn (txWe T nn (txSk T nn p))))))
          refine rc_p (p_irem (v := (nI ((txVa T nn (txSk T nn (txWe T nn (txSk T nn p)))) % (txVa T nn (txSk T nn (txDe T nn (txSk T nn (txWe T nn (txSk T nn p))))))))) (dk_at ktX5_readFlash_0 47 rfl) (nI_ne0 (by omega) (by omega)) (pk_rem (a := (txVa T nn (txSk T nn (txWe T nn (txSk T nn p))))) (d := (txVa T nn (txSk T nn (txDe T nn (txSk T nn (txWe T nn (txSk T nn p))))))) (by omega) (by omega) (by omega)) (b := 94) rfl) ?_
          refine r_if_eq (dk_at ktX5_readFlash_0 48 rfl) (b := 107) (by decide) (b2 := 97) rfl (fun c94 => ?_) (fun c94 => ?_)
          · have c94 : ((txVa T nn (txSk T nn (txWe T nn (txSk T nn p)))) % (txVa T nn (txSk T nn (txDe T nn (txSk T nn (txWe T nn (txSk T nn p))))))) = 0 := (nI_eq (a := (txVa T nn (txSk T nn (txWe T nn (txSk T nn p)))) % (txVa T nn (txSk T nn (txDe T nn (txSk T nn (txWe T nn (txSk T nn p))))))) (b := 0) (by omega) (by omega)).mp c94
            refine rc_p (p_aload_n 1 (dk_at ktX5_readFlash_0 55 rfl) rfl rfl (b := 108) rfl) ?_
            refine rc_p (p_bipush (v := 12) (dk_at ktX5_readFlash_0 56 rfl) (by decide) (b := 110) rfl) ?_
            refine rc_p (p_bipush (v := 32) (dk_at ktX5_readFlash_0 57 rfl) (by decide) (b := 112) rfl) ?_
            refine r_iV (As' := [.int 12, .int 32]) (rest := []) (s_X5_readNumber hx (hT.fr (show FQ x I (up2 I26 (x + 2) 2 (nI (txVa T nn (txSk T nn (txDe T nn (txSk T nn (txWe T nn (txSk T nn p)))))))) from (((((FF.rf.tr (hF5.mo (by simp) (by simp))).tr (hF15.mo (by simp) (by simp))).ua (o := 2) (by simp) (by decide)).tr (hF30.mo (by simp) (by simp))).ua (o := 2) (by simp) (by decide)))) (txDe T nn (txSk T nn (txDe T nn (txSk T nn (txWe T nn (txSk T nn p)))))) ((up2_n (by omega)).trans hh34) (by omega) 12 32 (by decide) (by decide)) cw_X5_94 qi_X5_readNumber qv_X5_readNumber rfl hx.l0 hx.s0 (dk_at ktX5_readFlash_0 58 rfl) rfl rfl (Nat.le_of_ble_eq_true rfl) (by decide) (b := 115) rfl (fun v44 I41 J42 q43 => ?_)
            obtain ⟨rfl, rfl, hF45, hy46, hy47⟩ := q43
            refine r_if_ne (dk_at ktX5_readFlash_0 59 rfl) (b := 120) (by decide) (b2 := 118) rfl (fun c115 => ?_) (fun c115 => ?_)
            · have c115 := bi_t c115
              have hk52 := of_decide_eq_true c115
              obtain ⟨hh48, hh49, hh50, hh51⟩ := hy46 hk52
              have hd53 := txDe_le (T := T) (n := nn) (p := txSk T nn (txDe T nn (txSk T nn (txDe T nn (txSk T nn (txWe T nn (txSk T nn p))))))) (by omega)
              have hs54 := txSk_le (T := T) (n := nn) (p := txDe T nn (txSk T nn (txDe T nn (txSk T nn (txDe T nn (txSk T nn (txWe T nn (txSk T nn p)))))))) (by omega)
              have hin55 := txK_in hk52
              refine rc_p (p_aload_n 1 (dk_at ktX5_readFlash_1 2 rfl) rfl rfl (b := 121) rfl) ?_
              refine r_geta fl_X5_18 rfl hx.l0 hx.s0 (dk_at ktX5_readFlash_1 3 rfl) hx.g0_1 (b := 124) rfl ?_
              refine rc_p (p_aload_n 1 (dk_at ktX5_readFlash_1 4 rfl) rfl rfl (b := 125) rfl) ?_
              refine r_geti fl_X5_75 rfl hx.l0 hx.s0 (dk_at ktX5_readFlash_1 5 rfl) (v := (nI (txVa T nn (txSk T nn (txDe T nn (txSk T nn (txDe T nn (txSk T nn (txWe T nn (txSk T nn p)))))))))) hh50 (b := 128) rfl ?_
              refine r_puti fl_X5_103 fw_X4_3 rfl (hx.lt 2 (by decide)) hx.s2 rfl rfl (dk_at ktX5_readFlash_1 6 rfl) (b := 131) rfl ?_
              refine rc_p (p_iconst (v := 1) (dk_at ktX5_readFlash_1 7 rfl) (by decide) (b := 132) rfl) ?_
              refine r_iret (dk_at ktX5_readFlash_1 8 rfl) rfl rfl ⟨_, rfl, ?_⟩
              have ho : flashO T nn p S = _ := (if_pos c12).trans ((if_pos hk22).trans ((if_pos hk37).trans ((if_pos c94).trans (numO_y hk52))))
              rw [ho]
              exact ⟨rfl, rfl, PC.good (show FQ x I (up2 I41 (x + 2) 3 (nI (txVa T nn (txSk T nn (txDe T nn (txSk T nn (txDe T nn (txSk T nn (txWe T nn (txSk T nn p)))))))))) from (((((((FF.rf.tr (hF5.mo (by simp) (by simp))).tr (hF15.mo (by simp) (by simp))).ua (o := 2) (by simp) (by decide)).tr (hF30.mo (by simp) (by simp))).ua (o := 2) (by simp) (by decide)).tr (hF45.mo (by simp) (by simp))).ua (o := 2) (by simp) (by decide))) ((up2_n (by omega)).trans (hh48.trans ((up2_n (by omega)).trans (hh33.trans ((up2_n (by omega)).trans (hh18.trans (((hF5.2 6 (by decide))).trans h6))))))) ((up2_n (by omega)).trans hh49) ((((((((hS.fr hF5).fr hF15).p (k := 1) (by decide)).fr hF30).p (k := 2) (by decide)).fr hF45).p (k := 3) (by decide)).s3 (I := I) ((up2_n (by omega)).trans (((congrFun (hF45.1 _ (by omega) (by simp)) 1)).trans ((up2_n (by omega)).trans (((congrFun (hF30.1 _ (by omega) (by simp)) 1)).trans up2_s)))) ((up2_n (by omega)).trans (((congrFun (hF45.1 _ (by omega) (by simp)) 2)).trans up2_s)) up2_s)⟩
            · have c115 := bi_f c115
              have hk58 := of_decide_eq_false c115
              obtain ⟨hh56, hh57⟩ := hy47 hk58
              refine rc_p (p_iconst (v := 0) (dk_at ktX5_readFlash_1 0 rfl) (by decide) (b := 119) rfl) ?_
              refine r_iret (dk_at ktX5_readFlash_1 1 rfl) rfl rfl ⟨_, rfl, ?_⟩
              have ho : flashO T nn p S = _ := (if_pos c12).trans ((if_pos hk22).trans ((if_pos hk37).trans ((if_pos c94).trans (numO_n hk58))))
              rw [ho]
              exact ⟨bk_1 hk58, rfl, PC.bad hk58 (show FQ x I I41 from ((((((FF.rf.tr (hF5.mo (by simp) (by simp))).tr (hF15.mo (by simp) (by simp))).ua (o := 2) (by simp) (by decide)).tr (hF30.mo (by simp) (by simp))).ua (o := 2) (by simp) (by decide)).tr (hF45.mo (by simp) (by simp)))) hh56 hh57⟩
          · have c94 : ¬ ((txVa T nn (txSk T nn (txWe T nn (txSk T nn p)))) % (txVa T nn (txSk T nn (txDe T nn (txSk T nn (txWe T nn (txSk T nn p))))))) = 0 := fun h => c94 ((nI_eq (a := (txVa T nn (txSk T nn (txWe T nn (txSk T nn p)))) % (txVa T nn (txSk T nn (txDe T nn (txSk T nn (txWe T nn (txSk T nn p))))))) (b := 0) (by omega) (by omega)).mpr h)
            refine rc_p (p_aload_n 1 (dk_at ktX5_readFlash_0 49 rfl) rfl rfl (b := 98) rfl) ?_
            refine rc_p (p_iconst (v := 3) (dk_at ktX5_readFlash_0 50 rfl) (by decide) (b := 99) rfl) ?_
            refine rc_p (p_aload_n 1 (dk_at ktX5_readFlash_0 51 rfl) rfl rfl (b := 100) rfl) ?_
            refine r_geti fl_X5_72 rfl hx.l0 hx.s0 (dk_at ktX5_readFlash_0 52 rfl) (v := (nI (txSk T nn (txDe T nn (txSk T nn (txWe T nn (txSk T nn p))))))) ((up2_n (by omega)).trans hh36) (b := 103) rfl ?_
            refine r_iV (As' := [.int 3, .int (nI (txSk T nn (txDe T nn (txSk T nn (txWe T nn (txSk T nn p))))))]) (rest := []) (s_X5_fail hx 3 (txSk T nn (txDe T nn (txSk T nn (txWe T nn (txSk T nn p)))))) cw_X5_56 qi_X5_fail qv_X5_fail rfl hx.l0 hx.s0 (dk_at ktX5_readFlash_0 53 rfl) rfl rfl (Nat.le_of_ble_eq_true rfl) (by decide) (b := 106) rfl (fun v62 I59 J60 q61 => ?_)
            obtain ⟨rfl, rfl, hF63, hh64, hh65⟩ := q61
            refine r_iret (dk_at ktX5_readFlash_0 54 rfl) rfl rfl ⟨_, rfl, ?_⟩
            have ho : flashO T nn p S = _ := (if_pos c12).trans ((if_pos hk22).trans ((if_pos hk37).trans (if_neg c94)))
            rw [ho]
            exact ⟨bk_1 (k := 3) (by decide), rfl, PC.bad (by decide) (show FQ x I I59 from ((((((FF.rf.tr (hF5.mo (by simp) (by simp))).tr (hF15.mo (by simp) (by simp))).ua (o := 2) (by simp) (by decide)).tr (hF30.mo (by simp) (by simp))).ua (o := 2) (by simp) (by decide)).tr (hF63.mo (by simp) (by simp)))) hh64 hh65⟩
      · have c53 := bi_f c53
        have hk68 := of_decide_eq_false c53
        obtain ⟨hh66, hh67⟩ := hy32 hk68
        refine rc_p (p_iconst (v := 0) (dk_at ktX5_readFlash_0 30 rfl) (by decide) (b := 57) rfl) ?_
        refine r_iret (dk_at ktX5_readFlash_0 31 rfl) rfl rfl ⟨_, rfl, ?_⟩
        have ho : flashO T nn p S = _ := (if_pos c12).trans ((if_pos hk22).trans (if_neg hk68))
        rw [ho]
        exact ⟨bk_1 hk68, rfl, PC.bad hk68 (show FQ x I I26 from ((((FF.rf.tr (hF5.mo (by simp) (by simp))).tr (hF15.mo (by simp) (by simp))).ua (o := 2) (by simp) (by decide)).tr (hF30.mo (by simp) (by simp)))) hh66 hh67⟩
    · have c30 := bi_f c30
      have hk71 := of_decide_eq_false c30
      obtain ⟨hh69, hh70⟩ := hy17 hk71
      refine rc_p (p_iconst (v := 0) (dk_at ktX5_readFlash_0 18 rfl) (by decide) (b := 34) rfl) ?_
      refine r_iret (dk_at ktX5_readFlash_0 19 rfl) rfl rfl ⟨_, rfl, ?_⟩
      have ho : flashO T nn p S = _ := (if_pos c12).trans (if_neg hk71)
      rw [ho]
      exact ⟨bk_1 hk71, rfl, PC.bad hk71 (show FQ x I I11 from ((FF.rf.tr (hF5.mo (by simp) (by simp))).tr (hF15.mo (by simp) (by simp)))) hh69 hh70⟩
  · have c12 := bi_f c12
    refine rc_p (p_aload_n 1 (dk_at ktX5_readFlash_0 8 rfl) rfl rfl (b := 16) rfl) ?_
    refine rc_p (p_iconst (v := 1) (dk_at ktX5_readFlash_0 9 rfl) (by decide) (b := 17) rfl) ?_
    refine rc_p (p_iload_n 0 (dk_at ktX5_readFlash_0 10 rfl) rfl rfl (b := 18) rfl) ?_
    refine r_iV (As' := [.int 1, .int (nI (txSk T nn p))]) (rest := []) (s_X5_fail hx 1 (txSk T nn p)) cw_X5_56 qi_X5_fail qv_X5_fail rfl hx.l0 hx.s0 (dk_at ktX5_readFlash_0 11 rfl) rfl rfl (Nat.le_of_ble_eq_true rfl) (by decide) (b := 21) rfl (fun v75 I72 J73 q74 => ?_)
    obtain ⟨rfl, rfl, hF76, hh77, hh78⟩ := q74
    refine r_iret (dk_at ktX5_readFlash_0 12 rfl) rfl rfl ⟨_, rfl, ?_⟩
    have ho : flashO T nn p S = _ := if_neg (by rw [c12]; decide)
    rw [ho]
    exact ⟨bk_1 (k := 1) (by decide), rfl, PC.bad (by decide) (show FQ x I I72 from ((FF.rf.tr (hF5.mo (by simp) (by simp))).tr (hF76.mo (by simp) (by simp)))) hh77 hh78⟩
set_option maxRecDepth 4000 in
set_option maxHeartbeats 4000000 in
theorem s_X5_readImage {n : Nat} {sh : mS} {G : mG} {I : mI} {J : mJ} {x : Nat} {T : tT} {nn : Nat} (hx : TxtG n sh G x) (hT : TC x I T nn) (p : Nat) (hp : I x 3 = nI p) (hpn : p ≤ nn) (h6 : I x 6 = 0) {S : PSt} (hS : RC x I S) (hG : GS S)  : Sp yX5_readImage cX5_readImage 3 (some FieldType.boolean) 4 166 0 0 [.ref x] n sh G I J (Qi (fun r_ I_ J_ => bi (decide ((imageO T nn p (tn (S.row 0)) S).k = 0)) = r_ ∧ J = J_ ∧ PC x I I_ (imageO T nn p (tn (S.row 0)) S))) nX := by
  refine Sp.of (by decide) (ls := [(0, .ref x)]) (fun _ => rfl) (fun _ => Nat.le_of_ble_eq_true rfl) ?_
  have hn := hT.1.1
  have hsk := txSk_le (T := T) hpn
  have h256 := tx_256 hT.1
  have hw := hG.1.W
  have hg := hG.2.2.2.2
  have hde := txDe_le (T := T) hsk.2
  have hsk2 := txSk_le (T := T) hde.2
  have hde2 := txDe_le (T := T) hsk2.2
  have cut64 : ∀ (t c z : Nat) (r : sT) (Iz : mI), FQ x I Iz → Iz x 3 = nI z → Iz x 6 = 0 → RC x Iz ((S.cl (3 + (txVa T nn (txSk T nn p)))).rw r) → r 0 = nI (tn (S.row 0)) → GR r → r (83 + 64 * (txVa T nn (txSk T nn p))) = nI (txVa T nn (txSk T nn (txDe T nn (txSk T nn p)))) → txK T nn (txSk T nn p) 0 1 = 0 → txK T nn (txSk T nn (txDe T nn (txSk T nn p))) 1 255 = 0 → z ≤ nn → c + 3 ≤ (tn (S.row 0)) → 100 - c < t → imageO T nn p (tn (S.row 0)) S = imgF T nn (tn (S.row 0)) (txVa T nn (txSk T nn p)) (S.cl (3 + (txVa T nn (txSk T nn p)))) (62 - c) c z r → Rc RX5 cX5_readImage 3 (some FieldType.boolean) 4 166 0 0 n sh G (Qi (fun r_ I_ J_ => bi (decide ((imageO T nn p (tn (S.row 0)) S).k = 0)) = r_ ∧ J = J_ ∧ PC x I I_ (imageO T nn p (tn (S.row 0)) S))) nX 0 0 64 [(2, .int (nI c)), (1, .ref (x + 4 + (txVa T nn (txSk T nn p)))), (0, .ref x)] [] Iz J := by
    intro t
    induction t
    · intro c z r Iz _ _ _ _ _ _ _ _ _ _ _ h; omega
    rename_i t ih
    intro c z r Iz hFz hz h6 hRz hr0 hGr hrv hkA hkB hzn hcW ht hx2
    have hiA := txK_in hkA
    have hiB := txK_in hkB
    have hsz := txSk_le (T := T) hzn
    refine rc_p (p_iload_n 0 (dk_at ktX5_readImage_0 37 rfl) rfl rfl (b := 65) rfl) ?_
    refine rc_p (p_aload_n 2 (dk_at ktX5_readImage_0 38 rfl) rfl rfl (b := 66) rfl) ?_
    refine r_geta fl_X5_18 rfl hx.l0 hx.s0 (dk_at ktX5_readImage_0 39 rfl) hx.g0_1 (b := 69) rfl ?_
    refine r_geti fl_X5_97 rfl (hx.lt 2 (by decide)) hx.s2 (dk_at ktX5_readImage_0 40 rfl) (v := (nI (tn (S.row 0)))) (hRz.1.1.trans hr0) (b := 72) rfl ?_
    refine rc_p (p_iconst (v := 3) (dk_at ktX5_readImage_0 41 rfl) (by decide) (b := 73) rfl) ?_
    refine rc_p (p_isub (v := (nI (tn (S.row 0) - 3))) (dk_at ktX5_readImage_0 42 rfl) (pk_sub (a := tn (S.row 0)) (b := 3) (by omega)) (b := 74) rfl) ?_
    refine r_icmp_lt (dk_at ktX5_readImage_0 43 rfl) (b := 87) (by decide) (b2 := 77) rfl (fun c74 => ?_) (fun c74 => ?_)
    · have c74 : c < (tn (S.row 0) - 3) := (nI_ltI (a := c) (b := tn (S.row 0) - 3) (by omega) (by omega)).mp c74
      refine rc_p (p_aload_n 2 (dk_at ktX5_readImage_0 50 rfl) rfl rfl (b := 88) rfl) ?_
      refine rc_p (p_iconst (v := 0) (dk_at ktX5_readImage_0 51 rfl) (by decide) (b := 89) rfl) ?_
      refine rc_p (p_ldc (v := 65535) qk_TwinBoot_Text_141 (dk_at ktX5_readImage_0 52 rfl) (b := 91) rfl) ?_
      refine r_iV (As' := [.int 0, .int 65535]) (rest := []) (s_X5_readNumber hx (hT.fr (show FQ x I Iz from (hFz.mo (by simp) (by simp)))) z hz (by omega) 0 65535 (by decide) (by decide)) cw_X5_94 qi_X5_readNumber qv_X5_readNumber rfl hx.l0 hx.s0 (dk_at ktX5_readImage_0 53 rfl) rfl rfl (Nat.le_of_ble_eq_true rfl) (by decide) (b := 94) rfl (fun v4 I1 J2 q3 => ?_)
      obtain ⟨rfl, rfl, hF5, hy6, hy7⟩ := q3
      refine r_if_ne (dk_at ktX5_readImage_0 54 rfl) (b := 99) (by decide) (b2 := 97) rfl (fun c94 => ?_) (fun c94 => ?_)
      · have c94 := bi_t c94
        have hk12 := of_decide_eq_true c94
        obtain ⟨hh8, hh9, hh10, hh11⟩ := hy6 hk12
        have hd13 := txDe_le (T := T) (n := nn) (p := txSk T nn z) (by omega)
        have hs14 := txSk_le (T := T) (n := nn) (p := txDe T nn (txSk T nn z)) (by omega)
        have hin15 := txK_in hk12
        refine rc_p (p_aload_n 1 (dk_at ktX5_readImage_0 57 rfl) rfl rfl (b := 100) rfl) ?_
        refine rc_p (p_iconst (v := 3) (dk_at ktX5_readImage_0 58 rfl) (by decide) (b := 101) rfl) ?_
        refine rc_p (p_iload_n 0 (dk_at ktX5_readImage_0 59 rfl) rfl rfl (b := 102) rfl) ?_
        refine rc_p (p_iadd (v := (nI (3 + c))) (dk_at ktX5_readImage_1 0 rfl) (nI_add 3 c) (b := 103) rfl) ?_
        refine rc_p (p_aload_n 2 (dk_at ktX5_readImage_1 1 rfl) rfl rfl (b := 104) rfl) ?_
        refine r_geti fl_X5_75 rfl hx.l0 hx.s0 (dk_at ktX5_readImage_1 2 rfl) (v := (nI (txVa T nn (txSk T nn z)))) hh10 (b := 107) rfl ?_
        refine r_iast (j := 3 + c) (by have := hx.1; omega) (hx.si (by omega)) (dk_at ktX5_readImage_1 3 rfl) rfl ⟨by omega, by decide⟩ (b := 108) rfl ?_
        refine rc_p (p_iinc (j := 0) (v := (nI (c + 1))) (ls' := [(2, .int (nI (c + 1))), (1, .ref (x + 4 + (txVa T nn (txSk T nn p)))), (0, .ref x)]) (dk_at ktX5_readImage_1 4 rfl) rfl (nI_add c 1) (by decide) rfl (b := 111) rfl) ?_
        refine rc_p (p_iload_n 0 (dk_at ktX5_readImage_1 5 rfl) rfl rfl (b := 112) rfl) ?_
        refine rc_p (p_bipush (v := 64) (dk_at ktX5_readImage_1 6 rfl) (by decide) (b := 114) rfl) ?_
        refine r_icmp_ge (dk_at ktX5_readImage_1 7 rfl) (b := 124) (by decide) (b2 := 117) rfl (fun c114 => ?_) (fun c114 => ?_)
        · have c114 : 64 ≤ (c + 1) := (nI_leI (a := 64) (b := c + 1) (by omega) (by omega)).mp c114
          omega
        · have c114 : ¬ 64 ≤ (c + 1) := fun h => c114 ((nI_leI (a := 64) (b := c + 1) (by omega) (by omega)).mpr h)
          refine rc_p (p_aload_n 2 (dk_at ktX5_readImage_1 8 rfl) rfl rfl (b := 118) rfl) ?_
          refine r_iV (As' := []) (rest := []) (s_X5_isAtDigit hx (hT.fr (show FQ x I (up2 I1 (x + 4 + (txVa T nn (txSk T nn p))) (3 + c) (nI (txVa T nn (txSk T nn z)))) from (((hFz.mo (by simp) (by simp)).tr (hF5.mo (by simp) (by simp))).u4 (by omega) (by simp) (by simp)))) (txDe T nn (txSk T nn z)) ((up2_n (by omega)).trans hh9) (by omega)) cw_X5_69 qi_X5_isAtDigit qv_X5_isAtDigit rfl hx.l0 hx.s0 (dk_at ktX5_readImage_1 9 rfl) rfl rfl (Nat.le_of_ble_eq_true rfl) (by decide) (b := 121) rfl (fun v19 I16 J17 q18 => ?_)
          obtain ⟨rfl, rfl, hF20, hh21⟩ := q18
          refine r_if_ne (dk_at ktX5_readImage_1 10 rfl) (b := 64) (by decide) (b2 := 124) rfl (fun c121 => ?_) (fun c121 => ?_)
          · have c121 := bi_t c121
            exact ih (c + 1) _ _ _ (show FQ x I I16 from ((((hFz.mo (by simp) (by simp)).tr (hF5.mo (by simp) (by simp))).u4 (by omega) (by simp) (by simp)).tr (hF20.mo (by simp) (by simp)))) hh21 (((hF20.2 6 (by decide))).trans ((up2_n (by omega)).trans (hh8.trans h6))) (((hRz.fr hF5).ima (q := (txVa T nn (txSk T nn p))) (k := 3 + c) (a := 86 + 64 * (txVa T nn (txSk T nn p)) + c) (by omega) (by omega) (by omega)).fr hF20) ((upd_n (by omega)).trans hr0) (hGr.im (by omega) (by omega) ⟨_, by omega, rfl⟩) ((upd_n (by omega)).trans hrv) hkA hkB (by omega) (by omega) (by omega) (hx2.trans ((imgC_s (by omega) (by omega) hk12).trans (imgH_d (Nat.succ_ne_zero c) c121)))
          · have c121 := bi_f c121
            refine rc_p (p_aload_n 1 (dk_at ktX5_readImage_1 11 rfl) rfl rfl (b := 125) rfl) ?_
            refine rc_p (p_iconst (v := 1) (dk_at ktX5_readImage_1 12 rfl) (by decide) (b := 126) rfl) ?_
            refine rc_p (p_iload_n 0 (dk_at ktX5_readImage_1 13 rfl) rfl rfl (b := 127) rfl) ?_
            refine r_iast (j := 1) (by have := hx.1; omega) (hx.si (by omega)) (dk_at ktX5_readImage_1 14 rfl) rfl ⟨by decide, by decide⟩ (b := 128) rfl ?_
            refine rc_p (p_aload_n 1 (dk_at ktX5_readImage_1 15 rfl) rfl rfl (b := 129) rfl) ?_
            refine rc_p (p_iconst (v := 2) (dk_at ktX5_readImage_1 16 rfl) (by decide) (b := 130) rfl) ?_
            refine rc_p (p_aload_n 1 (dk_at ktX5_readImage_1 17 rfl) rfl rfl (b := 131) rfl) ?_
            refine rc_p (p_iconst (v := 0) (dk_at ktX5_readImage_1 18 rfl) (by decide) (b := 132) rfl) ?_
            refine r_iald (j := 0) (by have := hx.1; omega) (hx.si (by omega)) (dk_at ktX5_readImage_1 19 rfl) rfl ⟨by decide, by decide⟩ (v := (nI (txVa T nn (txSk T nn (txDe T nn (txSk T nn p)))))) ((up2_n (by omega)).trans (((congrFun (hF20.1 _ (by omega) (by simp)) 0)).trans ((up2_n (by omega)).trans (((congrFun (hF5.1 _ (by omega) (by simp)) 0)).trans ((hRz.2.2 (txVa T nn (txSk T nn p)) 0 (by omega) (by decide)).trans hrv))))) (b := 133) rfl ?_
            refine rc_p (p_iload_n 0 (dk_at ktX5_readImage_1 20 rfl) rfl rfl (b := 134) rfl) ?_
            refine rc_p (p_aload_n 1 (dk_at ktX5_readImage_1 21 rfl) rfl rfl (b := 135) rfl) ?_
            refine r_iS (As := [.int (nI (txVa T nn (txSk T nn (txDe T nn (txSk T nn p))))), .int (nI (c + 1)), .ref (x + 4 + (txVa T nn (txSk T nn p)))]) (rest := [.int 2, .ref (x + 4 + (txVa T nn (txSk T nn p)))]) (s_X1_sum (ar := (x + 4 + (txVa T nn (txSk T nn p)))) ⟨(by have := hx.1; omega), (hx.si (by omega))⟩ (txVa T nn (txSk T nn (txDe T nn (txSk T nn p)))) (c + 1) (by omega) (by omega) (fun j hj => by rw [((((hRz.fr hF5).ima (q := (txVa T nn (txSk T nn p))) (k := 3 + c) (a := 86 + 64 * (txVa T nn (txSk T nn p)) + c) (by omega) (by omega) (by omega)).fr hF20).ima (q := (txVa T nn (txSk T nn p))) (k := 1) (a := 84 + 64 * (txVa T nn (txSk T nn p))) (by omega) (by omega) (by omega)).2.2 (txVa T nn (txSk T nn p)) (3 + j) (by omega) (by omega)]; exact ((hGr.im (k := 86 + 64 * (txVa T nn (txSk T nn p)) + c) (v := (nI (txVa T nn (txSk T nn z)))) (by omega) (by omega) ⟨_, by omega, rfl⟩).im (k := 84 + 64 * (txVa T nn (txSk T nn p))) (v := nI (c + 1)) (by omega) (by omega) ⟨_, by omega, rfl⟩).2.2.2.1 _ (by omega) (by omega))) cw_X5_142 qs_X1_sum (dk_at ktX5_readImage_1 22 rfl) rfl rfl (Nat.le_of_ble_eq_true rfl) (by decide) (b := 138) rfl (fun v25 I22 J23 q24 => ?_)
            obtain ⟨rfl, rfl, rfl⟩ := q24
            have hrv2 : (upd r (86 + 64 * (txVa T nn (txSk T nn p)) + c) (nI (txVa T nn (txSk T nn z)))) (83 + 64 * (txVa T nn (txSk T nn p))) = nI (txVa T nn (txSk T nn (txDe T nn (txSk T nn p)))) := (upd_n (by omega)).trans hrv
            refine r_val (y := sumF (upd (upd r (86 + 64 * (txVa T nn (txSk T nn p)) + c) (nI (txVa T nn (txSk T nn z)))) (84 + 64 * (txVa T nn (txSk T nn p))) (nI (c + 1))) (83 + 64 * (txVa T nn (txSk T nn p))) ((upd r (86 + 64 * (txVa T nn (txSk T nn p)) + c) (nI (txVa T nn (txSk T nn z)))) (83 + 64 * (txVa T nn (txSk T nn p)))) (c + 1)) (by rw [hrv2]; exact sumF_congr (fun k hk => (((((hRz.fr hF5).ima (q := (txVa T nn (txSk T nn p))) (k := 3 + c) (a := 86 + 64 * (txVa T nn (txSk T nn p)) + c) (by omega) (by omega) (by omega)).fr hF20).ima (q := (txVa T nn (txSk T nn p))) (k := 1) (a := 84 + 64 * (txVa T nn (txSk T nn p))) (by omega) (by omega) (by omega)).2.2 (txVa T nn (txSk T nn p)) (0 + 3 + k) (by omega) (by omega)).trans (congrArg _ (by omega)))) ?_
            refine r_iast (j := 2) (by have := hx.1; omega) (hx.si (by omega)) (dk_at ktX5_readImage_1 23 rfl) rfl ⟨by decide, by decide⟩ (b := 139) rfl ?_
            refine rc_p (p_iconst (v := 1) (dk_at ktX5_readImage_1 24 rfl) (by decide) (b := 140) rfl) ?_
            refine r_iret (dk_at ktX5_readImage_1 25 rfl) rfl rfl ⟨_, rfl, ?_⟩
            have ho := hx2.trans ((imgC_s (by omega) (by omega) hk12).trans (imgH_e (T := T) (n := nn) (Nat.succ_ne_zero c) c121))
            rw [ho]
            exact ⟨rfl, rfl, PC.good (show FQ x I (up2 (up2 I16 (x + 4 + (txVa T nn (txSk T nn p))) 1 (nI (c + 1))) (x + 4 + (txVa T nn (txSk T nn p))) 2 (sumF (upd (upd r (86 + 64 * (txVa T nn (txSk T nn p)) + c) (nI (txVa T nn (txSk T nn z)))) (84 + 64 * (txVa T nn (txSk T nn p))) (nI (c + 1))) (83 + 64 * (txVa T nn (txSk T nn p))) ((upd r (86 + 64 * (txVa T nn (txSk T nn p)) + c) (nI (txVa T nn (txSk T nn z)))) (83 + 64 * (txVa T nn (txSk T nn p)))) (c + 1))) from ((((((hFz.mo (by simp) (by simp)).tr (hF5.mo (by simp) (by simp))).u4 (by omega) (by simp) (by simp)).tr (hF20.mo (by simp) (by simp))).u4 (by omega) (by simp) (by simp)).u4 (by omega) (by simp) (by simp))) ((up2_n (by omega)).trans ((up2_n (by omega)).trans (((hF20.2 6 (by decide))).trans ((up2_n (by omega)).trans (hh8.trans h6))))) ((up2_n (by omega)).trans ((up2_n (by omega)).trans hh21)) (((((hRz.fr hF5).ima (q := (txVa T nn (txSk T nn p))) (k := 3 + c) (a := 86 + 64 * (txVa T nn (txSk T nn p)) + c) (by omega) (by omega) (by omega)).fr hF20).ima (q := (txVa T nn (txSk T nn p))) (k := 1) (a := 84 + 64 * (txVa T nn (txSk T nn p))) (by omega) (by omega) (by omega)).ima (q := (txVa T nn (txSk T nn p))) (k := 2) (a := 85 + 64 * (txVa T nn (txSk T nn p))) (by omega) (by omega) (by omega))⟩
      · have c94 := bi_f c94
        have hk28 := of_decide_eq_false c94
        obtain ⟨hh26, hh27⟩ := hy7 hk28
        refine rc_p (p_iconst (v := 0) (dk_at ktX5_readImage_0 55 rfl) (by decide) (b := 98) rfl) ?_
        refine r_iret (dk_at ktX5_readImage_0 56 rfl) rfl rfl ⟨_, rfl, ?_⟩
        have ho : imageO T nn p (tn (S.row 0)) S = _ := hx2.trans (imgC_k (by omega) (by omega) hk28)
        rw [ho]
        exact ⟨bk_1 hk28, rfl, PC.bad hk28 (show FQ x I I1 from ((hFz.mo (by simp) (by simp)).tr (hF5.mo (by simp) (by simp)))) hh26 hh27⟩
    · have c74 : ¬ c < (tn (S.row 0) - 3) := fun h => c74 ((nI_ltI (a := c) (b := tn (S.row 0) - 3) (by omega) (by omega)).mpr h)
      refine rc_p (p_aload_n 2 (dk_at ktX5_readImage_0 44 rfl) rfl rfl (b := 78) rfl) ?_
      refine rc_p (p_iconst (v := 1) (dk_at ktX5_readImage_0 45 rfl) (by decide) (b := 79) rfl) ?_
      refine rc_p (p_aload_n 2 (dk_at ktX5_readImage_0 46 rfl) rfl rfl (b := 80) rfl) ?_
      refine r_geti fl_X5_31 rfl hx.l0 hx.s0 (dk_at ktX5_readImage_0 47 rfl) (v := (nI z)) hz (b := 83) rfl ?_
      refine r_iV (As' := [.int 1, .int (nI z)]) (rest := []) (s_X5_fail hx 1 z) cw_X5_56 qi_X5_fail qv_X5_fail rfl hx.l0 hx.s0 (dk_at ktX5_readImage_0 48 rfl) rfl rfl (Nat.le_of_ble_eq_true rfl) (by decide) (b := 86) rfl (fun v32 I29 J30 q31 => ?_)
      obtain ⟨rfl, rfl, hF33, hh34, hh35⟩ := q31
      refine r_iret (dk_at ktX5_readImage_0 49 rfl) rfl rfl ⟨_, rfl, ?_⟩
      have ho : imageO T nn p (tn (S.row 0)) S = _ := hx2.trans (imgC_w (by omega) (by omega))
      rw [ho]
      exact ⟨bk_1 (k := 1) (by decide), rfl, PC.bad (by decide) (show FQ x I I29 from ((hFz.mo (by simp) (by simp)).tr (hF33.mo (by simp) (by simp)))) hh34 hh35⟩
  have hn := hT.1.1
  have hsk := txSk_le (T := T) hpn
  have h256 := tx_256 hT.1
  have hw := hG.1.W
  have hg := hG.2.2.2.2
  have hde := txDe_le (T := T) hsk.2
  have hsk2 := txSk_le (T := T) hde.2
  have hde2 := txDe_le (T := T) hsk2.2
  refine rc_p (p_aload_n 0 (dk_at ktX5_readImage_0 0 rfl) rfl rfl (b := 1) rfl) ?_
  refine rc_p (p_iconst (v := 0) (dk_at ktX5_readImage_0 1 rfl) (by decide) (b := 2) rfl) ?_
  refine rc_p (p_iconst (v := 1) (dk_at ktX5_readImage_0 2 rfl) (by decide) (b := 3) rfl) ?_
  refine r_iV (As' := [.int 0, .int 1]) (rest := []) (s_X5_readNumber hx hT p hp (by omega) 0 1 (by decide) (by decide)) cw_X5_94 qi_X5_readNumber qv_X5_readNumber rfl hx.l0 hx.s0 (dk_at ktX5_readImage_0 3 rfl) rfl rfl (Nat.le_of_ble_eq_true rfl) (by decide) (b := 6) rfl (fun v39 I36 J37 q38 => ?_)
  obtain ⟨rfl, rfl, hF40, hy41, hy42⟩ := q38
  refine r_if_ne (dk_at ktX5_readImage_0 4 rfl) (b := 11) (by decide) (b2 := 9) rfl (fun c6 => ?_) (fun c6 => ?_)
  · have c6 := bi_t c6
    have hk47 := of_decide_eq_true c6
    obtain ⟨hh43, hh44, hh45, hh46⟩ := hy41 hk47
    have hd48 := txDe_le (T := T) (n := nn) (p := txSk T nn p) (by omega)
    have hs49 := txSk_le (T := T) (n := nn) (p := txDe T nn (txSk T nn p)) (by omega)
    have hin50 := txK_in hk47
    refine rc_p (p_aload_n 0 (dk_at ktX5_readImage_0 7 rfl) rfl rfl (b := 12) rfl) ?_
    refine r_geta fl_X5_18 rfl hx.l0 hx.s0 (dk_at ktX5_readImage_0 8 rfl) hx.g0_1 (b := 15) rfl ?_
    refine r_geta fl_X5_137 rfl (hx.lt 2 (by decide)) hx.s2 (dk_at ktX5_readImage_0 9 rfl) hx.g2_0 (b := 18) rfl ?_
    refine rc_p (p_aload_n 0 (dk_at ktX5_readImage_0 10 rfl) rfl rfl (b := 19) rfl) ?_
    refine r_geti fl_X5_75 rfl hx.l0 hx.s0 (dk_at ktX5_readImage_0 11 rfl) (v := (nI (txVa T nn (txSk T nn p)))) hh45 (b := 22) rfl ?_
    refine r_aald (j := txVa T nn (txSk T nn p)) (id2 := (x + 4 + (txVa T nn (txSk T nn p)))) (hx.lt 3 (by decide)) hx.s3 (by decide) (dk_at ktX5_readImage_0 12 rfl) rfl ⟨by omega, by decide⟩ (hx.gi (by omega)) (b := 23) rfl ?_
    refine rc_p (p_astore_n (ls' := [(1, .ref (x + 4 + (txVa T nn (txSk T nn p)))), (0, .ref x)]) (dk_at ktX5_readImage_0 13 rfl) rfl (by decide) rfl (b := 24) rfl) ?_
    refine rc_p (p_aload_n 1 (dk_at ktX5_readImage_0 14 rfl) rfl rfl (b := 25) rfl) ?_
    refine rc_p (p_bipush (v := 16) (dk_at ktX5_readImage_0 15 rfl) (by decide) (b := 27) rfl) ?_
    refine rc_p (p_aload_n 1 (dk_at ktX5_readImage_0 16 rfl) rfl rfl (b := 28) rfl) ?_
    refine r_geti fl_X5_75 rfl hx.l0 hx.s0 (dk_at ktX5_readImage_0 17 rfl) (v := (nI (txVa T nn (txSk T nn p)))) hh45 (b := 31) rfl ?_
    refine rc_p (p_ishl (v := (nI (cs (3 + (txVa T nn (txSk T nn p)))))) (dk_at ktX5_readImage_0 18 rfl) (cs_i (by omega)) (b := 32) rfl) ?_
    refine rc_p (p_aload_n 1 (dk_at ktX5_readImage_0 19 rfl) rfl rfl (b := 33) rfl) ?_
    refine r_geti fl_X5_72 rfl hx.l0 hx.s0 (dk_at ktX5_readImage_0 20 rfl) (v := (nI (txSk T nn p))) hh46 (b := 36) rfl ?_
    refine r_iV (As' := [.int (nI (cs (3 + (txVa T nn (txSk T nn p))))), .int (nI (txSk T nn p))]) (rest := []) (s_X5_claim hx (hS.fr hF40) hg (3 + (txVa T nn (txSk T nn p))) (txSk T nn p) (by omega)) cw_X5_131 qi_X5_claim qv_X5_claim rfl hx.l0 hx.s0 (dk_at ktX5_readImage_0 21 rfl) rfl rfl (Nat.le_of_ble_eq_true rfl) (by decide) (b := 39) rfl (fun v54 I51 J52 q53 => ?_)
    obtain ⟨rfl, rfl, hF55, hy56, hy57⟩ := q53
    refine r_if_eq (dk_at ktX5_readImage_0 22 rfl) (b := 53) (by decide) (b2 := 42) rfl (fun c39 => ?_) (fun c39 => ?_)
    · have c39 := bi_f c39
      have hk58 : S.gv.testBit (3 + (txVa T nn (txSk T nn p))) = true := by simpa using c39
      obtain ⟨hh59, hh60⟩ := hy57 hk58
      refine rc_p (p_iconst (v := 0) (dk_at ktX5_readImage_0 28 rfl) (by decide) (b := 54) rfl) ?_
      refine r_iret (dk_at ktX5_readImage_0 29 rfl) rfl rfl ⟨_, rfl, ?_⟩
      have ho : imageO T nn p (tn (S.row 0)) S = _ := (if_pos hk47).trans (if_pos hk58)
      rw [ho]
      exact ⟨bk_1 (k := 4) (by decide), rfl, PC.bad (by decide) (show FQ x I I51 from ((FF.rf.tr (hF40.mo (by simp) (by simp))).tr (hF55.mo (by simp) (by simp)))) hh59 hh60⟩
    · have c39 := bi_t c39
      have hk61 : S.gv.testBit (3 + (txVa T nn (txSk T nn p))) = false := by simpa using c39
      obtain ⟨hF62, hh63⟩ := hy56 hk61
      refine rc_p (p_aload_n 1 (dk_at ktX5_readImage_0 23 rfl) rfl rfl (b := 43) rfl) ?_
      refine rc_p (p_iconst (v := 1) (dk_at ktX5_readImage_0 24 rfl) (by decide) (b := 44) rfl) ?_
      refine rc_p (p_sipush (v := 255) (dk_at ktX5_readImage_0 25 rfl) (by decide) (b := 47) rfl) ?_
      refine r_iV (As' := [.int 1, .int 255]) (rest := []) (s_X5_readNumber hx (hT.fr (show FQ x I I51 from ((FF.rf.tr (hF40.mo (by simp) (by simp))).tr (hF62.mo (by simp) (by simp))))) (txDe T nn (txSk T nn p)) (((hF62.2 3 (by decide))).trans hh44) (by omega) 1 255 (by decide) (by decide)) cw_X5_94 qi_X5_readNumber qv_X5_readNumber rfl hx.l0 hx.s0 (dk_at ktX5_readImage_0 26 rfl) rfl rfl (Nat.le_of_ble_eq_true rfl) (by decide) (b := 50) rfl (fun v67 I64 J65 q66 => ?_)
      obtain ⟨rfl, rfl, hF68, hy69, hy70⟩ := q66
      refine r_if_ne (dk_at ktX5_readImage_0 27 rfl) (b := 55) (by decide) (b2 := 53) rfl (fun c50 => ?_) (fun c50 => ?_)
      · have c50 := bi_t c50
        have hk75 := of_decide_eq_true c50
        obtain ⟨hh71, hh72, hh73, hh74⟩ := hy69 hk75
        have hd76 := txDe_le (T := T) (n := nn) (p := txSk T nn (txDe T nn (txSk T nn p))) (by omega)
        have hs77 := txSk_le (T := T) (n := nn) (p := txDe T nn (txSk T nn (txDe T nn (txSk T nn p)))) (by omega)
        have hin78 := txK_in hk75
        refine rc_p (p_aload_n 0 (dk_at ktX5_readImage_0 30 rfl) rfl rfl (b := 56) rfl) ?_
        refine rc_p (p_iconst (v := 0) (dk_at ktX5_readImage_0 31 rfl) (by decide) (b := 57) rfl) ?_
        refine rc_p (p_aload_n 1 (dk_at ktX5_readImage_0 32 rfl) rfl rfl (b := 58) rfl) ?_
        refine r_geti fl_X5_75 rfl hx.l0 hx.s0 (dk_at ktX5_readImage_0 33 rfl) (v := (nI (txVa T nn (txSk T nn (txDe T nn (txSk T nn p)))))) hh73 (b := 61) rfl ?_
        refine r_iast (j := 0) (by have := hx.1; omega) (hx.si (by omega)) (dk_at ktX5_readImage_0 34 rfl) rfl ⟨by decide, by decide⟩ (b := 62) rfl ?_
        refine rc_p (p_iconst (v := 0) (dk_at ktX5_readImage_0 35 rfl) (by decide) (b := 63) rfl) ?_
        refine rc_p (p_istore_n (ls' := [(2, .int 0), (1, .ref (x + 4 + (txVa T nn (txSk T nn p)))), (0, .ref x)]) (dk_at ktX5_readImage_0 36 rfl) rfl (by decide) rfl (b := 64) rfl) ?_
        have ho : imageO T nn p (tn (S.row 0)) S = imgF T nn (tn (S.row 0)) (txVa T nn (txSk T nn p)) (S.cl (3 + (txVa T nn (txSk T nn p)))) (62 - 0) 0 (txDe T nn (txSk T nn (txDe T nn (txSk T nn p)))) (upd S.row (83 + 64 * (txVa T nn (txSk T nn p))) (nI (txVa T nn (txSk T nn (txDe T nn (txSk T nn p)))))) := (if_pos hk47).trans ((if_neg (by rw [hk61]; decide)).trans (if_pos hk75))
        exact cut64 1000 0 (txDe T nn (txSk T nn (txDe T nn (txSk T nn p)))) (upd S.row (83 + 64 * (txVa T nn (txSk T nn p))) (nI (txVa T nn (txSk T nn (txDe T nn (txSk T nn p)))))) (up2 I64 (x + 4 + (txVa T nn (txSk T nn p))) 0 (nI (txVa T nn (txSk T nn (txDe T nn (txSk T nn p)))))) (show FQ x I (up2 I64 (x + 4 + (txVa T nn (txSk T nn p))) 0 (nI (txVa T nn (txSk T nn (txDe T nn (txSk T nn p)))))) from ((((FF.rf.tr (hF40.mo (by simp) (by simp))).tr (hF62.mo (by simp) (by simp))).tr (hF68.mo (by simp) (by simp))).u4 (by omega) (by simp) (by simp))) ((up2_n (by omega)).trans hh72) ((up2_n (by omega)).trans (hh71.trans (((hF62.2 6 (by decide))).trans (hh43.trans h6)))) ((hh63.fr hF68).ima (q := (txVa T nn (txSk T nn p))) (k := 0) (a := 83 + 64 * (txVa T nn (txSk T nn p))) (by omega) (by omega) (by omega)) ((upd_n (by omega)).trans hw.1) (hG.2.1.im (by omega) (by omega) ⟨_, by omega, rfl⟩) upd_s hk47 hk75 (by omega) (by omega) (by omega) ho
      · have c50 := bi_f c50
        have hk81 := of_decide_eq_false c50
        obtain ⟨hh79, hh80⟩ := hy70 hk81
        refine rc_p (p_iconst (v := 0) (dk_at ktX5_readImage_0 28 rfl) (by decide) (b := 54) rfl) ?_
        refine r_iret (dk_at ktX5_readImage_0 29 rfl) rfl rfl ⟨_, rfl, ?_⟩
        have ho : imageO T nn p (tn (S.row 0)) S = _ := (if_pos hk47).trans ((if_neg (by rw [hk61]; decide)).trans (if_neg hk81))
        rw [ho]
        exact ⟨bk_1 hk81, rfl, PC.bad hk81 (show FQ x I I64 from (((FF.rf.tr (hF40.mo (by simp) (by simp))).tr (hF62.mo (by simp) (by simp))).tr (hF68.mo (by simp) (by simp)))) hh79 hh80⟩
  · have c6 := bi_f c6
    have hk84 := of_decide_eq_false c6
    obtain ⟨hh82, hh83⟩ := hy42 hk84
    refine rc_p (p_iconst (v := 0) (dk_at ktX5_readImage_0 5 rfl) (by decide) (b := 10) rfl) ?_
    refine r_iret (dk_at ktX5_readImage_0 6 rfl) rfl rfl ⟨_, rfl, ?_⟩
    have ho : imageO T nn p (tn (S.row 0)) S = _ := if_neg hk84
    rw [ho]
    exact ⟨bk_1 hk84, rfl, PC.bad hk84 (show FQ x I I36 from (FF.rf.tr (hF40.mo (by simp) (by simp)))) hh82 hh83⟩
set_option maxRecDepth 4000 in
set_option maxHeartbeats 4000000 in
theorem s_X5_readStatement {n : Nat} {sh : mS} {G : mG} {I : mI} {J : mJ} {x : Nat} {T : tT} {nn : Nat} (hx : TxtG n sh G x) (hT : TC x I T nn) (p : Nat) (hp : I x 3 = nI p) (hpn : p ≤ nn) (h6 : I x 6 = 0) {S : PSt} (hS : RC x I S) (hG : GS S)  : Sp yX5_readStatement cX5_readStatement 3 (some FieldType.boolean) 6 209 0 0 [.ref x] n sh G I J (Qi (fun r_ I_ J_ => bi (decide ((stmtO T nn p S).k = 0)) = r_ ∧ J = J_ ∧ PC x I I_ (stmtO T nn p S))) nX := by
  refine Sp.of (by decide) (ls := [(0, .ref x)]) (fun _ => rfl) (fun _ => Nat.le_of_ble_eq_true rfl) ?_
  have hn := hT.1.1
  have hsk := txSk_le (T := T) hpn
  have hwe := txWe_le (T := T) hsk.2
  have hsk2 := txSk_le (T := T) hwe.2
  have hg := hG.2.2.2.2
  refine rc_p (p_aload_n 0 (dk_at ktX5_readStatement_0 0 rfl) rfl rfl (b := 1) rfl) ?_
  refine r_iV (As' := []) (rest := []) (s_X5_passWord hx hT p hp (by omega)) cw_X5_85 qi_X5_passWord qv_X5_passWord rfl hx.l0 hx.s0 (dk_at ktX5_readStatement_0 1 rfl) rfl rfl (Nat.le_of_ble_eq_true rfl) (by decide) (b := 4) rfl (fun v4 I1 J2 q3 => ?_)
  obtain ⟨rfl, rfl, hF5, hh6⟩ := q3
  refine rc_p (p_istore_n (ls' := [(1, .int (nI (txSk T nn p))), (0, .ref x)]) (dk_at ktX5_readStatement_0 2 rfl) rfl (by decide) rfl (b := 5) rfl) ?_
  refine rc_p (p_aload_n 1 (dk_at ktX5_readStatement_0 3 rfl) rfl rfl (b := 6) rfl) ?_
  refine rc_p (p_iload_n 0 (dk_at ktX5_readStatement_0 4 rfl) rfl rfl (b := 7) rfl) ?_
  refine r_ldcS (tx := "image") (i := 1) (List.mem_of_getElem? (i := 1) rfl) (dk_at ktX5_readStatement_0 5 rfl) (b := 9) rfl ?_
  refine r_iV (As' := [.int (nI (txSk T nn p)), .ref (1000 + 1)]) (rest := []) (s_X5_isWord hx (hT.fr (show FQ x I I1 from (FF.rf.tr (hF5.mo (by simp) (by simp))))) (txWe T nn (txSk T nn p)) hh6 (by omega) (txSk T nn p) 1 (by omega) (by decide)) cw_X5_90 qi_X5_isWord qv_X5_isWord rfl hx.l0 hx.s0 (dk_at ktX5_readStatement_0 6 rfl) rfl rfl (Nat.le_of_ble_eq_true rfl) (by decide) (b := 12) rfl (fun v10 I7 J8 q9 => ?_)
  obtain ⟨rfl, rfl, rfl⟩ := q9
  refine r_if_eq (dk_at ktX5_readStatement_0 7 rfl) (b := 23) (by decide) (b2 := 15) rfl (fun c12 => ?_) (fun c12 => ?_)
  · have c12 := bi_f c12
    refine rc_p (p_aload_n 1 (dk_at ktX5_readStatement_0 12 rfl) rfl rfl (b := 24) rfl) ?_
    refine rc_p (p_iload_n 0 (dk_at ktX5_readStatement_0 13 rfl) rfl rfl (b := 25) rfl) ?_
    refine r_ldcS (tx := "tries") (i := 2) (List.mem_of_getElem? (i := 2) rfl) (dk_at ktX5_readStatement_0 14 rfl) (b := 27) rfl ?_
    refine r_iV (As' := [.int (nI (txSk T nn p)), .ref (1000 + 2)]) (rest := []) (s_X5_isWord hx (hT.fr (show FQ x I I1 from (FF.rf.tr (hF5.mo (by simp) (by simp))))) (txWe T nn (txSk T nn p)) hh6 (by omega) (txSk T nn p) 2 (by omega) (by decide)) cw_X5_90 qi_X5_isWord qv_X5_isWord rfl hx.l0 hx.s0 (dk_at ktX5_readStatement_0 15 rfl) rfl rfl (Nat.le_of_ble_eq_true rfl) (by decide) (b := 30) rfl (fun v14 I11 J12 q13 => ?_)
    obtain ⟨rfl, rfl, rfl⟩ := q13
    refine r_if_eq (dk_at ktX5_readStatement_0 16 rfl) (b := 56) (by decide) (b2 := 33) rfl (fun c30 => ?_) (fun c30 => ?_)
    · have c30 := bi_f c30
      refine rc_p (p_aload_n 1 (dk_at ktX5_readStatement_0 30 rfl) rfl rfl (b := 57) rfl) ?_
      refine rc_p (p_iload_n 0 (dk_at ktX5_readStatement_0 31 rfl) rfl rfl (b := 58) rfl) ?_
      refine r_ldcS (tx := "life") (i := 3) (List.mem_of_getElem? (i := 3) rfl) (dk_at ktX5_readStatement_0 32 rfl) (b := 60) rfl ?_
      refine r_iV (As' := [.int (nI (txSk T nn p)), .ref (1000 + 3)]) (rest := []) (s_X5_isWord hx (hT.fr (show FQ x I I1 from (FF.rf.tr (hF5.mo (by simp) (by simp))))) (txWe T nn (txSk T nn p)) hh6 (by omega) (txSk T nn p) 3 (by omega) (by decide)) cw_X5_90 qi_X5_isWord qv_X5_isWord rfl hx.l0 hx.s0 (dk_at ktX5_readStatement_0 33 rfl) rfl rfl (Nat.le_of_ble_eq_true rfl) (by decide) (b := 63) rfl (fun v18 I15 J16 q17 => ?_)
      obtain ⟨rfl, rfl, rfl⟩ := q17
      refine r_if_eq (dk_at ktX5_readStatement_0 34 rfl) (b := 91) (by decide) (b2 := 66) rfl (fun c63 => ?_) (fun c63 => ?_)
      · have c63 := bi_f c63
        refine rc_p (p_aload_n 1 (dk_at ktX5_readStatement_0 48 rfl) rfl rfl (b := 92) rfl) ?_
        refine rc_p (p_iload_n 0 (dk_at ktX5_readStatement_0 49 rfl) rfl rfl (b := 93) rfl) ?_
        refine r_ldcS (tx := "floor") (i := 4) (List.mem_of_getElem? (i := 4) rfl) (dk_at ktX5_readStatement_0 50 rfl) (b := 95) rfl ?_
        refine r_iV (As' := [.int (nI (txSk T nn p)), .ref (1000 + 4)]) (rest := []) (s_X5_isWord hx (hT.fr (show FQ x I I1 from (FF.rf.tr (hF5.mo (by simp) (by simp))))) (txWe T nn (txSk T nn p)) hh6 (by omega) (txSk T nn p) 4 (by omega) (by decide)) cw_X5_90 qi_X5_isWord qv_X5_isWord rfl hx.l0 hx.s0 (dk_at ktX5_readStatement_0 51 rfl) rfl rfl (Nat.le_of_ble_eq_true rfl) (by decide) (b := 98) rfl (fun v22 I19 J20 q21 => ?_)
        obtain ⟨rfl, rfl, rfl⟩ := q21
        refine r_if_eq (dk_at ktX5_readStatement_0 52 rfl) (b := 126) (by decide) (b2 := 101) rfl (fun c98 => ?_) (fun c98 => ?_)
        · have c98 := bi_f c98
          refine rc_p (p_aload_n 1 (dk_at ktX5_readStatement_1 6 rfl) rfl rfl (b := 127) rfl) ?_
          refine rc_p (p_iload_n 0 (dk_at ktX5_readStatement_1 7 rfl) rfl rfl (b := 128) rfl) ?_
          refine r_ldcS (tx := "good") (i := 5) (List.mem_of_getElem? (i := 5) rfl) (dk_at ktX5_readStatement_1 8 rfl) (b := 130) rfl ?_
          refine r_iV (As' := [.int (nI (txSk T nn p)), .ref (1000 + 5)]) (rest := []) (s_X5_isWord hx (hT.fr (show FQ x I I1 from (FF.rf.tr (hF5.mo (by simp) (by simp))))) (txWe T nn (txSk T nn p)) hh6 (by omega) (txSk T nn p) 5 (by omega) (by decide)) cw_X5_90 qi_X5_isWord qv_X5_isWord rfl hx.l0 hx.s0 (dk_at ktX5_readStatement_1 9 rfl) rfl rfl (Nat.le_of_ble_eq_true rfl) (by decide) (b := 133) rfl (fun v26 I23 J24 q25 => ?_)
          obtain ⟨rfl, rfl, rfl⟩ := q25
          refine r_if_eq (dk_at ktX5_readStatement_1 10 rfl) (b := 160) (by decide) (b2 := 136) rfl (fun c133 => ?_) (fun c133 => ?_)
          · have c133 := bi_f c133
            refine rc_p (p_aload_n 1 (dk_at ktX5_readStatement_1 24 rfl) rfl rfl (b := 161) rfl) ?_
            refine rc_p (p_iconst (v := 1) (dk_at ktX5_readStatement_1 25 rfl) (by decide) (b := 162) rfl) ?_
            refine rc_p (p_iload_n 0 (dk_at ktX5_readStatement_1 26 rfl) rfl rfl (b := 163) rfl) ?_
            refine r_iV (As' := [.int 1, .int (nI (txSk T nn p))]) (rest := []) (s_X5_fail hx 1 (txSk T nn p)) cw_X5_56 qi_X5_fail qv_X5_fail rfl hx.l0 hx.s0 (dk_at ktX5_readStatement_1 27 rfl) rfl rfl (Nat.le_of_ble_eq_true rfl) (by decide) (b := 166) rfl (fun v30 I27 J28 q29 => ?_)
            obtain ⟨rfl, rfl, hF31, hh32, hh33⟩ := q29
            refine rc_p (p_istore_n (ls' := [(2, .int 0), (1, .int (nI (txSk T nn p))), (0, .ref x)]) (dk_at ktX5_readStatement_1 28 rfl) rfl (by decide) rfl (b := 167) rfl) ?_
            refine rc_p (p_iload_n 0 (dk_at ktX5_readStatement_1 29 rfl) rfl rfl (b := 168) rfl) ?_
            refine r_iret (dk_at ktX5_readStatement_1 30 rfl) rfl rfl ⟨_, rfl, ?_⟩
            have ho : stmtO T nn p S = _ := (if_neg (by rw [c12]; decide)).trans ((if_neg (by rw [c30]; decide)).trans ((if_neg (by rw [c63]; decide)).trans ((if_neg (by rw [c98]; decide)).trans (if_neg (by rw [c133]; decide)))))
            rw [ho]
            exact ⟨bk_1 (k := 1) (by decide), rfl, PC.bad (by decide) (show FQ x I I27 from ((FF.rf.tr (hF5.mo (by simp) (by simp))).tr (hF31.mo (by simp) (by simp)))) hh32 hh33⟩
          · have c133 := bi_t c133
            refine rc_p (p_aload_n 1 (dk_at ktX5_readStatement_1 11 rfl) rfl rfl (b := 137) rfl) ?_
            refine rc_p (p_bipush (v := 8) (dk_at ktX5_readStatement_1 12 rfl) (by decide) (b := 139) rfl) ?_
            refine rc_p (p_iload_n 0 (dk_at ktX5_readStatement_1 13 rfl) rfl rfl (b := 140) rfl) ?_
            refine rc_p (p_iconst (v := 0) (dk_at ktX5_readStatement_1 14 rfl) (by decide) (b := 141) rfl) ?_
            refine rc_p (p_iconst (v := 1) (dk_at ktX5_readStatement_1 15 rfl) (by decide) (b := 142) rfl) ?_
            refine r_iV (As' := [.int 8, .int (nI (txSk T nn p)), .int 0, .int 1]) (rest := []) (s_X5_readOnce hx (hT.fr (show FQ x I I1 from (FF.rf.tr (hF5.mo (by simp) (by simp))))) (txWe T nn (txSk T nn p)) hh6 (by omega) (((hF5.2 6 (by decide))).trans h6) (hS.fr hF5) hg 2 (txSk T nn p) 0 1 (by decide) (by decide) (by decide)) cw_X5_113 qi_X5_readOnce qv_X5_readOnce rfl hx.l0 hx.s0 (dk_at ktX5_readStatement_1 16 rfl) rfl rfl (Nat.le_of_ble_eq_true rfl) (by decide) (b := 145) rfl (fun v37 I34 J35 q36 => ?_)
            obtain ⟨rfl, rfl, hF38, hy39, hy40, hy41⟩ := q36
            refine rc_p (p_istore_n (ls' := [(2, .int (bi (!(S.gv.testBit 2) && decide (txK T nn (txSk T nn (txWe T nn (txSk T nn p))) 0 1 = 0)))), (1, .int (nI (txSk T nn p))), (0, .ref x)]) (dk_at ktX5_readStatement_1 17 rfl) rfl (by decide) rfl (b := 146) rfl) ?_
            refine rc_p (p_aload_n 2 (dk_at ktX5_readStatement_1 18 rfl) rfl rfl (b := 147) rfl) ?_
            refine r_geta fl_X5_18 rfl hx.l0 hx.s0 (dk_at ktX5_readStatement_1 19 rfl) hx.g0_1 (b := 150) rfl ?_
            refine rc_p (p_aload_n 2 (dk_at ktX5_readStatement_1 20 rfl) rfl rfl (b := 151) rfl) ?_
            refine r_geti fl_X5_75 rfl hx.l0 hx.s0 (dk_at ktX5_readStatement_1 21 rfl) (v := (I34 x 4)) rfl (b := 154) rfl ?_
            refine r_puti fl_X5_129 fw_X4_7 rfl (hx.lt 2 (by decide)) hx.s2 rfl rfl (dk_at ktX5_readStatement_1 22 rfl) (b := 157) rfl ?_
            refine rc_p (p_goto (b := 167) (dk_at ktX5_readStatement_1 23 rfl) (by decide)) ?_
            refine rc_p (p_iload_n 0 (dk_at ktX5_readStatement_1 29 rfl) rfl rfl (b := 168) rfl) ?_
            refine r_iret (dk_at ktX5_readStatement_1 30 rfl) rfl (bi_nar (!(S.gv.testBit 2) && decide (txK T nn (txSk T nn (txWe T nn (txSk T nn p))) 0 1 = 0))) ⟨_, rfl, ?_⟩
            by_cases hb : S.gv.testBit 2 = true
            · obtain ⟨g6, g7⟩ := hy41 hb
              have ho : stmtO T nn p S = _ := (if_neg (by rw [c12]; decide)).trans ((if_neg (by rw [c30]; decide)).trans ((if_neg (by rw [c63]; decide)).trans ((if_neg (by rw [c98]; decide)).trans ((if_pos c133).trans (if_pos hb)))))
              rw [ho, hb]
              exact ⟨rfl, rfl, PC.bad (k := 4) (by decide) (show FQ x I (up2 I34 (x + 2) 7 (I34 x 4)) from (((FF.rf.tr (hF5.mo (by simp) (by simp))).tr (hF38.mo (by simp) (by simp))).ua (o := 2) (by simp) (by decide))) ((up2_a (by omega)).trans g6) ((up2_a (by omega)).trans g7)⟩
            · have hb0 := Bool.eq_false_iff.mpr hb
              by_cases hk : txK T nn (txSk T nn (txWe T nn (txSk T nn p))) 0 1 = 0
              · obtain ⟨g6, g3, g4, gR⟩ := hy39 hb0 hk
                have ho : stmtO T nn p S = _ := (if_neg (by rw [c12]; decide)).trans ((if_neg (by rw [c30]; decide)).trans ((if_neg (by rw [c63]; decide)).trans ((if_neg (by rw [c98]; decide)).trans ((if_pos c133).trans ((if_neg hb).trans (numO_y hk))))))
                rw [ho, hb0, decide_eq_true hk]
                refine ⟨rfl, rfl, PC.good (show FQ x I (up2 I34 (x + 2) 7 (I34 x 4)) from (((FF.rf.tr (hF5.mo (by simp) (by simp))).tr (hF38.mo (by simp) (by simp))).ua (o := 2) (by simp) (by decide))) ((up2_a (by omega)).trans g6) ((up2_a (by omega)).trans g3) ?_⟩
                rw [g4]
                exact gR.sg
              · obtain ⟨g6, g7⟩ := hy40 hb0 hk
                have ho : stmtO T nn p S = _ := (if_neg (by rw [c12]; decide)).trans ((if_neg (by rw [c30]; decide)).trans ((if_neg (by rw [c63]; decide)).trans ((if_neg (by rw [c98]; decide)).trans ((if_pos c133).trans ((if_neg hb).trans (numO_n hk))))))
                rw [ho, hb0, decide_eq_false hk]
                exact ⟨bk_1 hk, rfl, PC.bad hk (show FQ x I (up2 I34 (x + 2) 7 (I34 x 4)) from (((FF.rf.tr (hF5.mo (by simp) (by simp))).tr (hF38.mo (by simp) (by simp))).ua (o := 2) (by simp) (by decide))) ((up2_a (by omega)).trans g6) ((up2_a (by omega)).trans g7)⟩
        · have c98 := bi_t c98
          refine rc_p (p_aload_n 1 (dk_at ktX5_readStatement_0 53 rfl) rfl rfl (b := 102) rfl) ?_
          refine rc_p (p_iconst (v := 4) (dk_at ktX5_readStatement_0 54 rfl) (by decide) (b := 103) rfl) ?_
          refine rc_p (p_iload_n 0 (dk_at ktX5_readStatement_0 55 rfl) rfl rfl (b := 104) rfl) ?_
          refine rc_p (p_iconst (v := 0) (dk_at ktX5_readStatement_0 56 rfl) (by decide) (b := 105) rfl) ?_
          refine rc_p (p_sipush (v := 255) (dk_at ktX5_readStatement_0 57 rfl) (by decide) (b := 108) rfl) ?_
          refine r_iV (As' := [.int 4, .int (nI (txSk T nn p)), .int 0, .int 255]) (rest := []) (s_X5_readOnce hx (hT.fr (show FQ x I I1 from (FF.rf.tr (hF5.mo (by simp) (by simp))))) (txWe T nn (txSk T nn p)) hh6 (by omega) (((hF5.2 6 (by decide))).trans h6) (hS.fr hF5) hg 1 (txSk T nn p) 0 255 (by decide) (by decide) (by decide)) cw_X5_113 qi_X5_readOnce qv_X5_readOnce rfl hx.l0 hx.s0 (dk_at ktX5_readStatement_0 58 rfl) rfl rfl (Nat.le_of_ble_eq_true rfl) (by decide) (b := 111) rfl (fun v45 I42 J43 q44 => ?_)
          obtain ⟨rfl, rfl, hF46, hy47, hy48, hy49⟩ := q44
          refine rc_p (p_istore_n (ls' := [(2, .int (bi (!(S.gv.testBit 1) && decide (txK T nn (txSk T nn (txWe T nn (txSk T nn p))) 0 255 = 0)))), (1, .int (nI (txSk T nn p))), (0, .ref x)]) (dk_at ktX5_readStatement_0 59 rfl) rfl (by decide) rfl (b := 112) rfl) ?_
          refine rc_p (p_aload_n 2 (dk_at ktX5_readStatement_1 0 rfl) rfl rfl (b := 113) rfl) ?_
          refine r_geta fl_X5_18 rfl hx.l0 hx.s0 (dk_at ktX5_readStatement_1 1 rfl) hx.g0_1 (b := 116) rfl ?_
          refine rc_p (p_aload_n 2 (dk_at ktX5_readStatement_1 2 rfl) rfl rfl (b := 117) rfl) ?_
          refine r_geti fl_X5_75 rfl hx.l0 hx.s0 (dk_at ktX5_readStatement_1 3 rfl) (v := (I42 x 4)) rfl (b := 120) rfl ?_
          refine r_puti fl_X5_125 fw_X4_6 rfl (hx.lt 2 (by decide)) hx.s2 rfl rfl (dk_at ktX5_readStatement_1 4 rfl) (b := 123) rfl ?_
          refine rc_p (p_goto (b := 167) (dk_at ktX5_readStatement_1 5 rfl) (by decide)) ?_
          refine rc_p (p_iload_n 0 (dk_at ktX5_readStatement_1 29 rfl) rfl rfl (b := 168) rfl) ?_
          refine r_iret (dk_at ktX5_readStatement_1 30 rfl) rfl (bi_nar (!(S.gv.testBit 1) && decide (txK T nn (txSk T nn (txWe T nn (txSk T nn p))) 0 255 = 0))) ⟨_, rfl, ?_⟩
          by_cases hb : S.gv.testBit 1 = true
          · obtain ⟨g6, g7⟩ := hy49 hb
            have ho : stmtO T nn p S = _ := (if_neg (by rw [c12]; decide)).trans ((if_neg (by rw [c30]; decide)).trans ((if_neg (by rw [c63]; decide)).trans ((if_pos c98).trans (if_pos hb))))
            rw [ho, hb]
            exact ⟨rfl, rfl, PC.bad (k := 4) (by decide) (show FQ x I (up2 I42 (x + 2) 6 (I42 x 4)) from (((FF.rf.tr (hF5.mo (by simp) (by simp))).tr (hF46.mo (by simp) (by simp))).ua (o := 2) (by simp) (by decide))) ((up2_a (by omega)).trans g6) ((up2_a (by omega)).trans g7)⟩
          · have hb0 := Bool.eq_false_iff.mpr hb
            by_cases hk : txK T nn (txSk T nn (txWe T nn (txSk T nn p))) 0 255 = 0
            · obtain ⟨g6, g3, g4, gR⟩ := hy47 hb0 hk
              have ho : stmtO T nn p S = _ := (if_neg (by rw [c12]; decide)).trans ((if_neg (by rw [c30]; decide)).trans ((if_neg (by rw [c63]; decide)).trans ((if_pos c98).trans ((if_neg hb).trans (numO_y hk)))))
              rw [ho, hb0, decide_eq_true hk]
              refine ⟨rfl, rfl, PC.good (show FQ x I (up2 I42 (x + 2) 6 (I42 x 4)) from (((FF.rf.tr (hF5.mo (by simp) (by simp))).tr (hF46.mo (by simp) (by simp))).ua (o := 2) (by simp) (by decide))) ((up2_a (by omega)).trans g6) ((up2_a (by omega)).trans g3) ?_⟩
              rw [g4]
              exact gR.sf
            · obtain ⟨g6, g7⟩ := hy48 hb0 hk
              have ho : stmtO T nn p S = _ := (if_neg (by rw [c12]; decide)).trans ((if_neg (by rw [c30]; decide)).trans ((if_neg (by rw [c63]; decide)).trans ((if_pos c98).trans ((if_neg hb).trans (numO_n hk)))))
              rw [ho, hb0, decide_eq_false hk]
              exact ⟨bk_1 hk, rfl, PC.bad hk (show FQ x I (up2 I42 (x + 2) 6 (I42 x 4)) from (((FF.rf.tr (hF5.mo (by simp) (by simp))).tr (hF46.mo (by simp) (by simp))).ua (o := 2) (by simp) (by decide))) ((up2_a (by omega)).trans g6) ((up2_a (by omega)).trans g7)⟩
      · have c63 := bi_t c63
        refine rc_p (p_aload_n 1 (dk_at ktX5_readStatement_0 35 rfl) rfl rfl (b := 67) rfl) ?_
        refine rc_p (p_iconst (v := 2) (dk_at ktX5_readStatement_0 36 rfl) (by decide) (b := 68) rfl) ?_
        refine rc_p (p_iload_n 0 (dk_at ktX5_readStatement_0 37 rfl) rfl rfl (b := 69) rfl) ?_
        refine rc_p (p_iconst (v := 0) (dk_at ktX5_readStatement_0 38 rfl) (by decide) (b := 70) rfl) ?_
        refine rc_p (p_sipush (v := 1000) (dk_at ktX5_readStatement_0 39 rfl) (by decide) (b := 73) rfl) ?_
        refine r_iV (As' := [.int 2, .int (nI (txSk T nn p)), .int 0, .int 1000]) (rest := []) (s_X5_readOnce hx (hT.fr (show FQ x I I1 from (FF.rf.tr (hF5.mo (by simp) (by simp))))) (txWe T nn (txSk T nn p)) hh6 (by omega) (((hF5.2 6 (by decide))).trans h6) (hS.fr hF5) hg 5 (txSk T nn p) 0 1000 (by decide) (by decide) (by decide)) cw_X5_113 qi_X5_readOnce qv_X5_readOnce rfl hx.l0 hx.s0 (dk_at ktX5_readStatement_0 40 rfl) rfl rfl (Nat.le_of_ble_eq_true rfl) (by decide) (b := 76) rfl (fun v53 I50 J51 q52 => ?_)
        obtain ⟨rfl, rfl, hF54, hy55, hy56, hy57⟩ := q52
        refine rc_p (p_istore_n (ls' := [(2, .int (bi (!(S.gv.testBit 5) && decide (txK T nn (txSk T nn (txWe T nn (txSk T nn p))) 0 1000 = 0)))), (1, .int (nI (txSk T nn p))), (0, .ref x)]) (dk_at ktX5_readStatement_0 41 rfl) rfl (by decide) rfl (b := 77) rfl) ?_
        refine rc_p (p_aload_n 2 (dk_at ktX5_readStatement_0 42 rfl) rfl rfl (b := 78) rfl) ?_
        refine r_geta fl_X5_18 rfl hx.l0 hx.s0 (dk_at ktX5_readStatement_0 43 rfl) hx.g0_1 (b := 81) rfl ?_
        refine rc_p (p_aload_n 2 (dk_at ktX5_readStatement_0 44 rfl) rfl rfl (b := 82) rfl) ?_
        refine r_geti fl_X5_75 rfl hx.l0 hx.s0 (dk_at ktX5_readStatement_0 45 rfl) (v := (I50 x 4)) rfl (b := 85) rfl ?_
        refine r_puti fl_X5_121 fw_X4_5 rfl (hx.lt 2 (by decide)) hx.s2 rfl rfl (dk_at ktX5_readStatement_0 46 rfl) (b := 88) rfl ?_
        refine rc_p (p_goto (b := 167) (dk_at ktX5_readStatement_0 47 rfl) (by decide)) ?_
        refine rc_p (p_iload_n 0 (dk_at ktX5_readStatement_1 29 rfl) rfl rfl (b := 168) rfl) ?_
        refine r_iret (dk_at ktX5_readStatement_1 30 rfl) rfl (bi_nar (!(S.gv.testBit 5) && decide (txK T nn (txSk T nn (txWe T nn (txSk T nn p))) 0 1000 = 0))) ⟨_, rfl, ?_⟩
        by_cases hb : S.gv.testBit 5 = true
        · obtain ⟨g6, g7⟩ := hy57 hb
          have ho : stmtO T nn p S = _ := (if_neg (by rw [c12]; decide)).trans ((if_neg (by rw [c30]; decide)).trans ((if_pos c63).trans (if_pos hb)))
          rw [ho, hb]
          exact ⟨rfl, rfl, PC.bad (k := 4) (by decide) (show FQ x I (up2 I50 (x + 2) 5 (I50 x 4)) from (((FF.rf.tr (hF5.mo (by simp) (by simp))).tr (hF54.mo (by simp) (by simp))).ua (o := 2) (by simp) (by decide))) ((up2_a (by omega)).trans g6) ((up2_a (by omega)).trans g7)⟩
        · have hb0 := Bool.eq_false_iff.mpr hb
          by_cases hk : txK T nn (txSk T nn (txWe T nn (txSk T nn p))) 0 1000 = 0
          · obtain ⟨g6, g3, g4, gR⟩ := hy55 hb0 hk
            have ho : stmtO T nn p S = _ := (if_neg (by rw [c12]; decide)).trans ((if_neg (by rw [c30]; decide)).trans ((if_pos c63).trans ((if_neg hb).trans (numO_y hk))))
            rw [ho, hb0, decide_eq_true hk]
            refine ⟨rfl, rfl, PC.good (show FQ x I (up2 I50 (x + 2) 5 (I50 x 4)) from (((FF.rf.tr (hF5.mo (by simp) (by simp))).tr (hF54.mo (by simp) (by simp))).ua (o := 2) (by simp) (by decide))) ((up2_a (by omega)).trans g6) ((up2_a (by omega)).trans g3) ?_⟩
            rw [g4]
            exact gR.pl (k := 5) (a := 5) (by decide)
          · obtain ⟨g6, g7⟩ := hy56 hb0 hk
            have ho : stmtO T nn p S = _ := (if_neg (by rw [c12]; decide)).trans ((if_neg (by rw [c30]; decide)).trans ((if_pos c63).trans ((if_neg hb).trans (numO_n hk))))
            rw [ho, hb0, decide_eq_false hk]
            exact ⟨bk_1 hk, rfl, PC.bad hk (show FQ x I (up2 I50 (x + 2) 5 (I50 x 4)) from (((FF.rf.tr (hF5.mo (by simp) (by simp))).tr (hF54.mo (by simp) (by simp))).ua (o := 2) (by simp) (by decide))) ((up2_a (by omega)).trans g6) ((up2_a (by omega)).trans g7)⟩
    · have c30 := bi_t c30
      refine rc_p (p_aload_n 1 (dk_at ktX5_readStatement_0 17 rfl) rfl rfl (b := 34) rfl) ?_
      refine rc_p (p_iconst (v := 1) (dk_at ktX5_readStatement_0 18 rfl) (by decide) (b := 35) rfl) ?_
      refine rc_p (p_iload_n 0 (dk_at ktX5_readStatement_0 19 rfl) rfl rfl (b := 36) rfl) ?_
      refine rc_p (p_iconst (v := 1) (dk_at ktX5_readStatement_0 20 rfl) (by decide) (b := 37) rfl) ?_
      refine rc_p (p_iconst (v := 3) (dk_at ktX5_readStatement_0 21 rfl) (by decide) (b := 38) rfl) ?_
      refine r_iV (As' := [.int 1, .int (nI (txSk T nn p)), .int 1, .int 3]) (rest := []) (s_X5_readOnce hx (hT.fr (show FQ x I I1 from (FF.rf.tr (hF5.mo (by simp) (by simp))))) (txWe T nn (txSk T nn p)) hh6 (by omega) (((hF5.2 6 (by decide))).trans h6) (hS.fr hF5) hg 0 (txSk T nn p) 1 3 (by decide) (by decide) (by decide)) cw_X5_113 qi_X5_readOnce qv_X5_readOnce rfl hx.l0 hx.s0 (dk_at ktX5_readStatement_0 22 rfl) rfl rfl (Nat.le_of_ble_eq_true rfl) (by decide) (b := 41) rfl (fun v61 I58 J59 q60 => ?_)
      obtain ⟨rfl, rfl, hF62, hy63, hy64, hy65⟩ := q60
      refine rc_p (p_istore_n (ls' := [(2, .int (bi (!(S.gv.testBit 0) && decide (txK T nn (txSk T nn (txWe T nn (txSk T nn p))) 1 3 = 0)))), (1, .int (nI (txSk T nn p))), (0, .ref x)]) (dk_at ktX5_readStatement_0 23 rfl) rfl (by decide) rfl (b := 42) rfl) ?_
      refine rc_p (p_aload_n 2 (dk_at ktX5_readStatement_0 24 rfl) rfl rfl (b := 43) rfl) ?_
      refine r_geta fl_X5_18 rfl hx.l0 hx.s0 (dk_at ktX5_readStatement_0 25 rfl) hx.g0_1 (b := 46) rfl ?_
      refine rc_p (p_aload_n 2 (dk_at ktX5_readStatement_0 26 rfl) rfl rfl (b := 47) rfl) ?_
      refine r_geti fl_X5_75 rfl hx.l0 hx.s0 (dk_at ktX5_readStatement_0 27 rfl) (v := (I58 x 4)) rfl (b := 50) rfl ?_
      refine r_puti fl_X5_117 fw_X4_4 rfl (hx.lt 2 (by decide)) hx.s2 rfl rfl (dk_at ktX5_readStatement_0 28 rfl) (b := 53) rfl ?_
      refine rc_p (p_goto (b := 167) (dk_at ktX5_readStatement_0 29 rfl) (by decide)) ?_
      refine rc_p (p_iload_n 0 (dk_at ktX5_readStatement_1 29 rfl) rfl rfl (b := 168) rfl) ?_
      refine r_iret (dk_at ktX5_readStatement_1 30 rfl) rfl (bi_nar (!(S.gv.testBit 0) && decide (txK T nn (txSk T nn (txWe T nn (txSk T nn p))) 1 3 = 0))) ⟨_, rfl, ?_⟩
      by_cases hb : S.gv.testBit 0 = true
      · obtain ⟨g6, g7⟩ := hy65 hb
        have ho : stmtO T nn p S = _ := (if_neg (by rw [c12]; decide)).trans ((if_pos c30).trans (if_pos hb))
        rw [ho, hb]
        exact ⟨rfl, rfl, PC.bad (k := 4) (by decide) (show FQ x I (up2 I58 (x + 2) 4 (I58 x 4)) from (((FF.rf.tr (hF5.mo (by simp) (by simp))).tr (hF62.mo (by simp) (by simp))).ua (o := 2) (by simp) (by decide))) ((up2_a (by omega)).trans g6) ((up2_a (by omega)).trans g7)⟩
      · have hb0 := Bool.eq_false_iff.mpr hb
        by_cases hk : txK T nn (txSk T nn (txWe T nn (txSk T nn p))) 1 3 = 0
        · obtain ⟨g6, g3, g4, gR⟩ := hy63 hb0 hk
          have ho : stmtO T nn p S = _ := (if_neg (by rw [c12]; decide)).trans ((if_pos c30).trans ((if_neg hb).trans (numO_y hk)))
          rw [ho, hb0, decide_eq_true hk]
          refine ⟨rfl, rfl, PC.good (show FQ x I (up2 I58 (x + 2) 4 (I58 x 4)) from (((FF.rf.tr (hF5.mo (by simp) (by simp))).tr (hF62.mo (by simp) (by simp))).ua (o := 2) (by simp) (by decide))) ((up2_a (by omega)).trans g6) ((up2_a (by omega)).trans g3) ?_⟩
          rw [g4]
          exact gR.pl (k := 4) (a := 3) (by decide)
        · obtain ⟨g6, g7⟩ := hy64 hb0 hk
          have ho : stmtO T nn p S = _ := (if_neg (by rw [c12]; decide)).trans ((if_pos c30).trans ((if_neg hb).trans (numO_n hk)))
          rw [ho, hb0, decide_eq_false hk]
          exact ⟨bk_1 hk, rfl, PC.bad hk (show FQ x I (up2 I58 (x + 2) 4 (I58 x 4)) from (((FF.rf.tr (hF5.mo (by simp) (by simp))).tr (hF62.mo (by simp) (by simp))).ua (o := 2) (by simp) (by decide))) ((up2_a (by omega)).trans g6) ((up2_a (by omega)).trans g7)⟩
  · have c12 := bi_t c12
    refine rc_p (p_aload_n 1 (dk_at ktX5_readStatement_0 8 rfl) rfl rfl (b := 16) rfl) ?_
    refine r_iV (As' := []) (rest := []) (s_X5_readImage hx (hT.fr (show FQ x I I1 from (FF.rf.tr (hF5.mo (by simp) (by simp))))) (txWe T nn (txSk T nn p)) hh6 (by omega) (((hF5.2 6 (by decide))).trans h6) (hS.fr hF5) hG) cw_X5_108 qi_X5_readImage qv_X5_readImage rfl hx.l0 hx.s0 (dk_at ktX5_readStatement_0 9 rfl) rfl rfl (Nat.le_of_ble_eq_true rfl) (by decide) (b := 19) rfl (fun v69 I66 J67 q68 => ?_)
    obtain ⟨rfl, rfl, hF70, hy71, hy72⟩ := q68
    refine rc_p (p_istore_n (ls' := [(2, .int (bi (decide ((imageO T nn (txWe T nn (txSk T nn p)) (tn (S.row 0)) S).k = 0)))), (1, .int (nI (txSk T nn p))), (0, .ref x)]) (dk_at ktX5_readStatement_0 10 rfl) rfl (by decide) rfl (b := 20) rfl) ?_
    refine rc_p (p_goto (b := 167) (dk_at ktX5_readStatement_0 11 rfl) (by decide)) ?_
    refine rc_p (p_iload_n 0 (dk_at ktX5_readStatement_1 29 rfl) rfl rfl (b := 168) rfl) ?_
    refine r_iret (dk_at ktX5_readStatement_1 30 rfl) rfl (bi_nar (decide ((imageO T nn (txWe T nn (txSk T nn p)) (tn (S.row 0)) S).k = 0))) ⟨_, rfl, ?_⟩
    have ho : stmtO T nn p S = imageO T nn (txWe T nn (txSk T nn p)) (tn (S.row 0)) S := if_pos c12
    rw [ho]
    exact ⟨rfl, rfl, PC.tr (show FQ x I I1 from (FF.rf.tr (hF5.mo (by simp) (by simp)))) ⟨hF70, hy71, hy72⟩⟩

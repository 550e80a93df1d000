/-! THE REFERENCE reads a text: its statements -/
set_option maxRecDepth 4000 in
set_option maxHeartbeats 4000000 in
theorem s_X7_readsInto {n : Nat} {sh : mS} {G : mG} {I : mI} {J : mJ} {m : Nat} {T : tT} {nn : Nat} (hm : ModG n sh G m) (hT : TR m I T nn) (h14 : I m 14 = 0) (p : Nat) (hp : I m 11 = nI p) (hpn : p ≤ nn) {S : PSt} (hS : RS m I S) (k lo hi : Nat) (hk : k < 309) (hlo : lo < 1000000) (hhi : hi < 1000000) : Sp yX7_readsInto cX7_readsInto 4 (some FieldType.boolean) 5 240 0 0 [.ref m, .int (nI k), .int (nI lo), .int (nI hi)] n sh G I J (Qi (fun r_ I_ J_ => bi (decide (txK T nn (txSk T nn p) lo hi = 0)) = r_ ∧ J = J_ ∧ FF m [3] [11, 12, 13, 14, 16] I I_ ∧ I_ m 12 = nI (txSk T nn p) ∧ (txK T nn (txSk T nn p) lo hi = 0 → I_ m 14 = 0 ∧ I_ m 11 = nI (txDe T nn (txSk T nn p)) ∧ RS m I_ (S.st k (txVa T nn (txSk T nn p)))) ∧ (¬ txK T nn (txSk T nn p) lo hi = 0 → I_ m 14 = nI (txK T nn (txSk T nn p) lo hi) ∧ I_ m 13 = nI (txSk T nn p)))) nX := by
  refine Sp.of (by decide) (ls := [(0, .ref m), (1, .int (nI k)), (2, .int (nI lo)), (3, .int (nI hi))]) (fun _ => rfl) (fun _ => Nat.le_of_ble_eq_true rfl) ?_
  have hn := hT.1.1
  have hsk := txSk_le (T := T) hpn
  refine rc_p (p_aload_n 0 (dk_at ktX7_readsInto_0 0 rfl) rfl rfl (b := 1) rfl) ?_
  refine rc_p (p_iload_n 2 (dk_at ktX7_readsInto_0 1 rfl) rfl rfl (b := 2) rfl) ?_
  refine rc_p (p_iload_n 3 (dk_at ktX7_readsInto_0 2 rfl) rfl rfl (b := 3) rfl) ?_
  refine r_iV (As' := [.int (nI lo), .int (nI hi)]) (rest := []) (s_X7_reads hm hT h14 p hp (by omega) lo hi hlo hhi) cw_X7_131 qi_X7_reads qv_X7_reads rfl hm.l0 hm.s0 (dk_at ktX7_readsInto_0 3 rfl) rfl rfl (Nat.le_of_ble_eq_true rfl) (by decide) (b := 6) rfl (fun v4 I1 J2 q3 => ?_)
  obtain ⟨rfl, rfl, hF5, hh6, hy7, hy8⟩ := q3
  refine r_if_ne (dk_at ktX7_readsInto_0 4 rfl) (b := 11) (by decide) (b2 := 9) rfl (fun c6 => ?_) (fun c6 => ?_)
  · have c6 := bi_t c6
    have hk12 := of_decide_eq_true c6
    obtain ⟨hh9, hh10, hh11⟩ := hy7 hk12
    have hd13 := txDe_le (T := T) (n := nn) (p := txSk T nn p) (by omega)
    have hs14 := txSk_le (T := T) (n := nn) (p := txDe T nn (txSk T nn p)) (by omega)
    have hin15 := txK_in hk12
    refine rc_p (p_aload_n 0 (dk_at ktX7_readsInto_0 7 rfl) rfl rfl (b := 12) rfl) ?_
    refine r_geta fl_X7_16 rfl hm.l0 hm.s0 (dk_at ktX7_readsInto_0 8 rfl) hm.g0_2 (b := 15) rfl ?_
    refine rc_p (p_iload_n 1 (dk_at ktX7_readsInto_0 9 rfl) rfl rfl (b := 16) rfl) ?_
    refine rc_p (p_aload_n 0 (dk_at ktX7_readsInto_0 10 rfl) rfl rfl (b := 17) rfl) ?_
    refine r_geti fl_X7_128 rfl hm.l0 hm.s0 (dk_at ktX7_readsInto_0 11 rfl) (v := (nI (txVa T nn (txSk T nn p)))) hh11 (b := 20) rfl ?_
    refine r_iast (j := k) (hm.lt 3 (by decide)) hm.s3 (dk_at ktX7_readsInto_0 12 rfl) rfl ⟨by omega, by decide⟩ (b := 21) rfl ?_
    refine rc_p (p_iconst (v := 1) (dk_at ktX7_readsInto_0 13 rfl) (by decide) (b := 22) rfl) ?_
    refine r_iret (dk_at ktX7_readsInto_0 14 rfl) rfl rfl ⟨_, rfl, ?_⟩
    exact ⟨bk_0 hk12, rfl, ((FF.rf.tr (hF5.mo (by simp) (by simp))).ua (o := 3) (by simp) (by decide)), ((up2_n (by omega)).trans hh6), fun _ => ⟨((up2_n (by omega)).trans hh9), ((up2_n (by omega)).trans hh10), ((hS.fr hF5).st (k := k) (v := txVa T nn (txSk T nn p)))⟩, fun g => absurd hk12 g⟩
  · have c6 := bi_f c6
    have hk18 := of_decide_eq_false c6
    obtain ⟨hh16, hh17⟩ := hy8 hk18
    refine rc_p (p_iconst (v := 0) (dk_at ktX7_readsInto_0 5 rfl) (by decide) (b := 10) rfl) ?_
    refine r_iret (dk_at ktX7_readsInto_0 6 rfl) rfl rfl ⟨_, rfl, ?_⟩
    exact ⟨bk_1 hk18, rfl, (FF.rf.tr (hF5.mo (by simp) (by simp))), hh6, fun g => absurd g hk18, fun _ => ⟨hh16, hh17⟩⟩
set_option maxRecDepth 4000 in
set_option maxHeartbeats 4000000 in
theorem s_X7_once {n : Nat} {sh : mS} {G : mG} {I : mI} {J : mJ} {m : Nat} {T : tT} {nn : Nat} (hm : ModG n sh G m) (hT : TR m I T nn) (h14 : I m 14 = 0) (w : Nat) (h12 : I m 12 = nI w) {S : PSt} (hS : RS m I S) (hg : S.gv < 64) (b : Nat) (hb : b < 6) : Sp yX7_once cX7_once 2 (some FieldType.boolean) 2 96 0 0 [.ref m, .int (nI b)] n sh G I J (Qi (fun r_ I_ J_ => bi (!(S.gv.testBit b)) = r_ ∧ J = J_ ∧ FF m [] [13, 14, 17] I I_ ∧ (S.gv.testBit b = false → FF m [] [17] I I_ ∧ RS m I_ (S.cl b)) ∧ (S.gv.testBit b = true → I_ m 14 = 4 ∧ I_ m 13 = nI w))) nX := by
  refine Sp.of (by decide) (ls := [(0, .ref m), (1, .int (nI b))]) (fun _ => rfl) (fun _ => Nat.le_of_ble_eq_true rfl) ?_
  refine rc_p (p_aload_n 0 (dk_at ktX7_once_0 0 rfl) rfl rfl (b := 1) rfl) ?_
  refine r_geti fl_X7_149 rfl hm.l0 hm.s0 (dk_at ktX7_once_0 1 rfl) (v := (nI S.gv)) hS.2.2.2 (b := 4) rfl ?_
  refine rc_p (p_iload_n 1 (dk_at ktX7_once_0 2 rfl) rfl rfl (b := 5) rfl) ?_
  refine rc_p (p_ishr (v := ((nI S.gv) >>> ((nI b) &&& 31))) (dk_at ktX7_once_0 3 rfl) rfl (b := 6) rfl) ?_
  refine rc_p (p_iconst (v := 1) (dk_at ktX7_once_0 4 rfl) (by decide) (b := 7) rfl) ?_
  refine rc_p (p_iand (v := (((nI S.gv) >>> ((nI b) &&& 31)) &&& 1)) (dk_at ktX7_once_0 5 rfl) rfl (b := 8) rfl) ?_
  refine rc_p (p_iconst (v := 1) (dk_at ktX7_once_0 6 rfl) (by decide) (b := 9) rfl) ?_
  refine r_icmp_ne (dk_at ktX7_once_0 7 rfl) (b := 18) (by decide) (b2 := 12) rfl (fun c9 => ?_) (fun c9 => ?_)
  · skip
    have hb0 : S.gv.testBit b = false := Bool.eq_false_iff.mpr (fun g => c9 ((gv_t hg hb).mpr g))
    refine rc_p (p_aload_n 0 (dk_at ktX7_once_0 12 rfl) rfl rfl (b := 19) rfl) ?_
    refine rc_p (p_dup (dk_at ktX7_once_0 13 rfl) rfl (b := 20) rfl) ?_
    refine r_geti fl_X7_149 rfl hm.l0 hm.s0 (dk_at ktX7_once_0 14 rfl) (v := (nI S.gv)) hS.2.2.2 (b := 23) rfl ?_
    refine rc_p (p_iconst (v := 1) (dk_at ktX7_once_0 15 rfl) (by decide) (b := 24) rfl) ?_
    refine rc_p (p_iload_n 1 (dk_at ktX7_once_0 16 rfl) rfl rfl (b := 25) rfl) ?_
    refine rc_p (p_ishl (v := (1 <<< ((nI b) &&& 31))) (dk_at ktX7_once_0 17 rfl) rfl (b := 26) rfl) ?_
    refine rc_p (p_ior (v := (nI (S.gv + 2 ^ b))) (dk_at ktX7_once_0 18 rfl) (gv_o hg hb hb0).1 (b := 27) rfl) ?_
    refine r_puti fl_X7_149 fw_X7_17 rfl hm.l0 hm.s0 rfl rfl (dk_at ktX7_once_0 19 rfl) (b := 30) rfl ?_
    refine rc_p (p_iconst (v := 1) (dk_at ktX7_once_0 20 rfl) (by decide) (b := 31) rfl) ?_
    refine r_iret (dk_at ktX7_once_0 21 rfl) rfl rfl ⟨_, rfl, ?_⟩
    refine ⟨by rw [hb0]; rfl, rfl, (FF.rf.uf (by simp)), fun _ => ⟨FF.rf.uf (by simp), (hS.cl (b := b))⟩, fun g => absurd g (by rw [hb0]; decide)⟩
  · skip
    refine rc_p (p_aload_n 0 (dk_at ktX7_once_0 8 rfl) rfl rfl (b := 13) rfl) ?_
    refine rc_p (p_iconst (v := 4) (dk_at ktX7_once_0 9 rfl) (by decide) (b := 14) rfl) ?_
    refine r_iV (As' := [.int 4]) (rest := []) (s_X7_fails hm hT h14 w h12 4) cw_X7_115 qi_X7_fails qv_X7_fails rfl hm.l0 hm.s0 (dk_at ktX7_once_0 10 rfl) rfl rfl (Nat.le_of_ble_eq_true rfl) (by decide) (b := 17) rfl (fun v4 I1 J2 q3 => ?_)
    obtain ⟨rfl, rfl, hF5, hh6, hh7⟩ := q3
    refine r_iret (dk_at ktX7_once_0 11 rfl) rfl rfl ⟨_, rfl, ?_⟩
    have hb1 := (gv_t hg hb).mp c9
    rw [hb1]
    exact ⟨rfl, rfl, (FF.rf.tr (hF5.mo (by simp) (by simp))), fun g => absurd g (by decide), fun _ => ⟨hh6, hh7⟩⟩
set_option maxRecDepth 4000 in
set_option maxHeartbeats 4000000 in
theorem s_X7_readFlash {n : Nat} {sh : mS} {G : mG} {I : mI} {J : mJ} {m : Nat} {T : tT} {nn : Nat} (hm : ModG n sh G m) (hT : TR m I T nn) (h14 : I m 14 = 0) (p : Nat) (hp : I m 11 = nI p) (hpn : p ≤ nn) {S : PSt} (hS : RS m I S)  : Sp yX7_readFlash cX7_readFlash 1 (some FieldType.boolean) 6 288 0 0 [.ref m] n sh G I J (Qi (fun r_ I_ J_ => bi (decide ((flashO T nn p S).k = 0)) = r_ ∧ J = J_ ∧ PQ m I I_ (flashO T nn p S))) nX := by
  refine Sp.of (by decide) (ls := [(0, .ref m)]) (fun _ => rfl) (fun _ => Nat.le_of_ble_eq_true rfl) ?_
  have hn := hT.1.1
  have hsk := txSk_le (T := T) hpn
  have hwe := txWe_le (T := T) hsk.2
  have hsk2 := txSk_le (T := T) hwe.2
  refine rc_p (p_aload_n 0 (dk_at ktX7_readFlash_0 0 rfl) rfl rfl (b := 1) rfl) ?_
  refine r_iV (As' := []) (rest := []) (s_X7_see hm hT p hp (by omega)) cw_X7_109 qi_X7_see qv_X7_see rfl hm.l0 hm.s0 (dk_at ktX7_readFlash_0 1 rfl) rfl rfl (Nat.le_of_ble_eq_true rfl) (by decide) (b := 4) rfl (fun v4 I1 J2 q3 => ?_)
  obtain ⟨rfl, rfl, hF5, hh6, hh7⟩ := q3
  refine rc_p (p_pop (dk_at ktX7_readFlash_0 2 rfl) rfl (b := 5) rfl) ?_
  refine rc_p (p_aload_n 0 (dk_at ktX7_readFlash_0 3 rfl) rfl rfl (b := 6) rfl) ?_
  refine r_ldcS (tx := "flash") (i := 0) (List.mem_of_getElem? (i := 6) rfl) (dk_at ktX7_readFlash_0 4 rfl) (b := 8) rfl ?_
  refine r_iV (As' := [.ref (1000 + 0)]) (rest := []) (s_X7_isWord hm (hT.fr (show FP m I I1 from (FF.rf.tr (hF5.mo (by simp) (by simp))))) (txSk T nn p) hh7 (by omega) 0 (by decide)) cw_X7_137 qi_X7_isWord qv_X7_isWord rfl hm.l0 hm.s0 (dk_at ktX7_readFlash_0 5 rfl) rfl rfl (Nat.le_of_ble_eq_true rfl) (by decide) (b := 11) rfl (fun v11 I8 J9 q10 => ?_)
  obtain ⟨rfl, rfl, rfl⟩ := q10
  refine r_if_ne (dk_at ktX7_readFlash_0 6 rfl) (b := 20) (by decide) (b2 := 14) rfl (fun c11 => ?_) (fun c11 => ?_)
  · have c11 := bi_t c11
    refine rc_p (p_aload_n 0 (dk_at ktX7_readFlash_0 11 rfl) rfl rfl (b := 21) rfl) ?_
    refine r_iV (As' := []) (rest := []) (s_X7_passes hm (hT.fr (show FP m I I1 from (FF.rf.tr (hF5.mo (by simp) (by simp))))) (txSk T nn p) hh7 (by omega)) cw_X7_141 qi_X7_passes qv_X7_passes rfl hm.l0 hm.s0 (dk_at ktX7_readFlash_0 12 rfl) rfl rfl (Nat.le_of_ble_eq_true rfl) (by decide) (b := 24) rfl (fun v15 I12 J13 q14 => ?_)
    obtain ⟨rfl, rfl, hF16, hh17⟩ := q14
    refine rc_p (p_pop (dk_at ktX7_readFlash_0 13 rfl) rfl (b := 25) rfl) ?_
    refine rc_p (p_aload_n 0 (dk_at ktX7_readFlash_0 14 rfl) rfl rfl (b := 26) rfl) ?_
    refine rc_p (p_iconst (v := 0) (dk_at ktX7_readFlash_0 15 rfl) (by decide) (b := 27) rfl) ?_
    refine rc_p (p_bipush (v := 8) (dk_at ktX7_readFlash_0 16 rfl) (by decide) (b := 29) rfl) ?_
    refine rc_p (p_bipush (v := 64) (dk_at ktX7_readFlash_0 17 rfl) (by decide) (b := 31) rfl) ?_
    refine r_iV (As' := [.int 0, .int 8, .int 64]) (rest := []) (s_X7_readsInto hm (hT.fr (show FP m I I12 from ((FF.rf.tr (hF5.mo (by simp) (by simp))).tr (hF16.mo (by simp) (by simp))))) (((hF16.2 14 (by decide))).trans (((hF5.2 14 (by decide))).trans h14)) (txWe T nn (txSk T nn p)) hh17 (by omega) ((hS.fr (hF5.mo (by simp) (by simp))).fr (hF16.mo (by simp) (by simp))) 0 8 64 (by omega) (by decide) (by decide)) cw_X7_145 qi_X7_readsInto qv_X7_readsInto rfl hm.l0 hm.s0 (dk_at ktX7_readFlash_0 18 rfl) rfl rfl (Nat.le_of_ble_eq_true rfl) (by decide) (b := 34) rfl (fun v21 I18 J19 q20 => ?_)
    obtain ⟨rfl, rfl, hF22, hh23, hy24, hy25⟩ := q20
    refine r_if_eq (dk_at ktX7_readFlash_0 19 rfl) (b := 48) (by decide) (b2 := 37) rfl (fun c34 => ?_) (fun c34 => ?_)
    · have c34 := bi_f c34
      have hk28 := of_decide_eq_false c34
      obtain ⟨hh26, hh27⟩ := hy25 hk28
      refine rc_p (p_iconst (v := 0) (dk_at ktX7_readFlash_0 26 rfl) (by decide) (b := 49) rfl) ?_
      refine r_iret (dk_at ktX7_readFlash_0 27 rfl) rfl rfl ⟨_, rfl, ?_⟩
      have ho : flashO T nn p S = _ := (if_pos c11).trans (if_neg hk28)
      rw [ho]
      exact ⟨bk_1 hk28, rfl, PQ.bad hk28 (show FP m I I18 from (((FF.rf.tr (hF5.mo (by simp) (by simp))).tr (hF16.mo (by simp) (by simp))).tr (hF22.mo (by simp) (by simp)))) hh26 hh27⟩
    · have c34 := bi_t c34
      have hk32 := of_decide_eq_true c34
      obtain ⟨hh29, hh30, hh31⟩ := hy24 hk32
      have hd33 := txDe_le (T := T) (n := nn) (p := txSk T nn (txWe T nn (txSk T nn p))) (by omega)
      have hs34 := txSk_le (T := T) (n := nn) (p := txDe T nn (txSk T nn (txWe T nn (txSk T nn p)))) (by omega)
      have hin35 := txK_in hk32
      refine rc_p (p_aload_n 0 (dk_at ktX7_readFlash_0 20 rfl) rfl rfl (b := 38) rfl) ?_
      refine rc_p (p_iconst (v := 1) (dk_at ktX7_readFlash_0 21 rfl) (by decide) (b := 39) rfl) ?_
      refine rc_p (p_iconst (v := 4) (dk_at ktX7_readFlash_0 22 rfl) (by decide) (b := 40) rfl) ?_
      refine rc_p (p_bipush (v := 16) (dk_at ktX7_readFlash_0 23 rfl) (by decide) (b := 42) rfl) ?_
      refine r_iV (As' := [.int 1, .int 4, .int 16]) (rest := []) (s_X7_readsInto hm (hT.fr (show FP m I I18 from (((FF.rf.tr (hF5.mo (by simp) (by simp))).tr (hF16.mo (by simp) (by simp))).tr (hF22.mo (by simp) (by simp))))) hh29 (txDe T nn (txSk T nn (txWe T nn (txSk T nn p)))) hh30 (by omega) hh31 1 4 16 (by omega) (by decide) (by decide)) cw_X7_145 qi_X7_readsInto qv_X7_readsInto rfl hm.l0 hm.s0 (dk_at ktX7_readFlash_0 24 rfl) rfl rfl (Nat.le_of_ble_eq_true rfl) (by decide) (b := 45) rfl (fun v39 I36 J37 q38 => ?_)
      obtain ⟨rfl, rfl, hF40, hh41, hy42, hy43⟩ := q38
      refine r_if_ne (dk_at ktX7_readFlash_0 25 rfl) (b := 50) (by decide) (b2 := 48) rfl (fun c45 => ?_) (fun c45 => ?_)
      · have c45 := bi_t c45
        have hk47 := of_decide_eq_true c45
        obtain ⟨hh44, hh45, hh46⟩ := hy42 hk47
        have hd48 := txDe_le (T := T) (n := nn) (p := txSk T nn (txDe T nn (txSk T nn (txWe T nn (txSk T nn p))))) (by omega)
        have hs49 := txSk_le (T := T) (n := nn) (p := txDe T nn (txSk T nn (txDe T nn (txSk T nn (txWe T nn (txSk T nn p)))))) (by omega)
        have hin50 := txK_in hk47
        refine rc_p (p_aload_n 0 (dk_at ktX7_readFlash_0 28 rfl) rfl rfl (b := 51) rfl) ?_
        refine r_geta fl_X7_16 rfl hm.l0 hm.s0 (dk_at ktX7_readFlash_0 29 rfl) hm.g0_2 (b := 54) rfl ?_
        refine rc_p (p_iconst (v := 0) (dk_at ktX7_readFlash_0 30 rfl) (by decide) (b := 55) rfl) ?_
        refine r_iald (j := 0) (hm.lt 3 (by decide)) hm.s3 (dk_at ktX7_readFlash_0 31 rfl) rfl ⟨by decide, by decide⟩ (v := (nI (txVa T nn (txSk T nn (txWe T nn (txSk T nn p)))))) ((hh46.1 0 (by decide)).trans (show _ = nI _ from rfl)) (b := 56) rfl ?_
        refine rc_p (p_aload_n 0 (dk_at ktX7_readFlash_0 32 rfl) rfl rfl (b := 57) rfl) ?_
        refine r_geta fl_X7_16 rfl hm.l0 hm.s0 (dk_at ktX7_readFlash_0 33 rfl) hm.g0_2 (b := 60) rfl ?_
        refine rc_p (p_iconst (v := 1) (dk_at ktX7_readFlash_0 34 rfl) (by decide) (b := 61) rfl) ?_
        refine r_iald (j := 1) (hm.lt 3 (by decide)) hm.s3 (dk_at ktX7_readFlash_0 35 rfl) rfl ⟨by decide, by decide⟩ (v := (nI (txVa T nn (txSk T nn (txDe T nn (txSk T nn (txWe T nn (txSk T nn p)))))))) ((hh46.1 1 (by decide)).trans (show _ = nI _ from rfl)) (b := 62) rfl ?_
        have hmod := Nat.mod_le (txVa T nn (txSk T nn (txWe T nn (txSk T nn p)))) (txVa T nn (txSk T nn (txDe T nn (txSk T nn (txWe T nn (txSk T nn p))))))
        refine rc_p (p_irem (v := (nI (txVa T nn (txSk T nn (txWe T nn (txSk T nn p))) % txVa T nn (txSk T nn (txDe T nn (txSk T nn (txWe T nn (txSk T nn p)))))))) (dk_at ktX7_readFlash_0 36 rfl) (nI_ne0 (by omega) (by omega)) (pk_rem (a := txVa T nn (txSk T nn (txWe T nn (txSk T nn p)))) (d := txVa T nn (txSk T nn (txDe T nn (txSk T nn (txWe T nn (txSk T nn p)))))) (by omega) (by omega) (by omega)) (b := 63) rfl) ?_
        refine r_if_eq (dk_at ktX7_readFlash_0 37 rfl) (b := 72) (by decide) (b2 := 66) rfl (fun c63 => ?_) (fun c63 => ?_)
        · have c63 : (txVa T nn (txSk T nn (txWe T nn (txSk T nn p))) % txVa T nn (txSk T nn (txDe T nn (txSk T nn (txWe T nn (txSk T nn p)))))) = 0 := (nI_eq (a := txVa T nn (txSk T nn (txWe T nn (txSk T nn p))) % txVa T nn (txSk T nn (txDe T nn (txSk T nn (txWe T nn (txSk T nn p)))))) (b := 0) (by omega) (by omega)).mp c63
          refine rc_p (p_aload_n 0 (dk_at ktX7_readFlash_0 42 rfl) rfl rfl (b := 73) rfl) ?_
          refine rc_p (p_iconst (v := 2) (dk_at ktX7_readFlash_0 43 rfl) (by decide) (b := 74) rfl) ?_
          refine rc_p (p_bipush (v := 12) (dk_at ktX7_readFlash_0 44 rfl) (by decide) (b := 76) rfl) ?_
          refine rc_p (p_bipush (v := 32) (dk_at ktX7_readFlash_0 45 rfl) (by decide) (b := 78) rfl) ?_
          refine r_iV (As' := [.int 2, .int 12, .int 32]) (rest := []) (s_X7_readsInto hm (hT.fr (show FP m I I36 from ((((FF.rf.tr (hF5.mo (by simp) (by simp))).tr (hF16.mo (by simp) (by simp))).tr (hF22.mo (by simp) (by simp))).tr (hF40.mo (by simp) (by simp))))) hh44 (txDe T nn (txSk T nn (txDe T nn (txSk T nn (txWe T nn (txSk T nn p)))))) hh45 (by omega) hh46 2 12 32 (by omega) (by decide) (by decide)) cw_X7_145 qi_X7_readsInto qv_X7_readsInto rfl hm.l0 hm.s0 (dk_at ktX7_readFlash_0 46 rfl) rfl rfl (Nat.le_of_ble_eq_true rfl) (by decide) (b := 81) rfl (fun v54 I51 J52 q53 => ?_)
          obtain ⟨rfl, rfl, hF55, hh56, hy57, hy58⟩ := q53
          refine r_iret (dk_at ktX7_readFlash_0 47 rfl) rfl (bi_nar (decide (txK T nn (txSk T nn (txDe T nn (txSk T nn (txDe T nn (txSk T nn (txWe T nn (txSk T nn p))))))) 12 32 = 0))) ⟨_, rfl, ?_⟩
          have ho : flashO T nn p S = _ := (if_pos c11).trans ((if_pos hk32).trans ((if_pos hk47).trans (if_pos c63)))
          rw [ho]
          by_cases hk3 : txK T nn (txSk T nn (txDe T nn (txSk T nn (txDe T nn (txSk T nn (txWe T nn (txSk T nn p))))))) 12 32 = 0
          · obtain ⟨g14, g11, gR⟩ := hy57 hk3
            rw [numO_y hk3]
            exact ⟨(bk_0 hk3).symm, rfl, PQ.good (show FP m I I51 from (((((FF.rf.tr (hF5.mo (by simp) (by simp))).tr (hF16.mo (by simp) (by simp))).tr (hF22.mo (by simp) (by simp))).tr (hF40.mo (by simp) (by simp))).tr (hF55.mo (by simp) (by simp)))) g14 g11 gR⟩
          · obtain ⟨g14, g13⟩ := hy58 hk3
            rw [numO_n hk3]
            exact ⟨rfl, rfl, PQ.bad hk3 (show FP m I I51 from (((((FF.rf.tr (hF5.mo (by simp) (by simp))).tr (hF16.mo (by simp) (by simp))).tr (hF22.mo (by simp) (by simp))).tr (hF40.mo (by simp) (by simp))).tr (hF55.mo (by simp) (by simp)))) g14 g13⟩
        · have c63 : ¬ (txVa T nn (txSk T nn (txWe T nn (txSk T nn p))) % txVa T nn (txSk T nn (txDe T nn (txSk T nn (txWe T nn (txSk T nn p)))))) = 0 := fun h => c63 ((nI_eq (a := txVa T nn (txSk T nn (txWe T nn (txSk T nn p))) % txVa T nn (txSk T nn (txDe T nn (txSk T nn (txWe T nn (txSk T nn p)))))) (b := 0) (by omega) (by omega)).mpr h)
          refine rc_p (p_aload_n 0 (dk_at ktX7_readFlash_0 38 rfl) rfl rfl (b := 67) rfl) ?_
          refine rc_p (p_iconst (v := 3) (dk_at ktX7_readFlash_0 39 rfl) (by decide) (b := 68) rfl) ?_
          refine r_iV (As' := [.int 3]) (rest := []) (s_X7_fails hm (hT.fr (show FP m I I36 from ((((FF.rf.tr (hF5.mo (by simp) (by simp))).tr (hF16.mo (by simp) (by simp))).tr (hF22.mo (by simp) (by simp))).tr (hF40.mo (by simp) (by simp))))) hh44 (txSk T nn (txDe T nn (txSk T nn (txWe T nn (txSk T nn p))))) hh41 3) cw_X7_115 qi_X7_fails qv_X7_fails rfl hm.l0 hm.s0 (dk_at ktX7_readFlash_0 40 rfl) rfl rfl (Nat.le_of_ble_eq_true rfl) (by decide) (b := 71) rfl (fun v62 I59 J60 q61 => ?_)
          obtain ⟨rfl, rfl, hF63, hh64, hh65⟩ := q61
          refine r_iret (dk_at ktX7_readFlash_0 41 rfl) rfl rfl ⟨_, rfl, ?_⟩
          have ho : flashO T nn p S = _ := (if_pos c11).trans ((if_pos hk32).trans ((if_pos hk47).trans (if_neg c63)))
          rw [ho]
          exact ⟨bk_1 (k := 3) (by decide), rfl, PQ.bad (by decide) (show FP m I I59 from (((((FF.rf.tr (hF5.mo (by simp) (by simp))).tr (hF16.mo (by simp) (by simp))).tr (hF22.mo (by simp) (by simp))).tr (hF40.mo (by simp) (by simp))).tr (hF63.mo (by simp) (by simp)))) hh64 hh65⟩
      · have c45 := bi_f c45
        have hk68 := of_decide_eq_false c45
        obtain ⟨hh66, hh67⟩ := hy43 hk68
        refine rc_p (p_iconst (v := 0) (dk_at ktX7_readFlash_0 26 rfl) (by decide) (b := 49) rfl) ?_
        refine r_iret (dk_at ktX7_readFlash_0 27 rfl) rfl rfl ⟨_, rfl, ?_⟩
        have ho : flashO T nn p S = _ := (if_pos c11).trans ((if_pos hk32).trans (if_neg hk68))
        rw [ho]
        exact ⟨bk_1 hk68, rfl, PQ.bad hk68 (show FP m I I36 from ((((FF.rf.tr (hF5.mo (by simp) (by simp))).tr (hF16.mo (by simp) (by simp))).tr (hF22.mo (by simp) (by simp))).tr (hF40.mo (by simp) (by simp)))) hh66 hh67⟩
  · have c11 := bi_f c11
    refine rc_p (p_aload_n 0 (dk_at ktX7_readFlash_0 7 rfl) rfl rfl (b := 15) rfl) ?_
    refine rc_p (p_iconst (v := 1) (dk_at ktX7_readFlash_0 8 rfl) (by decide) (b := 16) rfl) ?_
    refine r_iV (As' := [.int 1]) (rest := []) (s_X7_fails hm (hT.fr (show FP m I I1 from (FF.rf.tr (hF5.mo (by simp) (by simp))))) (((hF5.2 14 (by decide))).trans h14) (txSk T nn p) hh7 1) cw_X7_115 qi_X7_fails qv_X7_fails rfl hm.l0 hm.s0 (dk_at ktX7_readFlash_0 9 rfl) rfl rfl (Nat.le_of_ble_eq_true rfl) (by decide) (b := 19) rfl (fun v72 I69 J70 q71 => ?_)
    obtain ⟨rfl, rfl, hF73, hh74, hh75⟩ := q71
    refine r_iret (dk_at ktX7_readFlash_0 10 rfl) rfl rfl ⟨_, rfl, ?_⟩
    have ho : flashO T nn p S = _ := if_neg (by rw [c11]; decide)
    rw [ho]
    exact ⟨bk_1 (k := 1) (by decide), rfl, PQ.bad (by decide) (show FP m I I69 from ((FF.rf.tr (hF5.mo (by simp) (by simp))).tr (hF73.mo (by simp) (by simp)))) hh74 hh75⟩
set_option maxRecDepth 4000 in
set_option maxHeartbeats 4000000 in
theorem s_X7_readImage {n : Nat} {sh : mS} {G : mG} {I : mI} {J : mJ} {m : Nat} {T : tT} {nn : Nat} (hm : ModG n sh G m) (hT : TR m I T nn) (h14 : I m 14 = 0) (w : Nat) (h12 : I m 12 = nI w) (hwn : w ≤ nn) {S : PSt} (hS : RS m I S) (hG : GS S)  : Sp yX7_readImage cX7_readImage 4 (some FieldType.boolean) 6 288 0 0 [.ref m] n sh G I J (Qi (fun r_ I_ J_ => bi (decide ((imageO T nn (txWe T nn w) (tn (S.row 0)) S).k = 0)) = r_ ∧ J = J_ ∧ PQ m I I_ (imageO T nn (txWe T nn w) (tn (S.row 0)) S))) nX := by
  refine Sp.of (by decide) (ls := [(0, .ref m)]) (fun _ => rfl) (fun _ => Nat.le_of_ble_eq_true rfl) ?_
  have hn := hT.1.1
  have hwe := txWe_le (T := T) hwn
  have hsk := txSk_le (T := T) hwe.2
  have hw := hG.1.W
  have hde := txDe_le (T := T) hsk.2
  have hsk2 := txSk_le (T := T) hde.2
  have hde2 := txDe_le (T := T) hsk2.2
  have cut57 : ∀ (t c z : Nat) (r : sT) (Iz : mI), FP m I Iz → Iz m 11 = nI z → Iz m 14 = 0 → RS m Iz ((S.cl (3 + (txVa T nn (txSk T nn (txWe T nn w))))).rw r) → r 0 = nI (tn (S.row 0)) → r (83 + 64 * (txVa T nn (txSk T nn (txWe T nn w)))) = nI (txVa T nn (txSk T nn (txDe T nn (txSk T nn (txWe T nn w))))) → txK T nn (txSk T nn (txWe T nn w)) 0 1 = 0 → txK T nn (txSk T nn (txDe T nn (txSk T nn (txWe T nn w)))) 1 255 = 0 → z ≤ nn → c + 3 ≤ tn (S.row 0) → 100 - c < t → imageO T nn (txWe T nn w) (tn (S.row 0)) S = imgH T nn (tn (S.row 0)) (txVa T nn (txSk T nn (txWe T nn w))) (S.cl (3 + (txVa T nn (txSk T nn (txWe T nn w))))) (62 - c) c z r → Rc RX7 cX7_readImage 4 (some FieldType.boolean) 6 288 0 0 n sh G (Qi (fun r_ I_ J_ => bi (decide ((imageO T nn (txWe T nn w) (tn (S.row 0)) S).k = 0)) = r_ ∧ J = J_ ∧ PQ m I I_ (imageO T nn (txWe T nn w) (tn (S.row 0)) S))) nX 0 0 57 [(3, .int (nI c)), (2, .int (nI (83 + 64 * (txVa T nn (txSk T nn (txWe T nn w)))))), (0, .ref m)] [] Iz J := by
    intro t
    induction t
    · intro c z r Iz _ _ _ _ _ _ _ _ _ _ h; omega
    rename_i t ih
    intro c z r Iz hFz hz h14 hRz hr0 hrv hkA hkB hzn hcW ht hx
    have hiA := txK_in hkA
    have hiB := txK_in hkB
    have hsz := txSk_le (T := T) hzn
    have hsz2 := txSk_2 hT.1 hzn
    refine rc_p (p_iload_n 0 (dk_at ktX7_readImage_0 37 rfl) rfl rfl (b := 58) rfl) ?_
    refine r_if_eq (dk_at ktX7_readImage_0 38 rfl) (b := 78) (by decide) (b2 := 61) rfl (fun c58 => ?_) (fun c58 => ?_)
    · have c58 : c = 0 := (nI_eq (a := c) (b := 0) (by omega) (by omega)).mp c58
      refine rc_p (p_iload_n 0 (dk_at ktX7_readImage_0 46 rfl) rfl rfl (b := 79) rfl) ?_
      refine rc_p (p_aload_n 2 (dk_at ktX7_readImage_0 47 rfl) rfl rfl (b := 80) rfl) ?_
      refine r_geta fl_X7_16 rfl hm.l0 hm.s0 (dk_at ktX7_readImage_0 48 rfl) hm.g0_2 (b := 83) rfl ?_
      refine rc_p (p_iconst (v := 0) (dk_at ktX7_readImage_0 49 rfl) (by decide) (b := 84) rfl) ?_
      refine r_iald (j := 0) (hm.lt 3 (by decide)) hm.s3 (dk_at ktX7_readImage_0 50 rfl) rfl ⟨by decide, by decide⟩ (v := (nI (tn (S.row 0)))) ((hRz.1 0 (by decide)).trans hr0) (b := 85) rfl ?_
      refine rc_p (p_iconst (v := 3) (dk_at ktX7_readImage_0 51 rfl) (by decide) (b := 86) rfl) ?_
      refine rc_p (p_isub (v := (nI (tn (S.row 0) - 3))) (dk_at ktX7_readImage_0 52 rfl) (pk_sub (a := tn (S.row 0)) (b := 3) (by omega)) (b := 87) rfl) ?_
      refine r_icmp_ne (dk_at ktX7_readImage_0 53 rfl) (b := 96) (by decide) (b2 := 90) rfl (fun c87 => ?_) (fun c87 => ?_)
      · have c87 : ¬ c = (tn (S.row 0) - 3) := fun h => c87 ((nI_eq (a := c) (b := tn (S.row 0) - 3) (by omega) (by omega)).mpr h)
        refine rc_p (p_aload_n 2 (dk_at ktX7_readImage_0 58 rfl) rfl rfl (b := 97) rfl) ?_
        refine rc_p (p_iload_n 1 (dk_at ktX7_readImage_0 59 rfl) rfl rfl (b := 98) rfl) ?_
        refine rc_p (p_iconst (v := 3) (dk_at ktX7_readImage_1 0 rfl) (by decide) (b := 99) rfl) ?_
        refine rc_p (p_iadd (v := (nI (83 + 64 * (txVa T nn (txSk T nn (txWe T nn w))) + 3))) (dk_at ktX7_readImage_1 1 rfl) (nI_add (83 + 64 * (txVa T nn (txSk T nn (txWe T nn w)))) 3) (b := 100) rfl) ?_
        refine rc_p (p_iload_n 0 (dk_at ktX7_readImage_1 2 rfl) rfl rfl (b := 101) rfl) ?_
        refine rc_p (p_iadd (v := (nI (86 + 64 * (txVa T nn (txSk T nn (txWe T nn w))) + c))) (dk_at ktX7_readImage_1 3 rfl) ((nI_add _ _).trans (congrArg nI (by omega))) (b := 102) rfl) ?_
        refine rc_p (p_iconst (v := 0) (dk_at ktX7_readImage_1 4 rfl) (by decide) (b := 103) rfl) ?_
        refine rc_p (p_ldc (v := 65535) qk_TwinBootModel_49 (dk_at ktX7_readImage_1 5 rfl) (b := 105) rfl) ?_
        refine r_iV (As' := [.int (nI (86 + 64 * (txVa T nn (txSk T nn (txWe T nn w))) + c)), .int 0, .int 65535]) (rest := []) (s_X7_readsInto hm (hT.fr (show FP m I Iz from (hFz.mo (by simp) (by simp)))) h14 z hz (by omega) hRz (86 + 64 * (txVa T nn (txSk T nn (txWe T nn w))) + c) 0 65535 (by omega) (by decide) (by decide)) cw_X7_145 qi_X7_readsInto qv_X7_readsInto rfl hm.l0 hm.s0 (dk_at ktX7_readImage_1 6 rfl) rfl rfl (Nat.le_of_ble_eq_true rfl) (by decide) (b := 108) rfl (fun v4 I1 J2 q3 => ?_)
        obtain ⟨rfl, rfl, hF5, hh6, hy7, hy8⟩ := q3
        refine r_if_ne (dk_at ktX7_readImage_1 7 rfl) (b := 113) (by decide) (b2 := 111) rfl (fun c108 => ?_) (fun c108 => ?_)
        · have c108 := bi_t c108
          have hk12 := of_decide_eq_true c108
          obtain ⟨hh9, hh10, hh11⟩ := hy7 hk12
          have hd13 := txDe_le (T := T) (n := nn) (p := txSk T nn z) (by omega)
          have hs14 := txSk_le (T := T) (n := nn) (p := txDe T nn (txSk T nn z)) (by omega)
          have hin15 := txK_in hk12
          refine rc_p (p_iinc (j := 0) (v := (nI (c + 1))) (ls' := [(3, .int (nI (c + 1))), (2, .int (nI (83 + 64 * (txVa T nn (txSk T nn (txWe T nn w)))))), (0, .ref m)]) (dk_at ktX7_readImage_1 10 rfl) rfl (nI_add c 1) (by decide) rfl (b := 116) rfl) ?_
          refine rc_p (p_goto (b := 57) (dk_at ktX7_readImage_1 11 rfl) (by decide)) ?_
          exact ih (c + 1) _ _ _ (show FP m I I1 from ((hFz.mo (by simp) (by simp)).tr (hF5.mo (by simp) (by simp)))) hh10 hh9 hh11 ((upd_n (by omega)).trans hr0) ((upd_n (by omega)).trans hrv) hkA hkB (by omega) (by omega) (by omega) (hx.trans ((imgH_z c58).trans (imgC_s (by omega) (by omega) hk12)))
        · have c108 := bi_f c108
          have hk18 := of_decide_eq_false c108
          obtain ⟨hh16, hh17⟩ := hy8 hk18
          refine rc_p (p_iconst (v := 0) (dk_at ktX7_readImage_1 8 rfl) (by decide) (b := 112) rfl) ?_
          refine r_iret (dk_at ktX7_readImage_1 9 rfl) rfl rfl ⟨_, rfl, ?_⟩
          have ho : imageO T nn (txWe T nn w) (tn (S.row 0)) S = _ := hx.trans ((imgH_z c58).trans (imgC_k (by omega) (by omega) hk18))
          rw [ho]
          exact ⟨bk_1 hk18, rfl, PQ.bad hk18 (show FP m I I1 from ((hFz.mo (by simp) (by simp)).tr (hF5.mo (by simp) (by simp)))) hh16 hh17⟩
      · have c87 : c = (tn (S.row 0) - 3) := (nI_eq (a := c) (b := tn (S.row 0) - 3) (by omega) (by omega)).mp c87
        omega
    · have c58 : ¬ c = 0 := fun h => c58 ((nI_eq (a := c) (b := 0) (by omega) (by omega)).mpr h)
      refine rc_p (p_aload_n 2 (dk_at ktX7_readImage_0 39 rfl) rfl rfl (b := 62) rfl) ?_
      refine r_iV (As' := []) (rest := []) (s_X7_see hm (hT.fr (show FP m I Iz from (hFz.mo (by simp) (by simp)))) z hz (by omega)) cw_X7_109 qi_X7_see qv_X7_see rfl hm.l0 hm.s0 (dk_at ktX7_readImage_0 40 rfl) rfl rfl (Nat.le_of_ble_eq_true rfl) (by decide) (b := 65) rfl (fun v22 I19 J20 q21 => ?_)
      obtain ⟨rfl, rfl, hF23, hh24, hh25⟩ := q21
      refine rc_p (p_i2l (v := (Int32.toInt64 (bA T (txSk T nn z)))) (dk_at ktX7_readImage_0 41 rfl) rfl (b := 66) rfl) ?_
      refine rc_p (p_ldc2 (v := 48) ql_TwinBootModel_77 (dk_at ktX7_readImage_0 42 rfl) (b := 69) rfl) ?_
      refine rc_p (p_ldc2 (v := 57) ql_TwinBootModel_79 (dk_at ktX7_readImage_0 43 rfl) (b := 72) rfl) ?_
      refine r_iS (As := [.long (Int32.toInt64 (bA T (txSk T nn z))), .long 48, .long 57]) (rest := []) (s_X7_in (Int32.toInt64 (bA T (txSk T nn z))) 48 57) cw_X7_73 qs_X7_in (dk_at ktX7_readImage_0 44 rfl) rfl rfl (Nat.le_of_ble_eq_true rfl) (by decide) (b := 75) rfl (fun v29 I26 J27 q28 => ?_)
      obtain ⟨rfl, rfl, rfl⟩ := q28
      refine r_val (y := bi (inI (bA T (txSk T nn z)) 48 57)) (congrArg bi (inJ_I (bA T (txSk T nn z)) 48 57)) ?_
      refine r_if_eq (dk_at ktX7_readImage_0 45 rfl) (b := 119) (by decide) (b2 := 78) rfl (fun c75 => ?_) (fun c75 => ?_)
      · have c75 := bi_f c75
        have ed := (bA_D hT.1).symm.trans c75
        refine rc_p (p_aload_n 2 (dk_at ktX7_readImage_1 12 rfl) rfl rfl (b := 120) rfl) ?_
        refine r_geta fl_X7_16 rfl hm.l0 hm.s0 (dk_at ktX7_readImage_1 13 rfl) hm.g0_2 (b := 123) rfl ?_
        refine rc_p (p_iload_n 1 (dk_at ktX7_readImage_1 14 rfl) rfl rfl (b := 124) rfl) ?_
        refine rc_p (p_iconst (v := 1) (dk_at ktX7_readImage_1 15 rfl) (by decide) (b := 125) rfl) ?_
        refine rc_p (p_iadd (v := (nI (84 + 64 * (txVa T nn (txSk T nn (txWe T nn w)))))) (dk_at ktX7_readImage_1 16 rfl) ((nI_add (83 + 64 * (txVa T nn (txSk T nn (txWe T nn w)))) 1).trans (congrArg nI (by omega))) (b := 126) rfl) ?_
        refine rc_p (p_iload_n 0 (dk_at ktX7_readImage_1 17 rfl) rfl rfl (b := 127) rfl) ?_
        refine r_iast (j := 84 + 64 * (txVa T nn (txSk T nn (txWe T nn w)))) (hm.lt 3 (by decide)) hm.s3 (dk_at ktX7_readImage_1 18 rfl) rfl ⟨by omega, by decide⟩ (b := 128) rfl ?_
        refine rc_p (p_aload_n 2 (dk_at ktX7_readImage_1 19 rfl) rfl rfl (b := 129) rfl) ?_
        refine r_geta fl_X7_16 rfl hm.l0 hm.s0 (dk_at ktX7_readImage_1 20 rfl) hm.g0_2 (b := 132) rfl ?_
        refine rc_p (p_iload_n 1 (dk_at ktX7_readImage_1 21 rfl) rfl rfl (b := 133) rfl) ?_
        refine rc_p (p_iconst (v := 2) (dk_at ktX7_readImage_1 22 rfl) (by decide) (b := 134) rfl) ?_
        refine rc_p (p_iadd (v := (nI (85 + 64 * (txVa T nn (txSk T nn (txWe T nn w)))))) (dk_at ktX7_readImage_1 23 rfl) ((nI_add (83 + 64 * (txVa T nn (txSk T nn (txWe T nn w)))) 2).trans (congrArg nI (by omega))) (b := 135) rfl) ?_
        refine rc_p (p_aload_n 2 (dk_at ktX7_readImage_1 24 rfl) rfl rfl (b := 136) rfl) ?_
        refine r_geta fl_X7_16 rfl hm.l0 hm.s0 (dk_at ktX7_readImage_1 25 rfl) hm.g0_2 (b := 139) rfl ?_
        refine rc_p (p_iload_n 1 (dk_at ktX7_readImage_1 26 rfl) rfl rfl (b := 140) rfl) ?_
        refine rc_p (p_aload_n 2 (dk_at ktX7_readImage_1 27 rfl) rfl rfl (b := 141) rfl) ?_
        refine r_geta fl_X7_16 rfl hm.l0 hm.s0 (dk_at ktX7_readImage_1 28 rfl) hm.g0_2 (b := 144) rfl ?_
        refine rc_p (p_iload_n 1 (dk_at ktX7_readImage_1 29 rfl) rfl rfl (b := 145) rfl) ?_
        refine r_iald (j := 83 + 64 * (txVa T nn (txSk T nn (txWe T nn w)))) (hm.lt 3 (by decide)) hm.s3 (dk_at ktX7_readImage_1 30 rfl) rfl ⟨by omega, by decide⟩ (v := (r (83 + 64 * (txVa T nn (txSk T nn (txWe T nn w)))))) ((((hRz.fr (hF23.mo (by simp) (by simp))).st (k := 84 + 64 * (txVa T nn (txSk T nn (txWe T nn w)))) (v := c)).1 _ (by omega)).trans (show upd r (84 + 64 * (txVa T nn (txSk T nn (txWe T nn w)))) (nI c) (83 + 64 * (txVa T nn (txSk T nn (txWe T nn w)))) = r (83 + 64 * (txVa T nn (txSk T nn (txWe T nn w)))) from upd_n (by omega))) (b := 146) rfl ?_
        refine rc_p (p_iload_n 0 (dk_at ktX7_readImage_1 31 rfl) rfl rfl (b := 147) rfl) ?_
        refine r_iS (As := [.ref (m + 3), .int (nI (83 + 64 * (txVa T nn (txSk T nn (txWe T nn w))))), .int (r (83 + 64 * (txVa T nn (txSk T nn (txWe T nn w))))), .int (nI c)]) (rest := [.int (nI (85 + 64 * (txVa T nn (txSk T nn (txWe T nn w))))), .ref (m + 3)]) (s_X7_sumOf (ar := (m + 3)) (len := 429) (a := 83 + 64 * (txVa T nn (txSk T nn (txWe T nn w)))) (c := c) ⟨(hm.lt 3 (by decide)), hm.s3⟩ (by decide) (by omega) (r (83 + 64 * (txVa T nn (txSk T nn (txWe T nn w)))))) cw_X7_155 qs_X7_sumOf (dk_at ktX7_readImage_1 32 rfl) rfl rfl (Nat.le_of_ble_eq_true rfl) (by decide) (b := 150) rfl (fun v33 I30 J31 q32 => ?_)
        obtain ⟨rfl, rfl, rfl⟩ := q32
        refine r_val (y := sumF (upd r (84 + 64 * (txVa T nn (txSk T nn (txWe T nn w)))) (nI c)) (83 + 64 * (txVa T nn (txSk T nn (txWe T nn w)))) (r (83 + 64 * (txVa T nn (txSk T nn (txWe T nn w))))) c) ((sumF_congr (fun k hk => ((hRz.fr (hF23.mo (by simp) (by simp))).st (k := 84 + 64 * (txVa T nn (txSk T nn (txWe T nn w)))) (v := c)).1 _ (by omega))).trans rfl) ?_
        refine r_iast (j := 85 + 64 * (txVa T nn (txSk T nn (txWe T nn w)))) (hm.lt 3 (by decide)) hm.s3 (dk_at ktX7_readImage_1 33 rfl) rfl ⟨by omega, by decide⟩ (b := 151) rfl ?_
        refine rc_p (p_iconst (v := 1) (dk_at ktX7_readImage_1 34 rfl) (by decide) (b := 152) rfl) ?_
        refine r_iret (dk_at ktX7_readImage_1 35 rfl) rfl rfl ⟨_, rfl, ?_⟩
        have ho := hx.trans (imgH_e (T := T) (n := nn) c58 ed)
        rw [ho]
        exact ⟨rfl, rfl, PQ.good (show FP m I (up2 (up2 I19 (m + 3) (84 + 64 * (txVa T nn (txSk T nn (txWe T nn w)))) (nI c)) (m + 3) (85 + 64 * (txVa T nn (txSk T nn (txWe T nn w)))) (sumF (upd r (84 + 64 * (txVa T nn (txSk T nn (txWe T nn w)))) (nI c)) (83 + 64 * (txVa T nn (txSk T nn (txWe T nn w)))) (r (83 + 64 * (txVa T nn (txSk T nn (txWe T nn w))))) c)) from ((((hFz.mo (by simp) (by simp)).tr (hF23.mo (by simp) (by simp))).ua (o := 3) (by simp) (by decide)).ua (o := 3) (by simp) (by decide))) ((up2_n (by omega)).trans ((up2_n (by omega)).trans (((hF23.2 14 (by decide))).trans h14))) ((up2_n (by omega)).trans ((up2_n (by omega)).trans hh24)) (((hRz.fr (hF23.mo (by simp) (by simp))).st (k := 84 + 64 * (txVa T nn (txSk T nn (txWe T nn w)))) (v := c)).ro (k := 85 + 64 * (txVa T nn (txSk T nn (txWe T nn w)))))⟩
      · have c75 := bi_t c75
        have ed := (bA_D hT.1).symm.trans c75
        refine rc_p (p_iload_n 0 (dk_at ktX7_readImage_0 46 rfl) rfl rfl (b := 79) rfl) ?_
        refine rc_p (p_aload_n 2 (dk_at ktX7_readImage_0 47 rfl) rfl rfl (b := 80) rfl) ?_
        refine r_geta fl_X7_16 rfl hm.l0 hm.s0 (dk_at ktX7_readImage_0 48 rfl) hm.g0_2 (b := 83) rfl ?_
        refine rc_p (p_iconst (v := 0) (dk_at ktX7_readImage_0 49 rfl) (by decide) (b := 84) rfl) ?_
        refine r_iald (j := 0) (hm.lt 3 (by decide)) hm.s3 (dk_at ktX7_readImage_0 50 rfl) rfl ⟨by decide, by decide⟩ (v := (nI (tn (S.row 0)))) (((congrFun (hF23.1 _ (by omega) (by simp)) 0)).trans ((hRz.1 0 (by decide)).trans hr0)) (b := 85) rfl ?_
        refine rc_p (p_iconst (v := 3) (dk_at ktX7_readImage_0 51 rfl) (by decide) (b := 86) rfl) ?_
        refine rc_p (p_isub (v := (nI (tn (S.row 0) - 3))) (dk_at ktX7_readImage_0 52 rfl) (pk_sub (a := tn (S.row 0)) (b := 3) (by omega)) (b := 87) rfl) ?_
        refine r_icmp_ne (dk_at ktX7_readImage_0 53 rfl) (b := 96) (by decide) (b2 := 90) rfl (fun c87 => ?_) (fun c87 => ?_)
        · have c87 : ¬ c = (tn (S.row 0) - 3) := fun h => c87 ((nI_eq (a := c) (b := tn (S.row 0) - 3) (by omega) (by omega)).mpr h)
          refine rc_p (p_aload_n 2 (dk_at ktX7_readImage_0 58 rfl) rfl rfl (b := 97) rfl) ?_
          refine rc_p (p_iload_n 1 (dk_at ktX7_readImage_0 59 rfl) rfl rfl (b := 98) rfl) ?_
          refine rc_p (p_iconst (v := 3) (dk_at ktX7_readImage_1 0 rfl) (by decide) (b := 99) rfl) ?_
          refine rc_p (p_iadd (v := (nI (83 + 64 * (txVa T nn (txSk T nn (txWe T nn w))) + 3))) (dk_at ktX7_readImage_1 1 rfl) (nI_add (83 + 64 * (txVa T nn (txSk T nn (txWe T nn w)))) 3) (b := 100) rfl) ?_
          refine rc_p (p_iload_n 0 (dk_at ktX7_readImage_1 2 rfl) rfl rfl (b := 101) rfl) ?_
          refine rc_p (p_iadd (v := (nI (86 + 64 * (txVa T nn (txSk T nn (txWe T nn w))) + c))) (dk_at ktX7_readImage_1 3 rfl) ((nI_add _ _).trans (congrArg nI (by omega))) (b := 102) rfl) ?_
          refine rc_p (p_iconst (v := 0) (dk_at ktX7_readImage_1 4 rfl) (by decide) (b := 103) rfl) ?_
          refine rc_p (p_ldc (v := 65535) qk_TwinBootModel_49 (dk_at ktX7_readImage_1 5 rfl) (b := 105) rfl) ?_
          refine r_iV (As' := [.int (nI (86 + 64 * (txVa T nn (txSk T nn (txWe T nn w))) + c)), .int 0, .int 65535]) (rest := []) (s_X7_readsInto hm (hT.fr (show FP m I I19 from ((hFz.mo (by simp) (by simp)).tr (hF23.mo (by simp) (by simp))))) (((hF23.2 14 (by decide))).trans h14) (txSk T nn z) hh24 (by omega) (hRz.fr (hF23.mo (by simp) (by simp))) (86 + 64 * (txVa T nn (txSk T nn (txWe T nn w))) + c) 0 65535 (by omega) (by decide) (by decide)) cw_X7_145 qi_X7_readsInto qv_X7_readsInto rfl hm.l0 hm.s0 (dk_at ktX7_readImage_1 6 rfl) rfl rfl (Nat.le_of_ble_eq_true rfl) (by decide) (b := 108) rfl (fun v37 I34 J35 q36 => ?_)
          obtain ⟨rfl, rfl, hF38, hh39, hy40, hy41⟩ := q36
          refine r_if_ne (dk_at ktX7_readImage_1 7 rfl) (b := 113) (by decide) (b2 := 111) rfl (fun c108 => ?_) (fun c108 => ?_)
          · have c108 := bi_t c108
            have hk45 := of_decide_eq_true c108
            obtain ⟨hh42, hh43, hh44⟩ := hy40 hk45
            have hd46 := txDe_le (T := T) (n := nn) (p := txSk T nn (txSk T nn z)) (by omega)
            have hs47 := txSk_le (T := T) (n := nn) (p := txDe T nn (txSk T nn (txSk T nn z))) (by omega)
            have hin48 := txK_in hk45
            refine rc_p (p_iinc (j := 0) (v := (nI (c + 1))) (ls' := [(3, .int (nI (c + 1))), (2, .int (nI (83 + 64 * (txVa T nn (txSk T nn (txWe T nn w)))))), (0, .ref m)]) (dk_at ktX7_readImage_1 10 rfl) rfl (nI_add c 1) (by decide) rfl (b := 116) rfl) ?_
            refine rc_p (p_goto (b := 57) (dk_at ktX7_readImage_1 11 rfl) (by decide)) ?_
            exact ih (c + 1) _ _ _ (show FP m I I34 from (((hFz.mo (by simp) (by simp)).tr (hF23.mo (by simp) (by simp))).tr (hF38.mo (by simp) (by simp)))) hh43 hh42 hh44 ((upd_n (by omega)).trans hr0) ((upd_n (by omega)).trans hrv) hkA hkB (by omega) (by omega) (by omega) (hx.trans ((imgH_d c58 ed).trans (imgC_s (by omega) (by omega) hk45)))
          · have c108 := bi_f c108
            have hk51 := of_decide_eq_false c108
            obtain ⟨hh49, hh50⟩ := hy41 hk51
            refine rc_p (p_iconst (v := 0) (dk_at ktX7_readImage_1 8 rfl) (by decide) (b := 112) rfl) ?_
            refine r_iret (dk_at ktX7_readImage_1 9 rfl) rfl rfl ⟨_, rfl, ?_⟩
            have ho : imageO T nn (txWe T nn w) (tn (S.row 0)) S = _ := hx.trans ((imgH_d c58 ed).trans (imgC_k (by omega) (by omega) hk51))
            rw [ho]
            exact ⟨bk_1 hk51, rfl, PQ.bad hk51 (show FP m I I34 from (((hFz.mo (by simp) (by simp)).tr (hF23.mo (by simp) (by simp))).tr (hF38.mo (by simp) (by simp)))) hh49 hh50⟩
        · have c87 : c = (tn (S.row 0) - 3) := (nI_eq (a := c) (b := tn (S.row 0) - 3) (by omega) (by omega)).mp c87
          refine rc_p (p_aload_n 2 (dk_at ktX7_readImage_0 54 rfl) rfl rfl (b := 91) rfl) ?_
          refine rc_p (p_iconst (v := 1) (dk_at ktX7_readImage_0 55 rfl) (by decide) (b := 92) rfl) ?_
          refine r_iV (As' := [.int 1]) (rest := []) (s_X7_fails hm (hT.fr (show FP m I I19 from ((hFz.mo (by simp) (by simp)).tr (hF23.mo (by simp) (by simp))))) (((hF23.2 14 (by decide))).trans h14) (txSk T nn z) hh25 1) cw_X7_115 qi_X7_fails qv_X7_fails rfl hm.l0 hm.s0 (dk_at ktX7_readImage_0 56 rfl) rfl rfl (Nat.le_of_ble_eq_true rfl) (by decide) (b := 95) rfl (fun v55 I52 J53 q54 => ?_)
          obtain ⟨rfl, rfl, hF56, hh57, hh58⟩ := q54
          refine r_iret (dk_at ktX7_readImage_0 57 rfl) rfl rfl ⟨_, rfl, ?_⟩
          have ho : imageO T nn (txWe T nn w) (tn (S.row 0)) S = _ := hx.trans ((imgH_d c58 ed).trans (imgC_w (by omega) (by omega)))
          rw [ho]
          exact ⟨bk_1 (k := 1) (by decide), rfl, PQ.bad (by decide) (show FP m I I52 from (((hFz.mo (by simp) (by simp)).tr (hF23.mo (by simp) (by simp))).tr (hF56.mo (by simp) (by simp)))) hh57 hh58⟩
  have hn := hT.1.1
  have hwe := txWe_le (T := T) hwn
  have hsk := txSk_le (T := T) hwe.2
  have hw := hG.1.W
  have hg := hG.2.2.2.2
  have hde := txDe_le (T := T) hsk.2
  have hsk2 := txSk_le (T := T) hde.2
  have hde2 := txDe_le (T := T) hsk2.2
  refine rc_p (p_aload_n 0 (dk_at ktX7_readImage_0 0 rfl) rfl rfl (b := 1) rfl) ?_
  refine r_iV (As' := []) (rest := []) (s_X7_passes hm hT w h12 (by omega)) cw_X7_141 qi_X7_passes qv_X7_passes rfl hm.l0 hm.s0 (dk_at ktX7_readImage_0 1 rfl) rfl rfl (Nat.le_of_ble_eq_true rfl) (by decide) (b := 4) rfl (fun v62 I59 J60 q61 => ?_)
  obtain ⟨rfl, rfl, hF63, hh64⟩ := q61
  refine rc_p (p_pop (dk_at ktX7_readImage_0 2 rfl) rfl (b := 5) rfl) ?_
  refine rc_p (p_aload_n 0 (dk_at ktX7_readImage_0 3 rfl) rfl rfl (b := 6) rfl) ?_
  refine rc_p (p_iconst (v := 0) (dk_at ktX7_readImage_0 4 rfl) (by decide) (b := 7) rfl) ?_
  refine rc_p (p_iconst (v := 1) (dk_at ktX7_readImage_0 5 rfl) (by decide) (b := 8) rfl) ?_
  refine r_iV (As' := [.int 0, .int 1]) (rest := []) (s_X7_reads hm (hT.fr (show FP m I I59 from (FF.rf.tr (hF63.mo (by simp) (by simp))))) (((hF63.2 14 (by decide))).trans h14) (txWe T nn w) hh64 (by omega) 0 1 (by decide) (by decide)) cw_X7_131 qi_X7_reads qv_X7_reads rfl hm.l0 hm.s0 (dk_at ktX7_readImage_0 6 rfl) rfl rfl (Nat.le_of_ble_eq_true rfl) (by decide) (b := 11) rfl (fun v68 I65 J66 q67 => ?_)
  obtain ⟨rfl, rfl, hF69, hh70, hy71, hy72⟩ := q67
  refine r_if_ne (dk_at ktX7_readImage_0 7 rfl) (b := 16) (by decide) (b2 := 14) rfl (fun c11 => ?_) (fun c11 => ?_)
  · have c11 := bi_t c11
    have hk76 := of_decide_eq_true c11
    obtain ⟨hh73, hh74, hh75⟩ := hy71 hk76
    have hd77 := txDe_le (T := T) (n := nn) (p := txSk T nn (txWe T nn w)) (by omega)
    have hs78 := txSk_le (T := T) (n := nn) (p := txDe T nn (txSk T nn (txWe T nn w))) (by omega)
    have hin79 := txK_in hk76
    refine rc_p (p_aload_n 0 (dk_at ktX7_readImage_0 10 rfl) rfl rfl (b := 17) rfl) ?_
    refine r_geti fl_X7_128 rfl hm.l0 hm.s0 (dk_at ktX7_readImage_0 11 rfl) (v := (nI (txVa T nn (txSk T nn (txWe T nn w))))) hh75 (b := 20) rfl ?_
    refine rc_p (p_istore_n (ls' := [(1, .int (nI (txVa T nn (txSk T nn (txWe T nn w))))), (0, .ref m)]) (dk_at ktX7_readImage_0 12 rfl) rfl (by decide) rfl (b := 21) rfl) ?_
    refine rc_p (p_aload_n 1 (dk_at ktX7_readImage_0 13 rfl) rfl rfl (b := 22) rfl) ?_
    refine rc_p (p_iconst (v := 3) (dk_at ktX7_readImage_0 14 rfl) (by decide) (b := 23) rfl) ?_
    refine rc_p (p_iload_n 0 (dk_at ktX7_readImage_0 15 rfl) rfl rfl (b := 24) rfl) ?_
    refine rc_p (p_iadd (v := (nI (3 + (txVa T nn (txSk T nn (txWe T nn w)))))) (dk_at ktX7_readImage_0 16 rfl) (nI_add 3 (txVa T nn (txSk T nn (txWe T nn w)))) (b := 25) rfl) ?_
    refine r_iV (As' := [.int (nI (3 + (txVa T nn (txSk T nn (txWe T nn w)))))]) (rest := []) (s_X7_once hm (hT.fr (show FP m I I65 from ((FF.rf.tr (hF63.mo (by simp) (by simp))).tr (hF69.mo (by simp) (by simp))))) hh73 (txSk T nn (txWe T nn w)) hh70 ((hS.fr (hF63.mo (by simp) (by simp))).fr hF69) hg (3 + (txVa T nn (txSk T nn (txWe T nn w)))) (by omega)) cw_X7_152 qi_X7_once qv_X7_once rfl hm.l0 hm.s0 (dk_at ktX7_readImage_0 17 rfl) rfl rfl (Nat.le_of_ble_eq_true rfl) (by decide) (b := 28) rfl (fun v83 I80 J81 q82 => ?_)
    obtain ⟨rfl, rfl, hF84, hy85, hy86⟩ := q82
    refine r_if_ne (dk_at ktX7_readImage_0 18 rfl) (b := 33) (by decide) (b2 := 31) rfl (fun c28 => ?_) (fun c28 => ?_)
    · have c28 := bi_t c28
      have hk87 : S.gv.testBit (3 + (txVa T nn (txSk T nn (txWe T nn w)))) = false := by simpa using c28
      obtain ⟨hF88, hh89⟩ := hy85 hk87
      refine rc_p (p_bipush (v := 83) (dk_at ktX7_readImage_0 21 rfl) (by decide) (b := 35) rfl) ?_
      refine rc_p (p_bipush (v := 64) (dk_at ktX7_readImage_0 22 rfl) (by decide) (b := 37) rfl) ?_
      refine rc_p (p_iload_n 0 (dk_at ktX7_readImage_0 23 rfl) rfl rfl (b := 38) rfl) ?_
      refine rc_p (p_imul (v := (nI (64 * (txVa T nn (txSk T nn (txWe T nn w)))))) (dk_at ktX7_readImage_0 24 rfl) (pk_mul 64 (txVa T nn (txSk T nn (txWe T nn w)))) (b := 39) rfl) ?_
      refine rc_p (p_iadd (v := (nI (83 + (64 * (txVa T nn (txSk T nn (txWe T nn w))))))) (dk_at ktX7_readImage_0 25 rfl) (nI_add 83 (64 * (txVa T nn (txSk T nn (txWe T nn w))))) (b := 40) rfl) ?_
      refine rc_p (p_istore_n (ls' := [(2, .int (nI (83 + (64 * (txVa T nn (txSk T nn (txWe T nn w))))))), (1, .int (nI (txVa T nn (txSk T nn (txWe T nn w))))), (0, .ref m)]) (dk_at ktX7_readImage_0 26 rfl) rfl (by decide) rfl (b := 41) rfl) ?_
      refine rc_p (p_aload_n 2 (dk_at ktX7_readImage_0 27 rfl) rfl rfl (b := 42) rfl) ?_
      refine rc_p (p_iload_n 0 (dk_at ktX7_readImage_0 28 rfl) rfl rfl (b := 43) rfl) ?_
      refine rc_p (p_iconst (v := 1) (dk_at ktX7_readImage_0 29 rfl) (by decide) (b := 44) rfl) ?_
      refine rc_p (p_sipush (v := 255) (dk_at ktX7_readImage_0 30 rfl) (by decide) (b := 47) rfl) ?_
      refine r_iV (As' := [.int (nI (83 + (64 * (txVa T nn (txSk T nn (txWe T nn w)))))), .int 1, .int 255]) (rest := []) (s_X7_readsInto hm (hT.fr (show FP m I I80 from (((FF.rf.tr (hF63.mo (by simp) (by simp))).tr (hF69.mo (by simp) (by simp))).tr (hF88.mo (by simp) (by simp))))) (((hF88.2 14 (by decide))).trans hh73) (txDe T nn (txSk T nn (txWe T nn w))) (((hF88.2 11 (by decide))).trans hh74) (by omega) hh89 (83 + (64 * (txVa T nn (txSk T nn (txWe T nn w))))) 1 255 (by omega) (by decide) (by decide)) cw_X7_145 qi_X7_readsInto qv_X7_readsInto rfl hm.l0 hm.s0 (dk_at ktX7_readImage_0 31 rfl) rfl rfl (Nat.le_of_ble_eq_true rfl) (by decide) (b := 50) rfl (fun v93 I90 J91 q92 => ?_)
      obtain ⟨rfl, rfl, hF94, hh95, hy96, hy97⟩ := q92
      refine r_if_ne (dk_at ktX7_readImage_0 32 rfl) (b := 55) (by decide) (b2 := 53) rfl (fun c50 => ?_) (fun c50 => ?_)
      · have c50 := bi_t c50
        have hk101 := of_decide_eq_true c50
        obtain ⟨hh98, hh99, hh100⟩ := hy96 hk101
        have hd102 := txDe_le (T := T) (n := nn) (p := txSk T nn (txDe T nn (txSk T nn (txWe T nn w)))) (by omega)
        have hs103 := txSk_le (T := T) (n := nn) (p := txDe T nn (txSk T nn (txDe T nn (txSk T nn (txWe T nn w))))) (by omega)
        have hin104 := txK_in hk101
        refine rc_p (p_iconst (v := 0) (dk_at ktX7_readImage_0 35 rfl) (by decide) (b := 56) rfl) ?_
        refine rc_p (p_istore_n (ls' := [(3, .int 0), (2, .int (nI (83 + (64 * (txVa T nn (txSk T nn (txWe T nn w))))))), (1, .int (nI (txVa T nn (txSk T nn (txWe T nn w))))), (0, .ref m)]) (dk_at ktX7_readImage_0 36 rfl) rfl (by decide) rfl (b := 57) rfl) ?_
        refine rc_sub [0, 1, 3] (ls' := [(3, .int 0), (2, .int (nI (83 + (64 * (txVa T nn (txSk T nn (txWe T nn w))))))), (0, .ref m)]) rfl ?_
        have ho : imageO T nn (txWe T nn w) (tn (S.row 0)) S = imgH T nn (tn (S.row 0)) (txVa T nn (txSk T nn (txWe T nn w))) (S.cl (3 + (txVa T nn (txSk T nn (txWe T nn w))))) (62 - 0) 0 (txDe T nn (txSk T nn (txDe T nn (txSk T nn (txWe T nn w))))) (upd S.row (83 + 64 * (txVa T nn (txSk T nn (txWe T nn w)))) (nI (txVa T nn (txSk T nn (txDe T nn (txSk T nn (txWe T nn w))))))) := ((if_pos hk76).trans ((if_neg (by rw [hk87]; decide)).trans (if_pos hk101))).trans imgH_0.symm
        exact cut57 1000 0 (txDe T nn (txSk T nn (txDe T nn (txSk T nn (txWe T nn w))))) (upd S.row (83 + 64 * (txVa T nn (txSk T nn (txWe T nn w)))) (nI (txVa T nn (txSk T nn (txDe T nn (txSk T nn (txWe T nn w))))))) I90 (show FP m I I90 from ((((FF.rf.tr (hF63.mo (by simp) (by simp))).tr (hF69.mo (by simp) (by simp))).tr (hF88.mo (by simp) (by simp))).tr (hF94.mo (by simp) (by simp)))) hh99 hh98 hh100 ((upd_n (by omega)).trans hw.1) upd_s hk76 hk101 (by omega) (by omega) (by omega) ho
      · have c50 := bi_f c50
        have hk107 := of_decide_eq_false c50
        obtain ⟨hh105, hh106⟩ := hy97 hk107
        refine rc_p (p_iconst (v := 0) (dk_at ktX7_readImage_0 33 rfl) (by decide) (b := 54) rfl) ?_
        refine r_iret (dk_at ktX7_readImage_0 34 rfl) rfl rfl ⟨_, rfl, ?_⟩
        have ho : imageO T nn (txWe T nn w) (tn (S.row 0)) S = _ := (if_pos hk76).trans ((if_neg (by rw [hk87]; decide)).trans (if_neg hk107))
        rw [ho]
        exact ⟨bk_1 hk107, rfl, PQ.bad hk107 (show FP m I I90 from ((((FF.rf.tr (hF63.mo (by simp) (by simp))).tr (hF69.mo (by simp) (by simp))).tr (hF88.mo (by simp) (by simp))).tr (hF94.mo (by simp) (by simp)))) hh105 hh106⟩
    · have c28 := bi_f c28
      have hk108 : S.gv.testBit (3 + (txVa T nn (txSk T nn (txWe T nn w)))) = true := by simpa using c28
      obtain ⟨hh109, hh110⟩ := hy86 hk108
      refine rc_p (p_iconst (v := 0) (dk_at ktX7_readImage_0 19 rfl) (by decide) (b := 32) rfl) ?_
      refine r_iret (dk_at ktX7_readImage_0 20 rfl) rfl rfl ⟨_, rfl, ?_⟩
      have ho : imageO T nn (txWe T nn w) (tn (S.row 0)) S = _ := (if_pos hk76).trans (if_pos hk108)
      rw [ho]
      exact ⟨bk_1 (k := 4) (by decide), rfl, PQ.bad (by decide) (show FP m I I80 from (((FF.rf.tr (hF63.mo (by simp) (by simp))).tr (hF69.mo (by simp) (by simp))).tr (hF84.mo (by simp) (by simp)))) hh109 hh110⟩
  · have c11 := bi_f c11
    have hk113 := of_decide_eq_false c11
    obtain ⟨hh111, hh112⟩ := hy72 hk113
    refine rc_p (p_iconst (v := 0) (dk_at ktX7_readImage_0 8 rfl) (by decide) (b := 15) rfl) ?_
    refine r_iret (dk_at ktX7_readImage_0 9 rfl) rfl rfl ⟨_, rfl, ?_⟩
    have ho : imageO T nn (txWe T nn w) (tn (S.row 0)) S = _ := if_neg hk113
    rw [ho]
    exact ⟨bk_1 hk113, rfl, PQ.bad hk113 (show FP m I I65 from ((FF.rf.tr (hF63.mo (by simp) (by simp))).tr (hF69.mo (by simp) (by simp)))) hh111 hh112⟩
set_option maxRecDepth 4000 in
set_option maxHeartbeats 4000000 in
theorem s_X7_readStatement {n : Nat} {sh : mS} {G : mG} {I : mI} {J : mJ} {m : Nat} {T : tT} {nn : Nat} (hm : ModG n sh G m) (hT : TR m I T nn) (h14 : I m 14 = 0) (p : Nat) (hp : I m 11 = nI p) (hpn : p ≤ nn) {S : PSt} (hS : RS m I S) (hG : GS S)  : Sp yX7_readStatement cX7_readStatement 1 (some FieldType.boolean) 7 336 0 0 [.ref m] n sh G I J (Qi (fun r_ I_ J_ => bi (decide ((stmtO T nn p S).k = 0)) = r_ ∧ J = J_ ∧ PQ m I I_ (stmtO T nn p S))) nX := by
  refine Sp.of (by decide) (ls := [(0, .ref m)]) (fun _ => rfl) (fun _ => Nat.le_of_ble_eq_true rfl) ?_
  have hn := hT.1.1
  have hsk := txSk_le (T := T) hpn
  have hwe := txWe_le (T := T) hsk.2
  have hsk2 := txSk_le (T := T) hwe.2
  have hg := hG.2.2.2.2
  refine rc_p (p_aload_n 0 (dk_at ktX7_readStatement_0 0 rfl) rfl rfl (b := 1) rfl) ?_
  refine r_iV (As' := []) (rest := []) (s_X7_see hm hT p hp (by omega)) cw_X7_109 qi_X7_see qv_X7_see rfl hm.l0 hm.s0 (dk_at ktX7_readStatement_0 1 rfl) rfl rfl (Nat.le_of_ble_eq_true rfl) (by decide) (b := 4) rfl (fun v4 I1 J2 q3 => ?_)
  obtain ⟨rfl, rfl, hF5, hh6, hh7⟩ := q3
  refine rc_p (p_pop (dk_at ktX7_readStatement_0 2 rfl) rfl (b := 5) rfl) ?_
  refine rc_p (p_aload_n 0 (dk_at ktX7_readStatement_0 3 rfl) rfl rfl (b := 6) rfl) ?_
  refine r_ldcS (tx := "image") (i := 1) (List.mem_of_getElem? (i := 7) rfl) (dk_at ktX7_readStatement_0 4 rfl) (b := 8) rfl ?_
  refine r_iV (As' := [.ref (1000 + 1)]) (rest := []) (s_X7_isWord hm (hT.fr (show FP m I I1 from (FF.rf.tr (hF5.mo (by simp) (by simp))))) (txSk T nn p) hh7 (by omega) 1 (by decide)) cw_X7_137 qi_X7_isWord qv_X7_isWord rfl hm.l0 hm.s0 (dk_at ktX7_readStatement_0 5 rfl) rfl rfl (Nat.le_of_ble_eq_true rfl) (by decide) (b := 11) rfl (fun v11 I8 J9 q10 => ?_)
  obtain ⟨rfl, rfl, rfl⟩ := q10
  refine r_if_eq (dk_at ktX7_readStatement_0 6 rfl) (b := 19) (by decide) (b2 := 14) rfl (fun c11 => ?_) (fun c11 => ?_)
  · have c11 := bi_f c11
    refine rc_p (p_aload_n 0 (dk_at ktX7_readStatement_0 10 rfl) rfl rfl (b := 20) rfl) ?_
    refine r_ldcS (tx := "tries") (i := 2) (List.mem_of_getElem? (i := 8) rfl) (dk_at ktX7_readStatement_0 11 rfl) (b := 22) rfl ?_
    refine r_iV (As' := [.ref (1000 + 2)]) (rest := []) (s_X7_isWord hm (hT.fr (show FP m I I1 from (FF.rf.tr (hF5.mo (by simp) (by simp))))) (txSk T nn p) hh7 (by omega) 2 (by decide)) cw_X7_137 qi_X7_isWord qv_X7_isWord rfl hm.l0 hm.s0 (dk_at ktX7_readStatement_0 12 rfl) rfl rfl (Nat.le_of_ble_eq_true rfl) (by decide) (b := 25) rfl (fun v15 I12 J13 q14 => ?_)
    obtain ⟨rfl, rfl, rfl⟩ := q14
    refine r_if_eq (dk_at ktX7_readStatement_0 13 rfl) (b := 59) (by decide) (b2 := 28) rfl (fun c25 => ?_) (fun c25 => ?_)
    · have c25 := bi_f c25
      refine rc_p (p_aload_n 0 (dk_at ktX7_readStatement_0 31 rfl) rfl rfl (b := 60) rfl) ?_
      refine r_ldcS (tx := "life") (i := 3) (List.mem_of_getElem? (i := 9) rfl) (dk_at ktX7_readStatement_0 32 rfl) (b := 62) rfl ?_
      refine r_iV (As' := [.ref (1000 + 3)]) (rest := []) (s_X7_isWord hm (hT.fr (show FP m I I1 from (FF.rf.tr (hF5.mo (by simp) (by simp))))) (txSk T nn p) hh7 (by omega) 3 (by decide)) cw_X7_137 qi_X7_isWord qv_X7_isWord rfl hm.l0 hm.s0 (dk_at ktX7_readStatement_0 33 rfl) rfl rfl (Nat.le_of_ble_eq_true rfl) (by decide) (b := 65) rfl (fun v19 I16 J17 q18 => ?_)
      obtain ⟨rfl, rfl, rfl⟩ := q18
      refine r_if_eq (dk_at ktX7_readStatement_0 34 rfl) (b := 101) (by decide) (b2 := 68) rfl (fun c65 => ?_) (fun c65 => ?_)
      · have c65 := bi_f c65
        refine rc_p (p_aload_n 0 (dk_at ktX7_readStatement_0 52 rfl) rfl rfl (b := 102) rfl) ?_
        refine r_ldcS (tx := "floor") (i := 4) (List.mem_of_getElem? (i := 10) rfl) (dk_at ktX7_readStatement_0 53 rfl) (b := 104) rfl ?_
        refine r_iV (As' := [.ref (1000 + 4)]) (rest := []) (s_X7_isWord hm (hT.fr (show FP m I I1 from (FF.rf.tr (hF5.mo (by simp) (by simp))))) (txSk T nn p) hh7 (by omega) 4 (by decide)) cw_X7_137 qi_X7_isWord qv_X7_isWord rfl hm.l0 hm.s0 (dk_at ktX7_readStatement_0 54 rfl) rfl rfl (Nat.le_of_ble_eq_true rfl) (by decide) (b := 107) rfl (fun v23 I20 J21 q22 => ?_)
        obtain ⟨rfl, rfl, rfl⟩ := q22
        refine r_if_eq (dk_at ktX7_readStatement_0 55 rfl) (b := 148) (by decide) (b2 := 110) rfl (fun c107 => ?_) (fun c107 => ?_)
        · have c107 := bi_f c107
          refine rc_p (p_aload_n 0 (dk_at ktX7_readStatement_1 16 rfl) rfl rfl (b := 149) rfl) ?_
          refine r_ldcS (tx := "good") (i := 5) (List.mem_of_getElem? (i := 11) rfl) (dk_at ktX7_readStatement_1 17 rfl) (b := 151) rfl ?_
          refine r_iV (As' := [.ref (1000 + 5)]) (rest := []) (s_X7_isWord hm (hT.fr (show FP m I I1 from (FF.rf.tr (hF5.mo (by simp) (by simp))))) (txSk T nn p) hh7 (by omega) 5 (by decide)) cw_X7_137 qi_X7_isWord qv_X7_isWord rfl hm.l0 hm.s0 (dk_at ktX7_readStatement_1 18 rfl) rfl rfl (Nat.le_of_ble_eq_true rfl) (by decide) (b := 154) rfl (fun v27 I24 J25 q26 => ?_)
          obtain ⟨rfl, rfl, rfl⟩ := q26
          refine r_if_ne (dk_at ktX7_readStatement_1 19 rfl) (b := 163) (by decide) (b2 := 157) rfl (fun c154 => ?_) (fun c154 => ?_)
          · have c154 := bi_t c154
            refine rc_p (p_aload_n 0 (dk_at ktX7_readStatement_1 24 rfl) rfl rfl (b := 164) rfl) ?_
            refine rc_p (p_iconst (v := 2) (dk_at ktX7_readStatement_1 25 rfl) (by decide) (b := 165) rfl) ?_
            refine r_iV (As' := [.int 2]) (rest := []) (s_X7_once hm (hT.fr (show FP m I I1 from (FF.rf.tr (hF5.mo (by simp) (by simp))))) (((hF5.2 14 (by decide))).trans h14) (txSk T nn p) hh7 (hS.fr (hF5.mo (by simp) (by simp))) hg 2 (by omega)) cw_X7_152 qi_X7_once qv_X7_once rfl hm.l0 hm.s0 (dk_at ktX7_readStatement_1 26 rfl) rfl rfl (Nat.le_of_ble_eq_true rfl) (by decide) (b := 168) rfl (fun v31 I28 J29 q30 => ?_)
            obtain ⟨rfl, rfl, hF32, hy33, hy34⟩ := q30
            refine r_if_eq (dk_at ktX7_readStatement_1 27 rfl) (b := 187) (by decide) (b2 := 171) rfl (fun c168 => ?_) (fun c168 => ?_)
            · have c168 := bi_f c168
              have hk35 : S.gv.testBit 2 = true := by simpa using c168
              obtain ⟨hh36, hh37⟩ := hy34 hk35
              refine rc_p (p_iconst (v := 0) (dk_at ktX7_readStatement_1 36 rfl) (by decide) (b := 188) rfl) ?_
              refine r_iret (dk_at ktX7_readStatement_1 37 rfl) rfl rfl ⟨_, rfl, ?_⟩
              have ho : stmtO T nn p S = _ := (if_neg (by rw [c11]; decide)).trans ((if_neg (by rw [c25]; decide)).trans ((if_neg (by rw [c65]; decide)).trans ((if_neg (by rw [c107]; decide)).trans ((if_pos c154).trans (if_pos hk35)))))
              rw [ho]
              exact ⟨bk_1 (k := 4) (by decide), rfl, PQ.bad (by decide) (show FP m I I28 from ((FF.rf.tr (hF5.mo (by simp) (by simp))).tr (hF32.mo (by simp) (by simp)))) hh36 hh37⟩
            · have c168 := bi_t c168
              have hk38 : S.gv.testBit 2 = false := by simpa using c168
              obtain ⟨hF39, hh40⟩ := hy33 hk38
              refine rc_p (p_aload_n 0 (dk_at ktX7_readStatement_1 28 rfl) rfl rfl (b := 172) rfl) ?_
              refine r_iV (As' := []) (rest := []) (s_X7_passes hm (hT.fr (show FP m I I28 from ((FF.rf.tr (hF5.mo (by simp) (by simp))).tr (hF39.mo (by simp) (by simp))))) (txSk T nn p) (((hF39.2 12 (by decide))).trans hh7) (by omega)) cw_X7_141 qi_X7_passes qv_X7_passes rfl hm.l0 hm.s0 (dk_at ktX7_readStatement_1 29 rfl) rfl rfl (Nat.le_of_ble_eq_true rfl) (by decide) (b := 175) rfl (fun v44 I41 J42 q43 => ?_)
              obtain ⟨rfl, rfl, hF45, hh46⟩ := q43
              refine r_if_eq (dk_at ktX7_readStatement_1 30 rfl) (b := 187) (by decide) (b2 := 178) rfl (fun c175 => ?_) (fun c175 => ?_)
              · first | exact absurd c175 (by decide) | exact absurd (by decide) c175
              · skip
                refine rc_p (p_aload_n 0 (dk_at ktX7_readStatement_1 31 rfl) rfl rfl (b := 179) rfl) ?_
                refine rc_p (p_iconst (v := 0) (dk_at ktX7_readStatement_1 32 rfl) (by decide) (b := 180) rfl) ?_
                refine rc_p (p_iconst (v := 1) (dk_at ktX7_readStatement_1 33 rfl) (by decide) (b := 181) rfl) ?_
                refine r_iV (As' := [.int 0, .int 1]) (rest := []) (s_X7_reads hm (hT.fr (show FP m I I41 from (((FF.rf.tr (hF5.mo (by simp) (by simp))).tr (hF39.mo (by simp) (by simp))).tr (hF45.mo (by simp) (by simp))))) (((hF45.2 14 (by decide))).trans (((hF39.2 14 (by decide))).trans (((hF5.2 14 (by decide))).trans h14))) (txWe T nn (txSk T nn p)) hh46 (by omega) 0 1 (by decide) (by decide)) cw_X7_131 qi_X7_reads qv_X7_reads rfl hm.l0 hm.s0 (dk_at ktX7_readStatement_1 34 rfl) rfl rfl (Nat.le_of_ble_eq_true rfl) (by decide) (b := 184) rfl (fun v50 I47 J48 q49 => ?_)
                obtain ⟨rfl, rfl, hF51, hh52, hy53, hy54⟩ := q49
                refine r_if_ne (dk_at ktX7_readStatement_1 35 rfl) (b := 189) (by decide) (b2 := 187) rfl (fun c184 => ?_) (fun c184 => ?_)
                · have c184 := bi_t c184
                  have hk58 := of_decide_eq_true c184
                  obtain ⟨hh55, hh56, hh57⟩ := hy53 hk58
                  have hd59 := txDe_le (T := T) (n := nn) (p := txSk T nn (txWe T nn (txSk T nn p))) (by omega)
                  have hs60 := txSk_le (T := T) (n := nn) (p := txDe T nn (txSk T nn (txWe T nn (txSk T nn p)))) (by omega)
                  have hin61 := txK_in hk58
                  refine rc_p (p_aload_n 0 (dk_at ktX7_readStatement_1 38 rfl) rfl rfl (b := 190) rfl) ?_
                  refine rc_p (p_aload_n 0 (dk_at ktX7_readStatement_1 39 rfl) rfl rfl (b := 191) rfl) ?_
                  refine r_geti fl_X7_128 rfl hm.l0 hm.s0 (dk_at ktX7_readStatement_1 40 rfl) (v := (nI (txVa T nn (txSk T nn (txWe T nn (txSk T nn p)))))) hh57 (b := 194) rfl ?_
                  refine r_puti fl_X7_29 fw_X7_8 rfl hm.l0 hm.s0 rfl rfl (dk_at ktX7_readStatement_1 41 rfl) (b := 197) rfl ?_
                  refine rc_p (p_iconst (v := 1) (dk_at ktX7_readStatement_1 42 rfl) (by decide) (b := 198) rfl) ?_
                  refine r_iret (dk_at ktX7_readStatement_1 43 rfl) rfl rfl ⟨_, rfl, ?_⟩
                  have ho : stmtO T nn p S = _ := (if_neg (by rw [c11]; decide)).trans ((if_neg (by rw [c25]; decide)).trans ((if_neg (by rw [c65]; decide)).trans ((if_neg (by rw [c107]; decide)).trans ((if_pos c154).trans ((if_neg (by rw [hk38]; decide)).trans (numO_y hk58))))))
                  rw [ho]
                  exact ⟨rfl, rfl, PQ.good (show FP m I (up2 I47 m 8 (nI (txVa T nn (txSk T nn (txWe T nn (txSk T nn p)))))) from (((((FF.rf.tr (hF5.mo (by simp) (by simp))).tr (hF39.mo (by simp) (by simp))).tr (hF45.mo (by simp) (by simp))).tr (hF51.mo (by simp) (by simp))).uf (by simp))) ((up2_n (by omega)).trans hh55) ((up2_n (by omega)).trans hh56) ((hh40.fr (hF45.mo (by simp) (by simp))).fr hF51).sg⟩
                · have c184 := bi_f c184
                  have hk64 := of_decide_eq_false c184
                  obtain ⟨hh62, hh63⟩ := hy54 hk64
                  refine rc_p (p_iconst (v := 0) (dk_at ktX7_readStatement_1 36 rfl) (by decide) (b := 188) rfl) ?_
                  refine r_iret (dk_at ktX7_readStatement_1 37 rfl) rfl rfl ⟨_, rfl, ?_⟩
                  have ho : stmtO T nn p S = _ := (if_neg (by rw [c11]; decide)).trans ((if_neg (by rw [c25]; decide)).trans ((if_neg (by rw [c65]; decide)).trans ((if_neg (by rw [c107]; decide)).trans ((if_pos c154).trans ((if_neg (by rw [hk38]; decide)).trans (numO_n hk64))))))
                  rw [ho]
                  exact ⟨bk_1 hk64, rfl, PQ.bad hk64 (show FP m I I47 from ((((FF.rf.tr (hF5.mo (by simp) (by simp))).tr (hF39.mo (by simp) (by simp))).tr (hF45.mo (by simp) (by simp))).tr (hF51.mo (by simp) (by simp)))) hh62 hh63⟩
          · have c154 := bi_f c154
            refine rc_p (p_aload_n 0 (dk_at ktX7_readStatement_1 20 rfl) rfl rfl (b := 158) rfl) ?_
            refine rc_p (p_iconst (v := 1) (dk_at ktX7_readStatement_1 21 rfl) (by decide) (b := 159) rfl) ?_
            refine r_iV (As' := [.int 1]) (rest := []) (s_X7_fails hm (hT.fr (show FP m I I1 from (FF.rf.tr (hF5.mo (by simp) (by simp))))) (((hF5.2 14 (by decide))).trans h14) (txSk T nn p) hh7 1) cw_X7_115 qi_X7_fails qv_X7_fails rfl hm.l0 hm.s0 (dk_at ktX7_readStatement_1 22 rfl) rfl rfl (Nat.le_of_ble_eq_true rfl) (by decide) (b := 162) rfl (fun v68 I65 J66 q67 => ?_)
            obtain ⟨rfl, rfl, hF69, hh70, hh71⟩ := q67
            refine r_iret (dk_at ktX7_readStatement_1 23 rfl) rfl rfl ⟨_, rfl, ?_⟩
            have ho : stmtO T nn p S = _ := (if_neg (by rw [c11]; decide)).trans ((if_neg (by rw [c25]; decide)).trans ((if_neg (by rw [c65]; decide)).trans ((if_neg (by rw [c107]; decide)).trans (if_neg (by rw [c154]; decide)))))
            rw [ho]
            exact ⟨bk_1 (k := 1) (by decide), rfl, PQ.bad (by decide) (show FP m I I65 from ((FF.rf.tr (hF5.mo (by simp) (by simp))).tr (hF69.mo (by simp) (by simp)))) hh70 hh71⟩
        · have c107 := bi_t c107
          refine rc_p (p_aload_n 0 (dk_at ktX7_readStatement_0 56 rfl) rfl rfl (b := 111) rfl) ?_
          refine rc_p (p_iconst (v := 1) (dk_at ktX7_readStatement_0 57 rfl) (by decide) (b := 112) rfl) ?_
          refine r_iV (As' := [.int 1]) (rest := []) (s_X7_once hm (hT.fr (show FP m I I1 from (FF.rf.tr (hF5.mo (by simp) (by simp))))) (((hF5.2 14 (by decide))).trans h14) (txSk T nn p) hh7 (hS.fr (hF5.mo (by simp) (by simp))) hg 1 (by omega)) cw_X7_152 qi_X7_once qv_X7_once rfl hm.l0 hm.s0 (dk_at ktX7_readStatement_0 58 rfl) rfl rfl (Nat.le_of_ble_eq_true rfl) (by decide) (b := 115) rfl (fun v75 I72 J73 q74 => ?_)
          obtain ⟨rfl, rfl, hF76, hy77, hy78⟩ := q74
          refine r_if_eq (dk_at ktX7_readStatement_0 59 rfl) (b := 136) (by decide) (b2 := 118) rfl (fun c115 => ?_) (fun c115 => ?_)
          · have c115 := bi_f c115
            have hk79 : S.gv.testBit 1 = true := by simpa using c115
            obtain ⟨hh80, hh81⟩ := hy78 hk79
            refine rc_p (p_iconst (v := 0) (dk_at ktX7_readStatement_1 8 rfl) (by decide) (b := 137) rfl) ?_
            refine r_iret (dk_at ktX7_readStatement_1 9 rfl) rfl rfl ⟨_, rfl, ?_⟩
            have ho : stmtO T nn p S = _ := (if_neg (by rw [c11]; decide)).trans ((if_neg (by rw [c25]; decide)).trans ((if_neg (by rw [c65]; decide)).trans ((if_pos c107).trans (if_pos hk79))))
            rw [ho]
            exact ⟨bk_1 (k := 4) (by decide), rfl, PQ.bad (by decide) (show FP m I I72 from ((FF.rf.tr (hF5.mo (by simp) (by simp))).tr (hF76.mo (by simp) (by simp)))) hh80 hh81⟩
          · have c115 := bi_t c115
            have hk82 : S.gv.testBit 1 = false := by simpa using c115
            obtain ⟨hF83, hh84⟩ := hy77 hk82
            refine rc_p (p_aload_n 0 (dk_at ktX7_readStatement_1 0 rfl) rfl rfl (b := 119) rfl) ?_
            refine r_iV (As' := []) (rest := []) (s_X7_passes hm (hT.fr (show FP m I I72 from ((FF.rf.tr (hF5.mo (by simp) (by simp))).tr (hF83.mo (by simp) (by simp))))) (txSk T nn p) (((hF83.2 12 (by decide))).trans hh7) (by omega)) cw_X7_141 qi_X7_passes qv_X7_passes rfl hm.l0 hm.s0 (dk_at ktX7_readStatement_1 1 rfl) rfl rfl (Nat.le_of_ble_eq_true rfl) (by decide) (b := 122) rfl (fun v88 I85 J86 q87 => ?_)
            obtain ⟨rfl, rfl, hF89, hh90⟩ := q87
            refine r_if_eq (dk_at ktX7_readStatement_1 2 rfl) (b := 136) (by decide) (b2 := 125) rfl (fun c122 => ?_) (fun c122 => ?_)
            · first | exact absurd c122 (by decide) | exact absurd (by decide) c122
            · skip
              refine rc_p (p_aload_n 0 (dk_at ktX7_readStatement_1 3 rfl) rfl rfl (b := 126) rfl) ?_
              refine rc_p (p_iconst (v := 0) (dk_at ktX7_readStatement_1 4 rfl) (by decide) (b := 127) rfl) ?_
              refine rc_p (p_sipush (v := 255) (dk_at ktX7_readStatement_1 5 rfl) (by decide) (b := 130) rfl) ?_
              refine r_iV (As' := [.int 0, .int 255]) (rest := []) (s_X7_reads hm (hT.fr (show FP m I I85 from (((FF.rf.tr (hF5.mo (by simp) (by simp))).tr (hF83.mo (by simp) (by simp))).tr (hF89.mo (by simp) (by simp))))) (((hF89.2 14 (by decide))).trans (((hF83.2 14 (by decide))).trans (((hF5.2 14 (by decide))).trans h14))) (txWe T nn (txSk T nn p)) hh90 (by omega) 0 255 (by decide) (by decide)) cw_X7_131 qi_X7_reads qv_X7_reads rfl hm.l0 hm.s0 (dk_at ktX7_readStatement_1 6 rfl) rfl rfl (Nat.le_of_ble_eq_true rfl) (by decide) (b := 133) rfl (fun v94 I91 J92 q93 => ?_)
              obtain ⟨rfl, rfl, hF95, hh96, hy97, hy98⟩ := q93
              refine r_if_ne (dk_at ktX7_readStatement_1 7 rfl) (b := 138) (by decide) (b2 := 136) rfl (fun c133 => ?_) (fun c133 => ?_)
              · have c133 := bi_t c133
                have hk102 := of_decide_eq_true c133
                obtain ⟨hh99, hh100, hh101⟩ := hy97 hk102
                have hd103 := txDe_le (T := T) (n := nn) (p := txSk T nn (txWe T nn (txSk T nn p))) (by omega)
                have hs104 := txSk_le (T := T) (n := nn) (p := txDe T nn (txSk T nn (txWe T nn (txSk T nn p)))) (by omega)
                have hin105 := txK_in hk102
                refine rc_p (p_aload_n 0 (dk_at ktX7_readStatement_1 10 rfl) rfl rfl (b := 139) rfl) ?_
                refine rc_p (p_aload_n 0 (dk_at ktX7_readStatement_1 11 rfl) rfl rfl (b := 140) rfl) ?_
                refine r_geti fl_X7_128 rfl hm.l0 hm.s0 (dk_at ktX7_readStatement_1 12 rfl) (v := (nI (txVa T nn (txSk T nn (txWe T nn (txSk T nn p)))))) hh101 (b := 143) rfl ?_
                refine r_puti fl_X7_54 fw_X7_7 rfl hm.l0 hm.s0 rfl rfl (dk_at ktX7_readStatement_1 13 rfl) (b := 146) rfl ?_
                refine rc_p (p_iconst (v := 1) (dk_at ktX7_readStatement_1 14 rfl) (by decide) (b := 147) rfl) ?_
                refine r_iret (dk_at ktX7_readStatement_1 15 rfl) rfl rfl ⟨_, rfl, ?_⟩
                have ho : stmtO T nn p S = _ := (if_neg (by rw [c11]; decide)).trans ((if_neg (by rw [c25]; decide)).trans ((if_neg (by rw [c65]; decide)).trans ((if_pos c107).trans ((if_neg (by rw [hk82]; decide)).trans (numO_y hk102)))))
                rw [ho]
                exact ⟨rfl, rfl, PQ.good (show FP m I (up2 I91 m 7 (nI (txVa T nn (txSk T nn (txWe T nn (txSk T nn p)))))) from (((((FF.rf.tr (hF5.mo (by simp) (by simp))).tr (hF83.mo (by simp) (by simp))).tr (hF89.mo (by simp) (by simp))).tr (hF95.mo (by simp) (by simp))).uf (by simp))) ((up2_n (by omega)).trans hh99) ((up2_n (by omega)).trans hh100) ((hh84.fr (hF89.mo (by simp) (by simp))).fr hF95).sf⟩
              · have c133 := bi_f c133
                have hk108 := of_decide_eq_false c133
                obtain ⟨hh106, hh107⟩ := hy98 hk108
                refine rc_p (p_iconst (v := 0) (dk_at ktX7_readStatement_1 8 rfl) (by decide) (b := 137) rfl) ?_
                refine r_iret (dk_at ktX7_readStatement_1 9 rfl) rfl rfl ⟨_, rfl, ?_⟩
                have ho : stmtO T nn p S = _ := (if_neg (by rw [c11]; decide)).trans ((if_neg (by rw [c25]; decide)).trans ((if_neg (by rw [c65]; decide)).trans ((if_pos c107).trans ((if_neg (by rw [hk82]; decide)).trans (numO_n hk108)))))
                rw [ho]
                exact ⟨bk_1 hk108, rfl, PQ.bad hk108 (show FP m I I91 from ((((FF.rf.tr (hF5.mo (by simp) (by simp))).tr (hF83.mo (by simp) (by simp))).tr (hF89.mo (by simp) (by simp))).tr (hF95.mo (by simp) (by simp)))) hh106 hh107⟩
      · have c65 := bi_t c65
        refine rc_p (p_aload_n 0 (dk_at ktX7_readStatement_0 35 rfl) rfl rfl (b := 69) rfl) ?_
        refine rc_p (p_iconst (v := 5) (dk_at ktX7_readStatement_0 36 rfl) (by decide) (b := 70) rfl) ?_
        refine r_iV (As' := [.int 5]) (rest := []) (s_X7_once hm (hT.fr (show FP m I I1 from (FF.rf.tr (hF5.mo (by simp) (by simp))))) (((hF5.2 14 (by decide))).trans h14) (txSk T nn p) hh7 (hS.fr (hF5.mo (by simp) (by simp))) hg 5 (by omega)) cw_X7_152 qi_X7_once qv_X7_once rfl hm.l0 hm.s0 (dk_at ktX7_readStatement_0 37 rfl) rfl rfl (Nat.le_of_ble_eq_true rfl) (by decide) (b := 73) rfl (fun v112 I109 J110 q111 => ?_)
        obtain ⟨rfl, rfl, hF113, hy114, hy115⟩ := q111
        refine r_if_eq (dk_at ktX7_readStatement_0 38 rfl) (b := 99) (by decide) (b2 := 76) rfl (fun c73 => ?_) (fun c73 => ?_)
        · have c73 := bi_f c73
          have hk116 : S.gv.testBit 5 = true := by simpa using c73
          obtain ⟨hh117, hh118⟩ := hy115 hk116
          refine rc_p (p_iconst (v := 0) (dk_at ktX7_readStatement_0 50 rfl) (by decide) (b := 100) rfl) ?_
          refine r_iret (dk_at ktX7_readStatement_0 51 rfl) rfl rfl ⟨_, rfl, ?_⟩
          have ho : stmtO T nn p S = _ := (if_neg (by rw [c11]; decide)).trans ((if_neg (by rw [c25]; decide)).trans ((if_pos c65).trans (if_pos hk116)))
          rw [ho]
          exact ⟨bk_1 (k := 4) (by decide), rfl, PQ.bad (by decide) (show FP m I I109 from ((FF.rf.tr (hF5.mo (by simp) (by simp))).tr (hF113.mo (by simp) (by simp)))) hh117 hh118⟩
        · have c73 := bi_t c73
          have hk119 : S.gv.testBit 5 = false := by simpa using c73
          obtain ⟨hF120, hh121⟩ := hy114 hk119
          refine rc_p (p_aload_n 0 (dk_at ktX7_readStatement_0 39 rfl) rfl rfl (b := 77) rfl) ?_
          refine r_iV (As' := []) (rest := []) (s_X7_passes hm (hT.fr (show FP m I I109 from ((FF.rf.tr (hF5.mo (by simp) (by simp))).tr (hF120.mo (by simp) (by simp))))) (txSk T nn p) (((hF120.2 12 (by decide))).trans hh7) (by omega)) cw_X7_141 qi_X7_passes qv_X7_passes rfl hm.l0 hm.s0 (dk_at ktX7_readStatement_0 40 rfl) rfl rfl (Nat.le_of_ble_eq_true rfl) (by decide) (b := 80) rfl (fun v125 I122 J123 q124 => ?_)
          obtain ⟨rfl, rfl, hF126, hh127⟩ := q124
          refine r_if_eq (dk_at ktX7_readStatement_0 41 rfl) (b := 99) (by decide) (b2 := 83) rfl (fun c80 => ?_) (fun c80 => ?_)
          · first | exact absurd c80 (by decide) | exact absurd (by decide) c80
          · skip
            refine rc_p (p_aload_n 0 (dk_at ktX7_readStatement_0 42 rfl) rfl rfl (b := 84) rfl) ?_
            refine rc_p (p_iconst (v := 5) (dk_at ktX7_readStatement_0 43 rfl) (by decide) (b := 85) rfl) ?_
            refine rc_p (p_iconst (v := 0) (dk_at ktX7_readStatement_0 44 rfl) (by decide) (b := 86) rfl) ?_
            refine rc_p (p_sipush (v := 1000) (dk_at ktX7_readStatement_0 45 rfl) (by decide) (b := 89) rfl) ?_
            refine r_iV (As' := [.int 5, .int 0, .int 1000]) (rest := []) (s_X7_readsInto hm (hT.fr (show FP m I I122 from (((FF.rf.tr (hF5.mo (by simp) (by simp))).tr (hF120.mo (by simp) (by simp))).tr (hF126.mo (by simp) (by simp))))) (((hF126.2 14 (by decide))).trans (((hF120.2 14 (by decide))).trans (((hF5.2 14 (by decide))).trans h14))) (txWe T nn (txSk T nn p)) hh127 (by omega) (hh121.fr (hF126.mo (by simp) (by simp))) 5 0 1000 (by omega) (by decide) (by decide)) cw_X7_145 qi_X7_readsInto qv_X7_readsInto rfl hm.l0 hm.s0 (dk_at ktX7_readStatement_0 46 rfl) rfl rfl (Nat.le_of_ble_eq_true rfl) (by decide) (b := 92) rfl (fun v131 I128 J129 q130 => ?_)
            obtain ⟨rfl, rfl, hF132, hh133, hy134, hy135⟩ := q130
            refine r_if_eq (dk_at ktX7_readStatement_0 47 rfl) (b := 99) (by decide) (b2 := 95) rfl (fun c92 => ?_) (fun c92 => ?_)
            · have c92 := bi_f c92
              have hk138 := of_decide_eq_false c92
              obtain ⟨hh136, hh137⟩ := hy135 hk138
              refine rc_p (p_iconst (v := 0) (dk_at ktX7_readStatement_0 50 rfl) (by decide) (b := 100) rfl) ?_
              refine r_iret (dk_at ktX7_readStatement_0 51 rfl) rfl rfl ⟨_, rfl, ?_⟩
              have ho : stmtO T nn p S = _ := (if_neg (by rw [c11]; decide)).trans ((if_neg (by rw [c25]; decide)).trans ((if_pos c65).trans ((if_neg (by rw [hk119]; decide)).trans (numO_n hk138))))
              rw [ho]
              exact ⟨bk_1 hk138, rfl, PQ.bad hk138 (show FP m I I128 from ((((FF.rf.tr (hF5.mo (by simp) (by simp))).tr (hF120.mo (by simp) (by simp))).tr (hF126.mo (by simp) (by simp))).tr (hF132.mo (by simp) (by simp)))) hh136 hh137⟩
            · have c92 := bi_t c92
              have hk142 := of_decide_eq_true c92
              obtain ⟨hh139, hh140, hh141⟩ := hy134 hk142
              have hd143 := txDe_le (T := T) (n := nn) (p := txSk T nn (txWe T nn (txSk T nn p))) (by omega)
              have hs144 := txSk_le (T := T) (n := nn) (p := txDe T nn (txSk T nn (txWe T nn (txSk T nn p)))) (by omega)
              have hin145 := txK_in hk142
              refine rc_p (p_iconst (v := 1) (dk_at ktX7_readStatement_0 48 rfl) (by decide) (b := 96) rfl) ?_
              refine rc_p (p_goto (b := 100) (dk_at ktX7_readStatement_0 49 rfl) (by decide)) ?_
              refine r_iret (dk_at ktX7_readStatement_0 51 rfl) rfl rfl ⟨_, rfl, ?_⟩
              have ho : stmtO T nn p S = _ := (if_neg (by rw [c11]; decide)).trans ((if_neg (by rw [c25]; decide)).trans ((if_pos c65).trans ((if_neg (by rw [hk119]; decide)).trans (numO_y hk142))))
              rw [ho]
              exact ⟨rfl, rfl, PQ.good (show FP m I I128 from ((((FF.rf.tr (hF5.mo (by simp) (by simp))).tr (hF120.mo (by simp) (by simp))).tr (hF126.mo (by simp) (by simp))).tr (hF132.mo (by simp) (by simp)))) hh139 hh140 hh141⟩
    · have c25 := bi_t c25
      refine rc_p (p_aload_n 0 (dk_at ktX7_readStatement_0 14 rfl) rfl rfl (b := 29) rfl) ?_
      refine rc_p (p_iconst (v := 0) (dk_at ktX7_readStatement_0 15 rfl) (by decide) (b := 30) rfl) ?_
      refine r_iV (As' := [.int 0]) (rest := []) (s_X7_once hm (hT.fr (show FP m I I1 from (FF.rf.tr (hF5.mo (by simp) (by simp))))) (((hF5.2 14 (by decide))).trans h14) (txSk T nn p) hh7 (hS.fr (hF5.mo (by simp) (by simp))) hg 0 (by omega)) cw_X7_152 qi_X7_once qv_X7_once rfl hm.l0 hm.s0 (dk_at ktX7_readStatement_0 16 rfl) rfl rfl (Nat.le_of_ble_eq_true rfl) (by decide) (b := 33) rfl (fun v149 I146 J147 q148 => ?_)
      obtain ⟨rfl, rfl, hF150, hy151, hy152⟩ := q148
      refine r_if_eq (dk_at ktX7_readStatement_0 17 rfl) (b := 57) (by decide) (b2 := 36) rfl (fun c33 => ?_) (fun c33 => ?_)
      · have c33 := bi_f c33
        have hk153 : S.gv.testBit 0 = true := by simpa using c33
        obtain ⟨hh154, hh155⟩ := hy152 hk153
        refine rc_p (p_iconst (v := 0) (dk_at ktX7_readStatement_0 29 rfl) (by decide) (b := 58) rfl) ?_
        refine r_iret (dk_at ktX7_readStatement_0 30 rfl) rfl rfl ⟨_, rfl, ?_⟩
        have ho : stmtO T nn p S = _ := (if_neg (by rw [c11]; decide)).trans ((if_pos c25).trans (if_pos hk153))
        rw [ho]
        exact ⟨bk_1 (k := 4) (by decide), rfl, PQ.bad (by decide) (show FP m I I146 from ((FF.rf.tr (hF5.mo (by simp) (by simp))).tr (hF150.mo (by simp) (by simp)))) hh154 hh155⟩
      · have c33 := bi_t c33
        have hk156 : S.gv.testBit 0 = false := by simpa using c33
        obtain ⟨hF157, hh158⟩ := hy151 hk156
        refine rc_p (p_aload_n 0 (dk_at ktX7_readStatement_0 18 rfl) rfl rfl (b := 37) rfl) ?_
        refine r_iV (As' := []) (rest := []) (s_X7_passes hm (hT.fr (show FP m I I146 from ((FF.rf.tr (hF5.mo (by simp) (by simp))).tr (hF157.mo (by simp) (by simp))))) (txSk T nn p) (((hF157.2 12 (by decide))).trans hh7) (by omega)) cw_X7_141 qi_X7_passes qv_X7_passes rfl hm.l0 hm.s0 (dk_at ktX7_readStatement_0 19 rfl) rfl rfl (Nat.le_of_ble_eq_true rfl) (by decide) (b := 40) rfl (fun v162 I159 J160 q161 => ?_)
        obtain ⟨rfl, rfl, hF163, hh164⟩ := q161
        refine r_if_eq (dk_at ktX7_readStatement_0 20 rfl) (b := 57) (by decide) (b2 := 43) rfl (fun c40 => ?_) (fun c40 => ?_)
        · first | exact absurd c40 (by decide) | exact absurd (by decide) c40
        · skip
          refine rc_p (p_aload_n 0 (dk_at ktX7_readStatement_0 21 rfl) rfl rfl (b := 44) rfl) ?_
          refine rc_p (p_iconst (v := 3) (dk_at ktX7_readStatement_0 22 rfl) (by decide) (b := 45) rfl) ?_
          refine rc_p (p_iconst (v := 1) (dk_at ktX7_readStatement_0 23 rfl) (by decide) (b := 46) rfl) ?_
          refine rc_p (p_iconst (v := 3) (dk_at ktX7_readStatement_0 24 rfl) (by decide) (b := 47) rfl) ?_
          refine r_iV (As' := [.int 3, .int 1, .int 3]) (rest := []) (s_X7_readsInto hm (hT.fr (show FP m I I159 from (((FF.rf.tr (hF5.mo (by simp) (by simp))).tr (hF157.mo (by simp) (by simp))).tr (hF163.mo (by simp) (by simp))))) (((hF163.2 14 (by decide))).trans (((hF157.2 14 (by decide))).trans (((hF5.2 14 (by decide))).trans h14))) (txWe T nn (txSk T nn p)) hh164 (by omega) (hh158.fr (hF163.mo (by simp) (by simp))) 3 1 3 (by omega) (by decide) (by decide)) cw_X7_145 qi_X7_readsInto qv_X7_readsInto rfl hm.l0 hm.s0 (dk_at ktX7_readStatement_0 25 rfl) rfl rfl (Nat.le_of_ble_eq_true rfl) (by decide) (b := 50) rfl (fun v168 I165 J166 q167 => ?_)
          obtain ⟨rfl, rfl, hF169, hh170, hy171, hy172⟩ := q167
          refine r_if_eq (dk_at ktX7_readStatement_0 26 rfl) (b := 57) (by decide) (b2 := 53) rfl (fun c50 => ?_) (fun c50 => ?_)
          · have c50 := bi_f c50
            have hk175 := of_decide_eq_false c50
            obtain ⟨hh173, hh174⟩ := hy172 hk175
            refine rc_p (p_iconst (v := 0) (dk_at ktX7_readStatement_0 29 rfl) (by decide) (b := 58) rfl) ?_
            refine r_iret (dk_at ktX7_readStatement_0 30 rfl) rfl rfl ⟨_, rfl, ?_⟩
            have ho : stmtO T nn p S = _ := (if_neg (by rw [c11]; decide)).trans ((if_pos c25).trans ((if_neg (by rw [hk156]; decide)).trans (numO_n hk175)))
            rw [ho]
            exact ⟨bk_1 hk175, rfl, PQ.bad hk175 (show FP m I I165 from ((((FF.rf.tr (hF5.mo (by simp) (by simp))).tr (hF157.mo (by simp) (by simp))).tr (hF163.mo (by simp) (by simp))).tr (hF169.mo (by simp) (by simp)))) hh173 hh174⟩
          · have c50 := bi_t c50
            have hk179 := of_decide_eq_true c50
            obtain ⟨hh176, hh177, hh178⟩ := hy171 hk179
            have hd180 := txDe_le (T := T) (n := nn) (p := txSk T nn (txWe T nn (txSk T nn p))) (by omega)
            have hs181 := txSk_le (T := T) (n := nn) (p := txDe T nn (txSk T nn (txWe T nn (txSk T nn p)))) (by omega)
            have hin182 := txK_in hk179
            refine rc_p (p_iconst (v := 1) (dk_at ktX7_readStatement_0 27 rfl) (by decide) (b := 54) rfl) ?_
            refine rc_p (p_goto (b := 58) (dk_at ktX7_readStatement_0 28 rfl) (by decide)) ?_
            refine r_iret (dk_at ktX7_readStatement_0 30 rfl) rfl rfl ⟨_, rfl, ?_⟩
            have ho : stmtO T nn p S = _ := (if_neg (by rw [c11]; decide)).trans ((if_pos c25).trans ((if_neg (by rw [hk156]; decide)).trans (numO_y hk179)))
            rw [ho]
            exact ⟨rfl, rfl, PQ.good (show FP m I I165 from ((((FF.rf.tr (hF5.mo (by simp) (by simp))).tr (hF157.mo (by simp) (by simp))).tr (hF163.mo (by simp) (by simp))).tr (hF169.mo (by simp) (by simp)))) hh176 hh177 hh178⟩
  · have c11 := bi_t c11
    refine rc_p (p_aload_n 0 (dk_at ktX7_readStatement_0 7 rfl) rfl rfl (b := 15) rfl) ?_
    refine r_iV (As' := []) (rest := []) (s_X7_readImage hm (hT.fr (show FP m I I1 from (FF.rf.tr (hF5.mo (by simp) (by simp))))) (((hF5.2 14 (by decide))).trans h14) (txSk T nn p) hh7 (by omega) (hS.fr (hF5.mo (by simp) (by simp))) hG) cw_X7_161 qi_X7_readImage qv_X7_readImage rfl hm.l0 hm.s0 (dk_at ktX7_readStatement_0 8 rfl) rfl rfl (Nat.le_of_ble_eq_true rfl) (by decide) (b := 18) rfl (fun v186 I183 J184 q185 => ?_)
    obtain ⟨rfl, rfl, hF187, hy188, hy189⟩ := q185
    refine r_iret (dk_at ktX7_readStatement_0 9 rfl) rfl (bi_nar (decide ((imageO T nn (txWe T nn (txSk T nn p)) (tn (S.row 0)) S).k = 0))) ⟨_, rfl, ?_⟩
    have ho : stmtO T nn p S = imageO T nn (txWe T nn (txSk T nn p)) (tn (S.row 0)) S := if_pos c11
    rw [ho]
    exact ⟨rfl, rfl, PQ.tr (show FP m I I1 from (FF.rf.tr (hF5.mo (by simp) (by simp)))) ⟨hF187, hy188, hy189⟩⟩
set_option maxRecDepth 4000 in
set_option maxHeartbeats 4000000 in
theorem s_X7_readsAll {n : Nat} {sh : mS} {G : mG} {I : mI} {J : mJ} {m : Nat} {T : tT} {nn : Nat} (hm : ModG n sh G m) (hT : TR m I T nn) (h14 : I m 14 = 0) (hp : I m 11 = nI 0) (hS : RS m I S0)  : Sp yX7_readsAll cX7_readsAll 1 (some FieldType.boolean) 8 384 0 0 [.ref m] n sh G I J (Qi (fun r_ I_ J_ => bi (decide ((parseO T nn).k = 0)) = r_ ∧ J = J_ ∧ PQ m I I_ (parseO T nn))) nX := by
  refine Sp.of (by decide) (ls := [(0, .ref m)]) (fun _ => rfl) (fun _ => Nat.le_of_ble_eq_true rfl) ?_
  have hn := hT.1.1
  have cut9 : ∀ (t z : Nat) (S : PSt) (Iz : mI), FP m I Iz → Iz m 11 = nI z → Iz m 14 = 0 → RS m Iz S → GS S → z ≤ nn → nn - z < t → parseO T nn = allF T nn t z S → Rc RX7 cX7_readsAll 1 (some FieldType.boolean) 8 384 0 0 n sh G (Qi (fun r_ I_ J_ => bi (decide ((parseO T nn).k = 0)) = r_ ∧ J = J_ ∧ PQ m I I_ (parseO T nn))) nX 0 0 9 [(0, .ref m)] [] Iz J := by
    intro t
    induction t
    · intro z S Iz _ _ _ _ _ _ h; omega
    rename_i t ih
    intro z S Iz hFz hz h14 hRz hG hzn ht hx
    have hsz := txSk_le (T := T) hzn
    have hsz2 := txSk_2 hT.1 hzn
    refine rc_p (p_aload_n 0 (dk_at ktX7_readsAll_0 5 rfl) rfl rfl (b := 10) rfl) ?_
    refine r_iV (As' := []) (rest := []) (s_X7_see hm (hT.fr (show FP m I Iz from (hFz.mo (by simp) (by simp)))) z hz (by omega)) cw_X7_109 qi_X7_see qv_X7_see rfl hm.l0 hm.s0 (dk_at ktX7_readsAll_0 6 rfl) rfl rfl (Nat.le_of_ble_eq_true rfl) (by decide) (b := 13) rfl (fun v4 I1 J2 q3 => ?_)
    obtain ⟨rfl, rfl, hF5, hh6, hh7⟩ := q3
    refine rc_p (p_bipush (v := 59) (dk_at ktX7_readsAll_0 7 rfl) (by decide) (b := 15) rfl) ?_
    refine r_icmp_ne (dk_at ktX7_readsAll_0 8 rfl) (b := 37) (by decide) (b2 := 18) rfl (fun c15 => ?_) (fun c15 => ?_)
    · skip
      have h59 : ¬ T (txSk T nn z) = 59 := fun g => c15 ((bA_e (c := 59) hT.1 (by decide) (by decide)).mpr g)
      refine rc_p (p_aload_n 0 (dk_at ktX7_readsAll_0 20 rfl) rfl rfl (b := 38) rfl) ?_
      refine r_iV (As' := []) (rest := []) (s_X7_see hm (hT.fr (show FP m I I1 from ((hFz.mo (by simp) (by simp)).tr (hF5.mo (by simp) (by simp))))) (txSk T nn z) hh6 (by omega)) cw_X7_109 qi_X7_see qv_X7_see rfl hm.l0 hm.s0 (dk_at ktX7_readsAll_0 21 rfl) rfl rfl (Nat.le_of_ble_eq_true rfl) (by decide) (b := 41) rfl (fun v11 I8 J9 q10 => ?_)
      obtain ⟨rfl, rfl, hF12, hh13, hh14⟩ := q10
      refine rc_p (p_iconst (v := (-1)) (dk_at ktX7_readsAll_0 22 rfl) (by decide) (b := 42) rfl) ?_
      refine r_icmp_eq (dk_at ktX7_readsAll_0 23 rfl) (b := 53) (by decide) (b2 := 45) rfl (fun c42 => ?_) (fun c42 => ?_)
      · skip
        refine rc_p (p_iconst (v := 1) (dk_at ktX7_readsAll_0 28 rfl) (by decide) (b := 54) rfl) ?_
        refine rc_p (p_goto (b := 58) (dk_at ktX7_readsAll_0 29 rfl) (by decide)) ?_
        refine r_iret (dk_at ktX7_readsAll_0 31 rfl) rfl rfl ⟨_, rfl, ?_⟩
        have h0 : T (txSk T nn z) = 0 := (congrArg T (txSk_2 hT.1 hzn)).symm.trans ((bA_0 hT.1).mp c42)
        rw [hx.trans (allF_0 h0)]
        exact ⟨rfl, rfl, PQ.good (show FP m I I8 from (((hFz.mo (by simp) (by simp)).tr (hF5.mo (by simp) (by simp))).tr (hF12.mo (by simp) (by simp)))) (((hF12.2 14 (by decide))).trans (((hF5.2 14 (by decide))).trans h14)) (hh13.trans (congrArg nI (txSk_2 hT.1 hzn))) ((hRz.fr (hF5.mo (by simp) (by simp))).fr (hF12.mo (by simp) (by simp)))⟩
      · skip
        refine rc_p (p_aload_n 0 (dk_at ktX7_readsAll_0 24 rfl) rfl rfl (b := 46) rfl) ?_
        refine rc_p (p_iconst (v := 1) (dk_at ktX7_readsAll_0 25 rfl) (by decide) (b := 47) rfl) ?_
        refine r_iV (As' := [.int 1]) (rest := []) (s_X7_fails hm (hT.fr (show FP m I I8 from (((hFz.mo (by simp) (by simp)).tr (hF5.mo (by simp) (by simp))).tr (hF12.mo (by simp) (by simp))))) (((hF12.2 14 (by decide))).trans (((hF5.2 14 (by decide))).trans h14)) (txSk T nn (txSk T nn z)) hh14 1) cw_X7_115 qi_X7_fails qv_X7_fails rfl hm.l0 hm.s0 (dk_at ktX7_readsAll_0 26 rfl) rfl rfl (Nat.le_of_ble_eq_true rfl) (by decide) (b := 50) rfl (fun v18 I15 J16 q17 => ?_)
        obtain ⟨rfl, rfl, hF19, hh20, hh21⟩ := q17
        refine r_if_eq (dk_at ktX7_readsAll_0 27 rfl) (b := 57) (by decide) (b2 := 53) rfl (fun c50 => ?_) (fun c50 => ?_)
        · skip
          refine rc_p (p_iconst (v := 0) (dk_at ktX7_readsAll_0 30 rfl) (by decide) (b := 58) rfl) ?_
          refine r_iret (dk_at ktX7_readsAll_0 31 rfl) rfl rfl ⟨_, rfl, ?_⟩
          have h0 : ¬ T (txSk T nn z) = 0 := fun g => c42 ((bA_0 hT.1).mpr ((congrArg T (txSk_2 hT.1 hzn)).trans g))
          rw [hx.trans (allF_n h59 h0)]
          exact ⟨bk_1 (k := 1) (by decide), rfl, PQ.bad (by decide) (show FP m I I15 from ((((hFz.mo (by simp) (by simp)).tr (hF5.mo (by simp) (by simp))).tr (hF12.mo (by simp) (by simp))).tr (hF19.mo (by simp) (by simp)))) hh20 (hh21.trans (congrArg nI (txSk_2 hT.1 hzn)))⟩
        · first | exact absurd c50 (by decide) | exact absurd (by decide) c50
    · skip
      have h59 := (bA_e (c := 59) hT.1 (by decide) (by decide)).mp c15
      have hl : txSk T nn z < nn := Nat.lt_of_not_le (fun g => by rw [hT.1.2.2 _ g] at h59; omega)
      refine rc_p (p_aload_n 0 (dk_at ktX7_readsAll_0 9 rfl) rfl rfl (b := 19) rfl) ?_
      refine rc_p (p_dup (dk_at ktX7_readsAll_0 10 rfl) rfl (b := 20) rfl) ?_
      refine r_geti fl_X7_81 rfl hm.l0 hm.s0 (dk_at ktX7_readsAll_0 11 rfl) (v := (nI (txSk T nn z))) hh6 (b := 23) rfl ?_
      refine rc_p (p_iconst (v := 1) (dk_at ktX7_readsAll_0 12 rfl) (by decide) (b := 24) rfl) ?_
      refine rc_p (p_iadd (v := (nI (txSk T nn z + 1))) (dk_at ktX7_readsAll_0 13 rfl) (nI_add (txSk T nn z) 1) (b := 25) rfl) ?_
      refine r_puti fl_X7_81 fw_X7_11 rfl hm.l0 hm.s0 rfl rfl (dk_at ktX7_readsAll_0 14 rfl) (b := 28) rfl ?_
      refine rc_p (p_aload_n 0 (dk_at ktX7_readsAll_0 15 rfl) rfl rfl (b := 29) rfl) ?_
      refine r_iV (As' := []) (rest := []) (s_X7_readStatement hm (hT.fr (show FP m I (up2 I1 m 11 (nI (txSk T nn z + 1))) from (((hFz.mo (by simp) (by simp)).tr (hF5.mo (by simp) (by simp))).uf (by simp)))) ((up2_n (by omega)).trans (((hF5.2 14 (by decide))).trans h14)) (txSk T nn z + 1) up2_s (by omega) ((hRz.fr (hF5.mo (by simp) (by simp))).uf (by decide)) hG) cw_X7_175 qi_X7_readStatement qv_X7_readStatement rfl hm.l0 hm.s0 (dk_at ktX7_readsAll_0 16 rfl) rfl rfl (Nat.le_of_ble_eq_true rfl) (by decide) (b := 32) rfl (fun v25 I22 J23 q24 => ?_)
      obtain ⟨rfl, rfl, hF26, hy27, hy28⟩ := q24
      refine r_if_ne (dk_at ktX7_readsAll_0 17 rfl) (b := 9) (by decide) (b2 := 35) rfl (fun c32 => ?_) (fun c32 => ?_)
      · have c32 := bi_t c32
        have hk29 := of_decide_eq_true c32
        obtain ⟨hh30, hh31, hh32⟩ := hy27 hk29
        have hok := stmt_ok (T := T) (n := nn) (show txSk T nn z + 1 ≤ nn by omega) hG hk29
        exact ih _ _ _ (show FP m I I22 from ((((hFz.mo (by simp) (by simp)).tr (hF5.mo (by simp) (by simp))).uf (by simp)).tr (hF26.mo (by simp) (by simp)))) hh31 hh30 hh32 hok.2.2 hok.2.1 (by omega) (hx.trans (allF_s h59 hk29))
      · have c32 := bi_f c32
        have hk33 := of_decide_eq_false c32
        obtain ⟨hh34, hh35⟩ := hy28 hk33
        refine rc_p (p_iconst (v := 0) (dk_at ktX7_readsAll_0 18 rfl) (by decide) (b := 36) rfl) ?_
        refine r_iret (dk_at ktX7_readsAll_0 19 rfl) rfl rfl ⟨_, rfl, ?_⟩
        rw [hx.trans (allF_k h59 hk33)]
        exact ⟨bk_1 hk33, rfl, (show FP m I I22 from ((((hFz.mo (by simp) (by simp)).tr (hF5.mo (by simp) (by simp))).uf (by simp)).tr (hF26.mo (by simp) (by simp)))), fun g => absurd g hk33, fun _ => ⟨hh34, hh35⟩⟩
  have hn := hT.1.1
  refine rc_p (p_aload_n 0 (dk_at ktX7_readsAll_0 0 rfl) rfl rfl (b := 1) rfl) ?_
  refine r_iV (As' := []) (rest := []) (s_X7_readFlash hm hT h14 0 hp (by omega) hS) cw_X7_172 qi_X7_readFlash qv_X7_readFlash rfl hm.l0 hm.s0 (dk_at ktX7_readsAll_0 1 rfl) rfl rfl (Nat.le_of_ble_eq_true rfl) (by decide) (b := 4) rfl (fun v39 I36 J37 q38 => ?_)
  obtain ⟨rfl, rfl, hF40, hy41, hy42⟩ := q38
  refine r_if_ne (dk_at ktX7_readsAll_0 2 rfl) (b := 9) (by decide) (b2 := 7) rfl (fun c4 => ?_) (fun c4 => ?_)
  · have c4 := bi_t c4
    have hk43 := of_decide_eq_true c4
    obtain ⟨hh44, hh45, hh46⟩ := hy41 hk43
    have hok := flash_ok (T := T) (n := nn) (Nat.zero_le nn) GX_0 hk43
    exact cut9 _ _ _ _ (show FP m I I36 from (FF.rf.tr (hF40.mo (by simp) (by simp)))) hh45 hh44 hh46 hok.2 hok.1 (by omega) (if_pos hk43)
  · have c4 := bi_f c4
    have hk47 := of_decide_eq_false c4
    obtain ⟨hh48, hh49⟩ := hy42 hk47
    refine rc_p (p_iconst (v := 0) (dk_at ktX7_readsAll_0 3 rfl) (by decide) (b := 8) rfl) ?_
    refine r_iret (dk_at ktX7_readsAll_0 4 rfl) rfl rfl ⟨_, rfl, ?_⟩
    rw [show parseO T nn = flashO T nn 0 S0 from if_neg hk47]
    exact ⟨bk_1 hk47, rfl, (show FP m I I36 from (FF.rf.tr (hF40.mo (by simp) (by simp)))), fun g => absurd g hk47, fun _ => ⟨hh48, hh49⟩⟩

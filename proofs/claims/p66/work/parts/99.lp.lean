/-! THE LAW: from its entry to its loops -/
def shL : List ((Nat × Nat) ⊕ (Nat × Nat)) := [.inl (9, 6), .inl (8, 8), .inr (1, 900), .inl (7, 9), .inr (4, 2), .inr (0, 64), .inr (0, 64), .inl (3, 9), .inl (4, 9), .inr (4, 4), .inr (0, 64), .inr (0, 64), .inr (0, 64), .inr (0, 64), .inr (4, 3), .inr (0, 16), .inr (0, 16), .inr (0, 16), .inl (6, 5), .inr (0, 40), .inr (0, 40), .inr (0, 40), .inr (0, 8), .inl (5, 10), .inr (0, 8), .inr (0, 64), .inl (3, 9), .inl (4, 9), .inr (4, 4), .inr (0, 64), .inr (0, 64), .inr (0, 64), .inr (0, 64), .inr (4, 3), .inr (0, 16), .inr (0, 16), .inr (0, 16), .inl (6, 5), .inr (0, 40), .inr (0, 40), .inr (0, 40), .inr (0, 8), .inl (5, 10), .inr (0, 8), .inr (0, 64), .inl (3, 9), .inl (4, 9), .inr (4, 4), .inr (0, 64), .inr (0, 64), .inr (0, 64), .inr (0, 64), .inr (4, 3), .inr (0, 16), .inr (0, 16), .inr (0, 16), .inl (6, 5), .inr (0, 40), .inr (0, 40), .inr (0, 40), .inr (0, 8), .inl (5, 10), .inr (0, 8), .inr (0, 64), .inr (5, 2), .inl (3, 9), .inl (4, 9), .inr (4, 4), .inr (0, 64), .inr (0, 64), .inr (0, 64), .inr (0, 64), .inr (4, 3), .inr (0, 16), .inr (0, 16), .inr (0, 16), .inl (6, 5), .inr (0, 40), .inr (0, 40), .inr (0, 40), .inr (0, 8), .inl (5, 10), .inr (0, 8), .inr (0, 64), .inl (3, 9), .inl (4, 9), .inr (4, 4), .inr (0, 64), .inr (0, 64), .inr (0, 64), .inr (0, 64), .inr (4, 3), .inr (0, 16), .inr (0, 16), .inr (0, 16), .inl (6, 5), .inr (0, 40), .inr (0, 40), .inr (0, 40), .inr (0, 8), .inl (5, 10), .inr (0, 8), .inr (0, 64), .inr (2, 2), .inl (1, 4), .inr (1, 16), .inr (1, 34), .inr (1, 70), .inl (0, 4)]
def shF : mS := fun id => shL.getD id (.inr (0, 0))
theorem shF_7 : ShD shF (0 + 7) := ⟨rfl, rfl, rfl, rfl, rfl, rfl, rfl, rfl, rfl, rfl, rfl, rfl, rfl, rfl, rfl, rfl, rfl, rfl, rfl⟩
theorem shF_26 : ShD shF (0 + 26) := ⟨rfl, rfl, rfl, rfl, rfl, rfl, rfl, rfl, rfl, rfl, rfl, rfl, rfl, rfl, rfl, rfl, rfl, rfl, rfl⟩
theorem shF_45 : ShD shF (0 + 45) := ⟨rfl, rfl, rfl, rfl, rfl, rfl, rfl, rfl, rfl, rfl, rfl, rfl, rfl, rfl, rfl, rfl, rfl, rfl, rfl⟩
theorem shF_65 : ShD shF (0 + 65) := ⟨rfl, rfl, rfl, rfl, rfl, rfl, rfl, rfl, rfl, rfl, rfl, rfl, rfl, rfl, rfl, rfl, rfl, rfl, rfl⟩
theorem shF_84 : ShD shF (0 + 84) := ⟨rfl, rfl, rfl, rfl, rfl, rfl, rfl, rfl, rfl, rfl, rfl, rfl, rfl, rfl, rfl, rfl, rfl, rfl, rfl⟩
def shG (L : Nat) : mS := fun id => if id = 109 then .inr (1, L) else shF id
theorem Bt.sh {n : Nat} {G : mG} {L : Nat} (h : Bt n shF G) : Bt n (shG L) G := by
  obtain ⟨b1, b2, b3, b4, b5, b6, b7, b8, b9, r, b10⟩ := h
  unfold TxtG at b2
  unfold DevG at b3 b4 b5 b7 b8
  exact ⟨b1, b2, b3, b4, b5, b6, b7, b8, b9, r, b10⟩

set_option maxRecDepth 8000 in
set_option maxHeartbeats 4000000 in
theorem law_91 {sh : mS} {G : mG} {I : mI} {J : mJ} {t v w l : Nat} (ht : 1 ≤ t ∧ t ≤ 3) (hv : 1 ≤ v ∧ v ≤ 255) (hv2 : dg v ≤ 2) (hw : w < 65536) (hl : l ≤ 9) (hB : Bt 108 sh G) (s104 : sh 104 = .inl (1, 4)) (s107 : sh 107 = .inr (1, 70)) (s108 : sh 108 = .inl (0, 4)) (s109 : sh 109 = .inr (1, 47 + dg v + dg w)) (hz : Zo 108 I J G) (hS : SBd G I 104 107 70 (33 + dg v + dg w) (lawT t v w l)) (hR : RelD 7 I (newS SI) 0 0) (ht1 : ∀ k, I 1 k = 0) (hv1 : ∀ k, I 103 k = 0) : Gj gLw gZ RL cL_law 4 11 424 600130 7301080 0 108 sh G 20000 200000 91 [(0, .ref 1300), (1, .ref 0), (2, .int (nI l))] [.ref 104, .ref 0] I J := by
  have K0 : ∀ b, b < 104 → I b = I b := fun _ _ => rfl
  refine g_ldcS (tx := ";good 0;life ") (i := 13) (List.mem_of_getElem? (i := 11) rfl) (dk_at ktL_law_0 52 rfl) (b := 93) rfl ?_
  refine h_callV (As' := [.ref (1010 + 3)]) (rest := [.ref 0]) (n1 := 108) (m_saA hz (by omega) (x := 104) (by omega) s104 hS.co (a := 107) (cap := 70) (cnt := 33 + dg v + dg w) (by omega) s107 hS.va hS.ct hS.le (by omega) (i := 3) (by decide) (by have e3 : cW 3 = 13 := rfl; have := dg_le w; omega)) (by omega) cw_L_213 qi_J4_append_15ec4 (sel_of qv_J4_append_15ec4) rfl (by omega) s104 (dk_at ktL_law_0 53 rfl) rfl rfl (Nat.le_of_ble_eq_true rfl) ⟨by decide, Nat.le_of_ble_eq_true rfl⟩ (by exact (okC (okVr (by omega)) okN)) (by exact (okCl (okVc (by omega)) (okCl (okVr (by omega)) (okCl okVi okNl)))) (b := 96) rfl (kc' := 19998) (ks' := 198200) (Nat.le_of_ble_eq_true rfl) (Nat.le_of_ble_eq_true rfl) (fun rr0 G0_ I0_ J0_ hq0 hz0 => ?_)
  obtain ⟨rfl, rfl, hI1, rfl⟩ := hq0
  have S1 := sb_con (i := 3) hS (by decide) (by decide) (by have e3 : cW 3 = 13 := rfl; have := dg_le w; omega) (fun j hj => (cB_3 hj).trans (congrArg nI (lT3 hj).symm))
  rw [hI1] at S1
  have K1 : ∀ b, b < 104 → I0_ b = I b := fun b hb => ((congrFun hI1 b).symm.trans ((up2_off (by omega)).trans (cpf_off (by omega)))).trans (K0 b hb)
  refine gc_p (p_iload_n 2 (dk_at ktL_law_0 54 rfl) rfl rfl (b := 97) rfl) ?_
  refine h_callV (As' := [.int (nI l)]) (rest := [.ref 0]) (n1 := 108) (m_siA hz0 (by omega) (x := 104) (by omega) s104 S1.co (a := 107) (cap := 70) (cnt := 33 + dg v + dg w + cW 3) (by omega) s107 S1.va S1.ct S1.le (by omega) (v := l) (by omega) (by have e3 : cW 3 = 13 := rfl; have := dg_le w; rw [show dg l = 1 from dg_1 (by omega)]; omega)) (by omega) cw_L_216 qi_J4_append_bf812 (sel_of qv_J4_append_bf812) rfl (by omega) s104 (dk_at ktL_law_0 55 rfl) rfl rfl (Nat.le_of_ble_eq_true rfl) ⟨by decide, Nat.le_of_ble_eq_true rfl⟩ (by exact (okC (okVr (by omega)) okN)) (by exact (okCl (okVc (by omega)) (okCl (okVr (by omega)) (okCl okVi okNl)))) (b := 100) rfl (kc' := 19996) (ks' := 196400) (Nat.le_of_ble_eq_true rfl) (Nat.le_of_ble_eq_true rfl) (fun rr2 G2_ I2_ J2_ hq2 hz2 => ?_)
  obtain ⟨rfl, rfl, ⟨I2, hD3, hI3⟩, rfl⟩ := hq2
  have S3 := sb_num S1 (by decide) (by have e3 : cW 3 = 13 := rfl; have := dg_le w; rw [show dg l = 1 from dg_1 (by omega)]; omega) hD3 (fun k hk => by have e3 : cW 3 = 13 := rfl; have e1 : dg l = 1 := dg_1 (by omega); rw [e1] at hk ⊢; rw [show k = 0 by omega, e3]; show lawT t v w l (33 + dg v + dg w + 13) = 48 + l / 1 % 10; rw [show 33 + dg v + dg w + 13 = 46 + dg v + dg w by omega, lTl]; omega)
  rw [hI3] at S3
  have K3 : ∀ b, b < 104 → I2_ b = I b := fun b hb => ((congrFun hI3 b).symm.trans ((up2_off (by omega)).trans (hD3.1 b (by omega)))).trans (K1 b hb)
  have e3 : cW 3 = 13 := rfl
  have e1 : dg l = 1 := dg_1 (by omega)
  have eL : 33 + dg v + dg w + cW 3 + dg l = 47 + dg v + dg w := by rw [e3, e1]; omega
  rw [eL] at S3
  refine h_callV (As' := []) (rest := [.ref 0]) (n1 := 110) (m_toS hz2 (by omega) (x := 104) (by omega) s104 S3.co (a := 107) (cap := 70) (by omega) s107 S3.va S3.ct (by have := dg_le w; omega) (by omega) (fun j hj => S3.ft j (by have := dg_le w; omega)) (by omega) s108 s109) (by omega) cw_L_225 qi_J4_toString_0e30d (sel_of qv_J4_toString_0e30d) rfl (by omega) s104 (dk_at ktL_law_0 56 rfl) rfl rfl (Nat.le_of_ble_eq_true rfl) ⟨by decide, Nat.le_of_ble_eq_true rfl⟩ (by exact (okC (okVr (by omega)) okN)) (by exact (okCl (okVc (by omega)) (okCl (okVr (by omega)) (okCl okVi okNl)))) (b := 103) rfl (kc' := 19994) (ks' := 195496) (Nat.le_of_ble_eq_true rfl) (Nat.le_of_ble_eq_true rfl) (fun rr4 G4_ I4_ J4_ hq4 hz4 => ?_)
  obtain ⟨rfl, hG9, hI9, rfl⟩ := hq4
  have K9 : ∀ b, b < 104 → I4_ b = I b := fun b hb => ((congrFun hI9 b).symm.trans ((cpf_off (by omega)).trans (up2_off (by omega)))).trans (K3 b hb)
  have g9 : ∀ b, b < 104 → G4_ b = G b := fun b hb => by rw [← hG9]; exact upG_off (by omega)
  have z9 : I4_ 108 1 = 0 := by rw [← hI9, cpf_off (by decide)]; exact up2_s
  have v9 : ∀ j, j < 47 + dg v + dg w → I4_ 109 j = nI (lawT t v w l j) := fun j hj => by rw [← hI9, cpf_at]; unfold va_cpy; rw [if_pos (by omega), Nat.zero_add, Nat.sub_zero]; exact S3.rw j hj
  have q9 : G4_ 108 0 = some 109 := by rw [← hG9]; exact upG_s
  have hB9 : Bt 110 sh G4_ := hB.up (by decide) g9
  have hok := lT_ok (t := t) (v := v) (w := w) (l := l) ht hv hw hl
  have hR9 : RelD 7 I4_ (newS SI) 0 0 := hR.fr (fun b h1 h2 => K9 b (by omega))
  have hT9 : TC 1 I4_ (preT (lawT t v w l) 0) 0 := ⟨⟨by decide, fun k hk => absurd hk (Nat.not_lt_zero k), fun k _ => if_neg (Nat.not_lt_zero k)⟩, (congrFun (K9 1 (by decide)) 2).trans (ht1 2), fun k hk => absurd hk (Nat.not_lt_zero k)⟩
  refine h_callS (As := [.ref 0, .ref 108]) (rest := []) (n1 := 110) (m_load (n := 110) (z := 108) (b := 109) (L := (47 + dg v + dg w)) (T := lawT t v w l) (by omega) hB9 (by omega) s108 (by decide) (by omega) s109 (by decide) (by have := dg_le w; omega) q9 (lT_asc ht.2 hl) hok.tz hz4 z9 v9 hR9 hT9) (by omega) cwL_load qs_L_load (dk_at ktL_law_0 57 rfl) rfl rfl (by decide) ⟨by decide, Nat.le_of_ble_eq_true rfl⟩ okN (by exact (okCl (okVc (by omega)) (okCl (okVr (by omega)) (okCl okVi okNl)))) (b := 106) rfl (kc' := 19994) (ks' := 195496) (Nat.le_of_ble_eq_true rfl) (Nat.le_of_ble_eq_true rfl) (fun rr5 G5_ I5_ J5_ hq5 hz5 => ?_)
  obtain ⟨rfl, rfl, ⟨hN, hF⟩, rfl⟩ := hq5
  refine gc_p (p_iconst (v := 1) (dk_at ktL_law_0 58 rfl) (by decide) (b := 107) rfl) ?_
  refine g_icmp_eq (dk_at ktL_law_0 59 rfl) (b := 112) (by decide) (b2 := 110) rfl (fun c107 => ?_) (fun c107 => ?_)
  · skip
    refine gc_p (p_iconst (v := 0) (dk_at ktL_law_1 2 rfl) (by decide) (b := 113) rfl) ?_
    refine gc_p (p_istore_n (ls' := [(3, .int 0), (0, .ref 1300), (1, .ref 0), (2, .int (nI l))]) (dk_at ktL_law_1 3 rfl) rfl (by decide) rfl (b := 114) rfl) ?_
    refine gc_sub [1, 2, 0] (ls' := [(0, .ref 1300), (1, .ref 0), (3, .int (nI 0))]) rfl ?_
    refine gc_weak (kc' := 1820 + 10 * 3) (ks' := 10920 + 60 * 3) (by decide) (by decide) ?_
    refine law_stages hB9 (sn := fun _ => none) 3 0 _ _ rfl ⟨hN, ⟨fun _ => ?_, fun τ q => by cases q⟩, fun _ => ?_, fun τ q => by cases q⟩ (lt_load hok (newS SI)).2
    · exact (congrFun ((hF 103 (by decide)).trans (K9 103 (by decide))) 0).trans (hv1 0)
    · exact (congrFun ((hF 103 (by decide)).trans (K9 103 (by decide))) 1).trans (hv1 1)
  · skip
    exact absurd (lt_load hok (newS SI)).1 c107
set_option maxRecDepth 8000 in
set_option maxHeartbeats 4000000 in
theorem law_32 {G : mG} {I : mI} {J : mJ} {l : Nat} (hl : l ≤ 9) (hB : Bt 104 shF G) (hz : Zo 104 I J G) (hR : RelD 7 I (newS SI) 0 0) (ht1 : ∀ k, I 1 k = 0) (hv1 : ∀ k, I 103 k = 0) : Gj gLw gZ RL cL_law 4 11 424 600130 7301080 0 104 shF G 40000 300000 32 [(0, .ref 1300), (1, .ref 0), (2, .int (nI l))] [] I J := by
  have s104 : shF 104 = .inl (1, 4) := rfl
  have e0 : cW 0 = 20 := rfl
  have e1 : cW 1 = 9 := rfl
  have e2 : cW 2 = 3 := rfl
  refine gc_p (p_aload_n 1 (dk_at ktL_law_0 20 rfl) rfl rfl (b := 33) rfl) ?_
  refine g_new hz (by omega) (by omega) (rfl : shF 104 = .inl (1, 4)) rfl lay_J4 tyJ4_ok qcl_L_208 qin_J4s qn_java_lang_StringBuilder dv_J4 (by exact (okC (okVr (by omega)) okN)) (by exact (okCl (okVc (by omega)) (okCl (okVr (by omega)) (okCl okVi okNl)))) (kc' := 39999) (ks' := 299996) (by omega) (by omega) (dk_at ktL_law_0 21 rfl) (b := 36) rfl ?_
  refine gc_p (p_dup (dk_at ktL_law_0 22 rfl) rfl (b := 37) rfl) ?_
  refine h_callI (As' := []) (rest := [.ref 104, .ref 0]) (n1 := 106) (m_sInit (hz.up (m := 105) (by omega)) (by omega) (x := 104) (by omega) rfl rfl) (by omega) cw_L_210 qi_J4_init_da8c8 (by decide) (dk_at ktL_law_0 23 rfl) rfl rfl (Nat.le_of_ble_eq_true rfl) ⟨by decide, Nat.le_of_ble_eq_true rfl⟩ (by exact (okC (okVr (by omega)) (okC (okVr (by omega)) okN))) (by exact (okCl (okVc (by omega)) (okCl (okVr (by omega)) (okCl okVi okNl)))) (b := 40) rfl (kc' := 39998) (ks' := 299980) (Nat.le_of_ble_eq_true rfl) (Nat.le_of_ble_eq_true rfl) (fun rr0 G0_ I0_ J0_ hq0 hz0 => ?_)
  obtain ⟨rfl, hG1, hI1, rfl⟩ := hq0
  have S1 := sb_new (G := G) (cap := 16) (T := lawT 0 0 0 l) ((hz.1 105 (by decide) (by decide)).1) ((hz.1 104 (by decide) (by decide)).1 3) (show 104 ≠ 105 by decide)
  rw [hI1, hG1] at S1
  have K1 : ∀ b, b < 104 → I0_ b = I b := fun b hb => (congrFun hI1 b).symm.trans (up2_off (by omega))
  have g1 : ∀ b, b < 104 → G0_ b = G b := fun b hb => (congrFun hG1 b).symm.trans (upG_off (by omega))
  refine g_ldcS (tx := "flash 16 4 12;tries ") (i := 10) (List.mem_of_getElem? (i := 8) rfl) (dk_at ktL_law_0 24 rfl) (b := 42) rfl ?_
  refine h_callV (As' := [.ref (1010 + 0)]) (rest := [.ref 0]) (n1 := 107) (m_saB hz0 (by omega) (x := 104) (by omega) rfl S1.co (a := 105) (cap := 16) (cnt := 0) (by omega) rfl S1.va S1.ct S1.le (by omega) (i := 0) (by decide) (by omega) (m := 34) (by omega) (by omega) (by omega) (by omega) rfl S1.ft) (by omega) cw_L_213 qi_J4_append_15ec4 (sel_of qv_J4_append_15ec4) rfl (by omega) s104 (dk_at ktL_law_0 25 rfl) rfl rfl (Nat.le_of_ble_eq_true rfl) ⟨by decide, Nat.le_of_ble_eq_true rfl⟩ (by exact (okC (okVr (by omega)) okN)) (by exact (okCl (okVc (by omega)) (okCl (okVr (by omega)) (okCl okVi okNl)))) (b := 45) rfl (kc' := 39996) (ks' := 298180) (Nat.le_of_ble_eq_true rfl) (Nat.le_of_ble_eq_true rfl) (fun rr2 G2_ I2_ J2_ hq2 hz2 => ?_)
  have S3g := sb_grow (n := 106) (m := 34) S1 ((hz0.1 106 (Nat.le_refl _) (by decide)).1) (by decide) (by decide)
  obtain ⟨rfl, hG3, hI3, rfl⟩ := hq2
  have S3 := sb_con (i := 0) S3g (by decide) (by decide) (by omega) (fun j hj => (cB_0 hj).trans (congrArg nI ((show lawT 0 0 0 l (0 + j) = lt0 j from (congrArg (lawT 0 0 0 l) (Nat.zero_add j)).trans (lT0 hj))).symm))
  have K3 : ∀ b, b < 104 → I2_ b = I b := fun b hb => ((congrFun hI3 b).symm.trans ((up2_off (by omega)).trans ((cpf_off (by omega)).trans (cpf_off (by omega))))).trans (K1 b hb)
  rw [hI3, hG3, show 0 + cW 0 = 20 by omega] at S3
  have g3 : ∀ b, b < 104 → G2_ b = G b := fun b hb => ((congrFun hG3 b).symm.trans (upG_off (by omega))).trans (g1 b hb)
  refine gc_p (p_iconst (v := 1) (dk_at ktL_law_0 26 rfl) (by decide) (b := 46) rfl) ?_
  refine gc_p (p_aload_n 0 (dk_at ktL_law_0 27 rfl) rfl rfl (b := 47) rfl) ?_
  refine gc_p (p_iconst (v := 2) (dk_at ktL_law_0 28 rfl) (by decide) (b := 48) rfl) ?_
  refine g_callS (As := [.ref 1300, .int 2]) (rest := [.int 1, .ref 104, .ref 0]) (s_L_cell (i := 2) (by omega)) cwL_cell qs_L_cell (dk_at ktL_law_0 29 rfl) rfl rfl (Nat.le_of_ble_eq_true rfl) ⟨by decide, by decide, by first | decide | omega, by first | decide | omega⟩ (b := 51) rfl (fun rr4 I4_ J4_ hq4 => ?_)
  obtain ⟨v_, rfl, ⟨xt, hxt, rfl⟩, rfl, rfl⟩ := hq4
  refine gc_p (p_iconst (v := 3) (dk_at ktL_law_0 30 rfl) (by decide) (b := 52) rfl) ?_
  refine gc_p (p_irem (v := (nI (xt % 3))) (dk_at ktL_law_0 31 rfl) (by decide) (pk_rem (a := xt) (d := 3) (by omega) (by decide) (by decide)) (b := 53) rfl) ?_
  refine gc_p (p_iadd (v := (nI (1 + (xt % 3)))) (dk_at ktL_law_0 32 rfl) (nI_add 1 (xt % 3)) (b := 54) rfl) ?_
  obtain ⟨t, et⟩ : ∃ q : Nat, q = 1 + (xt % 3) := ⟨_, rfl⟩
  rw [← et]
  have ht : 1 ≤ t ∧ t ≤ 3 := by omega
  have hdt : dg t = 1 := dg_1 (by omega)
  have S3 := S3.tx (T' := lawT t 0 0 l) (fun j hj => lTa1 (by omega))
  refine h_callV (As' := [.int (nI t)]) (rest := [.ref 0]) (n1 := 107) (m_siA hz2 (by omega) (x := 104) (by omega) rfl S3.co (a := 106) (cap := 34) (cnt := 20) (by omega) rfl S3.va S3.ct S3.le (by omega) (v := t) (by omega) (by omega)) (by omega) cw_L_216 qi_J4_append_bf812 (sel_of qv_J4_append_bf812) rfl (by omega) s104 (dk_at ktL_law_0 33 rfl) rfl rfl (Nat.le_of_ble_eq_true rfl) ⟨by decide, Nat.le_of_ble_eq_true rfl⟩ (by exact (okC (okVr (by omega)) okN)) (by exact (okCl (okVc (by omega)) (okCl (okVr (by omega)) (okCl okVi okNl)))) (b := 57) rfl (kc' := 39994) (ks' := 296380) (Nat.le_of_ble_eq_true rfl) (Nat.le_of_ble_eq_true rfl) (fun rr5 G5_ I5_ J5_ hq5 hz5 => ?_)
  obtain ⟨rfl, hG6, ⟨I2, hD6, hI6⟩, rfl⟩ := hq5
  have S6 := sb_num S3 (by decide) (by omega) hD6 (fun k hk => by rw [hdt] at hk ⊢; rw [show k = 0 by omega]; show 48 + t = 48 + t / 1 % 10; omega)
  have K6 : ∀ b, b < 104 → I5_ b = I b := fun b hb => ((congrFun hI6 b).symm.trans ((up2_off (by omega)).trans (hD6.1 b (by omega)))).trans (K3 b hb)
  rw [hI6, hG6, show 20 + dg t = 21 by omega] at S6
  have g6 : ∀ b, b < 104 → G5_ b = G b := fun b hb => (congrFun hG6 b).symm.trans (g3 b hb)
  refine g_ldcS (tx := ";image 0 ") (i := 11) (List.mem_of_getElem? (i := 9) rfl) (dk_at ktL_law_0 34 rfl) (b := 59) rfl ?_
  refine h_callV (As' := [.ref (1010 + 1)]) (rest := [.ref 0]) (n1 := 107) (m_saA hz5 (by omega) (x := 104) (by omega) rfl S6.co (a := 106) (cap := 34) (cnt := 21) (by omega) rfl S6.va S6.ct S6.le (by omega) (i := 1) (by decide) (by omega)) (by omega) cw_L_213 qi_J4_append_15ec4 (sel_of qv_J4_append_15ec4) rfl (by omega) s104 (dk_at ktL_law_0 35 rfl) rfl rfl (Nat.le_of_ble_eq_true rfl) ⟨by decide, Nat.le_of_ble_eq_true rfl⟩ (by exact (okC (okVr (by omega)) okN)) (by exact (okCl (okVc (by omega)) (okCl (okVr (by omega)) (okCl okVi okNl)))) (b := 62) rfl (kc' := 39992) (ks' := 294580) (Nat.le_of_ble_eq_true rfl) (Nat.le_of_ble_eq_true rfl) (fun rr7 G7_ I7_ J7_ hq7 hz7 => ?_)
  obtain ⟨rfl, hG8, hI8, rfl⟩ := hq7
  have S8 := sb_con (i := 1) S6 (by decide) (by decide) (by omega) (fun j hj => (cB_1 hj).trans (congrArg nI (lT1 hj).symm))
  have K8 : ∀ b, b < 104 → I7_ b = I b := fun b hb => ((congrFun hI8 b).symm.trans ((up2_off (by omega)).trans (cpf_off (by omega)))).trans (K6 b hb)
  rw [hI8, hG8, show 21 + cW 1 = 30 by omega] at S8
  have g8 : ∀ b, b < 104 → G7_ b = G b := fun b hb => (congrFun hG8 b).symm.trans (g6 b hb)
  refine gc_p (p_iconst (v := 1) (dk_at ktL_law_0 36 rfl) (by decide) (b := 63) rfl) ?_
  refine gc_p (p_aload_n 0 (dk_at ktL_law_0 37 rfl) rfl rfl (b := 64) rfl) ?_
  refine gc_p (p_iconst (v := 3) (dk_at ktL_law_0 38 rfl) (by decide) (b := 65) rfl) ?_
  refine g_callS (As := [.ref 1300, .int 3]) (rest := [.int 1, .ref 104, .ref 0]) (s_L_cell (i := 3) (by omega)) cwL_cell qs_L_cell (dk_at ktL_law_0 39 rfl) rfl rfl (Nat.le_of_ble_eq_true rfl) ⟨by decide, by decide, by first | decide | omega, by first | decide | omega⟩ (b := 68) rfl (fun rr9 I9_ J9_ hq9 => ?_)
  obtain ⟨v_, rfl, ⟨xv, hxv, rfl⟩, rfl, rfl⟩ := hq9
  refine gc_p (p_bipush (v := 99) (dk_at ktL_law_0 40 rfl) (by decide) (b := 70) rfl) ?_
  refine gc_p (p_irem (v := (nI (xv % 99))) (dk_at ktL_law_0 41 rfl) (by decide) (pk_rem (a := xv) (d := 99) (by omega) (by decide) (by decide)) (b := 71) rfl) ?_
  refine gc_p (p_iadd (v := (nI (1 + (xv % 99)))) (dk_at ktL_law_0 42 rfl) (nI_add 1 (xv % 99)) (b := 72) rfl) ?_
  obtain ⟨v, ev⟩ : ∃ q : Nat, q = 1 + (xv % 99) := ⟨_, rfl⟩
  rw [← ev]
  have hv : 1 ≤ v ∧ v ≤ 99 := by omega
  have hv2 : dg v ≤ 2 := by rcases (by omega : v < 10 ∨ 10 ≤ v) with q | q; (rw [dg_1 q]; decide); (rw [dg_2 q (by omega)]; decide)
  have hv3 := (dg_le v).1
  have S8 := S8.tx (T' := lawT t v 0 l) (fun j hj => lTa2 (by omega))
  refine h_callV (As' := [.int (nI v)]) (rest := [.ref 0]) (n1 := 107) (m_siA hz7 (by omega) (x := 104) (by omega) rfl S8.co (a := 106) (cap := 34) (cnt := 30) (by omega) rfl S8.va S8.ct S8.le (by omega) (v := v) (by omega) (by omega)) (by omega) cw_L_216 qi_J4_append_bf812 (sel_of qv_J4_append_bf812) rfl (by omega) s104 (dk_at ktL_law_0 43 rfl) rfl rfl (Nat.le_of_ble_eq_true rfl) ⟨by decide, Nat.le_of_ble_eq_true rfl⟩ (by exact (okC (okVr (by omega)) okN)) (by exact (okCl (okVc (by omega)) (okCl (okVr (by omega)) (okCl okVi okNl)))) (b := 75) rfl (kc' := 39990) (ks' := 292780) (Nat.le_of_ble_eq_true rfl) (Nat.le_of_ble_eq_true rfl) (fun rr10 G10_ I10_ J10_ hq10 hz10 => ?_)
  obtain ⟨rfl, hG11, ⟨I2, hD11, hI11⟩, rfl⟩ := hq10
  have S11 := sb_num S8 (by decide) (by omega) hD11 (fun k hk => lTv hk)
  have K11 : ∀ b, b < 104 → I10_ b = I b := fun b hb => ((congrFun hI11 b).symm.trans ((up2_off (by omega)).trans (hD11.1 b (by omega)))).trans (K8 b hb)
  rw [hI11, hG11, show 30 + dg v = 30 + dg v by omega] at S11
  have g11 : ∀ b, b < 104 → G10_ b = G b := fun b hb => (congrFun hG11 b).symm.trans (g8 b hb)
  rcases (by omega : dg v = 1 ∨ dg v = 2) with hdv | hdv
  · refine g_ldcS (tx := " 7 ") (i := 12) (List.mem_of_getElem? (i := 10) rfl) (dk_at ktL_law_0 44 rfl) (b := 77) rfl ?_
    refine h_callV (As' := [.ref (1010 + 2)]) (rest := [.ref 0]) (n1 := 107) (m_saA hz10 (by omega) (x := 104) (by omega) rfl S11.co (a := 106) (cap := 34) (cnt := 30 + dg v) (by omega) rfl S11.va S11.ct S11.le (by omega) (i := 2) (by decide) (by omega)) (by omega) cw_L_213 qi_J4_append_15ec4 (sel_of qv_J4_append_15ec4) rfl (by omega) s104 (dk_at ktL_law_0 45 rfl) rfl rfl (Nat.le_of_ble_eq_true rfl) ⟨by decide, Nat.le_of_ble_eq_true rfl⟩ (by exact (okC (okVr (by omega)) okN)) (by exact (okCl (okVc (by omega)) (okCl (okVr (by omega)) (okCl okVi okNl)))) (b := 80) rfl (kc' := 39988) (ks' := 290980) (Nat.le_of_ble_eq_true rfl) (Nat.le_of_ble_eq_true rfl) (fun rr12 G12_ I12_ J12_ hq12 hz12 => ?_)
    obtain ⟨rfl, hG13, hI13, rfl⟩ := hq12
    have S13 := sb_con (i := 2) S11 (by decide) (by decide) (by omega) (fun j hj => (cB_2 hj).trans (congrArg nI (lT2 hj).symm))
    have K13 : ∀ b, b < 104 → I12_ b = I b := fun b hb => ((congrFun hI13 b).symm.trans ((up2_off (by omega)).trans (cpf_off (by omega)))).trans (K11 b hb)
    rw [hI13, hG13, show 30 + dg v + cW 2 = 33 + dg v by omega] at S13
    have g13 : ∀ b, b < 104 → G12_ b = G b := fun b hb => (congrFun hG13 b).symm.trans (g11 b hb)
    refine gc_p (p_aload_n 0 (dk_at ktL_law_0 46 rfl) rfl rfl (b := 81) rfl) ?_
    refine gc_p (p_iconst (v := 4) (dk_at ktL_law_0 47 rfl) (by decide) (b := 82) rfl) ?_
    refine g_callS (As := [.ref 1300, .int 4]) (rest := [.ref 104, .ref 0]) (s_L_cell (i := 4) (by omega)) cwL_cell qs_L_cell (dk_at ktL_law_0 48 rfl) rfl rfl (Nat.le_of_ble_eq_true rfl) ⟨by decide, by decide, by first | decide | omega, by first | decide | omega⟩ (b := 85) rfl (fun rr14 I14_ J14_ hq14 => ?_)
    obtain ⟨v_, rfl, ⟨xw, hxw, rfl⟩, rfl, rfl⟩ := hq14
    refine gc_p (p_ldc (v := 65536) qk_TwinBootLaw_75 (dk_at ktL_law_0 49 rfl) (b := 87) rfl) ?_
    refine gc_p (p_irem (v := (nI (xw % 65536))) (dk_at ktL_law_0 50 rfl) (by decide) (pk_rem (a := xw) (d := 65536) (by omega) (by decide) (by decide)) (b := 88) rfl) ?_
    obtain ⟨w, ew⟩ : ∃ q : Nat, q = xw % 65536 := ⟨_, rfl⟩
    rw [← ew]
    have hw : w < 65536 := by omega
    have hlw := dg_le w
    have S13 := S13.tx (T' := lawT t v w l) (fun j hj => lTa3 (by omega))
    refine h_callV (As' := [.int (nI w)]) (rest := [.ref 0]) (n1 := 108) (m_siB hz12 (by omega) (x := 104) (by omega) rfl S13.co (a := 106) (cap := 34) (cnt := 33 + dg v) (by omega) rfl S13.va S13.ct S13.le (by omega) (v := w) (by omega) (by omega) (m := 70) (by omega) (by omega) (by omega) (by omega) rfl S13.ft) (by omega) cw_L_216 qi_J4_append_bf812 (sel_of qv_J4_append_bf812) rfl (by omega) s104 (dk_at ktL_law_0 51 rfl) rfl rfl (Nat.le_of_ble_eq_true rfl) ⟨by decide, Nat.le_of_ble_eq_true rfl⟩ (by exact (okC (okVr (by omega)) okN)) (by exact (okCl (okVc (by omega)) (okCl (okVr (by omega)) (okCl okVi okNl)))) (b := 91) rfl (kc' := 39986) (ks' := 289180) (Nat.le_of_ble_eq_true rfl) (Nat.le_of_ble_eq_true rfl) (fun rr15 G15_ I15_ J15_ hq15 hz15 => ?_)
    have S16g := sb_grow (n := 107) (m := 70) S13 ((hz12.1 107 (Nat.le_refl _) (by decide)).1) (by decide) (by decide)
    obtain ⟨rfl, hG16, ⟨I2, hD16, hI16⟩, rfl⟩ := hq15
    have S16 := sb_num S16g (by decide) (by omega) hD16 (fun k hk => lTw hk)
    have K16 : ∀ b, b < 104 → I15_ b = I b := fun b hb => ((congrFun hI16 b).symm.trans ((up2_off (by omega)).trans ((hD16.1 b (by omega)).trans (cpf_off (by omega))))).trans (K13 b hb)
    rw [hI16, hG16, show 33 + dg v + dg w = 33 + dg v + dg w by omega] at S16
    have g16 : ∀ b, b < 104 → G15_ b = G b := fun b hb => ((congrFun hG16 b).symm.trans (upG_off (by omega))).trans (g13 b hb)
    refine gc_sh (sh' := shG (47 + dg v + dg w)) (fun k hk => (if_neg (by omega)).symm) ?_
    refine gc_sub [0, 1, 2] (ls' := [(0, .ref 1300), (1, .ref 0), (2, .int (nI l))]) rfl ?_
    refine gc_weak (kc' := 20000) (ks' := 200000) (by decide) (by decide) ?_
    exact law_91 ht ⟨by omega, by omega⟩ hv2 hw hl ((hB.up (by decide) g16).sh) rfl rfl rfl (if_pos rfl) hz15 S16 (hR.fr (fun b h1 h2 => K16 b (by omega))) (fun k => (congrFun (K16 1 (by decide)) k).trans (ht1 k)) (fun k => (congrFun (K16 103 (by decide)) k).trans (hv1 k))
  · refine g_ldcS (tx := " 7 ") (i := 12) (List.mem_of_getElem? (i := 10) rfl) (dk_at ktL_law_0 44 rfl) (b := 77) rfl ?_
    refine h_callV (As' := [.ref (1010 + 2)]) (rest := [.ref 0]) (n1 := 108) (m_saB hz10 (by omega) (x := 104) (by omega) rfl S11.co (a := 106) (cap := 34) (cnt := 30 + dg v) (by omega) rfl S11.va S11.ct S11.le (by omega) (i := 2) (by decide) (by omega) (m := 70) (by omega) (by omega) (by omega) (by omega) rfl S11.ft) (by omega) cw_L_213 qi_J4_append_15ec4 (sel_of qv_J4_append_15ec4) rfl (by omega) s104 (dk_at ktL_law_0 45 rfl) rfl rfl (Nat.le_of_ble_eq_true rfl) ⟨by decide, Nat.le_of_ble_eq_true rfl⟩ (by exact (okC (okVr (by omega)) okN)) (by exact (okCl (okVc (by omega)) (okCl (okVr (by omega)) (okCl okVi okNl)))) (b := 80) rfl (kc' := 39988) (ks' := 290980) (Nat.le_of_ble_eq_true rfl) (Nat.le_of_ble_eq_true rfl) (fun rr17 G17_ I17_ J17_ hq17 hz17 => ?_)
    have S18g := sb_grow (n := 107) (m := 70) S11 ((hz10.1 107 (Nat.le_refl _) (by decide)).1) (by decide) (by decide)
    obtain ⟨rfl, hG18, hI18, rfl⟩ := hq17
    have S18 := sb_con (i := 2) S18g (by decide) (by decide) (by omega) (fun j hj => (cB_2 hj).trans (congrArg nI (lT2 hj).symm))
    have K18 : ∀ b, b < 104 → I17_ b = I b := fun b hb => ((congrFun hI18 b).symm.trans ((up2_off (by omega)).trans ((cpf_off (by omega)).trans (cpf_off (by omega))))).trans (K11 b hb)
    rw [hI18, hG18, show 30 + dg v + cW 2 = 33 + dg v by omega] at S18
    have g18 : ∀ b, b < 104 → G17_ b = G b := fun b hb => ((congrFun hG18 b).symm.trans (upG_off (by omega))).trans (g11 b hb)
    refine gc_p (p_aload_n 0 (dk_at ktL_law_0 46 rfl) rfl rfl (b := 81) rfl) ?_
    refine gc_p (p_iconst (v := 4) (dk_at ktL_law_0 47 rfl) (by decide) (b := 82) rfl) ?_
    refine g_callS (As := [.ref 1300, .int 4]) (rest := [.ref 104, .ref 0]) (s_L_cell (i := 4) (by omega)) cwL_cell qs_L_cell (dk_at ktL_law_0 48 rfl) rfl rfl (Nat.le_of_ble_eq_true rfl) ⟨by decide, by decide, by first | decide | omega, by first | decide | omega⟩ (b := 85) rfl (fun rr19 I19_ J19_ hq19 => ?_)
    obtain ⟨v_, rfl, ⟨xw, hxw, rfl⟩, rfl, rfl⟩ := hq19
    refine gc_p (p_ldc (v := 65536) qk_TwinBootLaw_75 (dk_at ktL_law_0 49 rfl) (b := 87) rfl) ?_
    refine gc_p (p_irem (v := (nI (xw % 65536))) (dk_at ktL_law_0 50 rfl) (by decide) (pk_rem (a := xw) (d := 65536) (by omega) (by decide) (by decide)) (b := 88) rfl) ?_
    obtain ⟨w, ew⟩ : ∃ q : Nat, q = xw % 65536 := ⟨_, rfl⟩
    rw [← ew]
    have hw : w < 65536 := by omega
    have hlw := dg_le w
    have S18 := S18.tx (T' := lawT t v w l) (fun j hj => lTa3 (by omega))
    refine h_callV (As' := [.int (nI w)]) (rest := [.ref 0]) (n1 := 108) (m_siA hz17 (by omega) (x := 104) (by omega) rfl S18.co (a := 107) (cap := 70) (cnt := 33 + dg v) (by omega) rfl S18.va S18.ct S18.le (by omega) (v := w) (by omega) (by omega)) (by omega) cw_L_216 qi_J4_append_bf812 (sel_of qv_J4_append_bf812) rfl (by omega) s104 (dk_at ktL_law_0 51 rfl) rfl rfl (Nat.le_of_ble_eq_true rfl) ⟨by decide, Nat.le_of_ble_eq_true rfl⟩ (by exact (okC (okVr (by omega)) okN)) (by exact (okCl (okVc (by omega)) (okCl (okVr (by omega)) (okCl okVi okNl)))) (b := 91) rfl (kc' := 39986) (ks' := 289180) (Nat.le_of_ble_eq_true rfl) (Nat.le_of_ble_eq_true rfl) (fun rr20 G20_ I20_ J20_ hq20 hz20 => ?_)
    obtain ⟨rfl, hG21, ⟨I2, hD21, hI21⟩, rfl⟩ := hq20
    have S21 := sb_num S18 (by decide) (by omega) hD21 (fun k hk => lTw hk)
    have K21 : ∀ b, b < 104 → I20_ b = I b := fun b hb => ((congrFun hI21 b).symm.trans ((up2_off (by omega)).trans (hD21.1 b (by omega)))).trans (K18 b hb)
    rw [hI21, hG21, show 33 + dg v + dg w = 33 + dg v + dg w by omega] at S21
    have g21 : ∀ b, b < 104 → G20_ b = G b := fun b hb => (congrFun hG21 b).symm.trans (g18 b hb)
    refine gc_sh (sh' := shG (47 + dg v + dg w)) (fun k hk => (if_neg (by omega)).symm) ?_
    refine gc_sub [0, 1, 2] (ls' := [(0, .ref 1300), (1, .ref 0), (2, .int (nI l))]) rfl ?_
    refine gc_weak (kc' := 20000) (ks' := 200000) (by decide) (by decide) ?_
    exact law_91 ht ⟨by omega, by omega⟩ hv2 hw hl ((hB.up (by decide) g21).sh) rfl rfl rfl (if_pos rfl) hz20 S21 (hR.fr (fun b h1 h2 => K21 b (by omega))) (fun k => (congrFun (K21 1 (by decide)) k).trans (ht1 k)) (fun k => (congrFun (K21 103 (by decide)) k).trans (hv1 k))
set_option maxRecDepth 8000 in
set_option maxHeartbeats 4000000 in
theorem law_begins {G : mG} {I : mI} {J : mJ} (hz : Zo 0 I J G) : Gj gLw gZ RL cL_law 4 11 424 600130 7301080 0 0 shF G 600130 7301080 0 [(0, .ref 1300)] [] I J := by
  have hz1 := hz.up (m := 1) (by omega)
  refine g_new hz (by omega) (by omega) (rfl : shF 0 = .inl (9, 6)) rfl lay_X6 tyX6_ok qcl_L_25 qin_X6 qn_TwinBoot dv_X6 okN (by exact (okCl (okVc (by omega)) okNl)) (kc' := 600129) (ks' := 7301074) (by decide) (by decide) (dk_at ktL_law_0 0 rfl) (b := 3) rfl ?_
  refine gc_p (p_dup (dk_at ktL_law_0 1 rfl) rfl (b := 4) rfl) ?_
  refine g_callI (ci := 0) (N := 0) (d := 0) (C := RX6) (T := TX6) (As' := []) (rest := [.ref 0]) (s_X6_init (x := 0) (by decide) rfl rfl rfl rfl rfl rfl rfl shF_7 shF_26 shF_45 shF_65 shF_84 rfl rfl hz1) (by omega) cw_L_207 qi_X6_init rfl (dk_at ktL_law_0 2 rfl) rfl rfl (Nat.le_of_ble_eq_true rfl) ⟨by decide, by decide, by decide, by decide⟩ (by exact (okC (okVr (by omega)) okN)) (by exact (okCl (okVc (by omega)) okNl)) (b := 7) rfl (fun G1 I1 J1 hq1 hz2 => ?_)
  obtain ⟨rfl, -, ht1, hD1, hv1, -, hG1⟩ := hq1
  obtain ⟨b1, b2, b3, b4, b5, b6, b7, b8, b9, b10, r1, r2, r3, r4, r5, r6, r7, r8⟩ := hG1
  have hB : Bt 104 shF G1 := ⟨⟨by decide, rfl⟩, b3, b4, b5, b6, ⟨by decide, rfl⟩, b8, b9, ⟨by decide, rfl⟩, ⟨r1, r2, r3, r4, r5, r6, r7, r8⟩, by omega⟩
  refine gc_p (p_astore_n (ls' := [(1, .ref 0), (0, .ref 1300)]) (dk_at ktL_law_0 3 rfl) rfl (by decide) rfl (b := 8) rfl) ?_
  refine gc_p (p_aload_n 1 (dk_at ktL_law_0 4 rfl) rfl rfl (b := 9) rfl) ?_
  refine gc_p (p_iconst (v := 0) (dk_at ktL_law_0 5 rfl) (by decide) (b := 10) rfl) ?_
  refine g_callS (As := [.ref 1300, .int 0]) (rest := []) (s_L_cell (i := 0) (by omega)) cwL_cell qs_L_cell (dk_at ktL_law_0 6 rfl) rfl rfl (Nat.le_of_ble_eq_true rfl) ⟨by decide, by decide, by first | decide | omega, by first | decide | omega⟩ (b := 13) rfl (fun rr0 I0_ J0_ hq0 => ?_)
  obtain ⟨v_, rfl, ⟨xa, hxa, rfl⟩, rfl, rfl⟩ := hq0
  refine gc_p (p_iconst (v := 3) (dk_at ktL_law_0 7 rfl) (by decide) (b := 14) rfl) ?_
  refine gc_p (p_irem (v := (nI (xa % 3))) (dk_at ktL_law_0 8 rfl) (by decide) (pk_rem (a := xa) (d := 3) (by omega) (by decide) (by decide)) (b := 15) rfl) ?_
  refine g_if_ne (dk_at ktL_law_0 9 rfl) (b := 30) (by decide) (b2 := 18) rfl (fun c15 => ?_) (fun c15 => ?_)
  · have c15 : ¬ (xa % 3) = 0 := fun h => c15 ((nI_eq (a := xa % 3) (b := 0) (by omega) (by omega)).mpr h)
    refine gc_p (p_iconst (v := 0) (dk_at ktL_law_0 18 rfl) (by decide) (b := 31) rfl) ?_
    refine g_val (y := (nI 0)) rfl ?_
    refine gc_p (p_istore_n (ls' := [(2, .int (nI 0)), (1, .ref 0), (0, .ref 1300)]) (dk_at ktL_law_0 19 rfl) rfl (by decide) rfl (b := 32) rfl) ?_
    refine gc_sub [2, 1, 0] (ls' := [(0, .ref 1300), (1, .ref 0), (2, .int (nI 0))]) rfl ?_
    exact gc_weak (by decide) (by decide) (law_32 (l := 0) (by omega) hB hz2 hD1 ht1 hv1)
  · have c15 : (xa % 3) = 0 := (nI_eq (a := xa % 3) (b := 0) (by omega) (by omega)).mp c15
    refine gc_p (p_iconst (v := 1) (dk_at ktL_law_0 10 rfl) (by decide) (b := 19) rfl) ?_
    refine gc_p (p_aload_n 1 (dk_at ktL_law_0 11 rfl) rfl rfl (b := 20) rfl) ?_
    refine gc_p (p_iconst (v := 1) (dk_at ktL_law_0 12 rfl) (by decide) (b := 21) rfl) ?_
    refine g_callS (As := [.ref 1300, .int 1]) (rest := [.int 1]) (s_L_cell (i := 1) (by omega)) cwL_cell qs_L_cell (dk_at ktL_law_0 13 rfl) rfl rfl (Nat.le_of_ble_eq_true rfl) ⟨by decide, by decide, by first | decide | omega, by first | decide | omega⟩ (b := 24) rfl (fun rr1 I1_ J1_ hq1 => ?_)
    obtain ⟨v_, rfl, ⟨xb, hxb, rfl⟩, rfl, rfl⟩ := hq1
    refine gc_p (p_iconst (v := 4) (dk_at ktL_law_0 14 rfl) (by decide) (b := 25) rfl) ?_
    refine gc_p (p_irem (v := (nI (xb % 4))) (dk_at ktL_law_0 15 rfl) (by decide) (pk_rem (a := xb) (d := 4) (by omega) (by decide) (by decide)) (b := 26) rfl) ?_
    refine gc_p (p_iadd (v := (nI (1 + (xb % 4)))) (dk_at ktL_law_0 16 rfl) (nI_add 1 (xb % 4)) (b := 27) rfl) ?_
    refine gc_p (p_goto (b := 31) (dk_at ktL_law_0 17 rfl) (by decide)) ?_
    refine gc_p (p_istore_n (ls' := [(2, .int (nI (1 + (xb % 4)))), (1, .ref 0), (0, .ref 1300)]) (dk_at ktL_law_0 19 rfl) rfl (by decide) rfl (b := 32) rfl) ?_
    refine gc_sub [2, 1, 0] (ls' := [(0, .ref 1300), (1, .ref 0), (2, .int (nI (1 + (xb % 4))))]) rfl ?_
    exact gc_weak (by decide) (by decide) (law_32 (l := 1 + (xb % 4)) (by omega) hB hz2 hD1 ht1 hv1)

/-! THE CLASS: its actions -/
set_option maxRecDepth 4000 in
set_option maxHeartbeats 4000000 in
theorem s_X0_noteRecord {n : Nat} {sh : mS} {G : mG} {I : mI} {J : mJ} {d : Nat} {σ : sT} {T N : Nat} (hd : DevG n sh G d) (hR : RelD d I σ T N) (hI : Inv σ) (hT : T + 1 < 1000000) (k : Nat) (hk : k < 8) (v : Int32) : Sp yX0_noteRecord cX0_noteRecord 3 none 3 144 0 0 [.ref d, .int (nI k), .int v] n sh G I J (Qv (fun I_ J_ => J = J_ ∧ RelE d I_ (fRec k v σ).2 T 1 N ∧ FD d [11, 12, 13, 14, 15] I I_)) nX := by
  refine Sp.of (by decide) (ls := [(0, .ref d), (1, .int (nI k)), (2, .int v)]) (fun _ => rfl) (fun _ => Nat.le_of_ble_eq_true rfl) ?_
  refine rc_p (p_iload_n 1 (dk_at ktX0_noteRecord_0 0 rfl) rfl rfl (b := 1) rfl) ?_
  refine rc_p (p_iconst (v := 3) (dk_at ktX0_noteRecord_0 1 rfl) (by decide) (b := 2) rfl) ?_
  refine r_icmp_ne (dk_at ktX0_noteRecord_0 2 rfl) (b := 14) (by decide) (b2 := 5) rfl (fun c2 => ?_) (fun c2 => ?_)
  · have c2 : ¬ k = 3 := fun h => c2 ((nI_eq (a := k) (b := 3) (by omega) (by omega)).mpr h)
    refine rc_p (p_iload_n 1 (dk_at ktX0_noteRecord_0 8 rfl) rfl rfl (b := 15) rfl) ?_
    refine rc_p (p_iconst (v := 2) (dk_at ktX0_noteRecord_0 9 rfl) (by decide) (b := 16) rfl) ?_
    refine r_icmp_ne (dk_at ktX0_noteRecord_0 10 rfl) (b := 28) (by decide) (b2 := 19) rfl (fun c16 => ?_) (fun c16 => ?_)
    · have c16 : ¬ k = 2 := fun h => c16 ((nI_eq (a := k) (b := 2) (by omega) (by omega)).mpr h)
      refine rc_p (p_iload_n 1 (dk_at ktX0_noteRecord_0 16 rfl) rfl rfl (b := 29) rfl) ?_
      refine rc_p (p_iconst (v := 5) (dk_at ktX0_noteRecord_0 17 rfl) (by decide) (b := 30) rfl) ?_
      refine r_icmp_ne (dk_at ktX0_noteRecord_0 18 rfl) (b := 39) (by decide) (b2 := 33) rfl (fun c30 => ?_) (fun c30 => ?_)
      · have c30 : ¬ k = 5 := fun h => c30 ((nI_eq (a := k) (b := 5) (by omega) (by omega)).mpr h)
        refine r_vret (dk_at ktX0_noteRecord_0 23 rfl) rfl ⟨rfl, ?_⟩
        rw [fRec_o c2 c16 c30]
        exact ⟨rfl, RelE.of hR (by omega), FD.rf⟩
      · have c30 : k = 5 := (nI_eq (a := k) (b := 5) (by omega) (by omega)).mp c30
        refine rc_p (p_aload_n 0 (dk_at ktX0_noteRecord_0 19 rfl) rfl rfl (b := 34) rfl) ?_
        refine rc_p (p_iconst (v := 4) (dk_at ktX0_noteRecord_0 20 rfl) (by decide) (b := 35) rfl) ?_
        refine rc_p (p_iload_n 2 (dk_at ktX0_noteRecord_0 21 rfl) rfl rfl (b := 36) rfl) ?_
        refine r_vV (As' := [.int 4, .int v]) (rest := []) (s_X0_note hd (σ := σ) hR hI (by omega) 4 (by omega) v) cw_X0_87 qi_X0_note qv_X0_note rfl hd.l0 hd.s0 (dk_at ktX0_noteRecord_0 22 rfl) rfl rfl (Nat.le_of_ble_eq_true rfl) (by decide) (b := 39) rfl (fun I1 J2 q3 => ?_)
        obtain ⟨rfl, hR5, hF6⟩ := q3
        refine r_vret (dk_at ktX0_noteRecord_0 23 rfl) rfl ⟨rfl, ?_⟩
        subst c30
        rw [fRec_5]
        exact ⟨rfl, RelE.of hR5 (by omega), (FD.tr FD.rf (hF6.mo (by simp <;> omega)))⟩
    · have c16 : k = 2 := (nI_eq (a := k) (b := 2) (by omega) (by omega)).mp c16
      refine rc_p (p_aload_n 0 (dk_at ktX0_noteRecord_0 11 rfl) rfl rfl (b := 20) rfl) ?_
      refine rc_p (p_iconst (v := 3) (dk_at ktX0_noteRecord_0 12 rfl) (by decide) (b := 21) rfl) ?_
      refine rc_p (p_iload_n 2 (dk_at ktX0_noteRecord_0 13 rfl) rfl rfl (b := 22) rfl) ?_
      refine r_vV (As' := [.int 3, .int v]) (rest := []) (s_X0_note hd (σ := σ) hR hI (by omega) 3 (by omega) v) cw_X0_87 qi_X0_note qv_X0_note rfl hd.l0 hd.s0 (dk_at ktX0_noteRecord_0 14 rfl) rfl rfl (Nat.le_of_ble_eq_true rfl) (by decide) (b := 25) rfl (fun I7 J8 q9 => ?_)
      obtain ⟨rfl, hR11, hF12⟩ := q9
      refine rc_p (p_goto (b := 39) (dk_at ktX0_noteRecord_0 15 rfl) (by decide)) ?_
      refine r_vret (dk_at ktX0_noteRecord_0 23 rfl) rfl ⟨rfl, ?_⟩
      subst c16
      rw [fRec_2]
      exact ⟨rfl, RelE.of hR11 (by omega), (FD.tr FD.rf (hF12.mo (by simp <;> omega)))⟩
  · have c2 : k = 3 := (nI_eq (a := k) (b := 3) (by omega) (by omega)).mp c2
    refine rc_p (p_aload_n 0 (dk_at ktX0_noteRecord_0 3 rfl) rfl rfl (b := 6) rfl) ?_
    refine rc_p (p_iconst (v := 2) (dk_at ktX0_noteRecord_0 4 rfl) (by decide) (b := 7) rfl) ?_
    refine rc_p (p_iload_n 2 (dk_at ktX0_noteRecord_0 5 rfl) rfl rfl (b := 8) rfl) ?_
    refine r_vV (As' := [.int 2, .int v]) (rest := []) (s_X0_note hd (σ := σ) hR hI (by omega) 2 (by omega) v) cw_X0_87 qi_X0_note qv_X0_note rfl hd.l0 hd.s0 (dk_at ktX0_noteRecord_0 6 rfl) rfl rfl (Nat.le_of_ble_eq_true rfl) (by decide) (b := 11) rfl (fun I13 J14 q15 => ?_)
    obtain ⟨rfl, hR17, hF18⟩ := q15
    refine rc_p (p_goto (b := 39) (dk_at ktX0_noteRecord_0 7 rfl) (by decide)) ?_
    refine r_vret (dk_at ktX0_noteRecord_0 23 rfl) rfl ⟨rfl, ?_⟩
    subst c2
    rw [fRec_3]
    exact ⟨rfl, RelE.of hR17 (by omega), (FD.tr FD.rf (hF18.mo (by simp <;> omega)))⟩
set_option maxRecDepth 4000 in
set_option maxHeartbeats 4000000 in
theorem s_X0_appendRecord {n : Nat} {sh : mS} {G : mG} {I : mI} {J : mJ} {d : Nat} {σ : sT} {T N : Nat} (hd : DevG n sh G d) (hR : RelD d I σ T N) (hI : Inv σ) (hT : T + 2 < 1000000) (hL : LedR d I σ) (k : Nat) (hk : k < 8) (v : Int32) : Sp yX0_appendRecord cX0_appendRecord 5 (some FieldType.boolean) 5 190 0 0 [.ref d, .int (nI k), .int v] n sh G I J (Qi (fun r_ I_ J_ => bi ((fApp k v σ).1) = r_ ∧ J = J_ ∧ RelE d I_ ((fApp k v σ).2) T 2 N ∧ FD d [1, 3, 4, 5, 6, 8, 9, 10, 11, 12, 13, 14, 15, 16, 17] I I_ ∧ ((fApp k v σ).1 = true → LedR d I_ (fApp k v σ).2))) nX := by
  refine Sp.of (by decide) (ls := [(0, .ref d), (1, .int (nI k)), (2, .int v)]) (fun _ => rfl) (fun _ => Nat.le_of_ble_eq_true rfl) ?_
  have cut73 : ∀ (p : Nat), p < 2 → ∀ (Iz : mI) (σz : sT) (Tz : Nat), Tz ≤ T + 1 → activeI σz = nI p → RelD d Iz σz Tz N → Inv σz → FD d [1, 3, 4, 5, 6, 8, 9, 10, 11, 12, 13, 14, 15, 16, 17] I Iz → LedR d Iz σz → ffree σz p (nJ σz) < nJ σz → fApp k v σ = fPut k v σz → Rc RX0 cX0_appendRecord 5 (some FieldType.boolean) 5 190 0 0 n sh G (Qi (fun r_ I_ J_ => bi ((fApp k v σ).1) = r_ ∧ J = J_ ∧ RelE d I_ ((fApp k v σ).2) T 2 N ∧ FD d [1, 3, 4, 5, 6, 8, 9, 10, 11, 12, 13, 14, 15, 16, 17] I I_ ∧ ((fApp k v σ).1 = true → LedR d I_ (fApp k v σ).2))) nX 0 0 73 [(0, .ref d), (1, .int (nI k)), (2, .int v)] [] Iz J := by
    intro p hp Iz σz Tz hTz hAz hRz hIz hFz hLz hf hE
    have hbz := hIz.bd
    have hN := hRz.2.2.2.2.1
    refine rc_p (p_aload_n 0 (dk_at ktX0_appendRecord_0 35 rfl) rfl rfl (b := 74) rfl) ?_
    refine r_geta fl_X0_12 rfl hd.l0 hd.s0 (dk_at ktX0_appendRecord_0 36 rfl) hd.g0_0 (b := 77) rfl ?_
    refine rc_p (p_iconst (v := 2) (dk_at ktX0_appendRecord_0 37 rfl) (by decide) (b := 78) rfl) ?_
    refine rc_p (p_aload_n 0 (dk_at ktX0_appendRecord_0 38 rfl) rfl rfl (b := 79) rfl) ?_
    refine r_geta fl_X0_28 rfl hd.l0 hd.s0 (dk_at ktX0_appendRecord_0 39 rfl) hd.g0_2 (b := 82) rfl ?_
    refine r_geti fl_X0_115 rfl (hd.lt 16 (by decide)) hd.s16 (dk_at ktX0_appendRecord_0 40 rfl) (v := (nI p)) (hLz.1.trans hAz) (b := 85) rfl ?_
    refine rc_p (p_iadd (v := (nI (2 + p))) (dk_at ktX0_appendRecord_0 41 rfl) (nI_add 2 p) (b := 86) rfl) ?_
    refine rc_p (p_aload_n 0 (dk_at ktX0_appendRecord_0 42 rfl) rfl rfl (b := 87) rfl) ?_
    refine r_geta fl_X0_28 rfl hd.l0 hd.s0 (dk_at ktX0_appendRecord_0 43 rfl) hd.g0_2 (b := 90) rfl ?_
    refine r_geti fl_X0_132 rfl (hd.lt 16 (by decide)) hd.s16 (dk_at ktX0_appendRecord_0 44 rfl) (v := (nI (ffree σz p (nJ σz)))) ((hLz.2.2.1 p hp hAz).2.1) (b := 93) rfl ?_
    refine rc_p (p_iload_n 1 (dk_at ktX0_appendRecord_0 45 rfl) rfl rfl (b := 94) rfl) ?_
    refine rc_p (p_iload_n 2 (dk_at ktX0_appendRecord_0 46 rfl) rfl rfl (b := 95) rfl) ?_
    refine r_iS (As := [.int (nI k), .int v]) (rest := [.int (nI (ffree σz p (nJ σz))), .int (nI (2 + p)), .ref (d + 1)]) (s_X2_wordOf (nI k) v) cw_X0_107 qs_X2_wordOf (dk_at ktX0_appendRecord_0 47 rfl) rfl rfl (Nat.le_of_ble_eq_true rfl) (by decide) (b := 98) rfl (fun v4 I1 J2 q3 => ?_)
    obtain ⟨rfl, rfl, rfl⟩ := q3
    refine r_iV (As' := [.int (nI (2 + p)), .int (nI (ffree σz p (nJ σz))), .int (wordI (nI k) v)]) (rest := []) (s_X1_write hd (σ := σz) hRz hIz (2 + p) (ffree σz p (nJ σz)) (211 + 32 * p + ffree σz p (nJ σz)) (by omega) (by omega) (lc_j (by omega) (by omega)) (wordI (nI k) v)) cw_X0_111 qi_X1_write qv_X1_write rfl (hd.lt 1 (by decide)) hd.s1 (dk_at ktX0_appendRecord_0 48 rfl) rfl rfl (Nat.le_of_ble_eq_true rfl) (by decide) (b := 101) rfl (fun v8 I5 J6 q7 => ?_)
    obtain ⟨rfl, rfl, hR9, hF10⟩ := q7
    refine r_if_ne (dk_at ktX0_appendRecord_0 49 rfl) (b := 106) (by decide) (b2 := 104) rfl (fun c101 => ?_) (fun c101 => ?_)
    · have c101 := bi_t c101
      refine rc_p (p_aload_n 0 (dk_at ktX0_appendRecord_0 52 rfl) rfl rfl (b := 107) rfl) ?_
      refine rc_p (p_iload_n 1 (dk_at ktX0_appendRecord_0 53 rfl) rfl rfl (b := 108) rfl) ?_
      refine rc_p (p_iload_n 2 (dk_at ktX0_appendRecord_0 54 rfl) rfl rfl (b := 109) rfl) ?_
      refine r_vV (As' := [.int (nI k), .int v]) (rest := []) (s_X0_noteRecord hd (σ := (sWr σz (211 + 32 * p + ffree σz p (nJ σz)) (wordI (nI k) v))) hR9 (Inv.wr hIz (by omega) (by omega)) (by omega) k (by omega) v) cw_X0_148 qi_X0_noteRecord qv_X0_noteRecord rfl hd.l0 hd.s0 (dk_at ktX0_appendRecord_0 55 rfl) rfl rfl (Nat.le_of_ble_eq_true rfl) (by decide) (b := 112) rfl (fun I11 J12 q13 => ?_)
      obtain ⟨rfl, ⟨T15, hT16, hR17⟩, hF18⟩ := q13
      refine rc_p (p_aload_n 0 (dk_at ktX0_appendRecord_0 56 rfl) rfl rfl (b := 113) rfl) ?_
      refine r_geta fl_X0_28 rfl hd.l0 hd.s0 (dk_at ktX0_appendRecord_0 57 rfl) hd.g0_2 (b := 116) rfl ?_
      refine rc_p (p_aload_n 0 (dk_at ktX0_appendRecord_0 58 rfl) rfl rfl (b := 117) rfl) ?_
      refine r_geta fl_X0_12 rfl hd.l0 hd.s0 (dk_at ktX0_appendRecord_0 59 rfl) hd.g0_0 (b := 120) rfl ?_
      refine r_vV (As' := [.ref (d + 1)]) (rest := []) (s_X2_readFrom hd (σ := (fRec k v (sWr σz (211 + 32 * p + ffree σz p (nJ σz)) (wordI (nI k) v))).2) hR17 (Inv.rec (Inv.wr hIz (by omega) (by omega)))) cw_X0_145 qi_X2_readFrom qv_X2_readFrom rfl (hd.lt 16 (by decide)) hd.s16 (dk_at ktX0_appendRecord_1 0 rfl) rfl rfl (Nat.le_of_ble_eq_true rfl) (by decide) (b := 123) rfl (fun I19 J20 q21 => ?_)
      obtain ⟨rfl, hR23, hL25, hF24⟩ := q21
      refine rc_p (p_iconst (v := 1) (dk_at ktX0_appendRecord_1 1 rfl) (by decide) (b := 124) rfl) ?_
      refine r_iret (dk_at ktX0_appendRecord_1 2 rfl) rfl rfl ⟨_, rfl, ?_⟩
      have he : fApp k v σ = (true, (fRec k v (sWr σz (211 + 32 * p + ffree σz p (nJ σz)) (wordI (nI k) v))).2) := hE.trans (fPut_e hp hAz c101 rfl)
      exact ⟨by rw [he]; rfl, rfl, by rw [he]; exact RelE.of hR23 (by omega), FD.tr (FD.tr (FD.tr hFz (hF10.mo (by simp <;> omega))) (hF18.mo (by simp))) (hF24.mo (by simp)), fun _ => by rw [he]; exact hL25⟩
    · have c101 := bi_f c101
      refine rc_p (p_iconst (v := 0) (dk_at ktX0_appendRecord_0 50 rfl) (by decide) (b := 105) rfl) ?_
      refine r_iret (dk_at ktX0_appendRecord_0 51 rfl) rfl rfl ⟨_, rfl, ?_⟩
      have he : fApp k v σ = (false, (sWr σz (211 + 32 * p + ffree σz p (nJ σz)) (wordI (nI k) v))) := hE.trans (fPut_e hp hAz c101 rfl)
      exact ⟨by rw [he]; rfl, rfl, by rw [he]; exact RelE.of hR9 (by omega), FD.tr hFz (hF10.mo (by simp <;> omega)), fun q => by rw [he] at q; exact absurd (show false = true from q) (by decide)⟩
  have hb := hI.bd
  have hN := hR.2.2.2.2.1
  refine rc_p (p_aload_n 0 (dk_at ktX0_appendRecord_0 0 rfl) rfl rfl (b := 1) rfl) ?_
  refine r_geta fl_X0_28 rfl hd.l0 hd.s0 (dk_at ktX0_appendRecord_0 1 rfl) hd.g0_2 (b := 4) rfl ?_
  refine r_geti fl_X0_115 rfl (hd.lt 16 (by decide)) hd.s16 (dk_at ktX0_appendRecord_0 2 rfl) (v := (activeI σ)) hL.1 (b := 7) rfl ?_
  refine rc_p (p_iconst (v := (-1)) (dk_at ktX0_appendRecord_0 3 rfl) (by decide) (b := 8) rfl) ?_
  refine r_icmp_eq (dk_at ktX0_appendRecord_0 4 rfl) (b := 15) (by decide) (b2 := 11) rfl (fun c8 => ?_) (fun c8 => ?_)
  · skip
    refine rc_p (p_iconst (v := 0) (dk_at ktX0_appendRecord_0 7 rfl) (by decide) (b := 16) rfl) ?_
    refine rc_p (p_istore_n (ls' := [(3, .int 0), (0, .ref d), (1, .int (nI k)), (2, .int v)]) (dk_at ktX0_appendRecord_0 8 rfl) rfl (by decide) rfl (b := 17) rfl) ?_
    refine rc_p (p_iload_n 0 (dk_at ktX0_appendRecord_0 9 rfl) rfl rfl (b := 18) rfl) ?_
    refine r_if_eq (dk_at ktX0_appendRecord_0 10 rfl) (b := 38) (by decide) (b2 := 21) rfl (fun c18 => ?_) (fun c18 => ?_)
    · skip
      refine rc_p (p_iload_n 0 (dk_at ktX0_appendRecord_0 18 rfl) rfl rfl (b := 39) rfl) ?_
      refine r_if_eq (dk_at ktX0_appendRecord_0 19 rfl) (b := 49) (by decide) (b2 := 42) rfl (fun c39 => ?_) (fun c39 => ?_)
      · skip
        refine rc_p (p_aload_n 1 (dk_at ktX0_appendRecord_0 23 rfl) rfl rfl (b := 50) rfl) ?_
        refine r_iV (As' := []) (rest := []) (s_X0_formatJournal hd (σ := σ) hR hI (by omega)) cw_X0_142 qi_X0_formatJournal qv_X0_formatJournal rfl hd.l0 hd.s0 (dk_at ktX0_appendRecord_0 24 rfl) rfl rfl (Nat.le_of_ble_eq_true rfl) (by decide) (b := 53) rfl (fun v29 I26 J27 q28 => ?_)
        obtain ⟨rfl, rfl, ⟨T30, hT31, hR32⟩, hF33⟩ := q28
        refine rc_p (p_istore (ls' := [(4, .int (bi ((fFormat σ).1))), (3, .int 0), (0, .ref d), (1, .int (nI k)), (2, .int v)]) (dk_at ktX0_appendRecord_0 25 rfl) (by decide) rfl (b := 55) rfl) ?_
        refine rc_p (p_iload 0 (dk_at ktX0_appendRecord_0 26 rfl) rfl (b := 57) rfl) ?_
        refine r_if_ne (dk_at ktX0_appendRecord_0 27 rfl) (b := 62) (by decide) (b2 := 60) rfl (fun c57 => ?_) (fun c57 => ?_)
        · have c57 := bi_t c57
          refine rc_p (p_aload_n 2 (dk_at ktX0_appendRecord_0 30 rfl) rfl rfl (b := 63) rfl) ?_
          refine r_geta fl_X0_28 rfl hd.l0 hd.s0 (dk_at ktX0_appendRecord_0 31 rfl) hd.g0_2 (b := 66) rfl ?_
          refine rc_p (p_aload_n 2 (dk_at ktX0_appendRecord_0 32 rfl) rfl rfl (b := 67) rfl) ?_
          refine r_geta fl_X0_12 rfl hd.l0 hd.s0 (dk_at ktX0_appendRecord_0 33 rfl) hd.g0_0 (b := 70) rfl ?_
          refine r_vV (As' := [.ref (d + 1)]) (rest := []) (s_X2_readFrom hd (σ := (fFormat σ).2) hR32 (Inv.fmt hI)) cw_X0_145 qi_X2_readFrom qv_X2_readFrom rfl (hd.lt 16 (by decide)) hd.s16 (dk_at ktX0_appendRecord_0 34 rfl) rfl rfl (Nat.le_of_ble_eq_true rfl) (by decide) (b := 73) rfl (fun I35 J36 q37 => ?_)
          obtain ⟨rfl, hR39, hL41, hF40⟩ := q37
          refine rc_sub [2, 3, 4] (ls' := [(0, .ref d), (1, .int (nI k)), (2, .int v)]) rfl ?_
          have hJ1 : nJ (fFormat σ).2 = nJ σ := nJ_of (fFormat_ne Kp_2)
          have hf1 := free_fmt hI c57
          have ha1 := act_0 hI c8 c57
          exact cut73 0 (by decide) I35 _ T30 (by omega) ha1 hR39 (Inv.fmt hI) ((FD.tr (FD.tr FD.rf (hF33.mo (by simp <;> omega))) (hF40.mo (by simp <;> omega)))) hL41 (by rw [hJ1]; omega) (by unfold fApp; rw [sq_e (f := fPrep) (by rw [fPrep_t c8]; exact pr_e c57), sq_e (f := fFull) (fFull_f (by decide) ha1 (by rw [hJ1]; omega))])
        · have c57 := bi_f c57
          refine rc_p (p_iconst (v := 0) (dk_at ktX0_appendRecord_0 28 rfl) (by decide) (b := 61) rfl) ?_
          refine r_iret (dk_at ktX0_appendRecord_0 29 rfl) rfl rfl ⟨_, rfl, ?_⟩
          have he : fApp k v σ = (false, (fFormat σ).2) := by
            unfold fApp; rw [sq_n (f := fPrep) (by rw [fPrep_t c8]; exact pr_e c57)]
          exact ⟨by rw [he]; rfl, rfl, by rw [he]; exact RelE.of hR32 (by omega), (FD.tr FD.rf (hF33.mo (by simp <;> omega))), fun q => by rw [he] at q; exact absurd (show false = true from q) (by decide)⟩
      · first | exact absurd c39 (by decide) | exact absurd (by decide) c39
    · first | exact absurd c18 (by decide) | exact absurd (by decide) c18
  · skip
    obtain ⟨p, hp, hA⟩ := act_n rfl c8
    have hfl := ffree_le σ p (nJ σ)
    refine rc_p (p_iconst (v := 1) (dk_at ktX0_appendRecord_0 5 rfl) (by decide) (b := 12) rfl) ?_
    refine rc_p (p_goto (b := 16) (dk_at ktX0_appendRecord_0 6 rfl) (by decide)) ?_
    refine rc_p (p_istore_n (ls' := [(3, .int 1), (0, .ref d), (1, .int (nI k)), (2, .int v)]) (dk_at ktX0_appendRecord_0 8 rfl) rfl (by decide) rfl (b := 17) rfl) ?_
    refine rc_p (p_iload_n 0 (dk_at ktX0_appendRecord_0 9 rfl) rfl rfl (b := 18) rfl) ?_
    refine r_if_eq (dk_at ktX0_appendRecord_0 10 rfl) (b := 38) (by decide) (b2 := 21) rfl (fun c18 => ?_) (fun c18 => ?_)
    · first | exact absurd c18 (by decide) | exact absurd (by decide) c18
    · skip
      refine rc_p (p_aload_n 1 (dk_at ktX0_appendRecord_0 11 rfl) rfl rfl (b := 22) rfl) ?_
      refine r_geta fl_X0_28 rfl hd.l0 hd.s0 (dk_at ktX0_appendRecord_0 12 rfl) hd.g0_2 (b := 25) rfl ?_
      refine r_geti fl_X0_132 rfl (hd.lt 16 (by decide)) hd.s16 (dk_at ktX0_appendRecord_0 13 rfl) (v := (nI (ffree σ p (nJ σ)))) ((hL.2.2.1 p hp hA).2.1) (b := 28) rfl ?_
      refine rc_p (p_aload_n 1 (dk_at ktX0_appendRecord_0 14 rfl) rfl rfl (b := 29) rfl) ?_
      refine r_geta fl_X0_12 rfl hd.l0 hd.s0 (dk_at ktX0_appendRecord_0 15 rfl) hd.g0_0 (b := 32) rfl ?_
      refine r_geti fl_X0_135 rfl (hd.lt 1 (by decide)) hd.s1 (dk_at ktX0_appendRecord_0 16 rfl) (v := (nI (nJ σ))) ((hR.1 1 5 2 lc_1_5).trans (hI).w2) (b := 35) rfl ?_
      refine r_icmp_lt (dk_at ktX0_appendRecord_0 17 rfl) (b := 73) (by decide) (b2 := 38) rfl (fun c35 => ?_) (fun c35 => ?_)
      · have c35 : (ffree σ p (nJ σ)) < (nJ σ) := (nI_ltI (a := ffree σ p (nJ σ)) (b := nJ σ) (by omega) (by omega)).mp c35
        refine rc_sub [1, 2, 3] (ls' := [(0, .ref d), (1, .int (nI k)), (2, .int v)]) rfl ?_
        exact cut73 p hp I σ T (by omega) hA hR hI FD.rf hL (by omega) (by unfold fApp; rw [sq_e (f := fPrep) (fPrep_f (by rw [hA]; exact nI_nm1 (by omega))), sq_e (f := fFull) (fFull_f hp hA (by omega))])
      · have c35 : ¬ (ffree σ p (nJ σ)) < (nJ σ) := fun h => c35 ((nI_ltI (a := ffree σ p (nJ σ)) (b := nJ σ) (by omega) (by omega)).mpr h)
        refine rc_p (p_iload_n 0 (dk_at ktX0_appendRecord_0 18 rfl) rfl rfl (b := 39) rfl) ?_
        refine r_if_eq (dk_at ktX0_appendRecord_0 19 rfl) (b := 49) (by decide) (b2 := 42) rfl (fun c39 => ?_) (fun c39 => ?_)
        · first | exact absurd c39 (by decide) | exact absurd (by decide) c39
        · skip
          refine rc_p (p_aload_n 1 (dk_at ktX0_appendRecord_0 20 rfl) rfl rfl (b := 43) rfl) ?_
          refine r_iV (As' := []) (rest := []) (s_X0_moveRecords hd (σ := σ) hR hI (by omega) hL p hp hA) cw_X0_138 qi_X0_moveRecords qv_X0_moveRecords rfl hd.l0 hd.s0 (dk_at ktX0_appendRecord_0 21 rfl) rfl rfl (Nat.le_of_ble_eq_true rfl) (by decide) (b := 46) rfl (fun v45 I42 J43 q44 => ?_)
          obtain ⟨rfl, rfl, ⟨T46, hT47, hR48⟩, hF49⟩ := q44
          refine rc_p (p_goto (b := 53) (dk_at ktX0_appendRecord_0 22 rfl) (by decide)) ?_
          refine rc_p (p_istore (ls' := [(4, .int (bi ((fMoveP p σ).1))), (3, .int 1), (0, .ref d), (1, .int (nI k)), (2, .int v)]) (dk_at ktX0_appendRecord_0 25 rfl) (by decide) rfl (b := 55) rfl) ?_
          refine rc_p (p_iload 0 (dk_at ktX0_appendRecord_0 26 rfl) rfl (b := 57) rfl) ?_
          refine r_if_ne (dk_at ktX0_appendRecord_0 27 rfl) (b := 62) (by decide) (b2 := 60) rfl (fun c57 => ?_) (fun c57 => ?_)
          · have c57 := bi_t c57
            refine rc_p (p_aload_n 2 (dk_at ktX0_appendRecord_0 30 rfl) rfl rfl (b := 63) rfl) ?_
            refine r_geta fl_X0_28 rfl hd.l0 hd.s0 (dk_at ktX0_appendRecord_0 31 rfl) hd.g0_2 (b := 66) rfl ?_
            refine rc_p (p_aload_n 2 (dk_at ktX0_appendRecord_0 32 rfl) rfl rfl (b := 67) rfl) ?_
            refine r_geta fl_X0_12 rfl hd.l0 hd.s0 (dk_at ktX0_appendRecord_0 33 rfl) hd.g0_0 (b := 70) rfl ?_
            refine r_vV (As' := [.ref (d + 1)]) (rest := []) (s_X2_readFrom hd (σ := (fMoveP p σ).2) hR48 (Inv.mvp hI hp)) cw_X0_145 qi_X2_readFrom qv_X2_readFrom rfl (hd.lt 16 (by decide)) hd.s16 (dk_at ktX0_appendRecord_0 34 rfl) rfl rfl (Nat.le_of_ble_eq_true rfl) (by decide) (b := 73) rfl (fun I51 J52 q53 => ?_)
            obtain ⟨rfl, hR55, hL57, hF56⟩ := q53
            refine rc_sub [2, 3, 4] (ls' := [(0, .ref d), (1, .int (nI k)), (2, .int v)]) rfl ?_
            exact cut73 (1 - p) (by omega) I51 _ T46 (by omega) (move_end hI hp hA c57).1 hR55 (Inv.mvp hI hp) ((FD.tr (FD.tr FD.rf (hF49.mo (by simp <;> omega))) (hF56.mo (by simp <;> omega)))) hL57 (by have := (move_end hI hp hA c57).2; rw [nJ_mvp]; omega) (by unfold fApp; rw [sq_e (f := fPrep) (fPrep_f (by rw [hA]; exact nI_nm1 (by omega))), sq_e (f := fFull) (by rw [fFull_t hp hA (by omega)]; exact pr_e c57)])
          · have c57 := bi_f c57
            refine rc_p (p_iconst (v := 0) (dk_at ktX0_appendRecord_0 28 rfl) (by decide) (b := 61) rfl) ?_
            refine r_iret (dk_at ktX0_appendRecord_0 29 rfl) rfl rfl ⟨_, rfl, ?_⟩
            have he : fApp k v σ = (false, (fMoveP p σ).2) := by
              unfold fApp; rw [sq_e (f := fPrep) (fPrep_f (by rw [hA]; exact nI_nm1 (by omega))), sq_n (f := fFull) (by rw [fFull_t hp hA (by omega)]; exact pr_e c57)]
            exact ⟨by rw [he]; rfl, rfl, by rw [he]; exact RelE.of hR48 (by omega), (FD.tr FD.rf (hF49.mo (by simp <;> omega))), fun q => by rw [he] at q; exact absurd (show false = true from q) (by decide)⟩
set_option maxRecDepth 4000 in
set_option maxHeartbeats 4000000 in
theorem s_X0_canStart {n : Nat} {sh : mS} {G : mG} {I : mI} {J : mJ} {d : Nat} {σ : sT} {T N : Nat} (hd : DevG n sh G d) (hR : RelD d I σ T N) (hI : Inv σ) (hL : LedR d I σ) (s : Nat) (hs : s < 2) : Sp yX0_canStart cX0_canStart 2 (some FieldType.boolean) 4 165 0 0 [.ref d, .int (nI s)] n sh G I J (Qi (fun r_ I_ J_ => bi (canB σ s) = r_ ∧ I = I_ ∧ J = J_)) nX := by
  refine Sp.of (by decide) (ls := [(0, .ref d), (1, .int (nI s))]) (fun _ => rfl) (fun _ => Nat.le_of_ble_eq_true rfl) ?_
  refine rc_p (p_aload_n 0 (dk_at ktX0_canStart_0 0 rfl) rfl rfl (b := 1) rfl) ?_
  refine r_geta fl_X0_12 rfl hd.l0 hd.s0 (dk_at ktX0_canStart_0 1 rfl) hd.g0_0 (b := 4) rfl ?_
  refine rc_p (p_iload_n 1 (dk_at ktX0_canStart_0 2 rfl) rfl rfl (b := 5) rfl) ?_
  refine r_iV (As' := [.int (nI s)]) (rest := []) (s_X1_holdsImage hd (σ := σ) hR hI s (by omega)) cw_X0_90 qi_X1_holdsImage qv_X1_holdsImage rfl (hd.lt 1 (by decide)) hd.s1 (dk_at ktX0_canStart_0 3 rfl) rfl rfl (Nat.le_of_ble_eq_true rfl) (by decide) (b := 8) rfl (fun v4 I1 J2 q3 => ?_)
  obtain ⟨rfl, rfl, rfl⟩ := q3
  refine r_if_eq (dk_at ktX0_canStart_0 4 rfl) (b := 47) (by decide) (b2 := 11) rfl (fun c8 => ?_) (fun c8 => ?_)
  · have c8 := bi_f c8
    refine rc_p (p_iconst (v := 0) (dk_at ktX0_canStart_0 23 rfl) (by decide) (b := 48) rfl) ?_
    refine r_iret (dk_at ktX0_canStart_0 24 rfl) rfl rfl ⟨_, rfl, ?_⟩
    refine ⟨?_, rfl, rfl⟩
    rw [canB_i]
    simp_all [bi, ← Int32.not_le]
  · have c8 := bi_t c8
    refine rc_p (p_aload_n 0 (dk_at ktX0_canStart_0 5 rfl) rfl rfl (b := 12) rfl) ?_
    refine r_geta fl_X0_12 rfl hd.l0 hd.s0 (dk_at ktX0_canStart_0 6 rfl) hd.g0_0 (b := 15) rfl ?_
    refine r_geta fl_X0_94 rfl (hd.lt 1 (by decide)) hd.s1 (dk_at ktX0_canStart_0 7 rfl) hd.g1_0 (b := 18) rfl ?_
    refine rc_p (p_iload_n 1 (dk_at ktX0_canStart_0 8 rfl) rfl rfl (b := 19) rfl) ?_
    refine r_aald (j := s) (id2 := (d + 3 + s)) (hd.lt 2 (by decide)) hd.s2 (by decide) (dk_at ktX0_canStart_0 9 rfl) rfl ⟨by omega, by decide⟩ (hd.gc (by omega)) (b := 20) rfl ?_
    refine rc_p (p_iconst (v := 0) (dk_at ktX0_canStart_0 10 rfl) (by decide) (b := 21) rfl) ?_
    refine r_iald (j := 0) (by have := hd.1; omega) (hd.sc (by omega)) (dk_at ktX0_canStart_0 11 rfl) rfl ⟨by decide, by decide⟩ (v := (σ (83 + 64 * s + 0))) (hR.at3 (q := 3) (r := s) (k := 0) (a := 83 + 64 * s + 0) (lc_s (by omega) (by decide))) (b := 22) rfl ?_
    refine rc_p (p_aload_n 0 (dk_at ktX0_canStart_0 12 rfl) rfl rfl (b := 23) rfl) ?_
    refine r_geta fl_X0_28 rfl hd.l0 hd.s0 (dk_at ktX0_canStart_0 13 rfl) hd.g0_2 (b := 26) rfl ?_
    refine r_geti fl_X0_98 rfl (hd.lt 16 (by decide)) hd.s16 (dk_at ktX0_canStart_0 14 rfl) (v := (told σ 0)) (hL.2.2.2 0 (by decide)) (b := 29) rfl ?_
    refine r_icmp_lt (dk_at ktX0_canStart_0 15 rfl) (b := 47) (by decide) (b2 := 32) rfl (fun c29 => ?_) (fun c29 => ?_)
    · skip
      refine rc_p (p_iconst (v := 0) (dk_at ktX0_canStart_0 23 rfl) (by decide) (b := 48) rfl) ?_
      refine r_iret (dk_at ktX0_canStart_0 24 rfl) rfl rfl ⟨_, rfl, ?_⟩
      refine ⟨?_, rfl, rfl⟩
      rw [canB_i]
      simp_all [bi, ← Int32.not_le]
    · skip
      refine rc_p (p_aload_n 0 (dk_at ktX0_canStart_0 16 rfl) rfl rfl (b := 33) rfl) ?_
      refine r_geta fl_X0_28 rfl hd.l0 hd.s0 (dk_at ktX0_canStart_0 17 rfl) hd.g0_2 (b := 36) rfl ?_
      refine rc_p (p_iload_n 1 (dk_at ktX0_canStart_0 18 rfl) rfl rfl (b := 37) rfl) ?_
      refine r_iV (As' := [.int (nI s)]) (rest := []) (s_X2_isBad hd (τ := (told σ)) hL.2.2.2 s) cw_X0_101 qi_X2_isBad qv_X2_isBad rfl (hd.lt 16 (by decide)) hd.s16 (dk_at ktX0_canStart_0 19 rfl) rfl rfl (Nat.le_of_ble_eq_true rfl) (by decide) (b := 40) rfl (fun v8 I5 J6 q7 => ?_)
      obtain ⟨rfl, rfl, rfl⟩ := q7
      refine r_if_ne (dk_at ktX0_canStart_0 20 rfl) (b := 47) (by decide) (b2 := 43) rfl (fun c40 => ?_) (fun c40 => ?_)
      · have c40 := bi_t c40
        refine rc_p (p_iconst (v := 0) (dk_at ktX0_canStart_0 23 rfl) (by decide) (b := 48) rfl) ?_
        refine r_iret (dk_at ktX0_canStart_0 24 rfl) rfl rfl ⟨_, rfl, ?_⟩
        refine ⟨?_, rfl, rfl⟩
        rw [canB_i]
        simp_all [bi, ← Int32.not_le]
      · have c40 := bi_f c40
        refine rc_p (p_iconst (v := 1) (dk_at ktX0_canStart_0 21 rfl) (by decide) (b := 44) rfl) ?_
        refine rc_p (p_goto (b := 48) (dk_at ktX0_canStart_0 22 rfl) (by decide)) ?_
        refine r_iret (dk_at ktX0_canStart_0 24 rfl) rfl rfl ⟨_, rfl, ?_⟩
        refine ⟨?_, rfl, rfl⟩
        rw [canB_i]
        simp_all [bi, ← Int32.not_le]
set_option maxRecDepth 4000 in
set_option maxHeartbeats 4000000 in
theorem s_X0_switchOff {n : Nat} {sh : mS} {G : mG} {I : mI} {J : mJ} {d : Nat} {σ : sT} {T N : Nat} (hd : DevG n sh G d) (hR : RelD d I σ T N) (hI : Inv σ)  : Sp yX0_switchOff cX0_switchOff 1 none 1 48 0 0 [.ref d] n sh G I J (Qv (fun I_ J_ => J = J_ ∧ RelD d I_ (sOff σ) T N ∧ FD d [0] I I_)) nX := by
  refine Sp.of (by decide) (ls := [(0, .ref d)]) (fun _ => rfl) (fun _ => Nat.le_of_ble_eq_true rfl) ?_
  refine rc_p (p_aload_n 0 (dk_at ktX0_switchOff_0 0 rfl) rfl rfl (b := 1) rfl) ?_
  refine rc_p (p_iconst (v := 0) (dk_at ktX0_switchOff_0 1 rfl) (by decide) (b := 2) rfl) ?_
  refine r_puti fl_X0_74 fw_X0_7 rfl hd.l0 hd.s0 rfl rfl (dk_at ktX0_switchOff_0 2 rfl) (b := 5) rfl ?_
  refine rc_p (p_aload_n 0 (dk_at ktX0_switchOff_0 3 rfl) rfl rfl (b := 6) rfl) ?_
  refine rc_p (p_iconst (v := (-1)) (dk_at ktX0_switchOff_0 4 rfl) (by decide) (b := 7) rfl) ?_
  refine r_puti fl_X0_77 fw_X0_8 rfl hd.l0 hd.s0 rfl rfl (dk_at ktX0_switchOff_0 5 rfl) (b := 10) rfl ?_
  refine r_vret (dk_at ktX0_switchOff_0 6 rfl) rfl ⟨rfl, ?_⟩
  exact ⟨rfl, ((hR.set (o := 0) (k := 7) (a := 7) lc_0_7 (by omega) (by omega) (fun q => absurd q (by omega))).set (o := 0) (k := 8) (a := 8) lc_0_8 (by omega) (by omega) (fun q => absurd q (by omega))), (FD.up0 (FD.up0 FD.rf (by simp)) (by simp))⟩
set_option maxRecDepth 4000 in
set_option maxHeartbeats 4000000 in
theorem s_X0_losePower {n : Nat} {sh : mS} {G : mG} {I : mI} {J : mJ} {d : Nat} {σ : sT} {T N : Nat} (hd : DevG n sh G d) (hR : RelD d I σ T N) (hI : Inv σ) (hT : T + 1 < 1000000)  : Sp yX0_losePower cX0_losePower 1 (some FieldType.int) 3 144 0 0 [.ref d] n sh G I J (Qi (fun r_ I_ J_ => -4 = r_ ∧ J = J_ ∧ RelE d I_ (sCut σ) T 1 N ∧ FD d [0, 11, 12, 13, 14, 15] I I_)) nX := by
  refine Sp.of (by decide) (ls := [(0, .ref d)]) (fun _ => rfl) (fun _ => Nat.le_of_ble_eq_true rfl) ?_
  refine rc_p (p_aload_n 0 (dk_at ktX0_losePower_0 0 rfl) rfl rfl (b := 1) rfl) ?_
  refine r_vV (As' := []) (rest := []) (s_X0_switchOff hd (σ := σ) hR hI) cw_X0_58 qi_X0_switchOff qv_X0_switchOff rfl hd.l0 hd.s0 (dk_at ktX0_losePower_0 1 rfl) rfl rfl (Nat.le_of_ble_eq_true rfl) (by decide) (b := 4) rfl (fun I1 J2 q3 => ?_)
  obtain ⟨rfl, hR5, hF6⟩ := q3
  refine rc_p (p_aload_n 0 (dk_at ktX0_losePower_0 2 rfl) rfl rfl (b := 5) rfl) ?_
  refine rc_p (p_iconst (v := 1) (dk_at ktX0_losePower_0 3 rfl) (by decide) (b := 6) rfl) ?_
  refine rc_p (p_iconst (v := 0) (dk_at ktX0_losePower_0 4 rfl) (by decide) (b := 7) rfl) ?_
  refine r_vV (As' := [.int 1, .int 0]) (rest := []) (s_X0_note hd (σ := (sOff σ)) hR5 (Inv.off hI) (by omega) 1 (by omega) 0) cw_X0_87 qi_X0_note qv_X0_note rfl hd.l0 hd.s0 (dk_at ktX0_losePower_0 5 rfl) rfl rfl (Nat.le_of_ble_eq_true rfl) (by decide) (b := 10) rfl (fun I7 J8 q9 => ?_)
  obtain ⟨rfl, hR11, hF12⟩ := q9
  refine rc_p (p_bipush (v := (-4)) (dk_at ktX0_losePower_0 6 rfl) (by decide) (b := 12) rfl) ?_
  refine r_iret (dk_at ktX0_losePower_0 7 rfl) rfl rfl ⟨_, rfl, ?_⟩
  exact ⟨rfl, rfl, RelE.of hR11 (by omega), (FD.tr (FD.tr FD.rf (hF6.mo (by simp <;> omega))) (hF12.mo (by simp <;> omega)))⟩
set_option maxRecDepth 4000 in
set_option maxHeartbeats 4000000 in
theorem s_X0_run {n : Nat} {sh : mS} {G : mG} {I : mI} {J : mJ} {d : Nat} {σ : sT} {T N : Nat} (hd : DevG n sh G d) (hR : RelD d I σ T N) (hI : Inv σ) (hT : T + 1 < 1000000) (s : Nat) (hs : s < 2) : Sp yX0_run cX0_run 2 (some FieldType.int) 3 144 0 0 [.ref d, .int (nI s)] n sh G I J (Qi (fun r_ I_ J_ => nI s = r_ ∧ J = J_ ∧ RelE d I_ (sRun σ (nI s)) T 1 N ∧ FD d [0, 11, 12, 13, 14, 15] I I_)) nX := by
  refine Sp.of (by decide) (ls := [(0, .ref d), (1, .int (nI s))]) (fun _ => rfl) (fun _ => Nat.le_of_ble_eq_true rfl) ?_
  refine rc_p (p_aload_n 0 (dk_at ktX0_run_0 0 rfl) rfl rfl (b := 1) rfl) ?_
  refine rc_p (p_iconst (v := 1) (dk_at ktX0_run_0 1 rfl) (by decide) (b := 2) rfl) ?_
  refine r_puti fl_X0_74 fw_X0_7 rfl hd.l0 hd.s0 rfl rfl (dk_at ktX0_run_0 2 rfl) (b := 5) rfl ?_
  refine rc_p (p_aload_n 0 (dk_at ktX0_run_0 3 rfl) rfl rfl (b := 6) rfl) ?_
  refine rc_p (p_iload_n 1 (dk_at ktX0_run_0 4 rfl) rfl rfl (b := 7) rfl) ?_
  refine r_puti fl_X0_77 fw_X0_8 rfl hd.l0 hd.s0 rfl rfl (dk_at ktX0_run_0 5 rfl) (b := 10) rfl ?_
  refine rc_p (p_aload_n 0 (dk_at ktX0_run_0 6 rfl) rfl rfl (b := 11) rfl) ?_
  refine rc_p (p_iconst (v := 0) (dk_at ktX0_run_0 7 rfl) (by decide) (b := 12) rfl) ?_
  refine rc_p (p_iload_n 1 (dk_at ktX0_run_0 8 rfl) rfl rfl (b := 13) rfl) ?_
  refine r_vV (As' := [.int 0, .int (nI s)]) (rest := []) (s_X0_note hd (σ := (upd (upd σ 7 1) 8 (nI s))) ((hR.set (o := 0) (k := 7) (a := 7) lc_0_7 (by omega) (by omega) (fun q => absurd q (by omega))).set (o := 0) (k := 8) (a := 8) lc_0_8 (by omega) (by omega) (fun q => absurd q (by omega))) (hI.st (Or.inr (Or.inl ⟨rfl, slot01 hs⟩))) (by omega) 0 (by omega) (nI s)) cw_X0_87 qi_X0_note qv_X0_note rfl hd.l0 hd.s0 (dk_at ktX0_run_0 9 rfl) rfl rfl (Nat.le_of_ble_eq_true rfl) (by decide) (b := 16) rfl (fun I1 J2 q3 => ?_)
  obtain ⟨rfl, hR5, hF6⟩ := q3
  refine rc_p (p_iload_n 1 (dk_at ktX0_run_0 10 rfl) rfl rfl (b := 17) rfl) ?_
  refine r_iret (dk_at ktX0_run_0 11 rfl) rfl rfl ⟨_, rfl, ?_⟩
  exact ⟨rfl, rfl, RelE.of hR5 (by omega), (FD.tr (FD.up0 (FD.up0 FD.rf (by simp)) (by simp)) (hF6.mo (by simp <;> omega)))⟩
set_option maxRecDepth 4000 in
set_option maxHeartbeats 4000000 in
theorem s_X0_waitForRecovery {n : Nat} {sh : mS} {G : mG} {I : mI} {J : mJ} {d : Nat} {σ : sT} {T N : Nat} (hd : DevG n sh G d) (hR : RelD d I σ T N) (hI : Inv σ) (hT : T + 1 < 1000000) (h8 : σ 8 = -1) : Sp yX0_waitForRecovery cX0_waitForRecovery 1 (some FieldType.int) 3 144 0 0 [.ref d] n sh G I J (Qi (fun r_ I_ J_ => -1 = r_ ∧ J = J_ ∧ RelE d I_ (sWait σ) T 1 N ∧ FD d [0, 11, 12, 13, 14, 15] I I_)) nX := by
  refine Sp.of (by decide) (ls := [(0, .ref d)]) (fun _ => rfl) (fun _ => Nat.le_of_ble_eq_true rfl) ?_
  refine rc_p (p_aload_n 0 (dk_at ktX0_waitForRecovery_0 0 rfl) rfl rfl (b := 1) rfl) ?_
  refine rc_p (p_iconst (v := 2) (dk_at ktX0_waitForRecovery_0 1 rfl) (by decide) (b := 2) rfl) ?_
  refine r_puti fl_X0_74 fw_X0_7 rfl hd.l0 hd.s0 rfl rfl (dk_at ktX0_waitForRecovery_0 2 rfl) (b := 5) rfl ?_
  refine rc_p (p_aload_n 0 (dk_at ktX0_waitForRecovery_0 3 rfl) rfl rfl (b := 6) rfl) ?_
  refine rc_p (p_bipush (v := 7) (dk_at ktX0_waitForRecovery_0 4 rfl) (by decide) (b := 8) rfl) ?_
  refine rc_p (p_iconst (v := 0) (dk_at ktX0_waitForRecovery_0 5 rfl) (by decide) (b := 9) rfl) ?_
  refine r_vV (As' := [.int 7, .int 0]) (rest := []) (s_X0_note hd (σ := (upd σ 7 2)) (hR.set (o := 0) (k := 7) (a := 7) lc_0_7 (by omega) (by omega) (fun q => absurd q (by omega))) (hI.wt h8) (by omega) 7 (by omega) 0) cw_X0_87 qi_X0_note qv_X0_note rfl hd.l0 hd.s0 (dk_at ktX0_waitForRecovery_0 6 rfl) rfl rfl (Nat.le_of_ble_eq_true rfl) (by decide) (b := 12) rfl (fun I1 J2 q3 => ?_)
  obtain ⟨rfl, hR5, hF6⟩ := q3
  refine rc_p (p_iconst (v := (-1)) (dk_at ktX0_waitForRecovery_0 7 rfl) (by decide) (b := 13) rfl) ?_
  refine r_iret (dk_at ktX0_waitForRecovery_0 8 rfl) rfl rfl ⟨_, rfl, ?_⟩
  exact ⟨rfl, rfl, RelE.of hR5 (by omega), (FD.tr (FD.up0 FD.rf (by simp)) (hF6.mo (by simp <;> omega)))⟩
set_option maxRecDepth 4000 in
set_option maxHeartbeats 4000000 in
theorem s_X0_startUp {n : Nat} {sh : mS} {G : mG} {I : mI} {J : mJ} {d : Nat} {σ : sT} {T N : Nat} (hd : DevG n sh G d) (hR : RelD d I σ T N) (hI : Inv σ) (hT : T + 6 < 1000000)  : Sp yX0_startUp cX0_startUp 3 (some FieldType.int) 6 214 0 0 [.ref d] n sh G I J (Qi (fun r_ I_ J_ => (fBoot σ).1 = r_ ∧ J = J_ ∧ RelE d I_ (fBoot σ).2 T 6 N ∧ FD d [0, 1, 3, 4, 5, 6, 8, 9, 10, 11, 12, 13, 14, 15, 16, 17] I I_)) nX := by
  refine Sp.of (by decide) (ls := [(0, .ref d)]) (fun _ => rfl) (fun _ => Nat.le_of_ble_eq_true rfl) ?_
  have cut122 : ∀ (Iz : mI) (σz : sT) (Tz : Nat), Tz ≤ T + 4 → RelD d Iz σz Tz N → Inv σz → FD d [0, 1, 3, 4, 5, 6, 8, 9, 10, 11, 12, 13, 14, 15, 16, 17] I Iz → LedR d Iz σz → σz 8 = -1 → fBoot σ = fRest σz → Rc RX0 cX0_startUp 3 (some FieldType.int) 6 214 0 0 n sh G (Qi (fun r_ I_ J_ => (fBoot σ).1 = r_ ∧ J = J_ ∧ RelE d I_ (fBoot σ).2 T 6 N ∧ FD d [0, 1, 3, 4, 5, 6, 8, 9, 10, 11, 12, 13, 14, 15, 16, 17] I I_)) nX 0 0 122 [(0, .ref d)] [] Iz J := by
    intro Iz σz Tz hTz hRz hIz hFz hLz hz8 hE
    have hbz := hIz.bd
    have hN := hRz.2.2.2.2.1
    refine rc_p (p_aload_n 0 (dk_at ktX0_startUp_1 2 rfl) rfl rfl (b := 123) rfl) ?_
    refine r_geta fl_X0_28 rfl hd.l0 hd.s0 (dk_at ktX0_startUp_1 3 rfl) hd.g0_2 (b := 126) rfl ?_
    refine r_geti fl_X0_125 rfl (hd.lt 16 (by decide)) hd.s16 (dk_at ktX0_startUp_1 4 rfl) (v := (told σz 1)) (hLz.2.2.2 1 (by decide)) (b := 129) rfl ?_
    refine rc_p (p_iconst (v := (-1)) (dk_at ktX0_startUp_1 5 rfl) (by decide) (b := 130) rfl) ?_
    refine r_icmp_eq (dk_at ktX0_startUp_1 6 rfl) (b := 159) (by decide) (b2 := 133) rfl (fun c130 => ?_) (fun c130 => ?_)
    · skip
      refine rc_p (p_aload_n 0 (dk_at ktX0_startUp_1 19 rfl) rfl rfl (b := 160) rfl) ?_
      refine rc_p (p_iconst (v := 0) (dk_at ktX0_startUp_1 20 rfl) (by decide) (b := 161) rfl) ?_
      refine r_iV (As' := [.int 0]) (rest := []) (s_X0_canStart hd (σ := σz) hRz hIz hLz 0 (by omega)) cw_X0_154 qi_X0_canStart qv_X0_canStart rfl hd.l0 hd.s0 (dk_at ktX0_startUp_1 21 rfl) rfl rfl (Nat.le_of_ble_eq_true rfl) (by decide) (b := 164) rfl (fun v4 I1 J2 q3 => ?_)
      obtain ⟨rfl, rfl, rfl⟩ := q3
      refine r_if_eq (dk_at ktX0_startUp_1 22 rfl) (b := 173) (by decide) (b2 := 167) rfl (fun c164 => ?_) (fun c164 => ?_)
      · have c164 := bi_f c164
        refine rc_p (p_aload_n 0 (dk_at ktX0_startUp_1 27 rfl) rfl rfl (b := 174) rfl) ?_
        refine rc_p (p_iconst (v := 1) (dk_at ktX0_startUp_1 28 rfl) (by decide) (b := 175) rfl) ?_
        refine r_iV (As' := [.int 1]) (rest := []) (s_X0_canStart hd (σ := σz) hRz hIz hLz 1 (by omega)) cw_X0_154 qi_X0_canStart qv_X0_canStart rfl hd.l0 hd.s0 (dk_at ktX0_startUp_1 29 rfl) rfl rfl (Nat.le_of_ble_eq_true rfl) (by decide) (b := 178) rfl (fun v8 I5 J6 q7 => ?_)
        obtain ⟨rfl, rfl, rfl⟩ := q7
        refine r_if_eq (dk_at ktX0_startUp_1 30 rfl) (b := 189) (by decide) (b2 := 181) rfl (fun c178 => ?_) (fun c178 => ?_)
        · have c178 := bi_f c178
          refine rc_p (p_aload_n 0 (dk_at ktX0_startUp_1 35 rfl) rfl rfl (b := 190) rfl) ?_
          refine r_iV (As' := []) (rest := []) (s_X0_waitForRecovery hd (σ := σz) hRz hIz (by omega) hz8) cw_X0_165 qi_X0_waitForRecovery qv_X0_waitForRecovery rfl hd.l0 hd.s0 (dk_at ktX0_startUp_1 36 rfl) rfl rfl (Nat.le_of_ble_eq_true rfl) (by decide) (b := 193) rfl (fun v12 I9 J10 q11 => ?_)
          obtain ⟨rfl, rfl, ⟨T13, hT14, hR15⟩, hF16⟩ := q11
          refine r_iret (dk_at ktX0_startUp_1 37 rfl) rfl rfl ⟨_, rfl, ?_⟩
          have hn : fBoot σ = if canB σz 0 = true then (0, sRun σz 0) else if canB σz 1 = true then (1, sRun σz 1) else (-1, sWait σz) := by rw [hE]; unfold fRest; rw [if_neg (fun q => q.1 c130)]
          have he : fBoot σ = (-1, sWait σz) := by rw [hn, if_neg (by rw [c164]; decide), if_neg (by rw [c178]; decide)]
          exact ⟨congrArg Prod.fst he, rfl, by rw [he]; exact RelE.of hR15 (by omega), (FD.tr hFz (hF16.mo (by simp <;> omega)))⟩
        · have c178 := bi_t c178
          refine rc_p (p_aload_n 0 (dk_at ktX0_startUp_1 31 rfl) rfl rfl (b := 182) rfl) ?_
          refine rc_p (p_iconst (v := 1) (dk_at ktX0_startUp_1 32 rfl) (by decide) (b := 183) rfl) ?_
          refine r_iV (As' := [.int 1]) (rest := []) (s_X0_run hd (σ := σz) hRz hIz (by omega) 1 (by omega)) cw_X0_161 qi_X0_run qv_X0_run rfl hd.l0 hd.s0 (dk_at ktX0_startUp_1 33 rfl) rfl rfl (Nat.le_of_ble_eq_true rfl) (by decide) (b := 186) rfl (fun v20 I17 J18 q19 => ?_)
          obtain ⟨rfl, rfl, ⟨T21, hT22, hR23⟩, hF24⟩ := q19
          refine rc_p (p_goto (b := 193) (dk_at ktX0_startUp_1 34 rfl) (by decide)) ?_
          refine r_iret (dk_at ktX0_startUp_1 37 rfl) rfl rfl ⟨_, rfl, ?_⟩
          have hn : fBoot σ = if canB σz 0 = true then (0, sRun σz 0) else if canB σz 1 = true then (1, sRun σz 1) else (-1, sWait σz) := by rw [hE]; unfold fRest; rw [if_neg (fun q => q.1 c130)]
          have he : fBoot σ = (1, sRun σz 1) := by rw [hn, if_neg (by rw [c164]; decide), if_pos c178]
          exact ⟨congrArg Prod.fst he, rfl, by rw [he]; exact RelE.of hR23 (by omega), (FD.tr hFz (hF24.mo (by simp <;> omega)))⟩
      · have c164 := bi_t c164
        refine rc_p (p_aload_n 0 (dk_at ktX0_startUp_1 23 rfl) rfl rfl (b := 168) rfl) ?_
        refine rc_p (p_iconst (v := 0) (dk_at ktX0_startUp_1 24 rfl) (by decide) (b := 169) rfl) ?_
        refine r_iV (As' := [.int 0]) (rest := []) (s_X0_run hd (σ := σz) hRz hIz (by omega) 0 (by omega)) cw_X0_161 qi_X0_run qv_X0_run rfl hd.l0 hd.s0 (dk_at ktX0_startUp_1 25 rfl) rfl rfl (Nat.le_of_ble_eq_true rfl) (by decide) (b := 172) rfl (fun v28 I25 J26 q27 => ?_)
        obtain ⟨rfl, rfl, ⟨T29, hT30, hR31⟩, hF32⟩ := q27
        refine r_iret (dk_at ktX0_startUp_1 26 rfl) rfl rfl ⟨_, rfl, ?_⟩
        have hn : fBoot σ = if canB σz 0 = true then (0, sRun σz 0) else if canB σz 1 = true then (1, sRun σz 1) else (-1, sWait σz) := by rw [hE]; unfold fRest; rw [if_neg (fun q => q.1 c130)]
        have he : fBoot σ = (0, sRun σz 0) := by rw [hn, if_pos c164]
        exact ⟨congrArg Prod.fst he, rfl, by rw [he]; exact RelE.of hR31 (by omega), (FD.tr hFz (hF32.mo (by simp <;> omega)))⟩
    · skip
      obtain ⟨s, hs, es⟩ := told_s (told_ok hIz).2.1 c130
      refine rc_p (p_aload_n 0 (dk_at ktX0_startUp_1 7 rfl) rfl rfl (b := 134) rfl) ?_
      refine rc_p (p_aload_n 0 (dk_at ktX0_startUp_1 8 rfl) rfl rfl (b := 135) rfl) ?_
      refine r_geta fl_X0_28 rfl hd.l0 hd.s0 (dk_at ktX0_startUp_1 9 rfl) hd.g0_2 (b := 138) rfl ?_
      refine r_geti fl_X0_125 rfl (hd.lt 16 (by decide)) hd.s16 (dk_at ktX0_startUp_1 10 rfl) (v := (nI s)) ((hLz.2.2.2 1 (by decide)).trans es) (b := 141) rfl ?_
      refine r_iV (As' := [.int (nI s)]) (rest := []) (s_X0_canStart hd (σ := σz) hRz hIz hLz s (by omega)) cw_X0_154 qi_X0_canStart qv_X0_canStart rfl hd.l0 hd.s0 (dk_at ktX0_startUp_1 11 rfl) rfl rfl (Nat.le_of_ble_eq_true rfl) (by decide) (b := 144) rfl (fun v36 I33 J34 q35 => ?_)
      obtain ⟨rfl, rfl, rfl⟩ := q35
      refine r_if_eq (dk_at ktX0_startUp_1 12 rfl) (b := 159) (by decide) (b2 := 147) rfl (fun c144 => ?_) (fun c144 => ?_)
      · have c144 := bi_f c144
        refine rc_p (p_aload_n 0 (dk_at ktX0_startUp_1 19 rfl) rfl rfl (b := 160) rfl) ?_
        refine rc_p (p_iconst (v := 0) (dk_at ktX0_startUp_1 20 rfl) (by decide) (b := 161) rfl) ?_
        refine r_iV (As' := [.int 0]) (rest := []) (s_X0_canStart hd (σ := σz) hRz hIz hLz 0 (by omega)) cw_X0_154 qi_X0_canStart qv_X0_canStart rfl hd.l0 hd.s0 (dk_at ktX0_startUp_1 21 rfl) rfl rfl (Nat.le_of_ble_eq_true rfl) (by decide) (b := 164) rfl (fun v40 I37 J38 q39 => ?_)
        obtain ⟨rfl, rfl, rfl⟩ := q39
        refine r_if_eq (dk_at ktX0_startUp_1 22 rfl) (b := 173) (by decide) (b2 := 167) rfl (fun c164 => ?_) (fun c164 => ?_)
        · have c164 := bi_f c164
          refine rc_p (p_aload_n 0 (dk_at ktX0_startUp_1 27 rfl) rfl rfl (b := 174) rfl) ?_
          refine rc_p (p_iconst (v := 1) (dk_at ktX0_startUp_1 28 rfl) (by decide) (b := 175) rfl) ?_
          refine r_iV (As' := [.int 1]) (rest := []) (s_X0_canStart hd (σ := σz) hRz hIz hLz 1 (by omega)) cw_X0_154 qi_X0_canStart qv_X0_canStart rfl hd.l0 hd.s0 (dk_at ktX0_startUp_1 29 rfl) rfl rfl (Nat.le_of_ble_eq_true rfl) (by decide) (b := 178) rfl (fun v44 I41 J42 q43 => ?_)
          obtain ⟨rfl, rfl, rfl⟩ := q43
          refine r_if_eq (dk_at ktX0_startUp_1 30 rfl) (b := 189) (by decide) (b2 := 181) rfl (fun c178 => ?_) (fun c178 => ?_)
          · have c178 := bi_f c178
            refine rc_p (p_aload_n 0 (dk_at ktX0_startUp_1 35 rfl) rfl rfl (b := 190) rfl) ?_
            refine r_iV (As' := []) (rest := []) (s_X0_waitForRecovery hd (σ := σz) hRz hIz (by omega) hz8) cw_X0_165 qi_X0_waitForRecovery qv_X0_waitForRecovery rfl hd.l0 hd.s0 (dk_at ktX0_startUp_1 36 rfl) rfl rfl (Nat.le_of_ble_eq_true rfl) (by decide) (b := 193) rfl (fun v48 I45 J46 q47 => ?_)
            obtain ⟨rfl, rfl, ⟨T49, hT50, hR51⟩, hF52⟩ := q47
            refine r_iret (dk_at ktX0_startUp_1 37 rfl) rfl rfl ⟨_, rfl, ?_⟩
            have hn : fBoot σ = if canB σz 0 = true then (0, sRun σz 0) else if canB σz 1 = true then (1, sRun σz 1) else (-1, sWait σz) := by rw [hE]; unfold fRest; rw [if_neg (fun q => by rw [es, tn_nI (by omega), c144] at q; exact absurd q.2 (by decide))]
            have he : fBoot σ = (-1, sWait σz) := by rw [hn, if_neg (by rw [c164]; decide), if_neg (by rw [c178]; decide)]
            exact ⟨congrArg Prod.fst he, rfl, by rw [he]; exact RelE.of hR51 (by omega), (FD.tr hFz (hF52.mo (by simp <;> omega)))⟩
          · have c178 := bi_t c178
            refine rc_p (p_aload_n 0 (dk_at ktX0_startUp_1 31 rfl) rfl rfl (b := 182) rfl) ?_
            refine rc_p (p_iconst (v := 1) (dk_at ktX0_startUp_1 32 rfl) (by decide) (b := 183) rfl) ?_
            refine r_iV (As' := [.int 1]) (rest := []) (s_X0_run hd (σ := σz) hRz hIz (by omega) 1 (by omega)) cw_X0_161 qi_X0_run qv_X0_run rfl hd.l0 hd.s0 (dk_at ktX0_startUp_1 33 rfl) rfl rfl (Nat.le_of_ble_eq_true rfl) (by decide) (b := 186) rfl (fun v56 I53 J54 q55 => ?_)
            obtain ⟨rfl, rfl, ⟨T57, hT58, hR59⟩, hF60⟩ := q55
            refine rc_p (p_goto (b := 193) (dk_at ktX0_startUp_1 34 rfl) (by decide)) ?_
            refine r_iret (dk_at ktX0_startUp_1 37 rfl) rfl rfl ⟨_, rfl, ?_⟩
            have hn : fBoot σ = if canB σz 0 = true then (0, sRun σz 0) else if canB σz 1 = true then (1, sRun σz 1) else (-1, sWait σz) := by rw [hE]; unfold fRest; rw [if_neg (fun q => by rw [es, tn_nI (by omega), c144] at q; exact absurd q.2 (by decide))]
            have he : fBoot σ = (1, sRun σz 1) := by rw [hn, if_neg (by rw [c164]; decide), if_pos c178]
            exact ⟨congrArg Prod.fst he, rfl, by rw [he]; exact RelE.of hR59 (by omega), (FD.tr hFz (hF60.mo (by simp <;> omega)))⟩
        · have c164 := bi_t c164
          refine rc_p (p_aload_n 0 (dk_at ktX0_startUp_1 23 rfl) rfl rfl (b := 168) rfl) ?_
          refine rc_p (p_iconst (v := 0) (dk_at ktX0_startUp_1 24 rfl) (by decide) (b := 169) rfl) ?_
          refine r_iV (As' := [.int 0]) (rest := []) (s_X0_run hd (σ := σz) hRz hIz (by omega) 0 (by omega)) cw_X0_161 qi_X0_run qv_X0_run rfl hd.l0 hd.s0 (dk_at ktX0_startUp_1 25 rfl) rfl rfl (Nat.le_of_ble_eq_true rfl) (by decide) (b := 172) rfl (fun v64 I61 J62 q63 => ?_)
          obtain ⟨rfl, rfl, ⟨T65, hT66, hR67⟩, hF68⟩ := q63
          refine r_iret (dk_at ktX0_startUp_1 26 rfl) rfl rfl ⟨_, rfl, ?_⟩
          have hn : fBoot σ = if canB σz 0 = true then (0, sRun σz 0) else if canB σz 1 = true then (1, sRun σz 1) else (-1, sWait σz) := by rw [hE]; unfold fRest; rw [if_neg (fun q => by rw [es, tn_nI (by omega), c144] at q; exact absurd q.2 (by decide))]
          have he : fBoot σ = (0, sRun σz 0) := by rw [hn, if_pos c164]
          exact ⟨congrArg Prod.fst he, rfl, by rw [he]; exact RelE.of hR67 (by omega), (FD.tr hFz (hF68.mo (by simp <;> omega)))⟩
      · have c144 := bi_t c144
        refine rc_p (p_aload_n 0 (dk_at ktX0_startUp_1 13 rfl) rfl rfl (b := 148) rfl) ?_
        refine rc_p (p_aload_n 0 (dk_at ktX0_startUp_1 14 rfl) rfl rfl (b := 149) rfl) ?_
        refine r_geta fl_X0_28 rfl hd.l0 hd.s0 (dk_at ktX0_startUp_1 15 rfl) hd.g0_2 (b := 152) rfl ?_
        refine r_geti fl_X0_125 rfl (hd.lt 16 (by decide)) hd.s16 (dk_at ktX0_startUp_1 16 rfl) (v := (nI s)) ((hLz.2.2.2 1 (by decide)).trans es) (b := 155) rfl ?_
        refine r_iV (As' := [.int (nI s)]) (rest := []) (s_X0_run hd (σ := σz) hRz hIz (by omega) s (by omega)) cw_X0_161 qi_X0_run qv_X0_run rfl hd.l0 hd.s0 (dk_at ktX0_startUp_1 17 rfl) rfl rfl (Nat.le_of_ble_eq_true rfl) (by decide) (b := 158) rfl (fun v72 I69 J70 q71 => ?_)
        obtain ⟨rfl, rfl, ⟨T73, hT74, hR75⟩, hF76⟩ := q71
        refine r_iret (dk_at ktX0_startUp_1 18 rfl) rfl rfl ⟨_, rfl, ?_⟩
        have he : fBoot σ = (nI s, sRun σz (nI s)) := by
          rw [hE]; unfold fRest; rw [if_pos ⟨by rw [es]; exact nI_nm1 (by omega), by rw [es, tn_nI (by omega)]; exact c144⟩, es]
        exact ⟨congrArg Prod.fst he, rfl, by rw [he]; exact RelE.of hR75 (by omega), (FD.tr hFz (hF76.mo (by simp <;> omega)))⟩
  have cut49 : ∀ (Iz : mI) (σz : sT) (Tz : Nat), Tz ≤ T + 1 → RelD d Iz σz Tz N → Inv σz → FD d [0, 1, 3, 4, 5, 6, 8, 9, 10, 11, 12, 13, 14, 15, 16, 17] I Iz → LedR d Iz σz → σz 8 = -1 → fBoot σ = fTR σz → Rc RX0 cX0_startUp 3 (some FieldType.int) 6 214 0 0 n sh G (Qi (fun r_ I_ J_ => (fBoot σ).1 = r_ ∧ J = J_ ∧ RelE d I_ (fBoot σ).2 T 6 N ∧ FD d [0, 1, 3, 4, 5, 6, 8, 9, 10, 11, 12, 13, 14, 15, 16, 17] I I_)) nX 0 0 49 [(0, .ref d)] [] Iz J := by
    intro Iz σz Tz hTz hRz hIz hFz hLz hz8 hE
    have hbz := hIz.bd
    have hN := hRz.2.2.2.2.1
    refine rc_p (p_aload_n 0 (dk_at ktX0_startUp_0 23 rfl) rfl rfl (b := 50) rfl) ?_
    refine r_geta fl_X0_28 rfl hd.l0 hd.s0 (dk_at ktX0_startUp_0 24 rfl) hd.g0_2 (b := 53) rfl ?_
    refine r_geti fl_X0_128 rfl (hd.lt 16 (by decide)) hd.s16 (dk_at ktX0_startUp_0 25 rfl) (v := (told σz 2)) (hLz.2.2.2 2 (by decide)) (b := 56) rfl ?_
    refine rc_p (p_istore_n (ls' := [(1, .int (told σz 2)), (0, .ref d)]) (dk_at ktX0_startUp_0 26 rfl) rfl (by decide) rfl (b := 57) rfl) ?_
    refine rc_p (p_iload_n 0 (dk_at ktX0_startUp_0 27 rfl) rfl rfl (b := 58) rfl) ?_
    refine rc_p (p_iconst (v := (-1)) (dk_at ktX0_startUp_0 28 rfl) (by decide) (b := 59) rfl) ?_
    refine r_icmp_eq (dk_at ktX0_startUp_0 29 rfl) (b := 122) (by decide) (b2 := 62) rfl (fun c59 => ?_) (fun c59 => ?_)
    · skip
      refine rc_sub [1] (ls' := [(0, .ref d)]) rfl ?_
      exact cut122 Iz σz Tz (by omega) hRz hIz hFz hLz hz8 (by rw [hE]; unfold fTR; rw [fTry_n c59]; exact if_pos rfl)
    · skip
      obtain ⟨s, hs, es⟩ := told_s (told_ok hIz).2.2.1 c59
      rw [es]
      refine rc_p (p_aload_n 1 (dk_at ktX0_startUp_0 30 rfl) rfl rfl (b := 63) rfl) ?_
      refine rc_p (p_iload_n 0 (dk_at ktX0_startUp_0 31 rfl) rfl rfl (b := 64) rfl) ?_
      refine r_iV (As' := [.int (nI s)]) (rest := []) (s_X0_canStart hd (σ := σz) hRz hIz hLz s (by omega)) cw_X0_154 qi_X0_canStart qv_X0_canStart rfl hd.l0 hd.s0 (dk_at ktX0_startUp_0 32 rfl) rfl rfl (Nat.le_of_ble_eq_true rfl) (by decide) (b := 67) rfl (fun v80 I77 J78 q79 => ?_)
      obtain ⟨rfl, rfl, rfl⟩ := q79
      refine r_if_eq (dk_at ktX0_startUp_0 33 rfl) (b := 88) (by decide) (b2 := 70) rfl (fun c67 => ?_) (fun c67 => ?_)
      · have c67 := bi_f c67
        refine rc_p (p_iconst (v := 0) (dk_at ktX0_startUp_0 42 rfl) (by decide) (b := 89) rfl) ?_
        refine rc_p (p_istore_n (ls' := [(2, .int 0), (1, .int (nI s)), (0, .ref d)]) (dk_at ktX0_startUp_0 43 rfl) rfl (by decide) rfl (b := 90) rfl) ?_
        refine rc_p (p_aload_n 2 (dk_at ktX0_startUp_0 44 rfl) rfl rfl (b := 91) rfl) ?_
        refine rc_p (p_iload_n 0 (dk_at ktX0_startUp_0 45 rfl) rfl rfl (b := 92) rfl) ?_
        refine r_if_eq (dk_at ktX0_startUp_0 46 rfl) (b := 99) (by decide) (b2 := 95) rfl (fun c92 => ?_) (fun c92 => ?_)
        · skip
          refine rc_p (p_iconst (v := 5) (dk_at ktX0_startUp_0 49 rfl) (by decide) (b := 100) rfl) ?_
          refine rc_p (p_iload_n 1 (dk_at ktX0_startUp_0 50 rfl) rfl rfl (b := 101) rfl) ?_
          refine r_iV (As' := [.int 5, .int (nI s)]) (rest := []) (s_X0_appendRecord hd (σ := σz) hRz hIz (by omega) hLz 5 (by decide) (nI s)) cw_X0_157 qi_X0_appendRecord qv_X0_appendRecord rfl hd.l0 hd.s0 (dk_at ktX0_startUp_0 51 rfl) rfl rfl (Nat.le_of_ble_eq_true rfl) (by decide) (b := 104) rfl (fun v84 I81 J82 q83 => ?_)
          obtain ⟨rfl, rfl, ⟨T85, hT86, hR87⟩, hF88, hL89⟩ := q83
          refine r_if_ne (dk_at ktX0_startUp_0 52 rfl) (b := 112) (by decide) (b2 := 107) rfl (fun c104 => ?_) (fun c104 => ?_)
          · have c104 := bi_t c104
            have hL90 := hL89 c104
            refine rc_p (p_iload_n 0 (dk_at ktX0_startUp_0 56 rfl) rfl rfl (b := 113) rfl) ?_
            refine r_if_eq (dk_at ktX0_startUp_0 57 rfl) (b := 122) (by decide) (b2 := 116) rfl (fun c113 => ?_) (fun c113 => ?_)
            · skip
              refine rc_sub [2] (ls' := [(0, .ref d)]) rfl ?_
              have hmay : mayB σz = false := by unfold mayB; rw [es, tn_nI (by omega), c67]; rfl
              have he := fTry_b hs es hmay
              rw [if_pos c104] at he
              exact cut122 I81 _ T85 (by omega) hR87 (Inv.app hIz) (FD.tr hFz (hF88.mo (by simp <;> omega))) hL90 ((fApp_ne Kp_8).trans hz8) (by rw [hE]; unfold fTR; rw [he]; exact if_pos rfl)
            · first | exact absurd c113 (by decide) | exact absurd (by decide) c113
          · have c104 := bi_f c104
            refine rc_p (p_aload_n 2 (dk_at ktX0_startUp_0 53 rfl) rfl rfl (b := 108) rfl) ?_
            refine r_iV (As' := []) (rest := []) (s_X0_losePower hd (σ := (fApp 5 (nI s) σz).2) hR87 (Inv.app hIz) (by omega)) cw_X0_151 qi_X0_losePower qv_X0_losePower rfl hd.l0 hd.s0 (dk_at ktX0_startUp_0 54 rfl) rfl rfl (Nat.le_of_ble_eq_true rfl) (by decide) (b := 111) rfl (fun v94 I91 J92 q93 => ?_)
            obtain ⟨rfl, rfl, ⟨T95, hT96, hR97⟩, hF98⟩ := q93
            refine r_iret (dk_at ktX0_startUp_0 55 rfl) rfl rfl ⟨_, rfl, ?_⟩
            have hmay : mayB σz = false := by unfold mayB; rw [es, tn_nI (by omega), c67]; rfl
            have he0 := fTry_b hs es hmay
            rw [if_neg (by rw [c104]; decide)] at he0
            have he : fBoot σ = (-4, sCut (fApp 5 (nI s) σz).2) := by rw [hE]; unfold fTR; rw [he0]; exact if_neg (show ¬ (-4 : Int32) = -1 by decide)
            exact ⟨congrArg Prod.fst he, rfl, by rw [he]; exact RelE.of hR97 (by omega), (FD.tr (FD.tr hFz (hF88.mo (by simp <;> omega))) (hF98.mo (by simp <;> omega)))⟩
        · first | exact absurd c92 (by decide) | exact absurd (by decide) c92
      · have c67 := bi_t c67
        refine rc_p (p_aload_n 1 (dk_at ktX0_startUp_0 34 rfl) rfl rfl (b := 71) rfl) ?_
        refine r_geta fl_X0_28 rfl hd.l0 hd.s0 (dk_at ktX0_startUp_0 35 rfl) hd.g0_2 (b := 74) rfl ?_
        refine r_geti fl_X0_131 rfl (hd.lt 16 (by decide)) hd.s16 (dk_at ktX0_startUp_0 36 rfl) (v := (told σz 3)) (hLz.2.2.2 3 (by decide)) (b := 77) rfl ?_
        refine rc_p (p_aload_n 1 (dk_at ktX0_startUp_0 37 rfl) rfl rfl (b := 78) rfl) ?_
        refine r_geti fl_X0_55 rfl hd.l0 hd.s0 (dk_at ktX0_startUp_0 38 rfl) (v := (σz 3)) (hRz.1 0 6 3 lc_0_6) (b := 81) rfl ?_
        refine r_icmp_ge (dk_at ktX0_startUp_0 39 rfl) (b := 88) (by decide) (b2 := 84) rfl (fun c81 => ?_) (fun c81 => ?_)
        · skip
          refine rc_p (p_iconst (v := 0) (dk_at ktX0_startUp_0 42 rfl) (by decide) (b := 89) rfl) ?_
          refine rc_p (p_istore_n (ls' := [(2, .int 0), (1, .int (nI s)), (0, .ref d)]) (dk_at ktX0_startUp_0 43 rfl) rfl (by decide) rfl (b := 90) rfl) ?_
          refine rc_p (p_aload_n 2 (dk_at ktX0_startUp_0 44 rfl) rfl rfl (b := 91) rfl) ?_
          refine rc_p (p_iload_n 0 (dk_at ktX0_startUp_0 45 rfl) rfl rfl (b := 92) rfl) ?_
          refine r_if_eq (dk_at ktX0_startUp_0 46 rfl) (b := 99) (by decide) (b2 := 95) rfl (fun c92 => ?_) (fun c92 => ?_)
          · skip
            refine rc_p (p_iconst (v := 5) (dk_at ktX0_startUp_0 49 rfl) (by decide) (b := 100) rfl) ?_
            refine rc_p (p_iload_n 1 (dk_at ktX0_startUp_0 50 rfl) rfl rfl (b := 101) rfl) ?_
            refine r_iV (As' := [.int 5, .int (nI s)]) (rest := []) (s_X0_appendRecord hd (σ := σz) hRz hIz (by omega) hLz 5 (by decide) (nI s)) cw_X0_157 qi_X0_appendRecord qv_X0_appendRecord rfl hd.l0 hd.s0 (dk_at ktX0_startUp_0 51 rfl) rfl rfl (Nat.le_of_ble_eq_true rfl) (by decide) (b := 104) rfl (fun v102 I99 J100 q101 => ?_)
            obtain ⟨rfl, rfl, ⟨T103, hT104, hR105⟩, hF106, hL107⟩ := q101
            refine r_if_ne (dk_at ktX0_startUp_0 52 rfl) (b := 112) (by decide) (b2 := 107) rfl (fun c104 => ?_) (fun c104 => ?_)
            · have c104 := bi_t c104
              have hL108 := hL107 c104
              refine rc_p (p_iload_n 0 (dk_at ktX0_startUp_0 56 rfl) rfl rfl (b := 113) rfl) ?_
              refine r_if_eq (dk_at ktX0_startUp_0 57 rfl) (b := 122) (by decide) (b2 := 116) rfl (fun c113 => ?_) (fun c113 => ?_)
              · skip
                refine rc_sub [2] (ls' := [(0, .ref d)]) rfl ?_
                have hmay : mayB σz = false := by unfold mayB; rw [decide_eq_false (Int32.not_lt.mpr c81), Bool.and_false]
                have he := fTry_b hs es hmay
                rw [if_pos c104] at he
                exact cut122 I99 _ T103 (by omega) hR105 (Inv.app hIz) (FD.tr hFz (hF106.mo (by simp <;> omega))) hL108 ((fApp_ne Kp_8).trans hz8) (by rw [hE]; unfold fTR; rw [he]; exact if_pos rfl)
              · first | exact absurd c113 (by decide) | exact absurd (by decide) c113
            · have c104 := bi_f c104
              refine rc_p (p_aload_n 2 (dk_at ktX0_startUp_0 53 rfl) rfl rfl (b := 108) rfl) ?_
              refine r_iV (As' := []) (rest := []) (s_X0_losePower hd (σ := (fApp 5 (nI s) σz).2) hR105 (Inv.app hIz) (by omega)) cw_X0_151 qi_X0_losePower qv_X0_losePower rfl hd.l0 hd.s0 (dk_at ktX0_startUp_0 54 rfl) rfl rfl (Nat.le_of_ble_eq_true rfl) (by decide) (b := 111) rfl (fun v112 I109 J110 q111 => ?_)
              obtain ⟨rfl, rfl, ⟨T113, hT114, hR115⟩, hF116⟩ := q111
              refine r_iret (dk_at ktX0_startUp_0 55 rfl) rfl rfl ⟨_, rfl, ?_⟩
              have hmay : mayB σz = false := by unfold mayB; rw [decide_eq_false (Int32.not_lt.mpr c81), Bool.and_false]
              have he0 := fTry_b hs es hmay
              rw [if_neg (by rw [c104]; decide)] at he0
              have he : fBoot σ = (-4, sCut (fApp 5 (nI s) σz).2) := by rw [hE]; unfold fTR; rw [he0]; exact if_neg (show ¬ (-4 : Int32) = -1 by decide)
              exact ⟨congrArg Prod.fst he, rfl, by rw [he]; exact RelE.of hR115 (by omega), (FD.tr (FD.tr hFz (hF106.mo (by simp <;> omega))) (hF116.mo (by simp <;> omega)))⟩
          · first | exact absurd c92 (by decide) | exact absurd (by decide) c92
        · skip
          refine rc_p (p_iconst (v := 1) (dk_at ktX0_startUp_0 40 rfl) (by decide) (b := 85) rfl) ?_
          refine rc_p (p_goto (b := 89) (dk_at ktX0_startUp_0 41 rfl) (by decide)) ?_
          refine rc_p (p_istore_n (ls' := [(2, .int 1), (1, .int (nI s)), (0, .ref d)]) (dk_at ktX0_startUp_0 43 rfl) rfl (by decide) rfl (b := 90) rfl) ?_
          refine rc_p (p_aload_n 2 (dk_at ktX0_startUp_0 44 rfl) rfl rfl (b := 91) rfl) ?_
          refine rc_p (p_iload_n 0 (dk_at ktX0_startUp_0 45 rfl) rfl rfl (b := 92) rfl) ?_
          refine r_if_eq (dk_at ktX0_startUp_0 46 rfl) (b := 99) (by decide) (b2 := 95) rfl (fun c92 => ?_) (fun c92 => ?_)
          · first | exact absurd c92 (by decide) | exact absurd (by decide) c92
          · skip
            refine rc_p (p_iconst (v := 4) (dk_at ktX0_startUp_0 47 rfl) (by decide) (b := 96) rfl) ?_
            refine rc_p (p_goto (b := 100) (dk_at ktX0_startUp_0 48 rfl) (by decide)) ?_
            refine rc_p (p_iload_n 1 (dk_at ktX0_startUp_0 50 rfl) rfl rfl (b := 101) rfl) ?_
            refine r_iV (As' := [.int 4, .int (nI s)]) (rest := []) (s_X0_appendRecord hd (σ := σz) hRz hIz (by omega) hLz 4 (by decide) (nI s)) cw_X0_157 qi_X0_appendRecord qv_X0_appendRecord rfl hd.l0 hd.s0 (dk_at ktX0_startUp_0 51 rfl) rfl rfl (Nat.le_of_ble_eq_true rfl) (by decide) (b := 104) rfl (fun v120 I117 J118 q119 => ?_)
            obtain ⟨rfl, rfl, ⟨T121, hT122, hR123⟩, hF124, hL125⟩ := q119
            refine r_if_ne (dk_at ktX0_startUp_0 52 rfl) (b := 112) (by decide) (b2 := 107) rfl (fun c104 => ?_) (fun c104 => ?_)
            · have c104 := bi_t c104
              have hL126 := hL125 c104
              refine rc_p (p_iload_n 0 (dk_at ktX0_startUp_0 56 rfl) rfl rfl (b := 113) rfl) ?_
              refine r_if_eq (dk_at ktX0_startUp_0 57 rfl) (b := 122) (by decide) (b2 := 116) rfl (fun c113 => ?_) (fun c113 => ?_)
              · first | exact absurd c113 (by decide) | exact absurd (by decide) c113
              · skip
                refine rc_p (p_aload_n 2 (dk_at ktX0_startUp_0 58 rfl) rfl rfl (b := 117) rfl) ?_
                refine rc_p (p_iload_n 1 (dk_at ktX0_startUp_0 59 rfl) rfl rfl (b := 118) rfl) ?_
                refine r_iV (As' := [.int (nI s)]) (rest := []) (s_X0_run hd (σ := (fApp 4 (nI s) σz).2) hR123 (Inv.app hIz) (by omega) s (by omega)) cw_X0_161 qi_X0_run qv_X0_run rfl hd.l0 hd.s0 (dk_at ktX0_startUp_1 0 rfl) rfl rfl (Nat.le_of_ble_eq_true rfl) (by decide) (b := 121) rfl (fun v130 I127 J128 q129 => ?_)
                obtain ⟨rfl, rfl, ⟨T131, hT132, hR133⟩, hF134⟩ := q129
                refine r_iret (dk_at ktX0_startUp_1 1 rfl) rfl rfl ⟨_, rfl, ?_⟩
                have hmay : mayB σz = true := by unfold mayB; rw [es, tn_nI (by omega), c67, decide_eq_true (Int32.not_le.mp c81)]; rfl
                have he0 := fTry_m hs es hmay
                rw [if_pos c104] at he0
                have he : fBoot σ = (nI s, sRun (fApp 4 (nI s) σz).2 (nI s)) := by rw [hE]; unfold fTR; rw [he0]; exact if_neg (nI_nm1 (by omega))
                exact ⟨congrArg Prod.fst he, rfl, by rw [he]; exact RelE.of hR133 (by omega), (FD.tr (FD.tr hFz (hF124.mo (by simp <;> omega))) (hF134.mo (by simp <;> omega)))⟩
            · have c104 := bi_f c104
              refine rc_p (p_aload_n 2 (dk_at ktX0_startUp_0 53 rfl) rfl rfl (b := 108) rfl) ?_
              refine r_iV (As' := []) (rest := []) (s_X0_losePower hd (σ := (fApp 4 (nI s) σz).2) hR123 (Inv.app hIz) (by omega)) cw_X0_151 qi_X0_losePower qv_X0_losePower rfl hd.l0 hd.s0 (dk_at ktX0_startUp_0 54 rfl) rfl rfl (Nat.le_of_ble_eq_true rfl) (by decide) (b := 111) rfl (fun v138 I135 J136 q137 => ?_)
              obtain ⟨rfl, rfl, ⟨T139, hT140, hR141⟩, hF142⟩ := q137
              refine r_iret (dk_at ktX0_startUp_0 55 rfl) rfl rfl ⟨_, rfl, ?_⟩
              have hmay : mayB σz = true := by unfold mayB; rw [es, tn_nI (by omega), c67, decide_eq_true (Int32.not_le.mp c81)]; rfl
              have he0 := fTry_m hs es hmay
              rw [if_neg (by rw [c104]; decide)] at he0
              have he : fBoot σ = (-4, sCut (fApp 4 (nI s) σz).2) := by rw [hE]; unfold fTR; rw [he0]; exact if_neg (show ¬ (-4 : Int32) = -1 by decide)
              exact ⟨congrArg Prod.fst he, rfl, by rw [he]; exact RelE.of hR141 (by omega), (FD.tr (FD.tr hFz (hF124.mo (by simp <;> omega))) (hF142.mo (by simp <;> omega)))⟩
  refine rc_p (p_aload_n 0 (dk_at ktX0_startUp_0 0 rfl) rfl rfl (b := 1) rfl) ?_
  refine r_vV (As' := []) (rest := []) (s_X0_switchOff hd (σ := σ) hR hI) cw_X0_58 qi_X0_switchOff qv_X0_switchOff rfl hd.l0 hd.s0 (dk_at ktX0_startUp_0 1 rfl) rfl rfl (Nat.le_of_ble_eq_true rfl) (by decide) (b := 4) rfl (fun I143 J144 q145 => ?_)
  obtain ⟨rfl, hR147, hF148⟩ := q145
  refine rc_p (p_aload_n 0 (dk_at ktX0_startUp_0 2 rfl) rfl rfl (b := 5) rfl) ?_
  refine r_geta fl_X0_28 rfl hd.l0 hd.s0 (dk_at ktX0_startUp_0 3 rfl) hd.g0_2 (b := 8) rfl ?_
  refine rc_p (p_aload_n 0 (dk_at ktX0_startUp_0 4 rfl) rfl rfl (b := 9) rfl) ?_
  refine r_geta fl_X0_12 rfl hd.l0 hd.s0 (dk_at ktX0_startUp_0 5 rfl) hd.g0_0 (b := 12) rfl ?_
  refine r_vV (As' := [.ref (d + 1)]) (rest := []) (s_X2_readFrom hd (σ := (sOff σ)) hR147 (Inv.off hI)) cw_X0_145 qi_X2_readFrom qv_X2_readFrom rfl (hd.lt 16 (by decide)) hd.s16 (dk_at ktX0_startUp_0 6 rfl) rfl rfl (Nat.le_of_ble_eq_true rfl) (by decide) (b := 15) rfl (fun I149 J150 q151 => ?_)
  obtain ⟨rfl, hR153, hL155, hF154⟩ := q151
  refine rc_p (p_aload_n 0 (dk_at ktX0_startUp_0 7 rfl) rfl rfl (b := 16) rfl) ?_
  refine r_geta fl_X0_28 rfl hd.l0 hd.s0 (dk_at ktX0_startUp_0 8 rfl) hd.g0_2 (b := 19) rfl ?_
  refine r_geti fl_X0_115 rfl (hd.lt 16 (by decide)) hd.s16 (dk_at ktX0_startUp_0 9 rfl) (v := (activeI (sOff σ))) hL155.1 (b := 22) rfl ?_
  refine rc_p (p_iconst (v := (-1)) (dk_at ktX0_startUp_0 10 rfl) (by decide) (b := 23) rfl) ?_
  refine r_icmp_ne (dk_at ktX0_startUp_0 11 rfl) (b := 49) (by decide) (b2 := 26) rfl (fun c23 => ?_) (fun c23 => ?_)
  · skip
    exact cut49 I149 _ T (by omega) hR153 hI.off (FD.tr (FD.tr FD.rf (hF148.mo (by simp <;> omega))) (hF154.mo (by simp <;> omega))) hL155 (rfl) (by unfold fBoot; rw [fPrep_f c23]; rfl)
  · skip
    refine rc_p (p_aload_n 0 (dk_at ktX0_startUp_0 12 rfl) rfl rfl (b := 27) rfl) ?_
    refine r_iV (As' := []) (rest := []) (s_X0_formatJournal hd (σ := (sOff σ)) hR153 (Inv.off hI) (by omega)) cw_X0_142 qi_X0_formatJournal qv_X0_formatJournal rfl hd.l0 hd.s0 (dk_at ktX0_startUp_0 13 rfl) rfl rfl (Nat.le_of_ble_eq_true rfl) (by decide) (b := 30) rfl (fun v159 I156 J157 q158 => ?_)
    obtain ⟨rfl, rfl, ⟨T160, hT161, hR162⟩, hF163⟩ := q158
    refine r_if_ne (dk_at ktX0_startUp_0 14 rfl) (b := 38) (by decide) (b2 := 33) rfl (fun c30 => ?_) (fun c30 => ?_)
    · have c30 := bi_t c30
      refine rc_p (p_aload_n 0 (dk_at ktX0_startUp_0 18 rfl) rfl rfl (b := 39) rfl) ?_
      refine r_geta fl_X0_28 rfl hd.l0 hd.s0 (dk_at ktX0_startUp_0 19 rfl) hd.g0_2 (b := 42) rfl ?_
      refine rc_p (p_aload_n 0 (dk_at ktX0_startUp_0 20 rfl) rfl rfl (b := 43) rfl) ?_
      refine r_geta fl_X0_12 rfl hd.l0 hd.s0 (dk_at ktX0_startUp_0 21 rfl) hd.g0_0 (b := 46) rfl ?_
      refine r_vV (As' := [.ref (d + 1)]) (rest := []) (s_X2_readFrom hd (σ := (fFormat (sOff σ)).2) hR162 (Inv.fmt (Inv.off hI))) cw_X0_145 qi_X2_readFrom qv_X2_readFrom rfl (hd.lt 16 (by decide)) hd.s16 (dk_at ktX0_startUp_0 22 rfl) rfl rfl (Nat.le_of_ble_eq_true rfl) (by decide) (b := 49) rfl (fun I165 J166 q167 => ?_)
      obtain ⟨rfl, hR169, hL171, hF170⟩ := q167
      exact cut49 I165 _ T160 (by omega) hR169 hI.off.fmt (FD.tr (FD.tr (FD.tr (FD.tr FD.rf (hF148.mo (by simp <;> omega))) (hF154.mo (by simp <;> omega))) (hF163.mo (by simp <;> omega))) (hF170.mo (by simp <;> omega))) hL171 (fFormat_ne Kp_8) (by unfold fBoot; rw [fPrep_t c23, if_pos c30])
    · have c30 := bi_f c30
      refine rc_p (p_aload_n 0 (dk_at ktX0_startUp_0 15 rfl) rfl rfl (b := 34) rfl) ?_
      refine r_iV (As' := []) (rest := []) (s_X0_losePower hd (σ := (fFormat (sOff σ)).2) hR162 (Inv.fmt (Inv.off hI)) (by omega)) cw_X0_151 qi_X0_losePower qv_X0_losePower rfl hd.l0 hd.s0 (dk_at ktX0_startUp_0 16 rfl) rfl rfl (Nat.le_of_ble_eq_true rfl) (by decide) (b := 37) rfl (fun v175 I172 J173 q174 => ?_)
      obtain ⟨rfl, rfl, ⟨T176, hT177, hR178⟩, hF179⟩ := q174
      refine r_iret (dk_at ktX0_startUp_0 17 rfl) rfl rfl ⟨_, rfl, ?_⟩
      have he : fBoot σ = (-4, sCut (fFormat (sOff σ)).2) := by
        unfold fBoot; rw [fPrep_t c23, if_neg (by rw [c30]; decide)]
      exact ⟨congrArg Prod.fst he, rfl, by rw [he]; exact RelE.of hR178 (by omega), (FD.tr (FD.tr (FD.tr (FD.tr FD.rf (hF148.mo (by simp <;> omega))) (hF154.mo (by simp <;> omega))) (hF163.mo (by simp <;> omega))) (hF179.mo (by simp <;> omega)))⟩

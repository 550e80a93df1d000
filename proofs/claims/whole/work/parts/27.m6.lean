/-! THE REFERENCE: appending a record, booting -/
set_option maxRecDepth 4000 in
set_option maxHeartbeats 4000000 in
theorem s_X7_appends {n : Nat} {sh : mS} {G : mG} {I : mI} {J : mJ} {m : Nat} {σ : sT} (hm : ModG n sh G m) (hR : RelW (I (m + 1)) σ) (hI : Inv σ) (hC : I m 23 = 0) (k : Nat) (hk : k < 8) (v : Int32) : Sp yX7_appends cX7_appends 4 (some FieldType.boolean) 7 336 0 0 [.ref m, .int (nI k), .int v] n sh G I J (Qi (fun r_ I_ J_ => bi ((fApp k v σ).1) = r_ ∧ J = J_ ∧ RelW (I_ (m + 1)) (sStop ((fApp k v σ).1) ((fApp k v σ).2)) ∧ FF m [1] [18, 19, 20, 21, 22, 23, 24] I I_ ∧ I_ m 23 = ic ((fApp k v σ).1))) nX := by
  refine Sp.of (by decide) (ls := [(0, .ref m), (1, .int (nI k)), (2, .int v)]) (fun _ => rfl) (fun _ => Nat.le_of_ble_eq_true rfl) ?_
  have cut50 : ∀ (p : Nat), p < 2 → ∀ (Iz : mI) (σz : sT), activeI σz = nI p → RelW (Iz (m + 1)) σz → Inv σz → Iz m 23 = 0 → FF m [1] [18, 19, 20, 21, 22, 23, 24] I Iz → nJ σz = nJ σ → fApp k v σ = fPut k v σz → ffree σz p (nJ σz) < nJ σz → Rc RX7 cX7_appends 4 (some FieldType.boolean) 7 336 0 0 n sh G (Qi (fun r_ I_ J_ => bi ((fApp k v σ).1) = r_ ∧ J = J_ ∧ RelW (I_ (m + 1)) (sStop ((fApp k v σ).1) ((fApp k v σ).2)) ∧ FF m [1] [18, 19, 20, 21, 22, 23, 24] I I_ ∧ I_ m 23 = ic ((fApp k v σ).1))) nX 0 0 50 [(0, .ref m), (1, .int (nI k)), (2, .int v)] [] Iz J := by
    intro p hp Iz σz hA hRz hIz hCz hFz hJ hE hf
    have hbz := hIz.bd
    refine rc_p (p_aload_n 0 (dk_at ktX7_appends_0 26 rfl) rfl rfl (b := 51) rfl) ?_
    refine r_iV (As' := []) (rest := []) (s_X7_active hm (σ := σz) hRz hIz) cw_X7_245 qi_X7_active qv_X7_active rfl hm.l0 hm.s0 (dk_at ktX7_appends_0 27 rfl) rfl rfl (Nat.le_of_ble_eq_true rfl) (by decide) (b := 54) rfl (fun v4 I1 J2 q3 => ?_)
    obtain ⟨ea5, rfl, rfl⟩ := q3
    rw [hA] at ea5
    subst ea5
    refine rc_p (p_istore_n (ls' := [(3, .int (nI p)), (0, .ref m), (1, .int (nI k)), (2, .int v)]) (dk_at ktX7_appends_0 28 rfl) rfl (by decide) rfl (b := 55) rfl) ?_
    refine rc_p (p_aload_n 1 (dk_at ktX7_appends_0 29 rfl) rfl rfl (b := 56) rfl) ?_
    refine rc_p (p_iload_n 0 (dk_at ktX7_appends_0 30 rfl) rfl rfl (b := 57) rfl) ?_
    refine r_iS (As := [.int (nI p)]) (rest := [.ref m]) (s_X7_pageAt p) cw_X7_216 qs_X7_pageAt (dk_at ktX7_appends_0 31 rfl) rfl rfl (Nat.le_of_ble_eq_true rfl) (by decide) (b := 60) rfl (fun v9 I6 J7 q8 => ?_)
    obtain ⟨rfl, rfl, rfl⟩ := q8
    refine rc_p (p_aload_n 1 (dk_at ktX7_appends_0 32 rfl) rfl rfl (b := 61) rfl) ?_
    refine rc_p (p_iload_n 0 (dk_at ktX7_appends_0 33 rfl) rfl rfl (b := 62) rfl) ?_
    refine r_iV (As' := [.int (nI p)]) (rest := [.int (nI (211 + 32 * p)), .ref m]) (s_X7_firstFree hm (σ := σz) hRz hIz p (by omega)) cw_X7_294 qi_X7_firstFree qv_X7_firstFree rfl hm.l0 hm.s0 (dk_at ktX7_appends_0 34 rfl) rfl rfl (Nat.le_of_ble_eq_true rfl) (by decide) (b := 65) rfl (fun v13 I10 J11 q12 => ?_)
    obtain ⟨rfl, rfl, rfl⟩ := q12
    refine rc_p (p_iadd (v := (nI (211 + 32 * p + (ffree σz p (nJ σz))))) (dk_at ktX7_appends_0 35 rfl) (nI_add (211 + 32 * p) (ffree σz p (nJ σz))) (b := 66) rfl) ?_
    refine rc_p (p_iload_n 2 (dk_at ktX7_appends_0 36 rfl) rfl rfl (b := 67) rfl) ?_
    refine rc_p (p_iload_n 3 (dk_at ktX7_appends_0 37 rfl) rfl rfl (b := 68) rfl) ?_
    refine r_iS (As := [.int (nI k), .int v]) (rest := [.int (nI (211 + 32 * p + (ffree σz p (nJ σz)))), .ref m]) (s_X7_wordOf (nI k) v) cw_X7_50 qs_X7_wordOf (dk_at ktX7_appends_0 38 rfl) rfl rfl (Nat.le_of_ble_eq_true rfl) (by decide) (b := 71) rfl (fun v17 I14 J15 q16 => ?_)
    obtain ⟨rfl, rfl, rfl⟩ := q16
    refine r_iV (As' := [.int (nI (211 + 32 * p + (ffree σz p (nJ σz)))), .int (wordI (nI k) v)]) (rest := []) (s_X7_writes hm (σ := σz) hRz hIz hCz (211 + 32 * p + (ffree σz p (nJ σz))) (by omega) (by omega) (wordI (nI k) v)) cw_X7_280 qi_X7_writes qv_X7_writes rfl hm.l0 hm.s0 (dk_at ktX7_appends_0 39 rfl) rfl rfl (Nat.le_of_ble_eq_true rfl) (by decide) (b := 74) rfl (fun v21 I18 J19 q20 => ?_)
    obtain ⟨rfl, rfl, hR22, hF23, hC24⟩ := q20
    refine r_if_ne (dk_at ktX7_appends_0 40 rfl) (b := 79) (by decide) (b2 := 77) rfl (fun c74 => ?_) (fun c74 => ?_)
    · have c74 := bi_t c74
      have hR25 : RelW (I18 (m + 1)) (sWr σz (211 + 32 * p + (ffree σz p (nJ σz))) (wordI (nI k) v)) := by rw [c74] at hR22; exact hR22
      have hC26 : I18 m 23 = 0 := by rw [c74] at hC24; exact hC24
      refine rc_p (p_iload_n 2 (dk_at ktX7_appends_0 43 rfl) rfl rfl (b := 80) rfl) ?_
      refine rc_p (p_iconst (v := 3) (dk_at ktX7_appends_0 44 rfl) (by decide) (b := 81) rfl) ?_
      refine r_icmp_ne (dk_at ktX7_appends_0 45 rfl) (b := 90) (by decide) (b2 := 84) rfl (fun c81 => ?_) (fun c81 => ?_)
      · have c81 : ¬ k = 3 := fun h => c81 ((nI_eq (a := k) (b := 3) (by omega) (by omega)).mpr h)
        refine rc_p (p_iload_n 2 (dk_at ktX7_appends_0 50 rfl) rfl rfl (b := 91) rfl) ?_
        refine rc_p (p_iconst (v := 2) (dk_at ktX7_appends_0 51 rfl) (by decide) (b := 92) rfl) ?_
        refine r_icmp_ne (dk_at ktX7_appends_0 52 rfl) (b := 101) (by decide) (b2 := 95) rfl (fun c92 => ?_) (fun c92 => ?_)
        · have c92 : ¬ k = 2 := fun h => c92 ((nI_eq (a := k) (b := 2) (by omega) (by omega)).mpr h)
          refine rc_p (p_iload_n 2 (dk_at ktX7_appends_0 57 rfl) rfl rfl (b := 102) rfl) ?_
          refine rc_p (p_iconst (v := 5) (dk_at ktX7_appends_0 58 rfl) (by decide) (b := 103) rfl) ?_
          refine r_icmp_ne (dk_at ktX7_appends_0 59 rfl) (b := 112) (by decide) (b2 := 106) rfl (fun c103 => ?_) (fun c103 => ?_)
          · have c103 : ¬ k = 5 := fun h => c103 ((nI_eq (a := k) (b := 5) (by omega) (by omega)).mpr h)
            refine rc_p (p_iconst (v := 1) (dk_at ktX7_appends_1 4 rfl) (by decide) (b := 113) rfl) ?_
            refine r_iret (dk_at ktX7_appends_1 5 rfl) rfl rfl ⟨_, rfl, ?_⟩
            have he : fApp k v σ = (true, ((sWr σz (211 + 32 * p + ffree σz p (nJ σz)) (wordI (nI k) v)))) := by
              rw [hE, fPut_p hp hA, sq_e (fWr_e c74)]
              rw [fRec_o c81 c92 c103]; rfl
            refine ⟨by rw [he]; rfl, rfl, by rw [he]; exact hR25, (FF.tr (hFz.mo (by decide) (by decide)) (hF23.mo (by decide) (by decide))), by rw [he]; exact hC26⟩
          · have c103 : k = 5 := (nI_eq (a := k) (b := 5) (by omega) (by omega)).mp c103
            refine rc_p (p_aload_n 1 (dk_at ktX7_appends_1 0 rfl) rfl rfl (b := 107) rfl) ?_
            refine rc_p (p_iconst (v := 4) (dk_at ktX7_appends_1 1 rfl) (by decide) (b := 108) rfl) ?_
            refine rc_p (p_iload_n 3 (dk_at ktX7_appends_1 2 rfl) rfl rfl (b := 109) rfl) ?_
            refine r_vV (As' := [.int 4, .int v]) (rest := []) (s_X7_notes hm (σ := (sWr σz (211 + 32 * p + (ffree σz p (nJ σz))) (wordI (nI k) v))) hR25 ((Inv.wr hIz (by omega) (by omega))).2.1 4 (by decide) v) cw_X7_262 qi_X7_notes qv_X7_notes rfl hm.l0 hm.s0 (dk_at ktX7_appends_1 3 rfl) rfl rfl (Nat.le_of_ble_eq_true rfl) (by decide) (b := 112) rfl (fun I27 J28 q29 => ?_)
            obtain ⟨rfl, hR31, hF32⟩ := q29
            refine rc_p (p_iconst (v := 1) (dk_at ktX7_appends_1 4 rfl) (by decide) (b := 113) rfl) ?_
            refine r_iret (dk_at ktX7_appends_1 5 rfl) rfl rfl ⟨_, rfl, ?_⟩
            have he : fApp k v σ = (true, (sNote (sWr σz (211 + 32 * p + ffree σz p (nJ σz)) (wordI (nI k) v)) 4 v)) := by
              rw [hE, fPut_p hp hA, sq_e (fWr_e c74)]
              subst c103; rw [fRec_5]; rfl
            refine ⟨by rw [he]; rfl, rfl, by rw [he]; exact hR31, (FF.tr (FF.tr (hFz.mo (by decide) (by decide)) (hF23.mo (by decide) (by decide))) (hF32.mo (by decide) (by decide))), by rw [he]; exact (((hF32.2 23 (by decide))).trans hC26)⟩
        · have c92 : k = 2 := (nI_eq (a := k) (b := 2) (by omega) (by omega)).mp c92
          refine rc_p (p_aload_n 1 (dk_at ktX7_appends_0 53 rfl) rfl rfl (b := 96) rfl) ?_
          refine rc_p (p_iconst (v := 3) (dk_at ktX7_appends_0 54 rfl) (by decide) (b := 97) rfl) ?_
          refine rc_p (p_iload_n 3 (dk_at ktX7_appends_0 55 rfl) rfl rfl (b := 98) rfl) ?_
          refine r_vV (As' := [.int 3, .int v]) (rest := []) (s_X7_notes hm (σ := (sWr σz (211 + 32 * p + (ffree σz p (nJ σz))) (wordI (nI k) v))) hR25 ((Inv.wr hIz (by omega) (by omega))).2.1 3 (by decide) v) cw_X7_262 qi_X7_notes qv_X7_notes rfl hm.l0 hm.s0 (dk_at ktX7_appends_0 56 rfl) rfl rfl (Nat.le_of_ble_eq_true rfl) (by decide) (b := 101) rfl (fun I33 J34 q35 => ?_)
          obtain ⟨rfl, hR37, hF38⟩ := q35
          refine rc_p (p_iload_n 2 (dk_at ktX7_appends_0 57 rfl) rfl rfl (b := 102) rfl) ?_
          refine rc_p (p_iconst (v := 5) (dk_at ktX7_appends_0 58 rfl) (by decide) (b := 103) rfl) ?_
          refine r_icmp_ne (dk_at ktX7_appends_0 59 rfl) (b := 112) (by decide) (b2 := 106) rfl (fun c103 => ?_) (fun c103 => ?_)
          · have c103 : ¬ k = 5 := fun h => c103 ((nI_eq (a := k) (b := 5) (by omega) (by omega)).mpr h)
            refine rc_p (p_iconst (v := 1) (dk_at ktX7_appends_1 4 rfl) (by decide) (b := 113) rfl) ?_
            refine r_iret (dk_at ktX7_appends_1 5 rfl) rfl rfl ⟨_, rfl, ?_⟩
            have he : fApp k v σ = (true, (sNote (sWr σz (211 + 32 * p + ffree σz p (nJ σz)) (wordI (nI k) v)) 3 v)) := by
              rw [hE, fPut_p hp hA, sq_e (fWr_e c74)]
              subst c92; rw [fRec_2]; rfl
            refine ⟨by rw [he]; rfl, rfl, by rw [he]; exact hR37, (FF.tr (FF.tr (hFz.mo (by decide) (by decide)) (hF23.mo (by decide) (by decide))) (hF38.mo (by decide) (by decide))), by rw [he]; exact (((hF38.2 23 (by decide))).trans hC26)⟩
          · have c103 : k = 5 := (nI_eq (a := k) (b := 5) (by omega) (by omega)).mp c103
            omega
      · have c81 : k = 3 := (nI_eq (a := k) (b := 3) (by omega) (by omega)).mp c81
        refine rc_p (p_aload_n 1 (dk_at ktX7_appends_0 46 rfl) rfl rfl (b := 85) rfl) ?_
        refine rc_p (p_iconst (v := 2) (dk_at ktX7_appends_0 47 rfl) (by decide) (b := 86) rfl) ?_
        refine rc_p (p_iload_n 3 (dk_at ktX7_appends_0 48 rfl) rfl rfl (b := 87) rfl) ?_
        refine r_vV (As' := [.int 2, .int v]) (rest := []) (s_X7_notes hm (σ := (sWr σz (211 + 32 * p + (ffree σz p (nJ σz))) (wordI (nI k) v))) hR25 ((Inv.wr hIz (by omega) (by omega))).2.1 2 (by decide) v) cw_X7_262 qi_X7_notes qv_X7_notes rfl hm.l0 hm.s0 (dk_at ktX7_appends_0 49 rfl) rfl rfl (Nat.le_of_ble_eq_true rfl) (by decide) (b := 90) rfl (fun I39 J40 q41 => ?_)
        obtain ⟨rfl, hR43, hF44⟩ := q41
        refine rc_p (p_iload_n 2 (dk_at ktX7_appends_0 50 rfl) rfl rfl (b := 91) rfl) ?_
        refine rc_p (p_iconst (v := 2) (dk_at ktX7_appends_0 51 rfl) (by decide) (b := 92) rfl) ?_
        refine r_icmp_ne (dk_at ktX7_appends_0 52 rfl) (b := 101) (by decide) (b2 := 95) rfl (fun c92 => ?_) (fun c92 => ?_)
        · have c92 : ¬ k = 2 := fun h => c92 ((nI_eq (a := k) (b := 2) (by omega) (by omega)).mpr h)
          refine rc_p (p_iload_n 2 (dk_at ktX7_appends_0 57 rfl) rfl rfl (b := 102) rfl) ?_
          refine rc_p (p_iconst (v := 5) (dk_at ktX7_appends_0 58 rfl) (by decide) (b := 103) rfl) ?_
          refine r_icmp_ne (dk_at ktX7_appends_0 59 rfl) (b := 112) (by decide) (b2 := 106) rfl (fun c103 => ?_) (fun c103 => ?_)
          · have c103 : ¬ k = 5 := fun h => c103 ((nI_eq (a := k) (b := 5) (by omega) (by omega)).mpr h)
            refine rc_p (p_iconst (v := 1) (dk_at ktX7_appends_1 4 rfl) (by decide) (b := 113) rfl) ?_
            refine r_iret (dk_at ktX7_appends_1 5 rfl) rfl rfl ⟨_, rfl, ?_⟩
            have he : fApp k v σ = (true, (sNote (sWr σz (211 + 32 * p + ffree σz p (nJ σz)) (wordI (nI k) v)) 2 v)) := by
              rw [hE, fPut_p hp hA, sq_e (fWr_e c74)]
              subst c81; rw [fRec_3]; rfl
            refine ⟨by rw [he]; rfl, rfl, by rw [he]; exact hR43, (FF.tr (FF.tr (hFz.mo (by decide) (by decide)) (hF23.mo (by decide) (by decide))) (hF44.mo (by decide) (by decide))), by rw [he]; exact (((hF44.2 23 (by decide))).trans hC26)⟩
          · have c103 : k = 5 := (nI_eq (a := k) (b := 5) (by omega) (by omega)).mp c103
            omega
        · have c92 : k = 2 := (nI_eq (a := k) (b := 2) (by omega) (by omega)).mp c92
          omega
    · have c74 := bi_f c74
      have hR45 : RelW (I18 (m + 1)) (sCut (sWr σz (211 + 32 * p + (ffree σz p (nJ σz))) (wordI (nI k) v))) := by rw [c74] at hR22; exact hR22
      have hC46 : I18 m 23 = 1 := by rw [c74] at hC24; exact hC24
      refine rc_p (p_iconst (v := 0) (dk_at ktX7_appends_0 41 rfl) (by decide) (b := 78) rfl) ?_
      refine r_iret (dk_at ktX7_appends_0 42 rfl) rfl rfl ⟨_, rfl, ?_⟩
      have he : fApp k v σ = (false, (sWr σz (211 + 32 * p + ffree σz p (nJ σz)) (wordI (nI k) v))) := by
        rw [hE, fPut_p hp hA, sq_n (fWr_e c74)]
      refine ⟨by rw [he]; rfl, rfl, by rw [he]; exact hR45, (FF.tr (hFz.mo (by decide) (by decide)) (hF23.mo (by decide) (by decide))), by rw [he]; exact hC46⟩
  have cut24 : ∀ (p : Nat), p < 2 → ∀ (Iz : mI) (σz : sT), activeI σz = nI p → RelW (Iz (m + 1)) σz → Inv σz → Iz m 23 = 0 → FF m [1] [18, 19, 20, 21, 22, 23, 24] I Iz → nJ σz = nJ σ → fApp k v σ = sq fFull (fPut k v) σz → Rc RX7 cX7_appends 4 (some FieldType.boolean) 7 336 0 0 n sh G (Qi (fun r_ I_ J_ => bi ((fApp k v σ).1) = r_ ∧ J = J_ ∧ RelW (I_ (m + 1)) (sStop ((fApp k v σ).1) ((fApp k v σ).2)) ∧ FF m [1] [18, 19, 20, 21, 22, 23, 24] I I_ ∧ I_ m 23 = ic ((fApp k v σ).1))) nX 0 0 24 [(0, .ref m), (1, .int (nI k)), (2, .int v)] [] Iz J := by
    intro p hp Iz σz hA hRz hIz hCz hFz hJ hE
    have hbz := hIz.bd
    have hfl := ffree_le σz p (nJ σz)
    refine rc_p (p_aload_n 0 (dk_at ktX7_appends_0 12 rfl) rfl rfl (b := 25) rfl) ?_
    refine rc_p (p_aload_n 0 (dk_at ktX7_appends_0 13 rfl) rfl rfl (b := 26) rfl) ?_
    refine r_iV (As' := []) (rest := [.ref m]) (s_X7_active hm (σ := σz) hRz hIz) cw_X7_245 qi_X7_active qv_X7_active rfl hm.l0 hm.s0 (dk_at ktX7_appends_0 14 rfl) rfl rfl (Nat.le_of_ble_eq_true rfl) (by decide) (b := 29) rfl (fun v50 I47 J48 q49 => ?_)
    obtain ⟨ea51, rfl, rfl⟩ := q49
    rw [hA] at ea51
    subst ea51
    refine r_iV (As' := [.int (nI p)]) (rest := []) (s_X7_firstFree hm (σ := σz) hRz hIz p (by omega)) cw_X7_294 qi_X7_firstFree qv_X7_firstFree rfl hm.l0 hm.s0 (dk_at ktX7_appends_0 15 rfl) rfl rfl (Nat.le_of_ble_eq_true rfl) (by decide) (b := 32) rfl (fun v55 I52 J53 q54 => ?_)
    obtain ⟨rfl, rfl, rfl⟩ := q54
    refine rc_p (p_aload_n 0 (dk_at ktX7_appends_0 16 rfl) rfl rfl (b := 33) rfl) ?_
    refine r_geta fl_X7_9 rfl hm.l0 hm.s0 (dk_at ktX7_appends_0 17 rfl) hm.g0_0 (b := 36) rfl ?_
    refine rc_p (p_iconst (v := 2) (dk_at ktX7_appends_0 18 rfl) (by decide) (b := 37) rfl) ?_
    refine r_iald (j := 2) (hm.lt 1 (by decide)) hm.s1 (dk_at ktX7_appends_0 19 rfl) rfl ⟨by decide, by decide⟩ (v := (nI (nJ σz))) ((hRz.1 2 (by decide)).trans hIz.w2) (b := 38) rfl ?_
    refine r_icmp_ne (dk_at ktX7_appends_0 20 rfl) (b := 50) (by decide) (b2 := 41) rfl (fun c38 => ?_) (fun c38 => ?_)
    · have c38 : ¬ (ffree σz p (nJ σz)) = (nJ σz) := fun h => c38 ((nI_eq (a := ffree σz p (nJ σz)) (b := nJ σz) (by omega) (by omega)).mpr h)
      exact cut50 p hp Iz σz hA hRz hIz hCz hFz hJ (by rw [hE, sq_e (f := fFull) (fFull_f hp hA c38)]) (by have := ffree_le σz p (nJ σz); omega)
    · have c38 : (ffree σz p (nJ σz)) = (nJ σz) := (nI_eq (a := ffree σz p (nJ σz)) (b := nJ σz) (by omega) (by omega)).mp c38
      refine rc_p (p_aload_n 0 (dk_at ktX7_appends_0 21 rfl) rfl rfl (b := 42) rfl) ?_
      refine r_iV (As' := []) (rest := []) (s_X7_movesJournal hm (σ := σz) hRz hIz hCz p hp hA) cw_X7_297 qi_X7_movesJournal qv_X7_movesJournal rfl hm.l0 hm.s0 (dk_at ktX7_appends_0 22 rfl) rfl rfl (Nat.le_of_ble_eq_true rfl) (by decide) (b := 45) rfl (fun v59 I56 J57 q58 => ?_)
      obtain ⟨rfl, rfl, hR60, hF61, hC62⟩ := q58
      refine r_if_ne (dk_at ktX7_appends_0 23 rfl) (b := 50) (by decide) (b2 := 48) rfl (fun c45 => ?_) (fun c45 => ?_)
      · have c45 := bi_t c45
        have hR63 : RelW (I56 (m + 1)) ((fMoveP p σz).2) := by rw [c45] at hR60; exact hR60
        have hC64 : I56 m 23 = 0 := by rw [c45] at hC62; exact hC62
        exact cut50 (1 - p) (by omega) I56 _ (move_end hIz hp hA c45).1 hR63 (Inv.mvp hIz hp) hC64 (FF.tr hFz hF61) (nJ_mvp.trans hJ) (by rw [hE, sq_e (f := fFull) (by rw [fFull_t hp hA c38]; exact pr_e c45)]) (by have := (move_end hIz hp hA c45).2; rw [nJ_mvp]; omega)
      · have c45 := bi_f c45
        have hR65 : RelW (I56 (m + 1)) (sCut ((fMoveP p σz).2)) := by rw [c45] at hR60; exact hR60
        have hC66 : I56 m 23 = 1 := by rw [c45] at hC62; exact hC62
        refine rc_p (p_iconst (v := 0) (dk_at ktX7_appends_0 24 rfl) (by decide) (b := 49) rfl) ?_
        refine r_iret (dk_at ktX7_appends_0 25 rfl) rfl rfl ⟨_, rfl, ?_⟩
        have he : fApp k v σ = (false, (fMoveP p σz).2) := by
          rw [hE, sq_n (f := fFull) (by rw [fFull_t hp hA c38]; exact pr_e c45)]
        refine ⟨by rw [he]; rfl, rfl, by rw [he]; exact hR65, (FF.tr (hFz.mo (by decide) (by decide)) (hF61.mo (by decide) (by decide))), by rw [he]; exact hC66⟩
  have hb := hI.bd
  refine rc_p (p_aload_n 0 (dk_at ktX7_appends_0 0 rfl) rfl rfl (b := 1) rfl) ?_
  refine r_geti fl_X7_258 rfl hm.l0 hm.s0 (dk_at ktX7_appends_0 1 rfl) (v := 0) hC (b := 4) rfl ?_
  refine r_if_ne (dk_at ktX7_appends_0 2 rfl) (b := 22) (by decide) (b2 := 7) rfl (fun c4 => ?_) (fun c4 => ?_)
  · first | exact absurd c4 (by decide) | exact absurd (by decide) c4
  · skip
    refine rc_p (p_aload_n 0 (dk_at ktX7_appends_0 3 rfl) rfl rfl (b := 8) rfl) ?_
    refine r_iV (As' := []) (rest := []) (s_X7_active hm (σ := σ) hR hI) cw_X7_245 qi_X7_active qv_X7_active rfl hm.l0 hm.s0 (dk_at ktX7_appends_0 4 rfl) rfl rfl (Nat.le_of_ble_eq_true rfl) (by decide) (b := 11) rfl (fun v70 I67 J68 q69 => ?_)
    obtain ⟨ea71, rfl, rfl⟩ := q69
    refine rc_p (p_iconst (v := (-1)) (dk_at ktX7_appends_0 5 rfl) (by decide) (b := 12) rfl) ?_
    refine r_icmp_ne (dk_at ktX7_appends_0 6 rfl) (b := 24) (by decide) (b2 := 15) rfl (fun c12 => ?_) (fun c12 => ?_)
    · skip
      obtain ⟨p, hp, rfl⟩ := act_n ea71 c12
      exact cut24 p hp I σ ea71 hR hI hC FF.rf rfl (by unfold fApp; rw [sq_e (f := fPrep) (fPrep_f (by rw [ea71]; exact c12))])
    · skip
      refine rc_p (p_aload_n 0 (dk_at ktX7_appends_0 7 rfl) rfl rfl (b := 16) rfl) ?_
      refine r_iV (As' := []) (rest := []) (s_X7_formats hm (σ := σ) hR hI hC) cw_X7_291 qi_X7_formats qv_X7_formats rfl hm.l0 hm.s0 (dk_at ktX7_appends_0 8 rfl) rfl rfl (Nat.le_of_ble_eq_true rfl) (by decide) (b := 19) rfl (fun v75 I72 J73 q74 => ?_)
      obtain ⟨rfl, rfl, hR76, hF77, hC78⟩ := q74
      refine r_if_ne (dk_at ktX7_appends_0 9 rfl) (b := 24) (by decide) (b2 := 22) rfl (fun c19 => ?_) (fun c19 => ?_)
      · have c19 := bi_t c19
        have hR79 : RelW (I72 (m + 1)) ((fFormat σ).2) := by rw [c19] at hR76; exact hR76
        have hC80 : I72 m 23 = 0 := by rw [c19] at hC78; exact hC78
        exact cut24 0 (by decide) I72 _ (act_0 hI (ea71.trans c12) c19) hR79 hI.fmt hC80 (hF77.mo (by decide) (by decide)) (nJ_of (fFormat_ne Kp_2)) (by unfold fApp; rw [sq_e (f := fPrep) (by rw [fPrep_t (ea71.trans c12)]; exact pr_e c19)])
      · have c19 := bi_f c19
        have hR81 : RelW (I72 (m + 1)) (sCut ((fFormat σ).2)) := by rw [c19] at hR76; exact hR76
        have hC82 : I72 m 23 = 1 := by rw [c19] at hC78; exact hC78
        refine rc_p (p_iconst (v := 0) (dk_at ktX7_appends_0 10 rfl) (by decide) (b := 23) rfl) ?_
        refine r_iret (dk_at ktX7_appends_0 11 rfl) rfl rfl ⟨_, rfl, ?_⟩
        have he : fApp k v σ = (false, (fFormat σ).2) := by
          unfold fApp
          rw [sq_n (f := fPrep) (by rw [fPrep_t (ea71.trans c12)]; exact pr_e c19)]
        refine ⟨by rw [he]; rfl, rfl, by rw [he]; exact hR81, (hF77.mo (by decide) (by decide)), by rw [he]; exact hC82⟩
set_option maxRecDepth 4000 in
set_option maxHeartbeats 4000000 in
theorem s_X7_triesNew {n : Nat} {sh : mS} {G : mG} {I : mI} {J : mJ} {m : Nat} {σ : sT} (hm : ModG n sh G m) (hR : RelW (I (m + 1)) σ) (hI : Inv σ) (hC : I m 23 = 0)  : Sp yX7_triesNew cX7_triesNew 3 (some FieldType.int) 8 384 0 0 [.ref m] n sh G I J (Qi (fun r_ I_ J_ => (fTry σ).1 = r_ ∧ J = J_ ∧ RelW (I_ (m + 1)) (fTry σ).2 ∧ FF m [1] [18, 19, 20, 21, 22, 23, 24] I I_)) nX := by
  refine Sp.of (by decide) (ls := [(0, .ref m)]) (fun _ => rfl) (fun _ => Nat.le_of_ble_eq_true rfl) ?_
  refine rc_p (p_aload_n 0 (dk_at ktX7_triesNew_0 0 rfl) rfl rfl (b := 1) rfl) ?_
  refine r_vV (As' := []) (rest := []) (s_X7_tells hm (σ := σ) hR hI) cw_X7_255 qi_X7_tells qv_X7_tells rfl hm.l0 hm.s0 (dk_at ktX7_triesNew_0 1 rfl) rfl rfl (Nat.le_of_ble_eq_true rfl) (by decide) (b := 4) rfl (fun I1 J2 q3 => ?_)
  obtain ⟨rfl, hR7, hT5, hF6⟩ := q3
  refine rc_p (p_aload_n 0 (dk_at ktX7_triesNew_0 2 rfl) rfl rfl (b := 5) rfl) ?_
  refine r_geti fl_X7_235 rfl hm.l0 hm.s0 (dk_at ktX7_triesNew_0 3 rfl) (v := ((told σ) 2)) (hT5 2 (by decide)) (b := 8) rfl ?_
  refine rc_p (p_iconst (v := (-1)) (dk_at ktX7_triesNew_0 4 rfl) (by decide) (b := 9) rfl) ?_
  refine r_icmp_ne (dk_at ktX7_triesNew_0 5 rfl) (b := 14) (by decide) (b2 := 12) rfl (fun c9 => ?_) (fun c9 => ?_)
  · skip
    obtain ⟨s, hs, es⟩ := told_s (told_ok hI).2.2.1 c9
    refine rc_p (p_aload_n 0 (dk_at ktX7_triesNew_0 8 rfl) rfl rfl (b := 15) rfl) ?_
    refine r_geti fl_X7_235 rfl hm.l0 hm.s0 (dk_at ktX7_triesNew_0 9 rfl) (v := (nI s)) ((hT5 2 (by decide)).trans es) (b := 18) rfl ?_
    refine rc_p (p_istore_n (ls' := [(1, .int (nI s)), (0, .ref m)]) (dk_at ktX7_triesNew_0 10 rfl) rfl (by decide) rfl (b := 19) rfl) ?_
    refine rc_p (p_aload_n 1 (dk_at ktX7_triesNew_0 11 rfl) rfl rfl (b := 20) rfl) ?_
    refine rc_p (p_iload_n 0 (dk_at ktX7_triesNew_0 12 rfl) rfl rfl (b := 21) rfl) ?_
    refine r_iV (As' := [.int (nI s)]) (rest := []) (s_X7_canBoot hm (σ := σ) hR7 hI s (by omega)) cw_X7_304 qi_X7_canBoot qv_X7_canBoot rfl hm.l0 hm.s0 (dk_at ktX7_triesNew_0 13 rfl) rfl rfl (Nat.le_of_ble_eq_true rfl) (by decide) (b := 24) rfl (fun v11 I8 J9 q10 => ?_)
    obtain ⟨rfl, rfl, hR14, hT12, hF13⟩ := q10
    refine r_if_eq (dk_at ktX7_triesNew_0 14 rfl) (b := 44) (by decide) (b2 := 27) rfl (fun c24 => ?_) (fun c24 => ?_)
    · have c24 := bi_f c24
      refine rc_p (p_iconst (v := 0) (dk_at ktX7_triesNew_0 24 rfl) (by decide) (b := 45) rfl) ?_
      refine rc_p (p_istore_n (ls' := [(2, .int 0), (1, .int (nI s)), (0, .ref m)]) (dk_at ktX7_triesNew_0 25 rfl) rfl (by decide) rfl (b := 46) rfl) ?_
      refine rc_p (p_aload_n 2 (dk_at ktX7_triesNew_0 26 rfl) rfl rfl (b := 47) rfl) ?_
      refine rc_p (p_iload_n 0 (dk_at ktX7_triesNew_0 27 rfl) rfl rfl (b := 48) rfl) ?_
      refine r_if_eq (dk_at ktX7_triesNew_0 28 rfl) (b := 55) (by decide) (b2 := 51) rfl (fun c48 => ?_) (fun c48 => ?_)
      · skip
        refine rc_p (p_iconst (v := 5) (dk_at ktX7_triesNew_0 31 rfl) (by decide) (b := 56) rfl) ?_
        refine rc_p (p_iload_n 1 (dk_at ktX7_triesNew_0 32 rfl) rfl rfl (b := 57) rfl) ?_
        refine r_iV (As' := [.int 5, .int (nI s)]) (rest := []) (s_X7_appends hm (σ := σ) hR14 hI (((hF13.2 23 (by decide))).trans (((hF6.2 23 (by decide))).trans hC)) 5 (by decide) (nI s)) cw_X7_307 qi_X7_appends qv_X7_appends rfl hm.l0 hm.s0 (dk_at ktX7_triesNew_0 33 rfl) rfl rfl (Nat.le_of_ble_eq_true rfl) (by decide) (b := 60) rfl (fun v18 I15 J16 q17 => ?_)
        obtain ⟨rfl, rfl, hR19, hF20, hC21⟩ := q17
        refine r_if_ne (dk_at ktX7_triesNew_0 34 rfl) (b := 66) (by decide) (b2 := 63) rfl (fun c60 => ?_) (fun c60 => ?_)
        · have c60 := bi_t c60
          have hR22 : RelW (I15 (m + 1)) ((fApp 5 (nI s) σ).2) := by rw [c60] at hR19; exact hR19
          have hC23 : I15 m 23 = 0 := by rw [c60] at hC21; exact hC21
          refine rc_p (p_iload_n 0 (dk_at ktX7_triesNew_0 37 rfl) rfl rfl (b := 67) rfl) ?_
          refine r_if_eq (dk_at ktX7_triesNew_0 38 rfl) (b := 78) (by decide) (b2 := 70) rfl (fun c67 => ?_) (fun c67 => ?_)
          · skip
            refine rc_p (p_iconst (v := (-1)) (dk_at ktX7_triesNew_0 43 rfl) (by decide) (b := 79) rfl) ?_
            refine r_iret (dk_at ktX7_triesNew_0 44 rfl) rfl rfl ⟨_, rfl, ?_⟩
            have hmay : mayB σ = false := by unfold mayB; rw [es, tn_nI (by omega), c24]; rfl
            have he := fTry_b hs es hmay
            rw [if_pos c60] at he
            exact ⟨congrArg Prod.fst he, rfl, by rw [he]; exact hR22, (FF.tr (FF.tr (hF6.mo (by decide) (by decide)) (hF13.mo (by decide) (by decide))) (hF20.mo (by decide) (by decide)))⟩
          · first | exact absurd c67 (by decide) | exact absurd (by decide) c67
        · have c60 := bi_f c60
          have hR24 : RelW (I15 (m + 1)) (sCut ((fApp 5 (nI s) σ).2)) := by rw [c60] at hR19; exact hR19
          have hC25 : I15 m 23 = 1 := by rw [c60] at hC21; exact hC21
          refine rc_p (p_bipush (v := (-4)) (dk_at ktX7_triesNew_0 35 rfl) (by decide) (b := 65) rfl) ?_
          refine r_iret (dk_at ktX7_triesNew_0 36 rfl) rfl rfl ⟨_, rfl, ?_⟩
          have hmay : mayB σ = false := by unfold mayB; rw [es, tn_nI (by omega), c24]; rfl
          have he := fTry_b hs es hmay
          rw [if_neg (by rw [c60]; decide)] at he
          exact ⟨congrArg Prod.fst he, rfl, by rw [he]; exact hR24, (FF.tr (FF.tr (hF6.mo (by decide) (by decide)) (hF13.mo (by decide) (by decide))) (hF20.mo (by decide) (by decide)))⟩
      · first | exact absurd c48 (by decide) | exact absurd (by decide) c48
    · have c24 := bi_t c24
      refine rc_p (p_aload_n 1 (dk_at ktX7_triesNew_0 15 rfl) rfl rfl (b := 28) rfl) ?_
      refine r_geti fl_X7_238 rfl hm.l0 hm.s0 (dk_at ktX7_triesNew_0 16 rfl) (v := ((told σ) 3)) (hT12 3 (by decide)) (b := 31) rfl ?_
      refine rc_p (p_aload_n 1 (dk_at ktX7_triesNew_0 17 rfl) rfl rfl (b := 32) rfl) ?_
      refine r_geta fl_X7_9 rfl hm.l0 hm.s0 (dk_at ktX7_triesNew_0 18 rfl) hm.g0_0 (b := 35) rfl ?_
      refine rc_p (p_iconst (v := 3) (dk_at ktX7_triesNew_0 19 rfl) (by decide) (b := 36) rfl) ?_
      refine r_iald (j := 3) (hm.lt 1 (by decide)) hm.s1 (dk_at ktX7_triesNew_0 20 rfl) rfl ⟨by decide, by decide⟩ (v := (σ 3)) (hR14.1 3 (by decide)) (b := 37) rfl ?_
      refine r_icmp_ge (dk_at ktX7_triesNew_0 21 rfl) (b := 44) (by decide) (b2 := 40) rfl (fun c37 => ?_) (fun c37 => ?_)
      · skip
        refine rc_p (p_iconst (v := 0) (dk_at ktX7_triesNew_0 24 rfl) (by decide) (b := 45) rfl) ?_
        refine rc_p (p_istore_n (ls' := [(2, .int 0), (1, .int (nI s)), (0, .ref m)]) (dk_at ktX7_triesNew_0 25 rfl) rfl (by decide) rfl (b := 46) rfl) ?_
        refine rc_p (p_aload_n 2 (dk_at ktX7_triesNew_0 26 rfl) rfl rfl (b := 47) rfl) ?_
        refine rc_p (p_iload_n 0 (dk_at ktX7_triesNew_0 27 rfl) rfl rfl (b := 48) rfl) ?_
        refine r_if_eq (dk_at ktX7_triesNew_0 28 rfl) (b := 55) (by decide) (b2 := 51) rfl (fun c48 => ?_) (fun c48 => ?_)
        · skip
          refine rc_p (p_iconst (v := 5) (dk_at ktX7_triesNew_0 31 rfl) (by decide) (b := 56) rfl) ?_
          refine rc_p (p_iload_n 1 (dk_at ktX7_triesNew_0 32 rfl) rfl rfl (b := 57) rfl) ?_
          refine r_iV (As' := [.int 5, .int (nI s)]) (rest := []) (s_X7_appends hm (σ := σ) hR14 hI (((hF13.2 23 (by decide))).trans (((hF6.2 23 (by decide))).trans hC)) 5 (by decide) (nI s)) cw_X7_307 qi_X7_appends qv_X7_appends rfl hm.l0 hm.s0 (dk_at ktX7_triesNew_0 33 rfl) rfl rfl (Nat.le_of_ble_eq_true rfl) (by decide) (b := 60) rfl (fun v29 I26 J27 q28 => ?_)
          obtain ⟨rfl, rfl, hR30, hF31, hC32⟩ := q28
          refine r_if_ne (dk_at ktX7_triesNew_0 34 rfl) (b := 66) (by decide) (b2 := 63) rfl (fun c60 => ?_) (fun c60 => ?_)
          · have c60 := bi_t c60
            have hR33 : RelW (I26 (m + 1)) ((fApp 5 (nI s) σ).2) := by rw [c60] at hR30; exact hR30
            have hC34 : I26 m 23 = 0 := by rw [c60] at hC32; exact hC32
            refine rc_p (p_iload_n 0 (dk_at ktX7_triesNew_0 37 rfl) rfl rfl (b := 67) rfl) ?_
            refine r_if_eq (dk_at ktX7_triesNew_0 38 rfl) (b := 78) (by decide) (b2 := 70) rfl (fun c67 => ?_) (fun c67 => ?_)
            · skip
              refine rc_p (p_iconst (v := (-1)) (dk_at ktX7_triesNew_0 43 rfl) (by decide) (b := 79) rfl) ?_
              refine r_iret (dk_at ktX7_triesNew_0 44 rfl) rfl rfl ⟨_, rfl, ?_⟩
              have hmay : mayB σ = false := by unfold mayB; rw [decide_eq_false (Int32.not_lt.mpr c37), Bool.and_false]
              have he := fTry_b hs es hmay
              rw [if_pos c60] at he
              exact ⟨congrArg Prod.fst he, rfl, by rw [he]; exact hR33, (FF.tr (FF.tr (hF6.mo (by decide) (by decide)) (hF13.mo (by decide) (by decide))) (hF31.mo (by decide) (by decide)))⟩
            · first | exact absurd c67 (by decide) | exact absurd (by decide) c67
          · have c60 := bi_f c60
            have hR35 : RelW (I26 (m + 1)) (sCut ((fApp 5 (nI s) σ).2)) := by rw [c60] at hR30; exact hR30
            have hC36 : I26 m 23 = 1 := by rw [c60] at hC32; exact hC32
            refine rc_p (p_bipush (v := (-4)) (dk_at ktX7_triesNew_0 35 rfl) (by decide) (b := 65) rfl) ?_
            refine r_iret (dk_at ktX7_triesNew_0 36 rfl) rfl rfl ⟨_, rfl, ?_⟩
            have hmay : mayB σ = false := by unfold mayB; rw [decide_eq_false (Int32.not_lt.mpr c37), Bool.and_false]
            have he := fTry_b hs es hmay
            rw [if_neg (by rw [c60]; decide)] at he
            exact ⟨congrArg Prod.fst he, rfl, by rw [he]; exact hR35, (FF.tr (FF.tr (hF6.mo (by decide) (by decide)) (hF13.mo (by decide) (by decide))) (hF31.mo (by decide) (by decide)))⟩
        · first | exact absurd c48 (by decide) | exact absurd (by decide) c48
      · skip
        refine rc_p (p_iconst (v := 1) (dk_at ktX7_triesNew_0 22 rfl) (by decide) (b := 41) rfl) ?_
        refine rc_p (p_goto (b := 45) (dk_at ktX7_triesNew_0 23 rfl) (by decide)) ?_
        refine rc_p (p_istore_n (ls' := [(2, .int 1), (1, .int (nI s)), (0, .ref m)]) (dk_at ktX7_triesNew_0 25 rfl) rfl (by decide) rfl (b := 46) rfl) ?_
        refine rc_p (p_aload_n 2 (dk_at ktX7_triesNew_0 26 rfl) rfl rfl (b := 47) rfl) ?_
        refine rc_p (p_iload_n 0 (dk_at ktX7_triesNew_0 27 rfl) rfl rfl (b := 48) rfl) ?_
        refine r_if_eq (dk_at ktX7_triesNew_0 28 rfl) (b := 55) (by decide) (b2 := 51) rfl (fun c48 => ?_) (fun c48 => ?_)
        · first | exact absurd c48 (by decide) | exact absurd (by decide) c48
        · skip
          refine rc_p (p_iconst (v := 4) (dk_at ktX7_triesNew_0 29 rfl) (by decide) (b := 52) rfl) ?_
          refine rc_p (p_goto (b := 56) (dk_at ktX7_triesNew_0 30 rfl) (by decide)) ?_
          refine rc_p (p_iload_n 1 (dk_at ktX7_triesNew_0 32 rfl) rfl rfl (b := 57) rfl) ?_
          refine r_iV (As' := [.int 4, .int (nI s)]) (rest := []) (s_X7_appends hm (σ := σ) hR14 hI (((hF13.2 23 (by decide))).trans (((hF6.2 23 (by decide))).trans hC)) 4 (by decide) (nI s)) cw_X7_307 qi_X7_appends qv_X7_appends rfl hm.l0 hm.s0 (dk_at ktX7_triesNew_0 33 rfl) rfl rfl (Nat.le_of_ble_eq_true rfl) (by decide) (b := 60) rfl (fun v40 I37 J38 q39 => ?_)
          obtain ⟨rfl, rfl, hR41, hF42, hC43⟩ := q39
          refine r_if_ne (dk_at ktX7_triesNew_0 34 rfl) (b := 66) (by decide) (b2 := 63) rfl (fun c60 => ?_) (fun c60 => ?_)
          · have c60 := bi_t c60
            have hR44 : RelW (I37 (m + 1)) ((fApp 4 (nI s) σ).2) := by rw [c60] at hR41; exact hR41
            have hC45 : I37 m 23 = 0 := by rw [c60] at hC43; exact hC43
            refine rc_p (p_iload_n 0 (dk_at ktX7_triesNew_0 37 rfl) rfl rfl (b := 67) rfl) ?_
            refine r_if_eq (dk_at ktX7_triesNew_0 38 rfl) (b := 78) (by decide) (b2 := 70) rfl (fun c67 => ?_) (fun c67 => ?_)
            · first | exact absurd c67 (by decide) | exact absurd (by decide) c67
            · skip
              refine rc_p (p_aload_n 2 (dk_at ktX7_triesNew_0 39 rfl) rfl rfl (b := 71) rfl) ?_
              refine rc_p (p_iload_n 1 (dk_at ktX7_triesNew_0 40 rfl) rfl rfl (b := 72) rfl) ?_
              refine r_iV (As' := [.int (nI s)]) (rest := []) (s_X7_runs hm (σ := ((fApp 4 (nI s) σ).2)) hR44 (Inv.app hI) s (by omega)) cw_X7_310 qi_X7_runs qv_X7_runs rfl hm.l0 hm.s0 (dk_at ktX7_triesNew_0 41 rfl) rfl rfl (Nat.le_of_ble_eq_true rfl) (by decide) (b := 75) rfl (fun v49 I46 J47 q48 => ?_)
              obtain ⟨rfl, rfl, hR50, hF51⟩ := q48
              refine rc_p (p_goto (b := 79) (dk_at ktX7_triesNew_0 42 rfl) (by decide)) ?_
              refine r_iret (dk_at ktX7_triesNew_0 44 rfl) rfl rfl ⟨_, rfl, ?_⟩
              have hmay : mayB σ = true := by unfold mayB; rw [es, tn_nI (by omega), c24, decide_eq_true (Int32.not_le.mp c37)]; rfl
              have he := fTry_m hs es hmay
              rw [if_pos c60] at he
              exact ⟨congrArg Prod.fst he, rfl, by rw [he]; exact hR50, (FF.tr (FF.tr (FF.tr (hF6.mo (by decide) (by decide)) (hF13.mo (by decide) (by decide))) (hF42.mo (by decide) (by decide))) (hF51.mo (by decide) (by decide)))⟩
          · have c60 := bi_f c60
            have hR52 : RelW (I37 (m + 1)) (sCut ((fApp 4 (nI s) σ).2)) := by rw [c60] at hR41; exact hR41
            have hC53 : I37 m 23 = 1 := by rw [c60] at hC43; exact hC43
            refine rc_p (p_bipush (v := (-4)) (dk_at ktX7_triesNew_0 35 rfl) (by decide) (b := 65) rfl) ?_
            refine r_iret (dk_at ktX7_triesNew_0 36 rfl) rfl rfl ⟨_, rfl, ?_⟩
            have hmay : mayB σ = true := by unfold mayB; rw [es, tn_nI (by omega), c24, decide_eq_true (Int32.not_le.mp c37)]; rfl
            have he := fTry_m hs es hmay
            rw [if_neg (by rw [c60]; decide)] at he
            exact ⟨congrArg Prod.fst he, rfl, by rw [he]; exact hR52, (FF.tr (FF.tr (hF6.mo (by decide) (by decide)) (hF13.mo (by decide) (by decide))) (hF42.mo (by decide) (by decide)))⟩
  · skip
    refine rc_p (p_iconst (v := (-1)) (dk_at ktX7_triesNew_0 6 rfl) (by decide) (b := 13) rfl) ?_
    refine r_iret (dk_at ktX7_triesNew_0 7 rfl) rfl rfl ⟨_, rfl, ?_⟩
    have he := fTry_n c9
    exact ⟨congrArg Prod.fst he, rfl, by rw [he]; exact hR7, (hF6.mo (by decide) (by decide))⟩
set_option maxRecDepth 4000 in
set_option maxHeartbeats 4000000 in
theorem s_X7_boots {n : Nat} {sh : mS} {G : mG} {I : mI} {J : mJ} {m : Nat} {σ : sT} (hm : ModG n sh G m) (hR : RelW (I (m + 1)) σ) (hI : Inv σ)  : Sp yX7_boots cX7_boots 3 (some FieldType.int) 9 432 0 0 [.ref m] n sh G I J (Qi (fun r_ I_ J_ => (fBoot σ).1 = r_ ∧ J = J_ ∧ RelW (I_ (m + 1)) (fBoot σ).2 ∧ FF m [1] [18, 19, 20, 21, 22, 23, 24] I I_)) nX := by
  refine Sp.of (by decide) (ls := [(0, .ref m)]) (fun _ => rfl) (fun _ => Nat.le_of_ble_eq_true rfl) ?_
  have cut51 : ∀ (Iz : mI) (σz : sT), RelW (Iz (m + 1)) σz → Inv σz → σz 8 = -1 → FF m [1] [18, 19, 20, 21, 22, 23, 24] I Iz → fBoot σ = fRest σz → Rc RX7 cX7_boots 3 (some FieldType.int) 9 432 0 0 n sh G (Qi (fun r_ I_ J_ => (fBoot σ).1 = r_ ∧ J = J_ ∧ RelW (I_ (m + 1)) (fBoot σ).2 ∧ FF m [1] [18, 19, 20, 21, 22, 23, 24] I I_)) nX 0 0 51 [(0, .ref m)] [] Iz J := by
    intro Iz σz hRz hIz hz8 hFz hE
    refine rc_p (p_aload_n 0 (dk_at ktX7_boots_0 30 rfl) rfl rfl (b := 52) rfl) ?_
    refine r_vV (As' := []) (rest := []) (s_X7_tells hm (σ := σz) hRz hIz) cw_X7_255 qi_X7_tells qv_X7_tells rfl hm.l0 hm.s0 (dk_at ktX7_boots_0 31 rfl) rfl rfl (Nat.le_of_ble_eq_true rfl) (by decide) (b := 55) rfl (fun I1 J2 q3 => ?_)
    obtain ⟨rfl, hR7, hT5, hF6⟩ := q3
    refine rc_p (p_aload_n 0 (dk_at ktX7_boots_0 32 rfl) rfl rfl (b := 56) rfl) ?_
    refine r_geti fl_X7_240 rfl hm.l0 hm.s0 (dk_at ktX7_boots_0 33 rfl) (v := ((told σz) 1)) (hT5 1 (by decide)) (b := 59) rfl ?_
    refine rc_p (p_iconst (v := (-1)) (dk_at ktX7_boots_0 34 rfl) (by decide) (b := 60) rfl) ?_
    refine r_icmp_eq (dk_at ktX7_boots_0 35 rfl) (b := 83) (by decide) (b2 := 63) rfl (fun c60 => ?_) (fun c60 => ?_)
    · skip
      refine rc_p (p_iconst (v := 0) (dk_at ktX7_boots_0 46 rfl) (by decide) (b := 84) rfl) ?_
      refine rc_p (p_istore_n (ls' := [(2, .int 0), (0, .ref m)]) (dk_at ktX7_boots_0 47 rfl) rfl (by decide) rfl (b := 85) rfl) ?_
      refine rc_p (p_iload_n 0 (dk_at ktX7_boots_0 48 rfl) rfl rfl (b := 86) rfl) ?_
      refine rc_p (p_iconst (v := 1) (dk_at ktX7_boots_0 49 rfl) (by decide) (b := 87) rfl) ?_
      refine r_icmp_gt (dk_at ktX7_boots_0 50 rfl) (b := 110) (by decide) (b2 := 90) rfl (fun c87 => ?_) (fun c87 => ?_)
      · first | exact absurd c87 (by decide) | exact absurd (by decide) c87
      · skip
        refine rc_p (p_aload_n 1 (dk_at ktX7_boots_0 51 rfl) rfl rfl (b := 91) rfl) ?_
        refine rc_p (p_iload_n 0 (dk_at ktX7_boots_0 52 rfl) rfl rfl (b := 92) rfl) ?_
        refine r_iV (As' := [.int 0]) (rest := []) (s_X7_canBoot hm (σ := σz) hR7 hIz 0 (by omega)) cw_X7_304 qi_X7_canBoot qv_X7_canBoot rfl hm.l0 hm.s0 (dk_at ktX7_boots_0 53 rfl) rfl rfl (Nat.le_of_ble_eq_true rfl) (by decide) (b := 95) rfl (fun v11 I8 J9 q10 => ?_)
        obtain ⟨rfl, rfl, hR14, hT12, hF13⟩ := q10
        refine r_if_eq (dk_at ktX7_boots_0 54 rfl) (b := 104) (by decide) (b2 := 98) rfl (fun c95 => ?_) (fun c95 => ?_)
        · have c95 := bi_f c95
          refine rc_p (p_iinc (j := 0) (v := 1) (ls' := [(2, .int 1), (0, .ref m)]) (dk_at ktX7_boots_0 59 rfl) rfl (by decide) (by decide) rfl (b := 107) rfl) ?_
          refine rc_p (p_goto (b := 85) (dk_at ktX7_boots_1 0 rfl) (by decide)) ?_
          refine rc_p (p_iload_n 0 (dk_at ktX7_boots_0 48 rfl) rfl rfl (b := 86) rfl) ?_
          refine rc_p (p_iconst (v := 1) (dk_at ktX7_boots_0 49 rfl) (by decide) (b := 87) rfl) ?_
          refine r_icmp_gt (dk_at ktX7_boots_0 50 rfl) (b := 110) (by decide) (b2 := 90) rfl (fun c87_1 => ?_) (fun c87_1 => ?_)
          · first | exact absurd c87_1 (by decide) | exact absurd (by decide) c87_1
          · skip
            refine rc_p (p_aload_n 1 (dk_at ktX7_boots_0 51 rfl) rfl rfl (b := 91) rfl) ?_
            refine rc_p (p_iload_n 0 (dk_at ktX7_boots_0 52 rfl) rfl rfl (b := 92) rfl) ?_
            refine r_iV (As' := [.int 1]) (rest := []) (s_X7_canBoot hm (σ := σz) hR14 hIz 1 (by omega)) cw_X7_304 qi_X7_canBoot qv_X7_canBoot rfl hm.l0 hm.s0 (dk_at ktX7_boots_0 53 rfl) rfl rfl (Nat.le_of_ble_eq_true rfl) (by decide) (b := 95) rfl (fun v18 I15 J16 q17 => ?_)
            obtain ⟨rfl, rfl, hR21, hT19, hF20⟩ := q17
            refine r_if_eq (dk_at ktX7_boots_0 54 rfl) (b := 104) (by decide) (b2 := 98) rfl (fun c95_1 => ?_) (fun c95_1 => ?_)
            · have c95_1 := bi_f c95_1
              refine rc_p (p_iinc (j := 0) (v := 2) (ls' := [(2, .int 2), (0, .ref m)]) (dk_at ktX7_boots_0 59 rfl) rfl (by decide) (by decide) rfl (b := 107) rfl) ?_
              refine rc_p (p_goto (b := 85) (dk_at ktX7_boots_1 0 rfl) (by decide)) ?_
              refine rc_p (p_iload_n 0 (dk_at ktX7_boots_0 48 rfl) rfl rfl (b := 86) rfl) ?_
              refine rc_p (p_iconst (v := 1) (dk_at ktX7_boots_0 49 rfl) (by decide) (b := 87) rfl) ?_
              refine r_icmp_gt (dk_at ktX7_boots_0 50 rfl) (b := 110) (by decide) (b2 := 90) rfl (fun c87_2 => ?_) (fun c87_2 => ?_)
              · skip
                refine rc_p (p_aload_n 1 (dk_at ktX7_boots_1 1 rfl) rfl rfl (b := 111) rfl) ?_
                refine r_iV (As' := []) (rest := []) (s_X7_waits hm (σ := σz) hR21 hIz) cw_X7_316 qi_X7_waits qv_X7_waits rfl hm.l0 hm.s0 (dk_at ktX7_boots_1 2 rfl) rfl rfl (Nat.le_of_ble_eq_true rfl) (by decide) (b := 114) rfl (fun v25 I22 J23 q24 => ?_)
                obtain ⟨rfl, rfl, hR26, hF27⟩ := q24
                refine r_iret (dk_at ktX7_boots_1 3 rfl) rfl rfl ⟨_, rfl, ?_⟩
                have hn : fBoot σ = if canB σz 0 = true then (0, sRun σz 0) else if canB σz 1 = true then (1, sRun σz 1) else (-1, sWait σz) := by rw [hE]; unfold fRest; rw [if_neg (fun q => q.1 c60)]
                have he : fBoot σ = (-1, sWait σz) := by rw [hn, if_neg (by rw [c95]; decide), if_neg (by rw [c95_1]; decide)]
                exact ⟨congrArg Prod.fst he, rfl, by rw [he]; exact hR26, (FF.tr (FF.tr (FF.tr (FF.tr (hFz.mo (by decide) (by decide)) (hF6.mo (by decide) (by decide))) (hF13.mo (by decide) (by decide))) (hF20.mo (by decide) (by decide))) (hF27.mo (by decide) (by decide)))⟩
              · first | exact absurd c87_2 (by decide) | exact absurd (by decide) c87_2
            · have c95_1 := bi_t c95_1
              refine rc_p (p_aload_n 1 (dk_at ktX7_boots_0 55 rfl) rfl rfl (b := 99) rfl) ?_
              refine rc_p (p_iload_n 0 (dk_at ktX7_boots_0 56 rfl) rfl rfl (b := 100) rfl) ?_
              refine r_iV (As' := [.int 1]) (rest := []) (s_X7_runs hm (σ := σz) hR21 hIz 1 (by omega)) cw_X7_310 qi_X7_runs qv_X7_runs rfl hm.l0 hm.s0 (dk_at ktX7_boots_0 57 rfl) rfl rfl (Nat.le_of_ble_eq_true rfl) (by decide) (b := 103) rfl (fun v31 I28 J29 q30 => ?_)
              obtain ⟨rfl, rfl, hR32, hF33⟩ := q30
              refine r_iret (dk_at ktX7_boots_0 58 rfl) rfl rfl ⟨_, rfl, ?_⟩
              have hn : fBoot σ = if canB σz 0 = true then (0, sRun σz 0) else if canB σz 1 = true then (1, sRun σz 1) else (-1, sWait σz) := by rw [hE]; unfold fRest; rw [if_neg (fun q => q.1 c60)]
              have he : fBoot σ = (1, sRun σz 1) := by rw [hn, if_neg (by rw [c95]; decide), if_pos c95_1]
              exact ⟨congrArg Prod.fst he, rfl, by rw [he]; exact hR32, (FF.tr (FF.tr (FF.tr (FF.tr (hFz.mo (by decide) (by decide)) (hF6.mo (by decide) (by decide))) (hF13.mo (by decide) (by decide))) (hF20.mo (by decide) (by decide))) (hF33.mo (by decide) (by decide)))⟩
        · have c95 := bi_t c95
          refine rc_p (p_aload_n 1 (dk_at ktX7_boots_0 55 rfl) rfl rfl (b := 99) rfl) ?_
          refine rc_p (p_iload_n 0 (dk_at ktX7_boots_0 56 rfl) rfl rfl (b := 100) rfl) ?_
          refine r_iV (As' := [.int 0]) (rest := []) (s_X7_runs hm (σ := σz) hR14 hIz 0 (by omega)) cw_X7_310 qi_X7_runs qv_X7_runs rfl hm.l0 hm.s0 (dk_at ktX7_boots_0 57 rfl) rfl rfl (Nat.le_of_ble_eq_true rfl) (by decide) (b := 103) rfl (fun v37 I34 J35 q36 => ?_)
          obtain ⟨rfl, rfl, hR38, hF39⟩ := q36
          refine r_iret (dk_at ktX7_boots_0 58 rfl) rfl rfl ⟨_, rfl, ?_⟩
          have hn : fBoot σ = if canB σz 0 = true then (0, sRun σz 0) else if canB σz 1 = true then (1, sRun σz 1) else (-1, sWait σz) := by rw [hE]; unfold fRest; rw [if_neg (fun q => q.1 c60)]
          have he : fBoot σ = (0, sRun σz 0) := by rw [hn, if_pos c95]
          exact ⟨congrArg Prod.fst he, rfl, by rw [he]; exact hR38, (FF.tr (FF.tr (FF.tr (hFz.mo (by decide) (by decide)) (hF6.mo (by decide) (by decide))) (hF13.mo (by decide) (by decide))) (hF39.mo (by decide) (by decide)))⟩
    · skip
      obtain ⟨s, hs, es⟩ := told_s (told_ok hIz).2.1 c60
      refine rc_p (p_aload_n 0 (dk_at ktX7_boots_0 36 rfl) rfl rfl (b := 64) rfl) ?_
      refine rc_p (p_aload_n 0 (dk_at ktX7_boots_0 37 rfl) rfl rfl (b := 65) rfl) ?_
      refine r_geti fl_X7_240 rfl hm.l0 hm.s0 (dk_at ktX7_boots_0 38 rfl) (v := (nI s)) ((hT5 1 (by decide)).trans es) (b := 68) rfl ?_
      refine r_iV (As' := [.int (nI s)]) (rest := []) (s_X7_canBoot hm (σ := σz) hR7 hIz s (by omega)) cw_X7_304 qi_X7_canBoot qv_X7_canBoot rfl hm.l0 hm.s0 (dk_at ktX7_boots_0 39 rfl) rfl rfl (Nat.le_of_ble_eq_true rfl) (by decide) (b := 71) rfl (fun v43 I40 J41 q42 => ?_)
      obtain ⟨rfl, rfl, hR46, hT44, hF45⟩ := q42
      refine r_if_eq (dk_at ktX7_boots_0 40 rfl) (b := 83) (by decide) (b2 := 74) rfl (fun c71 => ?_) (fun c71 => ?_)
      · have c71 := bi_f c71
        refine rc_p (p_iconst (v := 0) (dk_at ktX7_boots_0 46 rfl) (by decide) (b := 84) rfl) ?_
        refine rc_p (p_istore_n (ls' := [(2, .int 0), (0, .ref m)]) (dk_at ktX7_boots_0 47 rfl) rfl (by decide) rfl (b := 85) rfl) ?_
        refine rc_p (p_iload_n 0 (dk_at ktX7_boots_0 48 rfl) rfl rfl (b := 86) rfl) ?_
        refine rc_p (p_iconst (v := 1) (dk_at ktX7_boots_0 49 rfl) (by decide) (b := 87) rfl) ?_
        refine r_icmp_gt (dk_at ktX7_boots_0 50 rfl) (b := 110) (by decide) (b2 := 90) rfl (fun c87 => ?_) (fun c87 => ?_)
        · first | exact absurd c87 (by decide) | exact absurd (by decide) c87
        · skip
          refine rc_p (p_aload_n 1 (dk_at ktX7_boots_0 51 rfl) rfl rfl (b := 91) rfl) ?_
          refine rc_p (p_iload_n 0 (dk_at ktX7_boots_0 52 rfl) rfl rfl (b := 92) rfl) ?_
          refine r_iV (As' := [.int 0]) (rest := []) (s_X7_canBoot hm (σ := σz) hR46 hIz 0 (by omega)) cw_X7_304 qi_X7_canBoot qv_X7_canBoot rfl hm.l0 hm.s0 (dk_at ktX7_boots_0 53 rfl) rfl rfl (Nat.le_of_ble_eq_true rfl) (by decide) (b := 95) rfl (fun v50 I47 J48 q49 => ?_)
          obtain ⟨rfl, rfl, hR53, hT51, hF52⟩ := q49
          refine r_if_eq (dk_at ktX7_boots_0 54 rfl) (b := 104) (by decide) (b2 := 98) rfl (fun c95 => ?_) (fun c95 => ?_)
          · have c95 := bi_f c95
            refine rc_p (p_iinc (j := 0) (v := 1) (ls' := [(2, .int 1), (0, .ref m)]) (dk_at ktX7_boots_0 59 rfl) rfl (by decide) (by decide) rfl (b := 107) rfl) ?_
            refine rc_p (p_goto (b := 85) (dk_at ktX7_boots_1 0 rfl) (by decide)) ?_
            refine rc_p (p_iload_n 0 (dk_at ktX7_boots_0 48 rfl) rfl rfl (b := 86) rfl) ?_
            refine rc_p (p_iconst (v := 1) (dk_at ktX7_boots_0 49 rfl) (by decide) (b := 87) rfl) ?_
            refine r_icmp_gt (dk_at ktX7_boots_0 50 rfl) (b := 110) (by decide) (b2 := 90) rfl (fun c87_1 => ?_) (fun c87_1 => ?_)
            · first | exact absurd c87_1 (by decide) | exact absurd (by decide) c87_1
            · skip
              refine rc_p (p_aload_n 1 (dk_at ktX7_boots_0 51 rfl) rfl rfl (b := 91) rfl) ?_
              refine rc_p (p_iload_n 0 (dk_at ktX7_boots_0 52 rfl) rfl rfl (b := 92) rfl) ?_
              refine r_iV (As' := [.int 1]) (rest := []) (s_X7_canBoot hm (σ := σz) hR53 hIz 1 (by omega)) cw_X7_304 qi_X7_canBoot qv_X7_canBoot rfl hm.l0 hm.s0 (dk_at ktX7_boots_0 53 rfl) rfl rfl (Nat.le_of_ble_eq_true rfl) (by decide) (b := 95) rfl (fun v57 I54 J55 q56 => ?_)
              obtain ⟨rfl, rfl, hR60, hT58, hF59⟩ := q56
              refine r_if_eq (dk_at ktX7_boots_0 54 rfl) (b := 104) (by decide) (b2 := 98) rfl (fun c95_1 => ?_) (fun c95_1 => ?_)
              · have c95_1 := bi_f c95_1
                refine rc_p (p_iinc (j := 0) (v := 2) (ls' := [(2, .int 2), (0, .ref m)]) (dk_at ktX7_boots_0 59 rfl) rfl (by decide) (by decide) rfl (b := 107) rfl) ?_
                refine rc_p (p_goto (b := 85) (dk_at ktX7_boots_1 0 rfl) (by decide)) ?_
                refine rc_p (p_iload_n 0 (dk_at ktX7_boots_0 48 rfl) rfl rfl (b := 86) rfl) ?_
                refine rc_p (p_iconst (v := 1) (dk_at ktX7_boots_0 49 rfl) (by decide) (b := 87) rfl) ?_
                refine r_icmp_gt (dk_at ktX7_boots_0 50 rfl) (b := 110) (by decide) (b2 := 90) rfl (fun c87_2 => ?_) (fun c87_2 => ?_)
                · skip
                  refine rc_p (p_aload_n 1 (dk_at ktX7_boots_1 1 rfl) rfl rfl (b := 111) rfl) ?_
                  refine r_iV (As' := []) (rest := []) (s_X7_waits hm (σ := σz) hR60 hIz) cw_X7_316 qi_X7_waits qv_X7_waits rfl hm.l0 hm.s0 (dk_at ktX7_boots_1 2 rfl) rfl rfl (Nat.le_of_ble_eq_true rfl) (by decide) (b := 114) rfl (fun v64 I61 J62 q63 => ?_)
                  obtain ⟨rfl, rfl, hR65, hF66⟩ := q63
                  refine r_iret (dk_at ktX7_boots_1 3 rfl) rfl rfl ⟨_, rfl, ?_⟩
                  have hn : fBoot σ = if canB σz 0 = true then (0, sRun σz 0) else if canB σz 1 = true then (1, sRun σz 1) else (-1, sWait σz) := by rw [hE]; unfold fRest; rw [if_neg (fun q => by rw [es, tn_nI (by omega), c71] at q; exact absurd q.2 (by decide))]
                  have he : fBoot σ = (-1, sWait σz) := by rw [hn, if_neg (by rw [c95]; decide), if_neg (by rw [c95_1]; decide)]
                  exact ⟨congrArg Prod.fst he, rfl, by rw [he]; exact hR65, (FF.tr (FF.tr (FF.tr (FF.tr (FF.tr (hFz.mo (by decide) (by decide)) (hF6.mo (by decide) (by decide))) (hF45.mo (by decide) (by decide))) (hF52.mo (by decide) (by decide))) (hF59.mo (by decide) (by decide))) (hF66.mo (by decide) (by decide)))⟩
                · first | exact absurd c87_2 (by decide) | exact absurd (by decide) c87_2
              · have c95_1 := bi_t c95_1
                refine rc_p (p_aload_n 1 (dk_at ktX7_boots_0 55 rfl) rfl rfl (b := 99) rfl) ?_
                refine rc_p (p_iload_n 0 (dk_at ktX7_boots_0 56 rfl) rfl rfl (b := 100) rfl) ?_
                refine r_iV (As' := [.int 1]) (rest := []) (s_X7_runs hm (σ := σz) hR60 hIz 1 (by omega)) cw_X7_310 qi_X7_runs qv_X7_runs rfl hm.l0 hm.s0 (dk_at ktX7_boots_0 57 rfl) rfl rfl (Nat.le_of_ble_eq_true rfl) (by decide) (b := 103) rfl (fun v70 I67 J68 q69 => ?_)
                obtain ⟨rfl, rfl, hR71, hF72⟩ := q69
                refine r_iret (dk_at ktX7_boots_0 58 rfl) rfl rfl ⟨_, rfl, ?_⟩
                have hn : fBoot σ = if canB σz 0 = true then (0, sRun σz 0) else if canB σz 1 = true then (1, sRun σz 1) else (-1, sWait σz) := by rw [hE]; unfold fRest; rw [if_neg (fun q => by rw [es, tn_nI (by omega), c71] at q; exact absurd q.2 (by decide))]
                have he : fBoot σ = (1, sRun σz 1) := by rw [hn, if_neg (by rw [c95]; decide), if_pos c95_1]
                exact ⟨congrArg Prod.fst he, rfl, by rw [he]; exact hR71, (FF.tr (FF.tr (FF.tr (FF.tr (FF.tr (hFz.mo (by decide) (by decide)) (hF6.mo (by decide) (by decide))) (hF45.mo (by decide) (by decide))) (hF52.mo (by decide) (by decide))) (hF59.mo (by decide) (by decide))) (hF72.mo (by decide) (by decide)))⟩
          · have c95 := bi_t c95
            refine rc_p (p_aload_n 1 (dk_at ktX7_boots_0 55 rfl) rfl rfl (b := 99) rfl) ?_
            refine rc_p (p_iload_n 0 (dk_at ktX7_boots_0 56 rfl) rfl rfl (b := 100) rfl) ?_
            refine r_iV (As' := [.int 0]) (rest := []) (s_X7_runs hm (σ := σz) hR53 hIz 0 (by omega)) cw_X7_310 qi_X7_runs qv_X7_runs rfl hm.l0 hm.s0 (dk_at ktX7_boots_0 57 rfl) rfl rfl (Nat.le_of_ble_eq_true rfl) (by decide) (b := 103) rfl (fun v76 I73 J74 q75 => ?_)
            obtain ⟨rfl, rfl, hR77, hF78⟩ := q75
            refine r_iret (dk_at ktX7_boots_0 58 rfl) rfl rfl ⟨_, rfl, ?_⟩
            have hn : fBoot σ = if canB σz 0 = true then (0, sRun σz 0) else if canB σz 1 = true then (1, sRun σz 1) else (-1, sWait σz) := by rw [hE]; unfold fRest; rw [if_neg (fun q => by rw [es, tn_nI (by omega), c71] at q; exact absurd q.2 (by decide))]
            have he : fBoot σ = (0, sRun σz 0) := by rw [hn, if_pos c95]
            exact ⟨congrArg Prod.fst he, rfl, by rw [he]; exact hR77, (FF.tr (FF.tr (FF.tr (FF.tr (hFz.mo (by decide) (by decide)) (hF6.mo (by decide) (by decide))) (hF45.mo (by decide) (by decide))) (hF52.mo (by decide) (by decide))) (hF78.mo (by decide) (by decide)))⟩
      · have c71 := bi_t c71
        refine rc_p (p_aload_n 0 (dk_at ktX7_boots_0 41 rfl) rfl rfl (b := 75) rfl) ?_
        refine rc_p (p_aload_n 0 (dk_at ktX7_boots_0 42 rfl) rfl rfl (b := 76) rfl) ?_
        refine r_geti fl_X7_240 rfl hm.l0 hm.s0 (dk_at ktX7_boots_0 43 rfl) (v := (nI s)) ((hT44 1 (by decide)).trans es) (b := 79) rfl ?_
        refine r_iV (As' := [.int (nI s)]) (rest := []) (s_X7_runs hm (σ := σz) hR46 hIz s (by omega)) cw_X7_310 qi_X7_runs qv_X7_runs rfl hm.l0 hm.s0 (dk_at ktX7_boots_0 44 rfl) rfl rfl (Nat.le_of_ble_eq_true rfl) (by decide) (b := 82) rfl (fun v82 I79 J80 q81 => ?_)
        obtain ⟨rfl, rfl, hR83, hF84⟩ := q81
        refine r_iret (dk_at ktX7_boots_0 45 rfl) rfl rfl ⟨_, rfl, ?_⟩
        have he : fBoot σ = (nI s, sRun σz (nI s)) := by
          rw [hE]; unfold fRest; rw [if_pos ⟨by rw [es]; exact nI_nm1 (by omega), by rw [es, tn_nI (by omega)]; exact c71⟩, es]
        exact ⟨congrArg Prod.fst he, rfl, by rw [he]; exact hR83, (FF.tr (FF.tr (FF.tr (hFz.mo (by decide) (by decide)) (hF6.mo (by decide) (by decide))) (hF45.mo (by decide) (by decide))) (hF84.mo (by decide) (by decide)))⟩
  have cut39 : ∀ (Iz : mI) (σz : sT), RelW (Iz (m + 1)) σz → Inv σz → Iz m 23 = 0 → FF m [1] [18, 19, 20, 21, 22, 23, 24] I Iz → σz 8 = -1 → fBoot σ = fTR σz → Rc RX7 cX7_boots 3 (some FieldType.int) 9 432 0 0 n sh G (Qi (fun r_ I_ J_ => (fBoot σ).1 = r_ ∧ J = J_ ∧ RelW (I_ (m + 1)) (fBoot σ).2 ∧ FF m [1] [18, 19, 20, 21, 22, 23, 24] I I_)) nX 0 0 39 [(0, .ref m)] [] Iz J := by
    intro Iz σz hRz hIz hCz hFz hz8 hE
    refine rc_p (p_aload_n 0 (dk_at ktX7_boots_0 22 rfl) rfl rfl (b := 40) rfl) ?_
    refine r_iV (As' := []) (rest := []) (s_X7_triesNew hm (σ := σz) hRz hIz hCz) cw_X7_313 qi_X7_triesNew qv_X7_triesNew rfl hm.l0 hm.s0 (dk_at ktX7_boots_0 23 rfl) rfl rfl (Nat.le_of_ble_eq_true rfl) (by decide) (b := 43) rfl (fun v88 I85 J86 q87 => ?_)
    obtain ⟨eq91, rfl, hR89, hF90⟩ := q87
    refine rc_p (p_istore_n (ls' := [(1, .int v88), (0, .ref m)]) (dk_at ktX7_boots_0 24 rfl) rfl (by decide) rfl (b := 44) rfl) ?_
    refine rc_p (p_iload_n 0 (dk_at ktX7_boots_0 25 rfl) rfl rfl (b := 45) rfl) ?_
    refine rc_p (p_iconst (v := (-1)) (dk_at ktX7_boots_0 26 rfl) (by decide) (b := 46) rfl) ?_
    refine r_icmp_eq (dk_at ktX7_boots_0 27 rfl) (b := 51) (by decide) (b2 := 49) rfl (fun c46 => ?_) (fun c46 => ?_)
    · skip
      refine rc_sub [1] (ls' := [(0, .ref m)]) rfl ?_
      exact cut51 I85 _ hR89 (Inv.try hIz) ((try_8 hIz (eq91.trans c46)).trans hz8) (FF.tr hFz hF90) (by rw [hE]; unfold fTR; rw [if_pos (eq91.trans c46)])
    · skip
      refine rc_p (p_iload_n 0 (dk_at ktX7_boots_0 28 rfl) rfl rfl (b := 50) rfl) ?_
      refine r_iret (dk_at ktX7_boots_0 29 rfl) rfl rfl ⟨_, rfl, ?_⟩
      have he : fBoot σ = fTry σz := by
        rw [hE]; unfold fTR; rw [if_neg (by rw [eq91]; exact c46)]
      exact ⟨by rw [he]; exact eq91, rfl, by rw [he]; exact hR89, (FF.tr (hFz.mo (by decide) (by decide)) (hF90.mo (by decide) (by decide)))⟩
  refine rc_p (p_aload_n 0 (dk_at ktX7_boots_0 0 rfl) rfl rfl (b := 1) rfl) ?_
  refine rc_p (p_iconst (v := 0) (dk_at ktX7_boots_0 1 rfl) (by decide) (b := 2) rfl) ?_
  refine r_puti fl_X7_258 fw_X7_23 rfl hm.l0 hm.s0 rfl rfl (dk_at ktX7_boots_0 2 rfl) (b := 5) rfl ?_
  refine rc_p (p_aload_n 0 (dk_at ktX7_boots_0 3 rfl) rfl rfl (b := 6) rfl) ?_
  refine r_geta fl_X7_9 rfl hm.l0 hm.s0 (dk_at ktX7_boots_0 4 rfl) hm.g0_0 (b := 9) rfl ?_
  refine rc_p (p_bipush (v := 7) (dk_at ktX7_boots_0 5 rfl) (by decide) (b := 11) rfl) ?_
  refine rc_p (p_iconst (v := 0) (dk_at ktX7_boots_0 6 rfl) (by decide) (b := 12) rfl) ?_
  refine r_iast (j := 7) (hm.lt 1 (by decide)) hm.s1 (dk_at ktX7_boots_0 7 rfl) rfl ⟨by decide, by decide⟩ (b := 13) rfl ?_
  refine rc_p (p_aload_n 0 (dk_at ktX7_boots_0 8 rfl) rfl rfl (b := 14) rfl) ?_
  refine r_geta fl_X7_9 rfl hm.l0 hm.s0 (dk_at ktX7_boots_0 9 rfl) hm.g0_0 (b := 17) rfl ?_
  refine rc_p (p_bipush (v := 8) (dk_at ktX7_boots_0 10 rfl) (by decide) (b := 19) rfl) ?_
  refine rc_p (p_iconst (v := (-1)) (dk_at ktX7_boots_0 11 rfl) (by decide) (b := 20) rfl) ?_
  refine r_iast (j := 8) (hm.lt 1 (by decide)) hm.s1 (dk_at ktX7_boots_0 12 rfl) rfl ⟨by decide, by decide⟩ (b := 21) rfl ?_
  refine rc_p (p_aload_n 0 (dk_at ktX7_boots_0 13 rfl) rfl rfl (b := 22) rfl) ?_
  have hR92 : RelW ((up2 (up2 (up2 I m 23 0) (m + 1) 7 0) (m + 1) 8 (-1)) (m + 1)) (sOff σ) := (by rw [up2_row]; exact RelW.up (by rw [up2_row]; exact RelW.up (by rw [up2_off (by omega)]; exact hR) (by first | decide | omega) (by first | decide | omega)) (by first | decide | omega) (by first | decide | omega))
  refine r_iV (As' := []) (rest := []) (s_X7_active hm (σ := (sOff σ)) hR92 hI.off) cw_X7_245 qi_X7_active qv_X7_active rfl hm.l0 hm.s0 (dk_at ktX7_boots_0 14 rfl) rfl rfl (Nat.le_of_ble_eq_true rfl) (by decide) (b := 25) rfl (fun v96 I93 J94 q95 => ?_)
  obtain ⟨ea97, rfl, rfl⟩ := q95
  refine rc_p (p_iconst (v := (-1)) (dk_at ktX7_boots_0 15 rfl) (by decide) (b := 26) rfl) ?_
  refine r_icmp_ne (dk_at ktX7_boots_0 16 rfl) (b := 39) (by decide) (b2 := 29) rfl (fun c26 => ?_) (fun c26 => ?_)
  · skip
    exact cut39 (up2 (up2 (up2 I m 23 0) (m + 1) 7 0) (m + 1) 8 (-1)) _ hR92 hI.off ((up2_n (by omega)).trans ((up2_n (by omega)).trans up2_s)) (FF.ua (FF.ua (FF.uf FF.rf (by decide)) (by decide) (by decide)) (by decide) (by decide)) rfl (by unfold fBoot; rw [fPrep_f (by rw [ea97]; exact c26)]; rfl)
  · skip
    refine rc_p (p_aload_n 0 (dk_at ktX7_boots_0 17 rfl) rfl rfl (b := 30) rfl) ?_
    refine r_iV (As' := []) (rest := []) (s_X7_formats hm (σ := (sOff σ)) hR92 hI.off ((up2_n (by omega)).trans ((up2_n (by omega)).trans up2_s))) cw_X7_291 qi_X7_formats qv_X7_formats rfl hm.l0 hm.s0 (dk_at ktX7_boots_0 18 rfl) rfl rfl (Nat.le_of_ble_eq_true rfl) (by decide) (b := 33) rfl (fun v101 I98 J99 q100 => ?_)
    obtain ⟨rfl, rfl, hR102, hF103, hC104⟩ := q100
    refine r_if_ne (dk_at ktX7_boots_0 19 rfl) (b := 39) (by decide) (b2 := 36) rfl (fun c33 => ?_) (fun c33 => ?_)
    · have c33 := bi_t c33
      have hR105 : RelW (I98 (m + 1)) ((fFormat (sOff σ)).2) := by rw [c33] at hR102; exact hR102
      have hC106 : I98 m 23 = 0 := by rw [c33] at hC104; exact hC104
      exact cut39 I98 _ hR105 hI.off.fmt hC106 (FF.tr (FF.ua (FF.ua (FF.uf FF.rf (by decide)) (by decide) (by decide)) (by decide) (by decide)) (hF103.mo (by decide) (by decide))) (fFormat_ne Kp_8) (by unfold fBoot; rw [fPrep_t (ea97.trans c26), if_pos c33])
    · have c33 := bi_f c33
      have hR107 : RelW (I98 (m + 1)) (sCut ((fFormat (sOff σ)).2)) := by rw [c33] at hR102; exact hR102
      have hC108 : I98 m 23 = 1 := by rw [c33] at hC104; exact hC104
      refine rc_p (p_bipush (v := (-4)) (dk_at ktX7_boots_0 20 rfl) (by decide) (b := 38) rfl) ?_
      refine r_iret (dk_at ktX7_boots_0 21 rfl) rfl rfl ⟨_, rfl, ?_⟩
      have he : fBoot σ = (-4, sCut (fFormat (sOff σ)).2) := by
        unfold fBoot; rw [fPrep_t (ea97.trans c26), if_neg (by rw [c33]; decide)]
      exact ⟨congrArg Prod.fst he, rfl, by rw [he]; exact hR107, FF.tr (FF.ua (FF.ua (FF.uf FF.rf (by decide)) (by decide) (by decide)) (by decide) (by decide)) (hF103.mo (by decide) (by decide))⟩

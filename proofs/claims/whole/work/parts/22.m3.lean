/-! THE REFERENCE: images, the journal -/
set_option maxRecDepth 4000 in
set_option maxHeartbeats 4000000 in
theorem s_X7_erasesPage {n : Nat} {sh : mS} {G : mG} {I : mI} {J : mJ} {m : Nat} {σ : sT} (hm : ModG n sh G m) (hR : RelW (I (m + 1)) σ) (hI : Inv σ) (hC : I m 23 = 0) (s p : Nat) (hs : s < 2) (hp : p < nW σ / nP σ) : Sp yX7_erasesPage cX7_erasesPage 5 (some FieldType.boolean) 4 192 0 0 [.ref m, .int (nI s), .int (nI p)] n sh G I J (Qi (fun r_ I_ J_ => bi (sHas σ) = r_ ∧ J = J_ ∧ RelW (I_ (m + 1)) (sStop (sHas σ) (sErP σ s p)) ∧ FF m [1] [23] I I_ ∧ I_ m 23 = ic (sHas σ))) nX := by
  refine Sp.of (by decide) (ls := [(0, .ref m), (1, .int (nI s)), (2, .int (nI p))]) (fun _ => rfl) (fun _ => Nat.le_of_ble_eq_true rfl) ?_
  have hb := hI.bd
  have hpp := page_le hb.2.2.1 hp
  have hp16 : p < 16 := page_16 hb.2.1 hb.2.2.1 hp
  refine rc_p (p_sipush (v := 275) (dk_at ktX7_erasesPage_0 0 rfl) (by decide) (b := 3) rfl) ?_
  refine rc_p (p_bipush (v := 16) (dk_at ktX7_erasesPage_0 1 rfl) (by decide) (b := 5) rfl) ?_
  refine rc_p (p_iload_n 1 (dk_at ktX7_erasesPage_0 2 rfl) rfl rfl (b := 6) rfl) ?_
  refine rc_p (p_imul (v := (nI (16 * s))) (dk_at ktX7_erasesPage_0 3 rfl) (pk_mul 16 s) (b := 7) rfl) ?_
  refine rc_p (p_iadd (v := (nI (275 + (16 * s)))) (dk_at ktX7_erasesPage_0 4 rfl) (nI_add 275 (16 * s)) (b := 8) rfl) ?_
  refine rc_p (p_iload_n 2 (dk_at ktX7_erasesPage_0 5 rfl) rfl rfl (b := 9) rfl) ?_
  refine rc_p (p_iadd (v := (nI (275 + (16 * s) + p))) (dk_at ktX7_erasesPage_0 6 rfl) (nI_add (275 + (16 * s)) p) (b := 10) rfl) ?_
  refine rc_p (p_istore_n (ls' := [(3, .int (nI (275 + (16 * s) + p))), (0, .ref m), (1, .int (nI s)), (2, .int (nI p))]) (dk_at ktX7_erasesPage_0 7 rfl) rfl (by decide) rfl (b := 11) rfl) ?_
  refine rc_p (p_aload_n 1 (dk_at ktX7_erasesPage_0 8 rfl) rfl rfl (b := 12) rfl) ?_
  refine r_geta fl_X7_9 rfl hm.l0 hm.s0 (dk_at ktX7_erasesPage_0 9 rfl) hm.g0_0 (b := 15) rfl ?_
  refine rc_p (p_iconst (v := 5) (dk_at ktX7_erasesPage_0 10 rfl) (by decide) (b := 16) rfl) ?_
  refine r_iald (j := 5) (hm.lt 1 (by decide)) hm.s1 (dk_at ktX7_erasesPage_0 11 rfl) rfl ⟨by decide, by decide⟩ (v := (σ 5)) (hR.1 5 (by decide)) (b := 17) rfl ?_
  refine r_if_le (dk_at ktX7_erasesPage_0 12 rfl) (b := 39) (by decide) (b2 := 20) rfl (fun c17 => ?_) (fun c17 => ?_)
  · skip
    refine rc_p (p_iconst (v := 0) (dk_at ktX7_erasesPage_0 24 rfl) (by decide) (b := 40) rfl) ?_
    refine rc_p (p_istore (ls' := [(4, .int 0), (3, .int (nI (275 + (16 * s) + p))), (0, .ref m), (1, .int (nI s)), (2, .int (nI p))]) (dk_at ktX7_erasesPage_0 25 rfl) (by decide) rfl (b := 42) rfl) ?_
    refine rc_p (p_aload_n 2 (dk_at ktX7_erasesPage_0 26 rfl) rfl rfl (b := 43) rfl) ?_
    refine rc_p (p_iload_n 3 (dk_at ktX7_erasesPage_0 27 rfl) rfl rfl (b := 44) rfl) ?_
    refine r_iS (As := [.int (nI s)]) (rest := [.ref m]) (s_X7_slotAt s) cw_X7_197 qs_X7_slotAt (dk_at ktX7_erasesPage_0 28 rfl) rfl rfl (Nat.le_of_ble_eq_true rfl) (by decide) (b := 47) rfl (fun v4 I1 J2 q3 => ?_)
    obtain ⟨rfl, rfl, rfl⟩ := q3
    refine rc_p (p_aload_n 2 (dk_at ktX7_erasesPage_0 29 rfl) rfl rfl (b := 48) rfl) ?_
    refine r_geta fl_X7_9 rfl hm.l0 hm.s0 (dk_at ktX7_erasesPage_0 30 rfl) hm.g0_0 (b := 51) rfl ?_
    refine rc_p (p_iconst (v := 1) (dk_at ktX7_erasesPage_0 31 rfl) (by decide) (b := 52) rfl) ?_
    refine r_iald (j := 1) (hm.lt 1 (by decide)) hm.s1 (dk_at ktX7_erasesPage_0 32 rfl) rfl ⟨by decide, by decide⟩ (v := (nI (nP σ))) ((hR.1 1 (by decide)).trans hI.w1) (b := 53) rfl ?_
    refine rc_p (p_iload_n 4 (dk_at ktX7_erasesPage_0 33 rfl) rfl rfl (b := 54) rfl) ?_
    refine rc_p (p_imul (v := (nI ((nP σ) * p))) (dk_at ktX7_erasesPage_0 34 rfl) (pk_mul (nP σ) p) (b := 55) rfl) ?_
    refine rc_p (p_iadd (v := (nI (83 + 64 * s + ((nP σ) * p)))) (dk_at ktX7_erasesPage_0 35 rfl) (nI_add (83 + 64 * s) ((nP σ) * p)) (b := 56) rfl) ?_
    refine rc_p (p_aload_n 2 (dk_at ktX7_erasesPage_0 36 rfl) rfl rfl (b := 57) rfl) ?_
    refine r_geta fl_X7_9 rfl hm.l0 hm.s0 (dk_at ktX7_erasesPage_0 37 rfl) hm.g0_0 (b := 60) rfl ?_
    refine rc_p (p_iconst (v := 1) (dk_at ktX7_erasesPage_0 38 rfl) (by decide) (b := 61) rfl) ?_
    refine r_iald (j := 1) (hm.lt 1 (by decide)) hm.s1 (dk_at ktX7_erasesPage_0 39 rfl) rfl ⟨by decide, by decide⟩ (v := (nI (nP σ))) ((hR.1 1 (by decide)).trans hI.w1) (b := 62) rfl ?_
    refine rc_p (p_iload_n 1 (dk_at ktX7_erasesPage_0 40 rfl) rfl rfl (b := 63) rfl) ?_
    refine rc_p (p_iload 0 (dk_at ktX7_erasesPage_0 41 rfl) rfl (b := 65) rfl) ?_
    refine r_if_eq (dk_at ktX7_erasesPage_0 42 rfl) (b := 74) (by decide) (b2 := 68) rfl (fun c65 => ?_) (fun c65 => ?_)
    · skip
      refine rc_p (p_ldc (v := 65535) qk_TwinBootModel_49 (dk_at ktX7_erasesPage_0 45 rfl) (b := 76) rfl) ?_
      refine r_iV (As' := [.int (nI (83 + 64 * s + ((nP σ) * p))), .int (nI (nP σ)), .int (nI (275 + (16 * s) + p)), .int 65535]) (rest := []) (s_X7_erases hm (σ := σ) hR hI hC (83 + 64 * s + ((nP σ) * p)) (nP σ) (275 + (16 * s) + p) (by omega) (by omega) (by omega) (by omega) 65535 wd_0) cw_X7_273 qi_X7_erases qv_X7_erases rfl hm.l0 hm.s0 (dk_at ktX7_erasesPage_0 46 rfl) rfl rfl (Nat.le_of_ble_eq_true rfl) (by decide) (b := 79) rfl (fun v8 I5 J6 q7 => ?_)
      obtain ⟨rfl, rfl, hR9, hF10, hC11⟩ := q7
      refine r_iret (dk_at ktX7_erasesPage_0 47 rfl) rfl (bi_nar (sHas σ)) ⟨_, rfl, ?_⟩
      refine ⟨rfl, rfl, ?_, hF10, hC11⟩
      have hwv : (if wornB σ s p = true then (65534 : Int32) else 65535) = 65535 := by
        simp_all [wornB, ← Int32.not_le]
      unfold sErP
      rw [hwv]; exact hR9
    · first | exact absurd c65 (by decide) | exact absurd (by decide) c65
  · skip
    refine rc_p (p_aload_n 1 (dk_at ktX7_erasesPage_0 13 rfl) rfl rfl (b := 21) rfl) ?_
    refine r_geta fl_X7_9 rfl hm.l0 hm.s0 (dk_at ktX7_erasesPage_0 14 rfl) hm.g0_0 (b := 24) rfl ?_
    refine rc_p (p_iload_n 0 (dk_at ktX7_erasesPage_0 15 rfl) rfl rfl (b := 25) rfl) ?_
    refine r_iald (j := 275 + (16 * s) + p) (hm.lt 1 (by decide)) hm.s1 (dk_at ktX7_erasesPage_0 16 rfl) rfl ⟨by omega, by decide⟩ (v := (σ (275 + (16 * s) + p))) (hR.1 (275 + (16 * s) + p) (by omega)) (b := 26) rfl ?_
    refine rc_p (p_aload_n 1 (dk_at ktX7_erasesPage_0 17 rfl) rfl rfl (b := 27) rfl) ?_
    refine r_geta fl_X7_9 rfl hm.l0 hm.s0 (dk_at ktX7_erasesPage_0 18 rfl) hm.g0_0 (b := 30) rfl ?_
    refine rc_p (p_iconst (v := 5) (dk_at ktX7_erasesPage_0 19 rfl) (by decide) (b := 31) rfl) ?_
    refine r_iald (j := 5) (hm.lt 1 (by decide)) hm.s1 (dk_at ktX7_erasesPage_0 20 rfl) rfl ⟨by decide, by decide⟩ (v := (σ 5)) (hR.1 5 (by decide)) (b := 32) rfl ?_
    refine r_icmp_lt (dk_at ktX7_erasesPage_0 21 rfl) (b := 39) (by decide) (b2 := 35) rfl (fun c32 => ?_) (fun c32 => ?_)
    · skip
      refine rc_p (p_iconst (v := 0) (dk_at ktX7_erasesPage_0 24 rfl) (by decide) (b := 40) rfl) ?_
      refine rc_p (p_istore (ls' := [(4, .int 0), (3, .int (nI (275 + (16 * s) + p))), (0, .ref m), (1, .int (nI s)), (2, .int (nI p))]) (dk_at ktX7_erasesPage_0 25 rfl) (by decide) rfl (b := 42) rfl) ?_
      refine rc_p (p_aload_n 2 (dk_at ktX7_erasesPage_0 26 rfl) rfl rfl (b := 43) rfl) ?_
      refine rc_p (p_iload_n 3 (dk_at ktX7_erasesPage_0 27 rfl) rfl rfl (b := 44) rfl) ?_
      refine r_iS (As := [.int (nI s)]) (rest := [.ref m]) (s_X7_slotAt s) cw_X7_197 qs_X7_slotAt (dk_at ktX7_erasesPage_0 28 rfl) rfl rfl (Nat.le_of_ble_eq_true rfl) (by decide) (b := 47) rfl (fun v15 I12 J13 q14 => ?_)
      obtain ⟨rfl, rfl, rfl⟩ := q14
      refine rc_p (p_aload_n 2 (dk_at ktX7_erasesPage_0 29 rfl) rfl rfl (b := 48) rfl) ?_
      refine r_geta fl_X7_9 rfl hm.l0 hm.s0 (dk_at ktX7_erasesPage_0 30 rfl) hm.g0_0 (b := 51) rfl ?_
      refine rc_p (p_iconst (v := 1) (dk_at ktX7_erasesPage_0 31 rfl) (by decide) (b := 52) rfl) ?_
      refine r_iald (j := 1) (hm.lt 1 (by decide)) hm.s1 (dk_at ktX7_erasesPage_0 32 rfl) rfl ⟨by decide, by decide⟩ (v := (nI (nP σ))) ((hR.1 1 (by decide)).trans hI.w1) (b := 53) rfl ?_
      refine rc_p (p_iload_n 4 (dk_at ktX7_erasesPage_0 33 rfl) rfl rfl (b := 54) rfl) ?_
      refine rc_p (p_imul (v := (nI ((nP σ) * p))) (dk_at ktX7_erasesPage_0 34 rfl) (pk_mul (nP σ) p) (b := 55) rfl) ?_
      refine rc_p (p_iadd (v := (nI (83 + 64 * s + ((nP σ) * p)))) (dk_at ktX7_erasesPage_0 35 rfl) (nI_add (83 + 64 * s) ((nP σ) * p)) (b := 56) rfl) ?_
      refine rc_p (p_aload_n 2 (dk_at ktX7_erasesPage_0 36 rfl) rfl rfl (b := 57) rfl) ?_
      refine r_geta fl_X7_9 rfl hm.l0 hm.s0 (dk_at ktX7_erasesPage_0 37 rfl) hm.g0_0 (b := 60) rfl ?_
      refine rc_p (p_iconst (v := 1) (dk_at ktX7_erasesPage_0 38 rfl) (by decide) (b := 61) rfl) ?_
      refine r_iald (j := 1) (hm.lt 1 (by decide)) hm.s1 (dk_at ktX7_erasesPage_0 39 rfl) rfl ⟨by decide, by decide⟩ (v := (nI (nP σ))) ((hR.1 1 (by decide)).trans hI.w1) (b := 62) rfl ?_
      refine rc_p (p_iload_n 1 (dk_at ktX7_erasesPage_0 40 rfl) rfl rfl (b := 63) rfl) ?_
      refine rc_p (p_iload 0 (dk_at ktX7_erasesPage_0 41 rfl) rfl (b := 65) rfl) ?_
      refine r_if_eq (dk_at ktX7_erasesPage_0 42 rfl) (b := 74) (by decide) (b2 := 68) rfl (fun c65 => ?_) (fun c65 => ?_)
      · skip
        refine rc_p (p_ldc (v := 65535) qk_TwinBootModel_49 (dk_at ktX7_erasesPage_0 45 rfl) (b := 76) rfl) ?_
        refine r_iV (As' := [.int (nI (83 + 64 * s + ((nP σ) * p))), .int (nI (nP σ)), .int (nI (275 + (16 * s) + p)), .int 65535]) (rest := []) (s_X7_erases hm (σ := σ) hR hI hC (83 + 64 * s + ((nP σ) * p)) (nP σ) (275 + (16 * s) + p) (by omega) (by omega) (by omega) (by omega) 65535 wd_0) cw_X7_273 qi_X7_erases qv_X7_erases rfl hm.l0 hm.s0 (dk_at ktX7_erasesPage_0 46 rfl) rfl rfl (Nat.le_of_ble_eq_true rfl) (by decide) (b := 79) rfl (fun v19 I16 J17 q18 => ?_)
        obtain ⟨rfl, rfl, hR20, hF21, hC22⟩ := q18
        refine r_iret (dk_at ktX7_erasesPage_0 47 rfl) rfl (bi_nar (sHas σ)) ⟨_, rfl, ?_⟩
        refine ⟨rfl, rfl, ?_, hF21, hC22⟩
        have hwv : (if wornB σ s p = true then (65534 : Int32) else 65535) = 65535 := by
          simp_all [wornB, ← Int32.not_le]
        unfold sErP
        rw [hwv]; exact hR20
      · first | exact absurd c65 (by decide) | exact absurd (by decide) c65
    · skip
      refine rc_p (p_iconst (v := 1) (dk_at ktX7_erasesPage_0 22 rfl) (by decide) (b := 36) rfl) ?_
      refine rc_p (p_goto (b := 40) (dk_at ktX7_erasesPage_0 23 rfl) (by decide)) ?_
      refine rc_p (p_istore (ls' := [(4, .int 1), (3, .int (nI (275 + (16 * s) + p))), (0, .ref m), (1, .int (nI s)), (2, .int (nI p))]) (dk_at ktX7_erasesPage_0 25 rfl) (by decide) rfl (b := 42) rfl) ?_
      refine rc_p (p_aload_n 2 (dk_at ktX7_erasesPage_0 26 rfl) rfl rfl (b := 43) rfl) ?_
      refine rc_p (p_iload_n 3 (dk_at ktX7_erasesPage_0 27 rfl) rfl rfl (b := 44) rfl) ?_
      refine r_iS (As := [.int (nI s)]) (rest := [.ref m]) (s_X7_slotAt s) cw_X7_197 qs_X7_slotAt (dk_at ktX7_erasesPage_0 28 rfl) rfl rfl (Nat.le_of_ble_eq_true rfl) (by decide) (b := 47) rfl (fun v26 I23 J24 q25 => ?_)
      obtain ⟨rfl, rfl, rfl⟩ := q25
      refine rc_p (p_aload_n 2 (dk_at ktX7_erasesPage_0 29 rfl) rfl rfl (b := 48) rfl) ?_
      refine r_geta fl_X7_9 rfl hm.l0 hm.s0 (dk_at ktX7_erasesPage_0 30 rfl) hm.g0_0 (b := 51) rfl ?_
      refine rc_p (p_iconst (v := 1) (dk_at ktX7_erasesPage_0 31 rfl) (by decide) (b := 52) rfl) ?_
      refine r_iald (j := 1) (hm.lt 1 (by decide)) hm.s1 (dk_at ktX7_erasesPage_0 32 rfl) rfl ⟨by decide, by decide⟩ (v := (nI (nP σ))) ((hR.1 1 (by decide)).trans hI.w1) (b := 53) rfl ?_
      refine rc_p (p_iload_n 4 (dk_at ktX7_erasesPage_0 33 rfl) rfl rfl (b := 54) rfl) ?_
      refine rc_p (p_imul (v := (nI ((nP σ) * p))) (dk_at ktX7_erasesPage_0 34 rfl) (pk_mul (nP σ) p) (b := 55) rfl) ?_
      refine rc_p (p_iadd (v := (nI (83 + 64 * s + ((nP σ) * p)))) (dk_at ktX7_erasesPage_0 35 rfl) (nI_add (83 + 64 * s) ((nP σ) * p)) (b := 56) rfl) ?_
      refine rc_p (p_aload_n 2 (dk_at ktX7_erasesPage_0 36 rfl) rfl rfl (b := 57) rfl) ?_
      refine r_geta fl_X7_9 rfl hm.l0 hm.s0 (dk_at ktX7_erasesPage_0 37 rfl) hm.g0_0 (b := 60) rfl ?_
      refine rc_p (p_iconst (v := 1) (dk_at ktX7_erasesPage_0 38 rfl) (by decide) (b := 61) rfl) ?_
      refine r_iald (j := 1) (hm.lt 1 (by decide)) hm.s1 (dk_at ktX7_erasesPage_0 39 rfl) rfl ⟨by decide, by decide⟩ (v := (nI (nP σ))) ((hR.1 1 (by decide)).trans hI.w1) (b := 62) rfl ?_
      refine rc_p (p_iload_n 1 (dk_at ktX7_erasesPage_0 40 rfl) rfl rfl (b := 63) rfl) ?_
      refine rc_p (p_iload 0 (dk_at ktX7_erasesPage_0 41 rfl) rfl (b := 65) rfl) ?_
      refine r_if_eq (dk_at ktX7_erasesPage_0 42 rfl) (b := 74) (by decide) (b2 := 68) rfl (fun c65 => ?_) (fun c65 => ?_)
      · first | exact absurd c65 (by decide) | exact absurd (by decide) c65
      · skip
        refine rc_p (p_ldcw (v := 65534) qk_TwinBootModel_272 (dk_at ktX7_erasesPage_0 43 rfl) (b := 71) rfl) ?_
        refine rc_p (p_goto (b := 76) (dk_at ktX7_erasesPage_0 44 rfl) (by decide)) ?_
        refine r_iV (As' := [.int (nI (83 + 64 * s + ((nP σ) * p))), .int (nI (nP σ)), .int (nI (275 + (16 * s) + p)), .int 65534]) (rest := []) (s_X7_erases hm (σ := σ) hR hI hC (83 + 64 * s + ((nP σ) * p)) (nP σ) (275 + (16 * s) + p) (by omega) (by omega) (by omega) (by omega) 65534 ⟨65534, by decide, rfl⟩) cw_X7_273 qi_X7_erases qv_X7_erases rfl hm.l0 hm.s0 (dk_at ktX7_erasesPage_0 46 rfl) rfl rfl (Nat.le_of_ble_eq_true rfl) (by decide) (b := 79) rfl (fun v30 I27 J28 q29 => ?_)
        obtain ⟨rfl, rfl, hR31, hF32, hC33⟩ := q29
        refine r_iret (dk_at ktX7_erasesPage_0 47 rfl) rfl (bi_nar (sHas σ)) ⟨_, rfl, ?_⟩
        refine ⟨rfl, rfl, ?_, hF32, hC33⟩
        have hwv : (if wornB σ s p = true then (65534 : Int32) else 65535) = 65534 := by
          simp_all [wornB, ← Int32.not_le]
        unfold sErP
        rw [hwv]; exact hR31
set_option maxRecDepth 4000 in
set_option maxHeartbeats 4000000 in
theorem s_X7_erasesJournal {n : Nat} {sh : mS} {G : mG} {I : mI} {J : mJ} {m : Nat} {σ : sT} (hm : ModG n sh G m) (hR : RelW (I (m + 1)) σ) (hI : Inv σ) (hC : I m 23 = 0) (p : Nat) (hp : p < 2) : Sp yX7_erasesJournal cX7_erasesJournal 2 (some FieldType.boolean) 4 192 0 0 [.ref m, .int (nI p)] n sh G I J (Qi (fun r_ I_ J_ => bi (sHas σ) = r_ ∧ J = J_ ∧ RelW (I_ (m + 1)) (sStop (sHas σ) (sErJ σ p)) ∧ FF m [1] [23] I I_ ∧ I_ m 23 = ic (sHas σ))) nX := by
  refine Sp.of (by decide) (ls := [(0, .ref m), (1, .int (nI p))]) (fun _ => rfl) (fun _ => Nat.le_of_ble_eq_true rfl) ?_
  have hb := hI.bd
  refine rc_p (p_aload_n 0 (dk_at ktX7_erasesJournal_0 0 rfl) rfl rfl (b := 1) rfl) ?_
  refine rc_p (p_iload_n 1 (dk_at ktX7_erasesJournal_0 1 rfl) rfl rfl (b := 2) rfl) ?_
  refine r_iS (As := [.int (nI p)]) (rest := [.ref m]) (s_X7_pageAt p) cw_X7_216 qs_X7_pageAt (dk_at ktX7_erasesJournal_0 2 rfl) rfl rfl (Nat.le_of_ble_eq_true rfl) (by decide) (b := 5) rfl (fun v4 I1 J2 q3 => ?_)
  obtain ⟨rfl, rfl, rfl⟩ := q3
  refine rc_p (p_aload_n 0 (dk_at ktX7_erasesJournal_0 3 rfl) rfl rfl (b := 6) rfl) ?_
  refine r_geta fl_X7_9 rfl hm.l0 hm.s0 (dk_at ktX7_erasesJournal_0 4 rfl) hm.g0_0 (b := 9) rfl ?_
  refine rc_p (p_iconst (v := 2) (dk_at ktX7_erasesJournal_0 5 rfl) (by decide) (b := 10) rfl) ?_
  refine r_iald (j := 2) (hm.lt 1 (by decide)) hm.s1 (dk_at ktX7_erasesJournal_0 6 rfl) rfl ⟨by decide, by decide⟩ (v := (nI (nJ σ))) ((hR.1 2 (by decide)).trans hI.w2) (b := 11) rfl ?_
  refine rc_p (p_sipush (v := 307) (dk_at ktX7_erasesJournal_0 7 rfl) (by decide) (b := 14) rfl) ?_
  refine rc_p (p_iload_n 1 (dk_at ktX7_erasesJournal_0 8 rfl) rfl rfl (b := 15) rfl) ?_
  refine rc_p (p_iadd (v := (nI (307 + p))) (dk_at ktX7_erasesJournal_0 9 rfl) (nI_add 307 p) (b := 16) rfl) ?_
  refine rc_p (p_ldc (v := 65535) qk_TwinBootModel_49 (dk_at ktX7_erasesJournal_0 10 rfl) (b := 18) rfl) ?_
  refine r_iV (As' := [.int (nI (211 + 32 * p)), .int (nI (nJ σ)), .int (nI (307 + p)), .int 65535]) (rest := []) (s_X7_erases hm (σ := σ) hR hI hC (211 + 32 * p) (nJ σ) (307 + p) (by omega) (by omega) (by omega) (by omega) 65535 wd_0) cw_X7_273 qi_X7_erases qv_X7_erases rfl hm.l0 hm.s0 (dk_at ktX7_erasesJournal_0 11 rfl) rfl rfl (Nat.le_of_ble_eq_true rfl) (by decide) (b := 21) rfl (fun v8 I5 J6 q7 => ?_)
  obtain ⟨rfl, rfl, hR9, hF10, hC11⟩ := q7
  refine r_iret (dk_at ktX7_erasesJournal_0 12 rfl) rfl (bi_nar (sHas σ)) ⟨_, rfl, ?_⟩
  exact ⟨rfl, rfl, hR9, hF10, hC11⟩
set_option maxRecDepth 4000 in
set_option maxHeartbeats 4000000 in
theorem s_X7_sumOf {n : Nat} {sh : mS} {G : mG} {I : mI} {J : mJ} {ar len a c : Nat} (ha : ArG n sh ar len) (hl : len < 1000000) (hc : a + 3 + c ≤ len) (v : Int32) : Sp yX7_sumOf cX7_sumOf 6 (some FieldType.int) 1 48 0 0 [.ref ar, .int (nI a), .int v, .int (nI c)] n sh G I J (Qi (fun r_ I_ J_ => sumF (I ar) a v c = r_ ∧ I = I_ ∧ J = J_)) nX := by
  refine Sp.of (by decide) (ls := [(0, .ref ar), (1, .int (nI a)), (2, .int v), (3, .int (nI c))]) (fun _ => rfl) (fun _ => Nat.le_of_ble_eq_true rfl) ?_
  have cut10 : ∀ (t k : Nat) (x : Int32), c - k < t → k ≤ c → x = sumI (I ar) a (v + nI (3 * c)) k → Rc RX7 cX7_sumOf 6 (some FieldType.int) 1 48 0 0 n sh G (Qi (fun r_ I_ J_ => sumF (I ar) a v c = r_ ∧ I = I_ ∧ J = J_)) nX 0 0 10 [(5, .int (nI k)), (4, .int x), (0, .ref ar), (1, .int (nI a)), (2, .int v), (3, .int (nI c))] [] I J := by
    intro t
    induction t
    · intro k x h; omega
    rename_i t ih
    intro k x ht h1 hx
    refine rc_p (p_iload 0 (dk_at ktX7_sumOf_0 8 rfl) rfl (b := 12) rfl) ?_
    refine rc_p (p_iload_n 5 (dk_at ktX7_sumOf_0 9 rfl) rfl rfl (b := 13) rfl) ?_
    refine r_icmp_ge (dk_at ktX7_sumOf_0 10 rfl) (b := 43) (by decide) (b2 := 16) rfl (fun c13 => ?_) (fun c13 => ?_)
    · have c13 : c ≤ k := (nI_leI (a := c) (b := k) (by omega) (by omega)).mp c13
      refine rc_p (p_iload 1 (dk_at ktX7_sumOf_0 29 rfl) rfl (b := 45) rfl) ?_
      refine rc_p (p_ldc (v := 65536) qk_TwinBootModel_196 (dk_at ktX7_sumOf_0 30 rfl) (b := 47) rfl) ?_
      refine rc_p (p_irem (v := (x % 65536)) (dk_at ktX7_sumOf_0 31 rfl) (by decide) (irem_eq_mod _ _) (b := 48) rfl) ?_
      refine r_iret (dk_at ktX7_sumOf_0 32 rfl) rfl rfl ⟨_, rfl, ?_⟩
      refine ⟨?_, rfl, rfl⟩
      have hk : k = c := by omega
      subst hk
      rw [hx]; rfl
    · have c13 : ¬ c ≤ k := fun h => c13 ((nI_leI (a := c) (b := k) (by omega) (by omega)).mpr h)
      refine rc_p (p_iload 1 (dk_at ktX7_sumOf_0 11 rfl) rfl (b := 18) rfl) ?_
      refine rc_p (p_iload 0 (dk_at ktX7_sumOf_0 12 rfl) rfl (b := 20) rfl) ?_
      refine rc_p (p_iconst (v := 1) (dk_at ktX7_sumOf_0 13 rfl) (by decide) (b := 21) rfl) ?_
      refine rc_p (p_iadd (v := (nI (k + 1))) (dk_at ktX7_sumOf_0 14 rfl) (nI_add k 1) (b := 22) rfl) ?_
      refine rc_p (p_aload_n 2 (dk_at ktX7_sumOf_0 15 rfl) rfl rfl (b := 23) rfl) ?_
      refine rc_p (p_iload_n 3 (dk_at ktX7_sumOf_0 16 rfl) rfl rfl (b := 24) rfl) ?_
      refine rc_p (p_iconst (v := 3) (dk_at ktX7_sumOf_0 17 rfl) (by decide) (b := 25) rfl) ?_
      refine rc_p (p_iadd (v := (nI (a + 3))) (dk_at ktX7_sumOf_0 18 rfl) (nI_add a 3) (b := 26) rfl) ?_
      refine rc_p (p_iload 0 (dk_at ktX7_sumOf_0 19 rfl) rfl (b := 28) rfl) ?_
      refine rc_p (p_iadd (v := (nI (a + 3 + k))) (dk_at ktX7_sumOf_0 20 rfl) (nI_add (a + 3) k) (b := 29) rfl) ?_
      refine r_iald (j := a + 3 + k) ha.l0 ha.s0 (dk_at ktX7_sumOf_0 21 rfl) rfl ⟨by omega, by omega⟩ (v := (I ar (a + 3 + k))) rfl (b := 30) rfl ?_
      refine rc_p (p_imul (v := ((nI (k + 1)) * (I ar (a + 3 + k)))) (dk_at ktX7_sumOf_0 22 rfl) rfl (b := 31) rfl) ?_
      refine rc_p (p_iadd (v := (x + ((nI (k + 1)) * (I ar (a + 3 + k))))) (dk_at ktX7_sumOf_0 23 rfl) rfl (b := 32) rfl) ?_
      refine rc_p (p_ldc (v := 65536) qk_TwinBootModel_196 (dk_at ktX7_sumOf_0 24 rfl) (b := 34) rfl) ?_
      refine rc_p (p_irem (v := ((x + ((nI (k + 1)) * (I ar (a + 3 + k)))) % 65536)) (dk_at ktX7_sumOf_0 25 rfl) (by decide) (irem_eq_mod _ _) (b := 35) rfl) ?_
      refine rc_p (p_istore (ls' := [(4, .int ((x + ((nI (k + 1)) * (I ar (a + 3 + k)))) % 65536)), (5, .int (nI k)), (0, .ref ar), (1, .int (nI a)), (2, .int v), (3, .int (nI c))]) (dk_at ktX7_sumOf_0 26 rfl) (by decide) rfl (b := 37) rfl) ?_
      refine rc_p (p_iinc (j := 1) (v := (nI (k + 1))) (ls' := [(5, .int (nI (k + 1))), (4, .int ((x + ((nI (k + 1)) * (I ar (a + 3 + k)))) % 65536)), (0, .ref ar), (1, .int (nI a)), (2, .int v), (3, .int (nI c))]) (dk_at ktX7_sumOf_0 27 rfl) rfl (nI_add k 1) (by decide) rfl (b := 40) rfl) ?_
      refine rc_p (p_goto (b := 10) (dk_at ktX7_sumOf_0 28 rfl) (by decide)) ?_
      exact ih (k + 1) _ (by omega) (by omega) (by rw [hx]; rfl)
  refine rc_p (p_iload_n 2 (dk_at ktX7_sumOf_0 0 rfl) rfl rfl (b := 1) rfl) ?_
  refine rc_p (p_iconst (v := 3) (dk_at ktX7_sumOf_0 1 rfl) (by decide) (b := 2) rfl) ?_
  refine rc_p (p_iload_n 3 (dk_at ktX7_sumOf_0 2 rfl) rfl rfl (b := 3) rfl) ?_
  refine rc_p (p_imul (v := (nI (3 * c))) (dk_at ktX7_sumOf_0 3 rfl) (pk_mul 3 c) (b := 4) rfl) ?_
  refine rc_p (p_iadd (v := (v + (nI (3 * c)))) (dk_at ktX7_sumOf_0 4 rfl) rfl (b := 5) rfl) ?_
  refine rc_p (p_istore (ls' := [(4, .int (v + (nI (3 * c)))), (0, .ref ar), (1, .int (nI a)), (2, .int v), (3, .int (nI c))]) (dk_at ktX7_sumOf_0 5 rfl) (by decide) rfl (b := 7) rfl) ?_
  refine rc_p (p_iconst (v := 0) (dk_at ktX7_sumOf_0 6 rfl) (by decide) (b := 8) rfl) ?_
  refine rc_p (p_istore (ls' := [(5, .int 0), (4, .int (v + (nI (3 * c)))), (0, .ref ar), (1, .int (nI a)), (2, .int v), (3, .int (nI c))]) (dk_at ktX7_sumOf_0 7 rfl) (by decide) rfl (b := 10) rfl) ?_
  exact cut10 1000000000 0 _ (by omega) (Nat.zero_le _) rfl
set_option maxRecDepth 4000 in
set_option maxHeartbeats 4000000 in
theorem s_X7_isTold {n : Nat} {sh : mS} {G : mG} {I : mI} {J : mJ} {m : Nat} {σ : sT} (hm : ModG n sh G m) (hR : RelW (I (m + 1)) σ) (hI : Inv σ) (s : Nat) (hs : s < 2) : Sp yX7_isTold cX7_isTold 2 (some FieldType.boolean) 2 96 0 0 [.ref m, .int (nI s)] n sh G I J (Qi (fun r_ I_ J_ => bi (toldB σ s) = r_ ∧ I = I_ ∧ J = J_)) nX := by
  refine Sp.of (by decide) (ls := [(0, .ref m), (1, .int (nI s))]) (fun _ => rfl) (fun _ => Nat.le_of_ble_eq_true rfl) ?_
  have hb := hI.bd
  refine rc_p (p_aload_n 0 (dk_at ktX7_isTold_0 0 rfl) rfl rfl (b := 1) rfl) ?_
  refine r_geta fl_X7_9 rfl hm.l0 hm.s0 (dk_at ktX7_isTold_0 1 rfl) hm.g0_0 (b := 4) rfl ?_
  refine rc_p (p_iload_n 1 (dk_at ktX7_isTold_0 2 rfl) rfl rfl (b := 5) rfl) ?_
  refine r_iS (As := [.int (nI s)]) (rest := [.ref (m + 1)]) (s_X7_slotAt s) cw_X7_197 qs_X7_slotAt (dk_at ktX7_isTold_0 3 rfl) rfl rfl (Nat.le_of_ble_eq_true rfl) (by decide) (b := 8) rfl (fun v4 I1 J2 q3 => ?_)
  obtain ⟨rfl, rfl, rfl⟩ := q3
  refine r_iald (j := 83 + 64 * s) (hm.lt 1 (by decide)) hm.s1 (dk_at ktX7_isTold_0 4 rfl) rfl ⟨by omega, by decide⟩ (v := (σ (83 + 64 * s))) (hR.1 (83 + 64 * s) (by omega)) (b := 9) rfl ?_
  refine rc_p (p_i2l (v := (Int32.toInt64 (σ (83 + 64 * s)))) (dk_at ktX7_isTold_0 5 rfl) rfl (b := 10) rfl) ?_
  refine rc_p (p_lconst (v := 1) (dk_at ktX7_isTold_0 6 rfl) (by decide) (b := 11) rfl) ?_
  refine rc_p (p_ldc2 (v := 255) ql_TwinBootModel_57 (dk_at ktX7_isTold_0 7 rfl) (b := 14) rfl) ?_
  refine r_iS (As := [.long (Int32.toInt64 (σ (83 + 64 * s))), .long 1, .long 255]) (rest := []) (s_X7_in (Int32.toInt64 (σ (83 + 64 * s))) 1 255) cw_X7_73 qs_X7_in (dk_at ktX7_isTold_0 8 rfl) rfl rfl (Nat.le_of_ble_eq_true rfl) (by decide) (b := 17) rfl (fun v8 I5 J6 q7 => ?_)
  obtain ⟨rfl, rfl, rfl⟩ := q7
  refine r_val (y := bi (inI (σ (83 + 64 * s)) 1 255)) (congrArg bi (inJ_I (σ (83 + 64 * s)) 1 255)) ?_
  refine r_if_eq (dk_at ktX7_isTold_0 9 rfl) (b := 52) (by decide) (b2 := 20) rfl (fun c17 => ?_) (fun c17 => ?_)
  · have c17 := bi_f c17
    refine rc_p (p_iconst (v := 0) (dk_at ktX7_isTold_0 30 rfl) (by decide) (b := 53) rfl) ?_
    refine r_iret (dk_at ktX7_isTold_0 31 rfl) rfl rfl ⟨_, rfl, ?_⟩
    refine ⟨?_, rfl, rfl⟩
    simp_all [toldB, bi]
  · have c17 := bi_t c17
    refine rc_p (p_aload_n 0 (dk_at ktX7_isTold_0 10 rfl) rfl rfl (b := 21) rfl) ?_
    refine r_geta fl_X7_9 rfl hm.l0 hm.s0 (dk_at ktX7_isTold_0 11 rfl) hm.g0_0 (b := 24) rfl ?_
    refine rc_p (p_iload_n 1 (dk_at ktX7_isTold_0 12 rfl) rfl rfl (b := 25) rfl) ?_
    refine r_iS (As := [.int (nI s)]) (rest := [.ref (m + 1)]) (s_X7_slotAt s) cw_X7_197 qs_X7_slotAt (dk_at ktX7_isTold_0 13 rfl) rfl rfl (Nat.le_of_ble_eq_true rfl) (by decide) (b := 28) rfl (fun v12 I9 J10 q11 => ?_)
    obtain ⟨rfl, rfl, rfl⟩ := q11
    refine rc_p (p_iconst (v := 1) (dk_at ktX7_isTold_0 14 rfl) (by decide) (b := 29) rfl) ?_
    refine rc_p (p_iadd (v := (nI (83 + 64 * s + 1))) (dk_at ktX7_isTold_0 15 rfl) (nI_add (83 + 64 * s) 1) (b := 30) rfl) ?_
    refine r_iald (j := 83 + 64 * s + 1) (hm.lt 1 (by decide)) hm.s1 (dk_at ktX7_isTold_0 16 rfl) rfl ⟨by omega, by decide⟩ (v := (σ (83 + 64 * s + 1))) (hR.1 (83 + 64 * s + 1) (by omega)) (b := 31) rfl ?_
    refine rc_p (p_i2l (v := (Int32.toInt64 (σ (83 + 64 * s + 1)))) (dk_at ktX7_isTold_0 17 rfl) rfl (b := 32) rfl) ?_
    refine rc_p (p_lconst (v := 1) (dk_at ktX7_isTold_0 18 rfl) (by decide) (b := 33) rfl) ?_
    refine rc_p (p_aload_n 0 (dk_at ktX7_isTold_0 19 rfl) rfl rfl (b := 34) rfl) ?_
    refine r_geta fl_X7_9 rfl hm.l0 hm.s0 (dk_at ktX7_isTold_0 20 rfl) hm.g0_0 (b := 37) rfl ?_
    refine rc_p (p_iconst (v := 0) (dk_at ktX7_isTold_0 21 rfl) (by decide) (b := 38) rfl) ?_
    refine r_iald (j := 0) (hm.lt 1 (by decide)) hm.s1 (dk_at ktX7_isTold_0 22 rfl) rfl ⟨by decide, by decide⟩ (v := (nI (nW σ))) ((hR.1 0 (by decide)).trans hI.w0) (b := 39) rfl ?_
    refine rc_p (p_iconst (v := 3) (dk_at ktX7_isTold_0 23 rfl) (by decide) (b := 40) rfl) ?_
    refine rc_p (p_isub (v := (nI (nW σ - 3))) (dk_at ktX7_isTold_0 24 rfl) (pk_sub (a := nW σ) (b := 3) (by omega)) (b := 41) rfl) ?_
    refine rc_p (p_i2l (v := (Int32.toInt64 (nI (nW σ - 3)))) (dk_at ktX7_isTold_0 25 rfl) rfl (b := 42) rfl) ?_
    refine r_iS (As := [.long (Int32.toInt64 (σ (83 + 64 * s + 1))), .long 1, .long (Int32.toInt64 (nI (nW σ - 3)))]) (rest := []) (s_X7_in (Int32.toInt64 (σ (83 + 64 * s + 1))) 1 (Int32.toInt64 (nI (nW σ - 3)))) cw_X7_73 qs_X7_in (dk_at ktX7_isTold_0 26 rfl) rfl rfl (Nat.le_of_ble_eq_true rfl) (by decide) (b := 45) rfl (fun v16 I13 J14 q15 => ?_)
    obtain ⟨rfl, rfl, rfl⟩ := q15
    refine r_val (y := bi (inI (σ (83 + 64 * s + 1)) 1 (nI (nW σ - 3)))) (congrArg bi (inJ_I (σ (83 + 64 * s + 1)) 1 (nI (nW σ - 3)))) ?_
    refine r_if_eq (dk_at ktX7_isTold_0 27 rfl) (b := 52) (by decide) (b2 := 48) rfl (fun c45 => ?_) (fun c45 => ?_)
    · have c45 := bi_f c45
      refine rc_p (p_iconst (v := 0) (dk_at ktX7_isTold_0 30 rfl) (by decide) (b := 53) rfl) ?_
      refine r_iret (dk_at ktX7_isTold_0 31 rfl) rfl rfl ⟨_, rfl, ?_⟩
      refine ⟨?_, rfl, rfl⟩
      simp_all [toldB, bi]
    · have c45 := bi_t c45
      refine rc_p (p_iconst (v := 1) (dk_at ktX7_isTold_0 28 rfl) (by decide) (b := 49) rfl) ?_
      refine rc_p (p_goto (b := 53) (dk_at ktX7_isTold_0 29 rfl) (by decide)) ?_
      refine r_iret (dk_at ktX7_isTold_0 31 rfl) rfl rfl ⟨_, rfl, ?_⟩
      refine ⟨?_, rfl, rfl⟩
      simp_all [toldB, bi]
set_option maxRecDepth 4000 in
set_option maxHeartbeats 4000000 in
theorem s_X7_sumAt {n : Nat} {sh : mS} {G : mG} {I : mI} {J : mJ} {m : Nat} {σ : sT} (hm : ModG n sh G m) (hR : RelW (I (m + 1)) σ) (hI : Inv σ) (s : Nat) (hs : s < 2) : Sp yX7_sumAt cX7_sumAt 2 (some FieldType.int) 3 144 0 0 [.ref m, .int (nI s)] n sh G I J (Qi (fun r_ I_ J_ => sumS σ s = r_ ∧ I = I_ ∧ J = J_)) nX := by
  refine Sp.of (by decide) (ls := [(0, .ref m), (1, .int (nI s))]) (fun _ => rfl) (fun _ => Nat.le_of_ble_eq_true rfl) ?_
  have hb := hI.bd
  refine rc_p (p_aload_n 0 (dk_at ktX7_sumAt_0 0 rfl) rfl rfl (b := 1) rfl) ?_
  refine rc_p (p_iload_n 1 (dk_at ktX7_sumAt_0 1 rfl) rfl rfl (b := 2) rfl) ?_
  refine r_iV (As' := [.int (nI s)]) (rest := []) (s_X7_isTold hm (σ := σ) hR hI s (by omega)) cw_X7_200 qi_X7_isTold qv_X7_isTold rfl hm.l0 hm.s0 (dk_at ktX7_sumAt_0 2 rfl) rfl rfl (Nat.le_of_ble_eq_true rfl) (by decide) (b := 5) rfl (fun v4 I1 J2 q3 => ?_)
  obtain ⟨rfl, rfl, rfl⟩ := q3
  refine r_if_eq (dk_at ktX7_sumAt_0 3 rfl) (b := 42) (by decide) (b2 := 8) rfl (fun c5 => ?_) (fun c5 => ?_)
  · have c5 := bi_f c5
    refine rc_p (p_iconst (v := (-1)) (dk_at ktX7_sumAt_0 22 rfl) (by decide) (b := 43) rfl) ?_
    refine r_iret (dk_at ktX7_sumAt_0 23 rfl) rfl rfl ⟨_, rfl, ?_⟩
    refine ⟨?_, rfl, rfl⟩
    rw [sumS, if_neg (by rw [c5]; decide)]
  · have c5 := bi_t c5
    have htn := toldB_n hb.2.1 c5
    refine rc_p (p_aload_n 0 (dk_at ktX7_sumAt_0 4 rfl) rfl rfl (b := 9) rfl) ?_
    refine r_geta fl_X7_9 rfl hm.l0 hm.s0 (dk_at ktX7_sumAt_0 5 rfl) hm.g0_0 (b := 12) rfl ?_
    refine rc_p (p_iload_n 1 (dk_at ktX7_sumAt_0 6 rfl) rfl rfl (b := 13) rfl) ?_
    refine r_iS (As := [.int (nI s)]) (rest := [.ref (m + 1)]) (s_X7_slotAt s) cw_X7_197 qs_X7_slotAt (dk_at ktX7_sumAt_0 7 rfl) rfl rfl (Nat.le_of_ble_eq_true rfl) (by decide) (b := 16) rfl (fun v8 I5 J6 q7 => ?_)
    obtain ⟨rfl, rfl, rfl⟩ := q7
    refine rc_p (p_aload_n 0 (dk_at ktX7_sumAt_0 8 rfl) rfl rfl (b := 17) rfl) ?_
    refine r_geta fl_X7_9 rfl hm.l0 hm.s0 (dk_at ktX7_sumAt_0 9 rfl) hm.g0_0 (b := 20) rfl ?_
    refine rc_p (p_iload_n 1 (dk_at ktX7_sumAt_0 10 rfl) rfl rfl (b := 21) rfl) ?_
    refine r_iS (As := [.int (nI s)]) (rest := [.ref (m + 1), .int (nI (83 + 64 * s)), .ref (m + 1)]) (s_X7_slotAt s) cw_X7_197 qs_X7_slotAt (dk_at ktX7_sumAt_0 11 rfl) rfl rfl (Nat.le_of_ble_eq_true rfl) (by decide) (b := 24) rfl (fun v12 I9 J10 q11 => ?_)
    obtain ⟨rfl, rfl, rfl⟩ := q11
    refine r_iald (j := 83 + 64 * s) (hm.lt 1 (by decide)) hm.s1 (dk_at ktX7_sumAt_0 12 rfl) rfl ⟨by omega, by decide⟩ (v := (σ (83 + 64 * s))) (hR.1 (83 + 64 * s) (by omega)) (b := 25) rfl ?_
    refine rc_p (p_aload_n 0 (dk_at ktX7_sumAt_0 13 rfl) rfl rfl (b := 26) rfl) ?_
    refine r_geta fl_X7_9 rfl hm.l0 hm.s0 (dk_at ktX7_sumAt_0 14 rfl) hm.g0_0 (b := 29) rfl ?_
    refine rc_p (p_iload_n 1 (dk_at ktX7_sumAt_0 15 rfl) rfl rfl (b := 30) rfl) ?_
    refine r_iS (As := [.int (nI s)]) (rest := [.ref (m + 1), .int (σ (83 + 64 * s)), .int (nI (83 + 64 * s)), .ref (m + 1)]) (s_X7_slotAt s) cw_X7_197 qs_X7_slotAt (dk_at ktX7_sumAt_0 16 rfl) rfl rfl (Nat.le_of_ble_eq_true rfl) (by decide) (b := 33) rfl (fun v16 I13 J14 q15 => ?_)
    obtain ⟨rfl, rfl, rfl⟩ := q15
    refine rc_p (p_iconst (v := 1) (dk_at ktX7_sumAt_0 17 rfl) (by decide) (b := 34) rfl) ?_
    refine rc_p (p_iadd (v := (nI (83 + 64 * s + 1))) (dk_at ktX7_sumAt_0 18 rfl) (nI_add (83 + 64 * s) 1) (b := 35) rfl) ?_
    refine r_iald (j := 83 + 64 * s + 1) (hm.lt 1 (by decide)) hm.s1 (dk_at ktX7_sumAt_0 19 rfl) rfl ⟨by omega, by decide⟩ (v := (nI (tn (σ (83 + 64 * s + 1))))) ((hR.1 (83 + 64 * s + 1) (by omega)).trans htn.1) (b := 36) rfl ?_
    refine r_iS (As := [.ref (m + 1), .int (nI (83 + 64 * s)), .int (σ (83 + 64 * s)), .int (nI (tn (σ (83 + 64 * s + 1))))]) (rest := []) (s_X7_sumOf (ar := (m + 1)) (len := 429) (a := 83 + 64 * s) (c := tn (σ (83 + 64 * s + 1))) ⟨(hm.lt 1 (by decide)), hm.s1⟩ (by decide) (by omega) (σ (83 + 64 * s))) cw_X7_155 qs_X7_sumOf (dk_at ktX7_sumAt_0 20 rfl) rfl rfl (Nat.le_of_ble_eq_true rfl) (by decide) (b := 39) rfl (fun v20 I17 J18 q19 => ?_)
    obtain ⟨rfl, rfl, rfl⟩ := q19
    refine rc_p (p_goto (b := 43) (dk_at ktX7_sumAt_0 21 rfl) (by decide)) ?_
    refine r_iret (dk_at ktX7_sumAt_0 23 rfl) rfl rfl ⟨_, rfl, ?_⟩
    refine ⟨?_, rfl, rfl⟩
    rw [sumS, if_pos c5]; exact sumF_congr (fun k hk => (hR.1 _ (by omega)).symm)
set_option maxRecDepth 4000 in
set_option maxHeartbeats 4000000 in
theorem s_X7_wholeAt {n : Nat} {sh : mS} {G : mG} {I : mI} {J : mJ} {m : Nat} {σ : sT} (hm : ModG n sh G m) (hR : RelW (I (m + 1)) σ) (hI : Inv σ) (s : Nat) (hs : s < 2) : Sp yX7_wholeAt cX7_wholeAt 2 (some FieldType.boolean) 4 192 0 0 [.ref m, .int (nI s)] n sh G I J (Qi (fun r_ I_ J_ => bi (wholeB σ s) = r_ ∧ I = I_ ∧ J = J_)) nX := by
  refine Sp.of (by decide) (ls := [(0, .ref m), (1, .int (nI s))]) (fun _ => rfl) (fun _ => Nat.le_of_ble_eq_true rfl) ?_
  have hb := hI.bd
  refine rc_p (p_aload_n 0 (dk_at ktX7_wholeAt_0 0 rfl) rfl rfl (b := 1) rfl) ?_
  refine rc_p (p_iload_n 1 (dk_at ktX7_wholeAt_0 1 rfl) rfl rfl (b := 2) rfl) ?_
  refine r_iV (As' := [.int (nI s)]) (rest := []) (s_X7_isTold hm (σ := σ) hR hI s (by omega)) cw_X7_200 qi_X7_isTold qv_X7_isTold rfl hm.l0 hm.s0 (dk_at ktX7_wholeAt_0 2 rfl) rfl rfl (Nat.le_of_ble_eq_true rfl) (by decide) (b := 5) rfl (fun v4 I1 J2 q3 => ?_)
  obtain ⟨rfl, rfl, rfl⟩ := q3
  refine r_if_eq (dk_at ktX7_wholeAt_0 3 rfl) (b := 31) (by decide) (b2 := 8) rfl (fun c5 => ?_) (fun c5 => ?_)
  · have c5 := bi_f c5
    refine rc_p (p_iconst (v := 0) (dk_at ktX7_wholeAt_0 17 rfl) (by decide) (b := 32) rfl) ?_
    refine r_iret (dk_at ktX7_wholeAt_0 18 rfl) rfl rfl ⟨_, rfl, ?_⟩
    refine ⟨?_, rfl, rfl⟩
    simp_all [wholeB, bi]
  · have c5 := bi_t c5
    refine rc_p (p_aload_n 0 (dk_at ktX7_wholeAt_0 4 rfl) rfl rfl (b := 9) rfl) ?_
    refine r_geta fl_X7_9 rfl hm.l0 hm.s0 (dk_at ktX7_wholeAt_0 5 rfl) hm.g0_0 (b := 12) rfl ?_
    refine rc_p (p_iload_n 1 (dk_at ktX7_wholeAt_0 6 rfl) rfl rfl (b := 13) rfl) ?_
    refine r_iS (As := [.int (nI s)]) (rest := [.ref (m + 1)]) (s_X7_slotAt s) cw_X7_197 qs_X7_slotAt (dk_at ktX7_wholeAt_0 7 rfl) rfl rfl (Nat.le_of_ble_eq_true rfl) (by decide) (b := 16) rfl (fun v8 I5 J6 q7 => ?_)
    obtain ⟨rfl, rfl, rfl⟩ := q7
    refine rc_p (p_iconst (v := 2) (dk_at ktX7_wholeAt_0 8 rfl) (by decide) (b := 17) rfl) ?_
    refine rc_p (p_iadd (v := (nI (83 + 64 * s + 2))) (dk_at ktX7_wholeAt_0 9 rfl) (nI_add (83 + 64 * s) 2) (b := 18) rfl) ?_
    refine r_iald (j := 83 + 64 * s + 2) (hm.lt 1 (by decide)) hm.s1 (dk_at ktX7_wholeAt_0 10 rfl) rfl ⟨by omega, by decide⟩ (v := (σ (83 + 64 * s + 2))) (hR.1 (83 + 64 * s + 2) (by omega)) (b := 19) rfl ?_
    refine rc_p (p_aload_n 0 (dk_at ktX7_wholeAt_0 11 rfl) rfl rfl (b := 20) rfl) ?_
    refine rc_p (p_iload_n 1 (dk_at ktX7_wholeAt_0 12 rfl) rfl rfl (b := 21) rfl) ?_
    refine r_iV (As' := [.int (nI s)]) (rest := [.int (σ (83 + 64 * s + 2))]) (s_X7_sumAt hm (σ := σ) hR hI s (by omega)) cw_X7_203 qi_X7_sumAt qv_X7_sumAt rfl hm.l0 hm.s0 (dk_at ktX7_wholeAt_0 13 rfl) rfl rfl (Nat.le_of_ble_eq_true rfl) (by decide) (b := 24) rfl (fun v12 I9 J10 q11 => ?_)
    obtain ⟨rfl, rfl, rfl⟩ := q11
    refine r_icmp_ne (dk_at ktX7_wholeAt_0 14 rfl) (b := 31) (by decide) (b2 := 27) rfl (fun c24 => ?_) (fun c24 => ?_)
    · skip
      refine rc_p (p_iconst (v := 0) (dk_at ktX7_wholeAt_0 17 rfl) (by decide) (b := 32) rfl) ?_
      refine r_iret (dk_at ktX7_wholeAt_0 18 rfl) rfl rfl ⟨_, rfl, ?_⟩
      refine ⟨?_, rfl, rfl⟩
      simp_all [wholeB, bi]
    · skip
      refine rc_p (p_iconst (v := 1) (dk_at ktX7_wholeAt_0 15 rfl) (by decide) (b := 28) rfl) ?_
      refine rc_p (p_goto (b := 32) (dk_at ktX7_wholeAt_0 16 rfl) (by decide)) ?_
      refine r_iret (dk_at ktX7_wholeAt_0 18 rfl) rfl rfl ⟨_, rfl, ?_⟩
      refine ⟨?_, rfl, rfl⟩
      simp_all [wholeB, bi]
set_option maxRecDepth 4000 in
set_option maxHeartbeats 4000000 in
theorem s_X7_isRightPage {n : Nat} {sh : mS} {G : mG} {I : mI} {J : mJ} {m : Nat} {σ : sT} (hm : ModG n sh G m) (hR : RelW (I (m + 1)) σ) (hI : Inv σ) (p : Nat) (hp : p < 2) : Sp yX7_isRightPage cX7_isRightPage 2 (some FieldType.boolean) 3 144 0 0 [.ref m, .int (nI p)] n sh G I J (Qi (fun r_ I_ J_ => bi (headB σ p) = r_ ∧ I = I_ ∧ J = J_)) nX := by
  refine Sp.of (by decide) (ls := [(0, .ref m), (1, .int (nI p))]) (fun _ => rfl) (fun _ => Nat.le_of_ble_eq_true rfl) ?_
  refine rc_p (p_aload_n 0 (dk_at ktX7_isRightPage_0 0 rfl) rfl rfl (b := 1) rfl) ?_
  refine r_geta fl_X7_9 rfl hm.l0 hm.s0 (dk_at ktX7_isRightPage_0 1 rfl) hm.g0_0 (b := 4) rfl ?_
  refine rc_p (p_iload_n 1 (dk_at ktX7_isRightPage_0 2 rfl) rfl rfl (b := 5) rfl) ?_
  refine r_iS (As := [.int (nI p)]) (rest := [.ref (m + 1)]) (s_X7_pageAt p) cw_X7_216 qs_X7_pageAt (dk_at ktX7_isRightPage_0 3 rfl) rfl rfl (Nat.le_of_ble_eq_true rfl) (by decide) (b := 8) rfl (fun v4 I1 J2 q3 => ?_)
  obtain ⟨rfl, rfl, rfl⟩ := q3
  refine r_iald (j := 211 + 32 * p) (hm.lt 1 (by decide)) hm.s1 (dk_at ktX7_isRightPage_0 4 rfl) rfl ⟨by omega, by decide⟩ (v := (σ (211 + 32 * p))) (hR.1 (211 + 32 * p) (by omega)) (b := 9) rfl ?_
  refine r_iS (As := [.int (σ (211 + 32 * p))]) (rest := []) (s_X7_isRight (σ (211 + 32 * p))) cw_X7_219 qs_X7_isRight (dk_at ktX7_isRightPage_0 5 rfl) rfl rfl (Nat.le_of_ble_eq_true rfl) (by decide) (b := 12) rfl (fun v8 I5 J6 q7 => ?_)
  obtain ⟨rfl, rfl, rfl⟩ := q7
  refine r_if_eq (dk_at ktX7_isRightPage_0 6 rfl) (b := 36) (by decide) (b2 := 15) rfl (fun c12 => ?_) (fun c12 => ?_)
  · have c12 := bi_f c12
    refine rc_p (p_iconst (v := 0) (dk_at ktX7_isRightPage_0 17 rfl) (by decide) (b := 37) rfl) ?_
    refine r_iret (dk_at ktX7_isRightPage_0 18 rfl) rfl rfl ⟨_, rfl, ?_⟩
    refine ⟨?_, rfl, rfl⟩
    simp_all [headB, bi]
  · have c12 := bi_t c12
    refine rc_p (p_aload_n 0 (dk_at ktX7_isRightPage_0 7 rfl) rfl rfl (b := 16) rfl) ?_
    refine r_geta fl_X7_9 rfl hm.l0 hm.s0 (dk_at ktX7_isRightPage_0 8 rfl) hm.g0_0 (b := 19) rfl ?_
    refine rc_p (p_iload_n 1 (dk_at ktX7_isRightPage_0 9 rfl) rfl rfl (b := 20) rfl) ?_
    refine r_iS (As := [.int (nI p)]) (rest := [.ref (m + 1)]) (s_X7_pageAt p) cw_X7_216 qs_X7_pageAt (dk_at ktX7_isRightPage_0 10 rfl) rfl rfl (Nat.le_of_ble_eq_true rfl) (by decide) (b := 23) rfl (fun v12 I9 J10 q11 => ?_)
    obtain ⟨rfl, rfl, rfl⟩ := q11
    refine r_iald (j := 211 + 32 * p) (hm.lt 1 (by decide)) hm.s1 (dk_at ktX7_isRightPage_0 11 rfl) rfl ⟨by omega, by decide⟩ (v := (σ (211 + 32 * p))) (hR.1 (211 + 32 * p) (by omega)) (b := 24) rfl ?_
    refine r_iS (As := [.int (σ (211 + 32 * p))]) (rest := []) (s_X7_kindOf (σ (211 + 32 * p))) cw_X7_206 qs_X7_kindOf (dk_at ktX7_isRightPage_0 12 rfl) rfl rfl (Nat.le_of_ble_eq_true rfl) (by decide) (b := 27) rfl (fun v16 I13 J14 q15 => ?_)
    obtain ⟨rfl, rfl, rfl⟩ := q15
    refine rc_p (p_bipush (v := 6) (dk_at ktX7_isRightPage_0 13 rfl) (by decide) (b := 29) rfl) ?_
    refine r_icmp_ne (dk_at ktX7_isRightPage_0 14 rfl) (b := 36) (by decide) (b2 := 32) rfl (fun c29 => ?_) (fun c29 => ?_)
    · skip
      refine rc_p (p_iconst (v := 0) (dk_at ktX7_isRightPage_0 17 rfl) (by decide) (b := 37) rfl) ?_
      refine r_iret (dk_at ktX7_isRightPage_0 18 rfl) rfl rfl ⟨_, rfl, ?_⟩
      refine ⟨?_, rfl, rfl⟩
      simp_all [headB, bi]
    · skip
      refine rc_p (p_iconst (v := 1) (dk_at ktX7_isRightPage_0 15 rfl) (by decide) (b := 33) rfl) ?_
      refine rc_p (p_goto (b := 37) (dk_at ktX7_isRightPage_0 16 rfl) (by decide)) ?_
      refine r_iret (dk_at ktX7_isRightPage_0 18 rfl) rfl rfl ⟨_, rfl, ?_⟩
      refine ⟨?_, rfl, rfl⟩
      simp_all [headB, bi]
set_option maxRecDepth 4000 in
set_option maxHeartbeats 4000000 in
theorem s_X7_generationOf {n : Nat} {sh : mS} {G : mG} {I : mI} {J : mJ} {m : Nat} {σ : sT} (hm : ModG n sh G m) (hR : RelW (I (m + 1)) σ) (hI : Inv σ) (p : Nat) (hp : p < 2) : Sp yX7_generationOf cX7_generationOf 2 (some FieldType.int) 2 96 0 0 [.ref m, .int (nI p)] n sh G I J (Qi (fun r_ I_ J_ => genI σ p = r_ ∧ I = I_ ∧ J = J_)) nX := by
  refine Sp.of (by decide) (ls := [(0, .ref m), (1, .int (nI p))]) (fun _ => rfl) (fun _ => Nat.le_of_ble_eq_true rfl) ?_
  refine rc_p (p_aload_n 0 (dk_at ktX7_generationOf_0 0 rfl) rfl rfl (b := 1) rfl) ?_
  refine r_geta fl_X7_9 rfl hm.l0 hm.s0 (dk_at ktX7_generationOf_0 1 rfl) hm.g0_0 (b := 4) rfl ?_
  refine rc_p (p_iload_n 1 (dk_at ktX7_generationOf_0 2 rfl) rfl rfl (b := 5) rfl) ?_
  refine r_iS (As := [.int (nI p)]) (rest := [.ref (m + 1)]) (s_X7_pageAt p) cw_X7_216 qs_X7_pageAt (dk_at ktX7_generationOf_0 3 rfl) rfl rfl (Nat.le_of_ble_eq_true rfl) (by decide) (b := 8) rfl (fun v4 I1 J2 q3 => ?_)
  obtain ⟨rfl, rfl, rfl⟩ := q3
  refine r_iald (j := 211 + 32 * p) (hm.lt 1 (by decide)) hm.s1 (dk_at ktX7_generationOf_0 4 rfl) rfl ⟨by omega, by decide⟩ (v := (σ (211 + 32 * p))) (hR.1 (211 + 32 * p) (by omega)) (b := 9) rfl ?_
  refine r_iS (As := [.int (σ (211 + 32 * p))]) (rest := []) (s_X7_valueOf (σ (211 + 32 * p))) cw_X7_209 qs_X7_valueOf (dk_at ktX7_generationOf_0 5 rfl) rfl rfl (Nat.le_of_ble_eq_true rfl) (by decide) (b := 12) rfl (fun v8 I5 J6 q7 => ?_)
  obtain ⟨rfl, rfl, rfl⟩ := q7
  refine r_iret (dk_at ktX7_generationOf_0 6 rfl) rfl rfl ⟨_, rfl, ?_⟩
  exact ⟨rfl, rfl, rfl⟩
set_option maxRecDepth 4000 in
set_option maxHeartbeats 4000000 in
theorem s_X7_active {n : Nat} {sh : mS} {G : mG} {I : mI} {J : mJ} {m : Nat} {σ : sT} (hm : ModG n sh G m) (hR : RelW (I (m + 1)) σ) (hI : Inv σ)  : Sp yX7_active cX7_active 3 (some FieldType.int) 4 192 0 0 [.ref m] n sh G I J (Qi (fun r_ I_ J_ => activeI σ = r_ ∧ I = I_ ∧ J = J_)) nX := by
  refine Sp.of (by decide) (ls := [(0, .ref m)]) (fun _ => rfl) (fun _ => Nat.le_of_ble_eq_true rfl) ?_
  refine rc_p (p_aload_n 0 (dk_at ktX7_active_0 0 rfl) rfl rfl (b := 1) rfl) ?_
  refine rc_p (p_iconst (v := 0) (dk_at ktX7_active_0 1 rfl) (by decide) (b := 2) rfl) ?_
  refine r_iV (As' := [.int 0]) (rest := []) (s_X7_isRightPage hm (σ := σ) hR hI 0 (by omega)) cw_X7_222 qi_X7_isRightPage qv_X7_isRightPage rfl hm.l0 hm.s0 (dk_at ktX7_active_0 2 rfl) rfl rfl (Nat.le_of_ble_eq_true rfl) (by decide) (b := 5) rfl (fun v4 I1 J2 q3 => ?_)
  obtain ⟨rfl, rfl, rfl⟩ := q3
  refine rc_p (p_istore_n (ls' := [(1, .int (bi (headB σ 0))), (0, .ref m)]) (dk_at ktX7_active_0 3 rfl) rfl (by decide) rfl (b := 6) rfl) ?_
  refine rc_p (p_aload_n 1 (dk_at ktX7_active_0 4 rfl) rfl rfl (b := 7) rfl) ?_
  refine rc_p (p_iconst (v := 1) (dk_at ktX7_active_0 5 rfl) (by decide) (b := 8) rfl) ?_
  refine r_iV (As' := [.int 1]) (rest := []) (s_X7_isRightPage hm (σ := σ) hR hI 1 (by omega)) cw_X7_222 qi_X7_isRightPage qv_X7_isRightPage rfl hm.l0 hm.s0 (dk_at ktX7_active_0 6 rfl) rfl rfl (Nat.le_of_ble_eq_true rfl) (by decide) (b := 11) rfl (fun v8 I5 J6 q7 => ?_)
  obtain ⟨rfl, rfl, rfl⟩ := q7
  refine rc_p (p_istore_n (ls' := [(2, .int (bi (headB σ 1))), (1, .int (bi (headB σ 0))), (0, .ref m)]) (dk_at ktX7_active_0 7 rfl) rfl (by decide) rfl (b := 12) rfl) ?_
  refine rc_p (p_iload_n 1 (dk_at ktX7_active_0 8 rfl) rfl rfl (b := 13) rfl) ?_
  refine r_if_eq (dk_at ktX7_active_0 9 rfl) (b := 20) (by decide) (b2 := 16) rfl (fun c13 => ?_) (fun c13 => ?_)
  · have c13 := bi_f c13
    refine rc_p (p_iload_n 1 (dk_at ktX7_active_0 12 rfl) rfl rfl (b := 21) rfl) ?_
    refine r_if_eq (dk_at ktX7_active_0 13 rfl) (b := 28) (by decide) (b2 := 24) rfl (fun c21 => ?_) (fun c21 => ?_)
    · have c21 := bi_f c21
      refine rc_p (p_iload_n 0 (dk_at ktX7_active_0 16 rfl) rfl rfl (b := 29) rfl) ?_
      refine r_if_eq (dk_at ktX7_active_0 17 rfl) (b := 36) (by decide) (b2 := 32) rfl (fun c29 => ?_) (fun c29 => ?_)
      · have c29 := bi_f c29
        refine rc_p (p_iconst (v := (-1)) (dk_at ktX7_active_0 20 rfl) (by decide) (b := 37) rfl) ?_
        refine r_iret (dk_at ktX7_active_0 21 rfl) rfl rfl ⟨_, rfl, ?_⟩
        refine ⟨?_, rfl, rfl⟩
        simp_all [activeI]
      · have c29 := bi_t c29
        refine rc_p (p_iconst (v := 1) (dk_at ktX7_active_0 18 rfl) (by decide) (b := 33) rfl) ?_
        refine rc_p (p_goto (b := 37) (dk_at ktX7_active_0 19 rfl) (by decide)) ?_
        refine r_iret (dk_at ktX7_active_0 21 rfl) rfl rfl ⟨_, rfl, ?_⟩
        refine ⟨?_, rfl, rfl⟩
        simp_all [activeI]
    · have c21 := bi_t c21
      refine rc_p (p_iconst (v := 0) (dk_at ktX7_active_0 14 rfl) (by decide) (b := 25) rfl) ?_
      refine rc_p (p_goto (b := 37) (dk_at ktX7_active_0 15 rfl) (by decide)) ?_
      refine r_iret (dk_at ktX7_active_0 21 rfl) rfl rfl ⟨_, rfl, ?_⟩
      refine ⟨?_, rfl, rfl⟩
      simp_all [activeI]
  · have c13 := bi_t c13
    refine rc_p (p_iload_n 0 (dk_at ktX7_active_0 10 rfl) rfl rfl (b := 17) rfl) ?_
    refine r_if_ne (dk_at ktX7_active_0 11 rfl) (b := 38) (by decide) (b2 := 20) rfl (fun c17 => ?_) (fun c17 => ?_)
    · have c17 := bi_t c17
      refine rc_p (p_aload_n 2 (dk_at ktX7_active_0 22 rfl) rfl rfl (b := 39) rfl) ?_
      refine rc_p (p_iconst (v := 1) (dk_at ktX7_active_0 23 rfl) (by decide) (b := 40) rfl) ?_
      refine r_iV (As' := [.int 1]) (rest := []) (s_X7_generationOf hm (σ := σ) hR hI 1 (by omega)) cw_X7_225 qi_X7_generationOf qv_X7_generationOf rfl hm.l0 hm.s0 (dk_at ktX7_active_0 24 rfl) rfl rfl (Nat.le_of_ble_eq_true rfl) (by decide) (b := 43) rfl (fun v12 I9 J10 q11 => ?_)
      obtain ⟨rfl, rfl, rfl⟩ := q11
      refine rc_p (p_aload_n 2 (dk_at ktX7_active_0 25 rfl) rfl rfl (b := 44) rfl) ?_
      refine rc_p (p_iconst (v := 0) (dk_at ktX7_active_0 26 rfl) (by decide) (b := 45) rfl) ?_
      refine r_iV (As' := [.int 0]) (rest := [.int (genI σ 1)]) (s_X7_generationOf hm (σ := σ) hR hI 0 (by omega)) cw_X7_225 qi_X7_generationOf qv_X7_generationOf rfl hm.l0 hm.s0 (dk_at ktX7_active_0 27 rfl) rfl rfl (Nat.le_of_ble_eq_true rfl) (by decide) (b := 48) rfl (fun v16 I13 J14 q15 => ?_)
      obtain ⟨rfl, rfl, rfl⟩ := q15
      refine rc_p (p_isub (v := ((genI σ 1) - (genI σ 0))) (dk_at ktX7_active_0 28 rfl) rfl (b := 49) rfl) ?_
      refine rc_p (p_sipush (v := 256) (dk_at ktX7_active_0 29 rfl) (by decide) (b := 52) rfl) ?_
      refine rc_p (p_iadd (v := (((genI σ 1) - (genI σ 0)) + 256)) (dk_at ktX7_active_0 30 rfl) rfl (b := 53) rfl) ?_
      refine rc_p (p_sipush (v := 256) (dk_at ktX7_active_0 31 rfl) (by decide) (b := 56) rfl) ?_
      refine rc_p (p_irem (v := ((((genI σ 1) - (genI σ 0)) + 256) % 256)) (dk_at ktX7_active_0 32 rfl) (by decide) (irem_eq_mod _ _) (b := 57) rfl) ?_
      refine rc_p (p_i2l (v := (Int32.toInt64 ((((genI σ 1) - (genI σ 0)) + 256) % 256))) (dk_at ktX7_active_0 33 rfl) rfl (b := 58) rfl) ?_
      refine rc_p (p_lconst (v := 1) (dk_at ktX7_active_0 34 rfl) (by decide) (b := 59) rfl) ?_
      refine rc_p (p_ldc2 (v := 127) ql_TwinBootModel_228 (dk_at ktX7_active_0 35 rfl) (b := 62) rfl) ?_
      refine r_iS (As := [.long (Int32.toInt64 ((((genI σ 1) - (genI σ 0)) + 256) % 256)), .long 1, .long 127]) (rest := []) (s_X7_in (Int32.toInt64 ((((genI σ 1) - (genI σ 0)) + 256) % 256)) 1 127) cw_X7_73 qs_X7_in (dk_at ktX7_active_0 36 rfl) rfl rfl (Nat.le_of_ble_eq_true rfl) (by decide) (b := 65) rfl (fun v20 I17 J18 q19 => ?_)
      obtain ⟨rfl, rfl, rfl⟩ := q19
      refine r_val (y := bi (inI ((((genI σ 1) - (genI σ 0)) + 256) % 256) 1 127)) (congrArg bi (inJ_I ((((genI σ 1) - (genI σ 0)) + 256) % 256) 1 127)) ?_
      refine r_if_eq (dk_at ktX7_active_0 37 rfl) (b := 72) (by decide) (b2 := 68) rfl (fun c65 => ?_) (fun c65 => ?_)
      · have c65 := bi_f c65
        refine rc_p (p_iconst (v := 0) (dk_at ktX7_active_0 40 rfl) (by decide) (b := 73) rfl) ?_
        refine r_iret (dk_at ktX7_active_0 41 rfl) rfl rfl ⟨_, rfl, ?_⟩
        refine ⟨?_, rfl, rfl⟩
        simp_all [activeI]
      · have c65 := bi_t c65
        refine rc_p (p_iconst (v := 1) (dk_at ktX7_active_0 38 rfl) (by decide) (b := 69) rfl) ?_
        refine rc_p (p_goto (b := 73) (dk_at ktX7_active_0 39 rfl) (by decide)) ?_
        refine r_iret (dk_at ktX7_active_0 41 rfl) rfl rfl ⟨_, rfl, ?_⟩
        refine ⟨?_, rfl, rfl⟩
        simp_all [activeI]
    · have c17 := bi_f c17
      refine rc_p (p_iload_n 1 (dk_at ktX7_active_0 12 rfl) rfl rfl (b := 21) rfl) ?_
      refine r_if_eq (dk_at ktX7_active_0 13 rfl) (b := 28) (by decide) (b2 := 24) rfl (fun c21 => ?_) (fun c21 => ?_)
      · have c21 := bi_f c21
        refine rc_p (p_iload_n 0 (dk_at ktX7_active_0 16 rfl) rfl rfl (b := 29) rfl) ?_
        refine r_if_eq (dk_at ktX7_active_0 17 rfl) (b := 36) (by decide) (b2 := 32) rfl (fun c29 => ?_) (fun c29 => ?_)
        · have c29 := bi_f c29
          refine rc_p (p_iconst (v := (-1)) (dk_at ktX7_active_0 20 rfl) (by decide) (b := 37) rfl) ?_
          refine r_iret (dk_at ktX7_active_0 21 rfl) rfl rfl ⟨_, rfl, ?_⟩
          refine ⟨?_, rfl, rfl⟩
          simp_all [activeI]
        · have c29 := bi_t c29
          refine rc_p (p_iconst (v := 1) (dk_at ktX7_active_0 18 rfl) (by decide) (b := 33) rfl) ?_
          refine rc_p (p_goto (b := 37) (dk_at ktX7_active_0 19 rfl) (by decide)) ?_
          refine r_iret (dk_at ktX7_active_0 21 rfl) rfl rfl ⟨_, rfl, ?_⟩
          refine ⟨?_, rfl, rfl⟩
          simp_all [activeI]
      · have c21 := bi_t c21
        refine rc_p (p_iconst (v := 0) (dk_at ktX7_active_0 14 rfl) (by decide) (b := 25) rfl) ?_
        refine rc_p (p_goto (b := 37) (dk_at ktX7_active_0 15 rfl) (by decide)) ?_
        refine r_iret (dk_at ktX7_active_0 21 rfl) rfl rfl ⟨_, rfl, ?_⟩
        refine ⟨?_, rfl, rfl⟩
        simp_all [activeI]
set_option maxRecDepth 4000 in
set_option maxHeartbeats 4000000 in
theorem s_X7_isRecord {n : Nat} {sh : mS} {G : mG} {I : mI} {J : mJ} {m : Nat} {σ : sT} (hm : ModG n sh G m) (hR : RelW (I (m + 1)) σ) (hI : Inv σ) (p k : Nat) (hp : p < 2) (hk : k < 32) : Sp yX7_isRecord cX7_isRecord 4 (some FieldType.boolean) 3 144 0 0 [.ref m, .int (nI p), .int (nI k)] n sh G I J (Qi (fun r_ I_ J_ => bi (recB σ p k) = r_ ∧ I = I_ ∧ J = J_)) nX := by
  refine Sp.of (by decide) (ls := [(0, .ref m), (1, .int (nI p)), (2, .int (nI k))]) (fun _ => rfl) (fun _ => Nat.le_of_ble_eq_true rfl) ?_
  refine rc_p (p_aload_n 0 (dk_at ktX7_isRecord_0 0 rfl) rfl rfl (b := 1) rfl) ?_
  refine r_geta fl_X7_9 rfl hm.l0 hm.s0 (dk_at ktX7_isRecord_0 1 rfl) hm.g0_0 (b := 4) rfl ?_
  refine rc_p (p_iload_n 1 (dk_at ktX7_isRecord_0 2 rfl) rfl rfl (b := 5) rfl) ?_
  refine r_iS (As := [.int (nI p)]) (rest := [.ref (m + 1)]) (s_X7_pageAt p) cw_X7_216 qs_X7_pageAt (dk_at ktX7_isRecord_0 3 rfl) rfl rfl (Nat.le_of_ble_eq_true rfl) (by decide) (b := 8) rfl (fun v4 I1 J2 q3 => ?_)
  obtain ⟨rfl, rfl, rfl⟩ := q3
  refine rc_p (p_iload_n 2 (dk_at ktX7_isRecord_0 4 rfl) rfl rfl (b := 9) rfl) ?_
  refine rc_p (p_iadd (v := (nI (211 + 32 * p + k))) (dk_at ktX7_isRecord_0 5 rfl) (nI_add (211 + 32 * p) k) (b := 10) rfl) ?_
  refine r_iald (j := 211 + 32 * p + k) (hm.lt 1 (by decide)) hm.s1 (dk_at ktX7_isRecord_0 6 rfl) rfl ⟨by omega, by decide⟩ (v := (σ (211 + 32 * p + k))) (hR.1 (211 + 32 * p + k) (by omega)) (b := 11) rfl ?_
  refine rc_p (p_istore_n (ls' := [(3, .int (σ (211 + 32 * p + k))), (0, .ref m), (1, .int (nI p)), (2, .int (nI k))]) (dk_at ktX7_isRecord_0 7 rfl) rfl (by decide) rfl (b := 12) rfl) ?_
  refine rc_p (p_iload_n 3 (dk_at ktX7_isRecord_0 8 rfl) rfl rfl (b := 13) rfl) ?_
  refine r_if_le (dk_at ktX7_isRecord_0 9 rfl) (b := 36) (by decide) (b2 := 16) rfl (fun c13 => ?_) (fun c13 => ?_)
  · have c13 : k ≤ 0 := (nI_leI (a := k) (b := 0) (by omega) (by omega)).mp c13
    refine rc_p (p_iconst (v := 0) (dk_at ktX7_isRecord_0 19 rfl) (by decide) (b := 37) rfl) ?_
    refine r_iret (dk_at ktX7_isRecord_0 20 rfl) rfl rfl ⟨_, rfl, ?_⟩
    refine ⟨?_, rfl, rfl⟩
    simp_all [recB, bi, Nat.pos_iff_ne_zero]
  · have c13 : ¬ k ≤ 0 := fun h => c13 ((nI_leI (a := k) (b := 0) (by omega) (by omega)).mpr h)
    refine rc_p (p_iload_n 0 (dk_at ktX7_isRecord_0 10 rfl) rfl rfl (b := 17) rfl) ?_
    refine r_iS (As := [.int (σ (211 + 32 * p + k))]) (rest := []) (s_X7_isRight (σ (211 + 32 * p + k))) cw_X7_219 qs_X7_isRight (dk_at ktX7_isRecord_0 11 rfl) rfl rfl (Nat.le_of_ble_eq_true rfl) (by decide) (b := 20) rfl (fun v8 I5 J6 q7 => ?_)
    obtain ⟨rfl, rfl, rfl⟩ := q7
    refine r_if_eq (dk_at ktX7_isRecord_0 12 rfl) (b := 36) (by decide) (b2 := 23) rfl (fun c20 => ?_) (fun c20 => ?_)
    · have c20 := bi_f c20
      refine rc_p (p_iconst (v := 0) (dk_at ktX7_isRecord_0 19 rfl) (by decide) (b := 37) rfl) ?_
      refine r_iret (dk_at ktX7_isRecord_0 20 rfl) rfl rfl ⟨_, rfl, ?_⟩
      refine ⟨?_, rfl, rfl⟩
      simp_all [recB, bi, Nat.pos_iff_ne_zero]
    · have c20 := bi_t c20
      refine rc_p (p_iload_n 0 (dk_at ktX7_isRecord_0 13 rfl) rfl rfl (b := 24) rfl) ?_
      refine r_iS (As := [.int (σ (211 + 32 * p + k))]) (rest := []) (s_X7_kindOf (σ (211 + 32 * p + k))) cw_X7_206 qs_X7_kindOf (dk_at ktX7_isRecord_0 14 rfl) rfl rfl (Nat.le_of_ble_eq_true rfl) (by decide) (b := 27) rfl (fun v12 I9 J10 q11 => ?_)
      obtain ⟨rfl, rfl, rfl⟩ := q11
      refine rc_p (p_bipush (v := 6) (dk_at ktX7_isRecord_0 15 rfl) (by decide) (b := 29) rfl) ?_
      refine r_icmp_eq (dk_at ktX7_isRecord_0 16 rfl) (b := 36) (by decide) (b2 := 32) rfl (fun c29 => ?_) (fun c29 => ?_)
      · skip
        refine rc_p (p_iconst (v := 0) (dk_at ktX7_isRecord_0 19 rfl) (by decide) (b := 37) rfl) ?_
        refine r_iret (dk_at ktX7_isRecord_0 20 rfl) rfl rfl ⟨_, rfl, ?_⟩
        refine ⟨?_, rfl, rfl⟩
        simp_all [recB, bi, Nat.pos_iff_ne_zero]
      · skip
        refine rc_p (p_iconst (v := 1) (dk_at ktX7_isRecord_0 17 rfl) (by decide) (b := 33) rfl) ?_
        refine rc_p (p_goto (b := 37) (dk_at ktX7_isRecord_0 18 rfl) (by decide)) ?_
        refine r_iret (dk_at ktX7_isRecord_0 20 rfl) rfl rfl ⟨_, rfl, ?_⟩
        refine ⟨?_, rfl, rfl⟩
        simp_all [recB, bi, Nat.pos_iff_ne_zero]
set_option maxRecDepth 4000 in
set_option maxHeartbeats 4000000 in
theorem s_X7_firstFree {n : Nat} {sh : mS} {G : mG} {I : mI} {J : mJ} {m : Nat} {σ : sT} (hm : ModG n sh G m) (hR : RelW (I (m + 1)) σ) (hI : Inv σ) (p : Nat) (hp : p < 2) : Sp yX7_firstFree cX7_firstFree 3 (some FieldType.int) 2 96 0 0 [.ref m, .int (nI p)] n sh G I J (Qi (fun r_ I_ J_ => nI (ffree σ p (nJ σ)) = r_ ∧ I = I_ ∧ J = J_)) nX := by
  refine Sp.of (by decide) (ls := [(0, .ref m), (1, .int (nI p))]) (fun _ => rfl) (fun _ => Nat.le_of_ble_eq_true rfl) ?_
  have cut7 : ∀ (t k : Nat), k < t → k ≤ nJ σ → ffree σ p (nJ σ) = ffree σ p k → Rc RX7 cX7_firstFree 3 (some FieldType.int) 2 96 0 0 n sh G (Qi (fun r_ I_ J_ => nI (ffree σ p (nJ σ)) = r_ ∧ I = I_ ∧ J = J_)) nX 0 0 7 [(2, .int (nI k)), (0, .ref m), (1, .int (nI p))] [] I J := by
    have hb := hI.bd
    intro t
    induction t
    · intro k h; omega
    rename_i t ih
    intro k ht h1 hx
    refine rc_p (p_iload_n 0 (dk_at ktX7_firstFree_0 5 rfl) rfl rfl (b := 8) rfl) ?_
    refine r_if_le (dk_at ktX7_firstFree_0 6 rfl) (b := 35) (by decide) (b2 := 11) rfl (fun c8 => ?_) (fun c8 => ?_)
    · have c8 : k ≤ 0 := (nI_leI (a := k) (b := 0) (by omega) (by omega)).mp c8
      refine rc_p (p_iload_n 0 (dk_at ktX7_firstFree_0 20 rfl) rfl rfl (b := 36) rfl) ?_
      refine r_iret (dk_at ktX7_firstFree_0 21 rfl) rfl rfl ⟨_, rfl, ?_⟩
      refine ⟨?_, rfl, rfl⟩
      rw [hx]; first | exact congrArg nI (ffree_e c26) | exact congrArg nI (ffree_0 (by omega))
    · have c8 : ¬ k ≤ 0 := fun h => c8 ((nI_leI (a := k) (b := 0) (by omega) (by omega)).mpr h)
      refine rc_p (p_aload_n 1 (dk_at ktX7_firstFree_0 7 rfl) rfl rfl (b := 12) rfl) ?_
      refine r_geta fl_X7_9 rfl hm.l0 hm.s0 (dk_at ktX7_firstFree_0 8 rfl) hm.g0_0 (b := 15) rfl ?_
      refine rc_p (p_iload_n 2 (dk_at ktX7_firstFree_0 9 rfl) rfl rfl (b := 16) rfl) ?_
      refine r_iS (As := [.int (nI p)]) (rest := [.ref (m + 1)]) (s_X7_pageAt p) cw_X7_216 qs_X7_pageAt (dk_at ktX7_firstFree_0 10 rfl) rfl rfl (Nat.le_of_ble_eq_true rfl) (by decide) (b := 19) rfl (fun v4 I1 J2 q3 => ?_)
      obtain ⟨rfl, rfl, rfl⟩ := q3
      refine rc_p (p_iload_n 0 (dk_at ktX7_firstFree_0 11 rfl) rfl rfl (b := 20) rfl) ?_
      refine rc_p (p_iadd (v := (nI (211 + 32 * p + k))) (dk_at ktX7_firstFree_0 12 rfl) (nI_add (211 + 32 * p) k) (b := 21) rfl) ?_
      refine rc_p (p_iconst (v := 1) (dk_at ktX7_firstFree_0 13 rfl) (by decide) (b := 22) rfl) ?_
      refine rc_p (p_isub (v := (nI (211 + 32 * p + k - 1))) (dk_at ktX7_firstFree_0 14 rfl) (pk_sub (a := 211 + 32 * p + k) (b := 1) (by omega)) (b := 23) rfl) ?_
      refine r_iald (j := 211 + 32 * p + k - 1) (hm.lt 1 (by decide)) hm.s1 (dk_at ktX7_firstFree_0 15 rfl) rfl ⟨by omega, by decide⟩ (v := (σ (211 + 32 * p + k - 1))) (hR.1 (211 + 32 * p + k - 1) (by omega)) (b := 24) rfl ?_
      refine rc_p (p_ldc (v := 65535) qk_TwinBootModel_49 (dk_at ktX7_firstFree_0 16 rfl) (b := 26) rfl) ?_
      refine r_icmp_ne (dk_at ktX7_firstFree_0 17 rfl) (b := 35) (by decide) (b2 := 29) rfl (fun c26 => ?_) (fun c26 => ?_)
      · skip
        refine rc_p (p_iload_n 0 (dk_at ktX7_firstFree_0 20 rfl) rfl rfl (b := 36) rfl) ?_
        refine r_iret (dk_at ktX7_firstFree_0 21 rfl) rfl rfl ⟨_, rfl, ?_⟩
        refine ⟨?_, rfl, rfl⟩
        rw [hx]; first | exact congrArg nI (ffree_e c26) | exact congrArg nI (ffree_0 (by omega))
      · skip
        refine rc_p (p_iinc (j := 0) (v := (nI (k - 1))) (ls' := [(2, .int (nI (k - 1))), (0, .ref m), (1, .int (nI p))]) (dk_at ktX7_firstFree_0 18 rfl) rfl (sb_m1 (p := k) (by omega)) (by decide) rfl (b := 32) rfl) ?_
        refine rc_p (p_goto (b := 7) (dk_at ktX7_firstFree_0 19 rfl) (by decide)) ?_
        exact ih (k - 1) (by omega) (by omega) (by rw [hx]; exact ffree_s (by omega) c26)
  have hb := hI.bd
  refine rc_p (p_aload_n 0 (dk_at ktX7_firstFree_0 0 rfl) rfl rfl (b := 1) rfl) ?_
  refine r_geta fl_X7_9 rfl hm.l0 hm.s0 (dk_at ktX7_firstFree_0 1 rfl) hm.g0_0 (b := 4) rfl ?_
  refine rc_p (p_iconst (v := 2) (dk_at ktX7_firstFree_0 2 rfl) (by decide) (b := 5) rfl) ?_
  refine r_iald (j := 2) (hm.lt 1 (by decide)) hm.s1 (dk_at ktX7_firstFree_0 3 rfl) rfl ⟨by decide, by decide⟩ (v := (nI (nJ σ))) ((hR.1 2 (by decide)).trans hI.w2) (b := 6) rfl ?_
  refine rc_p (p_istore_n (ls' := [(2, .int (nI (nJ σ))), (0, .ref m), (1, .int (nI p))]) (dk_at ktX7_firstFree_0 4 rfl) rfl (by decide) rfl (b := 7) rfl) ?_
  exact cut7 1000 _ (by omega) (Nat.le_refl _) rfl

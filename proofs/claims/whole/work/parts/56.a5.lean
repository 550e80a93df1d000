/-! THE REFERENCE: its calls, loops -/
set_option maxRecDepth 4000 in
set_option maxHeartbeats 4000000 in
theorem s_X7_wornOut {n : Nat} {sh : mS} {G : mG} {I : mI} {J : mJ} {m : Nat} {σ : sT} (hm : ModG n sh G m) (hR : RelW (I (m + 1)) σ) (hI : Inv σ) (s : Int32) : Sp yX7_wornOut cX7_wornOut 4 (some FieldType.int) 3 144 0 0 [.ref m, .int s] n sh G I J (Qi (fun r_ I_ J_ => (cIn s 0 1 = 0 → a_worn σ (tn s) = r_) ∧ I_ m 6 = cIn s 0 1 ∧ J = J_ ∧ RelW (I_ (m + 1)) (σ) ∧ FF m [1, 2, 8] [6, 18, 19, 20, 21, 22, 23, 24, 26, 27] I I_)) nX := by
  have hb := hI.bd
  rcases sl_n s with ⟨s, hs, rfl⟩ | hw
  · have hib : inI (nI s) 0 1 = true := sl_i hs
    have hts : tn (nI s) = s := tn_nI (by omega)
    refine Sp.of (by decide) (ls := [(0, .ref m), (1, .int (nI s))]) (fun _ => rfl) (fun _ => Nat.le_of_ble_eq_true rfl) ?_
    have cut14 : ∀ (Iz : mI), RelW (Iz (m + 1)) σ → Iz m 6 = 0 → FF m [1, 2, 8] [6, 18, 19, 20, 21, 22, 23, 24, 26, 27] I Iz → ∀ (t p : Nat) (y : Int32), nW σ / nP σ - p < t → p ≤ nW σ / nP σ → y = orL (wornF σ s) p → Rc RX7 cX7_wornOut 4 (some FieldType.int) 3 144 0 0 n sh G (Qi (fun r_ I_ J_ => (cIn (nI s) 0 1 = 0 → a_worn σ (tn (nI s)) = r_) ∧ I_ m 6 = cIn (nI s) 0 1 ∧ J = J_ ∧ RelW (I_ (m + 1)) (σ) ∧ FF m [1, 2, 8] [6, 18, 19, 20, 21, 22, 23, 24, 26, 27] I I_)) nX 0 0 14 [(2, .int y), (3, .int (nI p)), (0, .ref m), (1, .int (nI s))] [] Iz J := by
      intro Iz hRz h6z hFz t
      induction t
      · intro p y h; omega
      rename_i t ih
      intro p y ht h1 hx
      subst hx
      have hpg : pgN σ (nI s) = nW σ / nP σ := pgN_n (nI_ne2 hs)
      have h16 := pgN_16 hI (nI s)
      refine rc_p (p_iload_n 1 (dk_at ktX7_wornOut_0 10 rfl) rfl rfl (b := 15) rfl) ?_
      refine rc_p (p_aload_n 2 (dk_at ktX7_wornOut_0 11 rfl) rfl rfl (b := 16) rfl) ?_
      refine rc_p (p_iload_n 3 (dk_at ktX7_wornOut_0 12 rfl) rfl rfl (b := 17) rfl) ?_
      refine r_iV (As' := [.int (nI s)]) (rest := [.int (nI p)]) (s_X7_pagesOf hm (σ := σ) hRz hI (nI s)) cw_X7_365 qi_X7_pagesOf qv_X7_pagesOf rfl hm.l0 hm.s0 (dk_at ktX7_wornOut_0 13 rfl) rfl rfl (Nat.le_of_ble_eq_true rfl) (by decide) (b := 20) rfl (fun v4 I1 J2 q3 => ?_)
      obtain ⟨rfl, rfl, rfl⟩ := q3
      refine r_icmp_ge (dk_at ktX7_wornOut_0 14 rfl) (b := 72) (by decide) (b2 := 23) rfl (fun c20 => ?_) (fun c20 => ?_)
      · have c20 : (pgN σ (nI s)) ≤ p := (nI_leI (a := pgN σ (nI s)) (b := p) (by omega) (by omega)).mp c20
        refine rc_p (p_iload_n 0 (dk_at ktX7_wornOut_0 45 rfl) rfl rfl (b := 73) rfl) ?_
        refine r_iret (dk_at ktX7_wornOut_0 46 rfl) rfl rfl ⟨_, rfl, ?_⟩
        refine ⟨fun _ => ?_, ?_, rfl, hRz, hFz⟩
        · rw [hts, a_worn, show nW σ / nP σ = p by omega]
        · exact h6z.trans (cIn_t hib).symm
      · have c20 : ¬ (pgN σ (nI s)) ≤ p := fun h => c20 ((nI_leI (a := pgN σ (nI s)) (b := p) (by omega) (by omega)).mpr h)
        refine rc_p (p_iload_n 0 (dk_at ktX7_wornOut_0 15 rfl) rfl rfl (b := 24) rfl) ?_
        refine rc_p (p_aload_n 2 (dk_at ktX7_wornOut_0 16 rfl) rfl rfl (b := 25) rfl) ?_
        refine r_geta fl_X7_9 rfl hm.l0 hm.s0 (dk_at ktX7_wornOut_0 17 rfl) hm.g0_0 (b := 28) rfl ?_
        refine rc_p (p_iconst (v := 5) (dk_at ktX7_wornOut_0 18 rfl) (by decide) (b := 29) rfl) ?_
        refine r_iald (j := 5) (hm.lt 1 (by decide)) hm.s1 (dk_at ktX7_wornOut_0 19 rfl) rfl ⟨by decide, by decide⟩ (v := (σ 5)) (hRz.1 5 (by decide)) (b := 30) rfl ?_
        refine r_if_le (dk_at ktX7_wornOut_0 20 rfl) (b := 63) (by decide) (b2 := 33) rfl (fun c30 => ?_) (fun c30 => ?_)
        · skip
          refine rc_p (p_iconst (v := 0) (dk_at ktX7_wornOut_0 40 rfl) (by decide) (b := 64) rfl) ?_
          refine rc_p (p_ior (v := ((orL (wornF σ s) p) ||| 0)) (dk_at ktX7_wornOut_0 41 rfl) rfl (b := 65) rfl) ?_
          refine rc_p (p_istore_n (ls' := [(2, .int ((orL (wornF σ s) p) ||| 0)), (3, .int (nI p)), (0, .ref m), (1, .int (nI s))]) (dk_at ktX7_wornOut_0 42 rfl) rfl (by decide) rfl (b := 66) rfl) ?_
          refine rc_p (p_iinc (j := 1) (v := (nI (p + 1))) (ls' := [(3, .int (nI (p + 1))), (2, .int ((orL (wornF σ s) p) ||| 0)), (0, .ref m), (1, .int (nI s))]) (dk_at ktX7_wornOut_0 43 rfl) rfl (nI_add p 1) (by decide) rfl (b := 69) rfl) ?_
          refine rc_p (p_goto (b := 14) (dk_at ktX7_wornOut_0 44 rfl) (by decide)) ?_
          refine rc_sub [1, 0, 2, 3] (ls' := [(2, .int ((orL (wornF σ s) p) ||| 0)), (3, .int (nI (p + 1))), (0, .ref m), (1, .int (nI s))]) rfl ?_
          exact ih (p + 1) _ (by omega) (by omega) (by show _ = orL (wornF σ s) p ||| wornF σ s p; rw [wornF, if_neg (fun q => Int32.not_le.mpr q.1 c30)])
        · skip
          refine rc_p (p_aload_n 2 (dk_at ktX7_wornOut_0 21 rfl) rfl rfl (b := 34) rfl) ?_
          refine r_geta fl_X7_9 rfl hm.l0 hm.s0 (dk_at ktX7_wornOut_0 22 rfl) hm.g0_0 (b := 37) rfl ?_
          refine rc_p (p_sipush (v := 275) (dk_at ktX7_wornOut_0 23 rfl) (by decide) (b := 40) rfl) ?_
          refine rc_p (p_bipush (v := 16) (dk_at ktX7_wornOut_0 24 rfl) (by decide) (b := 42) rfl) ?_
          refine rc_p (p_iload_n 3 (dk_at ktX7_wornOut_0 25 rfl) rfl rfl (b := 43) rfl) ?_
          refine rc_p (p_imul (v := (nI (16 * s))) (dk_at ktX7_wornOut_0 26 rfl) (pk_mul 16 s) (b := 44) rfl) ?_
          refine rc_p (p_iadd (v := (nI (275 + (16 * s)))) (dk_at ktX7_wornOut_0 27 rfl) (nI_add 275 (16 * s)) (b := 45) rfl) ?_
          refine rc_p (p_iload_n 1 (dk_at ktX7_wornOut_0 28 rfl) rfl rfl (b := 46) rfl) ?_
          refine rc_p (p_iadd (v := (nI (275 + (16 * s) + p))) (dk_at ktX7_wornOut_0 29 rfl) (nI_add (275 + (16 * s)) p) (b := 47) rfl) ?_
          refine r_iald (j := 275 + (16 * s) + p) (hm.lt 1 (by decide)) hm.s1 (dk_at ktX7_wornOut_0 30 rfl) rfl ⟨by omega, by decide⟩ (v := (σ (275 + (16 * s) + p))) (hRz.1 (275 + (16 * s) + p) (by omega)) (b := 48) rfl ?_
          refine rc_p (p_aload_n 2 (dk_at ktX7_wornOut_0 31 rfl) rfl rfl (b := 49) rfl) ?_
          refine r_geta fl_X7_9 rfl hm.l0 hm.s0 (dk_at ktX7_wornOut_0 32 rfl) hm.g0_0 (b := 52) rfl ?_
          refine rc_p (p_iconst (v := 5) (dk_at ktX7_wornOut_0 33 rfl) (by decide) (b := 53) rfl) ?_
          refine r_iald (j := 5) (hm.lt 1 (by decide)) hm.s1 (dk_at ktX7_wornOut_0 34 rfl) rfl ⟨by decide, by decide⟩ (v := (σ 5)) (hRz.1 5 (by decide)) (b := 54) rfl ?_
          refine r_icmp_le (dk_at ktX7_wornOut_0 35 rfl) (b := 63) (by decide) (b2 := 57) rfl (fun c54 => ?_) (fun c54 => ?_)
          · skip
            refine rc_p (p_iconst (v := 0) (dk_at ktX7_wornOut_0 40 rfl) (by decide) (b := 64) rfl) ?_
            refine rc_p (p_ior (v := ((orL (wornF σ s) p) ||| 0)) (dk_at ktX7_wornOut_0 41 rfl) rfl (b := 65) rfl) ?_
            refine rc_p (p_istore_n (ls' := [(2, .int ((orL (wornF σ s) p) ||| 0)), (3, .int (nI p)), (0, .ref m), (1, .int (nI s))]) (dk_at ktX7_wornOut_0 42 rfl) rfl (by decide) rfl (b := 66) rfl) ?_
            refine rc_p (p_iinc (j := 1) (v := (nI (p + 1))) (ls' := [(3, .int (nI (p + 1))), (2, .int ((orL (wornF σ s) p) ||| 0)), (0, .ref m), (1, .int (nI s))]) (dk_at ktX7_wornOut_0 43 rfl) rfl (nI_add p 1) (by decide) rfl (b := 69) rfl) ?_
            refine rc_p (p_goto (b := 14) (dk_at ktX7_wornOut_0 44 rfl) (by decide)) ?_
            refine rc_sub [1, 0, 2, 3] (ls' := [(2, .int ((orL (wornF σ s) p) ||| 0)), (3, .int (nI (p + 1))), (0, .ref m), (1, .int (nI s))]) rfl ?_
            exact ih (p + 1) _ (by omega) (by omega) (by show _ = orL (wornF σ s) p ||| wornF σ s p; rw [wornF, if_neg (fun q => Int32.not_le.mpr q.2 c54)])
          · skip
            refine rc_p (p_iconst (v := 1) (dk_at ktX7_wornOut_0 36 rfl) (by decide) (b := 58) rfl) ?_
            refine rc_p (p_iload_n 1 (dk_at ktX7_wornOut_0 37 rfl) rfl rfl (b := 59) rfl) ?_
            refine rc_p (p_ishl (v := (1 <<< ((nI p) &&& 31))) (dk_at ktX7_wornOut_0 38 rfl) rfl (b := 60) rfl) ?_
            refine rc_p (p_goto (b := 64) (dk_at ktX7_wornOut_0 39 rfl) (by decide)) ?_
            refine rc_p (p_ior (v := ((orL (wornF σ s) p) ||| (1 <<< ((nI p) &&& 31)))) (dk_at ktX7_wornOut_0 41 rfl) rfl (b := 65) rfl) ?_
            refine rc_p (p_istore_n (ls' := [(2, .int ((orL (wornF σ s) p) ||| (1 <<< ((nI p) &&& 31)))), (3, .int (nI p)), (0, .ref m), (1, .int (nI s))]) (dk_at ktX7_wornOut_0 42 rfl) rfl (by decide) rfl (b := 66) rfl) ?_
            refine rc_p (p_iinc (j := 1) (v := (nI (p + 1))) (ls' := [(3, .int (nI (p + 1))), (2, .int ((orL (wornF σ s) p) ||| (1 <<< ((nI p) &&& 31)))), (0, .ref m), (1, .int (nI s))]) (dk_at ktX7_wornOut_0 43 rfl) rfl (nI_add p 1) (by decide) rfl (b := 69) rfl) ?_
            refine rc_p (p_goto (b := 14) (dk_at ktX7_wornOut_0 44 rfl) (by decide)) ?_
            refine rc_sub [1, 0, 2, 3] (ls' := [(2, .int ((orL (wornF σ s) p) ||| (1 <<< ((nI p) &&& 31)))), (3, .int (nI (p + 1))), (0, .ref m), (1, .int (nI s))]) rfl ?_
            exact ih (p + 1) _ (by omega) (by omega) (by show _ = orL (wornF σ s) p ||| wornF σ s p; rw [wornF, if_pos ⟨Int32.not_le.mp c30, Int32.not_le.mp c54⟩]; rfl)
    refine rc_p (p_aload_n 0 (dk_at ktX7_wornOut_0 0 rfl) rfl rfl (b := 1) rfl) ?_
    refine rc_p (p_iload_n 1 (dk_at ktX7_wornOut_0 1 rfl) rfl rfl (b := 2) rfl) ?_
    refine r_iV (As' := [.int (nI s)]) (rest := []) (s_X7_noOne hm (σ := σ) hR hI (nI s)) cw_X7_362 qi_X7_noOne qv_X7_noOne rfl hm.l0 hm.s0 (dk_at ktX7_wornOut_0 2 rfl) rfl rfl (Nat.le_of_ble_eq_true rfl) (by decide) (b := 5) rfl (fun v8 I5 J6 q7 => ?_)
    obtain ⟨rfl, rfl, hR9, hF10, h611⟩ := q7
    refine r_val (y := 0) (by rw [hib]; rfl) ?_
    have h612 : I5 m 6 = 0 := h611.trans (by rw [hib]; rfl)
    refine r_if_eq (dk_at ktX7_wornOut_0 3 rfl) (b := 10) (by decide) (b2 := 8) rfl (fun c5 => ?_) (fun c5 => ?_)
    · skip
      refine rc_p (p_iconst (v := 0) (dk_at ktX7_wornOut_0 6 rfl) (by decide) (b := 11) rfl) ?_
      refine rc_p (p_istore_n (ls' := [(2, .int 0), (0, .ref m), (1, .int (nI s))]) (dk_at ktX7_wornOut_0 7 rfl) rfl (by decide) rfl (b := 12) rfl) ?_
      refine rc_p (p_iconst (v := 0) (dk_at ktX7_wornOut_0 8 rfl) (by decide) (b := 13) rfl) ?_
      refine rc_p (p_istore_n (ls' := [(3, .int 0), (2, .int 0), (0, .ref m), (1, .int (nI s))]) (dk_at ktX7_wornOut_0 9 rfl) rfl (by decide) rfl (b := 14) rfl) ?_
      refine rc_sub [1, 0, 2, 3] (ls' := [(2, .int 0), (3, .int 0), (0, .ref m), (1, .int (nI s))]) rfl ?_
      exact cut14 I5 hR9 h612 (hF10.mo (by decide) (by decide)) (nW σ / nP σ + 1) 0 _ (Nat.lt_succ_self _) (Nat.zero_le _) rfl
    · first | exact absurd c5 (by decide) | exact absurd (by decide) c5
  · refine Sp.of (by decide) (ls := [(0, .ref m), (1, .int s)]) (fun _ => rfl) (fun _ => Nat.le_of_ble_eq_true rfl) ?_
    refine rc_p (p_aload_n 0 (dk_at ktX7_wornOut_0 0 rfl) rfl rfl (b := 1) rfl) ?_
    refine rc_p (p_iload_n 1 (dk_at ktX7_wornOut_0 1 rfl) rfl rfl (b := 2) rfl) ?_
    refine r_iV (As' := [.int s]) (rest := []) (s_X7_noOne hm (σ := σ) hR hI s) cw_X7_362 qi_X7_noOne qv_X7_noOne rfl hm.l0 hm.s0 (dk_at ktX7_wornOut_0 2 rfl) rfl rfl (Nat.le_of_ble_eq_true rfl) (by decide) (b := 5) rfl (fun v16 I13 J14 q15 => ?_)
    obtain ⟨rfl, rfl, hR17, hF18, h619⟩ := q15
    refine r_val (y := 1) (by rw [hw]; rfl) ?_
    have h620 : I13 m 6 = 1 := h619.trans (by rw [hw]; rfl)
    refine r_if_eq (dk_at ktX7_wornOut_0 3 rfl) (b := 10) (by decide) (b2 := 8) rfl (fun c5 => ?_) (fun c5 => ?_)
    · first | exact absurd c5 (by decide) | exact absurd (by decide) c5
    · skip
      refine rc_p (p_iconst (v := 0) (dk_at ktX7_wornOut_0 4 rfl) (by decide) (b := 9) rfl) ?_
      refine r_iret (dk_at ktX7_wornOut_0 5 rfl) rfl rfl ⟨_, rfl, ?_⟩
      refine ⟨fun hz => ?_, ?_, rfl, ?_, (hF18.mo (by decide) (by decide))⟩
      · exact absurd (hz.symm.trans (cIn_f hw)) (by decide)
      · exact Eq.trans h620 (by exact (cIn_f hw).symm)
      · exact hR17
set_option maxRecDepth 4000 in
set_option maxHeartbeats 4000000 in
theorem s_X7_verify {n : Nat} {sh : mS} {G : mG} {I : mI} {J : mJ} {m : Nat} {σ : sT} (hm : ModG n sh G m) (hR : RelW (I (m + 1)) σ) (hI : Inv σ) (s : Int32) : Sp yX7_verify cX7_verify 3 (some FieldType.int) 3 144 0 0 [.ref m, .int s] n sh G I J (Qi (fun r_ I_ J_ => (cIn s 0 1 = 0 → a_ver σ (tn s) = r_) ∧ I_ m 6 = cIn s 0 1 ∧ J = J_ ∧ RelW (I_ (m + 1)) (σ) ∧ FF m [1, 2, 8] [6, 18, 19, 20, 21, 22, 23, 24, 26, 27] I I_)) nX := by
  have hb := hI.bd
  rcases sl_n s with ⟨s, hs, rfl⟩ | hw
  · have hib : inI (nI s) 0 1 = true := sl_i hs
    have hts : tn (nI s) = s := tn_nI (by omega)
    refine Sp.of (by decide) (ls := [(0, .ref m), (1, .int (nI s))]) (fun _ => rfl) (fun _ => Nat.le_of_ble_eq_true rfl) ?_
    have cut12 : ∀ (Iz : mI), RelW (Iz (m + 1)) σ → Iz m 6 = 0 → FF m [1, 2, 8] [6, 18, 19, 20, 21, 22, 23, 24, 26, 27] I Iz → ∀ (t k : Nat), nS σ - k < t → k ≤ nS σ → a_ver σ s = fstI (verP σ s) (verE σ s) (nS σ - k) k → Rc RX7 cX7_verify 3 (some FieldType.int) 3 144 0 0 n sh G (Qi (fun r_ I_ J_ => (cIn (nI s) 0 1 = 0 → a_ver σ (tn (nI s)) = r_) ∧ I_ m 6 = cIn (nI s) 0 1 ∧ J = J_ ∧ RelW (I_ (m + 1)) (σ) ∧ FF m [1, 2, 8] [6, 18, 19, 20, 21, 22, 23, 24, 26, 27] I I_)) nX 0 0 12 [(2, .int (nI k)), (0, .ref m), (1, .int (nI s))] [] Iz J := by
      intro Iz hRz h6z hFz t
      induction t
      · intro k h; omega
      rename_i t ih
      intro k ht h1 hx
      refine rc_p (p_iload_n 0 (dk_at ktX7_verify_0 8 rfl) rfl rfl (b := 13) rfl) ?_
      refine rc_p (p_aload_n 1 (dk_at ktX7_verify_0 9 rfl) rfl rfl (b := 14) rfl) ?_
      refine r_geta fl_X7_9 rfl hm.l0 hm.s0 (dk_at ktX7_verify_0 10 rfl) hm.g0_0 (b := 17) rfl ?_
      refine rc_p (p_iconst (v := 4) (dk_at ktX7_verify_0 11 rfl) (by decide) (b := 18) rfl) ?_
      refine r_iald (j := 4) (hm.lt 1 (by decide)) hm.s1 (dk_at ktX7_verify_0 12 rfl) rfl ⟨by decide, by decide⟩ (v := (nI (nS σ))) ((hRz.1 4 (by decide)).trans hI.w4) (b := 19) rfl ?_
      refine r_icmp_ge (dk_at ktX7_verify_0 13 rfl) (b := 55) (by decide) (b2 := 22) rfl (fun c19 => ?_) (fun c19 => ?_)
      · have c19 : (nS σ) ≤ k := (nI_leI (a := nS σ) (b := k) (by omega) (by omega)).mp c19
        refine rc_p (p_aload_n 1 (dk_at ktX7_verify_0 34 rfl) rfl rfl (b := 56) rfl) ?_
        refine r_geta fl_X7_9 rfl hm.l0 hm.s0 (dk_at ktX7_verify_0 35 rfl) hm.g0_0 (b := 59) rfl ?_
        refine rc_p (p_iconst (v := 4) (dk_at ktX7_verify_0 36 rfl) (by decide) (b := 60) rfl) ?_
        refine r_iald (j := 4) (hm.lt 1 (by decide)) hm.s1 (dk_at ktX7_verify_0 37 rfl) rfl ⟨by decide, by decide⟩ (v := (σ 4)) ((show RelW (Iz (m + 1)) σ from hRz).1 4 (by decide)) (b := 61) rfl ?_
        refine rc_p (p_aload_n 1 (dk_at ktX7_verify_0 38 rfl) rfl rfl (b := 62) rfl) ?_
        refine r_geta fl_X7_9 rfl hm.l0 hm.s0 (dk_at ktX7_verify_0 39 rfl) hm.g0_0 (b := 65) rfl ?_
        refine rc_p (p_iload_n 2 (dk_at ktX7_verify_0 40 rfl) rfl rfl (b := 66) rfl) ?_
        refine r_iS (As := [.int (nI s)]) (rest := [.ref (m + 1), .int (σ 4)]) (s_X7_slotAt s) cw_X7_197 qs_X7_slotAt (dk_at ktX7_verify_0 41 rfl) rfl rfl (Nat.le_of_ble_eq_true rfl) (by decide) (b := 69) rfl (fun v4 I1 J2 q3 => ?_)
        obtain ⟨rfl, rfl, rfl⟩ := q3
        refine rc_p (p_iconst (v := 1) (dk_at ktX7_verify_0 42 rfl) (by decide) (b := 70) rfl) ?_
        refine rc_p (p_iadd (v := (nI (83 + 64 * s + 1))) (dk_at ktX7_verify_0 43 rfl) (nI_add (83 + 64 * s) 1) (b := 71) rfl) ?_
        refine r_iald (j := 83 + 64 * s + 1) (hm.lt 1 (by decide)) hm.s1 (dk_at ktX7_verify_0 44 rfl) rfl ⟨by omega, by decide⟩ (v := (σ (83 + 64 * s + 1))) (hRz.1 (83 + 64 * s + 1) (by omega)) (b := 72) rfl ?_
        refine r_icmp_ne (dk_at ktX7_verify_0 45 rfl) (b := 79) (by decide) (b2 := 75) rfl (fun c72 => ?_) (fun c72 => ?_)
        · skip
          refine rc_p (p_aload_n 1 (dk_at ktX7_verify_0 48 rfl) rfl rfl (b := 80) rfl) ?_
          refine r_geta fl_X7_9 rfl hm.l0 hm.s0 (dk_at ktX7_verify_0 49 rfl) hm.g0_0 (b := 83) rfl ?_
          refine rc_p (p_iconst (v := 4) (dk_at ktX7_verify_0 50 rfl) (by decide) (b := 84) rfl) ?_
          refine r_iald (j := 4) (hm.lt 1 (by decide)) hm.s1 (dk_at ktX7_verify_0 51 rfl) rfl ⟨by decide, by decide⟩ (v := (σ 4)) ((show RelW (Iz (m + 1)) σ from hRz).1 4 (by decide)) (b := 85) rfl ?_
          refine r_iret (dk_at ktX7_verify_0 52 rfl) rfl rfl ⟨_, rfl, ?_⟩
          refine ⟨fun _ => ?_, ?_, rfl, hRz, hFz⟩
          · rw [hts, hx, fst_e (by omega), verE, if_neg c72]
          · exact h6z.trans (cIn_t hib).symm
        · skip
          refine rc_p (p_iconst (v := (-1)) (dk_at ktX7_verify_0 46 rfl) (by decide) (b := 76) rfl) ?_
          refine rc_p (p_goto (b := 85) (dk_at ktX7_verify_0 47 rfl) (by decide)) ?_
          refine r_iret (dk_at ktX7_verify_0 52 rfl) rfl rfl ⟨_, rfl, ?_⟩
          refine ⟨fun _ => ?_, ?_, rfl, hRz, hFz⟩
          · rw [hts, hx, fst_e (by omega), verE, if_pos c72]
          · exact h6z.trans (cIn_t hib).symm
      · have c19 : ¬ (nS σ) ≤ k := fun h => c19 ((nI_leI (a := nS σ) (b := k) (by omega) (by omega)).mpr h)
        refine rc_p (p_aload_n 1 (dk_at ktX7_verify_0 14 rfl) rfl rfl (b := 23) rfl) ?_
        refine r_geta fl_X7_9 rfl hm.l0 hm.s0 (dk_at ktX7_verify_0 15 rfl) hm.g0_0 (b := 26) rfl ?_
        refine rc_p (p_bipush (v := 19) (dk_at ktX7_verify_0 16 rfl) (by decide) (b := 28) rfl) ?_
        refine rc_p (p_iload_n 0 (dk_at ktX7_verify_0 17 rfl) rfl rfl (b := 29) rfl) ?_
        refine rc_p (p_iadd (v := (nI (19 + k))) (dk_at ktX7_verify_0 18 rfl) (nI_add 19 k) (b := 30) rfl) ?_
        refine r_iald (j := 19 + k) (hm.lt 1 (by decide)) hm.s1 (dk_at ktX7_verify_0 19 rfl) rfl ⟨by omega, by decide⟩ (v := (σ (19 + k))) (hRz.1 (19 + k) (by omega)) (b := 31) rfl ?_
        refine rc_p (p_aload_n 1 (dk_at ktX7_verify_0 20 rfl) rfl rfl (b := 32) rfl) ?_
        refine r_geta fl_X7_9 rfl hm.l0 hm.s0 (dk_at ktX7_verify_0 21 rfl) hm.g0_0 (b := 35) rfl ?_
        refine rc_p (p_iload_n 2 (dk_at ktX7_verify_0 22 rfl) rfl rfl (b := 36) rfl) ?_
        refine r_iS (As := [.int (nI s)]) (rest := [.ref (m + 1), .int (σ (19 + k))]) (s_X7_slotAt s) cw_X7_197 qs_X7_slotAt (dk_at ktX7_verify_0 23 rfl) rfl rfl (Nat.le_of_ble_eq_true rfl) (by decide) (b := 39) rfl (fun v8 I5 J6 q7 => ?_)
        obtain ⟨rfl, rfl, rfl⟩ := q7
        refine rc_p (p_iconst (v := 3) (dk_at ktX7_verify_0 24 rfl) (by decide) (b := 40) rfl) ?_
        refine rc_p (p_iadd (v := (nI (83 + 64 * s + 3))) (dk_at ktX7_verify_0 25 rfl) (nI_add (83 + 64 * s) 3) (b := 41) rfl) ?_
        refine rc_p (p_iload_n 0 (dk_at ktX7_verify_0 26 rfl) rfl rfl (b := 42) rfl) ?_
        refine rc_p (p_iadd (v := (nI (83 + 64 * s + 3 + k))) (dk_at ktX7_verify_0 27 rfl) (nI_add (83 + 64 * s + 3) k) (b := 43) rfl) ?_
        refine r_iald (j := 83 + 64 * s + 3 + k) (hm.lt 1 (by decide)) hm.s1 (dk_at ktX7_verify_0 28 rfl) rfl ⟨by omega, by decide⟩ (v := (σ (83 + 64 * s + 3 + k))) (hRz.1 (83 + 64 * s + 3 + k) (by omega)) (b := 44) rfl ?_
        refine r_icmp_eq (dk_at ktX7_verify_0 29 rfl) (b := 49) (by decide) (b2 := 47) rfl (fun c44 => ?_) (fun c44 => ?_)
        · skip
          refine rc_p (p_iinc (j := 0) (v := (nI (k + 1))) (ls' := [(2, .int (nI (k + 1))), (0, .ref m), (1, .int (nI s))]) (dk_at ktX7_verify_0 32 rfl) rfl (nI_add k 1) (by decide) rfl (b := 52) rfl) ?_
          refine rc_p (p_goto (b := 12) (dk_at ktX7_verify_0 33 rfl) (by decide)) ?_
          exact ih (k + 1) (by omega) (by omega) (hx.trans (fst_n (by omega) (by unfold verP; rw [decide_eq_true c44]; rfl)))
        · skip
          refine rc_p (p_iload_n 0 (dk_at ktX7_verify_0 30 rfl) rfl rfl (b := 48) rfl) ?_
          refine r_iret (dk_at ktX7_verify_0 31 rfl) rfl rfl ⟨_, rfl, ?_⟩
          refine ⟨fun _ => ?_, ?_, rfl, hRz, hFz⟩
          · rw [hts, hx]; exact fst_y (by omega) (by unfold verP; rw [decide_eq_false c44]; rfl)
          · exact h6z.trans (cIn_t hib).symm
    refine rc_p (p_aload_n 0 (dk_at ktX7_verify_0 0 rfl) rfl rfl (b := 1) rfl) ?_
    refine rc_p (p_iload_n 1 (dk_at ktX7_verify_0 1 rfl) rfl rfl (b := 2) rfl) ?_
    refine r_iV (As' := [.int (nI s)]) (rest := []) (s_X7_noOne hm (σ := σ) hR hI (nI s)) cw_X7_362 qi_X7_noOne qv_X7_noOne rfl hm.l0 hm.s0 (dk_at ktX7_verify_0 2 rfl) rfl rfl (Nat.le_of_ble_eq_true rfl) (by decide) (b := 5) rfl (fun v12 I9 J10 q11 => ?_)
    obtain ⟨rfl, rfl, hR13, hF14, h615⟩ := q11
    refine r_val (y := 0) (by rw [hib]; rfl) ?_
    have h616 : I9 m 6 = 0 := h615.trans (by rw [hib]; rfl)
    refine r_if_eq (dk_at ktX7_verify_0 3 rfl) (b := 10) (by decide) (b2 := 8) rfl (fun c5 => ?_) (fun c5 => ?_)
    · skip
      refine rc_p (p_iconst (v := 0) (dk_at ktX7_verify_0 6 rfl) (by decide) (b := 11) rfl) ?_
      refine rc_p (p_istore_n (ls' := [(2, .int 0), (0, .ref m), (1, .int (nI s))]) (dk_at ktX7_verify_0 7 rfl) rfl (by decide) rfl (b := 12) rfl) ?_
      exact cut12 I9 hR13 h616 (hF14.mo (by decide) (by decide)) 1000 0 (by omega) (Nat.zero_le _) rfl
    · first | exact absurd c5 (by decide) | exact absurd (by decide) c5
  · refine Sp.of (by decide) (ls := [(0, .ref m), (1, .int s)]) (fun _ => rfl) (fun _ => Nat.le_of_ble_eq_true rfl) ?_
    refine rc_p (p_aload_n 0 (dk_at ktX7_verify_0 0 rfl) rfl rfl (b := 1) rfl) ?_
    refine rc_p (p_iload_n 1 (dk_at ktX7_verify_0 1 rfl) rfl rfl (b := 2) rfl) ?_
    refine r_iV (As' := [.int s]) (rest := []) (s_X7_noOne hm (σ := σ) hR hI s) cw_X7_362 qi_X7_noOne qv_X7_noOne rfl hm.l0 hm.s0 (dk_at ktX7_verify_0 2 rfl) rfl rfl (Nat.le_of_ble_eq_true rfl) (by decide) (b := 5) rfl (fun v20 I17 J18 q19 => ?_)
    obtain ⟨rfl, rfl, hR21, hF22, h623⟩ := q19
    refine r_val (y := 1) (by rw [hw]; rfl) ?_
    have h624 : I17 m 6 = 1 := h623.trans (by rw [hw]; rfl)
    refine r_if_eq (dk_at ktX7_verify_0 3 rfl) (b := 10) (by decide) (b2 := 8) rfl (fun c5 => ?_) (fun c5 => ?_)
    · first | exact absurd c5 (by decide) | exact absurd (by decide) c5
    · skip
      refine rc_p (p_iconst (v := 0) (dk_at ktX7_verify_0 4 rfl) (by decide) (b := 9) rfl) ?_
      refine r_iret (dk_at ktX7_verify_0 5 rfl) rfl rfl ⟨_, rfl, ?_⟩
      refine ⟨fun hz => ?_, ?_, rfl, ?_, (hF22.mo (by decide) (by decide))⟩
      · exact absurd (hz.symm.trans (cIn_f hw)) (by decide)
      · exact Eq.trans h624 (by exact (cIn_f hw).symm)
      · exact hR21
set_option maxRecDepth 4000 in
set_option maxHeartbeats 4000000 in
theorem s_X7_mostWorn {n : Nat} {sh : mS} {G : mG} {I : mI} {J : mJ} {m : Nat} {σ : sT} (hm : ModG n sh G m) (hR : RelW (I (m + 1)) σ) (hI : Inv σ) : Sp yX7_mostWorn cX7_mostWorn 6 (some FieldType.int) 3 144 0 0 [.ref m] n sh G I J (Qi (fun r_ I_ J_ => (0 = 0 → (mwAr σ 3).1 = r_) ∧ I_ m 6 = 0 ∧ J = J_ ∧ RelW (I_ (m + 1)) (σ) ∧ FF m [1, 2, 8] [6, 18, 19, 20, 21, 22, 23, 24, 26, 27] I I_)) nX := by
  have hb := hI.bd
  refine Sp.of (by decide) (ls := [(0, .ref m)]) (fun _ => rfl) (fun _ => Nat.le_of_ble_eq_true rfl) ?_
  have cut19 : ∀ (Iz : mI), RelW (Iz (m + 1)) σ → Iz m 6 = 0 → FF m [1, 2, 8] [6, 18, 19, 20, 21, 22, 23, 24, 26, 27] I Iz → ∀ (t a : Nat), (∀ (a : Nat) (x : Int32 × Int32), 3 - a < t → a ≤ 3 → x = mwAr σ a → Rc RX7 cX7_mostWorn 6 (some FieldType.int) 3 144 0 0 n sh G (Qi (fun r_ I_ J_ => (0 = 0 → (mwAr σ 3).1 = r_) ∧ I_ m 6 = 0 ∧ J = J_ ∧ RelW (I_ (m + 1)) (σ) ∧ FF m [1, 2, 8] [6, 18, 19, 20, 21, 22, 23, 24, 26, 27] I I_)) nX 0 0 11 [(1, .int x.1), (2, .int x.2), (3, .int (nI a)), (0, .ref m)] [] Iz J) → (a < 3 ∧ 3 - (a + 1) < t) → ∀ (u p : Nat) (x : Int32 × Int32), pgN σ (nI a) - p < u → p ≤ pgN σ (nI a) → mwPg σ a p (mwAr σ a) = x → Rc RX7 cX7_mostWorn 6 (some FieldType.int) 3 144 0 0 n sh G (Qi (fun r_ I_ J_ => (0 = 0 → (mwAr σ 3).1 = r_) ∧ I_ m 6 = 0 ∧ J = J_ ∧ RelW (I_ (m + 1)) (σ) ∧ FF m [1, 2, 8] [6, 18, 19, 20, 21, 22, 23, 24, 26, 27] I I_)) nX 0 0 19 [(1, .int x.1), (2, .int x.2), (4, .int (nI p)), (3, .int (nI a)), (0, .ref m)] [] Iz J := by
    intro Iz hRz h6z hFz t a iha ha u
    induction u
    · intro p x h; omega
    rename_i u ih
    intro p x hu h1 hx
    have h16 := pgN_16 hI (nI a)
    have hbd : p < pgN σ (nI a) → 275 + 16 * a + p < 309 := pg_bd hI ha.1
    refine rc_p (p_iload 2 (dk_at ktX7_mostWorn_0 14 rfl) rfl (b := 21) rfl) ?_
    refine rc_p (p_aload_n 4 (dk_at ktX7_mostWorn_0 15 rfl) rfl rfl (b := 22) rfl) ?_
    refine rc_p (p_iload_n 3 (dk_at ktX7_mostWorn_0 16 rfl) rfl rfl (b := 23) rfl) ?_
    refine r_iV (As' := [.int (nI a)]) (rest := [.int (nI p)]) (s_X7_pagesOf hm (σ := σ) hRz hI (nI a)) cw_X7_365 qi_X7_pagesOf qv_X7_pagesOf rfl hm.l0 hm.s0 (dk_at ktX7_mostWorn_0 17 rfl) rfl rfl (Nat.le_of_ble_eq_true rfl) (by decide) (b := 26) rfl (fun v4 I1 J2 q3 => ?_)
    obtain ⟨rfl, rfl, rfl⟩ := q3
    refine r_icmp_ge (dk_at ktX7_mostWorn_0 18 rfl) (b := 73) (by decide) (b2 := 29) rfl (fun c26 => ?_) (fun c26 => ?_)
    · have c26 : (pgN σ (nI a)) ≤ p := (nI_leI (a := pgN σ (nI a)) (b := p) (by omega) (by omega)).mp c26
      refine rc_p (p_iinc (j := 3) (v := (nI (a + 1))) (ls' := [(3, .int (nI (a + 1))), (1, .int x.1), (2, .int x.2), (4, .int (nI p)), (0, .ref m)]) (dk_at ktX7_mostWorn_0 44 rfl) rfl (nI_add a 1) (by decide) rfl (b := 76) rfl) ?_
      refine rc_p (p_goto (b := 11) (dk_at ktX7_mostWorn_0 45 rfl) (by decide)) ?_
      refine rc_sub [1, 2, 0, 4] (ls' := [(1, .int x.1), (2, .int x.2), (3, .int (nI (a + 1))), (0, .ref m)]) rfl ?_
      exact iha (a + 1) _ (by omega) (by omega) (by show _ = mwPg σ a (pgN σ (nI a)) (mwAr σ a); rw [← hx, show pgN σ (nI a) = p by omega])
    · have c26 : ¬ (pgN σ (nI a)) ≤ p := fun h => c26 ((nI_leI (a := pgN σ (nI a)) (b := p) (by omega) (by omega)).mpr h)
      have hbd := hbd (by omega)
      refine rc_p (p_aload_n 4 (dk_at ktX7_mostWorn_0 19 rfl) rfl rfl (b := 30) rfl) ?_
      refine r_geta fl_X7_9 rfl hm.l0 hm.s0 (dk_at ktX7_mostWorn_0 20 rfl) hm.g0_0 (b := 33) rfl ?_
      refine rc_p (p_sipush (v := 275) (dk_at ktX7_mostWorn_0 21 rfl) (by decide) (b := 36) rfl) ?_
      refine rc_p (p_bipush (v := 16) (dk_at ktX7_mostWorn_0 22 rfl) (by decide) (b := 38) rfl) ?_
      refine rc_p (p_iload_n 3 (dk_at ktX7_mostWorn_0 23 rfl) rfl rfl (b := 39) rfl) ?_
      refine rc_p (p_imul (v := (nI (16 * a))) (dk_at ktX7_mostWorn_0 24 rfl) (pk_mul 16 a) (b := 40) rfl) ?_
      refine rc_p (p_iadd (v := (nI (275 + (16 * a)))) (dk_at ktX7_mostWorn_0 25 rfl) (nI_add 275 (16 * a)) (b := 41) rfl) ?_
      refine rc_p (p_iload 2 (dk_at ktX7_mostWorn_0 26 rfl) rfl (b := 43) rfl) ?_
      refine rc_p (p_iadd (v := (nI (275 + (16 * a) + p))) (dk_at ktX7_mostWorn_0 27 rfl) (nI_add (275 + (16 * a)) p) (b := 44) rfl) ?_
      refine r_iald (j := 275 + (16 * a) + p) (hm.lt 1 (by decide)) hm.s1 (dk_at ktX7_mostWorn_0 28 rfl) rfl ⟨by omega, by decide⟩ (v := (σ (275 + (16 * a) + p))) (hRz.1 (275 + (16 * a) + p) (by omega)) (b := 45) rfl ?_
      refine rc_p (p_istore (ls' := [(5, .int (σ (275 + (16 * a) + p))), (1, .int x.1), (2, .int x.2), (4, .int (nI p)), (3, .int (nI a)), (0, .ref m)]) (dk_at ktX7_mostWorn_0 29 rfl) (by decide) rfl (b := 47) rfl) ?_
      refine rc_p (p_iload 0 (dk_at ktX7_mostWorn_0 30 rfl) rfl (b := 49) rfl) ?_
      refine rc_p (p_iload_n 2 (dk_at ktX7_mostWorn_0 31 rfl) rfl rfl (b := 50) rfl) ?_
      refine r_icmp_gt (dk_at ktX7_mostWorn_0 32 rfl) (b := 56) (by decide) (b2 := 53) rfl (fun c50 => ?_) (fun c50 => ?_)
      · skip
        refine rc_p (p_bipush (v := 100) (dk_at ktX7_mostWorn_0 34 rfl) (by decide) (b := 58) rfl) ?_
        refine rc_p (p_iload_n 4 (dk_at ktX7_mostWorn_0 35 rfl) rfl rfl (b := 59) rfl) ?_
        refine rc_p (p_imul (v := (nI (100 * a))) (dk_at ktX7_mostWorn_0 36 rfl) (pk_mul 100 a) (b := 60) rfl) ?_
        refine rc_p (p_iload 3 (dk_at ktX7_mostWorn_0 37 rfl) rfl (b := 62) rfl) ?_
        refine rc_p (p_iadd (v := (nI (100 * a + p))) (dk_at ktX7_mostWorn_0 38 rfl) (nI_add (100 * a) p) (b := 63) rfl) ?_
        refine rc_p (p_istore_n (ls' := [(1, .int (nI (100 * a + p))), (5, .int (σ (275 + (16 * a) + p))), (2, .int x.2), (4, .int (nI p)), (3, .int (nI a)), (0, .ref m)]) (dk_at ktX7_mostWorn_0 39 rfl) rfl (by decide) rfl (b := 64) rfl) ?_
        refine rc_p (p_iload 1 (dk_at ktX7_mostWorn_0 40 rfl) rfl (b := 66) rfl) ?_
        refine rc_p (p_istore_n (ls' := [(2, .int (σ (275 + (16 * a) + p))), (1, .int (nI (100 * a + p))), (5, .int (σ (275 + (16 * a) + p))), (4, .int (nI p)), (3, .int (nI a)), (0, .ref m)]) (dk_at ktX7_mostWorn_0 41 rfl) rfl (by decide) rfl (b := 67) rfl) ?_
        refine rc_p (p_iinc (j := 3) (v := (nI (p + 1))) (ls' := [(4, .int (nI (p + 1))), (2, .int (σ (275 + (16 * a) + p))), (1, .int (nI (100 * a + p))), (5, .int (σ (275 + (16 * a) + p))), (3, .int (nI a)), (0, .ref m)]) (dk_at ktX7_mostWorn_0 42 rfl) rfl (nI_add p 1) (by decide) rfl (b := 70) rfl) ?_
        refine rc_p (p_goto (b := 19) (dk_at ktX7_mostWorn_0 43 rfl) (by decide)) ?_
        refine rc_sub [2, 1, 0, 4, 5] (ls' := [(1, .int (nI (100 * a + p))), (2, .int (σ (275 + (16 * a) + p))), (4, .int (nI (p + 1))), (3, .int (nI a)), (0, .ref m)]) rfl ?_
        exact ih (p + 1) (nI (100 * a + p), σ (275 + 16 * a + p)) (by omega) (by omega) (mw_y hx c50)
      · skip
        refine rc_p (p_goto (b := 67) (dk_at ktX7_mostWorn_0 33 rfl) (by decide)) ?_
        refine rc_p (p_iinc (j := 3) (v := (nI (p + 1))) (ls' := [(4, .int (nI (p + 1))), (5, .int (σ (275 + (16 * a) + p))), (1, .int x.1), (2, .int x.2), (3, .int (nI a)), (0, .ref m)]) (dk_at ktX7_mostWorn_0 42 rfl) rfl (nI_add p 1) (by decide) rfl (b := 70) rfl) ?_
        refine rc_p (p_goto (b := 19) (dk_at ktX7_mostWorn_0 43 rfl) (by decide)) ?_
        refine rc_sub [2, 3, 0, 4, 5] (ls' := [(1, .int x.1), (2, .int x.2), (4, .int (nI (p + 1))), (3, .int (nI a)), (0, .ref m)]) rfl ?_
        exact ih (p + 1) x (by omega) (by omega) (mw_n hx c50)
  have cut11 : ∀ (Iz : mI), RelW (Iz (m + 1)) σ → Iz m 6 = 0 → FF m [1, 2, 8] [6, 18, 19, 20, 21, 22, 23, 24, 26, 27] I Iz → ∀ (t a : Nat) (x : Int32 × Int32), 3 - a < t → a ≤ 3 → x = mwAr σ a → Rc RX7 cX7_mostWorn 6 (some FieldType.int) 3 144 0 0 n sh G (Qi (fun r_ I_ J_ => (0 = 0 → (mwAr σ 3).1 = r_) ∧ I_ m 6 = 0 ∧ J = J_ ∧ RelW (I_ (m + 1)) (σ) ∧ FF m [1, 2, 8] [6, 18, 19, 20, 21, 22, 23, 24, 26, 27] I I_)) nX 0 0 11 [(1, .int x.1), (2, .int x.2), (3, .int (nI a)), (0, .ref m)] [] Iz J := by
    intro Iz hRz h6z hFz t
    induction t
    · intro a x h; omega
    rename_i t iha
    intro a x ht h1 hx
    refine rc_p (p_iload_n 2 (dk_at ktX7_mostWorn_0 9 rfl) rfl rfl (b := 12) rfl) ?_
    refine rc_p (p_iconst (v := 2) (dk_at ktX7_mostWorn_0 10 rfl) (by decide) (b := 13) rfl) ?_
    refine r_icmp_gt (dk_at ktX7_mostWorn_0 11 rfl) (b := 79) (by decide) (b2 := 16) rfl (fun c13 => ?_) (fun c13 => ?_)
    · have c13 : 2 < a := (nI_ltI (a := 2) (b := a) (by omega) (by omega)).mp c13
      refine rc_p (p_iload_n 0 (dk_at ktX7_mostWorn_0 46 rfl) rfl rfl (b := 80) rfl) ?_
      refine r_iret (dk_at ktX7_mostWorn_0 47 rfl) rfl rfl ⟨_, rfl, ?_⟩
      refine ⟨fun _ => ?_, ?_, rfl, hRz, hFz⟩
      · rw [hx, show a = 3 by omega]
      · exact h6z
    · have c13 : ¬ 2 < a := fun h => c13 ((nI_ltI (a := 2) (b := a) (by omega) (by omega)).mpr h)
      refine rc_p (p_iconst (v := 0) (dk_at ktX7_mostWorn_0 12 rfl) (by decide) (b := 17) rfl) ?_
      refine rc_p (p_istore (ls' := [(4, .int 0), (1, .int x.1), (2, .int x.2), (3, .int (nI a)), (0, .ref m)]) (dk_at ktX7_mostWorn_0 13 rfl) (by decide) rfl (b := 19) rfl) ?_
      refine rc_sub [1, 2, 0, 3, 4] (ls' := [(1, .int x.1), (2, .int x.2), (4, .int 0), (3, .int (nI a)), (0, .ref m)]) rfl ?_
      exact cut19 Iz hRz h6z hFz t a iha (by omega) (pgN σ (nI a) + 1) 0 _ (by omega) (Nat.zero_le _) hx.symm
  refine rc_p (p_aload_n 0 (dk_at ktX7_mostWorn_0 0 rfl) rfl rfl (b := 1) rfl) ?_
  refine rc_p (p_iconst (v := 0) (dk_at ktX7_mostWorn_0 1 rfl) (by decide) (b := 2) rfl) ?_
  refine r_puti fl_X7_46 fw_X7_6 rfl hm.l0 hm.s0 rfl rfl (dk_at ktX7_mostWorn_0 2 rfl) (b := 5) rfl ?_
  refine rc_p (p_iconst (v := 0) (dk_at ktX7_mostWorn_0 3 rfl) (by decide) (b := 6) rfl) ?_
  refine rc_p (p_istore_n (ls' := [(1, .int 0), (0, .ref m)]) (dk_at ktX7_mostWorn_0 4 rfl) rfl (by decide) rfl (b := 7) rfl) ?_
  refine rc_p (p_iconst (v := (-1)) (dk_at ktX7_mostWorn_0 5 rfl) (by decide) (b := 8) rfl) ?_
  refine rc_p (p_istore_n (ls' := [(2, .int (-1)), (1, .int 0), (0, .ref m)]) (dk_at ktX7_mostWorn_0 6 rfl) rfl (by decide) rfl (b := 9) rfl) ?_
  refine rc_p (p_iconst (v := 0) (dk_at ktX7_mostWorn_0 7 rfl) (by decide) (b := 10) rfl) ?_
  refine rc_p (p_istore_n (ls' := [(3, .int 0), (2, .int (-1)), (1, .int 0), (0, .ref m)]) (dk_at ktX7_mostWorn_0 8 rfl) rfl (by decide) rfl (b := 11) rfl) ?_
  refine rc_sub [2, 1, 0, 3] (ls' := [(1, .int 0), (2, .int (-1)), (3, .int 0), (0, .ref m)]) rfl ?_
  exact cut11 (up2 I m 6 0) (by rw [up2_off (by omega)]; exact hR) up2_s (FF.uf FF.rf (by decide)) 1000 0 _ (by omega) (by omega) rfl
set_option maxRecDepth 4000 in
set_option maxHeartbeats 4000000 in
theorem s_X7_differentWords {n : Nat} {sh : mS} {G : mG} {I : mI} {J : mJ} {m : Nat} {σ : sT} (hm : ModG n sh G m) (hR : RelW (I (m + 1)) σ) (hI : Inv σ) (s : Int32) : Sp yX7_differentWords cX7_differentWords 7 (some FieldType.int) 5 240 0 0 [.ref m, .int s] n sh G I J (Qi (fun r_ I_ J_ => (cIn s 0 1 = 0 → a_dw σ (tn s) = r_) ∧ I_ m 6 = cIn s 0 1 ∧ J = J_ ∧ RelW (I_ (m + 1)) (σ) ∧ FF m [1, 2, 8] [6, 18, 19, 20, 21, 22, 23, 24, 26, 27] I I_)) nX := by
  have hb := hI.bd
  rcases sl_n s with ⟨s, hs, rfl⟩ | hw
  · have hib : inI (nI s) 0 1 = true := sl_i hs
    have hts : tn (nI s) = s := tn_nI (by omega)
    refine Sp.of (by decide) (ls := [(0, .ref m), (1, .int (nI s))]) (fun _ => rfl) (fun _ => Nat.le_of_ble_eq_true rfl) ?_
    have cut52 : wholeB σ s = true → ∀ (Iz : mI), RelW (Iz (m + 1)) σ → Iz m 6 = 0 → FF m [1, 2, 8] [6, 18, 19, 20, 21, 22, 23, 24, 26, 27] I Iz → ∀ (t k : Nat), (∀ (k : Nat) (y : Int32), tn (σ (83 + 64 * s + 1)) - k < t → k ≤ tn (σ (83 + 64 * s + 1)) → y = sumL (dwF σ s) 0 k → Rc RX7 cX7_differentWords 7 (some FieldType.int) 5 240 0 0 n sh G (Qi (fun r_ I_ J_ => (cIn (nI s) 0 1 = 0 → a_dw σ (tn (nI s)) = r_) ∧ I_ m 6 = cIn (nI s) 0 1 ∧ J = J_ ∧ RelW (I_ (m + 1)) (σ) ∧ FF m [1, 2, 8] [6, 18, 19, 20, 21, 22, 23, 24, 26, 27] I I_)) nX 0 0 30 [(3, .int y), (4, .int (nI k)), (2, .int (nI (83 + 64 * s + 3))), (0, .ref m), (1, .int (nI s))] [] Iz J) → (k < tn (σ (83 + 64 * s + 1)) ∧ tn (σ (83 + 64 * s + 1)) - (k + 1) < t) → ∀ (u i : Nat) (z : Int32), k - i < u → i ≤ k → z = (bi (!(anyB (fun i => decide (σ (83 + 64 * s + 3 + i) = σ (83 + 64 * s + 3 + k))) i))) → Rc RX7 cX7_differentWords 7 (some FieldType.int) 5 240 0 0 n sh G (Qi (fun r_ I_ J_ => (cIn (nI s) 0 1 = 0 → a_dw σ (tn (nI s)) = r_) ∧ I_ m 6 = cIn (nI s) 0 1 ∧ J = J_ ∧ RelW (I_ (m + 1)) (σ) ∧ FF m [1, 2, 8] [6, 18, 19, 20, 21, 22, 23, 24, 26, 27] I I_)) nX 0 0 52 [(5, .int z), (6, .int (nI i)), (3, .int (sumL (dwF σ s) 0 k)), (4, .int (nI k)), (2, .int (nI (83 + 64 * s + 3))), (0, .ref m), (1, .int (nI s))] [] Iz J := by
      intro hwh Iz hRz h6z hFz t k iho ha u
      have hts2 := toldB_n hb.2.1 (wholeB_n hwh)
      induction u
      · intro i z h; omega
      rename_i u ih
      intro i z hu h1 hx
      subst hx
      refine rc_p (p_iload 1 (dk_at ktX7_differentWords_0 32 rfl) rfl (b := 54) rfl) ?_
      refine rc_p (p_iload 3 (dk_at ktX7_differentWords_0 33 rfl) rfl (b := 56) rfl) ?_
      refine r_icmp_ge (dk_at ktX7_differentWords_0 34 rfl) (b := 98) (by decide) (b2 := 59) rfl (fun c56 => ?_) (fun c56 => ?_)
      · have c56 : k ≤ i := (nI_leI (a := k) (b := i) (by omega) (by omega)).mp c56
        refine rc_p (p_iload_n 2 (dk_at ktX7_differentWords_0 56 rfl) rfl rfl (b := 99) rfl) ?_
        refine rc_p (p_iload 0 (dk_at ktX7_differentWords_0 57 rfl) rfl (b := 101) rfl) ?_
        refine r_if_eq (dk_at ktX7_differentWords_0 58 rfl) (b := 108) (by decide) (b2 := 104) rfl (fun c101 => ?_) (fun c101 => ?_)
        · have c101 := bi_f c101
          refine rc_p (p_iconst (v := 0) (dk_at ktX7_differentWords_1 1 rfl) (by decide) (b := 109) rfl) ?_
          refine rc_p (p_iadd (v := ((sumL (dwF σ s) 0 k) + 0)) (dk_at ktX7_differentWords_1 2 rfl) rfl (b := 110) rfl) ?_
          refine rc_p (p_istore_n (ls' := [(3, .int ((sumL (dwF σ s) 0 k) + 0)), (5, .int (bi (!(anyB (fun i => decide (σ (83 + 64 * s + 3 + i) = σ (83 + 64 * s + 3 + k))) i)))), (6, .int (nI i)), (4, .int (nI k)), (2, .int (nI (83 + 64 * s + 3))), (0, .ref m), (1, .int (nI s))]) (dk_at ktX7_differentWords_1 3 rfl) rfl (by decide) rfl (b := 111) rfl) ?_
          refine rc_p (p_iinc (j := 3) (v := (nI (k + 1))) (ls' := [(4, .int (nI (k + 1))), (3, .int ((sumL (dwF σ s) 0 k) + 0)), (5, .int (bi (!(anyB (fun i => decide (σ (83 + 64 * s + 3 + i) = σ (83 + 64 * s + 3 + k))) i)))), (6, .int (nI i)), (2, .int (nI (83 + 64 * s + 3))), (0, .ref m), (1, .int (nI s))]) (dk_at ktX7_differentWords_1 4 rfl) rfl (nI_add k 1) (by decide) rfl (b := 114) rfl) ?_
          refine rc_p (p_goto (b := 30) (dk_at ktX7_differentWords_1 5 rfl) (by decide)) ?_
          refine rc_sub [1, 0, 4, 5, 6] (ls' := [(3, .int ((sumL (dwF σ s) 0 k) + 0)), (4, .int (nI (k + 1))), (2, .int (nI (83 + 64 * s + 3))), (0, .ref m), (1, .int (nI s))]) rfl ?_
          have hk : i = k := by omega
          subst hk
          exact iho (i + 1) _ (by omega) (by omega) (by rw [sumL_s (Nat.zero_le _)]; congr 1; unfold dwF; rw [if_pos (by simpa using c101)])
        · have c101 := bi_t c101
          refine rc_p (p_iconst (v := 1) (dk_at ktX7_differentWords_0 59 rfl) (by decide) (b := 105) rfl) ?_
          refine rc_p (p_goto (b := 109) (dk_at ktX7_differentWords_1 0 rfl) (by decide)) ?_
          refine rc_p (p_iadd (v := ((sumL (dwF σ s) 0 k) + 1)) (dk_at ktX7_differentWords_1 2 rfl) rfl (b := 110) rfl) ?_
          refine rc_p (p_istore_n (ls' := [(3, .int ((sumL (dwF σ s) 0 k) + 1)), (5, .int (bi (!(anyB (fun i => decide (σ (83 + 64 * s + 3 + i) = σ (83 + 64 * s + 3 + k))) i)))), (6, .int (nI i)), (4, .int (nI k)), (2, .int (nI (83 + 64 * s + 3))), (0, .ref m), (1, .int (nI s))]) (dk_at ktX7_differentWords_1 3 rfl) rfl (by decide) rfl (b := 111) rfl) ?_
          refine rc_p (p_iinc (j := 3) (v := (nI (k + 1))) (ls' := [(4, .int (nI (k + 1))), (3, .int ((sumL (dwF σ s) 0 k) + 1)), (5, .int (bi (!(anyB (fun i => decide (σ (83 + 64 * s + 3 + i) = σ (83 + 64 * s + 3 + k))) i)))), (6, .int (nI i)), (2, .int (nI (83 + 64 * s + 3))), (0, .ref m), (1, .int (nI s))]) (dk_at ktX7_differentWords_1 4 rfl) rfl (nI_add k 1) (by decide) rfl (b := 114) rfl) ?_
          refine rc_p (p_goto (b := 30) (dk_at ktX7_differentWords_1 5 rfl) (by decide)) ?_
          refine rc_sub [1, 0, 4, 5, 6] (ls' := [(3, .int ((sumL (dwF σ s) 0 k) + 1)), (4, .int (nI (k + 1))), (2, .int (nI (83 + 64 * s + 3))), (0, .ref m), (1, .int (nI s))]) rfl ?_
          have hk : i = k := by omega
          subst hk
          exact iho (i + 1) _ (by omega) (by omega) (by rw [sumL_s (Nat.zero_le _)]; congr 1; unfold dwF; rw [if_neg (by simpa using c101)])
      · have c56 : ¬ k ≤ i := fun h => c56 ((nI_leI (a := k) (b := i) (by omega) (by omega)).mpr h)
        refine rc_p (p_iload 0 (dk_at ktX7_differentWords_0 35 rfl) rfl (b := 61) rfl) ?_
        refine r_if_eq (dk_at ktX7_differentWords_0 36 rfl) (b := 89) (by decide) (b2 := 64) rfl (fun c61 => ?_) (fun c61 => ?_)
        · have c61 := bi_f c61
          refine rc_p (p_iconst (v := 0) (dk_at ktX7_differentWords_0 52 rfl) (by decide) (b := 90) rfl) ?_
          refine rc_p (p_istore (ls' := [(5, .int 0), (6, .int (nI i)), (3, .int (sumL (dwF σ s) 0 k)), (4, .int (nI k)), (2, .int (nI (83 + 64 * s + 3))), (0, .ref m), (1, .int (nI s))]) (dk_at ktX7_differentWords_0 53 rfl) (by decide) rfl (b := 92) rfl) ?_
          refine rc_p (p_iinc (j := 1) (v := (nI (i + 1))) (ls' := [(6, .int (nI (i + 1))), (5, .int 0), (3, .int (sumL (dwF σ s) 0 k)), (4, .int (nI k)), (2, .int (nI (83 + 64 * s + 3))), (0, .ref m), (1, .int (nI s))]) (dk_at ktX7_differentWords_0 54 rfl) rfl (nI_add i 1) (by decide) rfl (b := 95) rfl) ?_
          refine rc_p (p_goto (b := 52) (dk_at ktX7_differentWords_0 55 rfl) (by decide)) ?_
          refine rc_sub [1, 0, 2, 3, 4, 5, 6] (ls' := [(5, .int 0), (6, .int (nI (i + 1))), (3, .int (sumL (dwF σ s) 0 k)), (4, .int (nI k)), (2, .int (nI (83 + 64 * s + 3))), (0, .ref m), (1, .int (nI s))]) rfl ?_
          exact ih (i + 1) _ (by omega) (by omega) (by show _ = bi (!(anyB (fun i => decide (σ (83 + 64 * s + 3 + i) = σ (83 + 64 * s + 3 + k))) i || decide (σ (83 + 64 * s + 3 + i) = σ (83 + 64 * s + 3 + k)))); rw [show anyB (fun i => decide (σ (83 + 64 * s + 3 + i) = σ (83 + 64 * s + 3 + k))) i = true by simpa using c61]; rfl)
        · have c61 := bi_t c61
          refine rc_p (p_aload_n 5 (dk_at ktX7_differentWords_0 37 rfl) rfl rfl (b := 65) rfl) ?_
          refine r_geta fl_X7_9 rfl hm.l0 hm.s0 (dk_at ktX7_differentWords_0 38 rfl) hm.g0_0 (b := 68) rfl ?_
          refine rc_p (p_iload_n 4 (dk_at ktX7_differentWords_0 39 rfl) rfl rfl (b := 69) rfl) ?_
          refine rc_p (p_iload 1 (dk_at ktX7_differentWords_0 40 rfl) rfl (b := 71) rfl) ?_
          refine rc_p (p_iadd (v := (nI (83 + 64 * s + 3 + i))) (dk_at ktX7_differentWords_0 41 rfl) (nI_add (83 + 64 * s + 3) i) (b := 72) rfl) ?_
          refine r_iald (j := 83 + 64 * s + 3 + i) (hm.lt 1 (by decide)) hm.s1 (dk_at ktX7_differentWords_0 42 rfl) rfl ⟨by omega, by decide⟩ (v := (σ (83 + 64 * s + 3 + i))) (hRz.1 (83 + 64 * s + 3 + i) (by omega)) (b := 73) rfl ?_
          refine rc_p (p_aload_n 5 (dk_at ktX7_differentWords_0 43 rfl) rfl rfl (b := 74) rfl) ?_
          refine r_geta fl_X7_9 rfl hm.l0 hm.s0 (dk_at ktX7_differentWords_0 44 rfl) hm.g0_0 (b := 77) rfl ?_
          refine rc_p (p_iload_n 4 (dk_at ktX7_differentWords_0 45 rfl) rfl rfl (b := 78) rfl) ?_
          refine rc_p (p_iload 3 (dk_at ktX7_differentWords_0 46 rfl) rfl (b := 80) rfl) ?_
          refine rc_p (p_iadd (v := (nI (83 + 64 * s + 3 + k))) (dk_at ktX7_differentWords_0 47 rfl) (nI_add (83 + 64 * s + 3) k) (b := 81) rfl) ?_
          refine r_iald (j := 83 + 64 * s + 3 + k) (hm.lt 1 (by decide)) hm.s1 (dk_at ktX7_differentWords_0 48 rfl) rfl ⟨by omega, by decide⟩ (v := (σ (83 + 64 * s + 3 + k))) (hRz.1 (83 + 64 * s + 3 + k) (by omega)) (b := 82) rfl ?_
          refine r_icmp_eq (dk_at ktX7_differentWords_0 49 rfl) (b := 89) (by decide) (b2 := 85) rfl (fun c82 => ?_) (fun c82 => ?_)
          · skip
            refine rc_p (p_iconst (v := 0) (dk_at ktX7_differentWords_0 52 rfl) (by decide) (b := 90) rfl) ?_
            refine rc_p (p_istore (ls' := [(5, .int 0), (6, .int (nI i)), (3, .int (sumL (dwF σ s) 0 k)), (4, .int (nI k)), (2, .int (nI (83 + 64 * s + 3))), (0, .ref m), (1, .int (nI s))]) (dk_at ktX7_differentWords_0 53 rfl) (by decide) rfl (b := 92) rfl) ?_
            refine rc_p (p_iinc (j := 1) (v := (nI (i + 1))) (ls' := [(6, .int (nI (i + 1))), (5, .int 0), (3, .int (sumL (dwF σ s) 0 k)), (4, .int (nI k)), (2, .int (nI (83 + 64 * s + 3))), (0, .ref m), (1, .int (nI s))]) (dk_at ktX7_differentWords_0 54 rfl) rfl (nI_add i 1) (by decide) rfl (b := 95) rfl) ?_
            refine rc_p (p_goto (b := 52) (dk_at ktX7_differentWords_0 55 rfl) (by decide)) ?_
            refine rc_sub [1, 0, 2, 3, 4, 5, 6] (ls' := [(5, .int 0), (6, .int (nI (i + 1))), (3, .int (sumL (dwF σ s) 0 k)), (4, .int (nI k)), (2, .int (nI (83 + 64 * s + 3))), (0, .ref m), (1, .int (nI s))]) rfl ?_
            exact ih (i + 1) _ (by omega) (by omega) (by show _ = bi (!(anyB (fun i => decide (σ (83 + 64 * s + 3 + i) = σ (83 + 64 * s + 3 + k))) i || decide (σ (83 + 64 * s + 3 + i) = σ (83 + 64 * s + 3 + k)))); rw [show anyB (fun i => decide (σ (83 + 64 * s + 3 + i) = σ (83 + 64 * s + 3 + k))) i = false by simpa using c61]; simp [c82, bi])
          · skip
            refine rc_p (p_iconst (v := 1) (dk_at ktX7_differentWords_0 50 rfl) (by decide) (b := 86) rfl) ?_
            refine rc_p (p_goto (b := 90) (dk_at ktX7_differentWords_0 51 rfl) (by decide)) ?_
            refine rc_p (p_istore (ls' := [(5, .int 1), (6, .int (nI i)), (3, .int (sumL (dwF σ s) 0 k)), (4, .int (nI k)), (2, .int (nI (83 + 64 * s + 3))), (0, .ref m), (1, .int (nI s))]) (dk_at ktX7_differentWords_0 53 rfl) (by decide) rfl (b := 92) rfl) ?_
            refine rc_p (p_iinc (j := 1) (v := (nI (i + 1))) (ls' := [(6, .int (nI (i + 1))), (5, .int 1), (3, .int (sumL (dwF σ s) 0 k)), (4, .int (nI k)), (2, .int (nI (83 + 64 * s + 3))), (0, .ref m), (1, .int (nI s))]) (dk_at ktX7_differentWords_0 54 rfl) rfl (nI_add i 1) (by decide) rfl (b := 95) rfl) ?_
            refine rc_p (p_goto (b := 52) (dk_at ktX7_differentWords_0 55 rfl) (by decide)) ?_
            refine rc_sub [1, 0, 2, 3, 4, 5, 6] (ls' := [(5, .int 1), (6, .int (nI (i + 1))), (3, .int (sumL (dwF σ s) 0 k)), (4, .int (nI k)), (2, .int (nI (83 + 64 * s + 3))), (0, .ref m), (1, .int (nI s))]) rfl ?_
            exact ih (i + 1) _ (by omega) (by omega) (by show _ = bi (!(anyB (fun i => decide (σ (83 + 64 * s + 3 + i) = σ (83 + 64 * s + 3 + k))) i || decide (σ (83 + 64 * s + 3 + i) = σ (83 + 64 * s + 3 + k)))); rw [show anyB (fun i => decide (σ (83 + 64 * s + 3 + i) = σ (83 + 64 * s + 3 + k))) i = false by simpa using c61]; simp [c82, bi])
    have cut30 : wholeB σ s = true → ∀ (Iz : mI), RelW (Iz (m + 1)) σ → Iz m 6 = 0 → FF m [1, 2, 8] [6, 18, 19, 20, 21, 22, 23, 24, 26, 27] I Iz → ∀ (t k : Nat) (y : Int32), tn (σ (83 + 64 * s + 1)) - k < t → k ≤ tn (σ (83 + 64 * s + 1)) → y = sumL (dwF σ s) 0 k → Rc RX7 cX7_differentWords 7 (some FieldType.int) 5 240 0 0 n sh G (Qi (fun r_ I_ J_ => (cIn (nI s) 0 1 = 0 → a_dw σ (tn (nI s)) = r_) ∧ I_ m 6 = cIn (nI s) 0 1 ∧ J = J_ ∧ RelW (I_ (m + 1)) (σ) ∧ FF m [1, 2, 8] [6, 18, 19, 20, 21, 22, 23, 24, 26, 27] I I_)) nX 0 0 30 [(3, .int y), (4, .int (nI k)), (2, .int (nI (83 + 64 * s + 3))), (0, .ref m), (1, .int (nI s))] [] Iz J := by
      intro hwh Iz hRz h6z hFz t
      have hts2 := toldB_n hb.2.1 (wholeB_n hwh)
      induction t
      · intro k y h; omega
      rename_i t iho
      intro k y ht h1 hx
      subst hx
      refine rc_p (p_iload 1 (dk_at ktX7_differentWords_0 19 rfl) rfl (b := 32) rfl) ?_
      refine rc_p (p_aload_n 3 (dk_at ktX7_differentWords_0 20 rfl) rfl rfl (b := 33) rfl) ?_
      refine r_geta fl_X7_9 rfl hm.l0 hm.s0 (dk_at ktX7_differentWords_0 21 rfl) hm.g0_0 (b := 36) rfl ?_
      refine rc_p (p_iload_n 4 (dk_at ktX7_differentWords_0 22 rfl) rfl rfl (b := 37) rfl) ?_
      refine r_iS (As := [.int (nI s)]) (rest := [.ref (m + 1), .int (nI k)]) (s_X7_slotAt s) cw_X7_197 qs_X7_slotAt (dk_at ktX7_differentWords_0 23 rfl) rfl rfl (Nat.le_of_ble_eq_true rfl) (by decide) (b := 40) rfl (fun v4 I1 J2 q3 => ?_)
      obtain ⟨rfl, rfl, rfl⟩ := q3
      refine rc_p (p_iconst (v := 1) (dk_at ktX7_differentWords_0 24 rfl) (by decide) (b := 41) rfl) ?_
      refine rc_p (p_iadd (v := (nI (83 + 64 * s + 1))) (dk_at ktX7_differentWords_0 25 rfl) (nI_add (83 + 64 * s) 1) (b := 42) rfl) ?_
      refine r_iald (j := 83 + 64 * s + 1) (hm.lt 1 (by decide)) hm.s1 (dk_at ktX7_differentWords_0 26 rfl) rfl ⟨by omega, by decide⟩ (v := (nI (tn (σ (83 + 64 * s + 1))))) (((show RelW (Iz (m + 1)) σ from hRz).1 (83 + 64 * s + 1) (by omega)).trans hts2.1) (b := 43) rfl ?_
      refine r_icmp_ge (dk_at ktX7_differentWords_0 27 rfl) (b := 117) (by decide) (b2 := 46) rfl (fun c43 => ?_) (fun c43 => ?_)
      · have c43 : (tn (σ (83 + 64 * s + 1))) ≤ k := (nI_leI (a := tn (σ (83 + 64 * s + 1))) (b := k) (by omega) (by omega)).mp c43
        refine rc_p (p_iload_n 0 (dk_at ktX7_differentWords_1 6 rfl) rfl rfl (b := 118) rfl) ?_
        refine r_iret (dk_at ktX7_differentWords_1 7 rfl) rfl rfl ⟨_, rfl, ?_⟩
        refine ⟨fun _ => ?_, ?_, rfl, hRz, hFz⟩
        · rw [hts, a_dw, if_pos hwh, show tn (σ (83 + 64 * s + 1)) = k by omega]
        · exact h6z.trans (cIn_t hib).symm
      · have c43 : ¬ (tn (σ (83 + 64 * s + 1))) ≤ k := fun h => c43 ((nI_leI (a := tn (σ (83 + 64 * s + 1))) (b := k) (by omega) (by omega)).mpr h)
        refine rc_p (p_iconst (v := 1) (dk_at ktX7_differentWords_0 28 rfl) (by decide) (b := 47) rfl) ?_
        refine rc_p (p_istore (ls' := [(5, .int 1), (3, .int (sumL (dwF σ s) 0 k)), (4, .int (nI k)), (2, .int (nI (83 + 64 * s + 3))), (0, .ref m), (1, .int (nI s))]) (dk_at ktX7_differentWords_0 29 rfl) (by decide) rfl (b := 49) rfl) ?_
        refine rc_p (p_iconst (v := 0) (dk_at ktX7_differentWords_0 30 rfl) (by decide) (b := 50) rfl) ?_
        refine rc_p (p_istore (ls' := [(6, .int 0), (5, .int 1), (3, .int (sumL (dwF σ s) 0 k)), (4, .int (nI k)), (2, .int (nI (83 + 64 * s + 3))), (0, .ref m), (1, .int (nI s))]) (dk_at ktX7_differentWords_0 31 rfl) (by decide) rfl (b := 52) rfl) ?_
        refine rc_sub [1, 0, 2, 3, 4, 5, 6] (ls' := [(5, .int 1), (6, .int 0), (3, .int (sumL (dwF σ s) 0 k)), (4, .int (nI k)), (2, .int (nI (83 + 64 * s + 3))), (0, .ref m), (1, .int (nI s))]) rfl ?_
        exact cut52 hwh Iz hRz h6z hFz t k iho (by omega) (k + 1) 0 _ (by omega) (Nat.zero_le _) rfl
    refine rc_p (p_aload_n 0 (dk_at ktX7_differentWords_0 0 rfl) rfl rfl (b := 1) rfl) ?_
    refine rc_p (p_iload_n 1 (dk_at ktX7_differentWords_0 1 rfl) rfl rfl (b := 2) rfl) ?_
    refine r_iV (As' := [.int (nI s)]) (rest := []) (s_X7_noOne hm (σ := σ) hR hI (nI s)) cw_X7_362 qi_X7_noOne qv_X7_noOne rfl hm.l0 hm.s0 (dk_at ktX7_differentWords_0 2 rfl) rfl rfl (Nat.le_of_ble_eq_true rfl) (by decide) (b := 5) rfl (fun v8 I5 J6 q7 => ?_)
    obtain ⟨rfl, rfl, hR9, hF10, h611⟩ := q7
    refine r_val (y := 0) (by rw [hib]; rfl) ?_
    have h612 : I5 m 6 = 0 := h611.trans (by rw [hib]; rfl)
    refine r_if_ne (dk_at ktX7_differentWords_0 3 rfl) (b := 16) (by decide) (b2 := 8) rfl (fun c5 => ?_) (fun c5 => ?_)
    · first | exact absurd c5 (by decide) | exact absurd (by decide) c5
    · skip
      refine rc_p (p_aload_n 0 (dk_at ktX7_differentWords_0 4 rfl) rfl rfl (b := 9) rfl) ?_
      refine rc_p (p_iload_n 1 (dk_at ktX7_differentWords_0 5 rfl) rfl rfl (b := 10) rfl) ?_
      refine r_iV (As' := [.int (nI s)]) (rest := []) (s_X7_wholeAt hm (σ := σ) hR9 hI s (by omega)) cw_X7_185 qi_X7_wholeAt qv_X7_wholeAt rfl hm.l0 hm.s0 (dk_at ktX7_differentWords_0 6 rfl) rfl rfl (Nat.le_of_ble_eq_true rfl) (by decide) (b := 13) rfl (fun v16 I13 J14 q15 => ?_)
      obtain ⟨rfl, rfl, rfl⟩ := q15
      refine r_if_ne (dk_at ktX7_differentWords_0 7 rfl) (b := 18) (by decide) (b2 := 16) rfl (fun c13 => ?_) (fun c13 => ?_)
      · have c13 := bi_t c13
        refine rc_p (p_iload_n 1 (dk_at ktX7_differentWords_0 10 rfl) rfl rfl (b := 19) rfl) ?_
        refine r_iS (As := [.int (nI s)]) (rest := []) (s_X7_slotAt s) cw_X7_197 qs_X7_slotAt (dk_at ktX7_differentWords_0 11 rfl) rfl rfl (Nat.le_of_ble_eq_true rfl) (by decide) (b := 22) rfl (fun v20 I17 J18 q19 => ?_)
        obtain ⟨rfl, rfl, rfl⟩ := q19
        refine rc_p (p_iconst (v := 3) (dk_at ktX7_differentWords_0 12 rfl) (by decide) (b := 23) rfl) ?_
        refine rc_p (p_iadd (v := (nI (83 + 64 * s + 3))) (dk_at ktX7_differentWords_0 13 rfl) (nI_add (83 + 64 * s) 3) (b := 24) rfl) ?_
        refine rc_p (p_istore_n (ls' := [(2, .int (nI (83 + 64 * s + 3))), (0, .ref m), (1, .int (nI s))]) (dk_at ktX7_differentWords_0 14 rfl) rfl (by decide) rfl (b := 25) rfl) ?_
        refine rc_p (p_iconst (v := 0) (dk_at ktX7_differentWords_0 15 rfl) (by decide) (b := 26) rfl) ?_
        refine rc_p (p_istore_n (ls' := [(3, .int 0), (2, .int (nI (83 + 64 * s + 3))), (0, .ref m), (1, .int (nI s))]) (dk_at ktX7_differentWords_0 16 rfl) rfl (by decide) rfl (b := 27) rfl) ?_
        refine rc_p (p_iconst (v := 0) (dk_at ktX7_differentWords_0 17 rfl) (by decide) (b := 28) rfl) ?_
        refine rc_p (p_istore (ls' := [(4, .int 0), (3, .int 0), (2, .int (nI (83 + 64 * s + 3))), (0, .ref m), (1, .int (nI s))]) (dk_at ktX7_differentWords_0 18 rfl) (by decide) rfl (b := 30) rfl) ?_
        refine rc_sub [1, 0, 2, 3, 4] (ls' := [(3, .int 0), (4, .int 0), (2, .int (nI (83 + 64 * s + 3))), (0, .ref m), (1, .int (nI s))]) rfl ?_
        exact cut30 c13 I5 hR9 h612 (hF10.mo (by decide) (by decide)) (tn (σ (83 + 64 * s + 1)) + 1) 0 _ (by omega) (Nat.zero_le _) rfl
      · have c13 := bi_f c13
        refine rc_p (p_iconst (v := 0) (dk_at ktX7_differentWords_0 8 rfl) (by decide) (b := 17) rfl) ?_
        refine r_iret (dk_at ktX7_differentWords_0 9 rfl) rfl rfl ⟨_, rfl, ?_⟩
        refine ⟨fun hz => ?_, ?_, rfl, ?_, (hF10.mo (by decide) (by decide))⟩
        · rw [hts, a_dw, if_neg (by rw [c13]; decide)]
        · exact Eq.trans h612 (by exact (cIn_t hib).symm)
        · exact hR9
  · refine Sp.of (by decide) (ls := [(0, .ref m), (1, .int s)]) (fun _ => rfl) (fun _ => Nat.le_of_ble_eq_true rfl) ?_
    refine rc_p (p_aload_n 0 (dk_at ktX7_differentWords_0 0 rfl) rfl rfl (b := 1) rfl) ?_
    refine rc_p (p_iload_n 1 (dk_at ktX7_differentWords_0 1 rfl) rfl rfl (b := 2) rfl) ?_
    refine r_iV (As' := [.int s]) (rest := []) (s_X7_noOne hm (σ := σ) hR hI s) cw_X7_362 qi_X7_noOne qv_X7_noOne rfl hm.l0 hm.s0 (dk_at ktX7_differentWords_0 2 rfl) rfl rfl (Nat.le_of_ble_eq_true rfl) (by decide) (b := 5) rfl (fun v24 I21 J22 q23 => ?_)
    obtain ⟨rfl, rfl, hR25, hF26, h627⟩ := q23
    refine r_val (y := 1) (by rw [hw]; rfl) ?_
    have h628 : I21 m 6 = 1 := h627.trans (by rw [hw]; rfl)
    refine r_if_ne (dk_at ktX7_differentWords_0 3 rfl) (b := 16) (by decide) (b2 := 8) rfl (fun c5 => ?_) (fun c5 => ?_)
    · skip
      refine rc_p (p_iconst (v := 0) (dk_at ktX7_differentWords_0 8 rfl) (by decide) (b := 17) rfl) ?_
      refine r_iret (dk_at ktX7_differentWords_0 9 rfl) rfl rfl ⟨_, rfl, ?_⟩
      refine ⟨fun hz => ?_, ?_, rfl, ?_, (hF26.mo (by decide) (by decide))⟩
      · exact absurd (hz.symm.trans (cIn_f hw)) (by decide)
      · exact Eq.trans h628 (by exact (cIn_f hw).symm)
      · exact hR25
    · first | exact absurd c5 (by decide) | exact absurd (by decide) c5
set_option maxRecDepth 4000 in
set_option maxHeartbeats 4000000 in
theorem s_X7_differences {n : Nat} {sh : mS} {G : mG} {I : mI} {J : mJ} {m : Nat} {σ : sT} (hm : ModG n sh G m) (hR : RelW (I (m + 1)) σ) (hI : Inv σ) : Sp yX7_differences cX7_differences 3 (some FieldType.int) 3 144 0 0 [.ref m] n sh G I J (Qi (fun r_ I_ J_ => (0 = 0 → a_df σ = r_) ∧ I_ m 6 = 0 ∧ J = J_ ∧ RelW (I_ (m + 1)) (σ) ∧ FF m [1, 2, 8] [6, 18, 19, 20, 21, 22, 23, 24, 26, 27] I I_)) nX := by
  have hb := hI.bd
  refine Sp.of (by decide) (ls := [(0, .ref m)]) (fun _ => rfl) (fun _ => Nat.le_of_ble_eq_true rfl) ?_
  have cut9 : ∀ (Iz : mI), RelW (Iz (m + 1)) σ → Iz m 6 = 0 → FF m [1, 2, 8] [6, 18, 19, 20, 21, 22, 23, 24, 26, 27] I Iz → ∀ (t k : Nat) (y : Int32), nW σ - k < t → k ≤ nW σ → y = sumL (dfF σ) 0 k → Rc RX7 cX7_differences 3 (some FieldType.int) 3 144 0 0 n sh G (Qi (fun r_ I_ J_ => (0 = 0 → a_df σ = r_) ∧ I_ m 6 = 0 ∧ J = J_ ∧ RelW (I_ (m + 1)) (σ) ∧ FF m [1, 2, 8] [6, 18, 19, 20, 21, 22, 23, 24, 26, 27] I I_)) nX 0 0 9 [(1, .int y), (2, .int (nI k)), (0, .ref m)] [] Iz J := by
    intro Iz hRz h6z hFz t
    induction t
    · intro k y h; omega
    rename_i t ih
    intro k y ht h1 hx
    subst hx
    refine rc_p (p_iload_n 1 (dk_at ktX7_differences_0 7 rfl) rfl rfl (b := 10) rfl) ?_
    refine rc_p (p_aload_n 2 (dk_at ktX7_differences_0 8 rfl) rfl rfl (b := 11) rfl) ?_
    refine r_geta fl_X7_9 rfl hm.l0 hm.s0 (dk_at ktX7_differences_0 9 rfl) hm.g0_0 (b := 14) rfl ?_
    refine rc_p (p_iconst (v := 0) (dk_at ktX7_differences_0 10 rfl) (by decide) (b := 15) rfl) ?_
    refine r_iald (j := 0) (hm.lt 1 (by decide)) hm.s1 (dk_at ktX7_differences_0 11 rfl) rfl ⟨by decide, by decide⟩ (v := (nI (nW σ))) ((hRz.1 0 (by decide)).trans hI.w0) (b := 16) rfl ?_
    refine r_icmp_ge (dk_at ktX7_differences_0 12 rfl) (b := 58) (by decide) (b2 := 19) rfl (fun c16 => ?_) (fun c16 => ?_)
    · have c16 : (nW σ) ≤ k := (nI_leI (a := nW σ) (b := k) (by omega) (by omega)).mp c16
      refine rc_p (p_iload_n 0 (dk_at ktX7_differences_0 36 rfl) rfl rfl (b := 59) rfl) ?_
      refine r_iret (dk_at ktX7_differences_0 37 rfl) rfl rfl ⟨_, rfl, ?_⟩
      refine ⟨fun _ => ?_, ?_, rfl, hRz, hFz⟩
      · rw [a_df, show nW σ = k by omega]
      · exact h6z
    · have c16 : ¬ (nW σ) ≤ k := fun h => c16 ((nI_leI (a := nW σ) (b := k) (by omega) (by omega)).mpr h)
      refine rc_p (p_iload_n 0 (dk_at ktX7_differences_0 13 rfl) rfl rfl (b := 20) rfl) ?_
      refine rc_p (p_aload_n 2 (dk_at ktX7_differences_0 14 rfl) rfl rfl (b := 21) rfl) ?_
      refine r_geta fl_X7_9 rfl hm.l0 hm.s0 (dk_at ktX7_differences_0 15 rfl) hm.g0_0 (b := 24) rfl ?_
      refine rc_p (p_iconst (v := 0) (dk_at ktX7_differences_0 16 rfl) (by decide) (b := 25) rfl) ?_
      refine r_iS (As := [.int 0]) (rest := [.ref (m + 1), .int (sumL (dfF σ) 0 k)]) (s_X7_slotAt 0) cw_X7_197 qs_X7_slotAt (dk_at ktX7_differences_0 17 rfl) rfl rfl (Nat.le_of_ble_eq_true rfl) (by decide) (b := 28) rfl (fun v4 I1 J2 q3 => ?_)
      obtain ⟨rfl, rfl, rfl⟩ := q3
      refine rc_p (p_iload_n 1 (dk_at ktX7_differences_0 18 rfl) rfl rfl (b := 29) rfl) ?_
      refine rc_p (p_iadd (v := (nI (83 + 64 * 0 + k))) (dk_at ktX7_differences_0 19 rfl) (nI_add (83 + 64 * 0) k) (b := 30) rfl) ?_
      refine r_iald (j := 83 + 64 * 0 + k) (hm.lt 1 (by decide)) hm.s1 (dk_at ktX7_differences_0 20 rfl) rfl ⟨by omega, by decide⟩ (v := (σ (83 + 64 * 0 + k))) (hRz.1 (83 + 64 * 0 + k) (by omega)) (b := 31) rfl ?_
      refine rc_p (p_aload_n 2 (dk_at ktX7_differences_0 21 rfl) rfl rfl (b := 32) rfl) ?_
      refine r_geta fl_X7_9 rfl hm.l0 hm.s0 (dk_at ktX7_differences_0 22 rfl) hm.g0_0 (b := 35) rfl ?_
      refine rc_p (p_iconst (v := 1) (dk_at ktX7_differences_0 23 rfl) (by decide) (b := 36) rfl) ?_
      refine r_iS (As := [.int 1]) (rest := [.ref (m + 1), .int (σ (83 + 64 * 0 + k)), .int (sumL (dfF σ) 0 k)]) (s_X7_slotAt 1) cw_X7_197 qs_X7_slotAt (dk_at ktX7_differences_0 24 rfl) rfl rfl (Nat.le_of_ble_eq_true rfl) (by decide) (b := 39) rfl (fun v8 I5 J6 q7 => ?_)
      obtain ⟨rfl, rfl, rfl⟩ := q7
      refine rc_p (p_iload_n 1 (dk_at ktX7_differences_0 25 rfl) rfl rfl (b := 40) rfl) ?_
      refine rc_p (p_iadd (v := (nI (83 + 64 * 1 + k))) (dk_at ktX7_differences_0 26 rfl) (nI_add (83 + 64 * 1) k) (b := 41) rfl) ?_
      refine r_iald (j := 83 + 64 * 1 + k) (hm.lt 1 (by decide)) hm.s1 (dk_at ktX7_differences_0 27 rfl) rfl ⟨by omega, by decide⟩ (v := (σ (83 + 64 * 1 + k))) (hRz.1 (83 + 64 * 1 + k) (by omega)) (b := 42) rfl ?_
      refine r_icmp_eq (dk_at ktX7_differences_0 28 rfl) (b := 49) (by decide) (b2 := 45) rfl (fun c42 => ?_) (fun c42 => ?_)
      · skip
        refine rc_p (p_iconst (v := 0) (dk_at ktX7_differences_0 31 rfl) (by decide) (b := 50) rfl) ?_
        refine rc_p (p_iadd (v := ((sumL (dfF σ) 0 k) + 0)) (dk_at ktX7_differences_0 32 rfl) rfl (b := 51) rfl) ?_
        refine rc_p (p_istore_n (ls' := [(1, .int ((sumL (dfF σ) 0 k) + 0)), (2, .int (nI k)), (0, .ref m)]) (dk_at ktX7_differences_0 33 rfl) rfl (by decide) rfl (b := 52) rfl) ?_
        refine rc_p (p_iinc (j := 1) (v := (nI (k + 1))) (ls' := [(2, .int (nI (k + 1))), (1, .int ((sumL (dfF σ) 0 k) + 0)), (0, .ref m)]) (dk_at ktX7_differences_0 34 rfl) rfl (nI_add k 1) (by decide) rfl (b := 55) rfl) ?_
        refine rc_p (p_goto (b := 9) (dk_at ktX7_differences_0 35 rfl) (by decide)) ?_
        refine rc_sub [1, 0, 2] (ls' := [(1, .int ((sumL (dfF σ) 0 k) + 0)), (2, .int (nI (k + 1))), (0, .ref m)]) rfl ?_
        exact ih (k + 1) _ (by omega) (by omega) (by rw [sumL_s (Nat.zero_le _)]; unfold dfF; rw [if_pos c42])
      · skip
        refine rc_p (p_iconst (v := 1) (dk_at ktX7_differences_0 29 rfl) (by decide) (b := 46) rfl) ?_
        refine rc_p (p_goto (b := 50) (dk_at ktX7_differences_0 30 rfl) (by decide)) ?_
        refine rc_p (p_iadd (v := ((sumL (dfF σ) 0 k) + 1)) (dk_at ktX7_differences_0 32 rfl) rfl (b := 51) rfl) ?_
        refine rc_p (p_istore_n (ls' := [(1, .int ((sumL (dfF σ) 0 k) + 1)), (2, .int (nI k)), (0, .ref m)]) (dk_at ktX7_differences_0 33 rfl) rfl (by decide) rfl (b := 52) rfl) ?_
        refine rc_p (p_iinc (j := 1) (v := (nI (k + 1))) (ls' := [(2, .int (nI (k + 1))), (1, .int ((sumL (dfF σ) 0 k) + 1)), (0, .ref m)]) (dk_at ktX7_differences_0 34 rfl) rfl (nI_add k 1) (by decide) rfl (b := 55) rfl) ?_
        refine rc_p (p_goto (b := 9) (dk_at ktX7_differences_0 35 rfl) (by decide)) ?_
        refine rc_sub [1, 0, 2] (ls' := [(1, .int ((sumL (dfF σ) 0 k) + 1)), (2, .int (nI (k + 1))), (0, .ref m)]) rfl ?_
        exact ih (k + 1) _ (by omega) (by omega) (by rw [sumL_s (Nat.zero_le _)]; unfold dfF; rw [if_neg c42])
  refine rc_p (p_aload_n 0 (dk_at ktX7_differences_0 0 rfl) rfl rfl (b := 1) rfl) ?_
  refine rc_p (p_iconst (v := 0) (dk_at ktX7_differences_0 1 rfl) (by decide) (b := 2) rfl) ?_
  refine r_puti fl_X7_46 fw_X7_6 rfl hm.l0 hm.s0 rfl rfl (dk_at ktX7_differences_0 2 rfl) (b := 5) rfl ?_
  refine rc_p (p_iconst (v := 0) (dk_at ktX7_differences_0 3 rfl) (by decide) (b := 6) rfl) ?_
  refine rc_p (p_istore_n (ls' := [(1, .int 0), (0, .ref m)]) (dk_at ktX7_differences_0 4 rfl) rfl (by decide) rfl (b := 7) rfl) ?_
  refine rc_p (p_iconst (v := 0) (dk_at ktX7_differences_0 5 rfl) (by decide) (b := 8) rfl) ?_
  refine rc_p (p_istore_n (ls' := [(2, .int 0), (1, .int 0), (0, .ref m)]) (dk_at ktX7_differences_0 6 rfl) rfl (by decide) rfl (b := 9) rfl) ?_
  refine rc_sub [1, 0, 2] (ls' := [(1, .int 0), (2, .int 0), (0, .ref m)]) rfl ?_
  exact cut9 (up2 I m 6 0) (by rw [up2_off (by omega)]; exact hR) up2_s (FF.uf FF.rf (by decide)) 1000 0 _ (by omega) (Nat.zero_le _) rfl
set_option maxRecDepth 4000 in
set_option maxHeartbeats 4000000 in
theorem s_X7_zeroBits {n : Nat} {sh : mS} {G : mG} {I : mI} {J : mJ} {m : Nat} {σ : sT} (hm : ModG n sh G m) (hR : RelW (I (m + 1)) σ) (hI : Inv σ) (s : Int32) : Sp yX7_zeroBits cX7_zeroBits 4 (some FieldType.int) 3 144 0 0 [.ref m, .int s] n sh G I J (Qi (fun r_ I_ J_ => (cIn s 0 1 = 0 → a_zb σ (tn s) = r_) ∧ I_ m 6 = cIn s 0 1 ∧ J = J_ ∧ RelW (I_ (m + 1)) (σ) ∧ FF m [1, 2, 8] [6, 18, 19, 20, 21, 22, 23, 24, 26, 27] I I_)) nX := by
  have hb := hI.bd
  rcases sl_n s with ⟨s, hs, rfl⟩ | hw
  · have hib : inI (nI s) 0 1 = true := sl_i hs
    have hts : tn (nI s) = s := tn_nI (by omega)
    refine Sp.of (by decide) (ls := [(0, .ref m), (1, .int (nI s))]) (fun _ => rfl) (fun _ => Nat.le_of_ble_eq_true rfl) ?_
    have cut14 : ∀ (Iz : mI), RelW (Iz (m + 1)) σ → Iz m 6 = 0 → FF m [1, 2, 8] [6, 18, 19, 20, 21, 22, 23, 24, 26, 27] I Iz → ∀ (t k : Nat) (y : Int32), nW σ - k < t → k ≤ nW σ → y = sumL (zbF σ s) 0 k → Rc RX7 cX7_zeroBits 4 (some FieldType.int) 3 144 0 0 n sh G (Qi (fun r_ I_ J_ => (cIn (nI s) 0 1 = 0 → a_zb σ (tn (nI s)) = r_) ∧ I_ m 6 = cIn (nI s) 0 1 ∧ J = J_ ∧ RelW (I_ (m + 1)) (σ) ∧ FF m [1, 2, 8] [6, 18, 19, 20, 21, 22, 23, 24, 26, 27] I I_)) nX 0 0 14 [(2, .int y), (3, .int (nI k)), (0, .ref m), (1, .int (nI s))] [] Iz J := by
      intro Iz hRz h6z hFz t
      induction t
      · intro k y h; omega
      rename_i t ih
      intro k y ht h1 hx
      subst hx
      refine rc_p (p_iload_n 1 (dk_at ktX7_zeroBits_0 10 rfl) rfl rfl (b := 15) rfl) ?_
      refine rc_p (p_aload_n 2 (dk_at ktX7_zeroBits_0 11 rfl) rfl rfl (b := 16) rfl) ?_
      refine r_geta fl_X7_9 rfl hm.l0 hm.s0 (dk_at ktX7_zeroBits_0 12 rfl) hm.g0_0 (b := 19) rfl ?_
      refine rc_p (p_iconst (v := 0) (dk_at ktX7_zeroBits_0 13 rfl) (by decide) (b := 20) rfl) ?_
      refine r_iald (j := 0) (hm.lt 1 (by decide)) hm.s1 (dk_at ktX7_zeroBits_0 14 rfl) rfl ⟨by decide, by decide⟩ (v := (nI (nW σ))) ((hRz.1 0 (by decide)).trans hI.w0) (b := 21) rfl ?_
      refine r_icmp_ge (dk_at ktX7_zeroBits_0 15 rfl) (b := 50) (by decide) (b2 := 24) rfl (fun c21 => ?_) (fun c21 => ?_)
      · have c21 : (nW σ) ≤ k := (nI_leI (a := nW σ) (b := k) (by omega) (by omega)).mp c21
        refine rc_p (p_iload_n 0 (dk_at ktX7_zeroBits_0 31 rfl) rfl rfl (b := 51) rfl) ?_
        refine r_iret (dk_at ktX7_zeroBits_0 32 rfl) rfl rfl ⟨_, rfl, ?_⟩
        refine ⟨fun _ => ?_, ?_, rfl, hRz, hFz⟩
        · rw [hts, a_zb, show nW σ = k by omega]
        · exact h6z.trans (cIn_t hib).symm
      · have c21 : ¬ (nW σ) ≤ k := fun h => c21 ((nI_leI (a := nW σ) (b := k) (by omega) (by omega)).mpr h)
        refine rc_p (p_iload_n 0 (dk_at ktX7_zeroBits_0 16 rfl) rfl rfl (b := 25) rfl) ?_
        refine rc_p (p_bipush (v := 16) (dk_at ktX7_zeroBits_0 17 rfl) (by decide) (b := 27) rfl) ?_
        refine rc_p (p_aload_n 2 (dk_at ktX7_zeroBits_0 18 rfl) rfl rfl (b := 28) rfl) ?_
        refine r_geta fl_X7_9 rfl hm.l0 hm.s0 (dk_at ktX7_zeroBits_0 19 rfl) hm.g0_0 (b := 31) rfl ?_
        refine rc_p (p_iload_n 3 (dk_at ktX7_zeroBits_0 20 rfl) rfl rfl (b := 32) rfl) ?_
        refine r_iS (As := [.int (nI s)]) (rest := [.ref (m + 1), .int 16, .int (sumL (zbF σ s) 0 k)]) (s_X7_slotAt s) cw_X7_197 qs_X7_slotAt (dk_at ktX7_zeroBits_0 21 rfl) rfl rfl (Nat.le_of_ble_eq_true rfl) (by decide) (b := 35) rfl (fun v4 I1 J2 q3 => ?_)
        obtain ⟨rfl, rfl, rfl⟩ := q3
        refine rc_p (p_iload_n 1 (dk_at ktX7_zeroBits_0 22 rfl) rfl rfl (b := 36) rfl) ?_
        refine rc_p (p_iadd (v := (nI (83 + 64 * s + k))) (dk_at ktX7_zeroBits_0 23 rfl) (nI_add (83 + 64 * s) k) (b := 37) rfl) ?_
        refine r_iald (j := 83 + 64 * s + k) (hm.lt 1 (by decide)) hm.s1 (dk_at ktX7_zeroBits_0 24 rfl) rfl ⟨by omega, by decide⟩ (v := (σ (83 + 64 * s + k))) (hRz.1 (83 + 64 * s + k) (by omega)) (b := 38) rfl ?_
        refine r_iS (As := [.int (σ (83 + 64 * s + k))]) (rest := [.int 16, .int (sumL (zbF σ s) 0 k)]) (s_X7_ones (σ (83 + 64 * s + k))) cw_X7_368 qs_X7_ones (dk_at ktX7_zeroBits_0 25 rfl) rfl rfl (Nat.le_of_ble_eq_true rfl) (by decide) (b := 41) rfl (fun v8 I5 J6 q7 => ?_)
        obtain ⟨rfl, rfl, rfl⟩ := q7
        refine rc_p (p_isub (v := (16 - (onesI (σ (83 + 64 * s + k)) 16))) (dk_at ktX7_zeroBits_0 26 rfl) rfl (b := 42) rfl) ?_
        refine rc_p (p_iadd (v := ((sumL (zbF σ s) 0 k) + (16 - (onesI (σ (83 + 64 * s + k)) 16)))) (dk_at ktX7_zeroBits_0 27 rfl) rfl (b := 43) rfl) ?_
        refine rc_p (p_istore_n (ls' := [(2, .int ((sumL (zbF σ s) 0 k) + (16 - (onesI (σ (83 + 64 * s + k)) 16)))), (3, .int (nI k)), (0, .ref m), (1, .int (nI s))]) (dk_at ktX7_zeroBits_0 28 rfl) rfl (by decide) rfl (b := 44) rfl) ?_
        refine rc_p (p_iinc (j := 1) (v := (nI (k + 1))) (ls' := [(3, .int (nI (k + 1))), (2, .int ((sumL (zbF σ s) 0 k) + (16 - (onesI (σ (83 + 64 * s + k)) 16)))), (0, .ref m), (1, .int (nI s))]) (dk_at ktX7_zeroBits_0 29 rfl) rfl (nI_add k 1) (by decide) rfl (b := 47) rfl) ?_
        refine rc_p (p_goto (b := 14) (dk_at ktX7_zeroBits_0 30 rfl) (by decide)) ?_
        refine rc_sub [1, 0, 2, 3] (ls' := [(2, .int ((sumL (zbF σ s) 0 k) + (16 - (onesI (σ (83 + 64 * s + k)) 16)))), (3, .int (nI (k + 1))), (0, .ref m), (1, .int (nI s))]) rfl ?_
        exact ih (k + 1) _ (by omega) (by omega) (by rw [sumL_s (Nat.zero_le _)]; rfl)
    refine rc_p (p_aload_n 0 (dk_at ktX7_zeroBits_0 0 rfl) rfl rfl (b := 1) rfl) ?_
    refine rc_p (p_iload_n 1 (dk_at ktX7_zeroBits_0 1 rfl) rfl rfl (b := 2) rfl) ?_
    refine r_iV (As' := [.int (nI s)]) (rest := []) (s_X7_noOne hm (σ := σ) hR hI (nI s)) cw_X7_362 qi_X7_noOne qv_X7_noOne rfl hm.l0 hm.s0 (dk_at ktX7_zeroBits_0 2 rfl) rfl rfl (Nat.le_of_ble_eq_true rfl) (by decide) (b := 5) rfl (fun v12 I9 J10 q11 => ?_)
    obtain ⟨rfl, rfl, hR13, hF14, h615⟩ := q11
    refine r_val (y := 0) (by rw [hib]; rfl) ?_
    have h616 : I9 m 6 = 0 := h615.trans (by rw [hib]; rfl)
    refine r_if_eq (dk_at ktX7_zeroBits_0 3 rfl) (b := 10) (by decide) (b2 := 8) rfl (fun c5 => ?_) (fun c5 => ?_)
    · skip
      refine rc_p (p_iconst (v := 0) (dk_at ktX7_zeroBits_0 6 rfl) (by decide) (b := 11) rfl) ?_
      refine rc_p (p_istore_n (ls' := [(2, .int 0), (0, .ref m), (1, .int (nI s))]) (dk_at ktX7_zeroBits_0 7 rfl) rfl (by decide) rfl (b := 12) rfl) ?_
      refine rc_p (p_iconst (v := 0) (dk_at ktX7_zeroBits_0 8 rfl) (by decide) (b := 13) rfl) ?_
      refine rc_p (p_istore_n (ls' := [(3, .int 0), (2, .int 0), (0, .ref m), (1, .int (nI s))]) (dk_at ktX7_zeroBits_0 9 rfl) rfl (by decide) rfl (b := 14) rfl) ?_
      refine rc_sub [1, 0, 2, 3] (ls' := [(2, .int 0), (3, .int 0), (0, .ref m), (1, .int (nI s))]) rfl ?_
      exact cut14 I9 hR13 h616 (hF14.mo (by decide) (by decide)) 1000 0 _ (by omega) (Nat.zero_le _) rfl
    · first | exact absurd c5 (by decide) | exact absurd (by decide) c5
  · refine Sp.of (by decide) (ls := [(0, .ref m), (1, .int s)]) (fun _ => rfl) (fun _ => Nat.le_of_ble_eq_true rfl) ?_
    refine rc_p (p_aload_n 0 (dk_at ktX7_zeroBits_0 0 rfl) rfl rfl (b := 1) rfl) ?_
    refine rc_p (p_iload_n 1 (dk_at ktX7_zeroBits_0 1 rfl) rfl rfl (b := 2) rfl) ?_
    refine r_iV (As' := [.int s]) (rest := []) (s_X7_noOne hm (σ := σ) hR hI s) cw_X7_362 qi_X7_noOne qv_X7_noOne rfl hm.l0 hm.s0 (dk_at ktX7_zeroBits_0 2 rfl) rfl rfl (Nat.le_of_ble_eq_true rfl) (by decide) (b := 5) rfl (fun v20 I17 J18 q19 => ?_)
    obtain ⟨rfl, rfl, hR21, hF22, h623⟩ := q19
    refine r_val (y := 1) (by rw [hw]; rfl) ?_
    have h624 : I17 m 6 = 1 := h623.trans (by rw [hw]; rfl)
    refine r_if_eq (dk_at ktX7_zeroBits_0 3 rfl) (b := 10) (by decide) (b2 := 8) rfl (fun c5 => ?_) (fun c5 => ?_)
    · first | exact absurd c5 (by decide) | exact absurd (by decide) c5
    · skip
      refine rc_p (p_iconst (v := 0) (dk_at ktX7_zeroBits_0 4 rfl) (by decide) (b := 9) rfl) ?_
      refine r_iret (dk_at ktX7_zeroBits_0 5 rfl) rfl rfl ⟨_, rfl, ?_⟩
      refine ⟨fun hz => ?_, ?_, rfl, ?_, (hF22.mo (by decide) (by decide))⟩
      · exact absurd (hz.symm.trans (cIn_f hw)) (by decide)
      · exact Eq.trans h624 (by exact (cIn_f hw).symm)
      · exact hR21
set_option maxRecDepth 4000 in
set_option maxHeartbeats 4000000 in
theorem s_X7_recordAt {n : Nat} {sh : mS} {G : mG} {I : mI} {J : mJ} {m : Nat} {σ : sT} (hm : ModG n sh G m) (hR : RelW (I (m + 1)) σ) (hI : Inv σ) (i : Int32) : Sp yX7_recordAt cX7_recordAt 5 (some FieldType.int) 5 240 0 0 [.ref m, .int i] n sh G I J (Qi (fun r_ I_ J_ => recAt σ i = r_ ∧ I = I_ ∧ J = J_)) nX := by
  refine Sp.of (by decide) (ls := [(0, .ref m), (1, .int i)]) (fun _ => rfl) (fun _ => Nat.le_of_ble_eq_true rfl) ?_
  have cut17 : ∀ (p : Nat), p < 2 → activeI σ = nI p → ∀ (t k : Nat) (y : Int32), 32 - k < t → 1 ≤ k → k ≤ nJ σ → y = i - nI (cntN σ p k) → recAt σ i = fstI (raP σ p i) (-1) (nJ σ - k) k → Rc RX7 cX7_recordAt 5 (some FieldType.int) 5 240 0 0 n sh G (Qi (fun r_ I_ J_ => recAt σ i = r_ ∧ I = I_ ∧ J = J_)) nX 0 0 17 [(3, .int y), (4, .int (nI k)), (2, .int (nI p)), (0, .ref m), (1, .int i)] [] I J := by
    have hb := hI.bd
    intro p hp hA t
    induction t
    · intro k y h; omega
    rename_i t ih
    intro k y ht hk0 h1 hy hx
    subst hy
    refine rc_p (p_iload 1 (dk_at ktX7_recordAt_0 12 rfl) rfl (b := 19) rfl) ?_
    refine rc_p (p_aload_n 3 (dk_at ktX7_recordAt_0 13 rfl) rfl rfl (b := 20) rfl) ?_
    refine r_geta fl_X7_9 rfl hm.l0 hm.s0 (dk_at ktX7_recordAt_0 14 rfl) hm.g0_0 (b := 23) rfl ?_
    refine rc_p (p_iconst (v := 2) (dk_at ktX7_recordAt_0 15 rfl) (by decide) (b := 24) rfl) ?_
    refine r_iald (j := 2) (hm.lt 1 (by decide)) hm.s1 (dk_at ktX7_recordAt_0 16 rfl) rfl ⟨by decide, by decide⟩ (v := (nI (nJ σ))) ((hR.1 2 (by decide)).trans hI.w2) (b := 25) rfl ?_
    refine r_icmp_ge (dk_at ktX7_recordAt_0 17 rfl) (b := 57) (by decide) (b2 := 28) rfl (fun c25 => ?_) (fun c25 => ?_)
    · have c25 : (nJ σ) ≤ k := (nI_leI (a := nJ σ) (b := k) (by omega) (by omega)).mp c25
      refine rc_p (p_iconst (v := (-1)) (dk_at ktX7_recordAt_0 31 rfl) (by decide) (b := 58) rfl) ?_
      refine r_iret (dk_at ktX7_recordAt_0 32 rfl) rfl rfl ⟨_, rfl, ?_⟩
      exact ⟨hx.trans (fst_e (by omega)), rfl, rfl⟩
    · have c25 : ¬ (nJ σ) ≤ k := fun h => c25 ((nI_leI (a := nJ σ) (b := k) (by omega) (by omega)).mpr h)
      refine rc_p (p_aload_n 3 (dk_at ktX7_recordAt_0 18 rfl) rfl rfl (b := 29) rfl) ?_
      refine rc_p (p_iload_n 2 (dk_at ktX7_recordAt_0 19 rfl) rfl rfl (b := 30) rfl) ?_
      refine rc_p (p_iload 1 (dk_at ktX7_recordAt_0 20 rfl) rfl (b := 32) rfl) ?_
      refine r_iV (As' := [.int (nI p), .int (nI k)]) (rest := []) (s_X7_isRecord hm (σ := σ) hR hI p k (by omega) (by omega)) cw_X7_248 qi_X7_isRecord qv_X7_isRecord rfl hm.l0 hm.s0 (dk_at ktX7_recordAt_0 21 rfl) rfl rfl (Nat.le_of_ble_eq_true rfl) (by decide) (b := 35) rfl (fun v4 I1 J2 q3 => ?_)
      obtain ⟨rfl, rfl, rfl⟩ := q3
      refine r_if_ne (dk_at ktX7_recordAt_0 22 rfl) (b := 41) (by decide) (b2 := 38) rfl (fun c35 => ?_) (fun c35 => ?_)
      · have c35 := bi_t c35
        refine rc_p (p_iload_n 0 (dk_at ktX7_recordAt_0 24 rfl) rfl rfl (b := 42) rfl) ?_
        refine r_if_ne (dk_at ktX7_recordAt_0 25 rfl) (b := 48) (by decide) (b2 := 45) rfl (fun c42 => ?_) (fun c42 => ?_)
        · skip
          refine rc_p (p_iinc (j := 0) (v := (i - nI (cntN σ p k + 1))) (ls' := [(3, .int (i - nI (cntN σ p k + 1))), (4, .int (nI k)), (2, .int (nI p)), (0, .ref m), (1, .int i)]) (dk_at ktX7_recordAt_0 28 rfl) rfl ra_dec (by decide) rfl (b := 51) rfl) ?_
          refine rc_p (p_iinc (j := 1) (v := (nI (k + 1))) (ls' := [(4, .int (nI (k + 1))), (3, .int (i - nI (cntN σ p k + 1))), (2, .int (nI p)), (0, .ref m), (1, .int i)]) (dk_at ktX7_recordAt_0 29 rfl) rfl (nI_add k 1) (by decide) rfl (b := 54) rfl) ?_
          refine rc_p (p_goto (b := 17) (dk_at ktX7_recordAt_0 30 rfl) (by decide)) ?_
          refine rc_sub [1, 0, 2, 3, 4] (ls' := [(3, .int (i - nI (cntN σ p k + 1))), (4, .int (nI (k + 1))), (2, .int (nI p)), (0, .ref m), (1, .int i)]) rfl ?_
          exact ih (k + 1) _ (by omega) (by omega) (by omega) (by rw [cntN, if_pos c35]) (hx.trans (fst_n (by omega) (by unfold raP; rw [decide_eq_false (fun q => c42 (sub_0.mpr q)), Bool.and_false])))
        · skip
          refine rc_p (p_iload 1 (dk_at ktX7_recordAt_0 26 rfl) rfl (b := 47) rfl) ?_
          refine r_iret (dk_at ktX7_recordAt_0 27 rfl) rfl rfl ⟨_, rfl, ?_⟩
          exact ⟨hx.trans (fst_y (by omega) (by unfold raP; rw [c35, decide_eq_true (sub_0.mp c42)]; rfl)), rfl, rfl⟩
      · have c35 := bi_f c35
        refine rc_p (p_goto (b := 51) (dk_at ktX7_recordAt_0 23 rfl) (by decide)) ?_
        refine rc_p (p_iinc (j := 1) (v := (nI (k + 1))) (ls' := [(4, .int (nI (k + 1))), (3, .int (i - nI (cntN σ p k))), (2, .int (nI p)), (0, .ref m), (1, .int i)]) (dk_at ktX7_recordAt_0 29 rfl) rfl (nI_add k 1) (by decide) rfl (b := 54) rfl) ?_
        refine rc_p (p_goto (b := 17) (dk_at ktX7_recordAt_0 30 rfl) (by decide)) ?_
        refine rc_sub [1, 0, 2, 3, 4] (ls' := [(3, .int (i - nI (cntN σ p k))), (4, .int (nI (k + 1))), (2, .int (nI p)), (0, .ref m), (1, .int i)]) rfl ?_
        exact ih (k + 1) _ (by omega) (by omega) (by omega) (by rw [cntN, if_neg (by rw [c35]; decide)]) (hx.trans (fst_n (by omega) (by unfold raP; rw [c35]; rfl)))
  have hb := hI.bd
  refine rc_p (p_aload_n 0 (dk_at ktX7_recordAt_0 0 rfl) rfl rfl (b := 1) rfl) ?_
  refine r_iV (As' := []) (rest := []) (s_X7_active hm (σ := σ) hR hI) cw_X7_245 qi_X7_active qv_X7_active rfl hm.l0 hm.s0 (dk_at ktX7_recordAt_0 1 rfl) rfl rfl (Nat.le_of_ble_eq_true rfl) (by decide) (b := 4) rfl (fun v8 I5 J6 q7 => ?_)
  obtain ⟨ea9, rfl, rfl⟩ := q7
  refine rc_p (p_istore_n (ls' := [(2, .int v8), (0, .ref m), (1, .int i)]) (dk_at ktX7_recordAt_0 2 rfl) rfl (by decide) rfl (b := 5) rfl) ?_
  refine rc_p (p_iload_n 0 (dk_at ktX7_recordAt_0 3 rfl) rfl rfl (b := 6) rfl) ?_
  refine rc_p (p_iconst (v := (-1)) (dk_at ktX7_recordAt_0 4 rfl) (by decide) (b := 7) rfl) ?_
  refine r_icmp_ne (dk_at ktX7_recordAt_0 5 rfl) (b := 12) (by decide) (b2 := 10) rfl (fun c7 => ?_) (fun c7 => ?_)
  · skip
    refine rc_p (p_iload_n 2 (dk_at ktX7_recordAt_0 8 rfl) rfl rfl (b := 13) rfl) ?_
    refine rc_p (p_istore_n (ls' := [(3, .int i), (2, .int v8), (0, .ref m), (1, .int i)]) (dk_at ktX7_recordAt_0 9 rfl) rfl (by decide) rfl (b := 14) rfl) ?_
    refine rc_p (p_iconst (v := 1) (dk_at ktX7_recordAt_0 10 rfl) (by decide) (b := 15) rfl) ?_
    refine rc_p (p_istore (ls' := [(4, .int 1), (3, .int i), (2, .int v8), (0, .ref m), (1, .int i)]) (dk_at ktX7_recordAt_0 11 rfl) (by decide) rfl (b := 17) rfl) ?_
    refine rc_sub [1, 0, 2, 3, 4] (ls' := [(3, .int i), (4, .int 1), (2, .int v8), (0, .ref m), (1, .int i)]) rfl ?_
    obtain ⟨p, hp, rfl⟩ := act_n ea9 c7
    have hA : activeI σ = nI p := ea9
    exact cut17 p hp hA 1000 1 _ (by omega) (by omega) (by omega) (by rw [cntN_1]; exact (Int32.sub_zero i).symm) (recAt_p hp hA)
  · skip
    refine rc_p (p_iconst (v := (-1)) (dk_at ktX7_recordAt_0 6 rfl) (by decide) (b := 11) rfl) ?_
    refine r_iret (dk_at ktX7_recordAt_0 7 rfl) rfl rfl ⟨_, rfl, ?_⟩
    refine ⟨?_, rfl, rfl⟩
    exact if_pos (ea9.trans c7)
set_option maxRecDepth 4000 in
set_option maxHeartbeats 4000000 in
theorem s_X7_recordCount {n : Nat} {sh : mS} {G : mG} {I : mI} {J : mJ} {m : Nat} {σ : sT} (hm : ModG n sh G m) (hR : RelW (I (m + 1)) σ) (hI : Inv σ) : Sp yX7_recordCount cX7_recordCount 2 (some FieldType.int) 6 288 0 0 [.ref m] n sh G I J (Qi (fun r_ I_ J_ => (0 = 0 → a_cnt σ = r_) ∧ I_ m 6 = 0 ∧ J = J_ ∧ RelW (I_ (m + 1)) (σ) ∧ FF m [1, 2, 8] [6, 18, 19, 20, 21, 22, 23, 24, 26, 27] I I_)) nX := by
  have hb := hI.bd
  refine Sp.of (by decide) (ls := [(0, .ref m)]) (fun _ => rfl) (fun _ => Nat.le_of_ble_eq_true rfl) ?_
  have cut7 : ∀ (Iz : mI), RelW (Iz (m + 1)) σ → Iz m 6 = 0 → FF m [1, 2, 8] [6, 18, 19, 20, 21, 22, 23, 24, 26, 27] I Iz → ∀ (t k : Nat), 32 - k < t → k ≤ 32 → (∀ j, j < k → ¬ recAt σ (nI j) = -1) → Rc RX7 cX7_recordCount 2 (some FieldType.int) 6 288 0 0 n sh G (Qi (fun r_ I_ J_ => (0 = 0 → a_cnt σ = r_) ∧ I_ m 6 = 0 ∧ J = J_ ∧ RelW (I_ (m + 1)) (σ) ∧ FF m [1, 2, 8] [6, 18, 19, 20, 21, 22, 23, 24, 26, 27] I I_)) nX 0 0 7 [(1, .int (nI k)), (0, .ref m)] [] Iz J := by
    intro Iz hRz h6z hFz t
    induction t
    · intro k h; omega
    rename_i t ih
    intro k ht h1 hx
    refine rc_p (p_aload_n 1 (dk_at ktX7_recordCount_0 5 rfl) rfl rfl (b := 8) rfl) ?_
    refine rc_p (p_iload_n 0 (dk_at ktX7_recordCount_0 6 rfl) rfl rfl (b := 9) rfl) ?_
    refine r_iV (As' := [.int (nI k)]) (rest := []) (s_X7_recordAt hm (σ := σ) hRz hI (nI k)) cw_X7_380 qi_X7_recordAt qv_X7_recordAt rfl hm.l0 hm.s0 (dk_at ktX7_recordCount_0 7 rfl) rfl rfl (Nat.le_of_ble_eq_true rfl) (by decide) (b := 12) rfl (fun v4 I1 J2 q3 => ?_)
    obtain ⟨rfl, rfl, rfl⟩ := q3
    refine rc_p (p_iconst (v := (-1)) (dk_at ktX7_recordCount_0 8 rfl) (by decide) (b := 13) rfl) ?_
    refine r_icmp_eq (dk_at ktX7_recordCount_0 9 rfl) (b := 22) (by decide) (b2 := 16) rfl (fun c13 => ?_) (fun c13 => ?_)
    · skip
      refine rc_p (p_iload_n 0 (dk_at ktX7_recordCount_0 12 rfl) rfl rfl (b := 23) rfl) ?_
      refine r_iret (dk_at ktX7_recordCount_0 13 rfl) rfl rfl ⟨_, rfl, ?_⟩
      refine ⟨fun _ => ?_, ?_, rfl, hRz, hFz⟩
      · exact cnt_end hI (by omega) c13 hx
      · exact h6z
    · skip
      refine rc_p (p_iinc (j := 0) (v := (nI (k + 1))) (ls' := [(1, .int (nI (k + 1))), (0, .ref m)]) (dk_at ktX7_recordCount_0 10 rfl) rfl (nI_add k 1) (by decide) rfl (b := 19) rfl) ?_
      refine rc_p (p_goto (b := 7) (dk_at ktX7_recordCount_0 11 rfl) (by decide)) ?_
      have hlt := recAt_lt hI (by omega) c13
      exact ih (k + 1) (by omega) (by omega) (fun j hj => by
        by_cases e : j = k
        · subst e; exact c13
        · exact hx j (by omega))
  refine rc_p (p_aload_n 0 (dk_at ktX7_recordCount_0 0 rfl) rfl rfl (b := 1) rfl) ?_
  refine rc_p (p_iconst (v := 0) (dk_at ktX7_recordCount_0 1 rfl) (by decide) (b := 2) rfl) ?_
  refine r_puti fl_X7_46 fw_X7_6 rfl hm.l0 hm.s0 rfl rfl (dk_at ktX7_recordCount_0 2 rfl) (b := 5) rfl ?_
  refine rc_p (p_iconst (v := 0) (dk_at ktX7_recordCount_0 3 rfl) (by decide) (b := 6) rfl) ?_
  refine rc_p (p_istore_n (ls' := [(1, .int 0), (0, .ref m)]) (dk_at ktX7_recordCount_0 4 rfl) rfl (by decide) rfl (b := 7) rfl) ?_
  exact cut7 (up2 I m 6 0) (by rw [up2_off (by omega)]; exact hR) up2_s (FF.uf FF.rf (by decide)) 1000 0 (by omega) (by omega) (fun j hj => absurd hj (by omega))
set_option maxRecDepth 4000 in
set_option maxHeartbeats 4000000 in
theorem s_X7_record {n : Nat} {sh : mS} {G : mG} {I : mI} {J : mJ} {m : Nat} {σ : sT} (hm : ModG n sh G m) (hR : RelW (I (m + 1)) σ) (hI : Inv σ) (i w : Int32) : Sp yX7_record cX7_record 5 (some FieldType.int) 6 288 0 0 [.ref m, .int i, .int w] n sh G I J (Qi (fun r_ I_ J_ => (cIn w 0 2 = 0 → a_rec σ i w = r_) ∧ I_ m 6 = cIn w 0 2 ∧ J = J_ ∧ RelW (I_ (m + 1)) (σ) ∧ FF m [1, 2, 8] [6, 18, 19, 20, 21, 22, 23, 24, 26, 27] I I_)) nX := by
  have hb := hI.bd
  rcases ar_c w with rfl | rfl | rfl | hw
  · refine Sp.of (by decide) (ls := [(0, .ref m), (1, .int i), (2, .int 0)]) (fun _ => rfl) (fun _ => Nat.le_of_ble_eq_true rfl) ?_
    refine rc_p (p_aload_n 0 (dk_at ktX7_record_0 0 rfl) rfl rfl (b := 1) rfl) ?_
    refine rc_p (p_iconst (v := 0) (dk_at ktX7_record_0 1 rfl) (by decide) (b := 2) rfl) ?_
    refine r_puti fl_X7_46 fw_X7_6 rfl hm.l0 hm.s0 rfl rfl (dk_at ktX7_record_0 2 rfl) (b := 5) rfl ?_
    refine rc_p (p_aload_n 0 (dk_at ktX7_record_0 3 rfl) rfl rfl (b := 6) rfl) ?_
    refine rc_p (p_iload_n 2 (dk_at ktX7_record_0 4 rfl) rfl rfl (b := 7) rfl) ?_
    refine rc_p (p_i2l (v := (Int32.toInt64 0)) (dk_at ktX7_record_0 5 rfl) rfl (b := 8) rfl) ?_
    refine rc_p (p_lconst (v := 0) (dk_at ktX7_record_0 6 rfl) (by decide) (b := 9) rfl) ?_
    refine rc_p (p_ldc2 (v := 2) ql_TwinBootModel_214 (dk_at ktX7_record_0 7 rfl) (b := 12) rfl) ?_
    refine r_iS (As := [.long (Int32.toInt64 0), .long 0, .long 2]) (rest := [.ref m]) (s_X7_in (Int32.toInt64 0) 0 2) cw_X7_73 qs_X7_in (dk_at ktX7_record_0 8 rfl) rfl rfl (Nat.le_of_ble_eq_true rfl) (by decide) (b := 15) rfl (fun v4 I1 J2 q3 => ?_)
    obtain ⟨rfl, rfl, rfl⟩ := q3
    refine r_val (y := bi (inI 0 0 2)) (congrArg bi (inJ_I 0 0 2)) ?_
    refine r_val (y := 1) (by decide) ?_
    refine r_if_ne (dk_at ktX7_record_0 9 rfl) (b := 22) (by decide) (b2 := 18) rfl (fun c15 => ?_) (fun c15 => ?_)
    · skip
      refine rc_p (p_iconst (v := 0) (dk_at ktX7_record_0 12 rfl) (by decide) (b := 23) rfl) ?_
      refine rc_p (p_iconst (v := 1) (dk_at ktX7_record_0 13 rfl) (by decide) (b := 24) rfl) ?_
      refine r_iV (As' := [.int 0, .int 1]) (rest := []) (s_X7_throwsIf hm (σ := σ) (by rw [up2_off (by omega)]; exact hR) hI up2_s false 1 (by decide)) cw_X7_190 qi_X7_throwsIf qv_X7_throwsIf rfl hm.l0 hm.s0 (dk_at ktX7_record_0 14 rfl) rfl rfl (Nat.le_of_ble_eq_true rfl) (by decide) (b := 27) rfl (fun v8 I5 J6 q7 => ?_)
      obtain ⟨rfl, rfl, hR9, hF10, h611⟩ := q7
      refine r_val (y := 0) rfl ?_
      refine r_if_eq (dk_at ktX7_record_0 15 rfl) (b := 32) (by decide) (b2 := 30) rfl (fun c27 => ?_) (fun c27 => ?_)
      · skip
        refine rc_p (p_aload_n 0 (dk_at ktX7_record_0 18 rfl) rfl rfl (b := 33) rfl) ?_
        refine rc_p (p_iload_n 1 (dk_at ktX7_record_0 19 rfl) rfl rfl (b := 34) rfl) ?_
        refine r_iV (As' := [.int i]) (rest := []) (s_X7_recordAt hm (σ := σ) hR9 hI i) cw_X7_380 qi_X7_recordAt qv_X7_recordAt rfl hm.l0 hm.s0 (dk_at ktX7_record_0 20 rfl) rfl rfl (Nat.le_of_ble_eq_true rfl) (by decide) (b := 37) rfl (fun v15 I12 J13 q14 => ?_)
        obtain ⟨rfl, rfl, rfl⟩ := q14
        refine rc_p (p_istore_n (ls' := [(3, .int (recAt σ i)), (0, .ref m), (1, .int i), (2, .int 0)]) (dk_at ktX7_record_0 21 rfl) rfl (by decide) rfl (b := 38) rfl) ?_
        refine rc_p (p_iload_n 0 (dk_at ktX7_record_0 22 rfl) rfl rfl (b := 39) rfl) ?_
        refine rc_p (p_iconst (v := (-1)) (dk_at ktX7_record_0 23 rfl) (by decide) (b := 40) rfl) ?_
        refine r_icmp_ne (dk_at ktX7_record_0 24 rfl) (b := 45) (by decide) (b2 := 43) rfl (fun c40 => ?_) (fun c40 => ?_)
        · skip
          obtain ⟨p, k, hp, hA, hk1, hk2, hk3, ek, _, _⟩ := recAt_n hI c40
          rw [ek]
          refine rc_p (p_aload_n 1 (dk_at ktX7_record_0 27 rfl) rfl rfl (b := 46) rfl) ?_
          refine r_geta fl_X7_9 rfl hm.l0 hm.s0 (dk_at ktX7_record_0 28 rfl) hm.g0_0 (b := 49) rfl ?_
          refine rc_p (p_aload_n 1 (dk_at ktX7_record_0 29 rfl) rfl rfl (b := 50) rfl) ?_
          refine r_iV (As' := []) (rest := [.ref (m + 1)]) (s_X7_active hm (σ := σ) hR9 hI) cw_X7_245 qi_X7_active qv_X7_active rfl hm.l0 hm.s0 (dk_at ktX7_record_0 30 rfl) rfl rfl (Nat.le_of_ble_eq_true rfl) (by decide) (b := 53) rfl (fun v19 I16 J17 q18 => ?_)
          obtain ⟨ea20, rfl, rfl⟩ := q18
          rw [hA] at ea20
          subst ea20
          refine r_iS (As := [.int (nI p)]) (rest := [.ref (m + 1)]) (s_X7_pageAt p) cw_X7_216 qs_X7_pageAt (dk_at ktX7_record_0 31 rfl) rfl rfl (Nat.le_of_ble_eq_true rfl) (by decide) (b := 56) rfl (fun v24 I21 J22 q23 => ?_)
          obtain ⟨rfl, rfl, rfl⟩ := q23
          refine rc_p (p_iload_n 0 (dk_at ktX7_record_0 32 rfl) rfl rfl (b := 57) rfl) ?_
          refine rc_p (p_iadd (v := (nI (211 + 32 * p + k))) (dk_at ktX7_record_0 33 rfl) (nI_add (211 + 32 * p) k) (b := 58) rfl) ?_
          refine r_iald (j := 211 + 32 * p + k) (hm.lt 1 (by decide)) hm.s1 (dk_at ktX7_record_0 34 rfl) rfl ⟨by omega, by decide⟩ (v := (σ (211 + 32 * p + k))) (hR9.1 (211 + 32 * p + k) (by omega)) (b := 59) rfl ?_
          refine rc_p (p_istore (ls' := [(4, .int (σ (211 + 32 * p + k))), (3, .int (nI k)), (0, .ref m), (1, .int i), (2, .int 0)]) (dk_at ktX7_record_0 35 rfl) (by decide) rfl (b := 61) rfl) ?_
          refine rc_p (p_iload_n 4 (dk_at ktX7_record_0 36 rfl) rfl rfl (b := 62) rfl) ?_
          refine r_if_ne (dk_at ktX7_record_0 37 rfl) (b := 73) (by decide) (b2 := 65) rfl (fun c62 => ?_) (fun c62 => ?_)
          · first | exact absurd c62 (by decide) | exact absurd (by decide) c62
          · skip
            refine rc_p (p_iload 0 (dk_at ktX7_record_0 38 rfl) rfl (b := 67) rfl) ?_
            refine r_iS (As := [.int (σ (211 + 32 * p + k))]) (rest := []) (s_X7_kindOf (σ (211 + 32 * p + k))) cw_X7_206 qs_X7_kindOf (dk_at ktX7_record_0 39 rfl) rfl rfl (Nat.le_of_ble_eq_true rfl) (by decide) (b := 70) rfl (fun v28 I25 J26 q27 => ?_)
            obtain ⟨rfl, rfl, rfl⟩ := q27
            refine rc_p (p_goto (b := 87) (dk_at ktX7_record_0 40 rfl) (by decide)) ?_
            refine r_iret (dk_at ktX7_record_0 48 rfl) rfl rfl ⟨_, rfl, ?_⟩
            refine ⟨fun hz => ?_, ?_, rfl, ?_, (FF.tr (FF.uf FF.rf (by decide)) (hF10.mo (by decide) (by decide)))⟩
            · exact (if_neg c40).trans ((if_pos rfl).trans (by rw [hA, ek, tn_nI (by omega), tn_nI (by omega)]))
            · exact Eq.trans h611 (by first | rfl | decide)
            · exact hR9
        · skip
          refine rc_p (p_iconst (v := (-1)) (dk_at ktX7_record_0 25 rfl) (by decide) (b := 44) rfl) ?_
          refine r_iret (dk_at ktX7_record_0 26 rfl) rfl rfl ⟨_, rfl, ?_⟩
          refine ⟨fun hz => ?_, ?_, rfl, ?_, (FF.tr (FF.uf FF.rf (by decide)) (hF10.mo (by decide) (by decide)))⟩
          · exact if_pos c40
          · exact Eq.trans h611 (by first | rfl | decide)
          · exact hR9
      · first | exact absurd c27 (by decide) | exact absurd (by decide) c27
    · first | exact absurd c15 (by decide) | exact absurd (by decide) c15
  · refine Sp.of (by decide) (ls := [(0, .ref m), (1, .int i), (2, .int 1)]) (fun _ => rfl) (fun _ => Nat.le_of_ble_eq_true rfl) ?_
    refine rc_p (p_aload_n 0 (dk_at ktX7_record_0 0 rfl) rfl rfl (b := 1) rfl) ?_
    refine rc_p (p_iconst (v := 0) (dk_at ktX7_record_0 1 rfl) (by decide) (b := 2) rfl) ?_
    refine r_puti fl_X7_46 fw_X7_6 rfl hm.l0 hm.s0 rfl rfl (dk_at ktX7_record_0 2 rfl) (b := 5) rfl ?_
    refine rc_p (p_aload_n 0 (dk_at ktX7_record_0 3 rfl) rfl rfl (b := 6) rfl) ?_
    refine rc_p (p_iload_n 2 (dk_at ktX7_record_0 4 rfl) rfl rfl (b := 7) rfl) ?_
    refine rc_p (p_i2l (v := (Int32.toInt64 1)) (dk_at ktX7_record_0 5 rfl) rfl (b := 8) rfl) ?_
    refine rc_p (p_lconst (v := 0) (dk_at ktX7_record_0 6 rfl) (by decide) (b := 9) rfl) ?_
    refine rc_p (p_ldc2 (v := 2) ql_TwinBootModel_214 (dk_at ktX7_record_0 7 rfl) (b := 12) rfl) ?_
    refine r_iS (As := [.long (Int32.toInt64 1), .long 0, .long 2]) (rest := [.ref m]) (s_X7_in (Int32.toInt64 1) 0 2) cw_X7_73 qs_X7_in (dk_at ktX7_record_0 8 rfl) rfl rfl (Nat.le_of_ble_eq_true rfl) (by decide) (b := 15) rfl (fun v32 I29 J30 q31 => ?_)
    obtain ⟨rfl, rfl, rfl⟩ := q31
    refine r_val (y := bi (inI 1 0 2)) (congrArg bi (inJ_I 1 0 2)) ?_
    refine r_val (y := 1) (by decide) ?_
    refine r_if_ne (dk_at ktX7_record_0 9 rfl) (b := 22) (by decide) (b2 := 18) rfl (fun c15 => ?_) (fun c15 => ?_)
    · skip
      refine rc_p (p_iconst (v := 0) (dk_at ktX7_record_0 12 rfl) (by decide) (b := 23) rfl) ?_
      refine rc_p (p_iconst (v := 1) (dk_at ktX7_record_0 13 rfl) (by decide) (b := 24) rfl) ?_
      refine r_iV (As' := [.int 0, .int 1]) (rest := []) (s_X7_throwsIf hm (σ := σ) (by rw [up2_off (by omega)]; exact hR) hI up2_s false 1 (by decide)) cw_X7_190 qi_X7_throwsIf qv_X7_throwsIf rfl hm.l0 hm.s0 (dk_at ktX7_record_0 14 rfl) rfl rfl (Nat.le_of_ble_eq_true rfl) (by decide) (b := 27) rfl (fun v36 I33 J34 q35 => ?_)
      obtain ⟨rfl, rfl, hR37, hF38, h639⟩ := q35
      refine r_val (y := 0) rfl ?_
      refine r_if_eq (dk_at ktX7_record_0 15 rfl) (b := 32) (by decide) (b2 := 30) rfl (fun c27 => ?_) (fun c27 => ?_)
      · skip
        refine rc_p (p_aload_n 0 (dk_at ktX7_record_0 18 rfl) rfl rfl (b := 33) rfl) ?_
        refine rc_p (p_iload_n 1 (dk_at ktX7_record_0 19 rfl) rfl rfl (b := 34) rfl) ?_
        refine r_iV (As' := [.int i]) (rest := []) (s_X7_recordAt hm (σ := σ) hR37 hI i) cw_X7_380 qi_X7_recordAt qv_X7_recordAt rfl hm.l0 hm.s0 (dk_at ktX7_record_0 20 rfl) rfl rfl (Nat.le_of_ble_eq_true rfl) (by decide) (b := 37) rfl (fun v43 I40 J41 q42 => ?_)
        obtain ⟨rfl, rfl, rfl⟩ := q42
        refine rc_p (p_istore_n (ls' := [(3, .int (recAt σ i)), (0, .ref m), (1, .int i), (2, .int 1)]) (dk_at ktX7_record_0 21 rfl) rfl (by decide) rfl (b := 38) rfl) ?_
        refine rc_p (p_iload_n 0 (dk_at ktX7_record_0 22 rfl) rfl rfl (b := 39) rfl) ?_
        refine rc_p (p_iconst (v := (-1)) (dk_at ktX7_record_0 23 rfl) (by decide) (b := 40) rfl) ?_
        refine r_icmp_ne (dk_at ktX7_record_0 24 rfl) (b := 45) (by decide) (b2 := 43) rfl (fun c40 => ?_) (fun c40 => ?_)
        · skip
          obtain ⟨p, k, hp, hA, hk1, hk2, hk3, ek, _, _⟩ := recAt_n hI c40
          rw [ek]
          refine rc_p (p_aload_n 1 (dk_at ktX7_record_0 27 rfl) rfl rfl (b := 46) rfl) ?_
          refine r_geta fl_X7_9 rfl hm.l0 hm.s0 (dk_at ktX7_record_0 28 rfl) hm.g0_0 (b := 49) rfl ?_
          refine rc_p (p_aload_n 1 (dk_at ktX7_record_0 29 rfl) rfl rfl (b := 50) rfl) ?_
          refine r_iV (As' := []) (rest := [.ref (m + 1)]) (s_X7_active hm (σ := σ) hR37 hI) cw_X7_245 qi_X7_active qv_X7_active rfl hm.l0 hm.s0 (dk_at ktX7_record_0 30 rfl) rfl rfl (Nat.le_of_ble_eq_true rfl) (by decide) (b := 53) rfl (fun v47 I44 J45 q46 => ?_)
          obtain ⟨ea48, rfl, rfl⟩ := q46
          rw [hA] at ea48
          subst ea48
          refine r_iS (As := [.int (nI p)]) (rest := [.ref (m + 1)]) (s_X7_pageAt p) cw_X7_216 qs_X7_pageAt (dk_at ktX7_record_0 31 rfl) rfl rfl (Nat.le_of_ble_eq_true rfl) (by decide) (b := 56) rfl (fun v52 I49 J50 q51 => ?_)
          obtain ⟨rfl, rfl, rfl⟩ := q51
          refine rc_p (p_iload_n 0 (dk_at ktX7_record_0 32 rfl) rfl rfl (b := 57) rfl) ?_
          refine rc_p (p_iadd (v := (nI (211 + 32 * p + k))) (dk_at ktX7_record_0 33 rfl) (nI_add (211 + 32 * p) k) (b := 58) rfl) ?_
          refine r_iald (j := 211 + 32 * p + k) (hm.lt 1 (by decide)) hm.s1 (dk_at ktX7_record_0 34 rfl) rfl ⟨by omega, by decide⟩ (v := (σ (211 + 32 * p + k))) (hR37.1 (211 + 32 * p + k) (by omega)) (b := 59) rfl ?_
          refine rc_p (p_istore (ls' := [(4, .int (σ (211 + 32 * p + k))), (3, .int (nI k)), (0, .ref m), (1, .int i), (2, .int 1)]) (dk_at ktX7_record_0 35 rfl) (by decide) rfl (b := 61) rfl) ?_
          refine rc_p (p_iload_n 4 (dk_at ktX7_record_0 36 rfl) rfl rfl (b := 62) rfl) ?_
          refine r_if_ne (dk_at ktX7_record_0 37 rfl) (b := 73) (by decide) (b2 := 65) rfl (fun c62 => ?_) (fun c62 => ?_)
          · skip
            refine rc_p (p_iload_n 4 (dk_at ktX7_record_0 41 rfl) rfl rfl (b := 74) rfl) ?_
            refine rc_p (p_iconst (v := 1) (dk_at ktX7_record_0 42 rfl) (by decide) (b := 75) rfl) ?_
            refine r_icmp_ne (dk_at ktX7_record_0 43 rfl) (b := 86) (by decide) (b2 := 78) rfl (fun c75 => ?_) (fun c75 => ?_)
            · first | exact absurd c75 (by decide) | exact absurd (by decide) c75
            · skip
              refine rc_p (p_iload 0 (dk_at ktX7_record_0 44 rfl) rfl (b := 80) rfl) ?_
              refine r_iS (As := [.int (σ (211 + 32 * p + k))]) (rest := []) (s_X7_valueOf (σ (211 + 32 * p + k))) cw_X7_209 qs_X7_valueOf (dk_at ktX7_record_0 45 rfl) rfl rfl (Nat.le_of_ble_eq_true rfl) (by decide) (b := 83) rfl (fun v56 I53 J54 q55 => ?_)
              obtain ⟨rfl, rfl, rfl⟩ := q55
              refine rc_p (p_goto (b := 87) (dk_at ktX7_record_0 46 rfl) (by decide)) ?_
              refine r_iret (dk_at ktX7_record_0 48 rfl) rfl rfl ⟨_, rfl, ?_⟩
              refine ⟨fun hz => ?_, ?_, rfl, ?_, (FF.tr (FF.uf FF.rf (by decide)) (hF38.mo (by decide) (by decide)))⟩
              · exact (if_neg c40).trans (((if_neg (by decide)).trans (if_pos rfl)).trans (by rw [hA, ek, tn_nI (by omega), tn_nI (by omega)]))
              · exact Eq.trans h639 (by first | rfl | decide)
              · exact hR37
          · first | exact absurd c62 (by decide) | exact absurd (by decide) c62
        · skip
          refine rc_p (p_iconst (v := (-1)) (dk_at ktX7_record_0 25 rfl) (by decide) (b := 44) rfl) ?_
          refine r_iret (dk_at ktX7_record_0 26 rfl) rfl rfl ⟨_, rfl, ?_⟩
          refine ⟨fun hz => ?_, ?_, rfl, ?_, (FF.tr (FF.uf FF.rf (by decide)) (hF38.mo (by decide) (by decide)))⟩
          · exact if_pos c40
          · exact Eq.trans h639 (by first | rfl | decide)
          · exact hR37
      · first | exact absurd c27 (by decide) | exact absurd (by decide) c27
    · first | exact absurd c15 (by decide) | exact absurd (by decide) c15
  · refine Sp.of (by decide) (ls := [(0, .ref m), (1, .int i), (2, .int 2)]) (fun _ => rfl) (fun _ => Nat.le_of_ble_eq_true rfl) ?_
    refine rc_p (p_aload_n 0 (dk_at ktX7_record_0 0 rfl) rfl rfl (b := 1) rfl) ?_
    refine rc_p (p_iconst (v := 0) (dk_at ktX7_record_0 1 rfl) (by decide) (b := 2) rfl) ?_
    refine r_puti fl_X7_46 fw_X7_6 rfl hm.l0 hm.s0 rfl rfl (dk_at ktX7_record_0 2 rfl) (b := 5) rfl ?_
    refine rc_p (p_aload_n 0 (dk_at ktX7_record_0 3 rfl) rfl rfl (b := 6) rfl) ?_
    refine rc_p (p_iload_n 2 (dk_at ktX7_record_0 4 rfl) rfl rfl (b := 7) rfl) ?_
    refine rc_p (p_i2l (v := (Int32.toInt64 2)) (dk_at ktX7_record_0 5 rfl) rfl (b := 8) rfl) ?_
    refine rc_p (p_lconst (v := 0) (dk_at ktX7_record_0 6 rfl) (by decide) (b := 9) rfl) ?_
    refine rc_p (p_ldc2 (v := 2) ql_TwinBootModel_214 (dk_at ktX7_record_0 7 rfl) (b := 12) rfl) ?_
    refine r_iS (As := [.long (Int32.toInt64 2), .long 0, .long 2]) (rest := [.ref m]) (s_X7_in (Int32.toInt64 2) 0 2) cw_X7_73 qs_X7_in (dk_at ktX7_record_0 8 rfl) rfl rfl (Nat.le_of_ble_eq_true rfl) (by decide) (b := 15) rfl (fun v60 I57 J58 q59 => ?_)
    obtain ⟨rfl, rfl, rfl⟩ := q59
    refine r_val (y := bi (inI 2 0 2)) (congrArg bi (inJ_I 2 0 2)) ?_
    refine r_val (y := 1) (by decide) ?_
    refine r_if_ne (dk_at ktX7_record_0 9 rfl) (b := 22) (by decide) (b2 := 18) rfl (fun c15 => ?_) (fun c15 => ?_)
    · skip
      refine rc_p (p_iconst (v := 0) (dk_at ktX7_record_0 12 rfl) (by decide) (b := 23) rfl) ?_
      refine rc_p (p_iconst (v := 1) (dk_at ktX7_record_0 13 rfl) (by decide) (b := 24) rfl) ?_
      refine r_iV (As' := [.int 0, .int 1]) (rest := []) (s_X7_throwsIf hm (σ := σ) (by rw [up2_off (by omega)]; exact hR) hI up2_s false 1 (by decide)) cw_X7_190 qi_X7_throwsIf qv_X7_throwsIf rfl hm.l0 hm.s0 (dk_at ktX7_record_0 14 rfl) rfl rfl (Nat.le_of_ble_eq_true rfl) (by decide) (b := 27) rfl (fun v64 I61 J62 q63 => ?_)
      obtain ⟨rfl, rfl, hR65, hF66, h667⟩ := q63
      refine r_val (y := 0) rfl ?_
      refine r_if_eq (dk_at ktX7_record_0 15 rfl) (b := 32) (by decide) (b2 := 30) rfl (fun c27 => ?_) (fun c27 => ?_)
      · skip
        refine rc_p (p_aload_n 0 (dk_at ktX7_record_0 18 rfl) rfl rfl (b := 33) rfl) ?_
        refine rc_p (p_iload_n 1 (dk_at ktX7_record_0 19 rfl) rfl rfl (b := 34) rfl) ?_
        refine r_iV (As' := [.int i]) (rest := []) (s_X7_recordAt hm (σ := σ) hR65 hI i) cw_X7_380 qi_X7_recordAt qv_X7_recordAt rfl hm.l0 hm.s0 (dk_at ktX7_record_0 20 rfl) rfl rfl (Nat.le_of_ble_eq_true rfl) (by decide) (b := 37) rfl (fun v71 I68 J69 q70 => ?_)
        obtain ⟨rfl, rfl, rfl⟩ := q70
        refine rc_p (p_istore_n (ls' := [(3, .int (recAt σ i)), (0, .ref m), (1, .int i), (2, .int 2)]) (dk_at ktX7_record_0 21 rfl) rfl (by decide) rfl (b := 38) rfl) ?_
        refine rc_p (p_iload_n 0 (dk_at ktX7_record_0 22 rfl) rfl rfl (b := 39) rfl) ?_
        refine rc_p (p_iconst (v := (-1)) (dk_at ktX7_record_0 23 rfl) (by decide) (b := 40) rfl) ?_
        refine r_icmp_ne (dk_at ktX7_record_0 24 rfl) (b := 45) (by decide) (b2 := 43) rfl (fun c40 => ?_) (fun c40 => ?_)
        · skip
          obtain ⟨p, k, hp, hA, hk1, hk2, hk3, ek, _, _⟩ := recAt_n hI c40
          rw [ek]
          refine rc_p (p_aload_n 1 (dk_at ktX7_record_0 27 rfl) rfl rfl (b := 46) rfl) ?_
          refine r_geta fl_X7_9 rfl hm.l0 hm.s0 (dk_at ktX7_record_0 28 rfl) hm.g0_0 (b := 49) rfl ?_
          refine rc_p (p_aload_n 1 (dk_at ktX7_record_0 29 rfl) rfl rfl (b := 50) rfl) ?_
          refine r_iV (As' := []) (rest := [.ref (m + 1)]) (s_X7_active hm (σ := σ) hR65 hI) cw_X7_245 qi_X7_active qv_X7_active rfl hm.l0 hm.s0 (dk_at ktX7_record_0 30 rfl) rfl rfl (Nat.le_of_ble_eq_true rfl) (by decide) (b := 53) rfl (fun v75 I72 J73 q74 => ?_)
          obtain ⟨ea76, rfl, rfl⟩ := q74
          rw [hA] at ea76
          subst ea76
          refine r_iS (As := [.int (nI p)]) (rest := [.ref (m + 1)]) (s_X7_pageAt p) cw_X7_216 qs_X7_pageAt (dk_at ktX7_record_0 31 rfl) rfl rfl (Nat.le_of_ble_eq_true rfl) (by decide) (b := 56) rfl (fun v80 I77 J78 q79 => ?_)
          obtain ⟨rfl, rfl, rfl⟩ := q79
          refine rc_p (p_iload_n 0 (dk_at ktX7_record_0 32 rfl) rfl rfl (b := 57) rfl) ?_
          refine rc_p (p_iadd (v := (nI (211 + 32 * p + k))) (dk_at ktX7_record_0 33 rfl) (nI_add (211 + 32 * p) k) (b := 58) rfl) ?_
          refine r_iald (j := 211 + 32 * p + k) (hm.lt 1 (by decide)) hm.s1 (dk_at ktX7_record_0 34 rfl) rfl ⟨by omega, by decide⟩ (v := (σ (211 + 32 * p + k))) (hR65.1 (211 + 32 * p + k) (by omega)) (b := 59) rfl ?_
          refine rc_p (p_istore (ls' := [(4, .int (σ (211 + 32 * p + k))), (3, .int (nI k)), (0, .ref m), (1, .int i), (2, .int 2)]) (dk_at ktX7_record_0 35 rfl) (by decide) rfl (b := 61) rfl) ?_
          refine rc_p (p_iload_n 4 (dk_at ktX7_record_0 36 rfl) rfl rfl (b := 62) rfl) ?_
          refine r_if_ne (dk_at ktX7_record_0 37 rfl) (b := 73) (by decide) (b2 := 65) rfl (fun c62 => ?_) (fun c62 => ?_)
          · skip
            refine rc_p (p_iload_n 4 (dk_at ktX7_record_0 41 rfl) rfl rfl (b := 74) rfl) ?_
            refine rc_p (p_iconst (v := 1) (dk_at ktX7_record_0 42 rfl) (by decide) (b := 75) rfl) ?_
            refine r_icmp_ne (dk_at ktX7_record_0 43 rfl) (b := 86) (by decide) (b2 := 78) rfl (fun c75 => ?_) (fun c75 => ?_)
            · skip
              refine rc_p (p_iload_n 1 (dk_at ktX7_record_0 47 rfl) rfl rfl (b := 87) rfl) ?_
              refine r_iret (dk_at ktX7_record_0 48 rfl) rfl rfl ⟨_, rfl, ?_⟩
              refine ⟨fun hz => ?_, ?_, rfl, ?_, (FF.tr (FF.uf FF.rf (by decide)) (hF66.mo (by decide) (by decide)))⟩
              · exact (if_neg c40).trans (((if_neg (by decide)).trans ((if_neg (by decide)).trans ek)))
              · exact Eq.trans h667 (by first | rfl | decide)
              · exact hR65
            · first | exact absurd c75 (by decide) | exact absurd (by decide) c75
          · first | exact absurd c62 (by decide) | exact absurd (by decide) c62
        · skip
          refine rc_p (p_iconst (v := (-1)) (dk_at ktX7_record_0 25 rfl) (by decide) (b := 44) rfl) ?_
          refine r_iret (dk_at ktX7_record_0 26 rfl) rfl rfl ⟨_, rfl, ?_⟩
          refine ⟨fun hz => ?_, ?_, rfl, ?_, (FF.tr (FF.uf FF.rf (by decide)) (hF66.mo (by decide) (by decide)))⟩
          · exact if_pos c40
          · exact Eq.trans h667 (by first | rfl | decide)
          · exact hR65
      · first | exact absurd c27 (by decide) | exact absurd (by decide) c27
    · first | exact absurd c15 (by decide) | exact absurd (by decide) c15
  · refine Sp.of (by decide) (ls := [(0, .ref m), (1, .int i), (2, .int w)]) (fun _ => rfl) (fun _ => Nat.le_of_ble_eq_true rfl) ?_
    refine rc_p (p_aload_n 0 (dk_at ktX7_record_0 0 rfl) rfl rfl (b := 1) rfl) ?_
    refine rc_p (p_iconst (v := 0) (dk_at ktX7_record_0 1 rfl) (by decide) (b := 2) rfl) ?_
    refine r_puti fl_X7_46 fw_X7_6 rfl hm.l0 hm.s0 rfl rfl (dk_at ktX7_record_0 2 rfl) (b := 5) rfl ?_
    refine rc_p (p_aload_n 0 (dk_at ktX7_record_0 3 rfl) rfl rfl (b := 6) rfl) ?_
    refine rc_p (p_iload_n 2 (dk_at ktX7_record_0 4 rfl) rfl rfl (b := 7) rfl) ?_
    refine rc_p (p_i2l (v := (Int32.toInt64 w)) (dk_at ktX7_record_0 5 rfl) rfl (b := 8) rfl) ?_
    refine rc_p (p_lconst (v := 0) (dk_at ktX7_record_0 6 rfl) (by decide) (b := 9) rfl) ?_
    refine rc_p (p_ldc2 (v := 2) ql_TwinBootModel_214 (dk_at ktX7_record_0 7 rfl) (b := 12) rfl) ?_
    refine r_iS (As := [.long (Int32.toInt64 w), .long 0, .long 2]) (rest := [.ref m]) (s_X7_in (Int32.toInt64 w) 0 2) cw_X7_73 qs_X7_in (dk_at ktX7_record_0 8 rfl) rfl rfl (Nat.le_of_ble_eq_true rfl) (by decide) (b := 15) rfl (fun v84 I81 J82 q83 => ?_)
    obtain ⟨rfl, rfl, rfl⟩ := q83
    refine r_val (y := bi (inI w 0 2)) (congrArg bi (inJ_I w 0 2)) ?_
    refine r_val (y := 0) (by rw [hw]; rfl) ?_
    refine r_if_ne (dk_at ktX7_record_0 9 rfl) (b := 22) (by decide) (b2 := 18) rfl (fun c15 => ?_) (fun c15 => ?_)
    · first | exact absurd c15 (by decide) | exact absurd (by decide) c15
    · skip
      refine rc_p (p_iconst (v := 1) (dk_at ktX7_record_0 10 rfl) (by decide) (b := 19) rfl) ?_
      refine rc_p (p_goto (b := 23) (dk_at ktX7_record_0 11 rfl) (by decide)) ?_
      refine rc_p (p_iconst (v := 1) (dk_at ktX7_record_0 13 rfl) (by decide) (b := 24) rfl) ?_
      refine r_iV (As' := [.int 1, .int 1]) (rest := []) (s_X7_throwsIf hm (σ := σ) (by rw [up2_off (by omega)]; exact hR) hI up2_s true 1 (by decide)) cw_X7_190 qi_X7_throwsIf qv_X7_throwsIf rfl hm.l0 hm.s0 (dk_at ktX7_record_0 14 rfl) rfl rfl (Nat.le_of_ble_eq_true rfl) (by decide) (b := 27) rfl (fun v88 I85 J86 q87 => ?_)
      obtain ⟨rfl, rfl, hR89, hF90, h691⟩ := q87
      refine r_val (y := 1) rfl ?_
      refine r_if_eq (dk_at ktX7_record_0 15 rfl) (b := 32) (by decide) (b2 := 30) rfl (fun c27 => ?_) (fun c27 => ?_)
      · first | exact absurd c27 (by decide) | exact absurd (by decide) c27
      · skip
        refine rc_p (p_iconst (v := 0) (dk_at ktX7_record_0 16 rfl) (by decide) (b := 31) rfl) ?_
        refine r_iret (dk_at ktX7_record_0 17 rfl) rfl rfl ⟨_, rfl, ?_⟩
        refine ⟨fun hz => ?_, ?_, rfl, ?_, (FF.tr (FF.uf FF.rf (by decide)) (hF90.mo (by decide) (by decide)))⟩
        · exact absurd (hz.symm.trans (cIn_f hw)) (by decide)
        · exact Eq.trans h691 (by exact (cIn_f hw).symm)
        · exact hR89
set_option maxRecDepth 4000 in
set_option maxHeartbeats 4000000 in
theorem s_X7_spoiled {n : Nat} {sh : mS} {G : mG} {I : mI} {J : mJ} {m : Nat} {σ : sT} (hm : ModG n sh G m) (hR : RelW (I (m + 1)) σ) (hI : Inv σ) : Sp yX7_spoiled cX7_spoiled 4 (some FieldType.int) 5 240 0 0 [.ref m] n sh G I J (Qi (fun r_ I_ J_ => (0 = 0 → a_spl σ = r_) ∧ I_ m 6 = 0 ∧ J = J_ ∧ RelW (I_ (m + 1)) (σ) ∧ FF m [1, 2, 8] [6, 18, 19, 20, 21, 22, 23, 24, 26, 27] I I_)) nX := by
  have hb := hI.bd
  refine Sp.of (by decide) (ls := [(0, .ref m)]) (fun _ => rfl) (fun _ => Nat.le_of_ble_eq_true rfl) ?_
  have cut0 : ∀ (Iz : mI), RelW (Iz (m + 1)) σ → Iz m 6 = 0 → FF m [1, 2, 8] [6, 18, 19, 20, 21, 22, 23, 24, 26, 27] I Iz → ∀ v : Int32, v = -1 → activeI σ = -1 → Rc RX7 cX7_spoiled 4 (some FieldType.int) 5 240 0 0 n sh G (Qi (fun r_ I_ J_ => (0 = 0 → a_spl σ = r_) ∧ I_ m 6 = 0 ∧ J = J_ ∧ RelW (I_ (m + 1)) (σ) ∧ FF m [1, 2, 8] [6, 18, 19, 20, 21, 22, 23, 24, 26, 27] I I_)) nX 0 0 14 [(2, .int 0), (3, .int 1), (1, .int v), (0, .ref m)] [] Iz J := by
    intro Iz hRz h6z hFz v hv hA
    subst hv
    refine rc_p (p_iload_n 2 (dk_at ktX7_spoiled_0 10 rfl) rfl rfl (b := 15) rfl) ?_
    refine rc_p (p_iconst (v := (-1)) (dk_at ktX7_spoiled_0 11 rfl) (by decide) (b := 16) rfl) ?_
    refine r_icmp_eq (dk_at ktX7_spoiled_0 12 rfl) (b := 68) (by decide) (b2 := 19) rfl (fun c16 => ?_) (fun c16 => ?_)
    · skip
      refine rc_p (p_iload_n 0 (dk_at ktX7_spoiled_0 41 rfl) rfl rfl (b := 69) rfl) ?_
      refine r_iret (dk_at ktX7_spoiled_0 42 rfl) rfl rfl ⟨_, rfl, ?_⟩
      refine ⟨fun _ => ?_, ?_, rfl, hRz, hFz⟩
      · exact if_pos hA
      · exact h6z
    · first | exact absurd c16 (by decide) | exact absurd (by decide) c16
  have cut14 : ∀ (p : Nat), p < 2 → activeI σ = nI p → ∀ (Iz : mI), RelW (Iz (m + 1)) σ → Iz m 6 = 0 → FF m [1, 2, 8] [6, 18, 19, 20, 21, 22, 23, 24, 26, 27] I Iz → ∀ (t k : Nat) (y : Int32), 32 - k < t → 1 ≤ k → k ≤ nJ σ → y = nI (splN σ p k) → Rc RX7 cX7_spoiled 4 (some FieldType.int) 5 240 0 0 n sh G (Qi (fun r_ I_ J_ => (0 = 0 → a_spl σ = r_) ∧ I_ m 6 = 0 ∧ J = J_ ∧ RelW (I_ (m + 1)) (σ) ∧ FF m [1, 2, 8] [6, 18, 19, 20, 21, 22, 23, 24, 26, 27] I I_)) nX 0 0 14 [(2, .int y), (3, .int (nI k)), (1, .int (nI p)), (0, .ref m)] [] Iz J := by
    intro p hp hA Iz hRz h6z hFz t
    induction t
    · intro k y h; omega
    rename_i t ih
    intro k y ht hk0 h1 hx
    subst hx
    have hsl := splN_le σ p k
    refine rc_p (p_iload_n 2 (dk_at ktX7_spoiled_0 10 rfl) rfl rfl (b := 15) rfl) ?_
    refine rc_p (p_iconst (v := (-1)) (dk_at ktX7_spoiled_0 11 rfl) (by decide) (b := 16) rfl) ?_
    refine r_icmp_eq (dk_at ktX7_spoiled_0 12 rfl) (b := 68) (by decide) (b2 := 19) rfl (fun c16 => ?_) (fun c16 => ?_)
    · skip
      exfalso; exact nI_nm1 (p := p) (by omega) c16
    · skip
      refine rc_p (p_iload_n 1 (dk_at ktX7_spoiled_0 13 rfl) rfl rfl (b := 20) rfl) ?_
      refine rc_p (p_aload_n 3 (dk_at ktX7_spoiled_0 14 rfl) rfl rfl (b := 21) rfl) ?_
      refine r_geta fl_X7_9 rfl hm.l0 hm.s0 (dk_at ktX7_spoiled_0 15 rfl) hm.g0_0 (b := 24) rfl ?_
      refine rc_p (p_iconst (v := 2) (dk_at ktX7_spoiled_0 16 rfl) (by decide) (b := 25) rfl) ?_
      refine r_iald (j := 2) (hm.lt 1 (by decide)) hm.s1 (dk_at ktX7_spoiled_0 17 rfl) rfl ⟨by decide, by decide⟩ (v := (nI (nJ σ))) ((hRz.1 2 (by decide)).trans hI.w2) (b := 26) rfl ?_
      refine r_icmp_ge (dk_at ktX7_spoiled_0 18 rfl) (b := 68) (by decide) (b2 := 29) rfl (fun c26 => ?_) (fun c26 => ?_)
      · have c26 : (nJ σ) ≤ k := (nI_leI (a := nJ σ) (b := k) (by omega) (by omega)).mp c26
        refine rc_p (p_iload_n 0 (dk_at ktX7_spoiled_0 41 rfl) rfl rfl (b := 69) rfl) ?_
        refine r_iret (dk_at ktX7_spoiled_0 42 rfl) rfl rfl ⟨_, rfl, ?_⟩
        refine ⟨fun _ => ?_, ?_, rfl, hRz, hFz⟩
        · rw [a_spl, if_neg (by rw [hA]; exact nI_nm1 (by omega)), hA, tn_nI (by omega), show nJ σ = k by omega]
        · exact h6z
      · have c26 : ¬ (nJ σ) ≤ k := fun h => c26 ((nI_leI (a := nJ σ) (b := k) (by omega) (by omega)).mpr h)
        refine rc_p (p_iload_n 0 (dk_at ktX7_spoiled_0 19 rfl) rfl rfl (b := 30) rfl) ?_
        refine rc_p (p_aload_n 3 (dk_at ktX7_spoiled_0 20 rfl) rfl rfl (b := 31) rfl) ?_
        refine r_geta fl_X7_9 rfl hm.l0 hm.s0 (dk_at ktX7_spoiled_0 21 rfl) hm.g0_0 (b := 34) rfl ?_
        refine rc_p (p_iload_n 2 (dk_at ktX7_spoiled_0 22 rfl) rfl rfl (b := 35) rfl) ?_
        refine r_iS (As := [.int (nI p)]) (rest := [.ref (m + 1), .int (nI (splN σ p k))]) (s_X7_pageAt p) cw_X7_216 qs_X7_pageAt (dk_at ktX7_spoiled_0 23 rfl) rfl rfl (Nat.le_of_ble_eq_true rfl) (by decide) (b := 38) rfl (fun v4 I1 J2 q3 => ?_)
        obtain ⟨rfl, rfl, rfl⟩ := q3
        refine rc_p (p_iload_n 1 (dk_at ktX7_spoiled_0 24 rfl) rfl rfl (b := 39) rfl) ?_
        refine rc_p (p_iadd (v := (nI (211 + 32 * p + k))) (dk_at ktX7_spoiled_0 25 rfl) (nI_add (211 + 32 * p) k) (b := 40) rfl) ?_
        refine r_iald (j := 211 + 32 * p + k) (hm.lt 1 (by decide)) hm.s1 (dk_at ktX7_spoiled_0 26 rfl) rfl ⟨by omega, by decide⟩ (v := (σ (211 + 32 * p + k))) (hRz.1 (211 + 32 * p + k) (by omega)) (b := 41) rfl ?_
        refine rc_p (p_ldc (v := 65535) qk_TwinBootModel_49 (dk_at ktX7_spoiled_0 27 rfl) (b := 43) rfl) ?_
        refine r_icmp_eq (dk_at ktX7_spoiled_0 28 rfl) (b := 59) (by decide) (b2 := 46) rfl (fun c43 => ?_) (fun c43 => ?_)
        · skip
          refine rc_p (p_iconst (v := 0) (dk_at ktX7_spoiled_0 36 rfl) (by decide) (b := 60) rfl) ?_
          refine rc_p (p_iadd (v := (nI (splN σ p k))) (dk_at ktX7_spoiled_0 37 rfl) (nI_add (splN σ p k) 0) (b := 61) rfl) ?_
          refine rc_p (p_istore_n (ls' := [(2, .int (nI (splN σ p k))), (3, .int (nI k)), (1, .int (nI p)), (0, .ref m)]) (dk_at ktX7_spoiled_0 38 rfl) rfl (by decide) rfl (b := 62) rfl) ?_
          refine rc_p (p_iinc (j := 1) (v := (nI (k + 1))) (ls' := [(3, .int (nI (k + 1))), (2, .int (nI (splN σ p k))), (1, .int (nI p)), (0, .ref m)]) (dk_at ktX7_spoiled_0 39 rfl) rfl (nI_add k 1) (by decide) rfl (b := 65) rfl) ?_
          refine rc_p (p_goto (b := 14) (dk_at ktX7_spoiled_0 40 rfl) (by decide)) ?_
          refine rc_sub [1, 0, 2, 3] (ls' := [(2, .int (nI (splN σ p k))), (3, .int (nI (k + 1))), (1, .int (nI p)), (0, .ref m)]) rfl ?_
          exact ih (k + 1) _ (by omega) (by omega) (by omega) (by rw [splN, if_pos (Or.inr (Or.inl c43))])
        · skip
          refine rc_p (p_aload_n 3 (dk_at ktX7_spoiled_0 29 rfl) rfl rfl (b := 47) rfl) ?_
          refine rc_p (p_iload_n 2 (dk_at ktX7_spoiled_0 30 rfl) rfl rfl (b := 48) rfl) ?_
          refine rc_p (p_iload_n 1 (dk_at ktX7_spoiled_0 31 rfl) rfl rfl (b := 49) rfl) ?_
          refine r_iV (As' := [.int (nI p), .int (nI k)]) (rest := [.int (nI (splN σ p k))]) (s_X7_isRecord hm (σ := σ) hRz hI p k (by omega) (by omega)) cw_X7_248 qi_X7_isRecord qv_X7_isRecord rfl hm.l0 hm.s0 (dk_at ktX7_spoiled_0 32 rfl) rfl rfl (Nat.le_of_ble_eq_true rfl) (by decide) (b := 52) rfl (fun v8 I5 J6 q7 => ?_)
          obtain ⟨rfl, rfl, rfl⟩ := q7
          refine r_if_ne (dk_at ktX7_spoiled_0 33 rfl) (b := 59) (by decide) (b2 := 55) rfl (fun c52 => ?_) (fun c52 => ?_)
          · have c52 := bi_t c52
            refine rc_p (p_iconst (v := 0) (dk_at ktX7_spoiled_0 36 rfl) (by decide) (b := 60) rfl) ?_
            refine rc_p (p_iadd (v := (nI (splN σ p k))) (dk_at ktX7_spoiled_0 37 rfl) (nI_add (splN σ p k) 0) (b := 61) rfl) ?_
            refine rc_p (p_istore_n (ls' := [(2, .int (nI (splN σ p k))), (3, .int (nI k)), (1, .int (nI p)), (0, .ref m)]) (dk_at ktX7_spoiled_0 38 rfl) rfl (by decide) rfl (b := 62) rfl) ?_
            refine rc_p (p_iinc (j := 1) (v := (nI (k + 1))) (ls' := [(3, .int (nI (k + 1))), (2, .int (nI (splN σ p k))), (1, .int (nI p)), (0, .ref m)]) (dk_at ktX7_spoiled_0 39 rfl) rfl (nI_add k 1) (by decide) rfl (b := 65) rfl) ?_
            refine rc_p (p_goto (b := 14) (dk_at ktX7_spoiled_0 40 rfl) (by decide)) ?_
            refine rc_sub [1, 0, 2, 3] (ls' := [(2, .int (nI (splN σ p k))), (3, .int (nI (k + 1))), (1, .int (nI p)), (0, .ref m)]) rfl ?_
            exact ih (k + 1) _ (by omega) (by omega) (by omega) (by rw [splN, if_pos (Or.inr (Or.inr c52))])
          · have c52 := bi_f c52
            refine rc_p (p_iconst (v := 1) (dk_at ktX7_spoiled_0 34 rfl) (by decide) (b := 56) rfl) ?_
            refine rc_p (p_goto (b := 60) (dk_at ktX7_spoiled_0 35 rfl) (by decide)) ?_
            refine rc_p (p_iadd (v := (nI (splN σ p k + 1))) (dk_at ktX7_spoiled_0 37 rfl) (nI_add (splN σ p k) 1) (b := 61) rfl) ?_
            refine rc_p (p_istore_n (ls' := [(2, .int (nI (splN σ p k + 1))), (3, .int (nI k)), (1, .int (nI p)), (0, .ref m)]) (dk_at ktX7_spoiled_0 38 rfl) rfl (by decide) rfl (b := 62) rfl) ?_
            refine rc_p (p_iinc (j := 1) (v := (nI (k + 1))) (ls' := [(3, .int (nI (k + 1))), (2, .int (nI (splN σ p k + 1))), (1, .int (nI p)), (0, .ref m)]) (dk_at ktX7_spoiled_0 39 rfl) rfl (nI_add k 1) (by decide) rfl (b := 65) rfl) ?_
            refine rc_p (p_goto (b := 14) (dk_at ktX7_spoiled_0 40 rfl) (by decide)) ?_
            refine rc_sub [1, 0, 2, 3] (ls' := [(2, .int (nI (splN σ p k + 1))), (3, .int (nI (k + 1))), (1, .int (nI p)), (0, .ref m)]) rfl ?_
            exact ih (k + 1) _ (by omega) (by omega) (by omega) (by rw [splN, if_neg (by rintro (q | q | q); omega; exact c43 q; rw [c52] at q; exact absurd q (by decide))])
  refine rc_p (p_aload_n 0 (dk_at ktX7_spoiled_0 0 rfl) rfl rfl (b := 1) rfl) ?_
  refine rc_p (p_iconst (v := 0) (dk_at ktX7_spoiled_0 1 rfl) (by decide) (b := 2) rfl) ?_
  refine r_puti fl_X7_46 fw_X7_6 rfl hm.l0 hm.s0 rfl rfl (dk_at ktX7_spoiled_0 2 rfl) (b := 5) rfl ?_
  refine rc_p (p_aload_n 0 (dk_at ktX7_spoiled_0 3 rfl) rfl rfl (b := 6) rfl) ?_
  refine r_iV (As' := []) (rest := []) (s_X7_active hm (σ := σ) (by rw [up2_off (by omega)]; exact hR) hI) cw_X7_245 qi_X7_active qv_X7_active rfl hm.l0 hm.s0 (dk_at ktX7_spoiled_0 4 rfl) rfl rfl (Nat.le_of_ble_eq_true rfl) (by decide) (b := 9) rfl (fun v12 I9 J10 q11 => ?_)
  obtain ⟨ea13, rfl, rfl⟩ := q11
  refine rc_p (p_istore_n (ls' := [(1, .int v12), (0, .ref m)]) (dk_at ktX7_spoiled_0 5 rfl) rfl (by decide) rfl (b := 10) rfl) ?_
  refine rc_p (p_iconst (v := 0) (dk_at ktX7_spoiled_0 6 rfl) (by decide) (b := 11) rfl) ?_
  refine rc_p (p_istore_n (ls' := [(2, .int 0), (1, .int v12), (0, .ref m)]) (dk_at ktX7_spoiled_0 7 rfl) rfl (by decide) rfl (b := 12) rfl) ?_
  refine rc_p (p_iconst (v := 1) (dk_at ktX7_spoiled_0 8 rfl) (by decide) (b := 13) rfl) ?_
  refine rc_p (p_istore_n (ls' := [(3, .int 1), (2, .int 0), (1, .int v12), (0, .ref m)]) (dk_at ktX7_spoiled_0 9 rfl) rfl (by decide) rfl (b := 14) rfl) ?_
  refine rc_sub [1, 0, 2, 3] (ls' := [(2, .int 0), (3, .int 1), (1, .int v12), (0, .ref m)]) rfl ?_
  have ea := ea13
  by_cases hn : v12 = -1
  · refine cut0 (up2 I m 6 0) (by rw [up2_off (by omega)]; exact hR) up2_s (FF.uf FF.rf (by decide)) _ hn (ea.trans hn)
  · obtain ⟨p, hp, rfl⟩ := act_n ea hn
    exact cut14 p hp ea (up2 I m 6 0) (by rw [up2_off (by omega)]; exact hR) up2_s (FF.uf FF.rf (by decide)) 1000 1 _ (by omega) (by omega) (by omega) (by rw [splN, if_pos (Or.inl rfl)]; rfl)
set_option maxRecDepth 4000 in
set_option maxHeartbeats 4000000 in
theorem s_X7_thriftyPages {n : Nat} {sh : mS} {G : mG} {I : mI} {J : mJ} {m : Nat} {σ : sT} (hm : ModG n sh G m) (hR : RelW (I (m + 1)) σ) (hI : Inv σ) : Sp yX7_thriftyPages cX7_thriftyPages 3 (some FieldType.int) 3 144 0 0 [.ref m] n sh G I J (Qi (fun r_ I_ J_ => (0 = 0 → a_tp σ = r_) ∧ I_ m 6 = 0 ∧ J = J_ ∧ RelW (I_ (m + 1)) (σ) ∧ FF m [1, 2, 8] [6, 18, 19, 20, 21, 22, 23, 24, 26, 27] I I_)) nX := by
  have hb := hI.bd
  refine Sp.of (by decide) (ls := [(0, .ref m)]) (fun _ => rfl) (fun _ => Nat.le_of_ble_eq_true rfl) ?_
  have cut35 : (σ 7 = 1 ∧ ¬ σ 4 = 0) → ∀ (r : Nat), r < 2 → σ 8 = nI r → ∀ (Iz : mI), RelW (Iz (m + 1)) σ → Iz m 6 = 0 → FF m [1, 2, 8] [6, 18, 19, 20, 21, 22, 23, 24, 26, 27] I Iz → Iz m 26 = nI (nS σ) ∧ (∀ k, k < (nS σ) → Iz (m + 8) (3 + k) = (payS σ) (3 + k)) → ∀ (t p : Nat) (y : Int32), nW σ / nP σ - p < t → p ≤ nW σ / nP σ → y = orL (tpF σ (1 - r)) p → Rc RX7 cX7_thriftyPages 3 (some FieldType.int) 3 144 0 0 n sh G (Qi (fun r_ I_ J_ => (0 = 0 → a_tp σ = r_) ∧ I_ m 6 = 0 ∧ J = J_ ∧ RelW (I_ (m + 1)) (σ) ∧ FF m [1, 2, 8] [6, 18, 19, 20, 21, 22, 23, 24, 26, 27] I I_)) nX 0 0 35 [(1, .int y), (2, .int (nI p)), (0, .ref m)] [] Iz J := by
    intro hcond r hr er Iz hRz h6z hFz hPz t
    have h16 := pgN_16 hI 0
    rw [pgN_n (by decide)] at h16
    induction t
    · intro p y h; omega
    rename_i t ih
    intro p y ht h1 hx
    subst hx
    refine rc_p (p_iload_n 1 (dk_at ktX7_thriftyPages_0 22 rfl) rfl rfl (b := 36) rfl) ?_
    refine rc_p (p_aload_n 2 (dk_at ktX7_thriftyPages_0 23 rfl) rfl rfl (b := 37) rfl) ?_
    refine r_geta fl_X7_9 rfl hm.l0 hm.s0 (dk_at ktX7_thriftyPages_0 24 rfl) hm.g0_0 (b := 40) rfl ?_
    refine rc_p (p_iconst (v := 0) (dk_at ktX7_thriftyPages_0 25 rfl) (by decide) (b := 41) rfl) ?_
    refine r_iald (j := 0) (hm.lt 1 (by decide)) hm.s1 (dk_at ktX7_thriftyPages_0 26 rfl) rfl ⟨by decide, by decide⟩ (v := (nI (nW σ))) ((hRz.1 0 (by decide)).trans hI.w0) (b := 42) rfl ?_
    refine rc_p (p_aload_n 2 (dk_at ktX7_thriftyPages_0 27 rfl) rfl rfl (b := 43) rfl) ?_
    refine r_geta fl_X7_9 rfl hm.l0 hm.s0 (dk_at ktX7_thriftyPages_0 28 rfl) hm.g0_0 (b := 46) rfl ?_
    refine rc_p (p_iconst (v := 1) (dk_at ktX7_thriftyPages_0 29 rfl) (by decide) (b := 47) rfl) ?_
    refine r_iald (j := 1) (hm.lt 1 (by decide)) hm.s1 (dk_at ktX7_thriftyPages_0 30 rfl) rfl ⟨by decide, by decide⟩ (v := (nI (nP σ))) ((hRz.1 1 (by decide)).trans hI.w1) (b := 48) rfl ?_
    refine rc_p (p_idiv (v := (nI (nW σ / nP σ))) (dk_at ktX7_thriftyPages_0 31 rfl) (nI_ne0 (by omega) (by omega)) (n_div (by omega) (by omega) (by omega)) (b := 49) rfl) ?_
    refine r_icmp_ge (dk_at ktX7_thriftyPages_0 32 rfl) (b := 85) (by decide) (b2 := 52) rfl (fun c49 => ?_) (fun c49 => ?_)
    · have c49 : (nW σ / nP σ) ≤ p := (nI_leI (a := nW σ / nP σ) (b := p) (by omega) (by omega)).mp c49
      refine rc_p (p_iload_n 0 (dk_at ktX7_thriftyPages_0 53 rfl) rfl rfl (b := 86) rfl) ?_
      refine r_iret (dk_at ktX7_thriftyPages_0 54 rfl) rfl rfl ⟨_, rfl, ?_⟩
      refine ⟨fun _ => ?_, ?_, rfl, hRz, hFz⟩
      · rw [a_tp, if_pos hcond, er, tn_nI (by omega), show nW σ / nP σ = p by omega]
      · exact h6z
    · have c49 : ¬ (nW σ / nP σ) ≤ p := fun h => c49 ((nI_leI (a := nW σ / nP σ) (b := p) (by omega) (by omega)).mpr h)
      refine rc_p (p_iload_n 0 (dk_at ktX7_thriftyPages_0 33 rfl) rfl rfl (b := 53) rfl) ?_
      refine rc_p (p_aload_n 2 (dk_at ktX7_thriftyPages_0 34 rfl) rfl rfl (b := 54) rfl) ?_
      refine rc_p (p_iconst (v := 1) (dk_at ktX7_thriftyPages_0 35 rfl) (by decide) (b := 55) rfl) ?_
      refine rc_p (p_aload_n 2 (dk_at ktX7_thriftyPages_0 36 rfl) rfl rfl (b := 56) rfl) ?_
      refine r_geta fl_X7_9 rfl hm.l0 hm.s0 (dk_at ktX7_thriftyPages_0 37 rfl) hm.g0_0 (b := 59) rfl ?_
      refine rc_p (p_bipush (v := 8) (dk_at ktX7_thriftyPages_0 38 rfl) (by decide) (b := 61) rfl) ?_
      refine r_iald (j := 8) (hm.lt 1 (by decide)) hm.s1 (dk_at ktX7_thriftyPages_0 39 rfl) rfl ⟨by decide, by decide⟩ (v := (nI r)) ((hRz.1 8 (by decide)).trans er) (b := 62) rfl ?_
      refine rc_p (p_isub (v := (nI (1 - r))) (dk_at ktX7_thriftyPages_0 40 rfl) (pk_sub (a := 1) (b := r) (by omega)) (b := 63) rfl) ?_
      refine rc_p (p_iload_n 1 (dk_at ktX7_thriftyPages_0 41 rfl) rfl rfl (b := 64) rfl) ?_
      refine r_iV (As' := [.int (nI (1 - r)), .int (nI p)]) (rest := [.int (orL (tpF σ (1 - r)) p)]) (s_X7_isSpent hm (σ := σ) hRz hI (1 - r) p (by omega) (by omega) (payS σ) (nS σ) (by omega) hPz) cw_X7_334 qi_X7_isSpent qv_X7_isSpent rfl hm.l0 hm.s0 (dk_at ktX7_thriftyPages_0 42 rfl) rfl rfl (Nat.le_of_ble_eq_true rfl) (by decide) (b := 67) rfl (fun v4 I1 J2 q3 => ?_)
      obtain ⟨rfl, rfl, rfl⟩ := q3
      refine r_if_eq (dk_at ktX7_thriftyPages_0 43 rfl) (b := 76) (by decide) (b2 := 70) rfl (fun c67 => ?_) (fun c67 => ?_)
      · have c67 := bi_f c67
        refine rc_p (p_iconst (v := 0) (dk_at ktX7_thriftyPages_0 48 rfl) (by decide) (b := 77) rfl) ?_
        refine rc_p (p_ior (v := ((orL (tpF σ (1 - r)) p) ||| 0)) (dk_at ktX7_thriftyPages_0 49 rfl) rfl (b := 78) rfl) ?_
        refine rc_p (p_istore_n (ls' := [(1, .int ((orL (tpF σ (1 - r)) p) ||| 0)), (2, .int (nI p)), (0, .ref m)]) (dk_at ktX7_thriftyPages_0 50 rfl) rfl (by decide) rfl (b := 79) rfl) ?_
        refine rc_p (p_iinc (j := 1) (v := (nI (p + 1))) (ls' := [(2, .int (nI (p + 1))), (1, .int ((orL (tpF σ (1 - r)) p) ||| 0)), (0, .ref m)]) (dk_at ktX7_thriftyPages_0 51 rfl) rfl (nI_add p 1) (by decide) rfl (b := 82) rfl) ?_
        refine rc_p (p_goto (b := 35) (dk_at ktX7_thriftyPages_0 52 rfl) (by decide)) ?_
        refine rc_sub [1, 0, 2] (ls' := [(1, .int ((orL (tpF σ (1 - r)) p) ||| 0)), (2, .int (nI (p + 1))), (0, .ref m)]) rfl ?_
        exact ih (p + 1) _ (by omega) (by omega) (by show _ = orL (tpF σ (1 - r)) p ||| tpF σ (1 - r) p; rw [tpF, if_neg (by rw [c67]; decide)])
      · have c67 := bi_t c67
        refine rc_p (p_iconst (v := 1) (dk_at ktX7_thriftyPages_0 44 rfl) (by decide) (b := 71) rfl) ?_
        refine rc_p (p_iload_n 1 (dk_at ktX7_thriftyPages_0 45 rfl) rfl rfl (b := 72) rfl) ?_
        refine rc_p (p_ishl (v := (1 <<< ((nI p) &&& 31))) (dk_at ktX7_thriftyPages_0 46 rfl) rfl (b := 73) rfl) ?_
        refine rc_p (p_goto (b := 77) (dk_at ktX7_thriftyPages_0 47 rfl) (by decide)) ?_
        refine rc_p (p_ior (v := ((orL (tpF σ (1 - r)) p) ||| (1 <<< ((nI p) &&& 31)))) (dk_at ktX7_thriftyPages_0 49 rfl) rfl (b := 78) rfl) ?_
        refine rc_p (p_istore_n (ls' := [(1, .int ((orL (tpF σ (1 - r)) p) ||| (1 <<< ((nI p) &&& 31)))), (2, .int (nI p)), (0, .ref m)]) (dk_at ktX7_thriftyPages_0 50 rfl) rfl (by decide) rfl (b := 79) rfl) ?_
        refine rc_p (p_iinc (j := 1) (v := (nI (p + 1))) (ls' := [(2, .int (nI (p + 1))), (1, .int ((orL (tpF σ (1 - r)) p) ||| (1 <<< ((nI p) &&& 31)))), (0, .ref m)]) (dk_at ktX7_thriftyPages_0 51 rfl) rfl (nI_add p 1) (by decide) rfl (b := 82) rfl) ?_
        refine rc_p (p_goto (b := 35) (dk_at ktX7_thriftyPages_0 52 rfl) (by decide)) ?_
        refine rc_sub [1, 0, 2] (ls' := [(1, .int ((orL (tpF σ (1 - r)) p) ||| (1 <<< ((nI p) &&& 31)))), (2, .int (nI (p + 1))), (0, .ref m)]) rfl ?_
        exact ih (p + 1) _ (by omega) (by omega) (by show _ = orL (tpF σ (1 - r)) p ||| tpF σ (1 - r) p; rw [tpF, if_pos c67]; rfl)
  refine rc_p (p_aload_n 0 (dk_at ktX7_thriftyPages_0 0 rfl) rfl rfl (b := 1) rfl) ?_
  refine rc_p (p_iconst (v := 0) (dk_at ktX7_thriftyPages_0 1 rfl) (by decide) (b := 2) rfl) ?_
  refine r_puti fl_X7_46 fw_X7_6 rfl hm.l0 hm.s0 rfl rfl (dk_at ktX7_thriftyPages_0 2 rfl) (b := 5) rfl ?_
  refine rc_p (p_aload_n 0 (dk_at ktX7_thriftyPages_0 3 rfl) rfl rfl (b := 6) rfl) ?_
  refine r_geta fl_X7_9 rfl hm.l0 hm.s0 (dk_at ktX7_thriftyPages_0 4 rfl) hm.g0_0 (b := 9) rfl ?_
  refine rc_p (p_bipush (v := 7) (dk_at ktX7_thriftyPages_0 5 rfl) (by decide) (b := 11) rfl) ?_
  refine r_iald (j := 7) (hm.lt 1 (by decide)) hm.s1 (dk_at ktX7_thriftyPages_0 6 rfl) rfl ⟨by decide, by decide⟩ (v := (σ 7)) ((up2_n (by omega)).trans (hR.1 7 (by decide))) (b := 12) rfl ?_
  refine rc_p (p_iconst (v := 1) (dk_at ktX7_thriftyPages_0 7 rfl) (by decide) (b := 13) rfl) ?_
  refine r_icmp_ne (dk_at ktX7_thriftyPages_0 8 rfl) (b := 25) (by decide) (b2 := 16) rfl (fun c13 => ?_) (fun c13 => ?_)
  · skip
    refine rc_p (p_iconst (v := 0) (dk_at ktX7_thriftyPages_0 14 rfl) (by decide) (b := 26) rfl) ?_
    refine r_iret (dk_at ktX7_thriftyPages_0 15 rfl) rfl rfl ⟨_, rfl, ?_⟩
    refine ⟨fun hz => ?_, ?_, rfl, ?_, (FF.uf FF.rf (by decide))⟩
    · exact if_neg (fun q => c13 q.1)
    · exact Eq.trans up2_s (by rfl)
    · exact (by rw [up2_off (by omega)]; exact hR)
  · skip
    refine rc_p (p_aload_n 0 (dk_at ktX7_thriftyPages_0 9 rfl) rfl rfl (b := 17) rfl) ?_
    refine r_geta fl_X7_9 rfl hm.l0 hm.s0 (dk_at ktX7_thriftyPages_0 10 rfl) hm.g0_0 (b := 20) rfl ?_
    refine rc_p (p_iconst (v := 4) (dk_at ktX7_thriftyPages_0 11 rfl) (by decide) (b := 21) rfl) ?_
    refine r_iald (j := 4) (hm.lt 1 (by decide)) hm.s1 (dk_at ktX7_thriftyPages_0 12 rfl) rfl ⟨by decide, by decide⟩ (v := (σ 4)) ((show RelW ((up2 I m 6 0) (m + 1)) σ from (by rw [up2_off (by omega)]; exact hR)).1 4 (by decide)) (b := 22) rfl ?_
    refine r_if_ne (dk_at ktX7_thriftyPages_0 13 rfl) (b := 27) (by decide) (b2 := 25) rfl (fun c22 => ?_) (fun c22 => ?_)
    · skip
      refine rc_p (p_aload_n 0 (dk_at ktX7_thriftyPages_0 16 rfl) rfl rfl (b := 28) rfl) ?_
      refine r_vV (As' := []) (rest := []) (s_X7_takesStaged hm (σ := σ) (by rw [up2_off (by omega)]; exact hR) hI) cw_X7_343 qi_X7_takesStaged qv_X7_takesStaged rfl hm.l0 hm.s0 (dk_at ktX7_thriftyPages_0 17 rfl) rfl rfl (Nat.le_of_ble_eq_true rfl) (by decide) (b := 31) rfl (fun I5 J6 q7 => ?_)
      obtain ⟨rfl, hR9, hF10, hP11⟩ := q7
      refine rc_p (p_iconst (v := 0) (dk_at ktX7_thriftyPages_0 18 rfl) (by decide) (b := 32) rfl) ?_
      refine rc_p (p_istore_n (ls' := [(1, .int 0), (0, .ref m)]) (dk_at ktX7_thriftyPages_0 19 rfl) rfl (by decide) rfl (b := 33) rfl) ?_
      refine rc_p (p_iconst (v := 0) (dk_at ktX7_thriftyPages_0 20 rfl) (by decide) (b := 34) rfl) ?_
      refine rc_p (p_istore_n (ls' := [(2, .int 0), (1, .int 0), (0, .ref m)]) (dk_at ktX7_thriftyPages_0 21 rfl) rfl (by decide) rfl (b := 35) rfl) ?_
      refine rc_sub [1, 0, 2] (ls' := [(1, .int 0), (2, .int 0), (0, .ref m)]) rfl ?_
      have h7 : σ 7 = 1 := c13
      obtain ⟨r, hr, er⟩ := hI.2.2.1.run h7
      exact cut35 ⟨h7, c22⟩ r hr er I5 hR9 (((hF10.2 6 (by decide))).trans up2_s) (FF.tr (FF.uf FF.rf (by decide)) (hF10.mo (by decide) (by decide))) hP11 (nW σ / nP σ + 1) 0 _ (Nat.lt_succ_self _) (Nat.zero_le _) rfl
    · skip
      refine rc_p (p_iconst (v := 0) (dk_at ktX7_thriftyPages_0 14 rfl) (by decide) (b := 26) rfl) ?_
      refine r_iret (dk_at ktX7_thriftyPages_0 15 rfl) rfl rfl ⟨_, rfl, ?_⟩
      refine ⟨fun hz => ?_, ?_, rfl, ?_, (FF.uf FF.rf (by decide))⟩
      · exact if_neg (fun q => q.2 c22)
      · exact Eq.trans up2_s (by rfl)
      · exact (by rw [up2_off (by omega)]; exact hR)
set_option maxRecDepth 4000 in
set_option maxHeartbeats 4000000 in
theorem s_X7_copies {n : Nat} {sh : mS} {G : mG} {I : mI} {J : mJ} {a b : Nat} (ha : ArG n sh a 429) (hb : ArG n sh b 429) (hab : a ≠ b) : Sp yX7_copies cX7_copies 3 none 1 48 0 0 [.ref a, .ref b] n sh G I J (Qv (fun I_ J_ => J = J_ ∧ (∀ c, c ≠ b → I_ c = I c) ∧ ∀ j, j < 429 → I_ b j = I a j)) nX := by
  refine Sp.of (by decide) (ls := [(0, .ref a), (1, .ref b)]) (fun _ => rfl) (fun _ => Nat.le_of_ble_eq_true rfl) ?_
  have cut2 : ∀ (t k : Nat) (Iz : mI), 429 - k < t → k ≤ 429 → (∀ c, c ≠ b → Iz c = I c) → (∀ j, j < k → Iz b j = I a j) → Rc RX7 cX7_copies 3 none 1 48 0 0 n sh G (Qv (fun I_ J_ => J = J_ ∧ (∀ c, c ≠ b → I_ c = I c) ∧ ∀ j, j < 429 → I_ b j = I a j)) nX 0 0 2 [(2, .int (nI k)), (0, .ref a), (1, .ref b)] [] Iz J := by
    intro t
    induction t
    · intro k Iz h; omega
    rename_i t ih
    intro k Iz ht h1 h0 hj0
    refine rc_p (p_iload_n 0 (dk_at ktX7_copies_0 2 rfl) rfl rfl (b := 3) rfl) ?_
    refine rc_p (p_sipush (v := 429) (dk_at ktX7_copies_0 3 rfl) (by decide) (b := 6) rfl) ?_
    refine r_icmp_ge (dk_at ktX7_copies_0 4 rfl) (b := 21) (by decide) (b2 := 9) rfl (fun c6 => ?_) (fun c6 => ?_)
    · have c6 : 429 ≤ k := (nI_leI (a := 429) (b := k) (by omega) (by omega)).mp c6
      refine r_vret (dk_at ktX7_copies_0 13 rfl) rfl ⟨rfl, ?_⟩
      exact ⟨rfl, h0, fun j hj => hj0 j (by omega)⟩
    · have c6 : ¬ 429 ≤ k := fun h => c6 ((nI_leI (a := 429) (b := k) (by omega) (by omega)).mpr h)
      refine rc_p (p_aload_n 2 (dk_at ktX7_copies_0 5 rfl) rfl rfl (b := 10) rfl) ?_
      refine rc_p (p_iload_n 0 (dk_at ktX7_copies_0 6 rfl) rfl rfl (b := 11) rfl) ?_
      refine rc_p (p_aload_n 1 (dk_at ktX7_copies_0 7 rfl) rfl rfl (b := 12) rfl) ?_
      refine rc_p (p_iload_n 0 (dk_at ktX7_copies_0 8 rfl) rfl rfl (b := 13) rfl) ?_
      refine r_iald (j := k) ha.l0 ha.s0 (dk_at ktX7_copies_0 9 rfl) rfl ⟨by omega, by omega⟩ (v := (I a k)) (congrFun (h0 a hab) k) (b := 14) rfl ?_
      refine r_iast (j := k) hb.l0 hb.s0 (dk_at ktX7_copies_0 10 rfl) rfl ⟨by omega, by omega⟩ (b := 15) rfl ?_
      refine rc_p (p_iinc (j := 0) (v := (nI (k + 1))) (ls' := [(2, .int (nI (k + 1))), (0, .ref a), (1, .ref b)]) (dk_at ktX7_copies_0 11 rfl) rfl (nI_add k 1) (by decide) rfl (b := 18) rfl) ?_
      refine rc_p (p_goto (b := 2) (dk_at ktX7_copies_0 12 rfl) (by decide)) ?_
      exact ih (k + 1) _ (by omega) (by omega) (fun c hc => (up2_off hc).trans (h0 c hc)) (fun j hj => by
        by_cases e : j = k
        · subst e; exact up2_s
        · rw [up2_k e]; exact hj0 j (by omega))
  refine rc_p (p_iconst (v := 0) (dk_at ktX7_copies_0 0 rfl) (by decide) (b := 1) rfl) ?_
  refine rc_p (p_istore_n (ls' := [(2, .int 0), (0, .ref a), (1, .ref b)]) (dk_at ktX7_copies_0 1 rfl) rfl (by decide) rfl (b := 2) rfl) ?_
  exact cut2 1000 0 I (by omega) (Nat.zero_le _) (fun _ _ => rfl) (fun j hj => absurd hj (by omega))

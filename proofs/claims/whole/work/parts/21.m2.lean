/-! THE REFERENCE: operations -/
set_option maxRecDepth 4000 in
set_option maxHeartbeats 4000000 in
theorem s_X7_notes {n : Nat} {sh : mS} {G : mG} {I : mI} {J : mJ} {m : Nat} {σ : sT} (hm : ModG n sh G m) (hR : RelW (I (m + 1)) σ) (hL : IvL σ) (e : Nat) (he : e < 8) (x : Int32) : Sp yX7_notes cX7_notes 4 none 1 48 0 0 [.ref m, .int (nI e), .int x] n sh G I J (Qv (fun I_ J_ => J = J_ ∧ RelW (I_ (m + 1)) (sNote σ e x) ∧ FF m [1] [] I I_)) nX := by
  refine Sp.of (by decide) (ls := [(0, .ref m), (1, .int (nI e)), (2, .int x)]) (fun _ => rfl) (fun _ => Nat.le_of_ble_eq_true rfl) ?_
  have cut29 : ∀ (t k : Nat) (Iz : mI), nL σ = 40 → 426 - k < t → 309 ≤ k → k ≤ 426 → Iz = shf (up2 I (m + 1) (11 + e) (σ (11 + e) + 1)) (m + 1) k → Rc RX7 cX7_notes 4 none 1 48 0 0 n sh G (Qv (fun I_ J_ => J = J_ ∧ RelW (I_ (m + 1)) (sNote σ e x) ∧ FF m [1] [] I I_)) nX 0 0 29 [(3, .int (nI k)), (0, .ref m), (1, .int (nI e)), (2, .int x)] [] Iz J := by
    intro t
    induction t
    · intro k Iz h40 h; omega
    rename_i t ih
    intro k Iz h40 ht h1 h2 hz
    refine rc_p (p_iload_n 0 (dk_at ktX7_notes_0 18 rfl) rfl rfl (b := 30) rfl) ?_
    refine rc_p (p_sipush (v := 426) (dk_at ktX7_notes_0 19 rfl) (by decide) (b := 33) rfl) ?_
    refine r_icmp_ge (dk_at ktX7_notes_0 20 rfl) (b := 56) (by decide) (b2 := 36) rfl (fun c33 => ?_) (fun c33 => ?_)
    · have c33 : 426 ≤ k := (nI_leI (a := 426) (b := k) (by omega) (by omega)).mp c33
      refine rc_p (p_aload_n 1 (dk_at ktX7_notes_0 33 rfl) rfl rfl (b := 57) rfl) ?_
      refine r_geta fl_X7_9 rfl hm.l0 hm.s0 (dk_at ktX7_notes_0 34 rfl) hm.g0_0 (b := 60) rfl ?_
      refine rc_p (p_bipush (v := 10) (dk_at ktX7_notes_0 35 rfl) (by decide) (b := 62) rfl) ?_
      refine rc_p (p_dup2 (dk_at ktX7_notes_0 36 rfl) rfl rfl (b := 63) rfl) ?_
      refine r_iald (j := 10) (hm.lt 1 (by decide)) hm.s1 (dk_at ktX7_notes_0 37 rfl) rfl ⟨by decide, by decide⟩ (v := (nI 40)) (by rw [hz]; simp only [shf]; rw [if_neg (by omega), up2_k (by omega)]; exact (hR.1 10 (by decide)).trans (hL.1.trans (by rw [h40]))) (b := 64) rfl ?_
      refine rc_p (p_iconst (v := 1) (dk_at ktX7_notes_0 38 rfl) (by decide) (b := 65) rfl) ?_
      refine rc_p (p_isub (v := (nI 39)) (dk_at ktX7_notes_0 39 rfl) (pk_sub (a := 40) (b := 1) (by decide)) (b := 66) rfl) ?_
      refine r_iast (j := 10) (hm.lt 1 (by decide)) hm.s1 (dk_at ktX7_notes_0 40 rfl) rfl ⟨by decide, by decide⟩ (b := 67) rfl ?_
      refine rc_p (p_sipush (v := 309) (dk_at ktX7_notes_0 41 rfl) (by decide) (b := 70) rfl) ?_
      refine rc_p (p_iconst (v := 3) (dk_at ktX7_notes_0 42 rfl) (by decide) (b := 71) rfl) ?_
      refine rc_p (p_aload_n 1 (dk_at ktX7_notes_0 43 rfl) rfl rfl (b := 72) rfl) ?_
      refine r_geta fl_X7_9 rfl hm.l0 hm.s0 (dk_at ktX7_notes_0 44 rfl) hm.g0_0 (b := 75) rfl ?_
      refine rc_p (p_bipush (v := 10) (dk_at ktX7_notes_0 45 rfl) (by decide) (b := 77) rfl) ?_
      refine r_iald (j := 10) (hm.lt 1 (by decide)) hm.s1 (dk_at ktX7_notes_0 46 rfl) rfl ⟨by decide, by decide⟩ (v := (nI 39)) up2_s (b := 78) rfl ?_
      refine rc_p (p_imul (v := 117) (dk_at ktX7_notes_0 47 rfl) rfl (b := 79) rfl) ?_
      refine rc_p (p_iadd (v := 426) (dk_at ktX7_notes_0 48 rfl) rfl (b := 80) rfl) ?_
      refine rc_p (p_istore_n (ls' := [(3, .int 426), (0, .ref m), (1, .int (nI e)), (2, .int x)]) (dk_at ktX7_notes_0 49 rfl) rfl (by decide) rfl (b := 81) rfl) ?_
      refine rc_p (p_aload_n 1 (dk_at ktX7_notes_0 50 rfl) rfl rfl (b := 82) rfl) ?_
      refine r_geta fl_X7_9 rfl hm.l0 hm.s0 (dk_at ktX7_notes_0 51 rfl) hm.g0_0 (b := 85) rfl ?_
      refine rc_p (p_iload_n 0 (dk_at ktX7_notes_0 52 rfl) rfl rfl (b := 86) rfl) ?_
      refine rc_p (p_iload_n 2 (dk_at ktX7_notes_0 53 rfl) rfl rfl (b := 87) rfl) ?_
      refine r_iast (j := 426) (hm.lt 1 (by decide)) hm.s1 (dk_at ktX7_notes_0 54 rfl) rfl ⟨by decide, by decide⟩ (b := 88) rfl ?_
      refine rc_p (p_aload_n 1 (dk_at ktX7_notes_0 55 rfl) rfl rfl (b := 89) rfl) ?_
      refine r_geta fl_X7_9 rfl hm.l0 hm.s0 (dk_at ktX7_notes_0 56 rfl) hm.g0_0 (b := 92) rfl ?_
      refine rc_p (p_iload_n 0 (dk_at ktX7_notes_0 57 rfl) rfl rfl (b := 93) rfl) ?_
      refine rc_p (p_iconst (v := 1) (dk_at ktX7_notes_0 58 rfl) (by decide) (b := 94) rfl) ?_
      refine rc_p (p_iadd (v := 427) (dk_at ktX7_notes_0 59 rfl) rfl (b := 95) rfl) ?_
      refine rc_p (p_iload_n 3 (dk_at ktX7_notes_1 0 rfl) rfl rfl (b := 96) rfl) ?_
      refine r_iast (j := 427) (hm.lt 1 (by decide)) hm.s1 (dk_at ktX7_notes_1 1 rfl) rfl ⟨by decide, by decide⟩ (b := 97) rfl ?_
      refine rc_p (p_aload_n 1 (dk_at ktX7_notes_1 2 rfl) rfl rfl (b := 98) rfl) ?_
      refine r_geta fl_X7_9 rfl hm.l0 hm.s0 (dk_at ktX7_notes_1 3 rfl) hm.g0_0 (b := 101) rfl ?_
      refine rc_p (p_iload_n 0 (dk_at ktX7_notes_1 4 rfl) rfl rfl (b := 102) rfl) ?_
      refine rc_p (p_iconst (v := 2) (dk_at ktX7_notes_1 5 rfl) (by decide) (b := 103) rfl) ?_
      refine rc_p (p_iadd (v := 428) (dk_at ktX7_notes_1 6 rfl) rfl (b := 104) rfl) ?_
      refine rc_p (p_aload_n 1 (dk_at ktX7_notes_1 7 rfl) rfl rfl (b := 105) rfl) ?_
      refine r_geta fl_X7_9 rfl hm.l0 hm.s0 (dk_at ktX7_notes_1 8 rfl) hm.g0_0 (b := 108) rfl ?_
      refine rc_p (p_bipush (v := 9) (dk_at ktX7_notes_1 9 rfl) (by decide) (b := 110) rfl) ?_
      refine r_iald (j := 9) (hm.lt 1 (by decide)) hm.s1 (dk_at ktX7_notes_1 10 rfl) rfl ⟨by decide, by decide⟩ (v := (σ 9)) (by rw [up2_k (by omega), up2_k (by omega), up2_k (by omega), hz]; simp only [shf]; rw [if_neg (by omega), up2_k (by omega)]; exact hR.1 9 (by decide)) (b := 111) rfl ?_
      refine r_iast (j := 428) (hm.lt 1 (by decide)) hm.s1 (dk_at ktX7_notes_1 11 rfl) rfl ⟨by decide, by decide⟩ (b := 112) rfl ?_
      refine rc_p (p_aload_n 1 (dk_at ktX7_notes_1 12 rfl) rfl rfl (b := 113) rfl) ?_
      refine r_geta fl_X7_9 rfl hm.l0 hm.s0 (dk_at ktX7_notes_1 13 rfl) hm.g0_0 (b := 116) rfl ?_
      refine rc_p (p_bipush (v := 10) (dk_at ktX7_notes_1 14 rfl) (by decide) (b := 118) rfl) ?_
      refine rc_p (p_dup2 (dk_at ktX7_notes_1 15 rfl) rfl rfl (b := 119) rfl) ?_
      refine r_iald (j := 10) (hm.lt 1 (by decide)) hm.s1 (dk_at ktX7_notes_1 16 rfl) rfl ⟨by decide, by decide⟩ (v := (nI 39)) ((up2_n (by omega)).trans ((up2_n (by omega)).trans ((up2_n (by omega)).trans up2_s))) (b := 120) rfl ?_
      refine rc_p (p_iconst (v := 1) (dk_at ktX7_notes_1 17 rfl) (by decide) (b := 121) rfl) ?_
      refine rc_p (p_iadd (v := 40) (dk_at ktX7_notes_1 18 rfl) rfl (b := 122) rfl) ?_
      refine r_iast (j := 10) (hm.lt 1 (by decide)) hm.s1 (dk_at ktX7_notes_1 19 rfl) rfl ⟨by decide, by decide⟩ (b := 123) rfl ?_
      refine r_vret (dk_at ktX7_notes_1 20 rfl) rfl ⟨rfl, ?_⟩
      refine ⟨rfl, ?_, ?_⟩
      · simp only [up2_row]; exact note_end40 hR hL h40 he (by rw [hz]; funext j; exact shf_end he j (by omega))
      · repeat refine FF.ua ?_ (by decide) (by decide)
        rw [hz]; exact shf_fr (FF.rf.ua (by decide) (by decide))
    · have c33 : ¬ 426 ≤ k := fun h => c33 ((nI_leI (a := 426) (b := k) (by omega) (by omega)).mpr h)
      refine rc_p (p_aload_n 1 (dk_at ktX7_notes_0 21 rfl) rfl rfl (b := 37) rfl) ?_
      refine r_geta fl_X7_9 rfl hm.l0 hm.s0 (dk_at ktX7_notes_0 22 rfl) hm.g0_0 (b := 40) rfl ?_
      refine rc_p (p_iload_n 0 (dk_at ktX7_notes_0 23 rfl) rfl rfl (b := 41) rfl) ?_
      refine rc_p (p_aload_n 1 (dk_at ktX7_notes_0 24 rfl) rfl rfl (b := 42) rfl) ?_
      refine r_geta fl_X7_9 rfl hm.l0 hm.s0 (dk_at ktX7_notes_0 25 rfl) hm.g0_0 (b := 45) rfl ?_
      refine rc_p (p_iload_n 0 (dk_at ktX7_notes_0 26 rfl) rfl rfl (b := 46) rfl) ?_
      refine rc_p (p_iconst (v := 3) (dk_at ktX7_notes_0 27 rfl) (by decide) (b := 47) rfl) ?_
      refine rc_p (p_iadd (v := (nI (k + 3))) (dk_at ktX7_notes_0 28 rfl) (nI_add k 3) (b := 48) rfl) ?_
      refine r_iald (j := k + 3) (hm.lt 1 (by decide)) hm.s1 (dk_at ktX7_notes_0 29 rfl) rfl ⟨by omega, by decide⟩ (v := (Iz (m + 1) (k + 3))) rfl (b := 49) rfl ?_
      refine r_iast (j := k) (hm.lt 1 (by decide)) hm.s1 (dk_at ktX7_notes_0 30 rfl) rfl ⟨by omega, by decide⟩ (b := 50) rfl ?_
      refine rc_p (p_iinc (j := 0) (v := (nI (k + 1))) (ls' := [(3, .int (nI (k + 1))), (0, .ref m), (1, .int (nI e)), (2, .int x)]) (dk_at ktX7_notes_0 31 rfl) rfl (nI_add k 1) (by decide) rfl (b := 53) rfl) ?_
      refine rc_p (p_goto (b := 29) (dk_at ktX7_notes_0 32 rfl) (by decide)) ?_
      refine r_mem (I2 := shf (up2 I (m + 1) (11 + e) (σ (11 + e) + 1)) (m + 1) (k + 1)) (by rw [hz]; exact shf_s h1) ?_
      exact ih (k + 1) _ h40 (by omega) (by omega) (by omega) rfl
  have hL2 := hL.2
  refine rc_p (p_aload_n 0 (dk_at ktX7_notes_0 0 rfl) rfl rfl (b := 1) rfl) ?_
  refine r_geta fl_X7_9 rfl hm.l0 hm.s0 (dk_at ktX7_notes_0 1 rfl) hm.g0_0 (b := 4) rfl ?_
  refine rc_p (p_bipush (v := 11) (dk_at ktX7_notes_0 2 rfl) (by decide) (b := 6) rfl) ?_
  refine rc_p (p_iload_n 1 (dk_at ktX7_notes_0 3 rfl) rfl rfl (b := 7) rfl) ?_
  refine rc_p (p_iadd (v := (nI (11 + e))) (dk_at ktX7_notes_0 4 rfl) (nI_add 11 e) (b := 8) rfl) ?_
  refine rc_p (p_dup2 (dk_at ktX7_notes_0 5 rfl) rfl rfl (b := 9) rfl) ?_
  refine r_iald (j := 11 + e) (hm.lt 1 (by decide)) hm.s1 (dk_at ktX7_notes_0 6 rfl) rfl ⟨by omega, by decide⟩ (v := (σ (11 + e))) (hR.1 (11 + e) (by omega)) (b := 10) rfl ?_
  refine rc_p (p_iconst (v := 1) (dk_at ktX7_notes_0 7 rfl) (by decide) (b := 11) rfl) ?_
  refine rc_p (p_iadd (v := ((σ (11 + e)) + 1)) (dk_at ktX7_notes_0 8 rfl) rfl (b := 12) rfl) ?_
  refine r_iast (j := 11 + e) (hm.lt 1 (by decide)) hm.s1 (dk_at ktX7_notes_0 9 rfl) rfl ⟨by omega, by decide⟩ (b := 13) rfl ?_
  refine rc_p (p_aload_n 0 (dk_at ktX7_notes_0 10 rfl) rfl rfl (b := 14) rfl) ?_
  refine r_geta fl_X7_9 rfl hm.l0 hm.s0 (dk_at ktX7_notes_0 11 rfl) hm.g0_0 (b := 17) rfl ?_
  refine rc_p (p_bipush (v := 10) (dk_at ktX7_notes_0 12 rfl) (by decide) (b := 19) rfl) ?_
  refine r_iald (j := 10) (hm.lt 1 (by decide)) hm.s1 (dk_at ktX7_notes_0 13 rfl) rfl ⟨by decide, by decide⟩ (v := (nI (nL σ))) ((up2_n (by omega)).trans ((hR.1 10 (by decide)).trans hL.1)) (b := 20) rfl ?_
  refine rc_p (p_bipush (v := 40) (dk_at ktX7_notes_0 14 rfl) (by decide) (b := 22) rfl) ?_
  refine r_icmp_ne (dk_at ktX7_notes_0 15 rfl) (b := 67) (by decide) (b2 := 25) rfl (fun c22 => ?_) (fun c22 => ?_)
  · have c22 : ¬ (nL σ) = 40 := fun h => c22 ((nI_eq (a := (nL σ)) (b := 40) (by omega) (by omega)).mpr h)
    refine rc_p (p_sipush (v := 309) (dk_at ktX7_notes_0 41 rfl) (by decide) (b := 70) rfl) ?_
    refine rc_p (p_iconst (v := 3) (dk_at ktX7_notes_0 42 rfl) (by decide) (b := 71) rfl) ?_
    refine rc_p (p_aload_n 0 (dk_at ktX7_notes_0 43 rfl) rfl rfl (b := 72) rfl) ?_
    refine r_geta fl_X7_9 rfl hm.l0 hm.s0 (dk_at ktX7_notes_0 44 rfl) hm.g0_0 (b := 75) rfl ?_
    refine rc_p (p_bipush (v := 10) (dk_at ktX7_notes_0 45 rfl) (by decide) (b := 77) rfl) ?_
    refine r_iald (j := 10) (hm.lt 1 (by decide)) hm.s1 (dk_at ktX7_notes_0 46 rfl) rfl ⟨by decide, by decide⟩ (v := (nI (nL σ))) ((up2_n (by omega)).trans ((hR.1 10 (by decide)).trans hL.1)) (b := 78) rfl ?_
    refine rc_p (p_imul (v := (nI (3 * (nL σ)))) (dk_at ktX7_notes_0 47 rfl) (pk_mul 3 (nL σ)) (b := 79) rfl) ?_
    refine rc_p (p_iadd (v := (nI (309 + (3 * (nL σ))))) (dk_at ktX7_notes_0 48 rfl) (nI_add 309 (3 * (nL σ))) (b := 80) rfl) ?_
    refine rc_p (p_istore_n (ls' := [(3, .int (nI (309 + (3 * (nL σ))))), (0, .ref m), (1, .int (nI e)), (2, .int x)]) (dk_at ktX7_notes_0 49 rfl) rfl (by decide) rfl (b := 81) rfl) ?_
    refine rc_p (p_aload_n 1 (dk_at ktX7_notes_0 50 rfl) rfl rfl (b := 82) rfl) ?_
    refine r_geta fl_X7_9 rfl hm.l0 hm.s0 (dk_at ktX7_notes_0 51 rfl) hm.g0_0 (b := 85) rfl ?_
    refine rc_p (p_iload_n 0 (dk_at ktX7_notes_0 52 rfl) rfl rfl (b := 86) rfl) ?_
    refine rc_p (p_iload_n 2 (dk_at ktX7_notes_0 53 rfl) rfl rfl (b := 87) rfl) ?_
    refine r_iast (j := 309 + (3 * (nL σ))) (hm.lt 1 (by decide)) hm.s1 (dk_at ktX7_notes_0 54 rfl) rfl ⟨by omega, by decide⟩ (b := 88) rfl ?_
    refine rc_p (p_aload_n 1 (dk_at ktX7_notes_0 55 rfl) rfl rfl (b := 89) rfl) ?_
    refine r_geta fl_X7_9 rfl hm.l0 hm.s0 (dk_at ktX7_notes_0 56 rfl) hm.g0_0 (b := 92) rfl ?_
    refine rc_p (p_iload_n 0 (dk_at ktX7_notes_0 57 rfl) rfl rfl (b := 93) rfl) ?_
    refine rc_p (p_iconst (v := 1) (dk_at ktX7_notes_0 58 rfl) (by decide) (b := 94) rfl) ?_
    refine rc_p (p_iadd (v := (nI (309 + (3 * (nL σ)) + 1))) (dk_at ktX7_notes_0 59 rfl) (nI_add (309 + (3 * (nL σ))) 1) (b := 95) rfl) ?_
    refine rc_p (p_iload_n 3 (dk_at ktX7_notes_1 0 rfl) rfl rfl (b := 96) rfl) ?_
    refine r_iast (j := 309 + (3 * (nL σ)) + 1) (hm.lt 1 (by decide)) hm.s1 (dk_at ktX7_notes_1 1 rfl) rfl ⟨by omega, by decide⟩ (b := 97) rfl ?_
    refine rc_p (p_aload_n 1 (dk_at ktX7_notes_1 2 rfl) rfl rfl (b := 98) rfl) ?_
    refine r_geta fl_X7_9 rfl hm.l0 hm.s0 (dk_at ktX7_notes_1 3 rfl) hm.g0_0 (b := 101) rfl ?_
    refine rc_p (p_iload_n 0 (dk_at ktX7_notes_1 4 rfl) rfl rfl (b := 102) rfl) ?_
    refine rc_p (p_iconst (v := 2) (dk_at ktX7_notes_1 5 rfl) (by decide) (b := 103) rfl) ?_
    refine rc_p (p_iadd (v := (nI (309 + (3 * (nL σ)) + 2))) (dk_at ktX7_notes_1 6 rfl) (nI_add (309 + (3 * (nL σ))) 2) (b := 104) rfl) ?_
    refine rc_p (p_aload_n 1 (dk_at ktX7_notes_1 7 rfl) rfl rfl (b := 105) rfl) ?_
    refine r_geta fl_X7_9 rfl hm.l0 hm.s0 (dk_at ktX7_notes_1 8 rfl) hm.g0_0 (b := 108) rfl ?_
    refine rc_p (p_bipush (v := 9) (dk_at ktX7_notes_1 9 rfl) (by decide) (b := 110) rfl) ?_
    refine r_iald (j := 9) (hm.lt 1 (by decide)) hm.s1 (dk_at ktX7_notes_1 10 rfl) rfl ⟨by decide, by decide⟩ (v := (σ 9)) ((up2_n (by omega)).trans ((up2_n (by omega)).trans ((up2_n (by omega)).trans (hR.1 9 (by decide))))) (b := 111) rfl ?_
    refine r_iast (j := 309 + (3 * (nL σ)) + 2) (hm.lt 1 (by decide)) hm.s1 (dk_at ktX7_notes_1 11 rfl) rfl ⟨by omega, by decide⟩ (b := 112) rfl ?_
    refine rc_p (p_aload_n 1 (dk_at ktX7_notes_1 12 rfl) rfl rfl (b := 113) rfl) ?_
    refine r_geta fl_X7_9 rfl hm.l0 hm.s0 (dk_at ktX7_notes_1 13 rfl) hm.g0_0 (b := 116) rfl ?_
    refine rc_p (p_bipush (v := 10) (dk_at ktX7_notes_1 14 rfl) (by decide) (b := 118) rfl) ?_
    refine rc_p (p_dup2 (dk_at ktX7_notes_1 15 rfl) rfl rfl (b := 119) rfl) ?_
    refine r_iald (j := 10) (hm.lt 1 (by decide)) hm.s1 (dk_at ktX7_notes_1 16 rfl) rfl ⟨by decide, by decide⟩ (v := (nI (nL σ))) ((up2_n (by omega)).trans ((up2_n (by omega)).trans ((up2_n (by omega)).trans ((up2_n (by omega)).trans ((hR.1 10 (by decide)).trans hL.1))))) (b := 120) rfl ?_
    refine rc_p (p_iconst (v := 1) (dk_at ktX7_notes_1 17 rfl) (by decide) (b := 121) rfl) ?_
    refine rc_p (p_iadd (v := (nI ((nL σ) + 1))) (dk_at ktX7_notes_1 18 rfl) (nI_add (nL σ) 1) (b := 122) rfl) ?_
    refine r_iast (j := 10) (hm.lt 1 (by decide)) hm.s1 (dk_at ktX7_notes_1 19 rfl) rfl ⟨by decide, by decide⟩ (b := 123) rfl ?_
    refine r_vret (dk_at ktX7_notes_1 20 rfl) rfl ⟨rfl, ?_⟩
    refine ⟨rfl, ?_, ?_⟩
    · simp only [up2_row]; exact note_end hR hL (by omega) he
    · repeat refine FF.ua ?_ (by decide) (by decide)
      exact FF.rf
  · have c22 : (nL σ) = 40 := (nI_eq (a := (nL σ)) (b := 40) (by omega) (by omega)).mp c22
    refine rc_p (p_sipush (v := 309) (dk_at ktX7_notes_0 16 rfl) (by decide) (b := 28) rfl) ?_
    refine rc_p (p_istore_n (ls' := [(3, .int 309), (0, .ref m), (1, .int (nI e)), (2, .int x)]) (dk_at ktX7_notes_0 17 rfl) rfl (by decide) rfl (b := 29) rfl) ?_
    refine r_mem (shf_0 _ (m + 1)).symm ?_
    exact cut29 1000 309 _ c22 (by omega) (by omega) (by omega) rfl
set_option maxRecDepth 4000 in
set_option maxHeartbeats 4000000 in
theorem s_X7_hasPower {n : Nat} {sh : mS} {G : mG} {I : mI} {J : mJ} {m : Nat} {σ : sT} (hm : ModG n sh G m) (hR : RelW (I (m + 1)) σ) (hI : Inv σ)  : Sp yX7_hasPower cX7_hasPower 1 (some FieldType.boolean) 1 48 0 0 [.ref m] n sh G I J (Qi (fun r_ I_ J_ => bi (sHas σ) = r_ ∧ J = J_ ∧ RelW (I_ (m + 1)) (sTake σ) ∧ FF m [1] [23] I I_ ∧ I_ m 23 = if sHas σ = true then I m 23 else 1)) nX := by
  refine Sp.of (by decide) (ls := [(0, .ref m)]) (fun _ => rfl) (fun _ => Nat.le_of_ble_eq_true rfl) ?_
  refine rc_p (p_aload_n 0 (dk_at ktX7_hasPower_0 0 rfl) rfl rfl (b := 1) rfl) ?_
  refine r_geta fl_X7_9 rfl hm.l0 hm.s0 (dk_at ktX7_hasPower_0 1 rfl) hm.g0_0 (b := 4) rfl ?_
  refine rc_p (p_bipush (v := 9) (dk_at ktX7_hasPower_0 2 rfl) (by decide) (b := 6) rfl) ?_
  refine rc_p (p_dup2 (dk_at ktX7_hasPower_0 3 rfl) rfl rfl (b := 7) rfl) ?_
  refine r_iald (j := 9) (hm.lt 1 (by decide)) hm.s1 (dk_at ktX7_hasPower_0 4 rfl) rfl ⟨by decide, by decide⟩ (v := (σ 9)) (hR.1 9 (by decide)) (b := 8) rfl ?_
  refine rc_p (p_iconst (v := 1) (dk_at ktX7_hasPower_0 5 rfl) (by decide) (b := 9) rfl) ?_
  refine rc_p (p_iadd (v := ((σ 9) + 1)) (dk_at ktX7_hasPower_0 6 rfl) rfl (b := 10) rfl) ?_
  refine r_iast (j := 9) (hm.lt 1 (by decide)) hm.s1 (dk_at ktX7_hasPower_0 7 rfl) rfl ⟨by decide, by decide⟩ (b := 11) rfl ?_
  refine rc_p (p_aload_n 0 (dk_at ktX7_hasPower_0 8 rfl) rfl rfl (b := 12) rfl) ?_
  refine r_geta fl_X7_9 rfl hm.l0 hm.s0 (dk_at ktX7_hasPower_0 9 rfl) hm.g0_0 (b := 15) rfl ?_
  refine rc_p (p_bipush (v := 6) (dk_at ktX7_hasPower_0 10 rfl) (by decide) (b := 17) rfl) ?_
  refine r_iald (j := 6) (hm.lt 1 (by decide)) hm.s1 (dk_at ktX7_hasPower_0 11 rfl) rfl ⟨by decide, by decide⟩ (v := (σ 6)) ((up2_n (by omega)).trans (hR.1 6 (by decide))) (b := 18) rfl ?_
  refine r_if_eq (dk_at ktX7_hasPower_0 12 rfl) (b := 44) (by decide) (b2 := 21) rfl (fun c18 => ?_) (fun c18 => ?_)
  · skip
    refine rc_p (p_aload_n 0 (dk_at ktX7_hasPower_0 28 rfl) rfl rfl (b := 45) rfl) ?_
    refine rc_p (p_iconst (v := 1) (dk_at ktX7_hasPower_0 29 rfl) (by decide) (b := 46) rfl) ?_
    refine r_puti fl_X7_258 fw_X7_23 rfl hm.l0 hm.s0 rfl rfl (dk_at ktX7_hasPower_0 30 rfl) (b := 49) rfl ?_
    refine rc_p (p_iconst (v := 0) (dk_at ktX7_hasPower_0 31 rfl) (by decide) (b := 50) rfl) ?_
    refine r_iret (dk_at ktX7_hasPower_0 32 rfl) rfl rfl ⟨_, rfl, ?_⟩
    refine ⟨?_, rfl, ?_, ?_, ?_⟩
    · rw [sHas_f c18]; rfl
    · rw [sTake_z c18]; exact (by rw [up2_off (by omega)]; exact (by rw [up2_row]; exact RelW.up hR (by first | decide | omega) (by first | decide | omega)))
    · repeat (first | exact FF.rf | refine FF.ua ?_ (by decide) (by decide) | refine FF.uf ?_ (by decide) | refine FF.fl ?_ (by decide) (by decide))
    · simp [sHas_f c18, up2]
  · skip
    refine rc_p (p_aload_n 0 (dk_at ktX7_hasPower_0 13 rfl) rfl rfl (b := 22) rfl) ?_
    refine r_geta fl_X7_9 rfl hm.l0 hm.s0 (dk_at ktX7_hasPower_0 14 rfl) hm.g0_0 (b := 25) rfl ?_
    refine rc_p (p_bipush (v := 6) (dk_at ktX7_hasPower_0 15 rfl) (by decide) (b := 27) rfl) ?_
    refine r_iald (j := 6) (hm.lt 1 (by decide)) hm.s1 (dk_at ktX7_hasPower_0 16 rfl) rfl ⟨by decide, by decide⟩ (v := (σ 6)) ((up2_n (by omega)).trans (hR.1 6 (by decide))) (b := 28) rfl ?_
    refine r_if_le (dk_at ktX7_hasPower_0 17 rfl) (b := 42) (by decide) (b2 := 31) rfl (fun c28 => ?_) (fun c28 => ?_)
    · skip
      refine rc_p (p_iconst (v := 1) (dk_at ktX7_hasPower_0 26 rfl) (by decide) (b := 43) rfl) ?_
      refine r_iret (dk_at ktX7_hasPower_0 27 rfl) rfl rfl ⟨_, rfl, ?_⟩
      refine ⟨?_, rfl, ?_, ?_, ?_⟩
      · rw [sHas_t c18]; rfl
      · rw [sTake_n c18 c28]; exact (by rw [up2_row]; exact RelW.up hR (by first | decide | omega) (by first | decide | omega))
      · repeat (first | exact FF.rf | refine FF.ua ?_ (by decide) (by decide) | refine FF.uf ?_ (by decide) | refine FF.fl ?_ (by decide) (by decide))
      · simp [sHas_t c18, up2]
    · skip
      refine rc_p (p_aload_n 0 (dk_at ktX7_hasPower_0 18 rfl) rfl rfl (b := 32) rfl) ?_
      refine r_geta fl_X7_9 rfl hm.l0 hm.s0 (dk_at ktX7_hasPower_0 19 rfl) hm.g0_0 (b := 35) rfl ?_
      refine rc_p (p_bipush (v := 6) (dk_at ktX7_hasPower_0 20 rfl) (by decide) (b := 37) rfl) ?_
      refine rc_p (p_dup2 (dk_at ktX7_hasPower_0 21 rfl) rfl rfl (b := 38) rfl) ?_
      refine r_iald (j := 6) (hm.lt 1 (by decide)) hm.s1 (dk_at ktX7_hasPower_0 22 rfl) rfl ⟨by decide, by decide⟩ (v := (σ 6)) ((up2_n (by omega)).trans (hR.1 6 (by decide))) (b := 39) rfl ?_
      refine rc_p (p_iconst (v := 1) (dk_at ktX7_hasPower_0 23 rfl) (by decide) (b := 40) rfl) ?_
      refine rc_p (p_isub (v := ((σ 6) - 1)) (dk_at ktX7_hasPower_0 24 rfl) rfl (b := 41) rfl) ?_
      refine r_iast (j := 6) (hm.lt 1 (by decide)) hm.s1 (dk_at ktX7_hasPower_0 25 rfl) rfl ⟨by decide, by decide⟩ (b := 42) rfl ?_
      refine rc_p (p_iconst (v := 1) (dk_at ktX7_hasPower_0 26 rfl) (by decide) (b := 43) rfl) ?_
      refine r_iret (dk_at ktX7_hasPower_0 27 rfl) rfl rfl ⟨_, rfl, ?_⟩
      refine ⟨?_, rfl, ?_, ?_, ?_⟩
      · rw [sHas_t c18]; rfl
      · rw [sTake_p c18 c28]; exact (by rw [up2_row]; exact RelW.up (by rw [up2_row]; exact RelW.up hR (by first | decide | omega) (by first | decide | omega)) (by first | decide | omega) (by first | decide | omega))
      · repeat (first | exact FF.rf | refine FF.ua ?_ (by decide) (by decide) | refine FF.uf ?_ (by decide) | refine FF.fl ?_ (by decide) (by decide))
      · simp [sHas_t c18, up2]
set_option maxRecDepth 4000 in
set_option maxHeartbeats 4000000 in
theorem s_X7_goesOff {n : Nat} {sh : mS} {G : mG} {I : mI} {J : mJ} {m : Nat} {σ : sT} (hm : ModG n sh G m) (hR : RelW (I (m + 1)) σ) (hI : Inv σ)  : Sp yX7_goesOff cX7_goesOff 1 (some FieldType.boolean) 2 96 0 0 [.ref m] n sh G I J (Qi (fun r_ I_ J_ => 0 = r_ ∧ J = J_ ∧ RelW (I_ (m + 1)) (sCut σ) ∧ FF m [1] [] I I_)) nX := by
  refine Sp.of (by decide) (ls := [(0, .ref m)]) (fun _ => rfl) (fun _ => Nat.le_of_ble_eq_true rfl) ?_
  refine rc_p (p_aload_n 0 (dk_at ktX7_goesOff_0 0 rfl) rfl rfl (b := 1) rfl) ?_
  refine r_geta fl_X7_9 rfl hm.l0 hm.s0 (dk_at ktX7_goesOff_0 1 rfl) hm.g0_0 (b := 4) rfl ?_
  refine rc_p (p_bipush (v := 7) (dk_at ktX7_goesOff_0 2 rfl) (by decide) (b := 6) rfl) ?_
  refine rc_p (p_iconst (v := 0) (dk_at ktX7_goesOff_0 3 rfl) (by decide) (b := 7) rfl) ?_
  refine r_iast (j := 7) (hm.lt 1 (by decide)) hm.s1 (dk_at ktX7_goesOff_0 4 rfl) rfl ⟨by decide, by decide⟩ (b := 8) rfl ?_
  refine rc_p (p_aload_n 0 (dk_at ktX7_goesOff_0 5 rfl) rfl rfl (b := 9) rfl) ?_
  refine r_geta fl_X7_9 rfl hm.l0 hm.s0 (dk_at ktX7_goesOff_0 6 rfl) hm.g0_0 (b := 12) rfl ?_
  refine rc_p (p_bipush (v := 8) (dk_at ktX7_goesOff_0 7 rfl) (by decide) (b := 14) rfl) ?_
  refine rc_p (p_iconst (v := (-1)) (dk_at ktX7_goesOff_0 8 rfl) (by decide) (b := 15) rfl) ?_
  refine r_iast (j := 8) (hm.lt 1 (by decide)) hm.s1 (dk_at ktX7_goesOff_0 9 rfl) rfl ⟨by decide, by decide⟩ (b := 16) rfl ?_
  refine rc_p (p_aload_n 0 (dk_at ktX7_goesOff_0 10 rfl) rfl rfl (b := 17) rfl) ?_
  refine rc_p (p_iconst (v := 1) (dk_at ktX7_goesOff_0 11 rfl) (by decide) (b := 18) rfl) ?_
  refine rc_p (p_iconst (v := 0) (dk_at ktX7_goesOff_0 12 rfl) (by decide) (b := 19) rfl) ?_
  refine r_vV (As' := [.int 1, .int 0]) (rest := []) (s_X7_notes hm (σ := (upd (upd σ 7 0) 8 (-1))) (by rw [up2_row]; exact RelW.up (by rw [up2_row]; exact RelW.up hR (by first | decide | omega) (by first | decide | omega)) (by first | decide | omega) (by first | decide | omega)) hI.off.2.1 1 (by decide) 0) cw_X7_262 qi_X7_notes qv_X7_notes rfl hm.l0 hm.s0 (dk_at ktX7_goesOff_0 13 rfl) rfl rfl (Nat.le_of_ble_eq_true rfl) (by decide) (b := 22) rfl (fun I1 J2 q3 => ?_)
  obtain ⟨rfl, hR5, hF6⟩ := q3
  refine rc_p (p_iconst (v := 0) (dk_at ktX7_goesOff_0 14 rfl) (by decide) (b := 23) rfl) ?_
  refine r_iret (dk_at ktX7_goesOff_0 15 rfl) rfl rfl ⟨_, rfl, ?_⟩
  refine ⟨rfl, rfl, hR5, ?_⟩
  refine FF.tr ?_ hF6
  repeat (first | exact FF.rf | refine FF.ua ?_ (by decide) (by decide))
set_option maxRecDepth 4000 in
set_option maxHeartbeats 4000000 in
theorem s_X7_writes {n : Nat} {sh : mS} {G : mG} {I : mI} {J : mJ} {m : Nat} {σ : sT} (hm : ModG n sh G m) (hR : RelW (I (m + 1)) σ) (hI : Inv σ) (hC : I m 23 = 0) (k : Nat) (h1 : 19 ≤ k) (h2 : k < 275) (v : Int32) : Sp yX7_writes cX7_writes 3 (some FieldType.boolean) 3 144 0 0 [.ref m, .int (nI k), .int v] n sh G I J (Qi (fun r_ I_ J_ => bi (sHas σ) = r_ ∧ J = J_ ∧ RelW (I_ (m + 1)) (sStop (sHas σ) (sWr σ k v)) ∧ FF m [1] [23] I I_ ∧ I_ m 23 = ic (sHas σ))) nX := by
  refine Sp.of (by decide) (ls := [(0, .ref m), (1, .int (nI k)), (2, .int v)]) (fun _ => rfl) (fun _ => Nat.le_of_ble_eq_true rfl) ?_
  refine rc_p (p_aload_n 0 (dk_at ktX7_writes_0 0 rfl) rfl rfl (b := 1) rfl) ?_
  refine r_geti fl_X7_258 rfl hm.l0 hm.s0 (dk_at ktX7_writes_0 1 rfl) (v := 0) hC (b := 4) rfl ?_
  refine r_if_eq (dk_at ktX7_writes_0 2 rfl) (b := 9) (by decide) (b2 := 7) rfl (fun c4 => ?_) (fun c4 => ?_)
  · skip
    refine rc_p (p_aload_n 0 (dk_at ktX7_writes_0 5 rfl) rfl rfl (b := 10) rfl) ?_
    refine r_iV (As' := []) (rest := []) (s_X7_hasPower hm (σ := σ) hR hI) cw_X7_265 qi_X7_hasPower qv_X7_hasPower rfl hm.l0 hm.s0 (dk_at ktX7_writes_0 6 rfl) rfl rfl (Nat.le_of_ble_eq_true rfl) (by decide) (b := 13) rfl (fun v4 I1 J2 q3 => ?_)
    obtain ⟨rfl, rfl, hR5, hF6, hC7⟩ := q3
    refine r_if_eq (dk_at ktX7_writes_0 7 rfl) (b := 28) (by decide) (b2 := 16) rfl (fun c13 => ?_) (fun c13 => ?_)
    · have c13 := bi_f c13
      refine rc_p (p_aload_n 0 (dk_at ktX7_writes_0 18 rfl) rfl rfl (b := 29) rfl) ?_
      refine r_geta fl_X7_9 rfl hm.l0 hm.s0 (dk_at ktX7_writes_0 19 rfl) hm.g0_0 (b := 32) rfl ?_
      refine rc_p (p_iload_n 1 (dk_at ktX7_writes_0 20 rfl) rfl rfl (b := 33) rfl) ?_
      refine rc_p (p_dup2 (dk_at ktX7_writes_0 21 rfl) rfl rfl (b := 34) rfl) ?_
      refine r_iald (j := k) (hm.lt 1 (by decide)) hm.s1 (dk_at ktX7_writes_0 22 rfl) rfl ⟨by omega, by decide⟩ (v := ((sTake σ) k)) (hR5.1 k (by omega)) (b := 35) rfl ?_
      refine rc_p (p_iload_n 2 (dk_at ktX7_writes_0 23 rfl) rfl rfl (b := 36) rfl) ?_
      refine rc_p (p_ldcw (v := 65280) qk_TwinBootModel_268 (dk_at ktX7_writes_0 24 rfl) (b := 39) rfl) ?_
      refine rc_p (p_ior (v := (v ||| 65280)) (dk_at ktX7_writes_0 25 rfl) rfl (b := 40) rfl) ?_
      refine rc_p (p_iand (v := (((sTake σ) k) &&& (v ||| 65280))) (dk_at ktX7_writes_0 26 rfl) rfl (b := 41) rfl) ?_
      refine r_iast (j := k) (hm.lt 1 (by decide)) hm.s1 (dk_at ktX7_writes_0 27 rfl) rfl ⟨by omega, by decide⟩ (b := 42) rfl ?_
      refine rc_p (p_aload_n 0 (dk_at ktX7_writes_0 28 rfl) rfl rfl (b := 43) rfl) ?_
      refine r_iV (As' := []) (rest := []) (s_X7_goesOff hm (σ := (upd (sTake σ) k (((sTake σ) k) &&& (v ||| 65280)))) (by rw [up2_row]; exact RelW.up hR5 (by first | decide | omega) (by first | decide | omega)) ((Inv.take hI).cell (by omega) (wd_and ((Inv.take hI).2.2.2.1 k (by omega) (by omega))))) cw_X7_269 qi_X7_goesOff qv_X7_goesOff rfl hm.l0 hm.s0 (dk_at ktX7_writes_0 29 rfl) rfl rfl (Nat.le_of_ble_eq_true rfl) (by decide) (b := 46) rfl (fun v11 I8 J9 q10 => ?_)
      obtain ⟨rfl, rfl, hR12, hF13⟩ := q10
      refine r_iret (dk_at ktX7_writes_0 30 rfl) rfl rfl ⟨_, rfl, ?_⟩
      refine ⟨by rw [c13]; rfl, rfl, ?_, ?_, ?_⟩
      · rw [c13, sWr_f c13 (by omega) (by omega)]; exact hR12
      · exact FF.tr (FF.ua hF6 (by decide) (by decide)) (hF13.mo (by decide) (by decide))
      · rw [c13, hF13.2 23 (by decide), up2_a (by omega), hC7, if_neg (by rw [c13]; decide)]; rfl
    · have c13 := bi_t c13
      refine rc_p (p_aload_n 0 (dk_at ktX7_writes_0 8 rfl) rfl rfl (b := 17) rfl) ?_
      refine r_geta fl_X7_9 rfl hm.l0 hm.s0 (dk_at ktX7_writes_0 9 rfl) hm.g0_0 (b := 20) rfl ?_
      refine rc_p (p_iload_n 1 (dk_at ktX7_writes_0 10 rfl) rfl rfl (b := 21) rfl) ?_
      refine rc_p (p_dup2 (dk_at ktX7_writes_0 11 rfl) rfl rfl (b := 22) rfl) ?_
      refine r_iald (j := k) (hm.lt 1 (by decide)) hm.s1 (dk_at ktX7_writes_0 12 rfl) rfl ⟨by omega, by decide⟩ (v := ((sTake σ) k)) (hR5.1 k (by omega)) (b := 23) rfl ?_
      refine rc_p (p_iload_n 2 (dk_at ktX7_writes_0 13 rfl) rfl rfl (b := 24) rfl) ?_
      refine rc_p (p_iand (v := (((sTake σ) k) &&& v)) (dk_at ktX7_writes_0 14 rfl) rfl (b := 25) rfl) ?_
      refine r_iast (j := k) (hm.lt 1 (by decide)) hm.s1 (dk_at ktX7_writes_0 15 rfl) rfl ⟨by omega, by decide⟩ (b := 26) rfl ?_
      refine rc_p (p_iconst (v := 1) (dk_at ktX7_writes_0 16 rfl) (by decide) (b := 27) rfl) ?_
      refine r_iret (dk_at ktX7_writes_0 17 rfl) rfl rfl ⟨_, rfl, ?_⟩
      refine ⟨by rw [c13]; rfl, rfl, ?_, ?_, ?_⟩
      · rw [c13, sWr_t c13 (by omega) (by omega)]; exact (by rw [up2_row]; exact RelW.up hR5 (by first | decide | omega) (by first | decide | omega))
      · exact FF.ua hF6 (by decide) (by decide)
      · rw [c13, up2_a (by omega), hC7, if_pos c13]; exact hC
  · first | exact absurd c4 (by decide) | exact absurd (by decide) c4
set_option maxRecDepth 4000 in
set_option maxHeartbeats 4000000 in
theorem s_X7_erases {n : Nat} {sh : mS} {G : mG} {I : mI} {J : mJ} {m : Nat} {σ : sT} (hm : ModG n sh G m) (hR : RelW (I (m + 1)) σ) (hI : Inv σ) (hC : I m 23 = 0) (a c r : Nat) (h1 : 83 ≤ a) (h2 : a + c ≤ 275) (h3 : 275 ≤ r) (h4 : r < 309) (v : Int32) (hv : wd v) : Sp yX7_erases cX7_erases 7 (some FieldType.boolean) 3 144 0 0 [.ref m, .int (nI a), .int (nI c), .int (nI r), .int v] n sh G I J (Qi (fun r_ I_ J_ => bi (sHas σ) = r_ ∧ J = J_ ∧ RelW (I_ (m + 1)) (sStop (sHas σ) (sEr σ a c r v)) ∧ FF m [1] [23] I I_ ∧ I_ m 23 = ic (sHas σ))) nX := by
  refine Sp.of (by decide) (ls := [(0, .ref m), (1, .int (nI a)), (2, .int (nI c)), (3, .int (nI r)), (4, .int v)]) (fun _ => rfl) (fun _ => Nat.le_of_ble_eq_true rfl) ?_
  have cut18 : ∀ (Ip : mI), RelW (Ip (m + 1)) (sTake σ) → FF m [1] [23] I Ip → (Ip m 23 = if sHas σ = true then I m 23 else 1) → ∀ (t k : Nat) (Iz : mI), c - k < t → k ≤ (if sHas σ = true then c else c / 2) → Iz = fl1 Ip (m + 1) a k v → Rc RX7 cX7_erases 7 (some FieldType.boolean) 3 144 0 0 n sh G (Qi (fun r_ I_ J_ => bi (sHas σ) = r_ ∧ J = J_ ∧ RelW (I_ (m + 1)) (sStop (sHas σ) (sEr σ a c r v)) ∧ FF m [1] [23] I I_ ∧ I_ m 23 = ic (sHas σ))) nX 0 0 18 [(6, .int (nI k)), (5, .int (bi (sHas σ))), (0, .ref m), (1, .int (nI a)), (2, .int (nI c)), (3, .int (nI r)), (4, .int v)] [] Iz J := by
    intro Ip hRp hFp hCp t
    induction t
    · intro k Iz h; omega
    rename_i t ih
    intro k Iz ht hk1 hz
    have hkc : k ≤ c := Nat.le_trans hk1 (by split <;> omega)
    have hRz : RelW (Iz (m + 1)) (sFill (sTake σ) a k v) := by rw [hz, fl1_row]; exact hRp.fill (by omega) (by omega)
    refine rc_p (p_iload 0 (dk_at ktX7_erases_0 10 rfl) rfl (b := 20) rfl) ?_
    refine rc_p (p_iload 1 (dk_at ktX7_erases_0 11 rfl) rfl (b := 22) rfl) ?_
    refine r_if_eq (dk_at ktX7_erases_0 12 rfl) (b := 29) (by decide) (b2 := 25) rfl (fun c22 => ?_) (fun c22 => ?_)
    · have c22 := bi_f c22
      refine rc_p (p_iload_n 4 (dk_at ktX7_erases_0 15 rfl) rfl rfl (b := 30) rfl) ?_
      refine rc_p (p_iconst (v := 2) (dk_at ktX7_erases_0 16 rfl) (by decide) (b := 31) rfl) ?_
      refine rc_p (p_idiv (v := (nI (c / 2))) (dk_at ktX7_erases_0 17 rfl) (by decide) (pk_div (a := c) (d := 2) (by omega) (by decide) (by decide)) (b := 32) rfl) ?_
      refine r_icmp_ge (dk_at ktX7_erases_0 18 rfl) (b := 52) (by decide) (b2 := 35) rfl (fun c32 => ?_) (fun c32 => ?_)
      · have c32 : (c / 2) ≤ k := (nI_leI (a := c / 2) (b := k) (by omega) (by omega)).mp c32
        have hk : k = (if sHas σ = true then c else c / 2) := by simp [c22] at hk1 ⊢; omega
        refine rc_p (p_aload_n 2 (dk_at ktX7_erases_0 28 rfl) rfl rfl (b := 53) rfl) ?_
        refine r_geta fl_X7_9 rfl hm.l0 hm.s0 (dk_at ktX7_erases_0 29 rfl) hm.g0_0 (b := 56) rfl ?_
        refine rc_p (p_iload_n 5 (dk_at ktX7_erases_0 30 rfl) rfl rfl (b := 57) rfl) ?_
        refine rc_p (p_dup2 (dk_at ktX7_erases_0 31 rfl) rfl rfl (b := 58) rfl) ?_
        refine r_iald (j := r) (hm.lt 1 (by decide)) hm.s1 (dk_at ktX7_erases_0 32 rfl) rfl ⟨by omega, by decide⟩ (v := ((sFill (sTake σ) a k v) r)) (hRz.1 r (by omega)) (b := 59) rfl ?_
        refine rc_p (p_iconst (v := 1) (dk_at ktX7_erases_0 33 rfl) (by decide) (b := 60) rfl) ?_
        refine rc_p (p_iadd (v := (((sFill (sTake σ) a k v) r) + 1)) (dk_at ktX7_erases_0 34 rfl) rfl (b := 61) rfl) ?_
        refine r_iast (j := r) (hm.lt 1 (by decide)) hm.s1 (dk_at ktX7_erases_0 35 rfl) rfl ⟨by omega, by decide⟩ (b := 62) rfl ?_
        refine rc_p (p_iload 1 (dk_at ktX7_erases_0 36 rfl) rfl (b := 64) rfl) ?_
        refine r_if_ne (dk_at ktX7_erases_0 37 rfl) (b := 74) (by decide) (b2 := 67) rfl (fun c64 => ?_) (fun c64 => ?_)
        · have c64 := bi_t c64
          refine rc_p (p_iconst (v := 1) (dk_at ktX7_erases_0 41 rfl) (by decide) (b := 75) rfl) ?_
          refine rc_p (p_goto (b := 79) (dk_at ktX7_erases_0 42 rfl) (by decide)) ?_
          refine r_iret (dk_at ktX7_erases_0 44 rfl) rfl rfl ⟨_, rfl, ?_⟩
          subst hk
          refine ⟨by rw [c64]; rfl, rfl, ?_, ?_, ?_⟩
          · rw [sStop_t c64, sEr_b (b := sHas σ) rfl (by omega) (by omega) (by omega)]; exact (by rw [up2_row]; exact RelW.up hRz (by first | decide | omega) (by first | decide | omega))
          · rw [hz]; exact FF.ua (FF.fl hFp (by decide) (by decide)) (by decide) (by decide)
          · rw [c64, up2_a (by omega), hz, fl1_off (by omega), hCp, if_pos c64]; exact hC
        · have c64 := bi_f c64
          refine rc_p (p_aload_n 2 (dk_at ktX7_erases_0 38 rfl) rfl rfl (b := 68) rfl) ?_
          refine r_iV (As' := []) (rest := []) (s_X7_goesOff hm (σ := (upd (sFill (sTake σ) a k v) r (((sFill (sTake σ) a k v) r) + 1))) (by rw [up2_row]; exact RelW.up hRz (by first | decide | omega) (by first | decide | omega)) (((Inv.take hI).fill (by omega) hv).hi (by omega))) cw_X7_269 qi_X7_goesOff qv_X7_goesOff rfl hm.l0 hm.s0 (dk_at ktX7_erases_0 39 rfl) rfl rfl (Nat.le_of_ble_eq_true rfl) (by decide) (b := 71) rfl (fun v4 I1 J2 q3 => ?_)
          obtain ⟨rfl, rfl, hR5, hF6⟩ := q3
          refine r_if_eq (dk_at ktX7_erases_0 40 rfl) (b := 78) (by decide) (b2 := 74) rfl (fun c71 => ?_) (fun c71 => ?_)
          · skip
            refine rc_p (p_iconst (v := 0) (dk_at ktX7_erases_0 43 rfl) (by decide) (b := 79) rfl) ?_
            refine r_iret (dk_at ktX7_erases_0 44 rfl) rfl rfl ⟨_, rfl, ?_⟩
            subst hk
            refine ⟨by rw [c64]; rfl, rfl, ?_, ?_, ?_⟩
            · rw [sStop_f c64, sEr_b (b := sHas σ) rfl (by omega) (by omega) (by omega)]; exact hR5
            · refine FF.tr ?_ (hF6.mo (by decide) (by decide))
              rw [hz]; exact FF.ua (FF.fl hFp (by decide) (by decide)) (by decide) (by decide)
            · rw [c64, hF6.2 23 (by decide), up2_a (by omega), hz, fl1_off (by omega), hCp, if_neg (by rw [c64]; decide)]; rfl
          · first | exact absurd c71 (by decide) | exact absurd (by decide) c71
      · have c32 : ¬ (c / 2) ≤ k := fun h => c32 ((nI_leI (a := c / 2) (b := k) (by omega) (by omega)).mpr h)
        refine rc_p (p_aload_n 2 (dk_at ktX7_erases_0 19 rfl) rfl rfl (b := 36) rfl) ?_
        refine r_geta fl_X7_9 rfl hm.l0 hm.s0 (dk_at ktX7_erases_0 20 rfl) hm.g0_0 (b := 39) rfl ?_
        refine rc_p (p_iload_n 3 (dk_at ktX7_erases_0 21 rfl) rfl rfl (b := 40) rfl) ?_
        refine rc_p (p_iload 0 (dk_at ktX7_erases_0 22 rfl) rfl (b := 42) rfl) ?_
        refine rc_p (p_iadd (v := (nI (a + k))) (dk_at ktX7_erases_0 23 rfl) (nI_add a k) (b := 43) rfl) ?_
        refine rc_p (p_iload 6 (dk_at ktX7_erases_0 24 rfl) rfl (b := 45) rfl) ?_
        refine r_iast (j := a + k) (hm.lt 1 (by decide)) hm.s1 (dk_at ktX7_erases_0 25 rfl) rfl ⟨by omega, by decide⟩ (b := 46) rfl ?_
        refine rc_p (p_iinc (j := 0) (v := (nI (k + 1))) (ls' := [(6, .int (nI (k + 1))), (5, .int (bi (sHas σ))), (0, .ref m), (1, .int (nI a)), (2, .int (nI c)), (3, .int (nI r)), (4, .int v)]) (dk_at ktX7_erases_0 26 rfl) rfl (nI_add k 1) (by decide) rfl (b := 49) rfl) ?_
        refine rc_p (p_goto (b := 18) (dk_at ktX7_erases_0 27 rfl) (by decide)) ?_
        refine r_mem (I2 := fl1 Ip (m + 1) a (k + 1) v) (by rw [hz]; exact fl1_s _ _ _ _ _) ?_
        exact ih (k + 1) _ (by omega) (by simp [c22]; omega) rfl
    · have c22 := bi_t c22
      refine rc_p (p_iload_n 4 (dk_at ktX7_erases_0 13 rfl) rfl rfl (b := 26) rfl) ?_
      refine rc_p (p_goto (b := 32) (dk_at ktX7_erases_0 14 rfl) (by decide)) ?_
      refine r_icmp_ge (dk_at ktX7_erases_0 18 rfl) (b := 52) (by decide) (b2 := 35) rfl (fun c32 => ?_) (fun c32 => ?_)
      · have c32 : c ≤ k := (nI_leI (a := c) (b := k) (by omega) (by omega)).mp c32
        have hk : k = (if sHas σ = true then c else c / 2) := by simp [c22] at hk1 ⊢; omega
        refine rc_p (p_aload_n 2 (dk_at ktX7_erases_0 28 rfl) rfl rfl (b := 53) rfl) ?_
        refine r_geta fl_X7_9 rfl hm.l0 hm.s0 (dk_at ktX7_erases_0 29 rfl) hm.g0_0 (b := 56) rfl ?_
        refine rc_p (p_iload_n 5 (dk_at ktX7_erases_0 30 rfl) rfl rfl (b := 57) rfl) ?_
        refine rc_p (p_dup2 (dk_at ktX7_erases_0 31 rfl) rfl rfl (b := 58) rfl) ?_
        refine r_iald (j := r) (hm.lt 1 (by decide)) hm.s1 (dk_at ktX7_erases_0 32 rfl) rfl ⟨by omega, by decide⟩ (v := ((sFill (sTake σ) a k v) r)) (hRz.1 r (by omega)) (b := 59) rfl ?_
        refine rc_p (p_iconst (v := 1) (dk_at ktX7_erases_0 33 rfl) (by decide) (b := 60) rfl) ?_
        refine rc_p (p_iadd (v := (((sFill (sTake σ) a k v) r) + 1)) (dk_at ktX7_erases_0 34 rfl) rfl (b := 61) rfl) ?_
        refine r_iast (j := r) (hm.lt 1 (by decide)) hm.s1 (dk_at ktX7_erases_0 35 rfl) rfl ⟨by omega, by decide⟩ (b := 62) rfl ?_
        refine rc_p (p_iload 1 (dk_at ktX7_erases_0 36 rfl) rfl (b := 64) rfl) ?_
        refine r_if_ne (dk_at ktX7_erases_0 37 rfl) (b := 74) (by decide) (b2 := 67) rfl (fun c64 => ?_) (fun c64 => ?_)
        · have c64 := bi_t c64
          refine rc_p (p_iconst (v := 1) (dk_at ktX7_erases_0 41 rfl) (by decide) (b := 75) rfl) ?_
          refine rc_p (p_goto (b := 79) (dk_at ktX7_erases_0 42 rfl) (by decide)) ?_
          refine r_iret (dk_at ktX7_erases_0 44 rfl) rfl rfl ⟨_, rfl, ?_⟩
          subst hk
          refine ⟨by rw [c64]; rfl, rfl, ?_, ?_, ?_⟩
          · rw [sStop_t c64, sEr_b (b := sHas σ) rfl (by omega) (by omega) (by omega)]; exact (by rw [up2_row]; exact RelW.up hRz (by first | decide | omega) (by first | decide | omega))
          · rw [hz]; exact FF.ua (FF.fl hFp (by decide) (by decide)) (by decide) (by decide)
          · rw [c64, up2_a (by omega), hz, fl1_off (by omega), hCp, if_pos c64]; exact hC
        · have c64 := bi_f c64
          refine rc_p (p_aload_n 2 (dk_at ktX7_erases_0 38 rfl) rfl rfl (b := 68) rfl) ?_
          refine r_iV (As' := []) (rest := []) (s_X7_goesOff hm (σ := (upd (sFill (sTake σ) a k v) r (((sFill (sTake σ) a k v) r) + 1))) (by rw [up2_row]; exact RelW.up hRz (by first | decide | omega) (by first | decide | omega)) (((Inv.take hI).fill (by omega) hv).hi (by omega))) cw_X7_269 qi_X7_goesOff qv_X7_goesOff rfl hm.l0 hm.s0 (dk_at ktX7_erases_0 39 rfl) rfl rfl (Nat.le_of_ble_eq_true rfl) (by decide) (b := 71) rfl (fun v10 I7 J8 q9 => ?_)
          obtain ⟨rfl, rfl, hR11, hF12⟩ := q9
          refine r_if_eq (dk_at ktX7_erases_0 40 rfl) (b := 78) (by decide) (b2 := 74) rfl (fun c71 => ?_) (fun c71 => ?_)
          · skip
            refine rc_p (p_iconst (v := 0) (dk_at ktX7_erases_0 43 rfl) (by decide) (b := 79) rfl) ?_
            refine r_iret (dk_at ktX7_erases_0 44 rfl) rfl rfl ⟨_, rfl, ?_⟩
            subst hk
            refine ⟨by rw [c64]; rfl, rfl, ?_, ?_, ?_⟩
            · rw [sStop_f c64, sEr_b (b := sHas σ) rfl (by omega) (by omega) (by omega)]; exact hR11
            · refine FF.tr ?_ (hF12.mo (by decide) (by decide))
              rw [hz]; exact FF.ua (FF.fl hFp (by decide) (by decide)) (by decide) (by decide)
            · rw [c64, hF12.2 23 (by decide), up2_a (by omega), hz, fl1_off (by omega), hCp, if_neg (by rw [c64]; decide)]; rfl
          · first | exact absurd c71 (by decide) | exact absurd (by decide) c71
      · have c32 : ¬ c ≤ k := fun h => c32 ((nI_leI (a := c) (b := k) (by omega) (by omega)).mpr h)
        refine rc_p (p_aload_n 2 (dk_at ktX7_erases_0 19 rfl) rfl rfl (b := 36) rfl) ?_
        refine r_geta fl_X7_9 rfl hm.l0 hm.s0 (dk_at ktX7_erases_0 20 rfl) hm.g0_0 (b := 39) rfl ?_
        refine rc_p (p_iload_n 3 (dk_at ktX7_erases_0 21 rfl) rfl rfl (b := 40) rfl) ?_
        refine rc_p (p_iload 0 (dk_at ktX7_erases_0 22 rfl) rfl (b := 42) rfl) ?_
        refine rc_p (p_iadd (v := (nI (a + k))) (dk_at ktX7_erases_0 23 rfl) (nI_add a k) (b := 43) rfl) ?_
        refine rc_p (p_iload 6 (dk_at ktX7_erases_0 24 rfl) rfl (b := 45) rfl) ?_
        refine r_iast (j := a + k) (hm.lt 1 (by decide)) hm.s1 (dk_at ktX7_erases_0 25 rfl) rfl ⟨by omega, by decide⟩ (b := 46) rfl ?_
        refine rc_p (p_iinc (j := 0) (v := (nI (k + 1))) (ls' := [(6, .int (nI (k + 1))), (5, .int (bi (sHas σ))), (0, .ref m), (1, .int (nI a)), (2, .int (nI c)), (3, .int (nI r)), (4, .int v)]) (dk_at ktX7_erases_0 26 rfl) rfl (nI_add k 1) (by decide) rfl (b := 49) rfl) ?_
        refine rc_p (p_goto (b := 18) (dk_at ktX7_erases_0 27 rfl) (by decide)) ?_
        refine r_mem (I2 := fl1 Ip (m + 1) a (k + 1) v) (by rw [hz]; exact fl1_s _ _ _ _ _) ?_
        exact ih (k + 1) _ (by omega) (by simp [c22]; omega) rfl
  refine rc_p (p_aload_n 0 (dk_at ktX7_erases_0 0 rfl) rfl rfl (b := 1) rfl) ?_
  refine r_geti fl_X7_258 rfl hm.l0 hm.s0 (dk_at ktX7_erases_0 1 rfl) (v := 0) hC (b := 4) rfl ?_
  refine r_if_eq (dk_at ktX7_erases_0 2 rfl) (b := 9) (by decide) (b2 := 7) rfl (fun c4 => ?_) (fun c4 => ?_)
  · skip
    refine rc_p (p_aload_n 0 (dk_at ktX7_erases_0 5 rfl) rfl rfl (b := 10) rfl) ?_
    refine r_iV (As' := []) (rest := []) (s_X7_hasPower hm (σ := σ) hR hI) cw_X7_265 qi_X7_hasPower qv_X7_hasPower rfl hm.l0 hm.s0 (dk_at ktX7_erases_0 6 rfl) rfl rfl (Nat.le_of_ble_eq_true rfl) (by decide) (b := 13) rfl (fun v16 I13 J14 q15 => ?_)
    obtain ⟨rfl, rfl, hR17, hF18, hC19⟩ := q15
    refine rc_p (p_istore (ls' := [(5, .int (bi (sHas σ))), (0, .ref m), (1, .int (nI a)), (2, .int (nI c)), (3, .int (nI r)), (4, .int v)]) (dk_at ktX7_erases_0 7 rfl) (by decide) rfl (b := 15) rfl) ?_
    refine rc_p (p_iconst (v := 0) (dk_at ktX7_erases_0 8 rfl) (by decide) (b := 16) rfl) ?_
    refine rc_p (p_istore (ls' := [(6, .int 0), (5, .int (bi (sHas σ))), (0, .ref m), (1, .int (nI a)), (2, .int (nI c)), (3, .int (nI r)), (4, .int v)]) (dk_at ktX7_erases_0 9 rfl) (by decide) rfl (b := 18) rfl) ?_
    exact cut18 I13 hR17 hF18 hC19 1000 0 _ (by omega) (Nat.zero_le _) (fl1_0 _ _ _ _).symm
  · first | exact absurd c4 (by decide) | exact absurd (by decide) c4

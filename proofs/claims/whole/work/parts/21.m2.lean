/-! THE REFERENCE: operations -/
set_option maxRecDepth 4000 in
set_option maxHeartbeats 2000000 in
theorem s_X7_notes {n : Nat} {sh : mS} {G : mG} {I : mI} {J : mJ} {m : Nat} {σ : sT} (hm : ModG n sh G m) (hR : RelW (I (m + 1)) σ) (hL : IvL σ) (e : Nat) (he : e < 8) (x : Int32) : Sp yX7_notes cX7_notes 4 none 1 48 0 0 [.ref m, .int (nI e), .int x] n sh G I J (Qv (fun I_ J_ => J = J_ ∧ RelW (I_ (m + 1)) (sNote σ e x) ∧ FF m [1] [] I I_)) nX := by
  refine Sp.of (by decide) (ls := [(0, .ref m), (1, .int (nI e)), (2, .int x)]) (fun _ => rfl) (fun _ => Nat.le_of_ble_eq_true rfl) ?_
  have cut29 : ∀ (t k : Nat) (Iz : mI), nL σ = 40 → 426 - k < t → 309 ≤ k → k ≤ 426 → Iz = shf (up2 I (m + 1) (11 + e) (σ (11 + e) + 1)) (m + 1) k → Rc RX7 cX7_notes 4 none 1 48 0 0 n sh G (Qv (fun I_ J_ => J = J_ ∧ RelW (I_ (m + 1)) (sNote σ e x) ∧ FF m [1] [] I I_)) nX 0 0 29 [(3, .int (nI k)), (0, .ref m), (1, .int (nI e)), (2, .int x)] [] Iz J := by
    intro t
    induction t
    · intro k Iz h40 h; omega
    rename_i t ih
    intro k Iz h40 ht h1 h2 hz
    refine rc_p (p_iload_n 0 (dk_at ktX7_notes_0 18 rfl) rfl rfl (b := 30) rfl) ?_
    refine rc_p (p_sipush (v := 426) (dk_at ktX7_notes_0 19 rfl) (by decide) (b := 33) rfl) ?_
    refine r_icmp_ge (dk_at ktX7_notes_0 20 rfl) (b := 56) (by decide) (b2 := 36) rfl (fun c33 => ?_) (fun c33 => ?_)
    · have c33 : 426 ≤ k := (nI_leI (a := 426) (b := k) (by omega) (by omega)).mp c33
      refine rc_p (p_aload_n 1 (dk_at ktX7_notes_0 33 rfl) rfl rfl (b := 57) rfl) ?_
      refine r_geta fl_X7_9 rfl hm.l0 hm.s0 (dk_at ktX7_notes_0 34 rfl) hm.g0_0 (b := 60) rfl ?_
      refine rc_p (p_bipush (v := 10) (dk_at ktX7_notes_0 35 rfl) (by decide) (b := 62) rfl) ?_
      refine rc_p (p_dup2 (dk_at ktX7_notes_0 36 rfl) rfl rfl (b := 63) rfl) ?_
      refine r_iald (j := 10) (hm.lt 1 (by decide)) hm.s1 (dk_at ktX7_notes_0 37 rfl) rfl ⟨by decide, by decide⟩ (v := (nI 40)) (by rw [hz]; simp only [shf]; rw [if_neg (by omega), up2_k (by omega)]; exact (hR.1 10 (by decide)).trans (hL.1.trans (by rw [h40]))) (b := 64) rfl ?_
      refine rc_p (p_iconst (v := 1) (dk_at ktX7_notes_0 38 rfl) (by decide) (b := 65) rfl) ?_
      refine rc_p (p_isub (v := (nI 39)) (dk_at ktX7_notes_0 39 rfl) (pk_sub (a := 40) (b := 1) (by decide)) (b := 66) rfl) ?_
      refine r_iast (j := 10) (hm.lt 1 (by decide)) hm.s1 (dk_at ktX7_notes_0 40 rfl) rfl ⟨by decide, by decide⟩ (b := 67) rfl ?_
      refine rc_p (p_sipush (v := 309) (dk_at ktX7_notes_0 41 rfl) (by decide) (b := 70) rfl) ?_
      refine rc_p (p_iconst (v := 3) (dk_at ktX7_notes_0 42 rfl) (by decide) (b := 71) rfl) ?_
      refine rc_p (p_aload_n 1 (dk_at ktX7_notes_0 43 rfl) rfl rfl (b := 72) rfl) ?_
      refine r_geta fl_X7_9 rfl hm.l0 hm.s0 (dk_at ktX7_notes_0 44 rfl) hm.g0_0 (b := 75) rfl ?_
      refine rc_p (p_bipush (v := 10) (dk_at ktX7_notes_0 45 rfl) (by decide) (b := 77) rfl) ?_
      refine r_iald (j := 10) (hm.lt 1 (by decide)) hm.s1 (dk_at ktX7_notes_0 46 rfl) rfl ⟨by decide, by decide⟩ (v := (nI 39)) up2_s (b := 78) rfl ?_
      refine rc_p (p_imul (v := 117) (dk_at ktX7_notes_0 47 rfl) rfl (b := 79) rfl) ?_
      refine rc_p (p_iadd (v := 426) (dk_at ktX7_notes_0 48 rfl) rfl (b := 80) rfl) ?_
      refine rc_p (p_istore_n (ls' := [(3, .int 426), (0, .ref m), (1, .int (nI e)), (2, .int x)]) (dk_at ktX7_notes_0 49 rfl) rfl (by decide) rfl (b := 81) rfl) ?_
      refine rc_p (p_aload_n 1 (dk_at ktX7_notes_0 50 rfl) rfl rfl (b := 82) rfl) ?_
      refine r_geta fl_X7_9 rfl hm.l0 hm.s0 (dk_at ktX7_notes_0 51 rfl) hm.g0_0 (b := 85) rfl ?_
      refine rc_p (p_iload_n 0 (dk_at ktX7_notes_0 52 rfl) rfl rfl (b := 86) rfl) ?_
      refine rc_p (p_iload_n 2 (dk_at ktX7_notes_0 53 rfl) rfl rfl (b := 87) rfl) ?_
      refine r_iast (j := 426) (hm.lt 1 (by decide)) hm.s1 (dk_at ktX7_notes_0 54 rfl) rfl ⟨by decide, by decide⟩ (b := 88) rfl ?_
      refine rc_p (p_aload_n 1 (dk_at ktX7_notes_0 55 rfl) rfl rfl (b := 89) rfl) ?_
      refine r_geta fl_X7_9 rfl hm.l0 hm.s0 (dk_at ktX7_notes_0 56 rfl) hm.g0_0 (b := 92) rfl ?_
      refine rc_p (p_iload_n 0 (dk_at ktX7_notes_0 57 rfl) rfl rfl (b := 93) rfl) ?_
      refine rc_p (p_iconst (v := 1) (dk_at ktX7_notes_0 58 rfl) (by decide) (b := 94) rfl) ?_
      refine rc_p (p_iadd (v := 427) (dk_at ktX7_notes_0 59 rfl) rfl (b := 95) rfl) ?_
      refine rc_p (p_iload_n 3 (dk_at ktX7_notes_1 0 rfl) rfl rfl (b := 96) rfl) ?_
      refine r_iast (j := 427) (hm.lt 1 (by decide)) hm.s1 (dk_at ktX7_notes_1 1 rfl) rfl ⟨by decide, by decide⟩ (b := 97) rfl ?_
      refine rc_p (p_aload_n 1 (dk_at ktX7_notes_1 2 rfl) rfl rfl (b := 98) rfl) ?_
      refine r_geta fl_X7_9 rfl hm.l0 hm.s0 (dk_at ktX7_notes_1 3 rfl) hm.g0_0 (b := 101) rfl ?_
      refine rc_p (p_iload_n 0 (dk_at ktX7_notes_1 4 rfl) rfl rfl (b := 102) rfl) ?_
      refine rc_p (p_iconst (v := 2) (dk_at ktX7_notes_1 5 rfl) (by decide) (b := 103) rfl) ?_
      refine rc_p (p_iadd (v := 428) (dk_at ktX7_notes_1 6 rfl) rfl (b := 104) rfl) ?_
      refine rc_p (p_aload_n 1 (dk_at ktX7_notes_1 7 rfl) rfl rfl (b := 105) rfl) ?_
      refine r_geta fl_X7_9 rfl hm.l0 hm.s0 (dk_at ktX7_notes_1 8 rfl) hm.g0_0 (b := 108) rfl ?_
      refine rc_p (p_bipush (v := 9) (dk_at ktX7_notes_1 9 rfl) (by decide) (b := 110) rfl) ?_
      refine r_iald (j := 9) (hm.lt 1 (by decide)) hm.s1 (dk_at ktX7_notes_1 10 rfl) rfl ⟨by decide, by decide⟩ (v := (σ 9)) (by rw [up2_k (by omega), up2_k (by omega), up2_k (by omega), hz]; simp only [shf]; rw [if_neg (by omega), up2_k (by omega)]; exact hR.1 9 (by decide)) (b := 111) rfl ?_
      refine r_iast (j := 428) (hm.lt 1 (by decide)) hm.s1 (dk_at ktX7_notes_1 11 rfl) rfl ⟨by decide, by decide⟩ (b := 112) rfl ?_
      refine rc_p (p_aload_n 1 (dk_at ktX7_notes_1 12 rfl) rfl rfl (b := 113) rfl) ?_
      refine r_geta fl_X7_9 rfl hm.l0 hm.s0 (dk_at ktX7_notes_1 13 rfl) hm.g0_0 (b := 116) rfl ?_
      refine rc_p (p_bipush (v := 10) (dk_at ktX7_notes_1 14 rfl) (by decide) (b := 118) rfl) ?_
      refine rc_p (p_dup2 (dk_at ktX7_notes_1 15 rfl) rfl rfl (b := 119) rfl) ?_
      refine r_iald (j := 10) (hm.lt 1 (by decide)) hm.s1 (dk_at ktX7_notes_1 16 rfl) rfl ⟨by decide, by decide⟩ (v := (nI 39)) ((up2_n (by omega)).trans ((up2_n (by omega)).trans ((up2_n (by omega)).trans up2_s))) (b := 120) rfl ?_
      refine rc_p (p_iconst (v := 1) (dk_at ktX7_notes_1 17 rfl) (by decide) (b := 121) rfl) ?_
      refine rc_p (p_iadd (v := 40) (dk_at ktX7_notes_1 18 rfl) rfl (b := 122) rfl) ?_
      refine r_iast (j := 10) (hm.lt 1 (by decide)) hm.s1 (dk_at ktX7_notes_1 19 rfl) rfl ⟨by decide, by decide⟩ (b := 123) rfl ?_
      refine r_vret (dk_at ktX7_notes_1 20 rfl) rfl ⟨rfl, ?_⟩
      refine ⟨rfl, ?_, ?_⟩
      · simp only [up2_row]; exact note_end40 hR hL h40 he (by rw [hz]; funext j; exact shf_end he j (by omega))
      · repeat refine FF.ua ?_ (by decide) (by decide)
        rw [hz]; exact shf_fr (FF.rf.ua (by decide) (by decide))
    · have c33 : ¬ 426 ≤ k := fun h => c33 ((nI_leI (a := 426) (b := k) (by omega) (by omega)).mpr h)
      refine rc_p (p_aload_n 1 (dk_at ktX7_notes_0 21 rfl) rfl rfl (b := 37) rfl) ?_
      refine r_geta fl_X7_9 rfl hm.l0 hm.s0 (dk_at ktX7_notes_0 22 rfl) hm.g0_0 (b := 40) rfl ?_
      refine rc_p (p_iload_n 0 (dk_at ktX7_notes_0 23 rfl) rfl rfl (b := 41) rfl) ?_
      refine rc_p (p_aload_n 1 (dk_at ktX7_notes_0 24 rfl) rfl rfl (b := 42) rfl) ?_
      refine r_geta fl_X7_9 rfl hm.l0 hm.s0 (dk_at ktX7_notes_0 25 rfl) hm.g0_0 (b := 45) rfl ?_
      refine rc_p (p_iload_n 0 (dk_at ktX7_notes_0 26 rfl) rfl rfl (b := 46) rfl) ?_
      refine rc_p (p_iconst (v := 3) (dk_at ktX7_notes_0 27 rfl) (by decide) (b := 47) rfl) ?_
      refine rc_p (p_iadd (v := (nI (k + 3))) (dk_at ktX7_notes_0 28 rfl) (nI_add k 3) (b := 48) rfl) ?_
      refine r_iald (j := k + 3) (hm.lt 1 (by decide)) hm.s1 (dk_at ktX7_notes_0 29 rfl) rfl ⟨by omega, by decide⟩ (v := (Iz (m + 1) (k + 3))) rfl (b := 49) rfl ?_
      refine r_iast (j := k) (hm.lt 1 (by decide)) hm.s1 (dk_at ktX7_notes_0 30 rfl) rfl ⟨by omega, by decide⟩ (b := 50) rfl ?_
      refine rc_p (p_iinc (j := 0) (v := (nI (k + 1))) (ls' := [(3, .int (nI (k + 1))), (0, .ref m), (1, .int (nI e)), (2, .int x)]) (dk_at ktX7_notes_0 31 rfl) rfl (nI_add k 1) (by decide) rfl (b := 53) rfl) ?_
      refine rc_p (p_goto (b := 29) (dk_at ktX7_notes_0 32 rfl) (by decide)) ?_
      refine r_mem (I2 := shf (up2 I (m + 1) (11 + e) (σ (11 + e) + 1)) (m + 1) (k + 1)) (by rw [hz]; exact shf_s h1) ?_
      exact ih (k + 1) _ h40 (by omega) (by omega) (by omega) rfl
  have hL2 := hL.2
  refine rc_p (p_aload_n 0 (dk_at ktX7_notes_0 0 rfl) rfl rfl (b := 1) rfl) ?_
  refine r_geta fl_X7_9 rfl hm.l0 hm.s0 (dk_at ktX7_notes_0 1 rfl) hm.g0_0 (b := 4) rfl ?_
  refine rc_p (p_bipush (v := 11) (dk_at ktX7_notes_0 2 rfl) (by decide) (b := 6) rfl) ?_
  refine rc_p (p_iload_n 1 (dk_at ktX7_notes_0 3 rfl) rfl rfl (b := 7) rfl) ?_
  refine rc_p (p_iadd (v := (nI (11 + e))) (dk_at ktX7_notes_0 4 rfl) (nI_add 11 e) (b := 8) rfl) ?_
  refine rc_p (p_dup2 (dk_at ktX7_notes_0 5 rfl) rfl rfl (b := 9) rfl) ?_
  refine r_iald (j := 11 + e) (hm.lt 1 (by decide)) hm.s1 (dk_at ktX7_notes_0 6 rfl) rfl ⟨by omega, by decide⟩ (v := (σ (11 + e))) (hR.1 (11 + e) (by omega)) (b := 10) rfl ?_
  refine rc_p (p_iconst (v := 1) (dk_at ktX7_notes_0 7 rfl) (by decide) (b := 11) rfl) ?_
  refine rc_p (p_iadd (v := ((σ (11 + e)) + 1)) (dk_at ktX7_notes_0 8 rfl) rfl (b := 12) rfl) ?_
  refine r_iast (j := 11 + e) (hm.lt 1 (by decide)) hm.s1 (dk_at ktX7_notes_0 9 rfl) rfl ⟨by omega, by decide⟩ (b := 13) rfl ?_
  refine rc_p (p_aload_n 0 (dk_at ktX7_notes_0 10 rfl) rfl rfl (b := 14) rfl) ?_
  refine r_geta fl_X7_9 rfl hm.l0 hm.s0 (dk_at ktX7_notes_0 11 rfl) hm.g0_0 (b := 17) rfl ?_
  refine rc_p (p_bipush (v := 10) (dk_at ktX7_notes_0 12 rfl) (by decide) (b := 19) rfl) ?_
  refine r_iald (j := 10) (hm.lt 1 (by decide)) hm.s1 (dk_at ktX7_notes_0 13 rfl) rfl ⟨by decide, by decide⟩ (v := (nI (nL σ))) ((up2_n (by omega)).trans ((hR.1 10 (by decide)).trans hL.1)) (b := 20) rfl ?_
  refine rc_p (p_bipush (v := 40) (dk_at ktX7_notes_0 14 rfl) (by decide) (b := 22) rfl) ?_
  refine r_icmp_ne (dk_at ktX7_notes_0 15 rfl) (b := 67) (by decide) (b2 := 25) rfl (fun c22 => ?_) (fun c22 => ?_)
  · have c22 : ¬ (nL σ) = 40 := fun h => c22 ((nI_eq (a := (nL σ)) (b := 40) (by omega) (by omega)).mpr h)
    refine rc_p (p_sipush (v := 309) (dk_at ktX7_notes_0 41 rfl) (by decide) (b := 70) rfl) ?_
    refine rc_p (p_iconst (v := 3) (dk_at ktX7_notes_0 42 rfl) (by decide) (b := 71) rfl) ?_
    refine rc_p (p_aload_n 0 (dk_at ktX7_notes_0 43 rfl) rfl rfl (b := 72) rfl) ?_
    refine r_geta fl_X7_9 rfl hm.l0 hm.s0 (dk_at ktX7_notes_0 44 rfl) hm.g0_0 (b := 75) rfl ?_
    refine rc_p (p_bipush (v := 10) (dk_at ktX7_notes_0 45 rfl) (by decide) (b := 77) rfl) ?_
    refine r_iald (j := 10) (hm.lt 1 (by decide)) hm.s1 (dk_at ktX7_notes_0 46 rfl) rfl ⟨by decide, by decide⟩ (v := (nI (nL σ))) ((up2_n (by omega)).trans ((hR.1 10 (by decide)).trans hL.1)) (b := 78) rfl ?_
    refine rc_p (p_imul (v := (nI (3 * (nL σ)))) (dk_at ktX7_notes_0 47 rfl) (pk_mul 3 (nL σ)) (b := 79) rfl) ?_
    refine rc_p (p_iadd (v := (nI (309 + (3 * (nL σ))))) (dk_at ktX7_notes_0 48 rfl) (nI_add 309 (3 * (nL σ))) (b := 80) rfl) ?_
    refine rc_p (p_istore_n (ls' := [(3, .int (nI (309 + (3 * (nL σ))))), (0, .ref m), (1, .int (nI e)), (2, .int x)]) (dk_at ktX7_notes_0 49 rfl) rfl (by decide) rfl (b := 81) rfl) ?_
    refine rc_p (p_aload_n 1 (dk_at ktX7_notes_0 50 rfl) rfl rfl (b := 82) rfl) ?_
    refine r_geta fl_X7_9 rfl hm.l0 hm.s0 (dk_at ktX7_notes_0 51 rfl) hm.g0_0 (b := 85) rfl ?_
    refine rc_p (p_iload_n 0 (dk_at ktX7_notes_0 52 rfl) rfl rfl (b := 86) rfl) ?_
    refine rc_p (p_iload_n 2 (dk_at ktX7_notes_0 53 rfl) rfl rfl (b := 87) rfl) ?_
    refine r_iast (j := 309 + (3 * (nL σ))) (hm.lt 1 (by decide)) hm.s1 (dk_at ktX7_notes_0 54 rfl) rfl ⟨by omega, by decide⟩ (b := 88) rfl ?_
    refine rc_p (p_aload_n 1 (dk_at ktX7_notes_0 55 rfl) rfl rfl (b := 89) rfl) ?_
    refine r_geta fl_X7_9 rfl hm.l0 hm.s0 (dk_at ktX7_notes_0 56 rfl) hm.g0_0 (b := 92) rfl ?_
    refine rc_p (p_iload_n 0 (dk_at ktX7_notes_0 57 rfl) rfl rfl (b := 93) rfl) ?_
    refine rc_p (p_iconst (v := 1) (dk_at ktX7_notes_0 58 rfl) (by decide) (b := 94) rfl) ?_
    refine rc_p (p_iadd (v := (nI (309 + (3 * (nL σ)) + 1))) (dk_at ktX7_notes_0 59 rfl) (nI_add (309 + (3 * (nL σ))) 1) (b := 95) rfl) ?_
    refine rc_p (p_iload_n 3 (dk_at ktX7_notes_1 0 rfl) rfl rfl (b := 96) rfl) ?_
    refine r_iast (j := 309 + (3 * (nL σ)) + 1) (hm.lt 1 (by decide)) hm.s1 (dk_at ktX7_notes_1 1 rfl) rfl ⟨by omega, by decide⟩ (b := 97) rfl ?_
    refine rc_p (p_aload_n 1 (dk_at ktX7_notes_1 2 rfl) rfl rfl (b := 98) rfl) ?_
    refine r_geta fl_X7_9 rfl hm.l0 hm.s0 (dk_at ktX7_notes_1 3 rfl) hm.g0_0 (b := 101) rfl ?_
    refine rc_p (p_iload_n 0 (dk_at ktX7_notes_1 4 rfl) rfl rfl (b := 102) rfl) ?_
    refine rc_p (p_iconst (v := 2) (dk_at ktX7_notes_1 5 rfl) (by decide) (b := 103) rfl) ?_
    refine rc_p (p_iadd (v := (nI (309 + (3 * (nL σ)) + 2))) (dk_at ktX7_notes_1 6 rfl) (nI_add (309 + (3 * (nL σ))) 2) (b := 104) rfl) ?_
    refine rc_p (p_aload_n 1 (dk_at ktX7_notes_1 7 rfl) rfl rfl (b := 105) rfl) ?_
    refine r_geta fl_X7_9 rfl hm.l0 hm.s0 (dk_at ktX7_notes_1 8 rfl) hm.g0_0 (b := 108) rfl ?_
    refine rc_p (p_bipush (v := 9) (dk_at ktX7_notes_1 9 rfl) (by decide) (b := 110) rfl) ?_
    refine r_iald (j := 9) (hm.lt 1 (by decide)) hm.s1 (dk_at ktX7_notes_1 10 rfl) rfl ⟨by decide, by decide⟩ (v := (σ 9)) ((up2_n (by omega)).trans ((up2_n (by omega)).trans ((up2_n (by omega)).trans (hR.1 9 (by decide))))) (b := 111) rfl ?_
    refine r_iast (j := 309 + (3 * (nL σ)) + 2) (hm.lt 1 (by decide)) hm.s1 (dk_at ktX7_notes_1 11 rfl) rfl ⟨by omega, by decide⟩ (b := 112) rfl ?_
    refine rc_p (p_aload_n 1 (dk_at ktX7_notes_1 12 rfl) rfl rfl (b := 113) rfl) ?_
    refine r_geta fl_X7_9 rfl hm.l0 hm.s0 (dk_at ktX7_notes_1 13 rfl) hm.g0_0 (b := 116) rfl ?_
    refine rc_p (p_bipush (v := 10) (dk_at ktX7_notes_1 14 rfl) (by decide) (b := 118) rfl) ?_
    refine rc_p (p_dup2 (dk_at ktX7_notes_1 15 rfl) rfl rfl (b := 119) rfl) ?_
    refine r_iald (j := 10) (hm.lt 1 (by decide)) hm.s1 (dk_at ktX7_notes_1 16 rfl) rfl ⟨by decide, by decide⟩ (v := (nI (nL σ))) ((up2_n (by omega)).trans ((up2_n (by omega)).trans ((up2_n (by omega)).trans ((up2_n (by omega)).trans ((hR.1 10 (by decide)).trans hL.1))))) (b := 120) rfl ?_
    refine rc_p (p_iconst (v := 1) (dk_at ktX7_notes_1 17 rfl) (by decide) (b := 121) rfl) ?_
    refine rc_p (p_iadd (v := (nI ((nL σ) + 1))) (dk_at ktX7_notes_1 18 rfl) (nI_add (nL σ) 1) (b := 122) rfl) ?_
    refine r_iast (j := 10) (hm.lt 1 (by decide)) hm.s1 (dk_at ktX7_notes_1 19 rfl) rfl ⟨by decide, by decide⟩ (b := 123) rfl ?_
    refine r_vret (dk_at ktX7_notes_1 20 rfl) rfl ⟨rfl, ?_⟩
    refine ⟨rfl, ?_, ?_⟩
    · simp only [up2_row]; exact note_end hR hL (by omega) he
    · repeat refine FF.ua ?_ (by decide) (by decide)
      exact FF.rf
  · have c22 : (nL σ) = 40 := (nI_eq (a := (nL σ)) (b := 40) (by omega) (by omega)).mp c22
    refine rc_p (p_sipush (v := 309) (dk_at ktX7_notes_0 16 rfl) (by decide) (b := 28) rfl) ?_
    refine rc_p (p_istore_n (ls' := [(3, .int 309), (0, .ref m), (1, .int (nI e)), (2, .int x)]) (dk_at ktX7_notes_0 17 rfl) rfl (by decide) rfl (b := 29) rfl) ?_
    refine r_mem (shf_0 _ (m + 1)).symm ?_
    exact cut29 1000 309 _ c22 (by omega) (by omega) (by omega) rfl

/-! THE REFERENCE: writing images, updates -/
set_option maxRecDepth 4000 in
set_option maxHeartbeats 4000000 in
theorem s_X7_takesStaged {n : Nat} {sh : mS} {G : mG} {I : mI} {J : mJ} {m : Nat} {σ : sT} (hm : ModG n sh G m) (hR : RelW (I (m + 1)) σ) (hI : Inv σ)  : Sp yX7_takesStaged cX7_takesStaged 2 none 1 48 0 0 [.ref m] n sh G I J (Qv (fun I_ J_ => J = J_ ∧ RelW (I_ (m + 1)) σ ∧ FF m [8] [26] I I_ ∧ I_ m 26 = nI (nS σ) ∧ (∀ k, k < (nS σ) → I_ (m + 8) (3 + k) = (payS σ) (3 + k)))) nX := by
  refine Sp.of (by decide) (ls := [(0, .ref m)]) (fun _ => rfl) (fun _ => Nat.le_of_ble_eq_true rfl) ?_
  have cut12 : ∀ (t k : Nat) (Iz : mI), nS σ - k < t → k ≤ nS σ → RelW (Iz (m + 1)) σ → FF m [8] [26] I Iz → Iz m 26 = nI (nS σ) → (∀ j, j < k → Iz (m + 8) (3 + j) = payS σ (3 + j)) → Rc RX7 cX7_takesStaged 2 none 1 48 0 0 n sh G (Qv (fun I_ J_ => J = J_ ∧ RelW (I_ (m + 1)) σ ∧ FF m [8] [26] I I_ ∧ I_ m 26 = nI (nS σ) ∧ (∀ k, k < (nS σ) → I_ (m + 8) (3 + k) = (payS σ) (3 + k)))) nX 0 0 12 [(1, .int (nI k)), (0, .ref m)] [] Iz J := by
    have hb := hI.bd
    intro t
    induction t
    · intro k Iz h; omega
    rename_i t ih
    intro k Iz ht h1 hRz hFz h26 hq
    refine rc_p (p_iload_n 0 (dk_at ktX7_takesStaged_0 8 rfl) rfl rfl (b := 13) rfl) ?_
    refine rc_p (p_aload_n 1 (dk_at ktX7_takesStaged_0 9 rfl) rfl rfl (b := 14) rfl) ?_
    refine r_geti fl_X7_322 rfl hm.l0 hm.s0 (dk_at ktX7_takesStaged_0 10 rfl) (v := (nI (nS σ))) h26 (b := 17) rfl ?_
    refine r_icmp_ge (dk_at ktX7_takesStaged_0 11 rfl) (b := 43) (by decide) (b2 := 20) rfl (fun c17 => ?_) (fun c17 => ?_)
    · have c17 : (nS σ) ≤ k := (nI_leI (a := nS σ) (b := k) (by omega) (by omega)).mp c17
      refine r_vret (dk_at ktX7_takesStaged_0 26 rfl) rfl ⟨rfl, ?_⟩
      refine ⟨rfl, hRz, hFz, h26, fun j hj => hq j (by omega)⟩
    · have c17 : ¬ (nS σ) ≤ k := fun h => c17 ((nI_leI (a := nS σ) (b := k) (by omega) (by omega)).mpr h)
      refine rc_p (p_aload_n 1 (dk_at ktX7_takesStaged_0 12 rfl) rfl rfl (b := 21) rfl) ?_
      refine r_geta fl_X7_36 rfl hm.l0 hm.s0 (dk_at ktX7_takesStaged_0 13 rfl) hm.g0_25 (b := 24) rfl ?_
      refine rc_p (p_iconst (v := 3) (dk_at ktX7_takesStaged_0 14 rfl) (by decide) (b := 25) rfl) ?_
      refine rc_p (p_iload_n 0 (dk_at ktX7_takesStaged_0 15 rfl) rfl rfl (b := 26) rfl) ?_
      refine rc_p (p_iadd (v := (nI (3 + k))) (dk_at ktX7_takesStaged_0 16 rfl) (nI_add 3 k) (b := 27) rfl) ?_
      refine rc_p (p_aload_n 1 (dk_at ktX7_takesStaged_0 17 rfl) rfl rfl (b := 28) rfl) ?_
      refine r_geta fl_X7_9 rfl hm.l0 hm.s0 (dk_at ktX7_takesStaged_0 18 rfl) hm.g0_0 (b := 31) rfl ?_
      refine rc_p (p_bipush (v := 19) (dk_at ktX7_takesStaged_0 19 rfl) (by decide) (b := 33) rfl) ?_
      refine rc_p (p_iload_n 0 (dk_at ktX7_takesStaged_0 20 rfl) rfl rfl (b := 34) rfl) ?_
      refine rc_p (p_iadd (v := (nI (19 + k))) (dk_at ktX7_takesStaged_0 21 rfl) (nI_add 19 k) (b := 35) rfl) ?_
      refine r_iald (j := 19 + k) (hm.lt 1 (by decide)) hm.s1 (dk_at ktX7_takesStaged_0 22 rfl) rfl ⟨by omega, by decide⟩ (v := (σ (19 + k))) (hRz.1 (19 + k) (by omega)) (b := 36) rfl ?_
      refine r_iast (j := 3 + k) (hm.lt 8 (by decide)) hm.s8 (dk_at ktX7_takesStaged_0 23 rfl) rfl ⟨by omega, by decide⟩ (b := 37) rfl ?_
      refine rc_p (p_iinc (j := 0) (v := (nI (k + 1))) (ls' := [(1, .int (nI (k + 1))), (0, .ref m)]) (dk_at ktX7_takesStaged_0 24 rfl) rfl (nI_add k 1) (by decide) rfl (b := 40) rfl) ?_
      refine rc_p (p_goto (b := 12) (dk_at ktX7_takesStaged_0 25 rfl) (by decide)) ?_
      exact ih (k + 1) _ (by omega) (by omega) (by rw [up2_off (by omega)]; exact hRz) (FF.ua hFz (by decide) (by decide)) (by rw [up2_a (by omega)]; exact h26) (fun j hj => by
        by_cases e : j = k
        · subst e; rw [up2_s]; show σ (19 + j) = σ (16 + (3 + j)); rw [show 16 + (3 + j) = 19 + j by omega]
        · rw [up2_k (by omega)]; exact hq j (by omega))
  have hb := hI.bd
  refine rc_p (p_aload_n 0 (dk_at ktX7_takesStaged_0 0 rfl) rfl rfl (b := 1) rfl) ?_
  refine rc_p (p_aload_n 0 (dk_at ktX7_takesStaged_0 1 rfl) rfl rfl (b := 2) rfl) ?_
  refine r_geta fl_X7_9 rfl hm.l0 hm.s0 (dk_at ktX7_takesStaged_0 2 rfl) hm.g0_0 (b := 5) rfl ?_
  refine rc_p (p_iconst (v := 4) (dk_at ktX7_takesStaged_0 3 rfl) (by decide) (b := 6) rfl) ?_
  refine r_iald (j := 4) (hm.lt 1 (by decide)) hm.s1 (dk_at ktX7_takesStaged_0 4 rfl) rfl ⟨by decide, by decide⟩ (v := (nI (nS σ))) ((hR.1 4 (by decide)).trans hI.w4) (b := 7) rfl ?_
  refine r_puti fl_X7_322 fw_X7_26 rfl hm.l0 hm.s0 rfl rfl (dk_at ktX7_takesStaged_0 5 rfl) (b := 10) rfl ?_
  refine rc_p (p_iconst (v := 0) (dk_at ktX7_takesStaged_0 6 rfl) (by decide) (b := 11) rfl) ?_
  refine rc_p (p_istore_n (ls' := [(1, .int 0), (0, .ref m)]) (dk_at ktX7_takesStaged_0 7 rfl) rfl (by decide) rfl (b := 12) rfl) ?_
  exact cut12 1000 0 (up2 I m 26 (nI (nS σ))) (by omega) (Nat.zero_le _) (by rw [up2_off (by omega)]; exact hR) (FF.uf FF.rf (by decide)) (by rw [up2_s]) (fun j hj => absurd hj (by omega))
set_option maxRecDepth 4000 in
set_option maxHeartbeats 4000000 in
theorem s_X7_writesHead {n : Nat} {sh : mS} {G : mG} {I : mI} {J : mJ} {m : Nat} {σ : sT} (hm : ModG n sh G m) (hR : RelW (I (m + 1)) σ) (hI : Inv σ) (hC : I m 23 = 0) (s : Nat) (hs : s < 2) (pay : sT) (c : Nat) (hc : c ≤ 61) (hP : I m 26 = nI c ∧ (∀ k, k < c → I (m + 8) (3 + k) = pay (3 + k))) (v : Int32) : Sp yX7_writesHead cX7_writesHead 4 (some FieldType.boolean) 4 192 0 0 [.ref m, .int (nI s), .int v] n sh G I J (Qi (fun r_ I_ J_ => bi ((fHd s c (sumF pay 0 v c) v σ).1) = r_ ∧ J = J_ ∧ RelW (I_ (m + 1)) (sStop ((fHd s c (sumF pay 0 v c) v σ).1) ((fHd s c (sumF pay 0 v c) v σ).2)) ∧ FF m [1] [23] I I_ ∧ I_ m 23 = ic ((fHd s c (sumF pay 0 v c) v σ).1))) nX := by
  refine Sp.of (by decide) (ls := [(0, .ref m), (1, .int (nI s)), (2, .int v)]) (fun _ => rfl) (fun _ => Nat.le_of_ble_eq_true rfl) ?_
  refine rc_p (p_iload_n 1 (dk_at ktX7_writesHead_0 0 rfl) rfl rfl (b := 1) rfl) ?_
  refine r_iS (As := [.int (nI s)]) (rest := []) (s_X7_slotAt s) cw_X7_197 qs_X7_slotAt (dk_at ktX7_writesHead_0 1 rfl) rfl rfl (Nat.le_of_ble_eq_true rfl) (by decide) (b := 4) rfl (fun v4 I1 J2 q3 => ?_)
  obtain ⟨rfl, rfl, rfl⟩ := q3
  refine rc_p (p_istore_n (ls' := [(3, .int (nI (83 + 64 * s))), (0, .ref m), (1, .int (nI s)), (2, .int v)]) (dk_at ktX7_writesHead_0 2 rfl) rfl (by decide) rfl (b := 5) rfl) ?_
  refine rc_p (p_aload_n 1 (dk_at ktX7_writesHead_0 3 rfl) rfl rfl (b := 6) rfl) ?_
  refine rc_p (p_iload_n 0 (dk_at ktX7_writesHead_0 4 rfl) rfl rfl (b := 7) rfl) ?_
  refine rc_p (p_iconst (v := 1) (dk_at ktX7_writesHead_0 5 rfl) (by decide) (b := 8) rfl) ?_
  refine rc_p (p_iadd (v := (nI (83 + 64 * s + 1))) (dk_at ktX7_writesHead_0 6 rfl) (nI_add (83 + 64 * s) 1) (b := 9) rfl) ?_
  refine rc_p (p_aload_n 1 (dk_at ktX7_writesHead_0 7 rfl) rfl rfl (b := 10) rfl) ?_
  refine r_geti fl_X7_322 rfl hm.l0 hm.s0 (dk_at ktX7_writesHead_0 8 rfl) (v := (nI c)) hP.1 (b := 13) rfl ?_
  refine r_iV (As' := [.int (nI (83 + 64 * s + 1)), .int (nI c)]) (rest := []) (s_X7_writes hm (σ := σ) hR hI hC (83 + 64 * s + 1) (by omega) (by omega) (nI c)) cw_X7_280 qi_X7_writes qv_X7_writes rfl hm.l0 hm.s0 (dk_at ktX7_writesHead_0 9 rfl) rfl rfl (Nat.le_of_ble_eq_true rfl) (by decide) (b := 16) rfl (fun v8 I5 J6 q7 => ?_)
  obtain ⟨rfl, rfl, hR9, hF10, hC11⟩ := q7
  refine r_if_eq (dk_at ktX7_writesHead_0 10 rfl) (b := 55) (by decide) (b2 := 19) rfl (fun c16 => ?_) (fun c16 => ?_)
  · have c16 := bi_f c16
    have hR12 : RelW (I5 (m + 1)) (sCut (sWr σ (83 + 64 * s + 1) (nI c))) := by rw [c16] at hR9; exact hR9
    have hC13 : I5 m 23 = 1 := by rw [c16] at hC11; exact hC11
    refine rc_p (p_iconst (v := 0) (dk_at ktX7_writesHead_0 31 rfl) (by decide) (b := 56) rfl) ?_
    refine r_iret (dk_at ktX7_writesHead_0 32 rfl) rfl rfl ⟨_, rfl, ?_⟩
    have he : fHd s c (sumF pay 0 v c) v σ = (false, sWr σ (83 + 64 * s + 1) (nI c)) := by
      unfold fHd; rw [sq_n (fWr_e c16)]
    refine ⟨by rw [he]; rfl, rfl, by rw [he]; exact hR12, (hF10.mo (by decide) (by decide)), by rw [he]; exact hC13⟩
  · have c16 := bi_t c16
    have hR14 : RelW (I5 (m + 1)) (sWr σ (83 + 64 * s + 1) (nI c)) := by rw [c16] at hR9; exact hR9
    have hC15 : I5 m 23 = 0 := by rw [c16] at hC11; exact hC11
    refine rc_p (p_aload_n 1 (dk_at ktX7_writesHead_0 11 rfl) rfl rfl (b := 20) rfl) ?_
    refine rc_p (p_iload_n 0 (dk_at ktX7_writesHead_0 12 rfl) rfl rfl (b := 21) rfl) ?_
    refine rc_p (p_iconst (v := 2) (dk_at ktX7_writesHead_0 13 rfl) (by decide) (b := 22) rfl) ?_
    refine rc_p (p_iadd (v := (nI (83 + 64 * s + 2))) (dk_at ktX7_writesHead_0 14 rfl) (nI_add (83 + 64 * s) 2) (b := 23) rfl) ?_
    refine rc_p (p_aload_n 1 (dk_at ktX7_writesHead_0 15 rfl) rfl rfl (b := 24) rfl) ?_
    refine r_geta fl_X7_36 rfl hm.l0 hm.s0 (dk_at ktX7_writesHead_0 16 rfl) hm.g0_25 (b := 27) rfl ?_
    refine rc_p (p_iconst (v := 0) (dk_at ktX7_writesHead_0 17 rfl) (by decide) (b := 28) rfl) ?_
    refine rc_p (p_iload_n 3 (dk_at ktX7_writesHead_0 18 rfl) rfl rfl (b := 29) rfl) ?_
    refine rc_p (p_aload_n 1 (dk_at ktX7_writesHead_0 19 rfl) rfl rfl (b := 30) rfl) ?_
    refine r_geti fl_X7_322 rfl hm.l0 hm.s0 (dk_at ktX7_writesHead_0 20 rfl) (v := (nI c)) (((hF10.2 26 (by decide))).trans hP.1) (b := 33) rfl ?_
    refine r_iS (As := [.ref (m + 8), .int 0, .int v, .int (nI c)]) (rest := [.int (nI (83 + 64 * s + 2)), .ref m]) (s_X7_sumOf (ar := (m + 8)) (len := 67) (a := 0) (c := c) ⟨(hm.lt 8 (by decide)), hm.s8⟩ (by decide) (by omega) v) cw_X7_155 qs_X7_sumOf (dk_at ktX7_writesHead_0 21 rfl) rfl rfl (Nat.le_of_ble_eq_true rfl) (by decide) (b := 36) rfl (fun v19 I16 J17 q18 => ?_)
    obtain ⟨rfl, rfl, rfl⟩ := q18
    refine r_val (y := (sumF pay 0 v c)) (sumF_congr (fun j hj => by rw [show 0 + 3 + j = 3 + j by omega]; exact (((congrFun (hF10.1 _ (by omega) (by simp)) (3 + j))).trans (hP.2 j (by omega))))) ?_
    refine r_iV (As' := [.int (nI (83 + 64 * s + 2)), .int (sumF pay 0 v c)]) (rest := []) (s_X7_writes hm (σ := (sWr σ (83 + 64 * s + 1) (nI c))) hR14 (Inv.wr hI (by omega) (by omega)) hC15 (83 + 64 * s + 2) (by omega) (by omega) (sumF pay 0 v c)) cw_X7_280 qi_X7_writes qv_X7_writes rfl hm.l0 hm.s0 (dk_at ktX7_writesHead_0 22 rfl) rfl rfl (Nat.le_of_ble_eq_true rfl) (by decide) (b := 39) rfl (fun v23 I20 J21 q22 => ?_)
    obtain ⟨rfl, rfl, hR24, hF25, hC26⟩ := q22
    refine r_if_eq (dk_at ktX7_writesHead_0 23 rfl) (b := 55) (by decide) (b2 := 42) rfl (fun c39 => ?_) (fun c39 => ?_)
    · have c39 := bi_f c39
      have hR27 : RelW (I20 (m + 1)) (sCut (sWr (sWr σ (83 + 64 * s + 1) (nI c)) (83 + 64 * s + 2) (sumF pay 0 v c))) := by rw [c39] at hR24; exact hR24
      have hC28 : I20 m 23 = 1 := by rw [c39] at hC26; exact hC26
      refine rc_p (p_iconst (v := 0) (dk_at ktX7_writesHead_0 31 rfl) (by decide) (b := 56) rfl) ?_
      refine r_iret (dk_at ktX7_writesHead_0 32 rfl) rfl rfl ⟨_, rfl, ?_⟩
      have he : fHd s c (sumF pay 0 v c) v σ = (false, sWr (sWr σ (83 + 64 * s + 1) (nI c)) (83 + 64 * s + 2) (sumF pay 0 v c)) := by
        unfold fHd; rw [sq_e (fWr_e c16), sq_n (fWr_e c39)]
      refine ⟨by rw [he]; rfl, rfl, by rw [he]; exact hR27, (FF.tr (hF10.mo (by decide) (by decide)) (hF25.mo (by decide) (by decide))), by rw [he]; exact hC28⟩
    · have c39 := bi_t c39
      have hR29 : RelW (I20 (m + 1)) (sWr (sWr σ (83 + 64 * s + 1) (nI c)) (83 + 64 * s + 2) (sumF pay 0 v c)) := by rw [c39] at hR24; exact hR24
      have hC30 : I20 m 23 = 0 := by rw [c39] at hC26; exact hC26
      refine rc_p (p_aload_n 1 (dk_at ktX7_writesHead_0 24 rfl) rfl rfl (b := 43) rfl) ?_
      refine rc_p (p_iload_n 0 (dk_at ktX7_writesHead_0 25 rfl) rfl rfl (b := 44) rfl) ?_
      refine rc_p (p_iload_n 3 (dk_at ktX7_writesHead_0 26 rfl) rfl rfl (b := 45) rfl) ?_
      refine r_iV (As' := [.int (nI (83 + 64 * s)), .int v]) (rest := []) (s_X7_writes hm (σ := (sWr (sWr σ (83 + 64 * s + 1) (nI c)) (83 + 64 * s + 2) (sumF pay 0 v c))) hR29 (Inv.wr (Inv.wr hI (by omega) (by omega)) (by omega) (by omega)) hC30 (83 + 64 * s) (by omega) (by omega) v) cw_X7_280 qi_X7_writes qv_X7_writes rfl hm.l0 hm.s0 (dk_at ktX7_writesHead_0 27 rfl) rfl rfl (Nat.le_of_ble_eq_true rfl) (by decide) (b := 48) rfl (fun v34 I31 J32 q33 => ?_)
      obtain ⟨rfl, rfl, hR35, hF36, hC37⟩ := q33
      refine r_if_eq (dk_at ktX7_writesHead_0 28 rfl) (b := 55) (by decide) (b2 := 51) rfl (fun c48 => ?_) (fun c48 => ?_)
      · have c48 := bi_f c48
        have hR38 : RelW (I31 (m + 1)) (sCut (sWr (sWr (sWr σ (83 + 64 * s + 1) (nI c)) (83 + 64 * s + 2) (sumF pay 0 v c)) (83 + 64 * s) v)) := by rw [c48] at hR35; exact hR35
        have hC39 : I31 m 23 = 1 := by rw [c48] at hC37; exact hC37
        refine rc_p (p_iconst (v := 0) (dk_at ktX7_writesHead_0 31 rfl) (by decide) (b := 56) rfl) ?_
        refine r_iret (dk_at ktX7_writesHead_0 32 rfl) rfl rfl ⟨_, rfl, ?_⟩
        have he : fHd s c (sumF pay 0 v c) v σ = (false, sWr (sWr (sWr σ (83 + 64 * s + 1) (nI c)) (83 + 64 * s + 2) (sumF pay 0 v c)) (83 + 64 * s) v) := by
          unfold fHd; rw [sq_e (fWr_e c16), sq_e (fWr_e c39)]; exact fWr_e c48
        refine ⟨by rw [he]; rfl, rfl, by rw [he]; exact hR38, (FF.tr (FF.tr (hF10.mo (by decide) (by decide)) (hF25.mo (by decide) (by decide))) (hF36.mo (by decide) (by decide))), by rw [he]; exact hC39⟩
      · have c48 := bi_t c48
        have hR40 : RelW (I31 (m + 1)) (sWr (sWr (sWr σ (83 + 64 * s + 1) (nI c)) (83 + 64 * s + 2) (sumF pay 0 v c)) (83 + 64 * s) v) := by rw [c48] at hR35; exact hR35
        have hC41 : I31 m 23 = 0 := by rw [c48] at hC37; exact hC37
        refine rc_p (p_iconst (v := 1) (dk_at ktX7_writesHead_0 29 rfl) (by decide) (b := 52) rfl) ?_
        refine rc_p (p_goto (b := 56) (dk_at ktX7_writesHead_0 30 rfl) (by decide)) ?_
        refine r_iret (dk_at ktX7_writesHead_0 32 rfl) rfl rfl ⟨_, rfl, ?_⟩
        have he : fHd s c (sumF pay 0 v c) v σ = (true, sWr (sWr (sWr σ (83 + 64 * s + 1) (nI c)) (83 + 64 * s + 2) (sumF pay 0 v c)) (83 + 64 * s) v) := by
          unfold fHd; rw [sq_e (fWr_e c16), sq_e (fWr_e c39)]; exact fWr_e c48
        refine ⟨by rw [he]; rfl, rfl, by rw [he]; exact hR40, (FF.tr (FF.tr (hF10.mo (by decide) (by decide)) (hF25.mo (by decide) (by decide))) (hF36.mo (by decide) (by decide))), by rw [he]; exact hC41⟩
set_option maxRecDepth 4000 in
set_option maxHeartbeats 4000000 in
theorem s_X7_writesPayload {n : Nat} {sh : mS} {G : mG} {I : mI} {J : mJ} {m : Nat} {σ : sT} (hm : ModG n sh G m) (hR : RelW (I (m + 1)) σ) (hI : Inv σ) (hC : I m 23 = 0) (s : Nat) (hs : s < 2) (pay : sT) (c : Nat) (hc : c ≤ 61) (hP : I m 26 = nI c ∧ (∀ k, k < c → I (m + 8) (3 + k) = pay (3 + k)))  : Sp yX7_writesPayload cX7_writesPayload 4 (some FieldType.boolean) 4 192 0 0 [.ref m, .int (nI s)] n sh G I J (Qi (fun r_ I_ J_ => bi ((itK (fPw s pay) c σ).1) = r_ ∧ J = J_ ∧ RelW (I_ (m + 1)) (sStop ((itK (fPw s pay) c σ).1) ((itK (fPw s pay) c σ).2)) ∧ FF m [1] [23] I I_ ∧ I_ m 23 = ic ((itK (fPw s pay) c σ).1))) nX := by
  refine Sp.of (by decide) (ls := [(0, .ref m), (1, .int (nI s))]) (fun _ => rfl) (fun _ => Nat.le_of_ble_eq_true rfl) ?_
  have cut2 : ∀ (t k : Nat) (Iz : mI) (σz : sT), c - k < t → k ≤ c → itK (fPw s pay) k σ = (true, σz) → RelW (Iz (m + 1)) σz → Inv σz → Iz m 23 = 0 → FF m [1] [23] I Iz → Rc RX7 cX7_writesPayload 4 (some FieldType.boolean) 4 192 0 0 n sh G (Qi (fun r_ I_ J_ => bi ((itK (fPw s pay) c σ).1) = r_ ∧ J = J_ ∧ RelW (I_ (m + 1)) (sStop ((itK (fPw s pay) c σ).1) ((itK (fPw s pay) c σ).2)) ∧ FF m [1] [23] I I_ ∧ I_ m 23 = ic ((itK (fPw s pay) c σ).1))) nX 0 0 2 [(2, .int (nI k)), (0, .ref m), (1, .int (nI s))] [] Iz J := by
    intro t
    induction t
    · intro k Iz σz h; omega
    rename_i t ih
    intro k Iz σz ht h1 hE hRz hIz hCz hFz
    have hPz : Iz m 26 = nI c ∧ (∀ k, k < c → Iz (m + 8) (3 + k) = pay (3 + k)) := ⟨(hFz.2 26 (by decide)).trans hP.1, fun j hj => (congrFun (hFz.1 (m + 8) (by omega) (by simp)) (3 + j)).trans (hP.2 j hj)⟩
    refine rc_p (p_iload_n 0 (dk_at ktX7_writesPayload_0 2 rfl) rfl rfl (b := 3) rfl) ?_
    refine rc_p (p_aload_n 1 (dk_at ktX7_writesPayload_0 3 rfl) rfl rfl (b := 4) rfl) ?_
    refine r_geti fl_X7_322 rfl hm.l0 hm.s0 (dk_at ktX7_writesPayload_0 4 rfl) (v := (nI c)) hPz.1 (b := 7) rfl ?_
    refine r_icmp_ge (dk_at ktX7_writesPayload_0 5 rfl) (b := 60) (by decide) (b2 := 10) rfl (fun c7 => ?_) (fun c7 => ?_)
    · have c7 : c ≤ k := (nI_leI (a := c) (b := k) (by omega) (by omega)).mp c7
      refine rc_p (p_iconst (v := 1) (dk_at ktX7_writesPayload_0 38 rfl) (by decide) (b := 61) rfl) ?_
      refine r_iret (dk_at ktX7_writesPayload_0 39 rfl) rfl rfl ⟨_, rfl, ?_⟩
      have hk : k = c := by omega
      subst hk
      refine ⟨by rw [hE]; rfl, rfl, by rw [hE]; exact hRz, hFz, by rw [hE]; exact hCz⟩
    · have c7 : ¬ c ≤ k := fun h => c7 ((nI_leI (a := c) (b := k) (by omega) (by omega)).mpr h)
      refine rc_p (p_iload_n 2 (dk_at ktX7_writesPayload_0 6 rfl) rfl rfl (b := 11) rfl) ?_
      refine r_iS (As := [.int (nI s)]) (rest := []) (s_X7_slotAt s) cw_X7_197 qs_X7_slotAt (dk_at ktX7_writesPayload_0 7 rfl) rfl rfl (Nat.le_of_ble_eq_true rfl) (by decide) (b := 14) rfl (fun v4 I1 J2 q3 => ?_)
      obtain ⟨rfl, rfl, rfl⟩ := q3
      refine rc_p (p_iconst (v := 3) (dk_at ktX7_writesPayload_0 8 rfl) (by decide) (b := 15) rfl) ?_
      refine rc_p (p_iadd (v := (nI (83 + 64 * s + 3))) (dk_at ktX7_writesPayload_0 9 rfl) (nI_add (83 + 64 * s) 3) (b := 16) rfl) ?_
      refine rc_p (p_iload_n 0 (dk_at ktX7_writesPayload_0 10 rfl) rfl rfl (b := 17) rfl) ?_
      refine rc_p (p_iadd (v := (nI (83 + 64 * s + 3 + k))) (dk_at ktX7_writesPayload_0 11 rfl) (nI_add (83 + 64 * s + 3) k) (b := 18) rfl) ?_
      refine rc_p (p_istore_n (ls' := [(3, .int (nI (83 + 64 * s + 3 + k))), (2, .int (nI k)), (0, .ref m), (1, .int (nI s))]) (dk_at ktX7_writesPayload_0 12 rfl) rfl (by decide) rfl (b := 19) rfl) ?_
      refine rc_p (p_aload_n 2 (dk_at ktX7_writesPayload_0 13 rfl) rfl rfl (b := 20) rfl) ?_
      refine r_geta fl_X7_9 rfl hm.l0 hm.s0 (dk_at ktX7_writesPayload_0 14 rfl) hm.g0_0 (b := 23) rfl ?_
      refine rc_p (p_iload_n 0 (dk_at ktX7_writesPayload_0 15 rfl) rfl rfl (b := 24) rfl) ?_
      refine r_iald (j := 83 + 64 * s + 3 + k) (hm.lt 1 (by decide)) hm.s1 (dk_at ktX7_writesPayload_0 16 rfl) rfl ⟨by omega, by decide⟩ (v := (σz (83 + 64 * s + 3 + k))) (hRz.1 (83 + 64 * s + 3 + k) (by omega)) (b := 25) rfl ?_
      refine rc_p (p_aload_n 2 (dk_at ktX7_writesPayload_0 17 rfl) rfl rfl (b := 26) rfl) ?_
      refine r_geta fl_X7_36 rfl hm.l0 hm.s0 (dk_at ktX7_writesPayload_0 18 rfl) hm.g0_25 (b := 29) rfl ?_
      refine rc_p (p_iconst (v := 3) (dk_at ktX7_writesPayload_0 19 rfl) (by decide) (b := 30) rfl) ?_
      refine rc_p (p_iload_n 1 (dk_at ktX7_writesPayload_0 20 rfl) rfl rfl (b := 31) rfl) ?_
      refine rc_p (p_iadd (v := (nI (3 + k))) (dk_at ktX7_writesPayload_0 21 rfl) (nI_add 3 k) (b := 32) rfl) ?_
      refine r_iald (j := 3 + k) (hm.lt 8 (by decide)) hm.s8 (dk_at ktX7_writesPayload_0 22 rfl) rfl ⟨by omega, by decide⟩ (v := (pay (3 + k))) (hPz.2 k (by omega)) (b := 33) rfl ?_
      refine r_icmp_eq (dk_at ktX7_writesPayload_0 23 rfl) (b := 54) (by decide) (b2 := 36) rfl (fun c33 => ?_) (fun c33 => ?_)
      · skip
        refine rc_p (p_iinc (j := 1) (v := (nI (k + 1))) (ls' := [(2, .int (nI (k + 1))), (3, .int (nI (83 + 64 * s + 3 + k))), (0, .ref m), (1, .int (nI s))]) (dk_at ktX7_writesPayload_0 36 rfl) rfl (nI_add k 1) (by decide) rfl (b := 57) rfl) ?_
        refine rc_p (p_goto (b := 2) (dk_at ktX7_writesPayload_0 37 rfl) (by decide)) ?_
        refine rc_sub [0, 2, 3] (ls' := [(2, .int (nI (k + 1))), (0, .ref m), (1, .int (nI s))]) rfl ?_
        exact ih (k + 1) Iz σz (by omega) (by omega) (by rw [itK_s hE, fPw_y c33]) hRz hIz hCz hFz
      · skip
        refine rc_p (p_aload_n 2 (dk_at ktX7_writesPayload_0 24 rfl) rfl rfl (b := 37) rfl) ?_
        refine rc_p (p_iload_n 0 (dk_at ktX7_writesPayload_0 25 rfl) rfl rfl (b := 38) rfl) ?_
        refine rc_p (p_aload_n 2 (dk_at ktX7_writesPayload_0 26 rfl) rfl rfl (b := 39) rfl) ?_
        refine r_geta fl_X7_36 rfl hm.l0 hm.s0 (dk_at ktX7_writesPayload_0 27 rfl) hm.g0_25 (b := 42) rfl ?_
        refine rc_p (p_iconst (v := 3) (dk_at ktX7_writesPayload_0 28 rfl) (by decide) (b := 43) rfl) ?_
        refine rc_p (p_iload_n 1 (dk_at ktX7_writesPayload_0 29 rfl) rfl rfl (b := 44) rfl) ?_
        refine rc_p (p_iadd (v := (nI (3 + k))) (dk_at ktX7_writesPayload_0 30 rfl) (nI_add 3 k) (b := 45) rfl) ?_
        refine r_iald (j := 3 + k) (hm.lt 8 (by decide)) hm.s8 (dk_at ktX7_writesPayload_0 31 rfl) rfl ⟨by omega, by decide⟩ (v := (pay (3 + k))) (hPz.2 k (by omega)) (b := 46) rfl ?_
        refine r_iV (As' := [.int (nI (83 + 64 * s + 3 + k)), .int (pay (3 + k))]) (rest := []) (s_X7_writes hm (σ := σz) hRz hIz hCz (83 + 64 * s + 3 + k) (by omega) (by omega) (pay (3 + k))) cw_X7_280 qi_X7_writes qv_X7_writes rfl hm.l0 hm.s0 (dk_at ktX7_writesPayload_0 32 rfl) rfl rfl (Nat.le_of_ble_eq_true rfl) (by decide) (b := 49) rfl (fun v8 I5 J6 q7 => ?_)
        obtain ⟨rfl, rfl, hR9, hF10, hC11⟩ := q7
        refine r_if_ne (dk_at ktX7_writesPayload_0 33 rfl) (b := 54) (by decide) (b2 := 52) rfl (fun c49 => ?_) (fun c49 => ?_)
        · have c49 := bi_t c49
          have hR12 : RelW (I5 (m + 1)) (sWr σz (83 + 64 * s + 3 + k) (pay (3 + k))) := by rw [c49] at hR9; exact hR9
          have hC13 : I5 m 23 = 0 := by rw [c49] at hC11; exact hC11
          refine rc_p (p_iinc (j := 1) (v := (nI (k + 1))) (ls' := [(2, .int (nI (k + 1))), (3, .int (nI (83 + 64 * s + 3 + k))), (0, .ref m), (1, .int (nI s))]) (dk_at ktX7_writesPayload_0 36 rfl) rfl (nI_add k 1) (by decide) rfl (b := 57) rfl) ?_
          refine rc_p (p_goto (b := 2) (dk_at ktX7_writesPayload_0 37 rfl) (by decide)) ?_
          refine rc_sub [0, 2, 3] (ls' := [(2, .int (nI (k + 1))), (0, .ref m), (1, .int (nI s))]) rfl ?_
          exact ih (k + 1) I5 _ (by omega) (by omega) (by rw [itK_s hE, fPw_n c33]; exact fWr_e c49) hR12 (Inv.wr hIz (by omega) (by omega)) hC13 (FF.tr hFz hF10)
        · have c49 := bi_f c49
          have hR14 : RelW (I5 (m + 1)) (sCut (sWr σz (83 + 64 * s + 3 + k) (pay (3 + k)))) := by rw [c49] at hR9; exact hR9
          have hC15 : I5 m 23 = 1 := by rw [c49] at hC11; exact hC11
          refine rc_p (p_iconst (v := 0) (dk_at ktX7_writesPayload_0 34 rfl) (by decide) (b := 53) rfl) ?_
          refine r_iret (dk_at ktX7_writesPayload_0 35 rfl) rfl rfl ⟨_, rfl, ?_⟩
          have he : itK (fPw s pay) c σ = (false, sWr σz (83 + 64 * s + 3 + k) (pay (3 + k))) :=
            itK_stop (k := k + 1) (by rw [itK_s hE, fPw_n c33]; exact fWr_e c49) (by omega)
          refine ⟨by rw [he]; rfl, rfl, by rw [he]; exact hR14, (FF.tr (hFz.mo (by decide) (by decide)) (hF10.mo (by decide) (by decide))), by rw [he]; exact hC15⟩
  refine rc_p (p_iconst (v := 0) (dk_at ktX7_writesPayload_0 0 rfl) (by decide) (b := 1) rfl) ?_
  refine rc_p (p_istore_n (ls' := [(2, .int 0), (0, .ref m), (1, .int (nI s))]) (dk_at ktX7_writesPayload_0 1 rfl) rfl (by decide) rfl (b := 2) rfl) ?_
  exact cut2 1000 0 I σ (by omega) (Nat.zero_le _) rfl hR hI hC FF.rf
set_option maxRecDepth 4000 in
set_option maxHeartbeats 4000000 in
theorem s_X7_isSpent {n : Nat} {sh : mS} {G : mG} {I : mI} {J : mJ} {m : Nat} {σ : sT} (hm : ModG n sh G m) (hR : RelW (I (m + 1)) σ) (hI : Inv σ) (s p : Nat) (hs : s < 2) (hp : p < 16) (pay : sT) (c : Nat) (hc : c ≤ 61) (hP : I m 26 = nI c ∧ (∀ k, k < c → I (m + 8) (3 + k) = pay (3 + k)))  : Sp yX7_isSpent cX7_isSpent 6 (some FieldType.boolean) 2 96 0 0 [.ref m, .int (nI s), .int (nI p)] n sh G I J (Qi (fun r_ I_ J_ => bi (spentB σ s p pay c) = r_ ∧ I = I_ ∧ J = J_)) nX := by
  refine Sp.of (by decide) (ls := [(0, .ref m), (1, .int (nI s)), (2, .int (nI p))]) (fun _ => rfl) (fun _ => Nat.le_of_ble_eq_true rfl) ?_
  have cut13 : ∀ (t k : Nat) (x : Int32), c - k < t → k ≤ c → x = bi (decide (p = 0) || anyB (spG σ s p pay) k) → Rc RX7 cX7_isSpent 6 (some FieldType.boolean) 2 96 0 0 n sh G (Qi (fun r_ I_ J_ => bi (spentB σ s p pay c) = r_ ∧ I = I_ ∧ J = J_)) nX 0 0 13 [(4, .int (nI k)), (3, .int x), (0, .ref m), (1, .int (nI s)), (2, .int (nI p))] [] I J := by
    have hb := hI.bd
    intro t
    induction t
    · intro k x h; omega
    rename_i t ih
    intro k x ht h1 hx
    subst hx
    have hdk : (3 + k) / nP σ ≤ 3 + k := Nat.div_le_self _ _
    refine rc_p (p_iload 0 (dk_at ktX7_isSpent_0 8 rfl) rfl (b := 15) rfl) ?_
    refine rc_p (p_aload_n 2 (dk_at ktX7_isSpent_0 9 rfl) rfl rfl (b := 16) rfl) ?_
    refine r_geti fl_X7_322 rfl hm.l0 hm.s0 (dk_at ktX7_isSpent_0 10 rfl) (v := (nI c)) hP.1 (b := 19) rfl ?_
    refine r_icmp_ge (dk_at ktX7_isSpent_0 11 rfl) (b := 93) (by decide) (b2 := 22) rfl (fun c19 => ?_) (fun c19 => ?_)
    · have c19 : c ≤ k := (nI_leI (a := c) (b := k) (by omega) (by omega)).mp c19
      refine rc_p (p_iload_n 1 (dk_at ktX7_isSpent_0 55 rfl) rfl rfl (b := 94) rfl) ?_
      refine r_iret (dk_at ktX7_isSpent_0 56 rfl) rfl (bi_nar (decide (p = 0) || anyB (spG σ s p pay) k)) ⟨_, rfl, ?_⟩
      refine ⟨?_, rfl, rfl⟩
      have hk : k = c := by omega
      subst hk
      rfl
    · have c19 : ¬ c ≤ k := fun h => c19 ((nI_leI (a := c) (b := k) (by omega) (by omega)).mpr h)
      refine rc_p (p_aload_n 2 (dk_at ktX7_isSpent_0 12 rfl) rfl rfl (b := 23) rfl) ?_
      refine r_geta fl_X7_9 rfl hm.l0 hm.s0 (dk_at ktX7_isSpent_0 13 rfl) hm.g0_0 (b := 26) rfl ?_
      refine rc_p (p_iload_n 3 (dk_at ktX7_isSpent_0 14 rfl) rfl rfl (b := 27) rfl) ?_
      refine r_iS (As := [.int (nI s)]) (rest := [.ref (m + 1)]) (s_X7_slotAt s) cw_X7_197 qs_X7_slotAt (dk_at ktX7_isSpent_0 15 rfl) rfl rfl (Nat.le_of_ble_eq_true rfl) (by decide) (b := 30) rfl (fun v4 I1 J2 q3 => ?_)
      obtain ⟨rfl, rfl, rfl⟩ := q3
      refine rc_p (p_iconst (v := 3) (dk_at ktX7_isSpent_0 16 rfl) (by decide) (b := 31) rfl) ?_
      refine rc_p (p_iadd (v := (nI (83 + 64 * s + 3))) (dk_at ktX7_isSpent_0 17 rfl) (nI_add (83 + 64 * s) 3) (b := 32) rfl) ?_
      refine rc_p (p_iload 0 (dk_at ktX7_isSpent_0 18 rfl) rfl (b := 34) rfl) ?_
      refine rc_p (p_iadd (v := (nI (83 + 64 * s + 3 + k))) (dk_at ktX7_isSpent_0 19 rfl) (nI_add (83 + 64 * s + 3) k) (b := 35) rfl) ?_
      refine r_iald (j := 83 + 64 * s + 3 + k) (hm.lt 1 (by decide)) hm.s1 (dk_at ktX7_isSpent_0 20 rfl) rfl ⟨by omega, by decide⟩ (v := (σ (83 + 64 * s + 3 + k))) (hR.1 (83 + 64 * s + 3 + k) (by omega)) (b := 36) rfl ?_
      refine rc_p (p_istore (ls' := [(5, .int (σ (83 + 64 * s + 3 + k))), (4, .int (nI k)), (3, .int (bi (decide (p = 0) || anyB (spG σ s p pay) k))), (0, .ref m), (1, .int (nI s)), (2, .int (nI p))]) (dk_at ktX7_isSpent_0 21 rfl) (by decide) rfl (b := 38) rfl) ?_
      refine rc_p (p_iload_n 2 (dk_at ktX7_isSpent_0 22 rfl) rfl rfl (b := 39) rfl) ?_
      refine r_if_ne (dk_at ktX7_isSpent_0 23 rfl) (b := 81) (by decide) (b2 := 42) rfl (fun c39 => ?_) (fun c39 => ?_)
      · have c39 := bi_t c39
        refine rc_p (p_iconst (v := 1) (dk_at ktX7_isSpent_0 49 rfl) (by decide) (b := 82) rfl) ?_
        refine rc_p (p_goto (b := 86) (dk_at ktX7_isSpent_0 50 rfl) (by decide)) ?_
        refine rc_p (p_istore_n (ls' := [(3, .int 1), (5, .int (σ (83 + 64 * s + 3 + k))), (4, .int (nI k)), (0, .ref m), (1, .int (nI s)), (2, .int (nI p))]) (dk_at ktX7_isSpent_0 52 rfl) rfl (by decide) rfl (b := 87) rfl) ?_
        refine rc_p (p_iinc (j := 2) (v := (nI (k + 1))) (ls' := [(4, .int (nI (k + 1))), (3, .int 1), (5, .int (σ (83 + 64 * s + 3 + k))), (0, .ref m), (1, .int (nI s)), (2, .int (nI p))]) (dk_at ktX7_isSpent_0 53 rfl) rfl (nI_add k 1) (by decide) rfl (b := 90) rfl) ?_
        refine rc_p (p_goto (b := 13) (dk_at ktX7_isSpent_0 54 rfl) (by decide)) ?_
        refine rc_sub [0, 1, 3, 4, 5] (ls' := [(4, .int (nI (k + 1))), (3, .int 1), (0, .ref m), (1, .int (nI s)), (2, .int (nI p))]) rfl ?_
        exact ih (k + 1) _ (by omega) (by omega) (by show _ = bi (decide (p = 0) || (anyB (spG σ s p pay) k || spG σ s p pay k)); rw [← Bool.or_assoc]; rw [c39, Bool.true_or]; rfl)
      · have c39 := bi_f c39
        refine rc_p (p_iconst (v := 3) (dk_at ktX7_isSpent_0 24 rfl) (by decide) (b := 43) rfl) ?_
        refine rc_p (p_iload 1 (dk_at ktX7_isSpent_0 25 rfl) rfl (b := 45) rfl) ?_
        refine rc_p (p_iadd (v := (nI (3 + k))) (dk_at ktX7_isSpent_0 26 rfl) (nI_add 3 k) (b := 46) rfl) ?_
        refine rc_p (p_aload_n 3 (dk_at ktX7_isSpent_0 27 rfl) rfl rfl (b := 47) rfl) ?_
        refine r_geta fl_X7_9 rfl hm.l0 hm.s0 (dk_at ktX7_isSpent_0 28 rfl) hm.g0_0 (b := 50) rfl ?_
        refine rc_p (p_iconst (v := 1) (dk_at ktX7_isSpent_0 29 rfl) (by decide) (b := 51) rfl) ?_
        refine r_iald (j := 1) (hm.lt 1 (by decide)) hm.s1 (dk_at ktX7_isSpent_0 30 rfl) rfl ⟨by decide, by decide⟩ (v := (nI (nP σ))) ((hR.1 1 (by decide)).trans hI.w1) (b := 52) rfl ?_
        refine rc_p (p_idiv (v := (nI ((3 + k) / nP σ))) (dk_at ktX7_isSpent_0 31 rfl) (nI_ne0 (by omega) (by omega)) (n_div (by omega) (by omega) (by omega)) (b := 53) rfl) ?_
        refine rc_p (p_iload_n 5 (dk_at ktX7_isSpent_0 32 rfl) rfl rfl (b := 54) rfl) ?_
        refine r_icmp_ne (dk_at ktX7_isSpent_0 33 rfl) (b := 85) (by decide) (b2 := 57) rfl (fun c54 => ?_) (fun c54 => ?_)
        · have c54 : ¬ ((3 + k) / nP σ) = p := fun h => c54 ((nI_eq (a := (3 + k) / nP σ) (b := p) (by omega) (by omega)).mpr h)
          refine rc_p (p_iconst (v := 0) (dk_at ktX7_isSpent_0 51 rfl) (by decide) (b := 86) rfl) ?_
          refine rc_p (p_istore_n (ls' := [(3, .int 0), (5, .int (σ (83 + 64 * s + 3 + k))), (4, .int (nI k)), (0, .ref m), (1, .int (nI s)), (2, .int (nI p))]) (dk_at ktX7_isSpent_0 52 rfl) rfl (by decide) rfl (b := 87) rfl) ?_
          refine rc_p (p_iinc (j := 2) (v := (nI (k + 1))) (ls' := [(4, .int (nI (k + 1))), (3, .int 0), (5, .int (σ (83 + 64 * s + 3 + k))), (0, .ref m), (1, .int (nI s)), (2, .int (nI p))]) (dk_at ktX7_isSpent_0 53 rfl) rfl (nI_add k 1) (by decide) rfl (b := 90) rfl) ?_
          refine rc_p (p_goto (b := 13) (dk_at ktX7_isSpent_0 54 rfl) (by decide)) ?_
          refine rc_sub [0, 1, 3, 4, 5] (ls' := [(4, .int (nI (k + 1))), (3, .int 0), (0, .ref m), (1, .int (nI s)), (2, .int (nI p))]) rfl ?_
          exact ih (k + 1) _ (by omega) (by omega) (by show _ = bi (decide (p = 0) || (anyB (spG σ s p pay) k || spG σ s p pay k)); rw [← Bool.or_assoc]; rw [spG, decide_eq_false c54, Bool.false_and, Bool.or_false, c39]; rfl)
        · have c54 : ((3 + k) / nP σ) = p := (nI_eq (a := (3 + k) / nP σ) (b := p) (by omega) (by omega)).mp c54
          refine rc_p (p_iload 0 (dk_at ktX7_isSpent_0 34 rfl) rfl (b := 59) rfl) ?_
          refine rc_p (p_aload_n 3 (dk_at ktX7_isSpent_0 35 rfl) rfl rfl (b := 60) rfl) ?_
          refine r_geta fl_X7_36 rfl hm.l0 hm.s0 (dk_at ktX7_isSpent_0 36 rfl) hm.g0_25 (b := 63) rfl ?_
          refine rc_p (p_iconst (v := 3) (dk_at ktX7_isSpent_0 37 rfl) (by decide) (b := 64) rfl) ?_
          refine rc_p (p_iload 1 (dk_at ktX7_isSpent_0 38 rfl) rfl (b := 66) rfl) ?_
          refine rc_p (p_iadd (v := (nI (3 + k))) (dk_at ktX7_isSpent_0 39 rfl) (nI_add 3 k) (b := 67) rfl) ?_
          refine r_iald (j := 3 + k) (hm.lt 8 (by decide)) hm.s8 (dk_at ktX7_isSpent_0 40 rfl) rfl ⟨by omega, by decide⟩ (v := (pay (3 + k))) (hP.2 k (by omega)) (b := 68) rfl ?_
          refine rc_p (p_iand (v := ((σ (83 + 64 * s + 3 + k)) &&& (pay (3 + k)))) (dk_at ktX7_isSpent_0 41 rfl) rfl (b := 69) rfl) ?_
          refine rc_p (p_aload_n 3 (dk_at ktX7_isSpent_0 42 rfl) rfl rfl (b := 70) rfl) ?_
          refine r_geta fl_X7_36 rfl hm.l0 hm.s0 (dk_at ktX7_isSpent_0 43 rfl) hm.g0_25 (b := 73) rfl ?_
          refine rc_p (p_iconst (v := 3) (dk_at ktX7_isSpent_0 44 rfl) (by decide) (b := 74) rfl) ?_
          refine rc_p (p_iload 1 (dk_at ktX7_isSpent_0 45 rfl) rfl (b := 76) rfl) ?_
          refine rc_p (p_iadd (v := (nI (3 + k))) (dk_at ktX7_isSpent_0 46 rfl) (nI_add 3 k) (b := 77) rfl) ?_
          refine r_iald (j := 3 + k) (hm.lt 8 (by decide)) hm.s8 (dk_at ktX7_isSpent_0 47 rfl) rfl ⟨by omega, by decide⟩ (v := (pay (3 + k))) (hP.2 k (by omega)) (b := 78) rfl ?_
          refine r_icmp_eq (dk_at ktX7_isSpent_0 48 rfl) (b := 85) (by decide) (b2 := 81) rfl (fun c78 => ?_) (fun c78 => ?_)
          · skip
            refine rc_p (p_iconst (v := 0) (dk_at ktX7_isSpent_0 51 rfl) (by decide) (b := 86) rfl) ?_
            refine rc_p (p_istore_n (ls' := [(3, .int 0), (5, .int (σ (83 + 64 * s + 3 + k))), (4, .int (nI k)), (0, .ref m), (1, .int (nI s)), (2, .int (nI p))]) (dk_at ktX7_isSpent_0 52 rfl) rfl (by decide) rfl (b := 87) rfl) ?_
            refine rc_p (p_iinc (j := 2) (v := (nI (k + 1))) (ls' := [(4, .int (nI (k + 1))), (3, .int 0), (5, .int (σ (83 + 64 * s + 3 + k))), (0, .ref m), (1, .int (nI s)), (2, .int (nI p))]) (dk_at ktX7_isSpent_0 53 rfl) rfl (nI_add k 1) (by decide) rfl (b := 90) rfl) ?_
            refine rc_p (p_goto (b := 13) (dk_at ktX7_isSpent_0 54 rfl) (by decide)) ?_
            refine rc_sub [0, 1, 3, 4, 5] (ls' := [(4, .int (nI (k + 1))), (3, .int 0), (0, .ref m), (1, .int (nI s)), (2, .int (nI p))]) rfl ?_
            exact ih (k + 1) _ (by omega) (by omega) (by show _ = bi (decide (p = 0) || (anyB (spG σ s p pay) k || spG σ s p pay k)); rw [← Bool.or_assoc]; rw [spG, decide_eq_true c78, Bool.not_true, Bool.and_false, Bool.or_false, c39]; rfl)
          · skip
            refine rc_p (p_iconst (v := 1) (dk_at ktX7_isSpent_0 49 rfl) (by decide) (b := 82) rfl) ?_
            refine rc_p (p_goto (b := 86) (dk_at ktX7_isSpent_0 50 rfl) (by decide)) ?_
            refine rc_p (p_istore_n (ls' := [(3, .int 1), (5, .int (σ (83 + 64 * s + 3 + k))), (4, .int (nI k)), (0, .ref m), (1, .int (nI s)), (2, .int (nI p))]) (dk_at ktX7_isSpent_0 52 rfl) rfl (by decide) rfl (b := 87) rfl) ?_
            refine rc_p (p_iinc (j := 2) (v := (nI (k + 1))) (ls' := [(4, .int (nI (k + 1))), (3, .int 1), (5, .int (σ (83 + 64 * s + 3 + k))), (0, .ref m), (1, .int (nI s)), (2, .int (nI p))]) (dk_at ktX7_isSpent_0 53 rfl) rfl (nI_add k 1) (by decide) rfl (b := 90) rfl) ?_
            refine rc_p (p_goto (b := 13) (dk_at ktX7_isSpent_0 54 rfl) (by decide)) ?_
            refine rc_sub [0, 1, 3, 4, 5] (ls' := [(4, .int (nI (k + 1))), (3, .int 1), (0, .ref m), (1, .int (nI s)), (2, .int (nI p))]) rfl ?_
            exact ih (k + 1) _ (by omega) (by omega) (by show _ = bi (decide (p = 0) || (anyB (spG σ s p pay) k || spG σ s p pay k)); rw [← Bool.or_assoc]; rw [spG, decide_eq_true c54, decide_eq_false c78, c39]; rfl)
  refine rc_p (p_iload_n 2 (dk_at ktX7_isSpent_0 0 rfl) rfl rfl (b := 1) rfl) ?_
  refine r_if_ne (dk_at ktX7_isSpent_0 1 rfl) (b := 8) (by decide) (b2 := 4) rfl (fun c1 => ?_) (fun c1 => ?_)
  · have c1 : ¬ p = 0 := fun h => c1 ((nI_eq (a := p) (b := 0) (by omega) (by omega)).mpr h)
    refine rc_p (p_iconst (v := 0) (dk_at ktX7_isSpent_0 4 rfl) (by decide) (b := 9) rfl) ?_
    refine rc_p (p_istore_n (ls' := [(3, .int 0), (0, .ref m), (1, .int (nI s)), (2, .int (nI p))]) (dk_at ktX7_isSpent_0 5 rfl) rfl (by decide) rfl (b := 10) rfl) ?_
    refine rc_p (p_iconst (v := 0) (dk_at ktX7_isSpent_0 6 rfl) (by decide) (b := 11) rfl) ?_
    refine rc_p (p_istore (ls' := [(4, .int 0), (3, .int 0), (0, .ref m), (1, .int (nI s)), (2, .int (nI p))]) (dk_at ktX7_isSpent_0 7 rfl) (by decide) rfl (b := 13) rfl) ?_
    exact cut13 1000 0 _ (by omega) (Nat.zero_le _) (by rw [decide_eq_false c1]; rfl)
  · have c1 : p = 0 := (nI_eq (a := p) (b := 0) (by omega) (by omega)).mp c1
    refine rc_p (p_iconst (v := 1) (dk_at ktX7_isSpent_0 2 rfl) (by decide) (b := 5) rfl) ?_
    refine rc_p (p_goto (b := 9) (dk_at ktX7_isSpent_0 3 rfl) (by decide)) ?_
    refine rc_p (p_istore_n (ls' := [(3, .int 1), (0, .ref m), (1, .int (nI s)), (2, .int (nI p))]) (dk_at ktX7_isSpent_0 5 rfl) rfl (by decide) rfl (b := 10) rfl) ?_
    refine rc_p (p_iconst (v := 0) (dk_at ktX7_isSpent_0 6 rfl) (by decide) (b := 11) rfl) ?_
    refine rc_p (p_istore (ls' := [(4, .int 0), (3, .int 1), (0, .ref m), (1, .int (nI s)), (2, .int (nI p))]) (dk_at ktX7_isSpent_0 7 rfl) (by decide) rfl (b := 13) rfl) ?_
    exact cut13 1000 0 _ (by omega) (Nat.zero_le _) (by rw [show p = 0 from c1]; rfl)
set_option maxRecDepth 4000 in
set_option maxHeartbeats 4000000 in
theorem s_X7_writesImage {n : Nat} {sh : mS} {G : mG} {I : mI} {J : mJ} {m : Nat} {σ : sT} (hm : ModG n sh G m) (hR : RelW (I (m + 1)) σ) (hI : Inv σ) (hC : I m 23 = 0) (s : Nat) (hs : s < 2) (pay : sT) (c : Nat) (hc : c ≤ 61) (hP : I m 26 = nI c ∧ (∀ k, k < c → I (m + 8) (3 + k) = pay (3 + k))) (v : Int32) : Sp yX7_writesImage cX7_writesImage 4 (some FieldType.boolean) 6 288 0 0 [.ref m, .int (nI s), .int v] n sh G I J (Qi (fun r_ I_ J_ => bi ((fImg s false pay c v σ).1) = r_ ∧ J = J_ ∧ RelW (I_ (m + 1)) (sStop ((fImg s false pay c v σ).1) ((fImg s false pay c v σ).2)) ∧ FF m [1] [23] I I_ ∧ I_ m 23 = ic ((fImg s false pay c v σ).1))) nX := by
  refine Sp.of (by decide) (ls := [(0, .ref m), (1, .int (nI s)), (2, .int v)]) (fun _ => rfl) (fun _ => Nat.le_of_ble_eq_true rfl) ?_
  have cut2 : ∀ (t k : Nat) (Iz : mI) (σz : sT), (nW σ / nP σ) - k < t → k ≤ (nW σ / nP σ) → itK (fPg s false pay c) k σ = (true, σz) → RelW (Iz (m + 1)) σz → Inv σz → Iz m 23 = 0 → FF m [1] [23] I Iz → nW σz = nW σ → nP σz = nP σ → Rc RX7 cX7_writesImage 4 (some FieldType.boolean) 6 288 0 0 n sh G (Qi (fun r_ I_ J_ => bi ((fImg s false pay c v σ).1) = r_ ∧ J = J_ ∧ RelW (I_ (m + 1)) (sStop ((fImg s false pay c v σ).1) ((fImg s false pay c v σ).2)) ∧ FF m [1] [23] I I_ ∧ I_ m 23 = ic ((fImg s false pay c v σ).1))) nX 0 0 2 [(3, .int (nI k)), (0, .ref m), (1, .int (nI s)), (2, .int v)] [] Iz J := by
    have hb := hI.bd
    have hp0 : nW σ / nP σ ≤ 16 := by have h3 : nW σ / nP σ ≤ nW σ / 4 := Nat.div_le_div_left hb.2.2.1 (by decide); omega
    intro t
    induction t
    · intro k Iz σz h; omega
    rename_i t ih
    intro k Iz σz ht h1 hE hRz hIz hCz hFz hW hPg
    have hPz : Iz m 26 = nI c ∧ (∀ k, k < c → Iz (m + 8) (3 + k) = pay (3 + k)) := ⟨(hFz.2 26 (by decide)).trans hP.1, fun j hj => (congrFun (hFz.1 (m + 8) (by omega) (by simp)) (3 + j)).trans (hP.2 j hj)⟩
    have hq : nW σz / nP σz = nW σ / nP σ := by rw [hW, hPg]
    refine rc_p (p_iload_n 0 (dk_at ktX7_writesImage_0 2 rfl) rfl rfl (b := 3) rfl) ?_
    refine rc_p (p_aload_n 1 (dk_at ktX7_writesImage_0 3 rfl) rfl rfl (b := 4) rfl) ?_
    refine r_geta fl_X7_9 rfl hm.l0 hm.s0 (dk_at ktX7_writesImage_0 4 rfl) hm.g0_0 (b := 7) rfl ?_
    refine rc_p (p_iconst (v := 0) (dk_at ktX7_writesImage_0 5 rfl) (by decide) (b := 8) rfl) ?_
    refine r_iald (j := 0) (hm.lt 1 (by decide)) hm.s1 (dk_at ktX7_writesImage_0 6 rfl) rfl ⟨by decide, by decide⟩ (v := (nI (nW σ))) (((hRz.1 0 (by decide)).trans hIz.w0).trans (congrArg nI hW)) (b := 9) rfl ?_
    refine rc_p (p_aload_n 1 (dk_at ktX7_writesImage_0 7 rfl) rfl rfl (b := 10) rfl) ?_
    refine r_geta fl_X7_9 rfl hm.l0 hm.s0 (dk_at ktX7_writesImage_0 8 rfl) hm.g0_0 (b := 13) rfl ?_
    refine rc_p (p_iconst (v := 1) (dk_at ktX7_writesImage_0 9 rfl) (by decide) (b := 14) rfl) ?_
    refine r_iald (j := 1) (hm.lt 1 (by decide)) hm.s1 (dk_at ktX7_writesImage_0 10 rfl) rfl ⟨by decide, by decide⟩ (v := (nI (nP σ))) (((hRz.1 1 (by decide)).trans hIz.w1).trans (congrArg nI hPg)) (b := 15) rfl ?_
    refine rc_p (p_idiv (v := (nI (nW σ / nP σ))) (dk_at ktX7_writesImage_0 11 rfl) (nI_ne0 (by omega) (by omega)) (n_div (by omega) (by omega) (by omega)) (b := 16) rfl) ?_
    refine r_icmp_ge (dk_at ktX7_writesImage_0 12 rfl) (b := 36) (by decide) (b2 := 19) rfl (fun c16 => ?_) (fun c16 => ?_)
    · have c16 : (nW σ / nP σ) ≤ k := (nI_leI (a := nW σ / nP σ) (b := k) (by omega) (by omega)).mp c16
      refine rc_p (p_aload_n 1 (dk_at ktX7_writesImage_0 22 rfl) rfl rfl (b := 37) rfl) ?_
      refine rc_p (p_iload_n 2 (dk_at ktX7_writesImage_0 23 rfl) rfl rfl (b := 38) rfl) ?_
      refine r_iV (As' := [.int (nI s)]) (rest := []) (s_X7_writesPayload hm (σ := σz) hRz hIz hCz s (by omega) pay c hc hPz) cw_X7_328 qi_X7_writesPayload qv_X7_writesPayload rfl hm.l0 hm.s0 (dk_at ktX7_writesImage_0 24 rfl) rfl rfl (Nat.le_of_ble_eq_true rfl) (by decide) (b := 41) rfl (fun v4 I1 J2 q3 => ?_)
      obtain ⟨rfl, rfl, hR5, hF6, hC7⟩ := q3
      refine r_if_eq (dk_at ktX7_writesImage_0 25 rfl) (b := 57) (by decide) (b2 := 44) rfl (fun c41 => ?_) (fun c41 => ?_)
      · have c41 := bi_f c41
        have hR8 : RelW (I1 (m + 1)) (sCut ((itK (fPw s pay) c σz).2)) := by rw [c41] at hR5; exact hR5
        have hC9 : I1 m 23 = 1 := by rw [c41] at hC7; exact hC7
        refine rc_p (p_iconst (v := 0) (dk_at ktX7_writesImage_0 33 rfl) (by decide) (b := 58) rfl) ?_
        refine r_iret (dk_at ktX7_writesImage_0 34 rfl) rfl rfl ⟨_, rfl, ?_⟩
        have hk : k = (nW σ / nP σ) := by omega
        subst hk
        have he0 : fImg s false pay c v σ = sq (itK (fPw s pay) c) (fHd s c (sumF pay 0 v c) v) σz := by
          unfold fImg; rw [sq_e (f := itK (fPg s false pay c) (nW σ / nP σ)) hE]
        have he : fImg s false pay c v σ = (false, (itK (fPw s pay) c σz).2) := by
          rw [he0, sq_n (f := itK (fPw s pay) c) (pr_e c41)]
        refine ⟨by rw [he]; rfl, rfl, by rw [he]; exact hR8, (FF.tr (hFz.mo (by decide) (by decide)) (hF6.mo (by decide) (by decide))), by rw [he]; exact hC9⟩
      · have c41 := bi_t c41
        have hR10 : RelW (I1 (m + 1)) ((itK (fPw s pay) c σz).2) := by rw [c41] at hR5; exact hR5
        have hC11 : I1 m 23 = 0 := by rw [c41] at hC7; exact hC7
        refine rc_p (p_aload_n 1 (dk_at ktX7_writesImage_0 26 rfl) rfl rfl (b := 45) rfl) ?_
        refine rc_p (p_iload_n 2 (dk_at ktX7_writesImage_0 27 rfl) rfl rfl (b := 46) rfl) ?_
        refine rc_p (p_iload_n 3 (dk_at ktX7_writesImage_0 28 rfl) rfl rfl (b := 47) rfl) ?_
        refine r_iV (As' := [.int (nI s), .int v]) (rest := []) (s_X7_writesHead hm (σ := ((itK (fPw s pay) c σz).2)) hR10 (Inv.pws hIz (by omega) hc) hC11 s (by omega) pay c hc ⟨(hF6.2 26 (by decide)).trans hPz.1, fun j hj => (congrFun (hF6.1 (m + 8) (by omega) (by simp)) (3 + j)).trans (hPz.2 j hj)⟩ v) cw_X7_331 qi_X7_writesHead qv_X7_writesHead rfl hm.l0 hm.s0 (dk_at ktX7_writesImage_0 29 rfl) rfl rfl (Nat.le_of_ble_eq_true rfl) (by decide) (b := 50) rfl (fun v15 I12 J13 q14 => ?_)
        obtain ⟨rfl, rfl, hR16, hF17, hC18⟩ := q14
        refine r_if_eq (dk_at ktX7_writesImage_0 30 rfl) (b := 57) (by decide) (b2 := 53) rfl (fun c50 => ?_) (fun c50 => ?_)
        · have c50 := bi_f c50
          have hR19 : RelW (I12 (m + 1)) (sCut ((fHd s c (sumF pay 0 v c) v ((itK (fPw s pay) c σz).2)).2)) := by rw [c50] at hR16; exact hR16
          have hC20 : I12 m 23 = 1 := by rw [c50] at hC18; exact hC18
          refine rc_p (p_iconst (v := 0) (dk_at ktX7_writesImage_0 33 rfl) (by decide) (b := 58) rfl) ?_
          refine r_iret (dk_at ktX7_writesImage_0 34 rfl) rfl rfl ⟨_, rfl, ?_⟩
          have hk : k = (nW σ / nP σ) := by omega
          subst hk
          have he0 : fImg s false pay c v σ = sq (itK (fPw s pay) c) (fHd s c (sumF pay 0 v c) v) σz := by
            unfold fImg; rw [sq_e (f := itK (fPg s false pay c) (nW σ / nP σ)) hE]
          have he : fImg s false pay c v σ = (false, (fHd s c (sumF pay 0 v c) v (itK (fPw s pay) c σz).2).2) := by
            rw [he0, sq_e (f := itK (fPw s pay) c) (pr_e c41)]; exact pr_e c50
          refine ⟨by rw [he]; rfl, rfl, by rw [he]; exact hR19, (FF.tr (FF.tr (hFz.mo (by decide) (by decide)) (hF6.mo (by decide) (by decide))) (hF17.mo (by decide) (by decide))), by rw [he]; exact hC20⟩
        · have c50 := bi_t c50
          have hR21 : RelW (I12 (m + 1)) ((fHd s c (sumF pay 0 v c) v ((itK (fPw s pay) c σz).2)).2) := by rw [c50] at hR16; exact hR16
          have hC22 : I12 m 23 = 0 := by rw [c50] at hC18; exact hC18
          refine rc_p (p_iconst (v := 1) (dk_at ktX7_writesImage_0 31 rfl) (by decide) (b := 54) rfl) ?_
          refine rc_p (p_goto (b := 58) (dk_at ktX7_writesImage_0 32 rfl) (by decide)) ?_
          refine r_iret (dk_at ktX7_writesImage_0 34 rfl) rfl rfl ⟨_, rfl, ?_⟩
          have hk : k = (nW σ / nP σ) := by omega
          subst hk
          have he0 : fImg s false pay c v σ = sq (itK (fPw s pay) c) (fHd s c (sumF pay 0 v c) v) σz := by
            unfold fImg; rw [sq_e (f := itK (fPg s false pay c) (nW σ / nP σ)) hE]
          have he : fImg s false pay c v σ = (true, (fHd s c (sumF pay 0 v c) v (itK (fPw s pay) c σz).2).2) := by
            rw [he0, sq_e (f := itK (fPw s pay) c) (pr_e c41)]; exact pr_e c50
          refine ⟨by rw [he]; rfl, rfl, by rw [he]; exact hR21, (FF.tr (FF.tr (hFz.mo (by decide) (by decide)) (hF6.mo (by decide) (by decide))) (hF17.mo (by decide) (by decide))), by rw [he]; exact hC22⟩
    · have c16 : ¬ (nW σ / nP σ) ≤ k := fun h => c16 ((nI_leI (a := nW σ / nP σ) (b := k) (by omega) (by omega)).mpr h)
      refine rc_p (p_aload_n 1 (dk_at ktX7_writesImage_0 13 rfl) rfl rfl (b := 20) rfl) ?_
      refine rc_p (p_iload_n 2 (dk_at ktX7_writesImage_0 14 rfl) rfl rfl (b := 21) rfl) ?_
      refine rc_p (p_iload_n 0 (dk_at ktX7_writesImage_0 15 rfl) rfl rfl (b := 22) rfl) ?_
      refine r_iV (As' := [.int (nI s), .int (nI k)]) (rest := []) (s_X7_erasesPage hm (σ := σz) hRz hIz hCz s k (by omega) (by omega)) cw_X7_325 qi_X7_erasesPage qv_X7_erasesPage rfl hm.l0 hm.s0 (dk_at ktX7_writesImage_0 16 rfl) rfl rfl (Nat.le_of_ble_eq_true rfl) (by decide) (b := 25) rfl (fun v26 I23 J24 q25 => ?_)
      obtain ⟨rfl, rfl, hR27, hF28, hC29⟩ := q25
      refine r_if_ne (dk_at ktX7_writesImage_0 17 rfl) (b := 30) (by decide) (b2 := 28) rfl (fun c25 => ?_) (fun c25 => ?_)
      · have c25 := bi_t c25
        have hR30 : RelW (I23 (m + 1)) (sErP σz s k) := by rw [c25] at hR27; exact hR27
        have hC31 : I23 m 23 = 0 := by rw [c25] at hC29; exact hC29
        refine rc_p (p_iinc (j := 0) (v := (nI (k + 1))) (ls' := [(3, .int (nI (k + 1))), (0, .ref m), (1, .int (nI s)), (2, .int v)]) (dk_at ktX7_writesImage_0 20 rfl) rfl (nI_add k 1) (by decide) rfl (b := 33) rfl) ?_
        refine rc_p (p_goto (b := 2) (dk_at ktX7_writesImage_0 21 rfl) (by decide)) ?_
        exact ih (k + 1) I23 _ (by omega) (by omega) (by rw [itK_s hE, fPg_t]; exact fErP_e c25) hR30 (Inv.erp hIz (by omega) (by omega)) hC31 (FF.tr hFz hF28) ((nW_of (sErP_ne (by decide) (by decide) (by decide))).trans hW) ((nP_of (sErP_ne (by decide) (by decide) (by decide))).trans hPg)
      · have c25 := bi_f c25
        have hR32 : RelW (I23 (m + 1)) (sCut (sErP σz s k)) := by rw [c25] at hR27; exact hR27
        have hC33 : I23 m 23 = 1 := by rw [c25] at hC29; exact hC29
        refine rc_p (p_iconst (v := 0) (dk_at ktX7_writesImage_0 18 rfl) (by decide) (b := 29) rfl) ?_
        refine r_iret (dk_at ktX7_writesImage_0 19 rfl) rfl rfl ⟨_, rfl, ?_⟩
        have he : fImg s false pay c v σ = (false, sErP σz s k) := by
          unfold fImg; rw [sq_n (f := itK (fPg s false pay c) (nW σ / nP σ)) (itK_stop (k := k + 1) (by rw [itK_s hE, fPg_t]; exact fErP_e c25) (by omega))]
        refine ⟨by rw [he]; rfl, rfl, by rw [he]; exact hR32, (FF.tr (hFz.mo (by decide) (by decide)) (hF28.mo (by decide) (by decide))), by rw [he]; exact hC33⟩
  have hb := hI.bd
  have hp0 : nW σ / nP σ ≤ 16 := by have h3 : nW σ / nP σ ≤ nW σ / 4 := Nat.div_le_div_left hb.2.2.1 (by decide); omega
  refine rc_p (p_iconst (v := 0) (dk_at ktX7_writesImage_0 0 rfl) (by decide) (b := 1) rfl) ?_
  refine rc_p (p_istore_n (ls' := [(3, .int 0), (0, .ref m), (1, .int (nI s)), (2, .int v)]) (dk_at ktX7_writesImage_0 1 rfl) rfl (by decide) rfl (b := 2) rfl) ?_
  exact cut2 1000 0 I σ (by omega) (Nat.zero_le _) rfl hR hI hC FF.rf rfl rfl
set_option maxRecDepth 4000 in
set_option maxHeartbeats 4000000 in
theorem s_X7_writesThriftily {n : Nat} {sh : mS} {G : mG} {I : mI} {J : mJ} {m : Nat} {σ : sT} (hm : ModG n sh G m) (hR : RelW (I (m + 1)) σ) (hI : Inv σ) (hC : I m 23 = 0) (s : Nat) (hs : s < 2) (pay : sT) (c : Nat) (hc : c ≤ 61) (hP : I m 26 = nI c ∧ (∀ k, k < c → I (m + 8) (3 + k) = pay (3 + k))) (v : Int32) : Sp yX7_writesThriftily cX7_writesThriftily 4 (some FieldType.boolean) 6 288 0 0 [.ref m, .int (nI s), .int v] n sh G I J (Qi (fun r_ I_ J_ => bi ((fImg s true pay c v σ).1) = r_ ∧ J = J_ ∧ RelW (I_ (m + 1)) (sStop ((fImg s true pay c v σ).1) ((fImg s true pay c v σ).2)) ∧ FF m [1] [23] I I_ ∧ I_ m 23 = ic ((fImg s true pay c v σ).1))) nX := by
  refine Sp.of (by decide) (ls := [(0, .ref m), (1, .int (nI s)), (2, .int v)]) (fun _ => rfl) (fun _ => Nat.le_of_ble_eq_true rfl) ?_
  have cut2 : ∀ (t k : Nat) (Iz : mI) (σz : sT), (nW σ / nP σ) - k < t → k ≤ (nW σ / nP σ) → itK (fPg s true pay c) k σ = (true, σz) → RelW (Iz (m + 1)) σz → Inv σz → Iz m 23 = 0 → FF m [1] [23] I Iz → nW σz = nW σ → nP σz = nP σ → Rc RX7 cX7_writesThriftily 4 (some FieldType.boolean) 6 288 0 0 n sh G (Qi (fun r_ I_ J_ => bi ((fImg s true pay c v σ).1) = r_ ∧ J = J_ ∧ RelW (I_ (m + 1)) (sStop ((fImg s true pay c v σ).1) ((fImg s true pay c v σ).2)) ∧ FF m [1] [23] I I_ ∧ I_ m 23 = ic ((fImg s true pay c v σ).1))) nX 0 0 2 [(3, .int (nI k)), (0, .ref m), (1, .int (nI s)), (2, .int v)] [] Iz J := by
    have hb := hI.bd
    have hp0 : nW σ / nP σ ≤ 16 := by have h3 : nW σ / nP σ ≤ nW σ / 4 := Nat.div_le_div_left hb.2.2.1 (by decide); omega
    intro t
    induction t
    · intro k Iz σz h; omega
    rename_i t ih
    intro k Iz σz ht h1 hE hRz hIz hCz hFz hW hPg
    have hPz : Iz m 26 = nI c ∧ (∀ k, k < c → Iz (m + 8) (3 + k) = pay (3 + k)) := ⟨(hFz.2 26 (by decide)).trans hP.1, fun j hj => (congrFun (hFz.1 (m + 8) (by omega) (by simp)) (3 + j)).trans (hP.2 j hj)⟩
    have hq : nW σz / nP σz = nW σ / nP σ := by rw [hW, hPg]
    refine rc_p (p_iload_n 0 (dk_at ktX7_writesThriftily_0 2 rfl) rfl rfl (b := 3) rfl) ?_
    refine rc_p (p_aload_n 1 (dk_at ktX7_writesThriftily_0 3 rfl) rfl rfl (b := 4) rfl) ?_
    refine r_geta fl_X7_9 rfl hm.l0 hm.s0 (dk_at ktX7_writesThriftily_0 4 rfl) hm.g0_0 (b := 7) rfl ?_
    refine rc_p (p_iconst (v := 0) (dk_at ktX7_writesThriftily_0 5 rfl) (by decide) (b := 8) rfl) ?_
    refine r_iald (j := 0) (hm.lt 1 (by decide)) hm.s1 (dk_at ktX7_writesThriftily_0 6 rfl) rfl ⟨by decide, by decide⟩ (v := (nI (nW σ))) (((hRz.1 0 (by decide)).trans hIz.w0).trans (congrArg nI hW)) (b := 9) rfl ?_
    refine rc_p (p_aload_n 1 (dk_at ktX7_writesThriftily_0 7 rfl) rfl rfl (b := 10) rfl) ?_
    refine r_geta fl_X7_9 rfl hm.l0 hm.s0 (dk_at ktX7_writesThriftily_0 8 rfl) hm.g0_0 (b := 13) rfl ?_
    refine rc_p (p_iconst (v := 1) (dk_at ktX7_writesThriftily_0 9 rfl) (by decide) (b := 14) rfl) ?_
    refine r_iald (j := 1) (hm.lt 1 (by decide)) hm.s1 (dk_at ktX7_writesThriftily_0 10 rfl) rfl ⟨by decide, by decide⟩ (v := (nI (nP σ))) (((hRz.1 1 (by decide)).trans hIz.w1).trans (congrArg nI hPg)) (b := 15) rfl ?_
    refine rc_p (p_idiv (v := (nI (nW σ / nP σ))) (dk_at ktX7_writesThriftily_0 11 rfl) (nI_ne0 (by omega) (by omega)) (n_div (by omega) (by omega) (by omega)) (b := 16) rfl) ?_
    refine r_icmp_ge (dk_at ktX7_writesThriftily_0 12 rfl) (b := 45) (by decide) (b2 := 19) rfl (fun c16 => ?_) (fun c16 => ?_)
    · have c16 : (nW σ / nP σ) ≤ k := (nI_leI (a := nW σ / nP σ) (b := k) (by omega) (by omega)).mp c16
      refine rc_p (p_aload_n 1 (dk_at ktX7_writesThriftily_0 27 rfl) rfl rfl (b := 46) rfl) ?_
      refine rc_p (p_iload_n 2 (dk_at ktX7_writesThriftily_0 28 rfl) rfl rfl (b := 47) rfl) ?_
      refine r_iV (As' := [.int (nI s)]) (rest := []) (s_X7_writesPayload hm (σ := σz) hRz hIz hCz s (by omega) pay c hc hPz) cw_X7_328 qi_X7_writesPayload qv_X7_writesPayload rfl hm.l0 hm.s0 (dk_at ktX7_writesThriftily_0 29 rfl) rfl rfl (Nat.le_of_ble_eq_true rfl) (by decide) (b := 50) rfl (fun v4 I1 J2 q3 => ?_)
      obtain ⟨rfl, rfl, hR5, hF6, hC7⟩ := q3
      refine r_if_eq (dk_at ktX7_writesThriftily_0 30 rfl) (b := 66) (by decide) (b2 := 53) rfl (fun c50 => ?_) (fun c50 => ?_)
      · have c50 := bi_f c50
        have hR8 : RelW (I1 (m + 1)) (sCut ((itK (fPw s pay) c σz).2)) := by rw [c50] at hR5; exact hR5
        have hC9 : I1 m 23 = 1 := by rw [c50] at hC7; exact hC7
        refine rc_p (p_iconst (v := 0) (dk_at ktX7_writesThriftily_0 38 rfl) (by decide) (b := 67) rfl) ?_
        refine r_iret (dk_at ktX7_writesThriftily_0 39 rfl) rfl rfl ⟨_, rfl, ?_⟩
        have hk : k = (nW σ / nP σ) := by omega
        subst hk
        have he0 : fImg s true pay c v σ = sq (itK (fPw s pay) c) (fHd s c (sumF pay 0 v c) v) σz := by
          unfold fImg; rw [sq_e (f := itK (fPg s true pay c) (nW σ / nP σ)) hE]
        have he : fImg s true pay c v σ = (false, (itK (fPw s pay) c σz).2) := by
          rw [he0, sq_n (f := itK (fPw s pay) c) (pr_e c50)]
        refine ⟨by rw [he]; rfl, rfl, by rw [he]; exact hR8, (FF.tr (hFz.mo (by decide) (by decide)) (hF6.mo (by decide) (by decide))), by rw [he]; exact hC9⟩
      · have c50 := bi_t c50
        have hR10 : RelW (I1 (m + 1)) ((itK (fPw s pay) c σz).2) := by rw [c50] at hR5; exact hR5
        have hC11 : I1 m 23 = 0 := by rw [c50] at hC7; exact hC7
        refine rc_p (p_aload_n 1 (dk_at ktX7_writesThriftily_0 31 rfl) rfl rfl (b := 54) rfl) ?_
        refine rc_p (p_iload_n 2 (dk_at ktX7_writesThriftily_0 32 rfl) rfl rfl (b := 55) rfl) ?_
        refine rc_p (p_iload_n 3 (dk_at ktX7_writesThriftily_0 33 rfl) rfl rfl (b := 56) rfl) ?_
        refine r_iV (As' := [.int (nI s), .int v]) (rest := []) (s_X7_writesHead hm (σ := ((itK (fPw s pay) c σz).2)) hR10 (Inv.pws hIz (by omega) hc) hC11 s (by omega) pay c hc ⟨(hF6.2 26 (by decide)).trans hPz.1, fun j hj => (congrFun (hF6.1 (m + 8) (by omega) (by simp)) (3 + j)).trans (hPz.2 j hj)⟩ v) cw_X7_331 qi_X7_writesHead qv_X7_writesHead rfl hm.l0 hm.s0 (dk_at ktX7_writesThriftily_0 34 rfl) rfl rfl (Nat.le_of_ble_eq_true rfl) (by decide) (b := 59) rfl (fun v15 I12 J13 q14 => ?_)
        obtain ⟨rfl, rfl, hR16, hF17, hC18⟩ := q14
        refine r_if_eq (dk_at ktX7_writesThriftily_0 35 rfl) (b := 66) (by decide) (b2 := 62) rfl (fun c59 => ?_) (fun c59 => ?_)
        · have c59 := bi_f c59
          have hR19 : RelW (I12 (m + 1)) (sCut ((fHd s c (sumF pay 0 v c) v ((itK (fPw s pay) c σz).2)).2)) := by rw [c59] at hR16; exact hR16
          have hC20 : I12 m 23 = 1 := by rw [c59] at hC18; exact hC18
          refine rc_p (p_iconst (v := 0) (dk_at ktX7_writesThriftily_0 38 rfl) (by decide) (b := 67) rfl) ?_
          refine r_iret (dk_at ktX7_writesThriftily_0 39 rfl) rfl rfl ⟨_, rfl, ?_⟩
          have hk : k = (nW σ / nP σ) := by omega
          subst hk
          have he0 : fImg s true pay c v σ = sq (itK (fPw s pay) c) (fHd s c (sumF pay 0 v c) v) σz := by
            unfold fImg; rw [sq_e (f := itK (fPg s true pay c) (nW σ / nP σ)) hE]
          have he : fImg s true pay c v σ = (false, (fHd s c (sumF pay 0 v c) v (itK (fPw s pay) c σz).2).2) := by
            rw [he0, sq_e (f := itK (fPw s pay) c) (pr_e c50)]; exact pr_e c59
          refine ⟨by rw [he]; rfl, rfl, by rw [he]; exact hR19, (FF.tr (FF.tr (hFz.mo (by decide) (by decide)) (hF6.mo (by decide) (by decide))) (hF17.mo (by decide) (by decide))), by rw [he]; exact hC20⟩
        · have c59 := bi_t c59
          have hR21 : RelW (I12 (m + 1)) ((fHd s c (sumF pay 0 v c) v ((itK (fPw s pay) c σz).2)).2) := by rw [c59] at hR16; exact hR16
          have hC22 : I12 m 23 = 0 := by rw [c59] at hC18; exact hC18
          refine rc_p (p_iconst (v := 1) (dk_at ktX7_writesThriftily_0 36 rfl) (by decide) (b := 63) rfl) ?_
          refine rc_p (p_goto (b := 67) (dk_at ktX7_writesThriftily_0 37 rfl) (by decide)) ?_
          refine r_iret (dk_at ktX7_writesThriftily_0 39 rfl) rfl rfl ⟨_, rfl, ?_⟩
          have hk : k = (nW σ / nP σ) := by omega
          subst hk
          have he0 : fImg s true pay c v σ = sq (itK (fPw s pay) c) (fHd s c (sumF pay 0 v c) v) σz := by
            unfold fImg; rw [sq_e (f := itK (fPg s true pay c) (nW σ / nP σ)) hE]
          have he : fImg s true pay c v σ = (true, (fHd s c (sumF pay 0 v c) v (itK (fPw s pay) c σz).2).2) := by
            rw [he0, sq_e (f := itK (fPw s pay) c) (pr_e c50)]; exact pr_e c59
          refine ⟨by rw [he]; rfl, rfl, by rw [he]; exact hR21, (FF.tr (FF.tr (hFz.mo (by decide) (by decide)) (hF6.mo (by decide) (by decide))) (hF17.mo (by decide) (by decide))), by rw [he]; exact hC22⟩
    · have c16 : ¬ (nW σ / nP σ) ≤ k := fun h => c16 ((nI_leI (a := nW σ / nP σ) (b := k) (by omega) (by omega)).mpr h)
      refine rc_p (p_aload_n 1 (dk_at ktX7_writesThriftily_0 13 rfl) rfl rfl (b := 20) rfl) ?_
      refine rc_p (p_iload_n 2 (dk_at ktX7_writesThriftily_0 14 rfl) rfl rfl (b := 21) rfl) ?_
      refine rc_p (p_iload_n 0 (dk_at ktX7_writesThriftily_0 15 rfl) rfl rfl (b := 22) rfl) ?_
      refine r_iV (As' := [.int (nI s), .int (nI k)]) (rest := []) (s_X7_isSpent hm (σ := σz) hRz hIz s k (by omega) (by omega) pay c hc hPz) cw_X7_334 qi_X7_isSpent qv_X7_isSpent rfl hm.l0 hm.s0 (dk_at ktX7_writesThriftily_0 16 rfl) rfl rfl (Nat.le_of_ble_eq_true rfl) (by decide) (b := 25) rfl (fun v26 I23 J24 q25 => ?_)
      obtain ⟨rfl, rfl, rfl⟩ := q25
      refine r_if_eq (dk_at ktX7_writesThriftily_0 17 rfl) (b := 39) (by decide) (b2 := 28) rfl (fun c25 => ?_) (fun c25 => ?_)
      · have c25 := bi_f c25
        refine rc_p (p_iinc (j := 0) (v := (nI (k + 1))) (ls' := [(3, .int (nI (k + 1))), (0, .ref m), (1, .int (nI s)), (2, .int v)]) (dk_at ktX7_writesThriftily_0 25 rfl) rfl (nI_add k 1) (by decide) rfl (b := 42) rfl) ?_
        refine rc_p (p_goto (b := 2) (dk_at ktX7_writesThriftily_0 26 rfl) (by decide)) ?_
        exact ih (k + 1) Iz σz (by omega) (by omega) (by rw [itK_s hE, fPg_n (by rw [← hPg] at *; exact c25)]) hRz hIz hCz hFz hW hPg
      · have c25 := bi_t c25
        refine rc_p (p_aload_n 1 (dk_at ktX7_writesThriftily_0 18 rfl) rfl rfl (b := 29) rfl) ?_
        refine rc_p (p_iload_n 2 (dk_at ktX7_writesThriftily_0 19 rfl) rfl rfl (b := 30) rfl) ?_
        refine rc_p (p_iload_n 0 (dk_at ktX7_writesThriftily_0 20 rfl) rfl rfl (b := 31) rfl) ?_
        refine r_iV (As' := [.int (nI s), .int (nI k)]) (rest := []) (s_X7_erasesPage hm (σ := σz) hRz hIz hCz s k (by omega) (by omega)) cw_X7_325 qi_X7_erasesPage qv_X7_erasesPage rfl hm.l0 hm.s0 (dk_at ktX7_writesThriftily_0 21 rfl) rfl rfl (Nat.le_of_ble_eq_true rfl) (by decide) (b := 34) rfl (fun v30 I27 J28 q29 => ?_)
        obtain ⟨rfl, rfl, hR31, hF32, hC33⟩ := q29
        refine r_if_ne (dk_at ktX7_writesThriftily_0 22 rfl) (b := 39) (by decide) (b2 := 37) rfl (fun c34 => ?_) (fun c34 => ?_)
        · have c34 := bi_t c34
          have hR34 : RelW (I27 (m + 1)) (sErP σz s k) := by rw [c34] at hR31; exact hR31
          have hC35 : I27 m 23 = 0 := by rw [c34] at hC33; exact hC33
          refine rc_p (p_iinc (j := 0) (v := (nI (k + 1))) (ls' := [(3, .int (nI (k + 1))), (0, .ref m), (1, .int (nI s)), (2, .int v)]) (dk_at ktX7_writesThriftily_0 25 rfl) rfl (nI_add k 1) (by decide) rfl (b := 42) rfl) ?_
          refine rc_p (p_goto (b := 2) (dk_at ktX7_writesThriftily_0 26 rfl) (by decide)) ?_
          exact ih (k + 1) I27 _ (by omega) (by omega) (by rw [itK_s hE, fPg_y c25]; exact fErP_e c34) hR34 (Inv.erp hIz (by omega) (by omega)) hC35 (FF.tr hFz hF32) ((nW_of (sErP_ne (by decide) (by decide) (by decide))).trans hW) ((nP_of (sErP_ne (by decide) (by decide) (by decide))).trans hPg)
        · have c34 := bi_f c34
          have hR36 : RelW (I27 (m + 1)) (sCut (sErP σz s k)) := by rw [c34] at hR31; exact hR31
          have hC37 : I27 m 23 = 1 := by rw [c34] at hC33; exact hC33
          refine rc_p (p_iconst (v := 0) (dk_at ktX7_writesThriftily_0 23 rfl) (by decide) (b := 38) rfl) ?_
          refine r_iret (dk_at ktX7_writesThriftily_0 24 rfl) rfl rfl ⟨_, rfl, ?_⟩
          have he : fImg s true pay c v σ = (false, sErP σz s k) := by
            unfold fImg; rw [sq_n (f := itK (fPg s true pay c) (nW σ / nP σ)) (itK_stop (k := k + 1) (by rw [itK_s hE, fPg_y c25]; exact fErP_e c34) (by omega))]
          refine ⟨by rw [he]; rfl, rfl, by rw [he]; exact hR36, (FF.tr (hFz.mo (by decide) (by decide)) (hF32.mo (by decide) (by decide))), by rw [he]; exact hC37⟩
  have hb := hI.bd
  have hp0 : nW σ / nP σ ≤ 16 := by have h3 : nW σ / nP σ ≤ nW σ / 4 := Nat.div_le_div_left hb.2.2.1 (by decide); omega
  refine rc_p (p_iconst (v := 0) (dk_at ktX7_writesThriftily_0 0 rfl) (by decide) (b := 1) rfl) ?_
  refine rc_p (p_istore_n (ls' := [(3, .int 0), (0, .ref m), (1, .int (nI s)), (2, .int v)]) (dk_at ktX7_writesThriftily_0 1 rfl) rfl (by decide) rfl (b := 2) rfl) ?_
  exact cut2 1000 0 I σ (by omega) (Nat.zero_le _) rfl hR hI hC FF.rf rfl rfl

/-! THE CLASS: its calls, images, records, log, snapshots -/
set_option maxRecDepth 4000 in
set_option maxHeartbeats 4000000 in
theorem s_X6_standsBefore {n : Nat} {sh : mS} {G : mG} {I : mI} {J : mJ} {d : Nat} {σ : sT} {T N : Nat} (hd : DevG n sh G d) (hR : RelD d I σ T N) (hI : Inv σ) (q k : Nat) (hq : q < 2) (hk : 3 + k < 64) : Sp yX6_standsBefore cX6_standsBefore 3 (some FieldType.boolean) 1 48 0 0 [.ref (d + 3 + q), .int (nI (3 + k))] n sh G I J (Qi (fun r_ I_ J_ => bi (anyB (fun i => decide (σ (83 + 64 * q + 3 + i) = σ (83 + 64 * q + 3 + k))) k) = r_ ∧ I = I_ ∧ J = J_)) nX := by
  refine Sp.of (by decide) (ls := [(0, .ref (d + 3 + q)), (1, .int (nI (3 + k)))]) (fun _ => rfl) (fun _ => Nat.le_of_ble_eq_true rfl) ?_
  have cut2 : ∀ (t i : Nat), 64 - i < t → i ≤ k → anyB (fun i => decide (σ (83 + 64 * q + 3 + i) = σ (83 + 64 * q + 3 + k))) i = false → Rc RX6 cX6_standsBefore 3 (some FieldType.boolean) 1 48 0 0 n sh G (Qi (fun r_ I_ J_ => bi (anyB (fun i => decide (σ (83 + 64 * q + 3 + i) = σ (83 + 64 * q + 3 + k))) k) = r_ ∧ I = I_ ∧ J = J_)) nX 0 0 2 [(2, .int (nI (3 + i))), (0, .ref (d + 3 + q)), (1, .int (nI (3 + k)))] [] I J := by
    intro t
    induction t
    · intro i h; omega
    rename_i t ih
    intro i ht h1 hx
    refine rc_p (p_iload_n 0 (dk_at ktX6_standsBefore_0 2 rfl) rfl rfl (b := 3) rfl) ?_
    refine rc_p (p_iload_n 2 (dk_at ktX6_standsBefore_0 3 rfl) rfl rfl (b := 4) rfl) ?_
    refine r_icmp_ge (dk_at ktX6_standsBefore_0 4 rfl) (b := 24) (by decide) (b2 := 7) rfl (fun c4 => ?_) (fun c4 => ?_)
    · have c4 : (3 + k) ≤ (3 + i) := (nI_leI (a := 3 + k) (b := 3 + i) (by omega) (by omega)).mp c4
      refine rc_p (p_iconst (v := 0) (dk_at ktX6_standsBefore_0 16 rfl) (by decide) (b := 25) rfl) ?_
      refine r_iret (dk_at ktX6_standsBefore_0 17 rfl) rfl rfl ⟨_, rfl, ?_⟩
      refine ⟨?_, rfl, rfl⟩
      obtain rfl : i = k := by omega
      rw [hx]; rfl
    · have c4 : ¬ (3 + k) ≤ (3 + i) := fun h => c4 ((nI_leI (a := 3 + k) (b := 3 + i) (by omega) (by omega)).mpr h)
      refine rc_p (p_aload_n 1 (dk_at ktX6_standsBefore_0 5 rfl) rfl rfl (b := 8) rfl) ?_
      refine rc_p (p_iload_n 0 (dk_at ktX6_standsBefore_0 6 rfl) rfl rfl (b := 9) rfl) ?_
      refine r_iald (j := 3 + i) (by have := hd.1; omega) (hd.sc (by omega)) (dk_at ktX6_standsBefore_0 7 rfl) rfl ⟨by omega, by decide⟩ (v := (σ (83 + 64 * q + 3 + i))) ((hR.at3 (q := 3) (r := q) (k := 3 + i) (a := 83 + 64 * q + (3 + i)) (lc_s (by omega) (by omega))).trans (congrArg σ (by omega))) (b := 10) rfl ?_
      refine rc_p (p_aload_n 1 (dk_at ktX6_standsBefore_0 8 rfl) rfl rfl (b := 11) rfl) ?_
      refine rc_p (p_iload_n 2 (dk_at ktX6_standsBefore_0 9 rfl) rfl rfl (b := 12) rfl) ?_
      refine r_iald (j := 3 + k) (by have := hd.1; omega) (hd.sc (by omega)) (dk_at ktX6_standsBefore_0 10 rfl) rfl ⟨by omega, by decide⟩ (v := (σ (83 + 64 * q + 3 + k))) ((hR.at3 (q := 3) (r := q) (k := 3 + k) (a := 83 + 64 * q + (3 + k)) (lc_s (by omega) (by omega))).trans (congrArg σ (by omega))) (b := 13) rfl ?_
      refine r_icmp_ne (dk_at ktX6_standsBefore_0 11 rfl) (b := 18) (by decide) (b2 := 16) rfl (fun c13 => ?_) (fun c13 => ?_)
      · skip
        refine rc_p (p_iinc (j := 0) (v := (nI (3 + i + 1))) (ls' := [(2, .int (nI (3 + i + 1))), (0, .ref (d + 3 + q)), (1, .int (nI (3 + k)))]) (dk_at ktX6_standsBefore_0 14 rfl) rfl (nI_add (3 + i) 1) (by decide) rfl (b := 21) rfl) ?_
        refine rc_p (p_goto (b := 2) (dk_at ktX6_standsBefore_0 15 rfl) (by decide)) ?_
        exact ih (i + 1) (by omega) (by omega) (by show (anyB (fun i => decide (σ (83 + 64 * q + 3 + i) = σ (83 + 64 * q + 3 + k))) i || decide (σ (83 + 64 * q + 3 + i) = σ (83 + 64 * q + 3 + k))) = false; rw [hx, decide_eq_false c13]; rfl)
      · skip
        refine rc_p (p_iconst (v := 1) (dk_at ktX6_standsBefore_0 12 rfl) (by decide) (b := 17) rfl) ?_
        refine r_iret (dk_at ktX6_standsBefore_0 13 rfl) rfl rfl ⟨_, rfl, ?_⟩
        refine ⟨?_, rfl, rfl⟩
        rw [show anyB (fun i => decide (σ (83 + 64 * q + 3 + i) = σ (83 + 64 * q + 3 + k))) k = true from anyB_i.mpr ⟨i, by omega, decide_eq_true c13⟩]; rfl
  refine rc_p (p_iconst (v := 3) (dk_at ktX6_standsBefore_0 0 rfl) (by decide) (b := 1) rfl) ?_
  refine rc_p (p_istore_n (ls' := [(2, .int 3), (0, .ref (d + 3 + q)), (1, .int (nI (3 + k)))]) (dk_at ktX6_standsBefore_0 1 rfl) rfl (by decide) rfl (b := 2) rfl) ?_
  exact cut2 1000 0 (by omega) (Nat.zero_le _) rfl
set_option maxRecDepth 4000 in
set_option maxHeartbeats 4000000 in
theorem s_X6_differentWords {n : Nat} {sh : mS} {G : mG} {I : mI} {J : mJ} {bx bt d be bf bg b0 b1 bv : Nat} {σ : sT} {T N : Nat} (hB : BootH n sh G bx bt d be bf bg b0 b1 bv) (hR : RelD d I σ T N) (hI : Inv σ) (s : Int32) : Sp yX6_differentWords cX6_differentWords 5 (some FieldType.int) 8 330 1 6 [.ref bx, .int s] n sh G I J (Qi (fun r_ I_ J_ => cIn s 0 1 = 0 ∧ a_dw σ (tn s) = r_ ∧ J = J_ ∧ RelN d I_ (σ) (T + 0) ∧ FB d bg I I_)) (eX (cIn s 0 1) I J) := by
  have hd := hB.hD
  have hord := hB.ord
  have hb := hI.bd
  have hNs := hR.2.2.2.1
  have hN61 := hR.2.2.2.2.1
  have hTm := hR.2.2.2.2.2
  refine Sp.of (by decide) (ls := [(0, .ref bx), (1, .int s)]) (fun _ => rfl) (fun _ => Nat.le_of_ble_eq_true rfl) ?_
  refine rc_p (p_iload_n 1 (dk_at ktX6_differentWords_0 0 rfl) rfl rfl (b := 1) rfl) ?_
  refine r_vSX (As := [.int s]) (rest := []) (s_X6_requireSlot s) cw_X6_134 qs_X6_requireSlot (dk_at ktX6_differentWords_0 1 rfl) rfl rfl (Nat.le_of_ble_eq_true rfl) (by decide) (b := 4) rfl (fun _ _ _ h => ⟨Or.inl ⟨h.1, cIn_f h.2.1⟩, h.2.2⟩) (fun I1 J2 hq3 => ?_)
  obtain ⟨ok4, rfl, rfl⟩ := hq3
  obtain ⟨q, hq, rfl⟩ := sl_ok ok4
  have htq : tn (nI q) = q := tn_nI (by omega)
  have cut38 : wholeB σ q = true → ∀ (t k : Nat) (y : Int32), tn (σ (83 + 64 * q + 1)) - k < t → k ≤ tn (σ (83 + 64 * q + 1)) → y = sumL (dwF σ q) 0 k → Rc RX6 cX6_differentWords 5 (some FieldType.int) 8 330 1 6 n sh G (Qi (fun r_ I_ J_ => cIn (nI q) 0 1 = 0 ∧ a_dw σ (tn (nI q)) = r_ ∧ J = J_ ∧ RelN d I_ (σ) (T + 0) ∧ FB d bg I I_)) (eX (cIn (nI q) 0 1) I J) (1 - 1) (6 - 6) 38 [(2, .ref (d + 3 + q)), (3, .int y), (4, .int (nI k)), (0, .ref bx), (1, .int (nI q))] [] I J := by
    intro hwh t
    have hts2 := toldB_n hb.2.1 (wholeB_n hwh)
    induction t
    · intro k y h; omega
    rename_i t ih
    intro k y ht h1 hx
    subst hx
    refine rc_p (p_iload 2 (dk_at ktX6_differentWords_0 21 rfl) rfl (b := 40) rfl) ?_
    refine rc_p (p_aload_n 0 (dk_at ktX6_differentWords_0 22 rfl) rfl rfl (b := 41) rfl) ?_
    refine rc_p (p_iconst (v := 1) (dk_at ktX6_differentWords_0 23 rfl) (by decide) (b := 42) rfl) ?_
    refine r_iald (j := 1) (by have := hd.1; omega) (hd.sc (by omega)) (dk_at ktX6_differentWords_0 24 rfl) rfl ⟨by decide, by decide⟩ (v := (nI (tn (σ (83 + 64 * q + 1))))) ((hR.at3 (q := 3) (r := q) (k := 1) (a := 83 + 64 * q + 1) (lc_s (by omega) (by omega))).trans hts2.1) (b := 43) rfl ?_
    refine r_icmp_ge (dk_at ktX6_differentWords_0 25 rfl) (b := 66) (by decide) (b2 := 46) rfl (fun c43 => ?_) (fun c43 => ?_)
    · have c43 : (tn (σ (83 + 64 * q + 1))) ≤ k := (nI_leI (a := tn (σ (83 + 64 * q + 1))) (b := k) (by omega) (by omega)).mp c43
      refine rc_p (p_iload_n 1 (dk_at ktX6_differentWords_0 35 rfl) rfl rfl (b := 67) rfl) ?_
      refine r_iret (dk_at ktX6_differentWords_0 36 rfl) rfl rfl ⟨_, rfl, ?_⟩
      refine ⟨cIn_t (sl_i hq), ?_, rfl, RelN.of hR (by omega), FB.rf⟩
      rw [htq]
      rw [a_dw, if_pos hwh, show tn (σ (83 + 64 * q + 1)) = k by omega]
    · have c43 : ¬ (tn (σ (83 + 64 * q + 1))) ≤ k := fun h => c43 ((nI_leI (a := tn (σ (83 + 64 * q + 1))) (b := k) (by omega) (by omega)).mpr h)
      refine rc_p (p_aload_n 0 (dk_at ktX6_differentWords_0 26 rfl) rfl rfl (b := 47) rfl) ?_
      refine rc_p (p_iconst (v := 3) (dk_at ktX6_differentWords_0 27 rfl) (by decide) (b := 48) rfl) ?_
      refine rc_p (p_iload 2 (dk_at ktX6_differentWords_0 28 rfl) rfl (b := 50) rfl) ?_
      refine rc_p (p_iadd (v := (nI (3 + k))) (dk_at ktX6_differentWords_0 29 rfl) (nI_add 3 k) (b := 51) rfl) ?_
      refine r_iS (As := [.ref (d + 3 + q), .int (nI (3 + k))]) (rest := []) (s_X6_standsBefore hd (σ := σ) hR hI q k hq (by omega)) cw_X6_172 qs_X6_standsBefore (dk_at ktX6_differentWords_0 30 rfl) rfl rfl (Nat.le_of_ble_eq_true rfl) (by decide) (b := 54) rfl (fun v8 I5 J6 q7 => ?_)
      obtain ⟨rfl, rfl, rfl⟩ := q7
      refine r_if_ne (dk_at ktX6_differentWords_0 31 rfl) (b := 60) (by decide) (b2 := 57) rfl (fun c54 => ?_) (fun c54 => ?_)
      · have c54 := bi_t c54
        refine rc_p (p_iinc (j := 2) (v := (nI (k + 1))) (ls' := [(4, .int (nI (k + 1))), (2, .ref (d + 3 + q)), (3, .int (sumL (dwF σ q) 0 k)), (0, .ref bx), (1, .int (nI q))]) (dk_at ktX6_differentWords_0 33 rfl) rfl (nI_add k 1) (by decide) rfl (b := 63) rfl) ?_
        refine rc_p (p_goto (b := 38) (dk_at ktX6_differentWords_0 34 rfl) (by decide)) ?_
        refine rc_sub [1, 2, 0, 3, 4] (ls' := [(2, .ref (d + 3 + q)), (3, .int (sumL (dwF σ q) 0 k)), (4, .int (nI (k + 1))), (0, .ref bx), (1, .int (nI q))]) rfl ?_
        exact ih (k + 1) _ (by omega) (by omega) (by rw [sumL_s (Nat.zero_le _)]; unfold dwF; rw [if_pos c54, Int32.add_zero])
      · have c54 := bi_f c54
        refine rc_p (p_iinc (j := 1) (v := ((sumL (dwF σ q) 0 k) + 1)) (ls' := [(3, .int ((sumL (dwF σ q) 0 k) + 1)), (2, .ref (d + 3 + q)), (4, .int (nI k)), (0, .ref bx), (1, .int (nI q))]) (dk_at ktX6_differentWords_0 32 rfl) rfl rfl (by decide) rfl (b := 60) rfl) ?_
        refine rc_p (p_iinc (j := 2) (v := (nI (k + 1))) (ls' := [(4, .int (nI (k + 1))), (3, .int ((sumL (dwF σ q) 0 k) + 1)), (2, .ref (d + 3 + q)), (0, .ref bx), (1, .int (nI q))]) (dk_at ktX6_differentWords_0 33 rfl) rfl (nI_add k 1) (by decide) rfl (b := 63) rfl) ?_
        refine rc_p (p_goto (b := 38) (dk_at ktX6_differentWords_0 34 rfl) (by decide)) ?_
        refine rc_sub [2, 1, 0, 3, 4] (ls' := [(2, .ref (d + 3 + q)), (3, .int ((sumL (dwF σ q) 0 k) + 1)), (4, .int (nI (k + 1))), (0, .ref bx), (1, .int (nI q))]) rfl ?_
        exact ih (k + 1) _ (by omega) (by omega) (by rw [sumL_s (Nat.zero_le _)]; unfold dwF; rw [if_neg (by rw [c54]; decide)])
  refine rc_p (p_aload_n 0 (dk_at ktX6_differentWords_0 2 rfl) rfl rfl (b := 5) rfl) ?_
  refine r_geta fl_X6_27 rfl hB.l0 hB.s0 (dk_at ktX6_differentWords_0 3 rfl) hB.g0_1 (b := 8) rfl ?_
  refine r_geta fl_X6_57 rfl hd.l0 hd.s0 (dk_at ktX6_differentWords_0 4 rfl) hd.g0_0 (b := 11) rfl ?_
  refine rc_p (p_iload_n 1 (dk_at ktX6_differentWords_0 5 rfl) rfl rfl (b := 12) rfl) ?_
  refine r_iV (As' := [.int (nI q)]) (rest := []) (s_X1_holdsImage hd (σ := σ) hR hI q (by omega)) cw_X6_61 qi_X1_holdsImage qv_X1_holdsImage rfl (hd.lt 1 (by decide)) hd.s1 (dk_at ktX6_differentWords_0 6 rfl) rfl rfl (Nat.le_of_ble_eq_true rfl) (by decide) (b := 15) rfl (fun v12 I9 J10 q11 => ?_)
  obtain ⟨rfl, rfl, rfl⟩ := q11
  refine r_if_ne (dk_at ktX6_differentWords_0 7 rfl) (b := 20) (by decide) (b2 := 18) rfl (fun c15 => ?_) (fun c15 => ?_)
  · have c15 := bi_t c15
    refine rc_p (p_aload_n 0 (dk_at ktX6_differentWords_0 10 rfl) rfl rfl (b := 21) rfl) ?_
    refine r_geta fl_X6_27 rfl hB.l0 hB.s0 (dk_at ktX6_differentWords_0 11 rfl) hB.g0_1 (b := 24) rfl ?_
    refine r_geta fl_X6_57 rfl hd.l0 hd.s0 (dk_at ktX6_differentWords_0 12 rfl) hd.g0_0 (b := 27) rfl ?_
    refine r_geta fl_X6_141 rfl (hd.lt 1 (by decide)) hd.s1 (dk_at ktX6_differentWords_0 13 rfl) hd.g1_0 (b := 30) rfl ?_
    refine rc_p (p_iload_n 1 (dk_at ktX6_differentWords_0 14 rfl) rfl rfl (b := 31) rfl) ?_
    refine r_aald (j := q) (id2 := (d + 3 + q)) (hd.lt 2 (by decide)) hd.s2 (by decide) (dk_at ktX6_differentWords_0 15 rfl) rfl ⟨by omega, by decide⟩ (hd.gc (by omega)) (b := 32) rfl ?_
    refine rc_p (p_astore_n (ls' := [(2, .ref (d + 3 + q)), (0, .ref bx), (1, .int (nI q))]) (dk_at ktX6_differentWords_0 16 rfl) rfl (by decide) rfl (b := 33) rfl) ?_
    refine rc_p (p_iconst (v := 0) (dk_at ktX6_differentWords_0 17 rfl) (by decide) (b := 34) rfl) ?_
    refine rc_p (p_istore_n (ls' := [(3, .int 0), (2, .ref (d + 3 + q)), (0, .ref bx), (1, .int (nI q))]) (dk_at ktX6_differentWords_0 18 rfl) rfl (by decide) rfl (b := 35) rfl) ?_
    refine rc_p (p_iconst (v := 0) (dk_at ktX6_differentWords_0 19 rfl) (by decide) (b := 36) rfl) ?_
    refine rc_p (p_istore (ls' := [(4, .int 0), (3, .int 0), (2, .ref (d + 3 + q)), (0, .ref bx), (1, .int (nI q))]) (dk_at ktX6_differentWords_0 20 rfl) (by decide) rfl (b := 38) rfl) ?_
    refine rc_sub [2, 1, 0, 3, 4] (ls' := [(2, .ref (d + 3 + q)), (3, .int 0), (4, .int 0), (0, .ref bx), (1, .int (nI q))]) rfl ?_
    exact cut38 c15 (tn (σ (83 + 64 * q + 1)) + 1) 0 _ (by omega) (Nat.zero_le _) rfl
  · have c15 := bi_f c15
    refine rc_p (p_iconst (v := 0) (dk_at ktX6_differentWords_0 8 rfl) (by decide) (b := 19) rfl) ?_
    refine r_iret (dk_at ktX6_differentWords_0 9 rfl) rfl rfl ⟨_, rfl, ?_⟩
    refine ⟨cIn_t (sl_i hq), ?_, rfl, RelN.of hR (by omega), FB.rf⟩
    rw [htq]
    rw [a_dw, if_neg (by rw [c15]; decide)]

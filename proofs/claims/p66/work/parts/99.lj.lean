/-! THE LAW: a string read, its letters given to the class -/
set_option maxRecDepth 4000 in
set_option maxHeartbeats 4000000 in
theorem m_c1 {n : Nat} {sh : mS} {G : mG} {I : mI} {J : mJ} (hz : Zo n I J G) (hn9 : n + 2 ≤ 1000) {b L j c : Nat} (hb : b < n) (sb : sh b = .inr (1, L)) (hL : L < 900) (hj : j < L) (hc : c < 128) (hv : I b j = nI c) : Sm yJ1_charAt_3b067 cJ1_charAt_3b067 2 (some FieldType.char) 3 144 0 0 [.ref b, .int (nI j)] n n sh G I J (fun r_ G_ I_ J_ => some (.int (nI c)) = r_ ∧ G = G_ ∧ I = I_ ∧ J = J_) := by
  refine Sm.of (by decide) (ls := [(0, .ref b), (1, .int (nI j))]) (fun _ => rfl) (fun _ => Nat.le_of_ble_eq_true rfl) ?_
  refine gc_p (p_iload_n 1 (dk_at ktJ1_charAt_3b067_0 0 rfl) rfl rfl (b := 1) rfl) ?_
  refine gc_p (p_aload_n 0 (dk_at ktJ1_charAt_3b067_0 1 rfl) rfl rfl (b := 2) rfl) ?_
  refine g_balen hb sb (dk_at ktJ1_charAt_3b067_0 2 rfl) (b := 3) rfl ?_
  refine g_callS (As := [.int (nI j), .int (nI L)]) (rest := []) (s_J0_checkIndex_df160 j L hj (by omega)) cw_J1_9 qs_J0_checkIndex_df160 (dk_at ktJ1_charAt_3b067_0 3 rfl) rfl rfl (Nat.le_of_ble_eq_true rfl) ⟨by decide, by decide, by decide, by decide⟩ (b := 6) rfl (fun rr0 I0_ J0_ hq0 => ?_)
  obtain ⟨rfl, rfl, rfl⟩ := hq0
  refine gc_p (p_aload_n 0 (dk_at ktJ1_charAt_3b067_0 4 rfl) rfl rfl (b := 7) rfl) ?_
  refine gc_p (p_iload_n 1 (dk_at ktJ1_charAt_3b067_0 5 rfl) rfl rfl (b := 8) rfl) ?_
  refine g_bald (j := j) hb sb (dk_at ktJ1_charAt_3b067_0 6 rfl) rfl ⟨hj, by omega⟩ hv (b := 9) rfl ?_
  refine gc_p (p_sipush (v := 255) (dk_at ktJ1_charAt_3b067_0 7 rfl) (by decide) (b := 12) rfl) ?_
  refine gc_p (p_iand (v := (nI c)) (dk_at ktJ1_charAt_3b067_0 8 rfl) (ch_and hc) (b := 13) rfl) ?_
  refine gc_p (p_i2c (v := (nI c)) (dk_at ktJ1_charAt_3b067_0 9 rfl) (ch_c hc) (b := 14) rfl) ?_
  refine h_iret (ch_nar hc) (dk_at ktJ1_charAt_3b067_0 10 rfl) ⟨rfl, rfl, rfl, rfl⟩ hz
set_option maxRecDepth 4000 in
set_option maxHeartbeats 4000000 in
theorem m_isL0 {n : Nat} {sh : mS} {G : mG} {I : mI} {J : mJ} (hz : Zo n I J G) (hn9 : n + 2 ≤ 1000) {z : Nat} (hzn : z < n) (sz : sh z = .inl (0, 4)) (hcz : I z 1 = 0) : Sm yJ0_isLatin1_aae02 cJ0_isLatin1_aae02 1 (some FieldType.boolean) 1 48 0 0 [.ref z] n n sh G I J (fun r_ G_ I_ J_ => some (.int 1) = r_ ∧ G = G_ ∧ I = I_ ∧ J = J_) := by
  refine Sm.of (by decide) (ls := [(0, .ref z)]) (fun _ => rfl) (fun _ => Nat.le_of_ble_eq_true rfl) ?_
  refine g_gcmp fg_J0_38 (dk_at ktJ0_isLatin1_aae02_0 0 rfl) (b := 3) rfl ?_
  refine g_if_eq (dk_at ktJ0_isLatin1_aae02_0 1 rfl) (b := 17) (by decide) (b2 := 6) rfl (fun c3 => ?_) (fun c3 => ?_)
  · first | exact absurd c3 (by decide) | exact absurd (by decide) c3
  · skip
    refine gc_p (p_aload_n 0 (dk_at ktJ0_isLatin1_aae02_0 2 rfl) rfl rfl (b := 7) rfl) ?_
    refine g_geti2 f2_J0_15 rfl hzn sz (dk_at ktJ0_isLatin1_aae02_0 3 rfl) (v := 0) hcz (b := 10) rfl ?_
    refine g_if_ne (dk_at ktJ0_isLatin1_aae02_0 4 rfl) (b := 17) (by decide) (b2 := 13) rfl (fun c10 => ?_) (fun c10 => ?_)
    · first | exact absurd c10 (by decide) | exact absurd (by decide) c10
    · skip
      refine gc_p (p_iconst (v := 1) (dk_at ktJ0_isLatin1_aae02_0 5 rfl) (by decide) (b := 14) rfl) ?_
      refine gc_p (p_goto (b := 18) (dk_at ktJ0_isLatin1_aae02_0 6 rfl) (by decide)) ?_
      refine h_iret (by first | rfl | decide) (dk_at ktJ0_isLatin1_aae02_0 8 rfl) ?_ hz
      exact ⟨rfl, rfl, rfl, rfl⟩
set_option maxRecDepth 4000 in
set_option maxHeartbeats 4000000 in
theorem m_cod0 {n : Nat} {sh : mS} {G : mG} {I : mI} {J : mJ} (hz : Zo n I J G) (hn9 : n + 2 ≤ 1000) {z : Nat} (hzn : z < n) (sz : sh z = .inl (0, 4)) (hcz : I z 1 = 0) : Sm yJ0_coder_7d493 cJ0_coder_7d493 1 (some FieldType.byte) 1 48 0 0 [.ref z] n n sh G I J (fun r_ G_ I_ J_ => some (.int 0) = r_ ∧ G = G_ ∧ I = I_ ∧ J = J_) := by
  refine Sm.of (by decide) (ls := [(0, .ref z)]) (fun _ => rfl) (fun _ => Nat.le_of_ble_eq_true rfl) ?_
  refine g_gcmp fg_J0_38 (dk_at ktJ0_coder_7d493_0 0 rfl) (b := 3) rfl ?_
  refine g_if_eq (dk_at ktJ0_coder_7d493_0 1 rfl) (b := 13) (by decide) (b2 := 6) rfl (fun c3 => ?_) (fun c3 => ?_)
  · first | exact absurd c3 (by decide) | exact absurd (by decide) c3
  · skip
    refine gc_p (p_aload_n 0 (dk_at ktJ0_coder_7d493_0 2 rfl) rfl rfl (b := 7) rfl) ?_
    refine g_geti2 f2_J0_15 rfl hzn sz (dk_at ktJ0_coder_7d493_0 3 rfl) (v := 0) hcz (b := 10) rfl ?_
    refine gc_p (p_goto (b := 14) (dk_at ktJ0_coder_7d493_0 4 rfl) (by decide)) ?_
    refine h_iret (by first | rfl | decide) (dk_at ktJ0_coder_7d493_0 6 rfl) ?_ hz
    exact ⟨rfl, rfl, rfl, rfl⟩
set_option maxRecDepth 4000 in
set_option maxHeartbeats 4000000 in
theorem m_len0 {n : Nat} {sh : mS} {G : mG} {I : mI} {J : mJ} (hz : Zo n I J G) (hn9 : n + 2 ≤ 1000) {z : Nat} (hzn : z < n) (sz : sh z = .inl (0, 4)) (hcz : I z 1 = 0) {b L : Nat} (hb : b < n) (sb : sh b = .inr (1, L)) (hL : L < 900) (hgz : G z 0 = some b) : Sm yJ0_length_8abf5 cJ0_length_8abf5 1 (some FieldType.int) 2 76 0 0 [.ref z] n n sh G I J (fun r_ G_ I_ J_ => some (.int (nI L)) = r_ ∧ G = G_ ∧ I = I_ ∧ J = J_) := by
  refine Sm.of (by decide) (ls := [(0, .ref z)]) (fun _ => rfl) (fun _ => Nat.le_of_ble_eq_true rfl) ?_
  refine gc_p (p_aload_n 0 (dk_at ktJ0_length_8abf5_0 0 rfl) rfl rfl (b := 1) rfl) ?_
  refine g_geta2 f2_J0_9 rfl hzn sz (dk_at ktJ0_length_8abf5_0 1 rfl) hgz (b := 4) rfl ?_
  refine g_balen hb sb (dk_at ktJ0_length_8abf5_0 2 rfl) (b := 5) rfl ?_
  refine gc_p (p_aload_n 0 (dk_at ktJ0_length_8abf5_0 3 rfl) rfl rfl (b := 6) rfl) ?_
  refine h_callV (As' := []) (rest := [.int (nI L)]) (n1 := n) (m_cod0 hz hn9 hzn sz hcz) (by omega) cw_J0_335 qi_J0_coder_7d493 (sel_of qv_J0_coder_7d493) rfl hzn sz (dk_at ktJ0_length_8abf5_0 4 rfl) rfl rfl (Nat.le_of_ble_eq_true rfl) ⟨by decide, Nat.le_of_ble_eq_true rfl⟩ (by exact (okC okVi okN)) (by exact (okCl (okVr (by omega)) okNl)) (b := 9) rfl (kc' := 0) (ks' := 0) (Nat.le_of_ble_eq_true rfl) (Nat.le_of_ble_eq_true rfl) (fun rr0 G0_ I0_ J0_ hq0 hz0 => ?_)
  obtain ⟨rfl, rfl, rfl, rfl⟩ := hq0
  refine gc_p (p_ishr (v := (nI L)) (dk_at ktJ0_length_8abf5_0 5 rfl) sh_0 (b := 10) rfl) ?_
  refine h_iret (by first | rfl | decide) (dk_at ktJ0_length_8abf5_0 6 rfl) ?_ hz0
  exact ⟨rfl, rfl, rfl, rfl⟩
set_option maxRecDepth 4000 in
set_option maxHeartbeats 4000000 in
theorem m_char {n : Nat} {sh : mS} {G : mG} {I : mI} {J : mJ} (hz : Zo n I J G) (hn9 : n + 2 ≤ 1000) {z : Nat} (hzn : z < n) (sz : sh z = .inl (0, 4)) (hcz : I z 1 = 0) {b L : Nat} (hb : b < n) (sb : sh b = .inr (1, L)) (hL : L < 900) (hgz : G z 0 = some b) {j c : Nat} (hj : j < L) (hc : c < 128) (hv : I b j = nI c) : Sm yJ0_charAt_5068e cJ0_charAt_5068e 2 (some FieldType.char) 4 170 0 0 [.ref z, .int (nI j)] n n sh G I J (fun r_ G_ I_ J_ => some (.int (nI c)) = r_ ∧ G = G_ ∧ I = I_ ∧ J = J_) := by
  refine Sm.of (by decide) (ls := [(0, .ref z), (1, .int (nI j))]) (fun _ => rfl) (fun _ => Nat.le_of_ble_eq_true rfl) ?_
  refine gc_p (p_aload_n 0 (dk_at ktJ0_charAt_5068e_0 0 rfl) rfl rfl (b := 1) rfl) ?_
  refine h_callV (As' := []) (rest := []) (n1 := n) (m_isL0 hz hn9 hzn sz hcz) (by omega) cw_J0_492 qi_J0_isLatin1_aae02 (sel_of qv_J0_isLatin1_aae02) rfl hzn sz (dk_at ktJ0_charAt_5068e_0 1 rfl) rfl rfl (by decide) ⟨by decide, Nat.le_of_ble_eq_true rfl⟩ okN (by exact (okCl (okVr (by omega)) (okCl okVi okNl))) (b := 4) rfl (kc' := 0) (ks' := 0) (Nat.le_of_ble_eq_true rfl) (Nat.le_of_ble_eq_true rfl) (fun rr0 G0_ I0_ J0_ hq0 hz0 => ?_)
  obtain ⟨rfl, rfl, rfl, rfl⟩ := hq0
  refine g_if_eq (dk_at ktJ0_charAt_5068e_0 2 rfl) (b := 16) (by decide) (b2 := 7) rfl (fun c4 => ?_) (fun c4 => ?_)
  · first | exact absurd c4 (by decide) | exact absurd (by decide) c4
  · skip
    refine gc_p (p_aload_n 0 (dk_at ktJ0_charAt_5068e_0 3 rfl) rfl rfl (b := 8) rfl) ?_
    refine g_geta2 f2_J0_9 rfl hzn sz (dk_at ktJ0_charAt_5068e_0 4 rfl) hgz (b := 11) rfl ?_
    refine gc_p (p_iload_n 1 (dk_at ktJ0_charAt_5068e_0 5 rfl) rfl rfl (b := 12) rfl) ?_
    refine h_callS (As := [.ref b, .int (nI j)]) (rest := []) (n1 := n) (m_c1 hz hn9 hb sb hL hj hc hv) (by omega) cw_J0_495 qs_J1_charAt_3b067 (dk_at ktJ0_charAt_5068e_0 6 rfl) rfl rfl (by decide) ⟨by decide, Nat.le_of_ble_eq_true rfl⟩ okN (by exact (okCl (okVr (by omega)) (okCl okVi okNl))) (b := 15) rfl (kc' := 0) (ks' := 0) (Nat.le_of_ble_eq_true rfl) (Nat.le_of_ble_eq_true rfl) (fun rr1 G1_ I1_ J1_ hq1 hz1 => ?_)
    obtain ⟨rfl, rfl, rfl, rfl⟩ := hq1
    refine h_iret (ch_nar hc) (dk_at ktJ0_charAt_5068e_0 7 rfl) ⟨rfl, rfl, rfl, rfl⟩ hz1
set_option maxRecDepth 4000 in
set_option maxHeartbeats 4000000 in
theorem load_loop {n : Nat} {sh : mS} {G : mG} {J : mJ} (hn9 : n + 2 ≤ 1000) (hB : Bt n sh G) {z : Nat} (hzn : z < n) (sz : sh z = .inl (0, 4)) (h3z : 104 ≤ z) {b L : Nat} (hb : b < n) (sb : sh b = .inr (1, L)) (h3b : 104 ≤ b) (hL : L < 900) (hgz : G z 0 = some b) {T : tT} (hT : Asc T L) (hT0 : ∀ k, L ≤ k → T k = 0) {σ : sT} {Te N : Nat} {I0 : mI} : ∀ (t q r : Nat) (I : mI), q + r + t = L → ∀ (hz : Zo n I J G) (hfi : ∀ k, 7 ≤ k → I k = I0 k) (hcz0 : I0 z 1 = 0) (hvb0 : ∀ j, j < L → I0 b j = nI (T j)) (hR0 : RelD 7 I0 σ Te N) (hq : q + r < L → q % 8 = 0) (hr : r < 8) (he : q + r = L → r = 0) (hTC : TC 1 I (preT T q) q), Gj (hI yL_load (some FieldType.int)) (hO n n 0 0 sh (fun r_ G_ I_ J_ => some (.int (loadA T L)) = r_ ∧ G = G_ ∧ (RelN 7 I_ (loadT T L σ) Te ∧ ∀ k, 26 ≤ k → I_ k = I0 k) ∧ J = J_)) RL cL_load 5 9 290 0 0 n n sh G 0 0 5 [(0, .ref 0), (1, .ref z), (2, .long (pkI T q r)), (4, .int (nI (q + r)))] [] I J := by
  intro t
  induction t with
  | zero =>
    intro q r I ht hz hfi hcz0 hvb0 hR0 hq hr he hTC
    have hcz : I z 1 = 0 := (congrFun (hfi z (by omega)) 1).trans hcz0
    have hvb : ∀ j, j < L → I b j = nI (T j) := fun j hj => (congrFun (hfi b (by omega)) j).trans (hvb0 j hj)
    refine gc_p (p_iload 3 (dk_at ktL_load_0 4 rfl) rfl (b := 7) rfl) ?_
    refine gc_p (p_aload_n 1 (dk_at ktL_load_0 5 rfl) rfl rfl (b := 8) rfl) ?_
    refine h_callV (As' := []) (rest := [.int (nI (q + r))]) (n1 := n) (m_len0 hz hn9 hzn sz hcz hb sb hL hgz) (by omega) cw_L_14 qi_J0_length_8abf5 (sel_of qv_J0_length_8abf5) rfl hzn sz (dk_at ktL_load_0 6 rfl) rfl rfl (Nat.le_of_ble_eq_true rfl) ⟨by decide, Nat.le_of_ble_eq_true rfl⟩ (by exact (okC okVi okN)) (by exact (okCl (okVr (by omega)) (okCl (okVr (by omega)) (okCl trivial (okCl okVi okNl))))) (b := 11) rfl (kc' := 0) (ks' := 0) (Nat.le_of_ble_eq_true rfl) (Nat.le_of_ble_eq_true rfl) (fun rr0 G0_ I0_ J0_ hq0 hz0 => ?_)
    obtain ⟨rfl, rfl, rfl, rfl⟩ := hq0
    refine g_icmp_ge (dk_at ktL_load_0 7 rfl) (b := 65) (by decide) (b2 := 14) rfl (fun c11 => ?_) (fun c11 => ?_)
    · have c11 : L ≤ (q + r) := (nI_leI (a := L) (b := q + r) (by omega) (by omega)).mp c11
      refine gc_p (p_aload_n 0 (dk_at ktL_load_0 37 rfl) rfl rfl (b := 66) rfl) ?_
      have hr0 : r = 0 := he (by omega)
      subst hr0
      have hqL : q = L := by omega
      subst hqL
      rw [preT_all hT0] at hTC
      have hR : RelD 7 I σ Te N := hR0.fr (fun k g1 g2 => hfi k (by omega))
      refine g_callV (As' := []) (rest := []) (s_X6_load hB hTC hR) cw_L_30 qi_X6_load qv_X6_load rfl hB.l0 hB.s0 (dk_at ktL_load_0 38 rfl) rfl rfl (Nat.le_of_ble_eq_true rfl) ⟨by decide, by decide, by decide, by decide⟩ (b := 69) rfl (fun rr1 I1_ J1_ hq1 => ?_)
      obtain ⟨v9, rfl, rfl, rfl, hN, -, -, hF⟩ := hq1
      have hz9 : Zo n I1_ J G := hz.of (fun id hid => hF id (by omega))
      refine h_iret (by first | rfl | decide) (dk_at ktL_load_0 39 rfl) ?_ hz9
      exact ⟨rfl, rfl, ⟨hN, fun k hk => (hF k (by omega)).trans (hfi k (by omega))⟩, rfl⟩
    · have c11 : ¬ L ≤ (q + r) := fun h => c11 ((nI_leI (a := L) (b := q + r) (by omega) (by omega)).mpr h)
      exfalso; omega
  | succ t ih =>
    intro q r I ht hz hfi hcz0 hvb0 hR0 hq hr he hTC
    have hcz : I z 1 = 0 := (congrFun (hfi z (by omega)) 1).trans hcz0
    have hvb : ∀ j, j < L → I b j = nI (T j) := fun j hj => (congrFun (hfi b (by omega)) j).trans (hvb0 j hj)
    refine gc_p (p_iload 3 (dk_at ktL_load_0 4 rfl) rfl (b := 7) rfl) ?_
    refine gc_p (p_aload_n 1 (dk_at ktL_load_0 5 rfl) rfl rfl (b := 8) rfl) ?_
    refine h_callV (As' := []) (rest := [.int (nI (q + r))]) (n1 := n) (m_len0 hz hn9 hzn sz hcz hb sb hL hgz) (by omega) cw_L_14 qi_J0_length_8abf5 (sel_of qv_J0_length_8abf5) rfl hzn sz (dk_at ktL_load_0 6 rfl) rfl rfl (Nat.le_of_ble_eq_true rfl) ⟨by decide, Nat.le_of_ble_eq_true rfl⟩ (by exact (okC okVi okN)) (by exact (okCl (okVr (by omega)) (okCl (okVr (by omega)) (okCl trivial (okCl okVi okNl))))) (b := 11) rfl (kc' := 0) (ks' := 0) (Nat.le_of_ble_eq_true rfl) (Nat.le_of_ble_eq_true rfl) (fun rr0 G0_ I0_ J0_ hq0 hz0 => ?_)
    obtain ⟨rfl, rfl, rfl, rfl⟩ := hq0
    refine g_icmp_ge (dk_at ktL_load_0 7 rfl) (b := 65) (by decide) (b2 := 14) rfl (fun c11 => ?_) (fun c11 => ?_)
    · have c11 : L ≤ (q + r) := (nI_leI (a := L) (b := q + r) (by omega) (by omega)).mp c11
      exfalso; omega
    · have c11 : ¬ L ≤ (q + r) := fun h => c11 ((nI_leI (a := L) (b := q + r) (by omega) (by omega)).mpr h)
      refine gc_p (p_lload_n 2 (dk_at ktL_load_0 8 rfl) rfl rfl (b := 15) rfl) ?_
      refine gc_p (p_bipush (v := 8) (dk_at ktL_load_0 9 rfl) (by decide) (b := 17) rfl) ?_
      refine gc_p (p_lshl (v := ((pkI T q r) <<< ((8 : Int32).toInt64 &&& 63))) (dk_at ktL_load_0 10 rfl) rfl (b := 18) rfl) ?_
      refine gc_p (p_aload_n 1 (dk_at ktL_load_0 11 rfl) rfl rfl (b := 19) rfl) ?_
      refine gc_p (p_iload 3 (dk_at ktL_load_0 12 rfl) rfl (b := 21) rfl) ?_
      refine h_callV (As' := [.int (nI (q + r))]) (rest := [.long ((pkI T q r) <<< ((8 : Int32).toInt64 &&& 63))]) (n1 := n) (m_char (j := q + r) (c := T (q + r)) hz hn9 hzn sz hcz hb sb hL hgz (by omega) (hT _ (by omega)).2 (hvb _ (by omega))) (by omega) cw_L_20 qi_J0_charAt_5068e (sel_of qv_J0_charAt_5068e) rfl hzn sz (dk_at ktL_load_0 13 rfl) rfl rfl (Nat.le_of_ble_eq_true rfl) ⟨by decide, Nat.le_of_ble_eq_true rfl⟩ (by exact (okC trivial okN)) (by exact (okCl (okVr (by omega)) (okCl (okVr (by omega)) (okCl trivial (okCl okVi okNl))))) (b := 24) rfl (kc' := 0) (ks' := 0) (Nat.le_of_ble_eq_true rfl) (Nat.le_of_ble_eq_true rfl) (fun rr1 G1_ I1_ J1_ hq1 hz1 => ?_)
      obtain ⟨rfl, rfl, rfl, rfl⟩ := hq1
      refine gc_p (p_i2l (v := (Int32.toInt64 (nI (T (q + r))))) (dk_at ktL_load_0 14 rfl) rfl (b := 25) rfl) ?_
      refine gc_p (p_lor (v := (pkI T q (r + 1))) (dk_at ktL_load_0 15 rfl) rfl (b := 26) rfl) ?_
      refine gc_p (p_lstore_n (ls' := [(2, .long (pkI T q (r + 1))), (0, .ref 0), (1, .ref z), (4, .int (nI (q + r)))]) (dk_at ktL_load_0 16 rfl) rfl (by decide) rfl (b := 27) rfl) ?_
      refine gc_p (p_iload 3 (dk_at ktL_load_0 17 rfl) rfl (b := 29) rfl) ?_
      refine gc_p (p_bipush (v := 8) (dk_at ktL_load_0 18 rfl) (by decide) (b := 31) rfl) ?_
      refine gc_p (p_irem (v := (nI ((q + r) % 8))) (dk_at ktL_load_0 19 rfl) (by decide) (pk_rem (a := q + r) (d := 8) (by omega) (by decide) (by decide)) (b := 32) rfl) ?_
      refine gc_p (p_bipush (v := 7) (dk_at ktL_load_0 20 rfl) (by decide) (b := 34) rfl) ?_
      refine g_icmp_eq (dk_at ktL_load_0 21 rfl) (b := 51) (by decide) (b2 := 37) rfl (fun c34 => ?_) (fun c34 => ?_)
      · have c34 : ((q + r) % 8) = 7 := (nI_eq (a := (q + r) % 8) (b := 7) (by omega) (by omega)).mp c34
        refine gc_p (p_aload_n 1 (dk_at ktL_load_0 29 rfl) rfl rfl (b := 52) rfl) ?_
        refine gc_p (p_lload_n 0 (dk_at ktL_load_0 30 rfl) rfl rfl (b := 53) rfl) ?_
        have ha8 := ap_8 (T := T) (q := q) (m := r + 1) (by omega) (fun k hk => hT _ (by omega)) (by omega)
        refine g_callV (As' := [.long (pkI T q (r + 1))]) (rest := []) (s_X6_append hB hTC (pkI T q (r + 1))) cw_L_24 qi_X6_append qv_X6_append rfl hB.l0 hB.s0 (dk_at ktL_load_0 31 rfl) rfl rfl (Nat.le_of_ble_eq_true rfl) ⟨by decide, by decide, by decide, by decide⟩ (b := 56) rfl (fun rr2 I2_ J2_ hq2 => ?_)
        obtain ⟨v9, rfl, -, rfl, hF, hT9⟩ := hq2
        rw [ha8.1, ha8.2] at hT9
        have hI9 : ∀ k, 7 ≤ k → I2_ k = I0 k := fun k hk => (hF.1 k (by omega) (by simp; omega)).trans (hfi k hk)
        have hz9 : Zo n I2_ J G := hz.of (fun id hid => hF.1 id (by omega) (by simp; omega))
        refine gc_p (p_pop (dk_at ktL_load_0 32 rfl) rfl (b := 57) rfl) ?_
        refine gc_p (p_lconst (v := 0) (dk_at ktL_load_0 33 rfl) (by decide) (b := 58) rfl) ?_
        refine gc_p (p_lstore_n (ls' := [(2, .long 0), (0, .ref 0), (1, .ref z), (4, .int (nI (q + r)))]) (dk_at ktL_load_0 34 rfl) rfl (by decide) rfl (b := 59) rfl) ?_
        refine gc_p (p_iinc (j := 3) (v := (nI (q + r + 1))) (ls' := [(4, .int (nI (q + r + 1))), (2, .long 0), (0, .ref 0), (1, .ref z)]) (dk_at ktL_load_0 35 rfl) rfl (nI_add (q + r) 1) (by decide) rfl (b := 62) rfl) ?_
        refine gc_p (p_goto (b := 5) (dk_at ktL_load_0 36 rfl) (by decide)) ?_
        have eh : q + r + 1 = (q + (r + 1)) + 0 := by omega
        rw [show nI (q + r + 1) = nI ((q + (r + 1)) + 0) from congrArg nI eh]
        refine gc_sub [2, 3, 1, 0] (ls' := [(0, .ref 0), (1, .ref z), (2, .long (pkI T (q + (r + 1)) 0)), (4, .int (nI ((q + (r + 1)) + 0)))]) rfl ?_
        exact ih (q + (r + 1)) 0 _ (by omega) hz9 hI9 hcz0 hvb0 hR0 (fun _ => by omega) (by omega) (fun _ => rfl) hT9
      · have c34 : ¬ ((q + r) % 8) = 7 := fun h => c34 ((nI_eq (a := (q + r) % 8) (b := 7) (by omega) (by omega)).mpr h)
        refine gc_p (p_iload 3 (dk_at ktL_load_0 22 rfl) rfl (b := 39) rfl) ?_
        refine gc_p (p_aload_n 2 (dk_at ktL_load_0 23 rfl) rfl rfl (b := 40) rfl) ?_
        refine h_callV (As' := []) (rest := [.int (nI (q + r))]) (n1 := n) (m_len0 hz hn9 hzn sz hcz hb sb hL hgz) (by omega) cw_L_14 qi_J0_length_8abf5 (sel_of qv_J0_length_8abf5) rfl hzn sz (dk_at ktL_load_0 24 rfl) rfl rfl (Nat.le_of_ble_eq_true rfl) ⟨by decide, Nat.le_of_ble_eq_true rfl⟩ (by exact (okC okVi okN)) (by exact (okCl trivial (okCl (okVr (by omega)) (okCl (okVr (by omega)) (okCl okVi okNl))))) (b := 43) rfl (kc' := 0) (ks' := 0) (Nat.le_of_ble_eq_true rfl) (Nat.le_of_ble_eq_true rfl) (fun rr3 G3_ I3_ J3_ hq3 hz3 => ?_)
        obtain ⟨rfl, rfl, rfl, rfl⟩ := hq3
        refine gc_p (p_iconst (v := 1) (dk_at ktL_load_0 25 rfl) (by decide) (b := 44) rfl) ?_
        refine gc_p (p_isub (v := (nI (L - 1))) (dk_at ktL_load_0 26 rfl) (pk_sub (a := L) (b := 1) (by omega)) (b := 45) rfl) ?_
        refine g_icmp_eq (dk_at ktL_load_0 27 rfl) (b := 51) (by decide) (b2 := 48) rfl (fun c45 => ?_) (fun c45 => ?_)
        · have c45 : (q + r) = (L - 1) := (nI_eq (a := q + r) (b := L - 1) (by omega) (by omega)).mp c45
          refine gc_p (p_aload_n 1 (dk_at ktL_load_0 29 rfl) rfl rfl (b := 52) rfl) ?_
          refine gc_p (p_lload_n 0 (dk_at ktL_load_0 30 rfl) rfl rfl (b := 53) rfl) ?_
          have ha8 := ap_8 (T := T) (q := q) (m := r + 1) (by omega) (fun k hk => hT _ (by omega)) (by omega)
          refine g_callV (As' := [.long (pkI T q (r + 1))]) (rest := []) (s_X6_append hB hTC (pkI T q (r + 1))) cw_L_24 qi_X6_append qv_X6_append rfl hB.l0 hB.s0 (dk_at ktL_load_0 31 rfl) rfl rfl (Nat.le_of_ble_eq_true rfl) ⟨by decide, by decide, by decide, by decide⟩ (b := 56) rfl (fun rr4 I4_ J4_ hq4 => ?_)
          obtain ⟨v9, rfl, -, rfl, hF, hT9⟩ := hq4
          rw [ha8.1, ha8.2] at hT9
          have hI9 : ∀ k, 7 ≤ k → I4_ k = I0 k := fun k hk => (hF.1 k (by omega) (by simp; omega)).trans (hfi k hk)
          have hz9 : Zo n I4_ J G := hz.of (fun id hid => hF.1 id (by omega) (by simp; omega))
          refine gc_p (p_pop (dk_at ktL_load_0 32 rfl) rfl (b := 57) rfl) ?_
          refine gc_p (p_lconst (v := 0) (dk_at ktL_load_0 33 rfl) (by decide) (b := 58) rfl) ?_
          refine gc_p (p_lstore_n (ls' := [(2, .long 0), (0, .ref 0), (1, .ref z), (4, .int (nI (q + r)))]) (dk_at ktL_load_0 34 rfl) rfl (by decide) rfl (b := 59) rfl) ?_
          refine gc_p (p_iinc (j := 3) (v := (nI (q + r + 1))) (ls' := [(4, .int (nI (q + r + 1))), (2, .long 0), (0, .ref 0), (1, .ref z)]) (dk_at ktL_load_0 35 rfl) rfl (nI_add (q + r) 1) (by decide) rfl (b := 62) rfl) ?_
          refine gc_p (p_goto (b := 5) (dk_at ktL_load_0 36 rfl) (by decide)) ?_
          have eh : q + r + 1 = (q + (r + 1)) + 0 := by omega
          rw [show nI (q + r + 1) = nI ((q + (r + 1)) + 0) from congrArg nI eh]
          refine gc_sub [2, 3, 1, 0] (ls' := [(0, .ref 0), (1, .ref z), (2, .long (pkI T (q + (r + 1)) 0)), (4, .int (nI ((q + (r + 1)) + 0)))]) rfl ?_
          exact ih (q + (r + 1)) 0 _ (by omega) hz9 hI9 hcz0 hvb0 hR0 (fun _ => by omega) (by omega) (fun _ => rfl) hT9
        · have c45 : ¬ (q + r) = (L - 1) := fun h => c45 ((nI_eq (a := q + r) (b := L - 1) (by omega) (by omega)).mpr h)
          refine gc_p (p_goto (b := 59) (dk_at ktL_load_0 28 rfl) (by decide)) ?_
          refine gc_p (p_iinc (j := 3) (v := (nI (q + r + 1))) (ls' := [(4, .int (nI (q + r + 1))), (2, .long (pkI T q (r + 1))), (0, .ref 0), (1, .ref z)]) (dk_at ktL_load_0 35 rfl) rfl (nI_add (q + r) 1) (by decide) rfl (b := 62) rfl) ?_
          refine gc_p (p_goto (b := 5) (dk_at ktL_load_0 36 rfl) (by decide)) ?_
          refine gc_sub [2, 3, 1, 0] (ls' := [(0, .ref 0), (1, .ref z), (2, .long (pkI T q (r + 1))), (4, .int (nI (q + (r + 1))))]) rfl ?_
          exact ih q (r + 1) _ (by omega) hz hfi hcz0 hvb0 hR0 (fun _ => hq (by omega)) (by have := hq (by omega); omega) (fun _ => by omega) hTC
set_option maxRecDepth 4000 in
set_option maxHeartbeats 4000000 in
theorem m_load {n : Nat} {sh : mS} {G : mG} {J : mJ} (hn9 : n + 2 ≤ 1000) (hB : Bt n sh G) {z : Nat} (hzn : z < n) (sz : sh z = .inl (0, 4)) (h3z : 104 ≤ z) {b L : Nat} (hb : b < n) (sb : sh b = .inr (1, L)) (h3b : 104 ≤ b) (hL : L < 900) (hgz : G z 0 = some b) {T : tT} (hT : Asc T L) (hT0 : ∀ k, L ≤ k → T k = 0) {σ : sT} {Te N : Nat} {I : mI} (hz : Zo n I J G) (hcz0 : I z 1 = 0) (hvb0 : ∀ j, j < L → I b j = nI (T j)) (hR0 : RelD 7 I σ Te N) (hTC : TC 1 I (preT T 0) 0) : Sm yL_load cL_load 5 (some FieldType.int) 9 290 0 0 [.ref 0, .ref z] n n sh G I J (fun r_ G_ I_ J_ => some (.int (loadA T L)) = r_ ∧ G = G_ ∧ (RelN 7 I_ (loadT T L σ) Te ∧ ∀ k, 26 ≤ k → I_ k = I k) ∧ J = J_) := by
  refine Sm.of (by decide) (ls := [(0, .ref 0), (1, .ref z)]) (fun _ => rfl) (fun _ => Nat.le_of_ble_eq_true rfl) ?_
  refine gc_p (p_lconst (v := 0) (dk_at ktL_load_0 0 rfl) (by decide) (b := 1) rfl) ?_
  refine gc_p (p_lstore_n (ls' := [(2, .long 0), (0, .ref 0), (1, .ref z)]) (dk_at ktL_load_0 1 rfl) rfl (by decide) rfl (b := 2) rfl) ?_
  refine gc_p (p_iconst (v := 0) (dk_at ktL_load_0 2 rfl) (by decide) (b := 3) rfl) ?_
  refine gc_p (p_istore (ls' := [(4, .int 0), (2, .long 0), (0, .ref 0), (1, .ref z)]) (dk_at ktL_load_0 3 rfl) (by decide) rfl (b := 5) rfl) ?_
  refine gc_sub [2, 3, 1, 0] (ls' := [(0, .ref 0), (1, .ref z), (2, .long (pkI T 0 0)), (4, .int (nI (0 + 0)))]) rfl ?_
  exact load_loop hn9 hB hzn sz h3z hb sb h3b hL hgz hT hT0 L 0 0 I (by omega) hz (fun _ _ => rfl) hcz0 hvb0 hR0 (fun _ => rfl) (by omega) (fun _ => rfl) hTC

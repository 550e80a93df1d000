/-! THE JDK'S TEXTS: append of a number, the whole method -/
set_option maxRecDepth 4000 in
set_option maxHeartbeats 4000000 in
theorem m_aiA {n : Nat} {sh : mS} {G : mG} {I : mI} {J : mJ} (hz : Zo n I J G) (hn9 : n + 2 ≤ 1000) {x : Nat} (hx : x < n) (sx : sh x = .inl (1, 4)) (hc : I x 1 = 0) {a cap cnt : Nat} (ha : a < n) (sa : sh a = .inr (1, cap)) (hv : G x 0 = some a) (hn : I x 3 = nI cnt) (hcc : cnt ≤ cap) (hc9 : cap ≤ 900) {v : Nat} (hv6 : v < 65536) (hq : cnt + dg v ≤ cap) : Sm yJ5_append_c97b9 cJ5_append_c97b9 4 (some (FieldType.object "java/lang/AbstractStringBuilder")) 5 160 2 1800 [.ref x, .int (nI v)] n n sh G I J (fun r_ G_ I_ J_ => some (.ref x) = r_ ∧ G = G_ ∧ (∃ I2, DgW I I2 a cnt v ∧ up2 I2 x 3 (nI (cnt + dg v)) = I_) ∧ J = J_) := by
  have := dg_le v
  refine Sm.of (by decide) (ls := [(0, .ref x), (1, .int (nI v))]) (fun _ => rfl) (fun _ => Nat.le_of_ble_eq_true rfl) ?_
  refine gc_p (p_aload_n 0 (dk_at ktJ5_append_c97b9_0 0 rfl) rfl rfl (b := 1) rfl) ?_
  refine g_geti2 f2_J5_79 rfl (by omega) sx (dk_at ktJ5_append_c97b9_0 1 rfl) (v := nI cnt) hn (b := 4) rfl ?_
  refine gc_p (p_istore_n (ls' := [(2, .int (nI cnt)), (0, .ref x), (1, .int (nI v))]) (dk_at ktJ5_append_c97b9_0 2 rfl) rfl (by decide) rfl (b := 5) rfl) ?_
  refine gc_p (p_iload_n 0 (dk_at ktJ5_append_c97b9_0 3 rfl) rfl rfl (b := 6) rfl) ?_
  refine gc_p (p_iload_n 2 (dk_at ktJ5_append_c97b9_0 4 rfl) rfl rfl (b := 7) rfl) ?_
  refine h_callS (As := [.int (nI v)]) (rest := [.int (nI cnt)]) (n1 := n) (m_size hz hn9 v hv6) (by omega) cw_J5_245 qs_J6_stringSize_0f7a4 (dk_at ktJ5_append_c97b9_0 5 rfl) rfl rfl (Nat.le_of_ble_eq_true rfl) ⟨by decide, Nat.le_of_ble_eq_true rfl⟩ (by exact (okC okVi okN)) (by exact (okCl okVi (okCl (okVr (by omega)) (okCl okVi okNl)))) (b := 10) rfl (kc' := 2) (ks' := 1800) (Nat.le_of_ble_eq_true rfl) (Nat.le_of_ble_eq_true rfl) (fun rr0 G0_ I0_ J0_ hq0 hz0 => ?_)
  obtain ⟨rfl, rfl, rfl, rfl⟩ := hq0
  refine gc_p (p_iadd (v := (nI (cnt + (dg v)))) (dk_at ktJ5_append_c97b9_0 6 rfl) (nI_add cnt (dg v)) (b := 11) rfl) ?_
  refine gc_p (p_istore_n (ls' := [(3, .int (nI (cnt + (dg v)))), (2, .int (nI cnt)), (0, .ref x), (1, .int (nI v))]) (dk_at ktJ5_append_c97b9_0 7 rfl) rfl (by decide) rfl (b := 12) rfl) ?_
  refine gc_p (p_aload_n 2 (dk_at ktJ5_append_c97b9_0 8 rfl) rfl rfl (b := 13) rfl) ?_
  refine gc_p (p_iload_n 0 (dk_at ktJ5_append_c97b9_0 9 rfl) rfl rfl (b := 14) rfl) ?_
  refine h_callV (As' := [.int (nI (cnt + (dg v)))]) (rest := []) (n1 := n) (m_ensA hz hn9 hx sx hc ha sa hv hn hcc hc9 (cnt + dg v) hq) (by omega) cw_J5_100 qi_J5_ensureCapacityInternal_d00df (sel_ac sv_J5_ensureCapacityInternal_d00df) rfl (by omega) sx (dk_at ktJ5_append_c97b9_0 10 rfl) rfl rfl (by decide) ⟨by decide, Nat.le_of_ble_eq_true rfl⟩ okN (by exact (okCl okVi (okCl okVi (okCl (okVr (by omega)) (okCl okVi okNl))))) (b := 17) rfl (kc' := 1) (ks' := 900) (Nat.le_of_ble_eq_true rfl) (Nat.le_of_ble_eq_true rfl) (fun rr1 G1_ I1_ J1_ hq1 hz1 => ?_)
  obtain ⟨rfl, rfl, rfl, rfl⟩ := hq1
  refine gc_p (p_aload_n 2 (dk_at ktJ5_append_c97b9_0 11 rfl) rfl rfl (b := 18) rfl) ?_
  refine h_callV (As' := []) (rest := []) (n1 := n) (m_isLat hz1 (by omega) (x := x) (by omega) sx hc) (by omega) cw_J5_83 qi_J5_isLatin1_aae02 (sel_of qv_J5_isLatin1_aae02) rfl (by omega) sx (dk_at ktJ5_append_c97b9_0 12 rfl) rfl rfl (by decide) ⟨by decide, Nat.le_of_ble_eq_true rfl⟩ okN (by exact (okCl okVi (okCl okVi (okCl (okVr (by omega)) (okCl okVi okNl))))) (b := 21) rfl (kc' := 1) (ks' := 900) (Nat.le_of_ble_eq_true rfl) (Nat.le_of_ble_eq_true rfl) (fun rr2 G2_ I2_ J2_ hq2 hz2 => ?_)
  obtain ⟨rfl, rfl, rfl, rfl⟩ := hq2
  refine g_if_eq (dk_at ktJ5_append_c97b9_0 13 rfl) (b := 37) (by decide) (b2 := 24) rfl (fun c21 => ?_) (fun c21 => ?_)
  · first | exact absurd c21 (by decide) | exact absurd (by decide) c21
  · skip
    refine gc_p (p_iload_n 3 (dk_at ktJ5_append_c97b9_0 14 rfl) rfl rfl (b := 25) rfl) ?_
    refine gc_p (p_iload_n 0 (dk_at ktJ5_append_c97b9_0 15 rfl) rfl rfl (b := 26) rfl) ?_
    refine gc_p (p_aload_n 2 (dk_at ktJ5_append_c97b9_0 16 rfl) rfl rfl (b := 27) rfl) ?_
    refine g_geta2 f2_J5_15 rfl (by omega) sx (dk_at ktJ5_append_c97b9_0 17 rfl) hv (b := 30) rfl ?_
    refine h_callS (As := [.int (nI v), .int (nI (cnt + (dg v))), .ref a]) (rest := []) (n1 := n) (m_getC hz2 hn9 (st := cnt) ha sa hc9 hv6 hq) (by omega) cw_J5_248 qs_J6_getChars_ba4f3 (dk_at ktJ5_append_c97b9_0 18 rfl) rfl rfl (by decide) ⟨by decide, Nat.le_of_ble_eq_true rfl⟩ okN (by exact (okCl okVi (okCl okVi (okCl (okVr (by omega)) (okCl okVi okNl))))) (b := 33) rfl (kc' := 1) (ks' := 900) (Nat.le_of_ble_eq_true rfl) (Nat.le_of_ble_eq_true rfl) (fun rr3 G3_ I3_ J3_ hq3 hz3 => ?_)
    obtain ⟨rfl, rfl, hD, rfl⟩ := hq3
    refine gc_p (p_pop (dk_at ktJ5_append_c97b9_0 19 rfl) rfl (b := 34) rfl) ?_
    refine gc_p (p_goto (b := 48) (dk_at ktJ5_append_c97b9_0 20 rfl) (by decide)) ?_
    refine gc_p (p_aload_n 2 (dk_at ktJ5_append_c97b9_0 28 rfl) rfl rfl (b := 49) rfl) ?_
    refine gc_p (p_iload_n 0 (dk_at ktJ5_append_c97b9_0 29 rfl) rfl rfl (b := 50) rfl) ?_
    refine g_puti2 f2_J5_79 fw_J4_3 rfl (by omega) sx rfl rfl (dk_at ktJ5_append_c97b9_0 30 rfl) (b := 53) rfl ?_
    refine gc_p (p_aload_n 2 (dk_at ktJ5_append_c97b9_0 31 rfl) rfl rfl (b := 54) rfl) ?_
    refine h_aret (by first | exact Or.inl ⟨_, rfl⟩ | exact Or.inr ⟨_, rfl⟩) (dk_at ktJ5_append_c97b9_0 32 rfl) ?_ (hz3.ui (by omega))
    exact ⟨rfl, rfl, ⟨_, hD, rfl⟩, rfl⟩
set_option maxRecDepth 4000 in
set_option maxHeartbeats 4000000 in
theorem m_aiB {n : Nat} {sh : mS} {G : mG} {I : mI} {J : mJ} (hz : Zo n I J G) (hn9 : n + 2 ≤ 1000) {x : Nat} (hx : x < n) (sx : sh x = .inl (1, 4)) (hc : I x 1 = 0) {a cap cnt : Nat} (ha : a < n) (sa : sh a = .inr (1, cap)) (hv : G x 0 = some a) (hn : I x 3 = nI cnt) (hcc : cnt ≤ cap) (hc9 : cap ≤ 900) {v : Nat} (hv6 : v < 65536) (hnx : n + 8 ≤ 1000) {m : Nat} (hq : cap < cnt + dg v) (hm : m = cap + max (cnt + dg v - cap) (cap + 2)) (hm9 : m ≤ 900) (hq9 : cnt + dg v ≤ 900) (sn : sh n = .inr (1, m)) (hf : ∀ j, j < cap → fits .byte (.int (I a j)) = true) : Sm yJ5_append_c97b9 cJ5_append_c97b9 4 (some (FieldType.object "java/lang/AbstractStringBuilder")) 5 160 2 1800 [.ref x, .int (nI v)] n (n + 1) sh G I J (fun r_ G_ I_ J_ => some (.ref x) = r_ ∧ upG G x 0 n = G_ ∧ (∃ I2, DgW (cpf I (I a) n 0 0 cap) I2 n cnt v ∧ up2 I2 x 3 (nI (cnt + dg v)) = I_) ∧ J = J_) := by
  have := dg_le v
  refine Sm.of (by decide) (ls := [(0, .ref x), (1, .int (nI v))]) (fun _ => rfl) (fun _ => Nat.le_of_ble_eq_true rfl) ?_
  refine gc_p (p_aload_n 0 (dk_at ktJ5_append_c97b9_0 0 rfl) rfl rfl (b := 1) rfl) ?_
  refine g_geti2 f2_J5_79 rfl (by omega) sx (dk_at ktJ5_append_c97b9_0 1 rfl) (v := nI cnt) hn (b := 4) rfl ?_
  refine gc_p (p_istore_n (ls' := [(2, .int (nI cnt)), (0, .ref x), (1, .int (nI v))]) (dk_at ktJ5_append_c97b9_0 2 rfl) rfl (by decide) rfl (b := 5) rfl) ?_
  refine gc_p (p_iload_n 0 (dk_at ktJ5_append_c97b9_0 3 rfl) rfl rfl (b := 6) rfl) ?_
  refine gc_p (p_iload_n 2 (dk_at ktJ5_append_c97b9_0 4 rfl) rfl rfl (b := 7) rfl) ?_
  refine h_callS (As := [.int (nI v)]) (rest := [.int (nI cnt)]) (n1 := n) (m_size hz hn9 v hv6) (by omega) cw_J5_245 qs_J6_stringSize_0f7a4 (dk_at ktJ5_append_c97b9_0 5 rfl) rfl rfl (Nat.le_of_ble_eq_true rfl) ⟨by decide, Nat.le_of_ble_eq_true rfl⟩ (by exact (okC okVi okN)) (by exact (okCl okVi (okCl (okVr (by omega)) (okCl okVi okNl)))) (b := 10) rfl (kc' := 2) (ks' := 1800) (Nat.le_of_ble_eq_true rfl) (Nat.le_of_ble_eq_true rfl) (fun rr0 G0_ I0_ J0_ hq0 hz0 => ?_)
  obtain ⟨rfl, rfl, rfl, rfl⟩ := hq0
  refine gc_p (p_iadd (v := (nI (cnt + (dg v)))) (dk_at ktJ5_append_c97b9_0 6 rfl) (nI_add cnt (dg v)) (b := 11) rfl) ?_
  refine gc_p (p_istore_n (ls' := [(3, .int (nI (cnt + (dg v)))), (2, .int (nI cnt)), (0, .ref x), (1, .int (nI v))]) (dk_at ktJ5_append_c97b9_0 7 rfl) rfl (by decide) rfl (b := 12) rfl) ?_
  refine gc_p (p_aload_n 2 (dk_at ktJ5_append_c97b9_0 8 rfl) rfl rfl (b := 13) rfl) ?_
  refine gc_p (p_iload_n 0 (dk_at ktJ5_append_c97b9_0 9 rfl) rfl rfl (b := 14) rfl) ?_
  refine h_callV (As' := [.int (nI (cnt + (dg v)))]) (rest := []) (n1 := (n + 1)) (m_ensB hz hn9 hx sx hc ha sa hv hn hcc hc9 (cnt + dg v) hq hq9 (by rw [← hm]; exact hm9) (by rw [← hm]; exact sn) hf) (by omega) cw_J5_100 qi_J5_ensureCapacityInternal_d00df (sel_ac sv_J5_ensureCapacityInternal_d00df) rfl (by omega) sx (dk_at ktJ5_append_c97b9_0 10 rfl) rfl rfl (by decide) ⟨by decide, Nat.le_of_ble_eq_true rfl⟩ okN (by exact (okCl okVi (okCl okVi (okCl (okVr (by omega)) (okCl okVi okNl))))) (b := 17) rfl (kc' := 1) (ks' := 900) (Nat.le_of_ble_eq_true rfl) (Nat.le_of_ble_eq_true rfl) (fun rr1 G1_ I1_ J1_ hq1 hz1 => ?_)
  obtain ⟨rfl, rfl, rfl, rfl⟩ := hq1
  refine gc_p (p_aload_n 2 (dk_at ktJ5_append_c97b9_0 11 rfl) rfl rfl (b := 18) rfl) ?_
  refine h_callV (As' := []) (rest := []) (n1 := (n + 1)) (m_isLat hz1 (by omega) (x := x) (by omega) sx (by rw [cpf_off (by omega)]; exact hc)) (by omega) cw_J5_83 qi_J5_isLatin1_aae02 (sel_of qv_J5_isLatin1_aae02) rfl (by omega) sx (dk_at ktJ5_append_c97b9_0 12 rfl) rfl rfl (by decide) ⟨by decide, Nat.le_of_ble_eq_true rfl⟩ okN (by exact (okCl okVi (okCl okVi (okCl (okVr (by omega)) (okCl okVi okNl))))) (b := 21) rfl (kc' := 1) (ks' := 900) (Nat.le_of_ble_eq_true rfl) (Nat.le_of_ble_eq_true rfl) (fun rr2 G2_ I2_ J2_ hq2 hz2 => ?_)
  obtain ⟨rfl, rfl, rfl, rfl⟩ := hq2
  refine g_if_eq (dk_at ktJ5_append_c97b9_0 13 rfl) (b := 37) (by decide) (b2 := 24) rfl (fun c21 => ?_) (fun c21 => ?_)
  · first | exact absurd c21 (by decide) | exact absurd (by decide) c21
  · skip
    refine gc_p (p_iload_n 3 (dk_at ktJ5_append_c97b9_0 14 rfl) rfl rfl (b := 25) rfl) ?_
    refine gc_p (p_iload_n 0 (dk_at ktJ5_append_c97b9_0 15 rfl) rfl rfl (b := 26) rfl) ?_
    refine gc_p (p_aload_n 2 (dk_at ktJ5_append_c97b9_0 16 rfl) rfl rfl (b := 27) rfl) ?_
    refine g_geta2 f2_J5_15 rfl (by omega) sx (dk_at ktJ5_append_c97b9_0 17 rfl) upG_s (b := 30) rfl ?_
    refine h_callS (As := [.int (nI v), .int (nI (cnt + (dg v))), .ref n]) (rest := []) (n1 := (n + 1)) (m_getC hz2 (by omega) (a := n) (cap := m) (st := cnt) (v := v) (by omega) sn hm9 hv6 (by omega)) (by omega) cw_J5_248 qs_J6_getChars_ba4f3 (dk_at ktJ5_append_c97b9_0 18 rfl) rfl rfl (by decide) ⟨by decide, Nat.le_of_ble_eq_true rfl⟩ okN (by exact (okCl okVi (okCl okVi (okCl (okVr (by omega)) (okCl okVi okNl))))) (b := 33) rfl (kc' := 1) (ks' := 900) (Nat.le_of_ble_eq_true rfl) (Nat.le_of_ble_eq_true rfl) (fun rr3 G3_ I3_ J3_ hq3 hz3 => ?_)
    obtain ⟨rfl, rfl, hD, rfl⟩ := hq3
    refine gc_p (p_pop (dk_at ktJ5_append_c97b9_0 19 rfl) rfl (b := 34) rfl) ?_
    refine gc_p (p_goto (b := 48) (dk_at ktJ5_append_c97b9_0 20 rfl) (by decide)) ?_
    refine gc_p (p_aload_n 2 (dk_at ktJ5_append_c97b9_0 28 rfl) rfl rfl (b := 49) rfl) ?_
    refine gc_p (p_iload_n 0 (dk_at ktJ5_append_c97b9_0 29 rfl) rfl rfl (b := 50) rfl) ?_
    refine g_puti2 f2_J5_79 fw_J4_3 rfl (by omega) sx rfl rfl (dk_at ktJ5_append_c97b9_0 30 rfl) (b := 53) rfl ?_
    refine gc_p (p_aload_n 2 (dk_at ktJ5_append_c97b9_0 31 rfl) rfl rfl (b := 54) rfl) ?_
    refine h_aret (by first | exact Or.inl ⟨_, rfl⟩ | exact Or.inr ⟨_, rfl⟩) (dk_at ktJ5_append_c97b9_0 32 rfl) ?_ (hz3.ui (by omega))
    exact ⟨rfl, rfl, ⟨_, hD, rfl⟩, rfl⟩
set_option maxRecDepth 4000 in
set_option maxHeartbeats 4000000 in
theorem m_siA {n : Nat} {sh : mS} {G : mG} {I : mI} {J : mJ} (hz : Zo n I J G) (hn9 : n + 2 ≤ 1000) {x : Nat} (hx : x < n) (sx : sh x = .inl (1, 4)) (hc : I x 1 = 0) {a cap cnt : Nat} (ha : a < n) (sa : sh a = .inr (1, cap)) (hv : G x 0 = some a) (hn : I x 3 = nI cnt) (hcc : cnt ≤ cap) (hc9 : cap ≤ 900) {v : Nat} (hv6 : v < 65536) (hq : cnt + dg v ≤ cap) : Sm yJ4_append_bf812 cJ4_append_bf812 2 (some (FieldType.object "java/lang/StringBuilder")) 6 190 2 1800 [.ref x, .int (nI v)] n n sh G I J (fun r_ G_ I_ J_ => some (.ref x) = r_ ∧ G = G_ ∧ (∃ I2, DgW I I2 a cnt v ∧ up2 I2 x 3 (nI (cnt + dg v)) = I_) ∧ J = J_) := by
  refine Sm.of (by decide) (ls := [(0, .ref x), (1, .int (nI v))]) (fun _ => rfl) (fun _ => Nat.le_of_ble_eq_true rfl) ?_
  refine gc_p (p_aload_n 0 (dk_at ktJ4_append_bf812_0 0 rfl) rfl rfl (b := 1) rfl) ?_
  refine gc_p (p_iload_n 1 (dk_at ktJ4_append_bf812_0 1 rfl) rfl rfl (b := 2) rfl) ?_
  refine h_callSU (As' := [.int (nI v)]) (rest := []) (n1 := n) (m_aiA hz hn9 hx sx hc ha sa hv hn hcc hc9 hv6 hq) (by omega) cs_J4_53 rfl (by omega) sx (dk_at ktJ4_append_bf812_0 2 rfl) rfl rfl (by decide) ⟨by decide, Nat.le_of_ble_eq_true rfl⟩ okN (by exact (okCl (okVr (by omega)) (okCl okVi okNl))) (b := 5) rfl (kc' := 0) (ks' := 0) (Nat.le_of_ble_eq_true rfl) (Nat.le_of_ble_eq_true rfl) (fun rr0 G0_ I0_ J0_ hq0 hz0 => ?_)
  obtain ⟨rfl, rfl, ⟨I2, hD, rfl⟩, rfl⟩ := hq0
  refine gc_p (p_pop (dk_at ktJ4_append_bf812_0 3 rfl) rfl (b := 6) rfl) ?_
  refine gc_p (p_aload_n 0 (dk_at ktJ4_append_bf812_0 4 rfl) rfl rfl (b := 7) rfl) ?_
  refine h_aret (by first | exact Or.inl ⟨_, rfl⟩ | exact Or.inr ⟨_, rfl⟩) (dk_at ktJ4_append_bf812_0 5 rfl) ?_ hz0
  exact ⟨rfl, rfl, ⟨_, hD, rfl⟩, rfl⟩
set_option maxRecDepth 4000 in
set_option maxHeartbeats 4000000 in
theorem m_siB {n : Nat} {sh : mS} {G : mG} {I : mI} {J : mJ} (hz : Zo n I J G) (hn9 : n + 2 ≤ 1000) {x : Nat} (hx : x < n) (sx : sh x = .inl (1, 4)) (hc : I x 1 = 0) {a cap cnt : Nat} (ha : a < n) (sa : sh a = .inr (1, cap)) (hv : G x 0 = some a) (hn : I x 3 = nI cnt) (hcc : cnt ≤ cap) (hc9 : cap ≤ 900) {v : Nat} (hv6 : v < 65536) (hnx : n + 8 ≤ 1000) {m : Nat} (hq : cap < cnt + dg v) (hm : m = cap + max (cnt + dg v - cap) (cap + 2)) (hm9 : m ≤ 900) (hq9 : cnt + dg v ≤ 900) (sn : sh n = .inr (1, m)) (hf : ∀ j, j < cap → fits .byte (.int (I a j)) = true) : Sm yJ4_append_bf812 cJ4_append_bf812 2 (some (FieldType.object "java/lang/StringBuilder")) 6 190 2 1800 [.ref x, .int (nI v)] n (n + 1) sh G I J (fun r_ G_ I_ J_ => some (.ref x) = r_ ∧ upG G x 0 n = G_ ∧ (∃ I2, DgW (cpf I (I a) n 0 0 cap) I2 n cnt v ∧ up2 I2 x 3 (nI (cnt + dg v)) = I_) ∧ J = J_) := by
  refine Sm.of (by decide) (ls := [(0, .ref x), (1, .int (nI v))]) (fun _ => rfl) (fun _ => Nat.le_of_ble_eq_true rfl) ?_
  refine gc_p (p_aload_n 0 (dk_at ktJ4_append_bf812_0 0 rfl) rfl rfl (b := 1) rfl) ?_
  refine gc_p (p_iload_n 1 (dk_at ktJ4_append_bf812_0 1 rfl) rfl rfl (b := 2) rfl) ?_
  refine h_callSU (As' := [.int (nI v)]) (rest := []) (n1 := (n + 1)) (m_aiB hz hn9 hx sx hc ha sa hv hn hcc hc9 hv6 hnx hq hm hm9 hq9 sn hf) (by omega) cs_J4_53 rfl (by omega) sx (dk_at ktJ4_append_bf812_0 2 rfl) rfl rfl (by decide) ⟨by decide, Nat.le_of_ble_eq_true rfl⟩ okN (by exact (okCl (okVr (by omega)) (okCl okVi okNl))) (b := 5) rfl (kc' := 0) (ks' := 0) (Nat.le_of_ble_eq_true rfl) (Nat.le_of_ble_eq_true rfl) (fun rr0 G0_ I0_ J0_ hq0 hz0 => ?_)
  obtain ⟨rfl, rfl, ⟨I2, hD, rfl⟩, rfl⟩ := hq0
  refine gc_p (p_pop (dk_at ktJ4_append_bf812_0 3 rfl) rfl (b := 6) rfl) ?_
  refine gc_p (p_aload_n 0 (dk_at ktJ4_append_bf812_0 4 rfl) rfl rfl (b := 7) rfl) ?_
  refine h_aret (by first | exact Or.inl ⟨_, rfl⟩ | exact Or.inr ⟨_, rfl⟩) (dk_at ktJ4_append_bf812_0 5 rfl) ?_ hz0
  exact ⟨rfl, rfl, ⟨_, hD, rfl⟩, rfl⟩

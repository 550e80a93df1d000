/-! THE JDK'S TEXTS: a text grows by one of the law's own -/
theorem okVc {n k : Nat} (h : 1000 ≤ k) : okV n (.ref k) := Or.inr h
theorem shl_0 {x : Int32} : x <<< ((0 : Int32) &&& 31) = x := by
  rw [show (0 : Int32) &&& 31 = 0 by decide]
  exact Int32.shiftLeft_zero
theorem lnc {a b : Nat} (ha : a < 2 ^ 31) (hb : b < 2 ^ 31) : (if nI a < nI b then nI b else nI a) = nI (max a b) := nmax ha hb

set_option maxRecDepth 4000 in
set_option maxHeartbeats 4000000 in
theorem m_isLat {n : Nat} {sh : mS} {G : mG} {I : mI} {J : mJ} (hz : Zo n I J G) (hn9 : n + 2 ≤ 1000) {x : Nat} (hx : x < n) (sx : sh x = .inl (1, 4)) (hc : I x 1 = 0) : Sm yJ5_isLatin1_aae02 cJ5_isLatin1_aae02 1 (some FieldType.boolean) 1 48 0 0 [.ref x] n n sh G I J (fun r_ G_ I_ J_ => some (.int 1) = r_ ∧ G = G_ ∧ I = I_ ∧ J = J_) := by
  refine Sm.of (by decide) (ls := [(0, .ref x)]) (fun _ => rfl) (fun _ => Nat.le_of_ble_eq_true rfl) ?_
  refine g_gcmp fg_J5_18 (dk_at ktJ5_isLatin1_aae02_0 0 rfl) (b := 3) rfl ?_
  refine g_if_eq (dk_at ktJ5_isLatin1_aae02_0 1 rfl) (b := 17) (by decide) (b2 := 6) rfl (fun c3 => ?_) (fun c3 => ?_)
  · first | exact absurd c3 (by decide) | exact absurd (by decide) c3
  · skip
    refine gc_p (p_aload_n 0 (dk_at ktJ5_isLatin1_aae02_0 2 rfl) rfl rfl (b := 7) rfl) ?_
    refine g_geti2 f2_J5_22 rfl hx sx (dk_at ktJ5_isLatin1_aae02_0 3 rfl) (v := 0) hc (b := 10) rfl ?_
    refine g_if_ne (dk_at ktJ5_isLatin1_aae02_0 4 rfl) (b := 17) (by decide) (b2 := 13) rfl (fun c10 => ?_) (fun c10 => ?_)
    · first | exact absurd c10 (by decide) | exact absurd (by decide) c10
    · skip
      refine gc_p (p_iconst (v := 1) (dk_at ktJ5_isLatin1_aae02_0 5 rfl) (by decide) (b := 14) rfl) ?_
      refine gc_p (p_goto (b := 18) (dk_at ktJ5_isLatin1_aae02_0 6 rfl) (by decide)) ?_
      refine h_iret (by first | rfl | decide) (dk_at ktJ5_isLatin1_aae02_0 8 rfl) ?_ hz
      exact ⟨rfl, rfl, rfl, rfl⟩
set_option maxRecDepth 4000 in
set_option maxHeartbeats 4000000 in
theorem m_newLen {n : Nat} {sh : mS} {G : mG} {I : mI} {J : mJ} (hz : Zo n I J G) (hn9 : n + 2 ≤ 1000) (c p q : Nat) (hb : c + max p q < 2000000000) (h0 : 0 < c + max p q) : Sm yJ8_newLength_cabcc cJ8_newLength_cabcc 4 (some FieldType.int) 2 76 0 0 [.int (nI c), .int (nI p), .int (nI q)] n n sh G I J (fun r_ G_ I_ J_ => some (.int (nI (c + max p q))) = r_ ∧ G = G_ ∧ I = I_ ∧ J = J_) := by
  refine Sm.of (by decide) (ls := [(0, .int (nI c)), (1, .int (nI p)), (2, .int (nI q))]) (fun _ => rfl) (fun _ => Nat.le_of_ble_eq_true rfl) ?_
  refine gc_p (p_iload_n 0 (dk_at ktJ8_newLength_cabcc_0 0 rfl) rfl rfl (b := 1) rfl) ?_
  refine gc_p (p_iload_n 1 (dk_at ktJ8_newLength_cabcc_0 1 rfl) rfl rfl (b := 2) rfl) ?_
  refine gc_p (p_iload_n 2 (dk_at ktJ8_newLength_cabcc_0 2 rfl) rfl rfl (b := 3) rfl) ?_
  refine g_mmax (v := nI (max p q)) qm_J8_194 (dk_at ktJ8_newLength_cabcc_0 3 rfl) ⟨by decide, Nat.le_of_ble_eq_true rfl⟩ (lnc (by omega) (by omega)) (b := 6) rfl ?_
  refine gc_p (p_iadd (v := (nI (c + (max p q)))) (dk_at ktJ8_newLength_cabcc_0 4 rfl) (nI_add c (max p q)) (b := 7) rfl) ?_
  refine gc_p (p_istore_n (ls' := [(3, .int (nI (c + (max p q)))), (0, .int (nI c)), (1, .int (nI p)), (2, .int (nI q))]) (dk_at ktJ8_newLength_cabcc_0 5 rfl) rfl (by decide) rfl (b := 8) rfl) ?_
  refine gc_p (p_iconst (v := 0) (dk_at ktJ8_newLength_cabcc_0 6 rfl) (by decide) (b := 9) rfl) ?_
  refine gc_p (p_iload_n 0 (dk_at ktJ8_newLength_cabcc_0 7 rfl) rfl rfl (b := 10) rfl) ?_
  refine g_icmp_ge (dk_at ktJ8_newLength_cabcc_0 8 rfl) (b := 21) (by decide) (b2 := 13) rfl (fun c10 => ?_) (fun c10 => ?_)
  · have c10 : (c + (max p q)) ≤ 0 := (nI_leI (a := c + (max p q)) (b := 0) (by omega) (by omega)).mp c10
    exfalso; omega
  · have c10 : ¬ (c + (max p q)) ≤ 0 := fun h => c10 ((nI_leI (a := c + (max p q)) (b := 0) (by omega) (by omega)).mpr h)
    refine gc_p (p_iload_n 0 (dk_at ktJ8_newLength_cabcc_0 9 rfl) rfl rfl (b := 14) rfl) ?_
    refine gc_p (p_ldc (v := 2147483639) qk_jdk_internal_util_ArraysSupport_200 (dk_at ktJ8_newLength_cabcc_0 10 rfl) (b := 16) rfl) ?_
    refine g_icmp_gt (dk_at ktJ8_newLength_cabcc_0 11 rfl) (b := 21) (by decide) (b2 := 19) rfl (fun c16 => ?_) (fun c16 => ?_)
    · have c16 : 2147483639 < (c + (max p q)) := (nI_ltI (a := 2147483639) (b := c + (max p q)) (by omega) (by omega)).mp c16
      exfalso; omega
    · have c16 : ¬ 2147483639 < (c + (max p q)) := fun h => c16 ((nI_ltI (a := 2147483639) (b := c + (max p q)) (by omega) (by omega)).mpr h)
      refine gc_p (p_iload_n 0 (dk_at ktJ8_newLength_cabcc_0 12 rfl) rfl rfl (b := 20) rfl) ?_
      refine h_iret (by first | rfl | decide) (dk_at ktJ8_newLength_cabcc_0 13 rfl) ?_ hz
      exact ⟨rfl, rfl, rfl, rfl⟩
set_option maxRecDepth 4000 in
set_option maxHeartbeats 4000000 in
theorem m_newCap {n : Nat} {sh : mS} {G : mG} {I : mI} {J : mJ} (hz : Zo n I J G) (hn9 : n + 2 ≤ 1000) {x : Nat} (hx : x < n) (sx : sh x = .inl (1, 4)) (hc : I x 1 = 0) {a cap cnt : Nat} (ha : a < n) (sa : sh a = .inr (1, cap)) (hv : G x 0 = some a) (hn : I x 3 = nI cnt) (hcc : cnt ≤ cap) (hc9 : cap ≤ 900) (q : Nat) (hq : cap < q) (hq9 : q ≤ 900) : Sm yJ5_newCapacity_0f7a4 cJ5_newCapacity_0f7a4 6 (some FieldType.int) 3 105 0 0 [.ref x, .int (nI q)] n n sh G I J (fun r_ G_ I_ J_ => some (.int (nI (cap + max (q - cap) (cap + 2)))) = r_ ∧ G = G_ ∧ I = I_ ∧ J = J_) := by
  refine Sm.of (by decide) (ls := [(0, .ref x), (1, .int (nI q))]) (fun _ => rfl) (fun _ => Nat.le_of_ble_eq_true rfl) ?_
  refine gc_p (p_aload_n 0 (dk_at ktJ5_newCapacity_0f7a4_0 0 rfl) rfl rfl (b := 1) rfl) ?_
  refine g_geta2 f2_J5_15 rfl hx sx (dk_at ktJ5_newCapacity_0f7a4_0 1 rfl) hv (b := 4) rfl ?_
  refine g_balen ha sa (dk_at ktJ5_newCapacity_0f7a4_0 2 rfl) (b := 5) rfl ?_
  refine gc_p (p_istore_n (ls' := [(2, .int (nI cap)), (0, .ref x), (1, .int (nI q))]) (dk_at ktJ5_newCapacity_0f7a4_0 3 rfl) rfl (by decide) rfl (b := 6) rfl) ?_
  refine gc_p (p_iload_n 2 (dk_at ktJ5_newCapacity_0f7a4_0 4 rfl) rfl rfl (b := 7) rfl) ?_
  refine gc_p (p_aload_n 1 (dk_at ktJ5_newCapacity_0f7a4_0 5 rfl) rfl rfl (b := 8) rfl) ?_
  refine g_geti2 f2_J5_22 rfl hx sx (dk_at ktJ5_newCapacity_0f7a4_0 6 rfl) (v := 0) hc (b := 11) rfl ?_
  refine gc_p (p_ishl (v := (nI q)) (dk_at ktJ5_newCapacity_0f7a4_0 7 rfl) shl_0 (b := 12) rfl) ?_
  refine gc_p (p_istore_n (ls' := [(3, .int (nI q)), (2, .int (nI cap)), (0, .ref x), (1, .int (nI q))]) (dk_at ktJ5_newCapacity_0f7a4_0 8 rfl) rfl (by decide) rfl (b := 13) rfl) ?_
  refine gc_p (p_iload_n 0 (dk_at ktJ5_newCapacity_0f7a4_0 9 rfl) rfl rfl (b := 14) rfl) ?_
  refine gc_p (p_iload_n 1 (dk_at ktJ5_newCapacity_0f7a4_0 10 rfl) rfl rfl (b := 15) rfl) ?_
  refine gc_p (p_isub (v := (nI (q - cap))) (dk_at ktJ5_newCapacity_0f7a4_0 11 rfl) (pk_sub (by omega)) (b := 16) rfl) ?_
  refine gc_p (p_istore (ls' := [(4, .int (nI (q - cap))), (3, .int (nI q)), (2, .int (nI cap)), (0, .ref x), (1, .int (nI q))]) (dk_at ktJ5_newCapacity_0f7a4_0 12 rfl) (by decide) rfl (b := 18) rfl) ?_
  refine gc_p (p_iload_n 2 (dk_at ktJ5_newCapacity_0f7a4_0 13 rfl) rfl rfl (b := 19) rfl) ?_
  refine gc_p (p_iload 0 (dk_at ktJ5_newCapacity_0f7a4_0 14 rfl) rfl (b := 21) rfl) ?_
  refine gc_p (p_iload_n 2 (dk_at ktJ5_newCapacity_0f7a4_0 15 rfl) rfl rfl (b := 22) rfl) ?_
  refine gc_p (p_iconst (v := 2) (dk_at ktJ5_newCapacity_0f7a4_0 16 rfl) (by decide) (b := 23) rfl) ?_
  refine gc_p (p_aload_n 3 (dk_at ktJ5_newCapacity_0f7a4_0 17 rfl) rfl rfl (b := 24) rfl) ?_
  refine g_geti2 f2_J5_22 rfl hx sx (dk_at ktJ5_newCapacity_0f7a4_0 18 rfl) (v := 0) hc (b := 27) rfl ?_
  refine gc_p (p_ishl (v := 2) (dk_at ktJ5_newCapacity_0f7a4_0 19 rfl) shl_0 (b := 28) rfl) ?_
  refine gc_p (p_iadd (v := (nI (cap + 2))) (dk_at ktJ5_newCapacity_0f7a4_0 20 rfl) (nI_add cap 2) (b := 29) rfl) ?_
  refine h_callS (As := [.int (nI cap), .int (nI (q - cap)), .int (nI (cap + 2))]) (rest := []) (n1 := n) (m_newLen hz hn9 cap (q - cap) (cap + 2) (by omega) (by omega)) (by omega) cw_J5_114 qs_J8_newLength_cabcc (dk_at ktJ5_newCapacity_0f7a4_0 21 rfl) rfl rfl (by decide) ⟨by decide, Nat.le_of_ble_eq_true rfl⟩ okN (by exact (okCl okVi (okCl okVi (okCl okVi (okCl (okVr (by omega)) (okCl okVi okNl)))))) (b := 32) rfl (kc' := 0) (ks' := 0) (Nat.le_of_ble_eq_true rfl) (Nat.le_of_ble_eq_true rfl) (fun rr0 G0_ I0_ J0_ hq0 hz0 => ?_)
  obtain ⟨rfl, rfl, rfl, rfl⟩ := hq0
  refine gc_p (p_istore (ls' := [(5, .int (nI (cap + max (q - cap) (cap + 2)))), (4, .int (nI (q - cap))), (3, .int (nI q)), (2, .int (nI cap)), (0, .ref x), (1, .int (nI q))]) (dk_at ktJ5_newCapacity_0f7a4_0 22 rfl) (by decide) rfl (b := 34) rfl) ?_
  refine gc_p (p_iload 0 (dk_at ktJ5_newCapacity_0f7a4_0 23 rfl) rfl (b := 36) rfl) ?_
  refine gc_p (p_ldc (v := 2147483647) qk_java_lang_AbstractStringBuilder_39 (dk_at ktJ5_newCapacity_0f7a4_0 24 rfl) (b := 38) rfl) ?_
  refine g_icmp_ne (dk_at ktJ5_newCapacity_0f7a4_0 25 rfl) (b := 51) (by decide) (b2 := 41) rfl (fun c38 => ?_) (fun c38 => ?_)
  · have c38 : ¬ (cap + max (q - cap) (cap + 2)) = 2147483647 := fun h => c38 ((nI_eq (a := cap + max (q - cap) (cap + 2)) (b := 2147483647) (by omega) (by omega)).mpr h)
    refine gc_p (p_iload 0 (dk_at ktJ5_newCapacity_0f7a4_0 31 rfl) rfl (b := 53) rfl) ?_
    refine gc_p (p_aload_n 4 (dk_at ktJ5_newCapacity_0f7a4_0 32 rfl) rfl rfl (b := 54) rfl) ?_
    refine g_geti2 f2_J5_22 rfl hx sx (dk_at ktJ5_newCapacity_0f7a4_0 33 rfl) (v := 0) hc (b := 57) rfl ?_
    refine gc_p (p_ishr (v := (nI (cap + max (q - cap) (cap + 2)))) (dk_at ktJ5_newCapacity_0f7a4_0 34 rfl) sh_0 (b := 58) rfl) ?_
    refine h_iret (by first | rfl | decide) (dk_at ktJ5_newCapacity_0f7a4_0 35 rfl) ?_ hz0
    exact ⟨rfl, rfl, rfl, rfl⟩
  · have c38 : (cap + max (q - cap) (cap + 2)) = 2147483647 := (nI_eq (a := cap + max (q - cap) (cap + 2)) (b := 2147483647) (by omega) (by omega)).mp c38
    exfalso; omega
set_option maxRecDepth 4000 in
set_option maxHeartbeats 4000000 in
theorem m_copyOf {n : Nat} {sh : mS} {G : mG} {I : mI} {J : mJ} (hz : Zo n I J G) (hn9 : n + 2 ≤ 1000) {a cap m : Nat} (ha : a < n) (sa : sh a = .inr (1, cap)) (hm : cap < m) (hm9 : m ≤ 900) (sn : sh n = .inr (1, m)) (hf : ∀ j, j < cap → fits .byte (.int (I a j)) = true) : Sm yJ7_copyOf_9075b cJ7_copyOf_9075b 3 (some (FieldType.array FieldType.byte)) 2 96 1 900 [.ref a, .int (nI m)] n (n + 1) sh G I J (fun r_ G_ I_ J_ => some (.ref n) = r_ ∧ G = G_ ∧ cpf I (I a) n 0 0 cap = I_ ∧ J = J_) := by
  refine Sm.of (by decide) (ls := [(0, .ref a), (1, .int (nI m))]) (fun _ => rfl) (fun _ => Nat.le_of_ble_eq_true rfl) ?_
  refine gc_p (p_iload_n 1 (dk_at ktJ7_copyOf_9075b_0 0 rfl) rfl rfl (b := 1) rfl) ?_
  refine gc_p (p_aload_n 0 (dk_at ktJ7_copyOf_9075b_0 1 rfl) rfl rfl (b := 2) rfl) ?_
  refine g_balen (by omega) sa (dk_at ktJ7_copyOf_9075b_0 2 rfl) (b := 3) rfl ?_
  refine g_icmp_ne (dk_at ktJ7_copyOf_9075b_0 3 rfl) (b := 14) (by decide) (b2 := 6) rfl (fun c3 => ?_) (fun c3 => ?_)
  · have c3 : ¬ m = cap := fun h => c3 ((nI_eq (a := m) (b := cap) (by omega) (by omega)).mpr h)
    refine gc_p (p_iload_n 1 (dk_at ktJ7_copyOf_9075b_0 8 rfl) rfl rfl (b := 15) rfl) ?_
    refine g_newi (atype := .byte) (t := 1) (len := m) hz (by omega) (by omega) sn (by omega) (Or.inr (Or.inl ⟨rfl, rfl⟩)) qac_byt okN (by exact (okCl (okVr (by omega)) (okCl okVi okNl))) (kc' := 0) (ks' := 0) (by omega) (by omega) (dk_at ktJ7_copyOf_9075b_0 9 rfl) (b := 17) rfl ?_
    refine gc_p (p_astore_n (ls' := [(2, .ref n), (0, .ref a), (1, .int (nI m))]) (dk_at ktJ7_copyOf_9075b_0 10 rfl) rfl (by decide) rfl (b := 18) rfl) ?_
    refine gc_p (p_aload_n 1 (dk_at ktJ7_copyOf_9075b_0 11 rfl) rfl rfl (b := 19) rfl) ?_
    refine gc_p (p_iconst (v := 0) (dk_at ktJ7_copyOf_9075b_0 12 rfl) (by decide) (b := 20) rfl) ?_
    refine gc_p (p_aload_n 0 (dk_at ktJ7_copyOf_9075b_0 13 rfl) rfl rfl (b := 21) rfl) ?_
    refine gc_p (p_iconst (v := 0) (dk_at ktJ7_copyOf_9075b_0 14 rfl) (by decide) (b := 22) rfl) ?_
    refine gc_p (p_aload_n 1 (dk_at ktJ7_copyOf_9075b_0 15 rfl) rfl rfl (b := 23) rfl) ?_
    refine g_balen (by omega) sa (dk_at ktJ7_copyOf_9075b_0 16 rfl) (b := 24) rfl ?_
    refine gc_p (p_iload_n 2 (dk_at ktJ7_copyOf_9075b_0 17 rfl) rfl rfl (b := 25) rfl) ?_
    refine g_mmin (v := nI cap) qm_J7_304 (dk_at ktJ7_copyOf_9075b_0 18 rfl) ⟨by decide, Nat.le_of_ble_eq_true rfl⟩ (by rw [nmin (by omega) (by omega), Nat.min_eq_left (by omega)]) (b := 28) rfl ?_
    refine g_copy (N := cap) (sp := 0) (dp := 0) qm_J7_150 qn_java_lang_System (by omega) sa (by omega) sn ⟨by omega, by omega, by omega, by omega⟩ (fun j hj => by rw [Nat.zero_add]; exact hf j hj) rfl rfl rfl ⟨by decide, Nat.le_of_ble_eq_true rfl⟩ (dk_at ktJ7_copyOf_9075b_0 19 rfl) (b := 31) rfl ?_
    refine gc_p (p_aload_n 0 (dk_at ktJ7_copyOf_9075b_0 20 rfl) rfl rfl (b := 32) rfl) ?_
    refine h_aret (by first | exact Or.inl ⟨_, rfl⟩ | exact Or.inr ⟨_, rfl⟩) (dk_at ktJ7_copyOf_9075b_0 21 rfl) ?_ ((hz.up (Nat.le_succ n)).of (fun id h => cpf_off (by omega)))
    exact ⟨rfl, rfl, rfl, rfl⟩
  · have c3 : m = cap := (nI_eq (a := m) (b := cap) (by omega) (by omega)).mp c3
    exfalso; omega
theorem sub_le {a b : Nat} (ha : a < 2 ^ 30) (hb : b < 2 ^ 30) (h : a ≤ b) : nI a - nI b ≤ 0 := by
  rw [Int32.le_iff_toInt_le, pk_sub_toInt ha hb, Int32.toInt_zero]
  omega
set_option maxRecDepth 4000 in
set_option maxHeartbeats 4000000 in
theorem m_ensA {n : Nat} {sh : mS} {G : mG} {I : mI} {J : mJ} (hz : Zo n I J G) (hn9 : n + 2 ≤ 1000) {x : Nat} (hx : x < n) (sx : sh x = .inl (1, 4)) (hc : I x 1 = 0) {a cap cnt : Nat} (ha : a < n) (sa : sh a = .inr (1, cap)) (hv : G x 0 = some a) (hn : I x 3 = nI cnt) (hcc : cnt ≤ cap) (hc9 : cap ≤ 900) (q : Nat) (hq : q ≤ cap) : Sm yJ5_ensureCapacityInternal_d00df cJ5_ensureCapacityInternal_d00df 3 none 4 135 1 900 [.ref x, .int (nI q)] n n sh G I J (fun r_ G_ I_ J_ => none = r_ ∧ G = G_ ∧ I = I_ ∧ J = J_) := by
  refine Sm.of (by decide) (ls := [(0, .ref x), (1, .int (nI q))]) (fun _ => rfl) (fun _ => Nat.le_of_ble_eq_true rfl) ?_
  refine gc_p (p_aload_n 0 (dk_at ktJ5_ensureCapacityInternal_d00df_0 0 rfl) rfl rfl (b := 1) rfl) ?_
  refine g_geta2 f2_J5_15 rfl hx sx (dk_at ktJ5_ensureCapacityInternal_d00df_0 1 rfl) hv (b := 4) rfl ?_
  refine g_balen ha sa (dk_at ktJ5_ensureCapacityInternal_d00df_0 2 rfl) (b := 5) rfl ?_
  refine gc_p (p_aload_n 0 (dk_at ktJ5_ensureCapacityInternal_d00df_0 3 rfl) rfl rfl (b := 6) rfl) ?_
  refine g_geti2 f2_J5_22 rfl hx sx (dk_at ktJ5_ensureCapacityInternal_d00df_0 4 rfl) (v := 0) hc (b := 9) rfl ?_
  refine gc_p (p_ishr (v := (nI cap)) (dk_at ktJ5_ensureCapacityInternal_d00df_0 5 rfl) sh_0 (b := 10) rfl) ?_
  refine gc_p (p_istore_n (ls' := [(2, .int (nI cap)), (0, .ref x), (1, .int (nI q))]) (dk_at ktJ5_ensureCapacityInternal_d00df_0 6 rfl) rfl (by decide) rfl (b := 11) rfl) ?_
  refine gc_p (p_iload_n 2 (dk_at ktJ5_ensureCapacityInternal_d00df_0 7 rfl) rfl rfl (b := 12) rfl) ?_
  refine gc_p (p_iload_n 0 (dk_at ktJ5_ensureCapacityInternal_d00df_0 8 rfl) rfl rfl (b := 13) rfl) ?_
  refine gc_p (p_isub (v := (nI q - nI cap)) (dk_at ktJ5_ensureCapacityInternal_d00df_0 9 rfl) rfl (b := 14) rfl) ?_
  refine g_if_le (dk_at ktJ5_ensureCapacityInternal_d00df_0 10 rfl) (b := 38) (by decide) (b2 := 17) rfl (fun c14 => ?_) (fun c14 => ?_)
  · skip
    refine h_vret (dk_at ktJ5_ensureCapacityInternal_d00df_0 22 rfl) ?_ hz
    exact ⟨rfl, rfl, rfl, rfl⟩
  · skip
    exact absurd (sub_le (by omega) (by omega) hq) c14
set_option maxRecDepth 4000 in
set_option maxHeartbeats 4000000 in
theorem m_ensB {n : Nat} {sh : mS} {G : mG} {I : mI} {J : mJ} (hz : Zo n I J G) (hn9 : n + 2 ≤ 1000) {x : Nat} (hx : x < n) (sx : sh x = .inl (1, 4)) (hc : I x 1 = 0) {a cap cnt : Nat} (ha : a < n) (sa : sh a = .inr (1, cap)) (hv : G x 0 = some a) (hn : I x 3 = nI cnt) (hcc : cnt ≤ cap) (hc9 : cap ≤ 900) (q : Nat) (hq : cap < q) (hq9 : q ≤ 900) (hm9 : cap + max (q - cap) (cap + 2) ≤ 900) (sn : sh n = .inr (1, cap + max (q - cap) (cap + 2))) (hf : ∀ j, j < cap → fits .byte (.int (I a j)) = true) : Sm yJ5_ensureCapacityInternal_d00df cJ5_ensureCapacityInternal_d00df 3 none 4 135 1 900 [.ref x, .int (nI q)] n (n + 1) sh G I J (fun r_ G_ I_ J_ => none = r_ ∧ upG G x 0 n = G_ ∧ cpf I (I a) n 0 0 cap = I_ ∧ J = J_) := by
  refine Sm.of (by decide) (ls := [(0, .ref x), (1, .int (nI q))]) (fun _ => rfl) (fun _ => Nat.le_of_ble_eq_true rfl) ?_
  refine gc_p (p_aload_n 0 (dk_at ktJ5_ensureCapacityInternal_d00df_0 0 rfl) rfl rfl (b := 1) rfl) ?_
  refine g_geta2 f2_J5_15 rfl (by omega) sx (dk_at ktJ5_ensureCapacityInternal_d00df_0 1 rfl) hv (b := 4) rfl ?_
  refine g_balen ha sa (dk_at ktJ5_ensureCapacityInternal_d00df_0 2 rfl) (b := 5) rfl ?_
  refine gc_p (p_aload_n 0 (dk_at ktJ5_ensureCapacityInternal_d00df_0 3 rfl) rfl rfl (b := 6) rfl) ?_
  refine g_geti2 f2_J5_22 rfl (by omega) sx (dk_at ktJ5_ensureCapacityInternal_d00df_0 4 rfl) (v := 0) hc (b := 9) rfl ?_
  refine gc_p (p_ishr (v := (nI cap)) (dk_at ktJ5_ensureCapacityInternal_d00df_0 5 rfl) sh_0 (b := 10) rfl) ?_
  refine gc_p (p_istore_n (ls' := [(2, .int (nI cap)), (0, .ref x), (1, .int (nI q))]) (dk_at ktJ5_ensureCapacityInternal_d00df_0 6 rfl) rfl (by decide) rfl (b := 11) rfl) ?_
  refine gc_p (p_iload_n 2 (dk_at ktJ5_ensureCapacityInternal_d00df_0 7 rfl) rfl rfl (b := 12) rfl) ?_
  refine gc_p (p_iload_n 0 (dk_at ktJ5_ensureCapacityInternal_d00df_0 8 rfl) rfl rfl (b := 13) rfl) ?_
  refine gc_p (p_isub (v := (nI (q - cap))) (dk_at ktJ5_ensureCapacityInternal_d00df_0 9 rfl) (pk_sub (by omega)) (b := 14) rfl) ?_
  refine g_if_le (dk_at ktJ5_ensureCapacityInternal_d00df_0 10 rfl) (b := 38) (by decide) (b2 := 17) rfl (fun c14 => ?_) (fun c14 => ?_)
  · have c14 : (q - cap) ≤ 0 := (nI_leI (a := q - cap) (b := 0) (by omega) (by omega)).mp c14
    exfalso; omega
  · have c14 : ¬ (q - cap) ≤ 0 := fun h => c14 ((nI_leI (a := q - cap) (b := 0) (by omega) (by omega)).mpr h)
    refine gc_p (p_aload_n 1 (dk_at ktJ5_ensureCapacityInternal_d00df_0 11 rfl) rfl rfl (b := 18) rfl) ?_
    refine gc_p (p_aload_n 1 (dk_at ktJ5_ensureCapacityInternal_d00df_0 12 rfl) rfl rfl (b := 19) rfl) ?_
    refine g_geta2 f2_J5_15 rfl (by omega) sx (dk_at ktJ5_ensureCapacityInternal_d00df_0 13 rfl) hv (b := 22) rfl ?_
    refine gc_p (p_aload_n 1 (dk_at ktJ5_ensureCapacityInternal_d00df_0 14 rfl) rfl rfl (b := 23) rfl) ?_
    refine gc_p (p_iload_n 2 (dk_at ktJ5_ensureCapacityInternal_d00df_0 15 rfl) rfl rfl (b := 24) rfl) ?_
    refine h_callV (As' := [.int (nI q)]) (rest := [.ref a, .ref x]) (n1 := n) (m_newCap hz hn9 hx sx hc ha sa hv hn hcc hc9 q hq hq9) (by omega) cw_J5_104 qi_J5_newCapacity_0f7a4 (sel_ac sv_J5_newCapacity_0f7a4) rfl (by omega) sx (dk_at ktJ5_ensureCapacityInternal_d00df_0 16 rfl) rfl rfl (Nat.le_of_ble_eq_true rfl) ⟨by decide, Nat.le_of_ble_eq_true rfl⟩ (by exact (okC (okVr (by omega)) (okC (okVr (by omega)) okN))) (by exact (okCl okVi (okCl (okVr (by omega)) (okCl okVi okNl)))) (b := 27) rfl (kc' := 1) (ks' := 900) (Nat.le_of_ble_eq_true rfl) (Nat.le_of_ble_eq_true rfl) (fun rr0 G0_ I0_ J0_ hq0 hz0 => ?_)
    obtain ⟨rfl, rfl, rfl, rfl⟩ := hq0
    refine gc_p (p_aload_n 1 (dk_at ktJ5_ensureCapacityInternal_d00df_0 17 rfl) rfl rfl (b := 28) rfl) ?_
    refine g_geti2 f2_J5_22 rfl (by omega) sx (dk_at ktJ5_ensureCapacityInternal_d00df_0 18 rfl) (v := 0) hc (b := 31) rfl ?_
    refine gc_p (p_ishl (v := (nI (cap + max (q - cap) (cap + 2)))) (dk_at ktJ5_ensureCapacityInternal_d00df_0 19 rfl) shl_0 (b := 32) rfl) ?_
    refine h_callS (As := [.ref a, .int (nI (cap + max (q - cap) (cap + 2)))]) (rest := [.ref x]) (n1 := (n + 1)) (m_copyOf hz hn9 ha sa (by omega) hm9 sn hf) (by omega) cw_J5_108 qs_J7_copyOf_9075b (dk_at ktJ5_ensureCapacityInternal_d00df_0 20 rfl) rfl rfl (Nat.le_of_ble_eq_true rfl) ⟨by decide, Nat.le_of_ble_eq_true rfl⟩ (by exact (okC (okVr (by omega)) okN)) (by exact (okCl okVi (okCl (okVr (by omega)) (okCl okVi okNl)))) (b := 35) rfl (kc' := 0) (ks' := 0) (Nat.le_of_ble_eq_true rfl) (Nat.le_of_ble_eq_true rfl) (fun rr1 G1_ I1_ J1_ hq1 hz1 => ?_)
    obtain ⟨rfl, rfl, rfl, rfl⟩ := hq1
    refine g_putR2 (id2 := n) f2_J5_15 fw_J4_0 rfl (by omega) sx (fun _ => rfl) (fun _ => rfl) (dk_at ktJ5_ensureCapacityInternal_d00df_0 21 rfl) (b := 38) rfl ?_
    refine h_vret (dk_at ktJ5_ensureCapacityInternal_d00df_0 22 rfl) ?_ (hz1.ug (by omega) (by omega))
    exact ⟨rfl, rfl, rfl, rfl⟩
set_option maxRecDepth 4000 in
set_option maxHeartbeats 4000000 in
theorem m_coder {n : Nat} {sh : mS} {G : mG} {I : mI} {J : mJ} (hz : Zo n I J G) (hn9 : n + 2 ≤ 1000) {i : Nat} (hi : i < 4) : Sm yJ0_coder_7d493 cJ0_coder_7d493 1 (some FieldType.byte) 1 48 0 0 [.ref (1010 + i)] n n sh G I J (fun r_ G_ I_ J_ => some (.int 0) = r_ ∧ G = G_ ∧ I = I_ ∧ J = J_) := by
  refine Sm.of (by decide) (ls := [(0, .ref (1010 + i))]) (fun _ => rfl) (fun _ => Nat.le_of_ble_eq_true rfl) ?_
  refine g_gcmp fg_J0_38 (dk_at ktJ0_coder_7d493_0 0 rfl) (b := 3) rfl ?_
  refine g_if_eq (dk_at ktJ0_coder_7d493_0 1 rfl) (b := 13) (by decide) (b2 := 6) rfl (fun c3 => ?_) (fun c3 => ?_)
  · first | exact absurd c3 (by decide) | exact absurd (by decide) c3
  · skip
    refine gc_p (p_aload_n 0 (dk_at ktJ0_coder_7d493_0 2 rfl) rfl rfl (b := 7) rfl) ?_
    refine g_ccod hi fc_J0_15 (dk_at ktJ0_coder_7d493_0 3 rfl) (b := 10) rfl ?_
    refine gc_p (p_goto (b := 14) (dk_at ktJ0_coder_7d493_0 4 rfl) (by decide)) ?_
    refine h_iret (by first | rfl | decide) (dk_at ktJ0_coder_7d493_0 6 rfl) ?_ hz
    exact ⟨rfl, rfl, rfl, rfl⟩
set_option maxRecDepth 4000 in
set_option maxHeartbeats 4000000 in
theorem m_clen {n : Nat} {sh : mS} {G : mG} {I : mI} {J : mJ} (hz : Zo n I J G) (hn9 : n + 2 ≤ 1000) {i : Nat} (hi : i < 4) : Sm yJ0_length_8abf5 cJ0_length_8abf5 1 (some FieldType.int) 2 76 0 0 [.ref (1010 + i)] n n sh G I J (fun r_ G_ I_ J_ => some (.int (nI (cW i))) = r_ ∧ G = G_ ∧ I = I_ ∧ J = J_) := by
  refine Sm.of (by decide) (ls := [(0, .ref (1010 + i))]) (fun _ => rfl) (fun _ => Nat.le_of_ble_eq_true rfl) ?_
  refine gc_p (p_aload_n 0 (dk_at ktJ0_length_8abf5_0 0 rfl) rfl rfl (b := 1) rfl) ?_
  refine g_cval hi fc_J0_9 (dk_at ktJ0_length_8abf5_0 1 rfl) (b := 4) rfl ?_
  refine g_clen hi (dk_at ktJ0_length_8abf5_0 2 rfl) (b := 5) rfl ?_
  refine gc_p (p_aload_n 0 (dk_at ktJ0_length_8abf5_0 3 rfl) rfl rfl (b := 6) rfl) ?_
  refine h_callC (As' := []) (rest := [.int (nI (cW i))]) (n1 := n) (m_coder hz hn9 hi) hi (by omega) cw_J0_335 qi_J0_coder_7d493 qv_J0_coder_7d493 (dk_at ktJ0_length_8abf5_0 4 rfl) rfl rfl (Nat.le_of_ble_eq_true rfl) ⟨by decide, Nat.le_of_ble_eq_true rfl⟩ (by exact (okC okVi okN)) (by exact (okCl (okVc (by omega)) okNl)) (b := 9) rfl (kc' := 0) (ks' := 0) (Nat.le_of_ble_eq_true rfl) (Nat.le_of_ble_eq_true rfl) (fun rr0 G0_ I0_ J0_ hq0 hz0 => ?_)
  obtain ⟨rfl, rfl, rfl, rfl⟩ := hq0
  refine gc_p (p_ishr (v := (nI (cW i))) (dk_at ktJ0_length_8abf5_0 5 rfl) sh_0 (b := 10) rfl) ?_
  refine h_iret (by first | rfl | decide) (dk_at ktJ0_length_8abf5_0 6 rfl) ?_ hz0
  exact ⟨rfl, rfl, rfl, rfl⟩
set_option maxRecDepth 4000 in
set_option maxHeartbeats 4000000 in
theorem m_infl {n : Nat} {sh : mS} {G : mG} {I : mI} {J : mJ} (hz : Zo n I J G) (hn9 : n + 2 ≤ 1000) {x : Nat} (hx : x < n) (sx : sh x = .inl (1, 4)) (hc : I x 1 = 0) {i : Nat} (hi : i < 4) : Sm yJ5_inflateIfNeededFor_a7421 cJ5_inflateIfNeededFor_a7421 2 none 2 76 0 0 [.ref x, .ref (1010 + i)] n n sh G I J (fun r_ G_ I_ J_ => none = r_ ∧ G = G_ ∧ I = I_ ∧ J = J_) := by
  refine Sm.of (by decide) (ls := [(0, .ref x), (1, .ref (1010 + i))]) (fun _ => rfl) (fun _ => Nat.le_of_ble_eq_true rfl) ?_
  refine g_gcmp fg_J5_18 (dk_at ktJ5_inflateIfNeededFor_a7421_0 0 rfl) (b := 3) rfl ?_
  refine g_if_eq (dk_at ktJ5_inflateIfNeededFor_a7421_0 1 rfl) (b := 21) (by decide) (b2 := 6) rfl (fun c3 => ?_) (fun c3 => ?_)
  · first | exact absurd c3 (by decide) | exact absurd (by decide) c3
  · skip
    refine gc_p (p_aload_n 0 (dk_at ktJ5_inflateIfNeededFor_a7421_0 2 rfl) rfl rfl (b := 7) rfl) ?_
    refine g_geti2 f2_J5_22 rfl hx sx (dk_at ktJ5_inflateIfNeededFor_a7421_0 3 rfl) (v := 0) hc (b := 10) rfl ?_
    refine gc_p (p_aload_n 1 (dk_at ktJ5_inflateIfNeededFor_a7421_0 4 rfl) rfl rfl (b := 11) rfl) ?_
    refine h_callC (As' := []) (rest := [.int 0]) (n1 := n) (m_coder hz hn9 hi) hi (by omega) cw_J5_40 qi_J0_coder_7d493 qv_J0_coder_7d493 (dk_at ktJ5_inflateIfNeededFor_a7421_0 5 rfl) rfl rfl (Nat.le_of_ble_eq_true rfl) ⟨by decide, Nat.le_of_ble_eq_true rfl⟩ (by exact (okC okVi okN)) (by exact (okCl (okVr (by omega)) (okCl (okVc (by omega)) okNl))) (b := 14) rfl (kc' := 0) (ks' := 0) (Nat.le_of_ble_eq_true rfl) (Nat.le_of_ble_eq_true rfl) (fun rr0 G0_ I0_ J0_ hq0 hz0 => ?_)
    obtain ⟨rfl, rfl, rfl, rfl⟩ := hq0
    refine g_icmp_eq (dk_at ktJ5_inflateIfNeededFor_a7421_0 6 rfl) (b := 21) (by decide) (b2 := 17) rfl (fun c14 => ?_) (fun c14 => ?_)
    · skip
      refine h_vret (dk_at ktJ5_inflateIfNeededFor_a7421_0 9 rfl) ?_ hz0
      exact ⟨rfl, rfl, rfl, rfl⟩
    · first | exact absurd c14 (by decide) | exact absurd (by decide) c14
set_option maxRecDepth 4000 in
set_option maxHeartbeats 4000000 in
theorem m_getB {n : Nat} {sh : mS} {G : mG} {I : mI} {J : mJ} (hz : Zo n I J G) (hn9 : n + 2 ≤ 1000) {a cap p : Nat} (ha : a < n) (sa : sh a = .inr (1, cap)) (hc9 : cap ≤ 900) {i : Nat} (hi : i < 4) (hp : p + cW i ≤ cap) : Sm yJ0_getBytes_840e7 cJ0_getBytes_840e7 4 none 2 96 0 0 [.ref (1010 + i), .ref a, .int (nI p), .int 0] n n sh G I J (fun r_ G_ I_ J_ => none = r_ ∧ G = G_ ∧ cpf I (cB i) a 0 p (cW i) = I_ ∧ J = J_) := by
  refine Sm.of (by decide) (ls := [(0, .ref (1010 + i)), (1, .ref a), (2, .int (nI p)), (3, .int 0)]) (fun _ => rfl) (fun _ => Nat.le_of_ble_eq_true rfl) ?_
  refine gc_p (p_aload_n 0 (dk_at ktJ0_getBytes_840e7_0 0 rfl) rfl rfl (b := 1) rfl) ?_
  refine h_callC (As' := []) (rest := []) (n1 := n) (m_coder hz hn9 hi) hi (by omega) cw_J0_335 qi_J0_coder_7d493 qv_J0_coder_7d493 (dk_at ktJ0_getBytes_840e7_0 1 rfl) rfl rfl (by decide) ⟨by decide, Nat.le_of_ble_eq_true rfl⟩ okN (by exact (okCl (okVc (by omega)) (okCl (okVr (by omega)) (okCl okVi (okCl okVi okNl))))) (b := 4) rfl (kc' := 0) (ks' := 0) (Nat.le_of_ble_eq_true rfl) (Nat.le_of_ble_eq_true rfl) (fun rr0 G0_ I0_ J0_ hq0 hz0 => ?_)
  obtain ⟨rfl, rfl, rfl, rfl⟩ := hq0
  refine gc_p (p_iload_n 3 (dk_at ktJ0_getBytes_840e7_0 2 rfl) rfl rfl (b := 5) rfl) ?_
  refine g_icmp_ne (dk_at ktJ0_getBytes_840e7_0 3 rfl) (b := 28) (by decide) (b2 := 8) rfl (fun c5 => ?_) (fun c5 => ?_)
  · first | exact absurd c5 (by decide) | exact absurd (by decide) c5
  · skip
    refine gc_p (p_aload_n 0 (dk_at ktJ0_getBytes_840e7_0 4 rfl) rfl rfl (b := 9) rfl) ?_
    refine g_cval hi fc_J0_9 (dk_at ktJ0_getBytes_840e7_0 5 rfl) (b := 12) rfl ?_
    refine gc_p (p_iconst (v := 0) (dk_at ktJ0_getBytes_840e7_0 6 rfl) (by decide) (b := 13) rfl) ?_
    refine gc_p (p_aload_n 1 (dk_at ktJ0_getBytes_840e7_0 7 rfl) rfl rfl (b := 14) rfl) ?_
    refine gc_p (p_iload_n 2 (dk_at ktJ0_getBytes_840e7_0 8 rfl) rfl rfl (b := 15) rfl) ?_
    refine gc_p (p_iload_n 3 (dk_at ktJ0_getBytes_840e7_0 9 rfl) rfl rfl (b := 16) rfl) ?_
    refine gc_p (p_ishl (v := (nI p)) (dk_at ktJ0_getBytes_840e7_0 10 rfl) shl_0 (b := 17) rfl) ?_
    refine gc_p (p_aload_n 0 (dk_at ktJ0_getBytes_840e7_0 11 rfl) rfl rfl (b := 18) rfl) ?_
    refine g_cval hi fc_J0_9 (dk_at ktJ0_getBytes_840e7_0 12 rfl) (b := 21) rfl ?_
    refine g_clen hi (dk_at ktJ0_getBytes_840e7_0 13 rfl) (b := 22) rfl ?_
    refine g_copyC (i := i) (dp := p) qm_J0_212 qn_java_lang_System hi ha sa ⟨by omega, by omega⟩ rfl rfl ⟨by decide, Nat.le_of_ble_eq_true rfl⟩ (dk_at ktJ0_getBytes_840e7_0 14 rfl) (b := 25) rfl ?_
    refine gc_p (p_goto (b := 43) (dk_at ktJ0_getBytes_840e7_0 15 rfl) (by decide)) ?_
    refine h_vret (dk_at ktJ0_getBytes_840e7_0 25 rfl) ?_ (hz0.of (fun id h => cpf_off (by omega)))
    exact ⟨rfl, rfl, rfl, rfl⟩
set_option maxRecDepth 4000 in
set_option maxHeartbeats 4000000 in
theorem m_putS {n : Nat} {sh : mS} {G : mG} {I : mI} {J : mJ} (hz : Zo n I J G) (hn9 : n + 2 ≤ 1000) {x : Nat} (hx : x < n) (sx : sh x = .inl (1, 4)) (hc : I x 1 = 0) {a cap cnt : Nat} (ha : a < n) (sa : sh a = .inr (1, cap)) (hv : G x 0 = some a) (hn : I x 3 = nI cnt) (hcc : cnt ≤ cap) (hc9 : cap ≤ 900) (p : Nat) {i : Nat} (hi : i < 4) (hp : p + cW i ≤ cap) : Sm yJ5_putStringAt_47b60 cJ5_putStringAt_47b60 3 none 3 130 0 0 [.ref x, .int (nI p), .ref (1010 + i)] n n sh G I J (fun r_ G_ I_ J_ => none = r_ ∧ G = G_ ∧ cpf I (cB i) a 0 p (cW i) = I_ ∧ J = J_) := by
  refine Sm.of (by decide) (ls := [(0, .ref x), (1, .int (nI p)), (2, .ref (1010 + i))]) (fun _ => rfl) (fun _ => Nat.le_of_ble_eq_true rfl) ?_
  refine gc_p (p_aload_n 0 (dk_at ktJ5_putStringAt_47b60_0 0 rfl) rfl rfl (b := 1) rfl) ?_
  refine gc_p (p_aload_n 2 (dk_at ktJ5_putStringAt_47b60_0 1 rfl) rfl rfl (b := 2) rfl) ?_
  refine h_callV (As' := [.ref (1010 + i)]) (rest := []) (n1 := n) (m_infl hz hn9 hx sx hc hi) (by omega) cw_J5_397 qi_J5_inflateIfNeededFor_a7421 (sel_ac sv_J5_inflateIfNeededFor_a7421) rfl hx sx (dk_at ktJ5_putStringAt_47b60_0 2 rfl) rfl rfl (by decide) ⟨by decide, Nat.le_of_ble_eq_true rfl⟩ okN (by exact (okCl (okVr (by omega)) (okCl okVi (okCl (okVc (by omega)) okNl)))) (b := 5) rfl (kc' := 0) (ks' := 0) (Nat.le_of_ble_eq_true rfl) (Nat.le_of_ble_eq_true rfl) (fun rr0 G0_ I0_ J0_ hq0 hz0 => ?_)
  obtain ⟨rfl, rfl, rfl, rfl⟩ := hq0
  refine gc_p (p_aload_n 2 (dk_at ktJ5_putStringAt_47b60_0 3 rfl) rfl rfl (b := 6) rfl) ?_
  refine gc_p (p_aload_n 0 (dk_at ktJ5_putStringAt_47b60_0 4 rfl) rfl rfl (b := 7) rfl) ?_
  refine g_geta2 f2_J5_15 rfl hx sx (dk_at ktJ5_putStringAt_47b60_0 5 rfl) hv (b := 10) rfl ?_
  refine gc_p (p_iload_n 1 (dk_at ktJ5_putStringAt_47b60_0 6 rfl) rfl rfl (b := 11) rfl) ?_
  refine gc_p (p_aload_n 0 (dk_at ktJ5_putStringAt_47b60_0 7 rfl) rfl rfl (b := 12) rfl) ?_
  refine g_geti2 f2_J5_22 rfl hx sx (dk_at ktJ5_putStringAt_47b60_0 8 rfl) (v := 0) hc (b := 15) rfl ?_
  refine h_callC (As' := [.ref a, .int (nI p), .int 0]) (rest := []) (n1 := n) (m_getB hz hn9 ha sa hc9 hi hp) hi (by omega) cw_J5_399 qi_J0_getBytes_840e7 qv_J0_getBytes_840e7 (dk_at ktJ5_putStringAt_47b60_0 9 rfl) rfl rfl (by decide) ⟨by decide, Nat.le_of_ble_eq_true rfl⟩ okN (by exact (okCl (okVr (by omega)) (okCl okVi (okCl (okVc (by omega)) okNl)))) (b := 18) rfl (kc' := 0) (ks' := 0) (Nat.le_of_ble_eq_true rfl) (Nat.le_of_ble_eq_true rfl) (fun rr1 G1_ I1_ J1_ hq1 hz1 => ?_)
  obtain ⟨rfl, rfl, rfl, rfl⟩ := hq1
  refine h_vret (dk_at ktJ5_putStringAt_47b60_0 10 rfl) ?_ hz1
  exact ⟨rfl, rfl, rfl, rfl⟩

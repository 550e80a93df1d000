/-! THE JDK'S TEXTS: append of a constant -/
section PN
variable {own : String} {cc : ByteArray} {nL pc b : Nat} {ls : List (Nat × Value)} {st : List Value}
theorem p_ineg {x v : Int32} (hd : decode cc pc = .ok (.ineg, 1)) (hv : -x = v) (hb : pc + 1 = b) : Pst own cc nL pc ls (.int x :: st) b ls (.int v :: st) := by
  intro p l e R s m args below meth c H locs cells slots la ad Q S hl k
  subst hb
  subst hv
  exact lv_ineg S.1 S.2.1 hd (k la hl)
theorem p_ifnn {x : Nat} {off : Int} (hd : decode cc pc = .ok (.ifnonnull off, 3)) (ht : (pc : Int) + off = (b : Int)) : Pst own cc nL pc ls (.ref x :: st) b ls st := by
  intro p l e R s m args below meth c H locs cells slots la ad Q S hl k
  exact lv_ifnonnull S.1 S.2.1 hd ht (k la hl)
end PN
theorem ne_sh {sh : mS} {x a : Nat} {p q : Nat × Nat} (sx : sh x = .inl p) (sa : sh a = .inr q) : x ≠ a := fun e => by rw [e, sa] at sx; cases sx

set_option maxRecDepth 4000 in
set_option maxHeartbeats 4000000 in
theorem m_apA {n : Nat} {sh : mS} {G : mG} {I : mI} {J : mJ} (hz : Zo n I J G) (hn9 : n + 2 ≤ 1000) {x : Nat} (hx : x < n) (sx : sh x = .inl (1, 4)) (hc : I x 1 = 0) {a cap cnt : Nat} (ha : a < n) (sa : sh a = .inr (1, cap)) (hv : G x 0 = some a) (hn : I x 3 = nI cnt) (hcc : cnt ≤ cap) (hc9 : cap ≤ 900) {i : Nat} (hi : i < 4) (hq : cnt + cW i ≤ cap) : Sm yJ5_append_cf1ce cJ5_append_cf1ce 3 (some (FieldType.object "java/lang/AbstractStringBuilder")) 5 160 2 1800 [.ref x, .ref (1010 + i)] n n sh G I J (fun r_ G_ I_ J_ => some (.ref x) = r_ ∧ G = G_ ∧ up2 (cpf I (cB i) a 0 cnt (cW i)) x 3 (nI (cnt + cW i)) = I_ ∧ J = J_) := by
  have hxa : x ≠ a := ne_sh sx sa
  refine Sm.of (by decide) (ls := [(0, .ref x), (1, .ref (1010 + i))]) (fun _ => rfl) (fun _ => Nat.le_of_ble_eq_true rfl) ?_
  refine gc_p (p_aload_n 1 (dk_at ktJ5_append_cf1ce_0 0 rfl) rfl rfl (b := 1) rfl) ?_
  refine gc_p (p_ifnn (b := 9) (dk_at ktJ5_append_cf1ce_0 1 rfl) (by decide)) ?_
  refine gc_p (p_aload_n 1 (dk_at ktJ5_append_cf1ce_0 5 rfl) rfl rfl (b := 10) rfl) ?_
  refine h_callC (As' := []) (rest := []) (n1 := n) (m_clen hz hn9 hi) hi (by omega) cw_J5_32 qi_J0_length_8abf5 qv_J0_length_8abf5 (dk_at ktJ5_append_cf1ce_0 6 rfl) rfl rfl (by decide) ⟨by decide, Nat.le_of_ble_eq_true rfl⟩ okN (by exact (okCl (okVr (by omega)) (okCl (okVc (by omega)) okNl))) (b := 13) rfl (kc' := 2) (ks' := 1800) (Nat.le_of_ble_eq_true rfl) (Nat.le_of_ble_eq_true rfl) (fun rr0 G0_ I0_ J0_ hq0 hz0 => ?_)
  obtain ⟨rfl, rfl, rfl, rfl⟩ := hq0
  refine gc_p (p_istore_n (ls' := [(2, .int (nI (cW i))), (0, .ref x), (1, .ref (1010 + i))]) (dk_at ktJ5_append_cf1ce_0 7 rfl) rfl (by decide) rfl (b := 14) rfl) ?_
  refine gc_p (p_aload_n 1 (dk_at ktJ5_append_cf1ce_0 8 rfl) rfl rfl (b := 15) rfl) ?_
  refine gc_p (p_aload_n 1 (dk_at ktJ5_append_cf1ce_0 9 rfl) rfl rfl (b := 16) rfl) ?_
  refine g_geti2 f2_J5_79 rfl (by omega) sx (dk_at ktJ5_append_cf1ce_0 10 rfl) (v := nI cnt) hn (b := 19) rfl ?_
  refine gc_p (p_iload_n 0 (dk_at ktJ5_append_cf1ce_0 11 rfl) rfl rfl (b := 20) rfl) ?_
  refine gc_p (p_iadd (v := (nI (cnt + (cW i)))) (dk_at ktJ5_append_cf1ce_0 12 rfl) (nI_add cnt (cW i)) (b := 21) rfl) ?_
  refine h_callV (As' := [.int (nI (cnt + (cW i)))]) (rest := []) (n1 := n) (m_ensA hz hn9 hx sx hc ha sa hv hn hcc hc9 (cnt + cW i) hq) (by omega) cw_J5_100 qi_J5_ensureCapacityInternal_d00df (sel_ac sv_J5_ensureCapacityInternal_d00df) rfl (by omega) sx (dk_at ktJ5_append_cf1ce_0 13 rfl) rfl rfl (by decide) ⟨by decide, Nat.le_of_ble_eq_true rfl⟩ okN (by exact (okCl okVi (okCl (okVr (by omega)) (okCl (okVc (by omega)) okNl)))) (b := 24) rfl (kc' := 1) (ks' := 900) (Nat.le_of_ble_eq_true rfl) (Nat.le_of_ble_eq_true rfl) (fun rr1 G1_ I1_ J1_ hq1 hz1 => ?_)
  obtain ⟨rfl, rfl, rfl, rfl⟩ := hq1
  refine gc_p (p_aload_n 1 (dk_at ktJ5_append_cf1ce_0 14 rfl) rfl rfl (b := 25) rfl) ?_
  refine gc_p (p_aload_n 1 (dk_at ktJ5_append_cf1ce_0 15 rfl) rfl rfl (b := 26) rfl) ?_
  refine g_geti2 f2_J5_79 rfl (by omega) sx (dk_at ktJ5_append_cf1ce_0 16 rfl) (v := nI cnt) hn (b := 29) rfl ?_
  refine gc_p (p_aload_n 2 (dk_at ktJ5_append_cf1ce_0 17 rfl) rfl rfl (b := 30) rfl) ?_
  refine h_callV (As' := [.int (nI cnt), .ref (1010 + i)]) (rest := []) (n1 := n) (m_putS hz1 hn9 hx sx hc ha sa hv hn hcc hc9 cnt hi hq) (by omega) cw_J5_208 qi_J5_putStringAt_47b60 (sel_ac sv_J5_putStringAt_47b60) rfl (by omega) sx (dk_at ktJ5_append_cf1ce_0 18 rfl) rfl rfl (by decide) ⟨by decide, Nat.le_of_ble_eq_true rfl⟩ okN (by exact (okCl okVi (okCl (okVr (by omega)) (okCl (okVc (by omega)) okNl)))) (b := 33) rfl (kc' := 1) (ks' := 900) (Nat.le_of_ble_eq_true rfl) (Nat.le_of_ble_eq_true rfl) (fun rr2 G2_ I2_ J2_ hq2 hz2 => ?_)
  obtain ⟨rfl, rfl, rfl, rfl⟩ := hq2
  refine gc_p (p_aload_n 1 (dk_at ktJ5_append_cf1ce_0 19 rfl) rfl rfl (b := 34) rfl) ?_
  refine gc_p (p_dup (dk_at ktJ5_append_cf1ce_0 20 rfl) rfl (b := 35) rfl) ?_
  refine g_geti2 f2_J5_79 rfl (by omega) sx (dk_at ktJ5_append_cf1ce_0 21 rfl) (v := nI cnt) (by rw [cpf_off hxa]; exact hn) (b := 38) rfl ?_
  refine gc_p (p_iload_n 0 (dk_at ktJ5_append_cf1ce_0 22 rfl) rfl rfl (b := 39) rfl) ?_
  refine gc_p (p_iadd (v := (nI (cnt + (cW i)))) (dk_at ktJ5_append_cf1ce_0 23 rfl) (nI_add cnt (cW i)) (b := 40) rfl) ?_
  refine g_puti2 f2_J5_79 fw_J4_3 rfl (by omega) sx rfl rfl (dk_at ktJ5_append_cf1ce_0 24 rfl) (b := 43) rfl ?_
  refine gc_p (p_aload_n 1 (dk_at ktJ5_append_cf1ce_0 25 rfl) rfl rfl (b := 44) rfl) ?_
  refine h_aret (by first | exact Or.inl ⟨_, rfl⟩ | exact Or.inr ⟨_, rfl⟩) (dk_at ktJ5_append_cf1ce_0 26 rfl) ?_ (hz2.ui (by omega))
  exact ⟨rfl, rfl, rfl, rfl⟩
set_option maxRecDepth 4000 in
set_option maxHeartbeats 4000000 in
theorem m_apB {n : Nat} {sh : mS} {G : mG} {I : mI} {J : mJ} (hz : Zo n I J G) (hn9 : n + 2 ≤ 1000) {x : Nat} (hx : x < n) (sx : sh x = .inl (1, 4)) (hc : I x 1 = 0) {a cap cnt : Nat} (ha : a < n) (sa : sh a = .inr (1, cap)) (hv : G x 0 = some a) (hn : I x 3 = nI cnt) (hcc : cnt ≤ cap) (hc9 : cap ≤ 900) {i : Nat} (hi : i < 4) (hnx : n + 8 ≤ 1000) {m : Nat} (hq : cap < cnt + cW i) (hm : m = cap + max (cnt + cW i - cap) (cap + 2)) (hm9 : m ≤ 900) (hq9 : cnt + cW i ≤ 900) (sn : sh n = .inr (1, m)) (hf : ∀ j, j < cap → fits .byte (.int (I a j)) = true) : Sm yJ5_append_cf1ce cJ5_append_cf1ce 3 (some (FieldType.object "java/lang/AbstractStringBuilder")) 5 160 2 1800 [.ref x, .ref (1010 + i)] n (n + 1) sh G I J (fun r_ G_ I_ J_ => some (.ref x) = r_ ∧ upG G x 0 n = G_ ∧ up2 (cpf (cpf I (I a) n 0 0 cap) (cB i) n 0 cnt (cW i)) x 3 (nI (cnt + cW i)) = I_ ∧ J = J_) := by
  have hxa : x ≠ n := by omega
  refine Sm.of (by decide) (ls := [(0, .ref x), (1, .ref (1010 + i))]) (fun _ => rfl) (fun _ => Nat.le_of_ble_eq_true rfl) ?_
  refine gc_p (p_aload_n 1 (dk_at ktJ5_append_cf1ce_0 0 rfl) rfl rfl (b := 1) rfl) ?_
  refine gc_p (p_ifnn (b := 9) (dk_at ktJ5_append_cf1ce_0 1 rfl) (by decide)) ?_
  refine gc_p (p_aload_n 1 (dk_at ktJ5_append_cf1ce_0 5 rfl) rfl rfl (b := 10) rfl) ?_
  refine h_callC (As' := []) (rest := []) (n1 := n) (m_clen hz hn9 hi) hi (by omega) cw_J5_32 qi_J0_length_8abf5 qv_J0_length_8abf5 (dk_at ktJ5_append_cf1ce_0 6 rfl) rfl rfl (by decide) ⟨by decide, Nat.le_of_ble_eq_true rfl⟩ okN (by exact (okCl (okVr (by omega)) (okCl (okVc (by omega)) okNl))) (b := 13) rfl (kc' := 2) (ks' := 1800) (Nat.le_of_ble_eq_true rfl) (Nat.le_of_ble_eq_true rfl) (fun rr0 G0_ I0_ J0_ hq0 hz0 => ?_)
  obtain ⟨rfl, rfl, rfl, rfl⟩ := hq0
  refine gc_p (p_istore_n (ls' := [(2, .int (nI (cW i))), (0, .ref x), (1, .ref (1010 + i))]) (dk_at ktJ5_append_cf1ce_0 7 rfl) rfl (by decide) rfl (b := 14) rfl) ?_
  refine gc_p (p_aload_n 1 (dk_at ktJ5_append_cf1ce_0 8 rfl) rfl rfl (b := 15) rfl) ?_
  refine gc_p (p_aload_n 1 (dk_at ktJ5_append_cf1ce_0 9 rfl) rfl rfl (b := 16) rfl) ?_
  refine g_geti2 f2_J5_79 rfl (by omega) sx (dk_at ktJ5_append_cf1ce_0 10 rfl) (v := nI cnt) hn (b := 19) rfl ?_
  refine gc_p (p_iload_n 0 (dk_at ktJ5_append_cf1ce_0 11 rfl) rfl rfl (b := 20) rfl) ?_
  refine gc_p (p_iadd (v := (nI (cnt + (cW i)))) (dk_at ktJ5_append_cf1ce_0 12 rfl) (nI_add cnt (cW i)) (b := 21) rfl) ?_
  refine h_callV (As' := [.int (nI (cnt + (cW i)))]) (rest := []) (n1 := (n + 1)) (m_ensB hz hn9 hx sx hc ha sa hv hn hcc hc9 (cnt + cW i) hq hq9 (by rw [← hm]; exact hm9) (by rw [← hm]; exact sn) hf) (by omega) cw_J5_100 qi_J5_ensureCapacityInternal_d00df (sel_ac sv_J5_ensureCapacityInternal_d00df) rfl (by omega) sx (dk_at ktJ5_append_cf1ce_0 13 rfl) rfl rfl (by decide) ⟨by decide, Nat.le_of_ble_eq_true rfl⟩ okN (by exact (okCl okVi (okCl (okVr (by omega)) (okCl (okVc (by omega)) okNl)))) (b := 24) rfl (kc' := 1) (ks' := 900) (Nat.le_of_ble_eq_true rfl) (Nat.le_of_ble_eq_true rfl) (fun rr1 G1_ I1_ J1_ hq1 hz1 => ?_)
  obtain ⟨rfl, rfl, rfl, rfl⟩ := hq1
  refine gc_p (p_aload_n 1 (dk_at ktJ5_append_cf1ce_0 14 rfl) rfl rfl (b := 25) rfl) ?_
  refine gc_p (p_aload_n 1 (dk_at ktJ5_append_cf1ce_0 15 rfl) rfl rfl (b := 26) rfl) ?_
  refine g_geti2 f2_J5_79 rfl (by omega) sx (dk_at ktJ5_append_cf1ce_0 16 rfl) (v := nI cnt) (by rw [cpf_off (by omega)]; exact hn) (b := 29) rfl ?_
  refine gc_p (p_aload_n 2 (dk_at ktJ5_append_cf1ce_0 17 rfl) rfl rfl (b := 30) rfl) ?_
  refine h_callV (As' := [.int (nI cnt), .ref (1010 + i)]) (rest := []) (n1 := (n + 1)) (m_putS hz1 (by omega) (x := x) (by omega) sx (by rw [cpf_off (by omega)]; exact hc) (a := n) (cap := m) (cnt := cnt) (by omega) sn upG_s (by rw [cpf_off (by omega)]; exact hn) (by omega) hm9 cnt hi (by omega)) (by omega) cw_J5_208 qi_J5_putStringAt_47b60 (sel_ac sv_J5_putStringAt_47b60) rfl (by omega) sx (dk_at ktJ5_append_cf1ce_0 18 rfl) rfl rfl (by decide) ⟨by decide, Nat.le_of_ble_eq_true rfl⟩ okN (by exact (okCl okVi (okCl (okVr (by omega)) (okCl (okVc (by omega)) okNl)))) (b := 33) rfl (kc' := 1) (ks' := 900) (Nat.le_of_ble_eq_true rfl) (Nat.le_of_ble_eq_true rfl) (fun rr2 G2_ I2_ J2_ hq2 hz2 => ?_)
  obtain ⟨rfl, rfl, rfl, rfl⟩ := hq2
  refine gc_p (p_aload_n 1 (dk_at ktJ5_append_cf1ce_0 19 rfl) rfl rfl (b := 34) rfl) ?_
  refine gc_p (p_dup (dk_at ktJ5_append_cf1ce_0 20 rfl) rfl (b := 35) rfl) ?_
  refine g_geti2 f2_J5_79 rfl (by omega) sx (dk_at ktJ5_append_cf1ce_0 21 rfl) (v := nI cnt) (by rw [cpf_off hxa]; exact (by rw [cpf_off (by omega)]; exact hn)) (b := 38) rfl ?_
  refine gc_p (p_iload_n 0 (dk_at ktJ5_append_cf1ce_0 22 rfl) rfl rfl (b := 39) rfl) ?_
  refine gc_p (p_iadd (v := (nI (cnt + (cW i)))) (dk_at ktJ5_append_cf1ce_0 23 rfl) (nI_add cnt (cW i)) (b := 40) rfl) ?_
  refine g_puti2 f2_J5_79 fw_J4_3 rfl (by omega) sx rfl rfl (dk_at ktJ5_append_cf1ce_0 24 rfl) (b := 43) rfl ?_
  refine gc_p (p_aload_n 1 (dk_at ktJ5_append_cf1ce_0 25 rfl) rfl rfl (b := 44) rfl) ?_
  refine h_aret (by first | exact Or.inl ⟨_, rfl⟩ | exact Or.inr ⟨_, rfl⟩) (dk_at ktJ5_append_cf1ce_0 26 rfl) ?_ (hz2.ui (by omega))
  exact ⟨rfl, rfl, rfl, rfl⟩
set_option maxRecDepth 4000 in
set_option maxHeartbeats 4000000 in
theorem m_saA {n : Nat} {sh : mS} {G : mG} {I : mI} {J : mJ} (hz : Zo n I J G) (hn9 : n + 2 ≤ 1000) {x : Nat} (hx : x < n) (sx : sh x = .inl (1, 4)) (hc : I x 1 = 0) {a cap cnt : Nat} (ha : a < n) (sa : sh a = .inr (1, cap)) (hv : G x 0 = some a) (hn : I x 3 = nI cnt) (hcc : cnt ≤ cap) (hc9 : cap ≤ 900) {i : Nat} (hi : i < 4) (hq : cnt + cW i ≤ cap) : Sm yJ4_append_15ec4 cJ4_append_15ec4 2 (some (FieldType.object "java/lang/StringBuilder")) 6 190 2 1800 [.ref x, .ref (1010 + i)] n n sh G I J (fun r_ G_ I_ J_ => some (.ref x) = r_ ∧ G = G_ ∧ up2 (cpf I (cB i) a 0 cnt (cW i)) x 3 (nI (cnt + cW i)) = I_ ∧ J = J_) := by
  refine Sm.of (by decide) (ls := [(0, .ref x), (1, .ref (1010 + i))]) (fun _ => rfl) (fun _ => Nat.le_of_ble_eq_true rfl) ?_
  refine gc_p (p_aload_n 0 (dk_at ktJ4_append_15ec4_0 0 rfl) rfl rfl (b := 1) rfl) ?_
  refine gc_p (p_aload_n 1 (dk_at ktJ4_append_15ec4_0 1 rfl) rfl rfl (b := 2) rfl) ?_
  refine h_callSU (As' := [.ref (1010 + i)]) (rest := []) (n1 := n) (m_apA hz hn9 hx sx hc ha sa hv hn hcc hc9 hi hq) (by omega) cs_J4_29 rfl (by omega) sx (dk_at ktJ4_append_15ec4_0 2 rfl) rfl rfl (by decide) ⟨by decide, Nat.le_of_ble_eq_true rfl⟩ okN (by exact (okCl (okVr (by omega)) (okCl (okVc (by omega)) okNl))) (b := 5) rfl (kc' := 0) (ks' := 0) (Nat.le_of_ble_eq_true rfl) (Nat.le_of_ble_eq_true rfl) (fun rr0 G0_ I0_ J0_ hq0 hz0 => ?_)
  obtain ⟨rfl, rfl, rfl, rfl⟩ := hq0
  refine gc_p (p_pop (dk_at ktJ4_append_15ec4_0 3 rfl) rfl (b := 6) rfl) ?_
  refine gc_p (p_aload_n 0 (dk_at ktJ4_append_15ec4_0 4 rfl) rfl rfl (b := 7) rfl) ?_
  refine h_aret (by first | exact Or.inl ⟨_, rfl⟩ | exact Or.inr ⟨_, rfl⟩) (dk_at ktJ4_append_15ec4_0 5 rfl) ?_ hz0
  exact ⟨rfl, rfl, rfl, rfl⟩
set_option maxRecDepth 4000 in
set_option maxHeartbeats 4000000 in
theorem m_saB {n : Nat} {sh : mS} {G : mG} {I : mI} {J : mJ} (hz : Zo n I J G) (hn9 : n + 2 ≤ 1000) {x : Nat} (hx : x < n) (sx : sh x = .inl (1, 4)) (hc : I x 1 = 0) {a cap cnt : Nat} (ha : a < n) (sa : sh a = .inr (1, cap)) (hv : G x 0 = some a) (hn : I x 3 = nI cnt) (hcc : cnt ≤ cap) (hc9 : cap ≤ 900) {i : Nat} (hi : i < 4) (hnx : n + 8 ≤ 1000) {m : Nat} (hq : cap < cnt + cW i) (hm : m = cap + max (cnt + cW i - cap) (cap + 2)) (hm9 : m ≤ 900) (hq9 : cnt + cW i ≤ 900) (sn : sh n = .inr (1, m)) (hf : ∀ j, j < cap → fits .byte (.int (I a j)) = true) : Sm yJ4_append_15ec4 cJ4_append_15ec4 2 (some (FieldType.object "java/lang/StringBuilder")) 6 190 2 1800 [.ref x, .ref (1010 + i)] n (n + 1) sh G I J (fun r_ G_ I_ J_ => some (.ref x) = r_ ∧ upG G x 0 n = G_ ∧ up2 (cpf (cpf I (I a) n 0 0 cap) (cB i) n 0 cnt (cW i)) x 3 (nI (cnt + cW i)) = I_ ∧ J = J_) := by
  refine Sm.of (by decide) (ls := [(0, .ref x), (1, .ref (1010 + i))]) (fun _ => rfl) (fun _ => Nat.le_of_ble_eq_true rfl) ?_
  refine gc_p (p_aload_n 0 (dk_at ktJ4_append_15ec4_0 0 rfl) rfl rfl (b := 1) rfl) ?_
  refine gc_p (p_aload_n 1 (dk_at ktJ4_append_15ec4_0 1 rfl) rfl rfl (b := 2) rfl) ?_
  refine h_callSU (As' := [.ref (1010 + i)]) (rest := []) (n1 := (n + 1)) (m_apB hz hn9 hx sx hc ha sa hv hn hcc hc9 hi hnx hq hm hm9 hq9 sn hf) (by omega) cs_J4_29 rfl (by omega) sx (dk_at ktJ4_append_15ec4_0 2 rfl) rfl rfl (by decide) ⟨by decide, Nat.le_of_ble_eq_true rfl⟩ okN (by exact (okCl (okVr (by omega)) (okCl (okVc (by omega)) okNl))) (b := 5) rfl (kc' := 0) (ks' := 0) (Nat.le_of_ble_eq_true rfl) (Nat.le_of_ble_eq_true rfl) (fun rr0 G0_ I0_ J0_ hq0 hz0 => ?_)
  obtain ⟨rfl, rfl, rfl, rfl⟩ := hq0
  refine gc_p (p_pop (dk_at ktJ4_append_15ec4_0 3 rfl) rfl (b := 6) rfl) ?_
  refine gc_p (p_aload_n 0 (dk_at ktJ4_append_15ec4_0 4 rfl) rfl rfl (b := 7) rfl) ?_
  refine h_aret (by first | exact Or.inl ⟨_, rfl⟩ | exact Or.inr ⟨_, rfl⟩) (dk_at ktJ4_append_15ec4_0 5 rfl) ?_ hz0
  exact ⟨rfl, rfl, rfl, rfl⟩

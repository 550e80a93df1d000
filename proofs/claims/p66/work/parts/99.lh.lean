/-! THE JDK'S TEXTS: made, turned into a string, read -/
section PNL
variable {own : String} {cc : ByteArray} {nL pc b : Nat} {ls : List (Nat × Value)} {st : List Value}
theorem p_anull (hd : decode cc pc = .ok (.aconst_null, 1)) (hb : pc + 1 = b) : Pst own cc nL pc ls st b ls (.null :: st) := by
  intro p l e R s m args below meth c H locs cells slots la ad Q S hl k
  subst hb
  exact lv_null S.1 S.2.1 hd (k la hl)
end PNL
/-- what a call of length through the class above needs of the tables -/
def cwO (own : String) (ix : Nat) : Prop := ∀ w ∈ va_wsO own ix RJ4 RJ5 yJ5_length_8abf5 yJ4_length_8abf5 [], w ∈ TT
theorem co_J0_549 : cwO RJ0 549 := by
  intro w hw
  simp only [va_wsO, List.append_nil, List.mem_cons, List.not_mem_nil, or_false] at hw
  rcases hw with rfl | rfl | rfl | rfl | rfl | rfl
  · exact qm_J0_549
  · exact qsm_len
  · exact qi_J5_length_8abf5
  · exact qo_len
  · exact qi_J4_length_8abf5
  · exact qn_java_lang_StringBuilder
section HO
variable {Γ : gCtx} {Φ : gPost} {own : String} {cc : ByteArray} {nL pc b : Nat} {ls ls' : List (Nat × Value)} {st rest : List Value}
variable {fr lo mc ms n0 n n1 kc ks kc' ks' : Nat} {sh : mS} {G : mG} {I : mI} {J : mJ}
variable {fr' lo' mc' ms' : Nat} {Q' : Option Value → mG → mI → mJ → Prop}
theorem h_callO {ix ci N d : Nat} {T : u_T} (hs : Sm yJ4_length_8abf5 cJ4_length_8abf5 1 (some FieldType.int) fr' lo' mc' ms' [.ref d] n n1 sh G I J Q') (hn0 : n0 ≤ n) (hw : cwO own ix) (hcl : vwCl[ci]? = some (RJ4, T, N)) (hid : d < n) (hsh : sh d = .inl (ci, N)) (hd : decode cc pc = .ok (.invokevirtual ix, 3)) (hstk : st = .ref d :: rest) (hcat : (rest.map fun v => v.category).sum ≤ 8) (hroom : fr' + 1 ≤ fr ∧ 1 + 19 + lo' ≤ lo) (hok : ∀ v ∈ rest, okV n v) (hls : ∀ q ∈ ls, okV n q.2) (hb : pc + 3 = b) (hmc : kc' + mc' ≤ kc) (hms : ks' + ms' ≤ ks)
    (kk : ∀ (r : Option Value) (G1 : mG) (I1 : mI) (J1 : mJ), Q' r G1 I1 J1 → Zo n1 I1 J1 G1 → Gj Γ Φ own cc nL fr lo mc ms n0 n1 sh G1 kc' ks' b ls (r.toList ++ rest) I1 J1) : Gj Γ Φ own cc nL fr lo mc ms n0 n sh G kc ks pc ls st I J := by
  intro p l e R s m args below meth c H locs cells slots la D cA ad0 ad A hfl hΓ hag S hlk hR hkc hks hA hB hC hS hP hD hK hl
  subst hb
  subst hstk
  have hrun := va_runU (H := H) (locs := locs) (cells := cells) (slots := slots) (l := l) (e := e) (R := R) (below := below) (meth := meth) (C := RJ4) (owner := RJ5) (x := yJ5_length_8abf5) (b := ad d) (g := F0 m pc la ((.ref d :: rest).map (mz ad))) (As := []) (rest := rest.map (mz ad)) (n := 0) S (hs l D cA ad H.size hfl) (va_cwO (rm := { frames := fr', cells := mc', slots := ms', locals := lo' }) (ws := .code yJ4_length_8abf5 cJ4_length_8abf5 1 (some FieldType.int) :: TT) 0 S.2.2.2.2 (fun w hw2 => (List.mem_append.mp hw2).elim (fun h => TT_good _ (hw w (List.mem_append_left _ h))) (fun h => code_in qc_J4_length_8abf5 w h)) rfl rfl rfl qc_J5_length_8abf5 ⟨by decide, by decide, by decide +kernel⟩ ⟨Nat.le_trans hroom.1 hR.1, by show 8 + (1 + 11) + lo' ≤ R.locals; omega⟩) ⟨gPc_blind, va_recv hK hP (q0 := d) (ci := ci) hcl (by rw [mws_at hid, mcell_o hsh]), fun U hU hW => ⟨mPre (As := [.ref d]) hS hP hD hK hB hA hU hW, hC.moved hW⟩⟩ rfl rfl hl.1 (by simp [mz]) (by simpa [JFrame.monitorRoom, Function.comp_def, mz_cat] using hcat) hd ⟨by omega, by omega⟩
  exact h_after (As := [.ref d]) hrun hfl hΓ hag hn0 S hlk hR hkc hks hmc hms hA hB hC hS hP hD hK hl hok hls kk
end HO
theorem dv_J0 : ∀ j, j < 4 → defaultValue (mty 0 j) = if mr 0 j = true then .null else .int 0 := by decide
theorem dv_J4 : ∀ j, j < 4 → defaultValue (mty 1 j) = if mr 1 j = true then .null else .int 0 := by decide
theorem ch_and {c : Nat} (h : c < 128) : nI c &&& 255 = nI c := by
  have q : ∀ c : Nat, c < 128 → nI c &&& 255 = nI c := by decide
  exact q c h
theorem ch_c {c : Nat} (h : c < 128) : ((nI c).toUInt32 % 65536).toInt32 = nI c := by
  have q : ∀ c : Nat, c < 128 → ((nI c).toUInt32 % 65536).toInt32 = nI c := by decide
  exact q c h
theorem ch_nar {c : Nat} (h : c < 128) : narrow .char (.int (nI c)) = .int (nI c) := by
  have q : ∀ c : Nat, c < 128 → narrow .char (.int (nI c)) = .int (nI c) := by decide
  exact q c h

set_option maxRecDepth 4000 in
set_option maxHeartbeats 4000000 in
theorem m_bInit {n : Nat} {sh : mS} {G : mG} {I : mI} {J : mJ} (hz : Zo n I J G) (hn9 : n + 2 ≤ 1000) {x : Nat} (hx : x < n) (sx : sh x = .inl (1, 4)) (sn : sh n = .inr (1, 16)) : Sm yJ5_init_d00df cJ5_init_d00df 2 none 1 48 1 16 [.ref x, .int (nI 16)] n (n + 1) sh G I J (fun r_ G_ I_ J_ => none = r_ ∧ upG G x 0 n = G_ ∧ up2 I x 1 0 = I_ ∧ J = J_) := by
  refine Sm.of (by decide) (ls := [(0, .ref x), (1, .int (nI 16))]) (fun _ => rfl) (fun _ => Nat.le_of_ble_eq_true rfl) ?_
  refine gc_p (p_aload_n 0 (dk_at ktJ5_init_d00df_0 0 rfl) rfl rfl (b := 1) rfl) ?_
  refine g_oinit qm_J5_3 qi_obj qc_obj (dk_at ktJ5_init_d00df_0 1 rfl) ⟨by decide, Nat.le_of_ble_eq_true rfl⟩ (b := 4) rfl ?_
  refine g_gcmp fg_J5_18 (dk_at ktJ5_init_d00df_0 2 rfl) (b := 7) rfl ?_
  refine g_if_eq (dk_at ktJ5_init_d00df_0 3 rfl) (b := 25) (by decide) (b2 := 10) rfl (fun c7 => ?_) (fun c7 => ?_)
  · first | exact absurd c7 (by decide) | exact absurd (by decide) c7
  · skip
    refine gc_p (p_aload_n 0 (dk_at ktJ5_init_d00df_0 4 rfl) rfl rfl (b := 11) rfl) ?_
    refine gc_p (p_iload_n 1 (dk_at ktJ5_init_d00df_0 5 rfl) rfl rfl (b := 12) rfl) ?_
    refine g_newi (atype := .byte) (t := 1) (len := 16) hz (by omega) (by omega) sn (by omega) (Or.inr (Or.inl ⟨rfl, rfl⟩)) qac_byt (by exact (okC (okVr (by omega)) okN)) (by exact (okCl (okVr (by omega)) (okCl okVi okNl))) (kc' := 0) (ks' := 0) (by omega) (by omega) (dk_at ktJ5_init_d00df_0 6 rfl) (b := 14) rfl ?_
    refine g_putR2 (id2 := n) f2_J5_15 fw_J4_0 rfl (by omega) sx (fun _ => rfl) (fun _ => rfl) (dk_at ktJ5_init_d00df_0 7 rfl) (b := 17) rfl ?_
    refine gc_p (p_aload_n 0 (dk_at ktJ5_init_d00df_0 8 rfl) rfl rfl (b := 18) rfl) ?_
    refine gc_p (p_iconst (v := 0) (dk_at ktJ5_init_d00df_0 9 rfl) (by decide) (b := 19) rfl) ?_
    refine g_puti2 f2_J5_22 fw_J4_1 rfl (by omega) sx rfl rfl (dk_at ktJ5_init_d00df_0 10 rfl) (b := 22) rfl ?_
    refine gc_p (p_goto (b := 38) (dk_at ktJ5_init_d00df_0 11 rfl) (by decide)) ?_
    refine h_vret (dk_at ktJ5_init_d00df_0 19 rfl) ?_ (((hz.up (Nat.le_succ n)).ug (by omega) (by omega)).ui (by omega))
    exact ⟨rfl, rfl, rfl, rfl⟩
set_option maxRecDepth 4000 in
set_option maxHeartbeats 4000000 in
theorem m_sInit {n : Nat} {sh : mS} {G : mG} {I : mI} {J : mJ} (hz : Zo n I J G) (hn9 : n + 2 ≤ 1000) {x : Nat} (hx : x < n) (sx : sh x = .inl (1, 4)) (sn : sh n = .inr (1, 16)) : Sm yJ4_init_da8c8 cJ4_init_da8c8 1 none 2 76 1 16 [.ref x] n (n + 1) sh G I J (fun r_ G_ I_ J_ => none = r_ ∧ upG G x 0 n = G_ ∧ up2 I x 1 0 = I_ ∧ J = J_) := by
  refine Sm.of (by decide) (ls := [(0, .ref x)]) (fun _ => rfl) (fun _ => Nat.le_of_ble_eq_true rfl) ?_
  refine gc_p (p_aload_n 0 (dk_at ktJ4_init_da8c8_0 0 rfl) rfl rfl (b := 1) rfl) ?_
  refine gc_p (p_bipush (v := 16) (dk_at ktJ4_init_da8c8_0 1 rfl) (by decide) (b := 3) rfl) ?_
  refine g_val (y := (nI 16)) rfl ?_
  refine h_callI (As' := [.int (nI 16)]) (rest := []) (n1 := (n + 1)) (m_bInit hz hn9 hx sx sn) (by omega) cw_J4_1 qi_J5_init_d00df (by decide) (dk_at ktJ4_init_da8c8_0 2 rfl) rfl rfl (by decide) ⟨by decide, Nat.le_of_ble_eq_true rfl⟩ okN (by exact (okCl (okVr (by omega)) okNl)) (b := 6) rfl (kc' := 0) (ks' := 0) (Nat.le_of_ble_eq_true rfl) (Nat.le_of_ble_eq_true rfl) (fun rr0 G0_ I0_ J0_ hq0 hz0 => ?_)
  obtain ⟨rfl, rfl, rfl, rfl⟩ := hq0
  refine h_vret (dk_at ktJ4_init_da8c8_0 3 rfl) ?_ hz0
  exact ⟨rfl, rfl, rfl, rfl⟩
set_option maxRecDepth 4000 in
set_option maxHeartbeats 4000000 in
theorem m_gval {n : Nat} {sh : mS} {G : mG} {I : mI} {J : mJ} (hz : Zo n I J G) (hn9 : n + 2 ≤ 1000) {x : Nat} (hx : x < n) (sx : sh x = .inl (1, 4)) {a : Nat} (ha : a < n) (hv : G x 0 = some a) : Sm yJ5_getValue_6d5f1 cJ5_getValue_6d5f1 1 (some (FieldType.array FieldType.byte)) 1 48 0 0 [.ref x] n n sh G I J (fun r_ G_ I_ J_ => some (.ref a) = r_ ∧ G = G_ ∧ I = I_ ∧ J = J_) := by
  refine Sm.of (by decide) (ls := [(0, .ref x)]) (fun _ => rfl) (fun _ => Nat.le_of_ble_eq_true rfl) ?_
  refine gc_p (p_aload_n 0 (dk_at ktJ5_getValue_6d5f1_0 0 rfl) rfl rfl (b := 1) rfl) ?_
  refine g_geta2 f2_J5_15 rfl hx sx (dk_at ktJ5_getValue_6d5f1_0 1 rfl) hv (b := 4) rfl ?_
  refine h_aret (by first | exact Or.inl ⟨_, rfl⟩ | exact Or.inr ⟨_, rfl⟩) (dk_at ktJ5_getValue_6d5f1_0 2 rfl) ?_ hz
  exact ⟨rfl, rfl, rfl, rfl⟩
set_option maxRecDepth 4000 in
set_option maxHeartbeats 4000000 in
theorem m_len5 {n : Nat} {sh : mS} {G : mG} {I : mI} {J : mJ} (hz : Zo n I J G) (hn9 : n + 2 ≤ 1000) {x : Nat} (hx : x < n) (sx : sh x = .inl (1, 4)) {cnt : Nat} (hn : I x 3 = nI cnt) : Sm yJ5_length_8abf5 cJ5_length_8abf5 1 (some FieldType.int) 1 48 0 0 [.ref x] n n sh G I J (fun r_ G_ I_ J_ => some (.int (nI cnt)) = r_ ∧ G = G_ ∧ I = I_ ∧ J = J_) := by
  refine Sm.of (by decide) (ls := [(0, .ref x)]) (fun _ => rfl) (fun _ => Nat.le_of_ble_eq_true rfl) ?_
  refine gc_p (p_aload_n 0 (dk_at ktJ5_length_8abf5_0 0 rfl) rfl rfl (b := 1) rfl) ?_
  refine g_geti2 f2_J5_79 rfl hx sx (dk_at ktJ5_length_8abf5_0 1 rfl) (v := nI cnt) hn (b := 4) rfl ?_
  refine h_iret (by first | rfl | decide) (dk_at ktJ5_length_8abf5_0 2 rfl) ?_ hz
  exact ⟨rfl, rfl, rfl, rfl⟩
set_option maxRecDepth 4000 in
set_option maxHeartbeats 4000000 in
theorem m_len4 {n : Nat} {sh : mS} {G : mG} {I : mI} {J : mJ} (hz : Zo n I J G) (hn9 : n + 2 ≤ 1000) {x : Nat} (hx : x < n) (sx : sh x = .inl (1, 4)) {cnt : Nat} (hn : I x 3 = nI cnt) : Sm yJ4_length_8abf5 cJ4_length_8abf5 1 (some FieldType.int) 2 76 0 0 [.ref x] n n sh G I J (fun r_ G_ I_ J_ => some (.int (nI cnt)) = r_ ∧ G = G_ ∧ I = I_ ∧ J = J_) := by
  refine Sm.of (by decide) (ls := [(0, .ref x)]) (fun _ => rfl) (fun _ => Nat.le_of_ble_eq_true rfl) ?_
  refine gc_p (p_aload_n 0 (dk_at ktJ4_length_8abf5_0 0 rfl) rfl rfl (b := 1) rfl) ?_
  refine h_callSU (As' := []) (rest := []) (n1 := n) (m_len5 hz hn9 hx sx hn) (by omega) cs_J4_343 rfl hx sx (dk_at ktJ4_length_8abf5_0 1 rfl) rfl rfl (by decide) ⟨by decide, Nat.le_of_ble_eq_true rfl⟩ okN (by exact (okCl (okVr (by omega)) okNl)) (b := 4) rfl (kc' := 0) (ks' := 0) (Nat.le_of_ble_eq_true rfl) (Nat.le_of_ble_eq_true rfl) (fun rr0 G0_ I0_ J0_ hq0 hz0 => ?_)
  obtain ⟨rfl, rfl, rfl, rfl⟩ := hq0
  refine h_iret (by first | rfl | decide) (dk_at ktJ4_length_8abf5_0 2 rfl) ?_ hz0
  exact ⟨rfl, rfl, rfl, rfl⟩
set_option maxRecDepth 4000 in
set_option maxHeartbeats 4000000 in
theorem m_chkL {n : Nat} {sh : mS} {G : mG} {I : mI} {J : mJ} (hz : Zo n I J G) (hn9 : n + 2 ≤ 1000) (c : Nat) (hc : c < 1000) : Sm yJ7_checkLength_df160 cJ7_checkLength_df160 2 none 1 48 0 0 [.int 0, .int (nI c)] n n sh G I J (fun r_ G_ I_ J_ => none = r_ ∧ G = G_ ∧ I = I_ ∧ J = J_) := by
  refine Sm.of (by decide) (ls := [(0, .int 0), (1, .int (nI c))]) (fun _ => rfl) (fun _ => Nat.le_of_ble_eq_true rfl) ?_
  refine gc_p (p_iload_n 1 (dk_at ktJ7_checkLength_df160_0 0 rfl) rfl rfl (b := 1) rfl) ?_
  refine gc_p (p_iload_n 0 (dk_at ktJ7_checkLength_df160_0 1 rfl) rfl rfl (b := 2) rfl) ?_
  refine g_icmp_ge (dk_at ktJ7_checkLength_df160_0 2 rfl) (b := 37) (by decide) (b2 := 5) rfl (fun c2 => ?_) (fun c2 => ?_)
  · have c2 : 0 ≤ c := (nI_leI (a := 0) (b := c) (by omega) (by omega)).mp c2
    refine h_vret (dk_at ktJ7_checkLength_df160_0 17 rfl) ?_ hz
    exact ⟨rfl, rfl, rfl, rfl⟩
  · have c2 : ¬ 0 ≤ c := fun h => c2 ((nI_leI (a := 0) (b := c) (by omega) (by omega)).mpr h)
    exact absurd (Nat.zero_le _) c2
set_option maxRecDepth 4000 in
set_option maxHeartbeats 4000000 in
theorem m_corB {n : Nat} {sh : mS} {G : mG} {I : mI} {J : mJ} (hz : Zo n I J G) (hn9 : n + 2 ≤ 1000) {a cap c : Nat} (ha : a < n) (sa : sh a = .inr (1, cap)) (hc : c < cap) (hc9 : cap ≤ 900) (sn : sh n = .inr (1, c)) (hf : ∀ j, j < c → fits .byte (.int (I a j)) = true) : Sm yJ7_copyOfRangeByte_39247 cJ7_copyOfRangeByte_39247 5 (some (FieldType.array FieldType.byte)) 2 96 1 900 [.ref a, .int 0, .int (nI c)] n (n + 1) sh G I J (fun r_ G_ I_ J_ => some (.ref n) = r_ ∧ G = G_ ∧ cpf I (I a) n 0 0 c = I_ ∧ J = J_) := by
  refine Sm.of (by decide) (ls := [(0, .ref a), (1, .int 0), (2, .int (nI c))]) (fun _ => rfl) (fun _ => Nat.le_of_ble_eq_true rfl) ?_
  refine gc_p (p_iload_n 1 (dk_at ktJ7_copyOfRangeByte_39247_0 0 rfl) rfl rfl (b := 1) rfl) ?_
  refine gc_p (p_iload_n 2 (dk_at ktJ7_copyOfRangeByte_39247_0 1 rfl) rfl rfl (b := 2) rfl) ?_
  refine h_callS (As := [.int 0, .int (nI c)]) (rest := []) (n1 := n) (m_chkL hz hn9 c (by omega)) (by omega) cw_J7_343 qs_J7_checkLength_df160 (dk_at ktJ7_copyOfRangeByte_39247_0 2 rfl) rfl rfl (by decide) ⟨by decide, Nat.le_of_ble_eq_true rfl⟩ okN (by exact (okCl (okVr (by omega)) (okCl okVi (okCl okVi okNl)))) (b := 5) rfl (kc' := 1) (ks' := 900) (Nat.le_of_ble_eq_true rfl) (Nat.le_of_ble_eq_true rfl) (fun rr0 G0_ I0_ J0_ hq0 hz0 => ?_)
  obtain ⟨rfl, rfl, rfl, rfl⟩ := hq0
  refine gc_p (p_iload_n 2 (dk_at ktJ7_copyOfRangeByte_39247_0 3 rfl) rfl rfl (b := 6) rfl) ?_
  refine gc_p (p_iload_n 1 (dk_at ktJ7_copyOfRangeByte_39247_0 4 rfl) rfl rfl (b := 7) rfl) ?_
  refine gc_p (p_isub (v := (nI c)) (dk_at ktJ7_copyOfRangeByte_39247_0 5 rfl) (Int32.sub_zero _) (b := 8) rfl) ?_
  refine gc_p (p_istore_n (ls' := [(3, .int (nI c)), (0, .ref a), (1, .int 0), (2, .int (nI c))]) (dk_at ktJ7_copyOfRangeByte_39247_0 6 rfl) rfl (by decide) rfl (b := 9) rfl) ?_
  refine gc_p (p_iload_n 0 (dk_at ktJ7_copyOfRangeByte_39247_0 7 rfl) rfl rfl (b := 10) rfl) ?_
  refine g_newi (atype := .byte) (t := 1) (len := c) hz0 (by omega) (by omega) sn (by omega) (Or.inr (Or.inl ⟨rfl, rfl⟩)) qac_byt okN (by exact (okCl okVi (okCl (okVr (by omega)) (okCl okVi (okCl okVi okNl))))) (kc' := 0) (ks' := 0) (by omega) (by omega) (dk_at ktJ7_copyOfRangeByte_39247_0 8 rfl) (b := 12) rfl ?_
  refine gc_p (p_astore (ls' := [(4, .ref n), (3, .int (nI c)), (0, .ref a), (1, .int 0), (2, .int (nI c))]) (dk_at ktJ7_copyOfRangeByte_39247_0 9 rfl) (by decide) rfl (b := 14) rfl) ?_
  refine gc_p (p_aload_n 2 (dk_at ktJ7_copyOfRangeByte_39247_0 10 rfl) rfl rfl (b := 15) rfl) ?_
  refine gc_p (p_iload_n 3 (dk_at ktJ7_copyOfRangeByte_39247_0 11 rfl) rfl rfl (b := 16) rfl) ?_
  refine gc_p (p_aload 0 (dk_at ktJ7_copyOfRangeByte_39247_0 12 rfl) rfl (b := 18) rfl) ?_
  refine gc_p (p_iconst (v := 0) (dk_at ktJ7_copyOfRangeByte_39247_0 13 rfl) (by decide) (b := 19) rfl) ?_
  refine gc_p (p_aload_n 2 (dk_at ktJ7_copyOfRangeByte_39247_0 14 rfl) rfl rfl (b := 20) rfl) ?_
  refine g_balen (by omega) sa (dk_at ktJ7_copyOfRangeByte_39247_0 15 rfl) (b := 21) rfl ?_
  refine gc_p (p_iload_n 3 (dk_at ktJ7_copyOfRangeByte_39247_0 16 rfl) rfl rfl (b := 22) rfl) ?_
  refine gc_p (p_isub (v := (nI cap)) (dk_at ktJ7_copyOfRangeByte_39247_0 17 rfl) (Int32.sub_zero _) (b := 23) rfl) ?_
  refine gc_p (p_iload_n 1 (dk_at ktJ7_copyOfRangeByte_39247_0 18 rfl) rfl rfl (b := 24) rfl) ?_
  refine g_mmin (v := nI c) qm_J7_304 (dk_at ktJ7_copyOfRangeByte_39247_0 19 rfl) ⟨by decide, Nat.le_of_ble_eq_true rfl⟩ (by rw [nmin (by omega) (by omega), Nat.min_eq_right (by omega)]) (b := 27) rfl ?_
  refine g_copy (N := c) (sp := 0) (dp := 0) qm_J7_150 qn_java_lang_System (by omega) sa (by omega) sn ⟨by omega, by omega, by omega, by omega⟩ (fun j hj => by rw [Nat.zero_add]; exact hf j hj) rfl rfl rfl ⟨by decide, Nat.le_of_ble_eq_true rfl⟩ (dk_at ktJ7_copyOfRangeByte_39247_0 20 rfl) (b := 30) rfl ?_
  refine gc_p (p_aload 0 (dk_at ktJ7_copyOfRangeByte_39247_0 21 rfl) rfl (b := 32) rfl) ?_
  refine h_aret (by first | exact Or.inl ⟨_, rfl⟩ | exact Or.inr ⟨_, rfl⟩) (dk_at ktJ7_copyOfRangeByte_39247_0 22 rfl) ?_ ((hz.up (Nat.le_succ n)).of (fun id h => cpf_off (by omega)))
  exact ⟨rfl, rfl, rfl, rfl⟩
set_option maxRecDepth 4000 in
set_option maxHeartbeats 4000000 in
theorem m_cor {n : Nat} {sh : mS} {G : mG} {I : mI} {J : mJ} (hz : Zo n I J G) (hn9 : n + 2 ≤ 1000) {a cap c : Nat} (ha : a < n) (sa : sh a = .inr (1, cap)) (hc : c < cap) (hc9 : cap ≤ 900) (sn : sh n = .inr (1, c)) (hf : ∀ j, j < c → fits .byte (.int (I a j)) = true) : Sm yJ7_copyOfRange_39247 cJ7_copyOfRange_39247 3 (some (FieldType.array FieldType.byte)) 3 130 1 900 [.ref a, .int 0, .int (nI c)] n (n + 1) sh G I J (fun r_ G_ I_ J_ => some (.ref n) = r_ ∧ G = G_ ∧ cpf I (I a) n 0 0 c = I_ ∧ J = J_) := by
  refine Sm.of (by decide) (ls := [(0, .ref a), (1, .int 0), (2, .int (nI c))]) (fun _ => rfl) (fun _ => Nat.le_of_ble_eq_true rfl) ?_
  refine gc_p (p_iload_n 1 (dk_at ktJ7_copyOfRange_39247_0 0 rfl) rfl rfl (b := 1) rfl) ?_
  refine g_if_ne (dk_at ktJ7_copyOfRange_39247_0 1 rfl) (b := 10) (by decide) (b2 := 4) rfl (fun c1 => ?_) (fun c1 => ?_)
  · first | exact absurd c1 (by decide) | exact absurd (by decide) c1
  · skip
    refine gc_p (p_iload_n 2 (dk_at ktJ7_copyOfRange_39247_0 2 rfl) rfl rfl (b := 5) rfl) ?_
    refine gc_p (p_aload_n 0 (dk_at ktJ7_copyOfRange_39247_0 3 rfl) rfl rfl (b := 6) rfl) ?_
    refine g_balen (by omega) sa (dk_at ktJ7_copyOfRange_39247_0 4 rfl) (b := 7) rfl ?_
    refine g_icmp_eq (dk_at ktJ7_copyOfRange_39247_0 5 rfl) (b := 17) (by decide) (b2 := 10) rfl (fun c7 => ?_) (fun c7 => ?_)
    · have c7 : c = cap := (nI_eq (a := c) (b := cap) (by omega) (by omega)).mp c7
      exfalso; omega
    · have c7 : ¬ c = cap := fun h => c7 ((nI_eq (a := c) (b := cap) (by omega) (by omega)).mpr h)
      refine gc_p (p_aload_n 0 (dk_at ktJ7_copyOfRange_39247_0 6 rfl) rfl rfl (b := 11) rfl) ?_
      refine gc_p (p_iload_n 1 (dk_at ktJ7_copyOfRange_39247_0 7 rfl) rfl rfl (b := 12) rfl) ?_
      refine gc_p (p_iload_n 2 (dk_at ktJ7_copyOfRange_39247_0 8 rfl) rfl rfl (b := 13) rfl) ?_
      refine h_callS (As := [.ref a, .int 0, .int (nI c)]) (rest := []) (n1 := (n + 1)) (m_corB hz hn9 ha sa hc hc9 sn hf) (by omega) cw_J7_339 qs_J7_copyOfRangeByte_39247 (dk_at ktJ7_copyOfRange_39247_0 9 rfl) rfl rfl (by decide) ⟨by decide, Nat.le_of_ble_eq_true rfl⟩ okN (by exact (okCl (okVr (by omega)) (okCl okVi (okCl okVi okNl)))) (b := 16) rfl (kc' := 0) (ks' := 0) (Nat.le_of_ble_eq_true rfl) (Nat.le_of_ble_eq_true rfl) (fun rr0 G0_ I0_ J0_ hq0 hz0 => ?_)
      obtain ⟨rfl, rfl, rfl, rfl⟩ := hq0
      refine h_aret (by first | exact Or.inl ⟨_, rfl⟩ | exact Or.inr ⟨_, rfl⟩) (dk_at ktJ7_copyOfRange_39247_0 10 rfl) ?_ hz0
      exact ⟨rfl, rfl, rfl, rfl⟩
set_option maxRecDepth 4000 in
set_option maxHeartbeats 4000000 in
theorem m_strI {n : Nat} {sh : mS} {G : mG} {I : mI} {J : mJ} (hz : Zo n I J G) (hn9 : n + 2 ≤ 1000) {x : Nat} (hx : x < n) (sx : sh x = .inl (1, 4)) (hc : I x 1 = 0) {a cap cnt : Nat} (ha : a < n) (sa : sh a = .inr (1, cap)) (hv : G x 0 = some a) (hn : I x 3 = nI cnt) (hcc : cnt < cap) (hc9 : cap ≤ 900) (sn : sh n = .inr (1, cnt)) (hf : ∀ j, j < cnt → fits .byte (.int (I a j)) = true) {z : Nat} (hzn : z < n) (sz : sh z = .inl (0, 4)) (hzx : z ≠ x) (hza : z ≠ a) : Sm yJ0_init_db425 cJ0_init_db425 5 none 4 160 1 900 [.ref z, .ref x, .null] n (n + 1) sh G I J (fun r_ G_ I_ J_ => none = r_ ∧ upG G z 0 n = G_ ∧ cpf (up2 I z 1 0) (I a) n 0 0 cnt = I_ ∧ J = J_) := by
  refine Sm.of (by decide) (ls := [(0, .ref z), (1, .ref x), (2, .null)]) (fun _ => rfl) (fun _ => Nat.le_of_ble_eq_true rfl) ?_
  refine gc_p (p_aload_n 0 (dk_at ktJ0_init_db425_0 0 rfl) rfl rfl (b := 1) rfl) ?_
  refine g_oinit qm_J0_1 qi_obj qc_obj (dk_at ktJ0_init_db425_0 1 rfl) ⟨by decide, Nat.le_of_ble_eq_true rfl⟩ (b := 4) rfl ?_
  refine gc_p (p_aload_n 1 (dk_at ktJ0_init_db425_0 2 rfl) rfl rfl (b := 5) rfl) ?_
  refine h_callV (As' := []) (rest := []) (n1 := n) (m_gval hz hn9 hx sx ha hv) (by omega) cw_J0_552 qi_J5_getValue_6d5f1 (sel_of qv_J5_getValue_6d5f1) rfl (by omega) sx (dk_at ktJ0_init_db425_0 3 rfl) rfl rfl (by decide) ⟨by decide, Nat.le_of_ble_eq_true rfl⟩ okN (by exact (okCl (okVr (by omega)) (okCl (okVr (by omega)) (okCl trivial okNl)))) (b := 8) rfl (kc' := 1) (ks' := 900) (Nat.le_of_ble_eq_true rfl) (Nat.le_of_ble_eq_true rfl) (fun rr0 G0_ I0_ J0_ hq0 hz0 => ?_)
  obtain ⟨rfl, rfl, rfl, rfl⟩ := hq0
  refine gc_p (p_astore_n (ls' := [(3, .ref a), (0, .ref z), (1, .ref x), (2, .null)]) (dk_at ktJ0_init_db425_0 4 rfl) rfl (by decide) rfl (b := 9) rfl) ?_
  refine gc_p (p_aload_n 2 (dk_at ktJ0_init_db425_0 5 rfl) rfl rfl (b := 10) rfl) ?_
  refine h_callO (rest := []) (n1 := n) (m_len4 hz hn9 hx sx hn) (by omega) co_J0_549 rfl (by omega) sx (dk_at ktJ0_init_db425_0 6 rfl) rfl (by decide) ⟨by decide, Nat.le_of_ble_eq_true rfl⟩ okN (by exact (okCl (okVr (by omega)) (okCl (okVr (by omega)) (okCl (okVr (by omega)) (okCl trivial okNl))))) (b := 13) rfl (kc' := 1) (ks' := 900) (Nat.le_of_ble_eq_true rfl) (Nat.le_of_ble_eq_true rfl) (fun rr1 G1_ I1_ J1_ hq1 hz1 => ?_)
  obtain ⟨rfl, rfl, rfl, rfl⟩ := hq1
  refine gc_p (p_istore (ls' := [(4, .int (nI cnt)), (3, .ref a), (0, .ref z), (1, .ref x), (2, .null)]) (dk_at ktJ0_init_db425_0 7 rfl) (by decide) rfl (b := 15) rfl) ?_
  refine gc_p (p_aload_n 3 (dk_at ktJ0_init_db425_0 8 rfl) rfl rfl (b := 16) rfl) ?_
  refine h_callV (As' := []) (rest := []) (n1 := n) (m_isLat hz hn9 hx sx hc) (by omega) cw_J0_1047 qi_J5_isLatin1_aae02 (sel_of qv_J5_isLatin1_aae02) rfl (by omega) sx (dk_at ktJ0_init_db425_0 9 rfl) rfl rfl (by decide) ⟨by decide, Nat.le_of_ble_eq_true rfl⟩ okN (by exact (okCl okVi (okCl (okVr (by omega)) (okCl (okVr (by omega)) (okCl (okVr (by omega)) (okCl trivial okNl)))))) (b := 19) rfl (kc' := 1) (ks' := 900) (Nat.le_of_ble_eq_true rfl) (Nat.le_of_ble_eq_true rfl) (fun rr2 G2_ I2_ J2_ hq2 hz2 => ?_)
  obtain ⟨rfl, rfl, rfl, rfl⟩ := hq2
  refine g_if_eq (dk_at ktJ0_init_db425_0 10 rfl) (b := 41) (by decide) (b2 := 22) rfl (fun c19 => ?_) (fun c19 => ?_)
  · first | exact absurd c19 (by decide) | exact absurd (by decide) c19
  · skip
    refine gc_p (p_aload_n 2 (dk_at ktJ0_init_db425_0 11 rfl) rfl rfl (b := 23) rfl) ?_
    refine gc_p (p_iconst (v := 0) (dk_at ktJ0_init_db425_0 12 rfl) (by decide) (b := 24) rfl) ?_
    refine g_putiF (fun _ _ _ _ _ _ _ _ _ h => h.2) f2_J0_15 ⟨tyJ0_ok, nmJ0, rfl, rfl⟩ rfl (by omega) sz rfl rfl (dk_at ktJ0_init_db425_0 13 rfl) (b := 27) rfl ?_
    refine gc_p (p_aload_n 2 (dk_at ktJ0_init_db425_0 14 rfl) rfl rfl (b := 28) rfl) ?_
    refine gc_p (p_aload_n 1 (dk_at ktJ0_init_db425_0 15 rfl) rfl rfl (b := 29) rfl) ?_
    refine gc_p (p_iconst (v := 0) (dk_at ktJ0_init_db425_0 16 rfl) (by decide) (b := 30) rfl) ?_
    refine gc_p (p_iload 0 (dk_at ktJ0_init_db425_0 17 rfl) rfl (b := 32) rfl) ?_
    refine h_callS (As := [.ref a, .int 0, .int (nI cnt)]) (rest := [.ref z]) (n1 := (n + 1)) (m_cor (hz2.ui (by omega)) hn9 ha sa hcc hc9 sn (by rw [up2_off (Ne.symm hza)]; exact hf)) (by omega) cw_J0_54 qs_J7_copyOfRange_39247 (dk_at ktJ0_init_db425_0 18 rfl) rfl rfl (Nat.le_of_ble_eq_true rfl) ⟨by decide, Nat.le_of_ble_eq_true rfl⟩ (by exact (okC (okVr (by omega)) okN)) (by exact (okCl okVi (okCl (okVr (by omega)) (okCl (okVr (by omega)) (okCl (okVr (by omega)) (okCl trivial okNl)))))) (b := 35) rfl (kc' := 0) (ks' := 0) (Nat.le_of_ble_eq_true rfl) (Nat.le_of_ble_eq_true rfl) (fun rr3 G3_ I3_ J3_ hq3 hz3 => ?_)
    obtain ⟨rfl, rfl, hI5, rfl⟩ := hq3
    rw [up2_off (Ne.symm hza)] at hI5
    subst hI5
    refine g_putRF (id2 := n) (fun _ _ _ _ _ _ _ _ _ h => h.2) f2_J0_9 ⟨tyJ0_ok, nmJ0, rfl, rfl⟩ rfl (by omega) sz (fun _ => rfl) (fun _ => rfl) (dk_at ktJ0_init_db425_0 19 rfl) (b := 38) rfl ?_
    refine gc_p (p_goto (b := 97) (dk_at ktJ0_init_db425_0 20 rfl) (by decide)) ?_
    refine h_vret (dk_at ktJ0_init_db425_0 50 rfl) ?_ (hz3.ug (by omega) (by omega))
    exact ⟨rfl, rfl, rfl, rfl⟩
set_option maxRecDepth 4000 in
set_option maxHeartbeats 4000000 in
theorem m_strJ {n : Nat} {sh : mS} {G : mG} {I : mI} {J : mJ} (hz : Zo n I J G) (hn9 : n + 2 ≤ 1000) {x : Nat} (hx : x < n) (sx : sh x = .inl (1, 4)) (hc : I x 1 = 0) {a cap cnt : Nat} (ha : a < n) (sa : sh a = .inr (1, cap)) (hv : G x 0 = some a) (hn : I x 3 = nI cnt) (hcc : cnt < cap) (hc9 : cap ≤ 900) (sn : sh n = .inr (1, cnt)) (hf : ∀ j, j < cnt → fits .byte (.int (I a j)) = true) {z : Nat} (hzn : z < n) (sz : sh z = .inl (0, 4)) (hzx : z ≠ x) (hza : z ≠ a) : Sm yJ0_init_81219 cJ0_init_81219 2 none 5 190 1 900 [.ref z, .ref x] n (n + 1) sh G I J (fun r_ G_ I_ J_ => none = r_ ∧ upG G z 0 n = G_ ∧ cpf (up2 I z 1 0) (I a) n 0 0 cnt = I_ ∧ J = J_) := by
  refine Sm.of (by decide) (ls := [(0, .ref z), (1, .ref x)]) (fun _ => rfl) (fun _ => Nat.le_of_ble_eq_true rfl) ?_
  refine gc_p (p_aload_n 0 (dk_at ktJ0_init_81219_0 0 rfl) rfl rfl (b := 1) rfl) ?_
  refine gc_p (p_aload_n 1 (dk_at ktJ0_init_81219_0 1 rfl) rfl rfl (b := 2) rfl) ?_
  refine gc_p (p_anull (dk_at ktJ0_init_81219_0 2 rfl) (b := 3) rfl) ?_
  refine h_callI (As' := [.ref x, .null]) (rest := []) (n1 := (n + 1)) (m_strI hz hn9 hx sx hc ha sa hv hn hcc hc9 sn hf hzn sz hzx hza) (by omega) cw_J0_489 qi_J0_init_db425 (by decide) (dk_at ktJ0_init_81219_0 3 rfl) rfl rfl (by decide) ⟨by decide, Nat.le_of_ble_eq_true rfl⟩ okN (by exact (okCl (okVr (by omega)) (okCl (okVr (by omega)) okNl))) (b := 6) rfl (kc' := 0) (ks' := 0) (Nat.le_of_ble_eq_true rfl) (Nat.le_of_ble_eq_true rfl) (fun rr0 G0_ I0_ J0_ hq0 hz0 => ?_)
  obtain ⟨rfl, rfl, rfl, rfl⟩ := hq0
  refine h_vret (dk_at ktJ0_init_81219_0 4 rfl) ?_ hz0
  exact ⟨rfl, rfl, rfl, rfl⟩
set_option maxRecDepth 4000 in
set_option maxHeartbeats 4000000 in
theorem m_toS {n : Nat} {sh : mS} {G : mG} {I : mI} {J : mJ} (hz : Zo n I J G) (hn9 : n + 2 ≤ 1000) {x : Nat} (hx : x < n) (sx : sh x = .inl (1, 4)) (hc : I x 1 = 0) {a cap cnt : Nat} (ha : a < n) (sa : sh a = .inr (1, cap)) (hv : G x 0 = some a) (hn : I x 3 = nI cnt) (hcc : cnt < cap) (hc9 : cap ≤ 900) (hf : ∀ j, j < cnt → fits .byte (.int (I a j)) = true) (hn8 : n + 8 ≤ 1000) (sz : sh n = .inl (0, 4)) (sn : sh (n + 1) = .inr (1, cnt)) : Sm yJ4_toString_0e30d cJ4_toString_0e30d 1 (some (FieldType.object "java/lang/String")) 6 230 2 904 [.ref x] n (n + 2) sh G I J (fun r_ G_ I_ J_ => some (.ref n) = r_ ∧ upG G n 0 (n + 1) = G_ ∧ cpf (up2 I n 1 0) (I a) (n + 1) 0 0 cnt = I_ ∧ J = J_) := by
  refine Sm.of (by decide) (ls := [(0, .ref x)]) (fun _ => rfl) (fun _ => Nat.le_of_ble_eq_true rfl) ?_
  refine g_new hz (by omega) (by omega) sz rfl lay_J0 tyJ0_ok qcl_J4_18 qin_J0s qn_java_lang_String dv_J0 okN (by exact (okCl (okVr (by omega)) okNl)) (kc' := 1) (ks' := 900) (by omega) (by omega) (dk_at ktJ4_toString_0e30d_0 0 rfl) (b := 3) rfl ?_
  refine gc_p (p_dup (dk_at ktJ4_toString_0e30d_0 1 rfl) rfl (b := 4) rfl) ?_
  refine gc_p (p_aload_n 0 (dk_at ktJ4_toString_0e30d_0 2 rfl) rfl rfl (b := 5) rfl) ?_
  refine h_callI (As' := [.ref x]) (rest := [.ref n]) (n1 := (n + 2)) (m_strJ (hz.up (Nat.le_succ n)) (by omega) (x := x) (by omega) sx hc (a := a) (by omega) sa hv hn hcc hc9 sn hf (z := n) (by omega) sz (by omega) (by omega)) (by omega) cw_J4_137 qi_J0_init_81219 (by decide) (dk_at ktJ4_toString_0e30d_0 3 rfl) rfl rfl (Nat.le_of_ble_eq_true rfl) ⟨by decide, Nat.le_of_ble_eq_true rfl⟩ (by exact (okC (okVr (by omega)) okN)) (by exact (okCl (okVr (by omega)) okNl)) (b := 8) rfl (kc' := 0) (ks' := 0) (Nat.le_of_ble_eq_true rfl) (Nat.le_of_ble_eq_true rfl) (fun rr0 G0_ I0_ J0_ hq0 hz0 => ?_)
  obtain ⟨rfl, rfl, rfl, rfl⟩ := hq0
  refine h_aret (by first | exact Or.inl ⟨_, rfl⟩ | exact Or.inr ⟨_, rfl⟩) (dk_at ktJ4_toString_0e30d_0 4 rfl) ?_ hz0
  exact ⟨rfl, rfl, rfl, rfl⟩

/-! THE LAW: isTold -/
theorem act_m1 {σ : sT} (h : ¬ 0 ≤ activeI σ) : activeI σ = -1 := by
  by_cases e : activeI σ = -1
  · exact e
  · obtain ⟨p, hp, e2⟩ := act_n rfl e
    exact absurd (by rw [e2]; exact nI_pos' (by omega)) h
theorem act_ge {σ : sT} (h : 0 ≤ activeI σ) : ¬ activeI σ = -1 := fun e => by
  rw [e] at h
  exact absurd h (by decide)
theorem rec_sum {σ : sT} (h : Inv σ) (hJ : nJ σ = 12) : ∃ c, c ≤ 11 ∧ a_cnt σ = nI c ∧ (∀ k, k < c → a_rec σ (nI k) 2 = nI (posR σ k) ∧ 1 ≤ posR σ k ∧ posR σ k < 32 ∧ 1 ≤ a_rec σ (nI k) 0 ∧ a_rec σ (nI k) 0 ≤ 5) ∧ (∀ k, k + 1 < c → posR σ k < posR σ (k + 1)) ∧ (activeI σ = -1 → c = 0 ∧ a_free σ = 0 ∧ a_left σ = 11 ∧ a_gen σ = -1) ∧ (¬ activeI σ = -1 → ∃ s f, a_spl σ = nI s ∧ a_free σ = nI f ∧ a_left σ = nI f ∧ c + s + f ≤ 11) := by
  by_cases e : activeI σ = -1
  · refine ⟨0, by decide, if_pos e, fun k hk => absurd hk (Nat.not_lt_zero _), fun k hk => absurd hk (Nat.not_lt_zero _), fun _ => ⟨rfl, if_pos e, ?_, if_pos e⟩, fun q => absurd e q⟩
    rw [a_left, if_pos e, hJ]
    decide
  · obtain ⟨p, hp, ha⟩ := act_n rfl e
    have hs := page_sum h hp ha
    rw [hJ] at hs
    refine ⟨cntN σ p 12, by omega, ?_, fun k hk => ?_, fun k hk => rec_up h hp ha (by rw [hJ]; exact hk), fun q => absurd q e, fun _ => ⟨splN σ p 12, 12 - ffree σ p 12, ?_, ?_, ?_, by omega⟩⟩
    · rw [a_cnt, if_neg e, ha, tn_nI (by omega), hJ]
    · rw [← hJ] at hk
      obtain ⟨a1, a2, a3⟩ := rec_calls h hp ha hk
      obtain ⟨b1, b2, b3, b4, b5⟩ := rec_at h hp ha hk
      exact ⟨a1, b2, b3, a2, a3⟩
    · rw [a_spl, if_neg e, ha, tn_nI (by omega), hJ]
    · rw [a_free_y hp ha, hJ]
    · rw [a_left_y hp ha, hJ]
def sc (c : Nat → Nat) : Nat → Nat
  | 0 => 0
  | k + 1 => sc c k + c k
theorem sc_8 {c : Nat → Nat} {T : Nat} (h : c 0 + c 1 + c 2 + c 3 + c 4 + c 5 + c 6 + c 7 = T) : sc c 8 = T := by
  rw [← h]
  simp only [sc]
  omega
theorem sc_le {c : Nat → Nat} : ∀ {d k : Nat}, sc c k ≤ sc c (k + d)
  | 0, _ => Nat.le_refl _
  | d + 1, k => by
    have := sc_le (c := c) (d := d) (k := k)
    show sc c k ≤ sc c (k + d) + c (k + d)
    omega
theorem worn_div {a p : Nat} (ha : a < 3) (hp : p < 100) : nI (100 * a + p) / 100 = nI a := by
  rw [show (100 : Int32) = nI 100 from rfl, pk_div (by omega) (by decide) (by decide)]
  congr 1
  omega
theorem worn_rem {a p : Nat} (ha : a < 3) (hp : p < 100) : nI (100 * a + p) - nI (100 * a + p) / 100 * 100 = nI p := by
  rw [show (100 : Int32) = nI 100 from rfl, pk_rem (by omega) (by decide) (by decide)]
  congr 1
  omega
theorem wear_at {σ : sT} {a p : Nat} (ha : a < 3) (hp : p < 100) : a_wear σ (nI a) (nI p) = σ (275 + 16 * a + p) := by
  unfold a_wear
  rw [tn_nI (by omega), tn_nI (by omega)]
theorem min40b {T : Nat} (h : T < 2 ^ 31) : (if nI T < 40 then nI T else 40) = nI (min T 40) := by
  rw [show (40 : Int32) = nI 40 from rfl]
  by_cases q : T < 40
  · rw [if_pos ((nI_ltI h (by decide)).mpr q), Nat.min_eq_left (by omega)]
  · rw [if_neg (fun g => q ((nI_ltI h (by decide)).mp g)), Nat.min_eq_right (by omega)]
theorem run_1 {σ : sT} (h : Inv σ) (q : ¬ σ 8 < 0) : σ 7 = 1 := by
  rcases h.2.2.1 with ⟨_, e⟩ | ⟨e, _⟩ | ⟨_, e⟩
  · rw [e] at q; exact absurd (by decide) q
  · exact e
  · rw [e] at q; exact absurd (by decide) q
theorem run_0 {σ : sT} (h : Inv σ) (q : σ 8 < 0) : ¬ σ 7 = 1 := by
  rcases h.2.2.1 with ⟨e, _⟩ | ⟨_, e | e⟩ | ⟨e, _⟩
  · rw [e]; decide
  · rw [e] at q; exact absurd q (by decide)
  · rw [e] at q; exact absurd q (by decide)
  · rw [e]; decide
theorem word_bt {σ : sT} (hG : Gd σ) {s k : Nat} (hs : s < 2) (hk : k < 16) : a_word σ (nI s) (nI k) = σ (83 + 64 * s + k) := by
  have hw : nW σ = 16 := by unfold nW; rw [hG.1]; decide
  unfold a_word
  rw [if_pos (inb_t (by omega) (by omega)), tn_nI (by omega), tn_nI (by omega)]
theorem can_whole {σ : sT} {s : Nat} (h : canB σ s = true) : wholeB σ s = true := by
  unfold canB at h
  simp only [Bool.and_eq_true] at h
  exact h.1

set_option maxRecDepth 4000 in
set_option maxHeartbeats 4000000 in
theorem tl_s {n : Nat} {sh : mS} {G : mG} {J : mJ} {B : Nat} {σ : sT} {sn : Nat → Option sT} (hB : Bt n sh G) (hI : Inv σ) (hG : Gd σ) {T C : Nat} (kk : ∀ (I : mI), LwR B I σ sn → Rc RL cL_isTold 7 (some FieldType.boolean) 9 360 400 2400 n sh G (Qi (fun r_ I_ J_ => 1 = r_ ∧ J = J_ ∧ LwR B I_ σ sn)) nX C (6 * C) 312 [(0, .ref 0), (3, .int (nI T))] [] I J) : ∀ (d s : Nat) (I : mI), s + d = 2 → LwR B I σ sn → Rc RL cL_isTold 7 (some FieldType.boolean) 9 360 400 2400 n sh G (Qi (fun r_ I_ J_ => 1 = r_ ∧ J = J_ ∧ LwR B I_ σ sn)) nX (8 * d + C) (48 * d + 6 * C) 229 [(0, .ref 0), (3, .int (nI T)), (5, .int (nI s))] [] I J := by
  intro d
  induction d with
  | zero =>
    intro s I hk hL
    refine rc_p (p_iload 2 (dk_at ktL_isTold_2 4 rfl) rfl (b := 231) rfl) ?_
    refine rc_p (p_iconst (v := 1) (dk_at ktL_isTold_2 5 rfl) (by decide) (b := 232) rfl) ?_
    refine r_icmp_gt (dk_at ktL_isTold_2 6 rfl) (b := 312) (by decide) (b2 := 235) rfl (fun c232 => ?_) (fun c232 => ?_)
    · have c232 : 1 < s := (nI_ltI (a := 1) (b := s) (by omega) (by omega)).mp c232
      refine rc_sub [0, 1] (ls' := [(0, .ref 0), (3, .int (nI T))]) rfl ?_
      exact rc_weak (by omega) (by omega) (kk _ hL)
    · have c232 : ¬ 1 < s := fun h => c232 ((nI_ltI (a := 1) (b := s) (by omega) (by omega)).mpr h)
      exfalso; omega
  | succ d ih =>
    intro s I hk hL
    have hs : s < 2 := by omega
    have ht : tn (nI s) = s := tn_nI (by omega)
    refine rc_p (p_iload 2 (dk_at ktL_isTold_2 4 rfl) rfl (b := 231) rfl) ?_
    refine rc_p (p_iconst (v := 1) (dk_at ktL_isTold_2 5 rfl) (by decide) (b := 232) rfl) ?_
    refine r_icmp_gt (dk_at ktL_isTold_2 6 rfl) (b := 312) (by decide) (b2 := 235) rfl (fun c232 => ?_) (fun c232 => ?_)
    · have c232 : 1 < s := (nI_ltI (a := 1) (b := s) (by omega) (by omega)).mp c232
      exfalso; omega
    · have c232 : ¬ 1 < s := fun h => c232 ((nI_ltI (a := 1) (b := s) (by omega) (by omega)).mpr h)
      refine rc_p (p_aload_n 0 (dk_at ktL_isTold_2 7 rfl) rfl rfl (b := 236) rfl) ?_
      refine rc_p (p_iload 2 (dk_at ktL_isTold_2 8 rfl) rfl (b := 238) rfl) ?_
      refine q_code (As' := [.int (nI s)]) (rest := []) (e := 0) (σ' := σ) (fun T N hT hR => s_X6_isBootable hB hR hI (nI s)) hL (cIn_t (rg_t (a := 0) (b := 1) (by omega) (by omega) (by decide))) hB cw_L_139 qi_X6_isBootable qv_X6_isBootable (dk_at ktL_isTold_2 9 rfl) rfl rfl (by decide) ⟨by decide, Nat.le_of_ble_eq_true rfl⟩ (b := 241) rfl (kc' := 8 * d + C + 7) (ks' := 48 * d + 6 * C + 42) (by omega) (by omega) (fun I1 hI1 => ?_)
      have hI1 : LwR (B) I1 (σ) (sn) := hI1
      refine r_if_eq (dk_at ktL_isTold_2 10 rfl) (b := 253) (by decide) (b2 := 244) rfl (fun c241 => ?_) (fun c241 => ?_)
      · have c241 := bi_f c241
        refine rc_p (p_aload_n 0 (dk_at ktL_isTold_2 15 rfl) rfl rfl (b := 254) rfl) ?_
        refine rc_p (p_iload 2 (dk_at ktL_isTold_2 16 rfl) rfl (b := 256) rfl) ?_
        refine q_code (As' := [.int (nI s)]) (rest := []) (e := 0) (σ' := σ) (fun T N hT hR => s_X6_isWhole hB hR hI (nI s)) hI1 (cIn_t (rg_t (a := 0) (b := 1) (by omega) (by omega) (by decide))) hB cw_L_143 qi_X6_isWhole qv_X6_isWhole (dk_at ktL_isTold_2 17 rfl) rfl rfl (by decide) ⟨by decide, Nat.le_of_ble_eq_true rfl⟩ (b := 259) rfl (kc' := 8 * d + C + 6) (ks' := 48 * d + 6 * C + 36) (by omega) (by omega) (fun I2 hI2 => ?_)
        have hI2 : LwR (B) I2 (σ) (sn) := hI2
        refine r_if_eq (dk_at ktL_isTold_2 18 rfl) (b := 306) (by decide) (b2 := 262) rfl (fun c259 => ?_) (fun c259 => ?_)
        · have c259 := bi_f c259
          refine rc_p (p_iinc (j := 2) (v := (nI (s + 1))) (ls' := [(5, .int (nI (s + 1))), (0, .ref 0), (3, .int (nI T))]) (dk_at ktL_isTold_2 42 rfl) rfl (nI_add s 1) (by decide) rfl (b := 309) rfl) ?_
          refine rc_p (p_goto (b := 229) (dk_at ktL_isTold_2 43 rfl) (by decide)) ?_
          refine rc_sub [1, 2, 0] (ls' := [(0, .ref 0), (3, .int (nI T)), (5, .int (nI (s + 1)))]) rfl ?_
          exact rc_weak (by omega) (by omega) (ih _ _ (by omega) hI2)
        · have c259 := bi_t c259
          refine rc_p (p_aload_n 0 (dk_at ktL_isTold_2 19 rfl) rfl rfl (b := 263) rfl) ?_
          refine rc_p (p_iload 2 (dk_at ktL_isTold_2 20 rfl) rfl (b := 265) rfl) ?_
          refine q_code (As' := [.int (nI s)]) (rest := []) (e := 0) (σ' := σ) (fun T N hT hR => s_X6_checksum hB hR hI (nI s)) hI2 (cIn_t (rg_t (a := 0) (b := 1) (by omega) (by omega) (by decide))) hB cw_L_146 qi_X6_checksum qv_X6_checksum (dk_at ktL_isTold_2 21 rfl) rfl rfl (by decide) ⟨by decide, Nat.le_of_ble_eq_true rfl⟩ (b := 268) rfl (kc' := 8 * d + C + 5) (ks' := 48 * d + 6 * C + 30) (by omega) (by omega) (fun I3 hI3 => ?_)
          have hI3 : LwR (B) I3 (σ) (sn) := hI3
          refine rc_p (p_aload_n 0 (dk_at ktL_isTold_2 22 rfl) rfl rfl (b := 269) rfl) ?_
          refine rc_p (p_iload 2 (dk_at ktL_isTold_2 23 rfl) rfl (b := 271) rfl) ?_
          refine rc_p (p_iconst (v := 2) (dk_at ktL_isTold_2 24 rfl) (by decide) (b := 272) rfl) ?_
          refine q_code (As' := [.int (nI s), .int 2]) (rest := [.int (sumS (σ) (tn (nI s)))]) (e := 0) (σ' := σ) (fun T N hT hR => s_X6_word hB hR hI (nI s) 2) hI3 (cIn_t (rg_t (a := 0) (b := 1) (by omega) (by omega) (by decide))) hB cw_L_100 qi_X6_word qv_X6_word (dk_at ktL_isTold_2 25 rfl) rfl rfl (Nat.le_of_ble_eq_true rfl) ⟨by decide, Nat.le_of_ble_eq_true rfl⟩ (b := 275) rfl (kc' := 8 * d + C + 4) (ks' := 48 * d + 6 * C + 24) (by omega) (by omega) (fun I4 hI4 => ?_)
          have hI4 : LwR (B) I4 (σ) (sn) := hI4
          refine r_val (y := (σ (83 + 64 * s + 2))) (word_bt hG (k := 2) hs (by decide)) ?_
          refine r_icmp_ne (dk_at ktL_isTold_2 26 rfl) (b := 304) (by decide) (b2 := 278) rfl (fun c275 => ?_) (fun c275 => ?_)
          · skip
            rw [ht] at c259 c275; exact absurd (dw_in hI c259).1.symm c275
          · skip
            refine rc_p (p_aload_n 0 (dk_at ktL_isTold_2 27 rfl) rfl rfl (b := 279) rfl) ?_
            refine rc_p (p_iload 2 (dk_at ktL_isTold_2 28 rfl) rfl (b := 281) rfl) ?_
            refine q_code (As' := [.int (nI s)]) (rest := []) (e := 0) (σ' := σ) (fun T N hT hR => s_X6_differentWords hB hR hI (nI s)) hI4 (cIn_t (rg_t (a := 0) (b := 1) (by omega) (by omega) (by decide))) hB cw_L_149 qi_X6_differentWords qv_X6_differentWords (dk_at ktL_isTold_2 29 rfl) rfl rfl (by decide) ⟨by decide, Nat.le_of_ble_eq_true rfl⟩ (b := 284) rfl (kc' := 8 * d + C + 3) (ks' := 48 * d + 6 * C + 18) (by omega) (by omega) (fun I5 hI5 => ?_)
            have hI5 : LwR (B) I5 (σ) (sn) := hI5
            refine rc_p (p_aload_n 0 (dk_at ktL_isTold_2 30 rfl) rfl rfl (b := 285) rfl) ?_
            refine rc_p (p_iload 2 (dk_at ktL_isTold_2 31 rfl) rfl (b := 287) rfl) ?_
            refine rc_p (p_iconst (v := 1) (dk_at ktL_isTold_2 32 rfl) (by decide) (b := 288) rfl) ?_
            refine q_code (As' := [.int (nI s), .int 1]) (rest := [.int (a_dw (σ) (tn (nI s)))]) (e := 0) (σ' := σ) (fun T N hT hR => s_X6_word hB hR hI (nI s) 1) hI5 (cIn_t (rg_t (a := 0) (b := 1) (by omega) (by omega) (by decide))) hB cw_L_100 qi_X6_word qv_X6_word (dk_at ktL_isTold_2 33 rfl) rfl rfl (Nat.le_of_ble_eq_true rfl) ⟨by decide, Nat.le_of_ble_eq_true rfl⟩ (b := 291) rfl (kc' := 8 * d + C + 2) (ks' := 48 * d + 6 * C + 12) (by omega) (by omega) (fun I6 hI6 => ?_)
            have hI6 : LwR (B) I6 (σ) (sn) := hI6
            refine r_val (y := (σ (83 + 64 * s + 1))) (word_bt hG (k := 1) hs (by decide)) ?_
            refine r_icmp_gt (dk_at ktL_isTold_2 34 rfl) (b := 304) (by decide) (b2 := 294) rfl (fun c291 => ?_) (fun c291 => ?_)
            · skip
              rw [ht] at c259 c291; exact absurd (dw_in hI c259).2.2 (Int32.not_le.mpr c291)
            · skip
              refine rc_p (p_aload_n 0 (dk_at ktL_isTold_2 35 rfl) rfl rfl (b := 295) rfl) ?_
              refine rc_p (p_iload 2 (dk_at ktL_isTold_2 36 rfl) rfl (b := 297) rfl) ?_
              refine q_code (As' := [.int (nI s)]) (rest := []) (e := 0) (σ' := σ) (fun T N hT hR => s_X6_differentWords hB hR hI (nI s)) hI6 (cIn_t (rg_t (a := 0) (b := 1) (by omega) (by omega) (by decide))) hB cw_L_149 qi_X6_differentWords qv_X6_differentWords (dk_at ktL_isTold_2 37 rfl) rfl rfl (by decide) ⟨by decide, Nat.le_of_ble_eq_true rfl⟩ (b := 300) rfl (kc' := 8 * d + C + 1) (ks' := 48 * d + 6 * C + 6) (by omega) (by omega) (fun I7 hI7 => ?_)
              have hI7 : LwR (B) I7 (σ) (sn) := hI7
              refine rc_p (p_iconst (v := 1) (dk_at ktL_isTold_2 38 rfl) (by decide) (b := 301) rfl) ?_
              refine r_icmp_ge (dk_at ktL_isTold_2 39 rfl) (b := 306) (by decide) (b2 := 304) rfl (fun c301 => ?_) (fun c301 => ?_)
              · skip
                refine rc_p (p_iinc (j := 2) (v := (nI (s + 1))) (ls' := [(5, .int (nI (s + 1))), (0, .ref 0), (3, .int (nI T))]) (dk_at ktL_isTold_2 42 rfl) rfl (nI_add s 1) (by decide) rfl (b := 309) rfl) ?_
                refine rc_p (p_goto (b := 229) (dk_at ktL_isTold_2 43 rfl) (by decide)) ?_
                refine rc_sub [1, 2, 0] (ls' := [(0, .ref 0), (3, .int (nI T)), (5, .int (nI (s + 1)))]) rfl ?_
                exact rc_weak (by omega) (by omega) (ih _ _ (by omega) hI7)
              · skip
                rw [ht] at c259 c301; exact absurd (dw_in hI c259).2.1 c301
      · have c241 := bi_t c241
        refine rc_p (p_aload_n 0 (dk_at ktL_isTold_2 11 rfl) rfl rfl (b := 245) rfl) ?_
        refine rc_p (p_iload 2 (dk_at ktL_isTold_2 12 rfl) rfl (b := 247) rfl) ?_
        refine q_code (As' := [.int (nI s)]) (rest := []) (e := 0) (σ' := σ) (fun T N hT hR => s_X6_isWhole hB hR hI (nI s)) hI1 (cIn_t (rg_t (a := 0) (b := 1) (by omega) (by omega) (by decide))) hB cw_L_143 qi_X6_isWhole qv_X6_isWhole (dk_at ktL_isTold_2 13 rfl) rfl rfl (by decide) ⟨by decide, Nat.le_of_ble_eq_true rfl⟩ (b := 250) rfl (kc' := 8 * d + C + 6) (ks' := 48 * d + 6 * C + 36) (by omega) (by omega) (fun I8 hI8 => ?_)
        have hI8 : LwR (B) I8 (σ) (sn) := hI8
        refine r_if_eq (dk_at ktL_isTold_2 14 rfl) (b := 304) (by decide) (b2 := 253) rfl (fun c250 => ?_) (fun c250 => ?_)
        · have c250 := bi_f c250
          exact absurd (can_whole c241) (by rw [c250]; decide)
        · have c250 := bi_t c250
          refine rc_p (p_aload_n 0 (dk_at ktL_isTold_2 15 rfl) rfl rfl (b := 254) rfl) ?_
          refine rc_p (p_iload 2 (dk_at ktL_isTold_2 16 rfl) rfl (b := 256) rfl) ?_
          refine q_code (As' := [.int (nI s)]) (rest := []) (e := 0) (σ' := σ) (fun T N hT hR => s_X6_isWhole hB hR hI (nI s)) hI8 (cIn_t (rg_t (a := 0) (b := 1) (by omega) (by omega) (by decide))) hB cw_L_143 qi_X6_isWhole qv_X6_isWhole (dk_at ktL_isTold_2 17 rfl) rfl rfl (by decide) ⟨by decide, Nat.le_of_ble_eq_true rfl⟩ (b := 259) rfl (kc' := 8 * d + C + 5) (ks' := 48 * d + 6 * C + 30) (by omega) (by omega) (fun I9 hI9 => ?_)
          have hI9 : LwR (B) I9 (σ) (sn) := hI9
          refine r_if_eq (dk_at ktL_isTold_2 18 rfl) (b := 306) (by decide) (b2 := 262) rfl (fun c259 => ?_) (fun c259 => ?_)
          · have c259 := bi_f c259
            refine rc_p (p_iinc (j := 2) (v := (nI (s + 1))) (ls' := [(5, .int (nI (s + 1))), (0, .ref 0), (3, .int (nI T))]) (dk_at ktL_isTold_2 42 rfl) rfl (nI_add s 1) (by decide) rfl (b := 309) rfl) ?_
            refine rc_p (p_goto (b := 229) (dk_at ktL_isTold_2 43 rfl) (by decide)) ?_
            refine rc_sub [1, 2, 0] (ls' := [(0, .ref 0), (3, .int (nI T)), (5, .int (nI (s + 1)))]) rfl ?_
            exact rc_weak (by omega) (by omega) (ih _ _ (by omega) hI9)
          · have c259 := bi_t c259
            refine rc_p (p_aload_n 0 (dk_at ktL_isTold_2 19 rfl) rfl rfl (b := 263) rfl) ?_
            refine rc_p (p_iload 2 (dk_at ktL_isTold_2 20 rfl) rfl (b := 265) rfl) ?_
            refine q_code (As' := [.int (nI s)]) (rest := []) (e := 0) (σ' := σ) (fun T N hT hR => s_X6_checksum hB hR hI (nI s)) hI9 (cIn_t (rg_t (a := 0) (b := 1) (by omega) (by omega) (by decide))) hB cw_L_146 qi_X6_checksum qv_X6_checksum (dk_at ktL_isTold_2 21 rfl) rfl rfl (by decide) ⟨by decide, Nat.le_of_ble_eq_true rfl⟩ (b := 268) rfl (kc' := 8 * d + C + 4) (ks' := 48 * d + 6 * C + 24) (by omega) (by omega) (fun I10 hI10 => ?_)
            have hI10 : LwR (B) I10 (σ) (sn) := hI10
            refine rc_p (p_aload_n 0 (dk_at ktL_isTold_2 22 rfl) rfl rfl (b := 269) rfl) ?_
            refine rc_p (p_iload 2 (dk_at ktL_isTold_2 23 rfl) rfl (b := 271) rfl) ?_
            refine rc_p (p_iconst (v := 2) (dk_at ktL_isTold_2 24 rfl) (by decide) (b := 272) rfl) ?_
            refine q_code (As' := [.int (nI s), .int 2]) (rest := [.int (sumS (σ) (tn (nI s)))]) (e := 0) (σ' := σ) (fun T N hT hR => s_X6_word hB hR hI (nI s) 2) hI10 (cIn_t (rg_t (a := 0) (b := 1) (by omega) (by omega) (by decide))) hB cw_L_100 qi_X6_word qv_X6_word (dk_at ktL_isTold_2 25 rfl) rfl rfl (Nat.le_of_ble_eq_true rfl) ⟨by decide, Nat.le_of_ble_eq_true rfl⟩ (b := 275) rfl (kc' := 8 * d + C + 3) (ks' := 48 * d + 6 * C + 18) (by omega) (by omega) (fun I11 hI11 => ?_)
            have hI11 : LwR (B) I11 (σ) (sn) := hI11
            refine r_val (y := (σ (83 + 64 * s + 2))) (word_bt hG (k := 2) hs (by decide)) ?_
            refine r_icmp_ne (dk_at ktL_isTold_2 26 rfl) (b := 304) (by decide) (b2 := 278) rfl (fun c275 => ?_) (fun c275 => ?_)
            · skip
              rw [ht] at c259 c275; exact absurd (dw_in hI c259).1.symm c275
            · skip
              refine rc_p (p_aload_n 0 (dk_at ktL_isTold_2 27 rfl) rfl rfl (b := 279) rfl) ?_
              refine rc_p (p_iload 2 (dk_at ktL_isTold_2 28 rfl) rfl (b := 281) rfl) ?_
              refine q_code (As' := [.int (nI s)]) (rest := []) (e := 0) (σ' := σ) (fun T N hT hR => s_X6_differentWords hB hR hI (nI s)) hI11 (cIn_t (rg_t (a := 0) (b := 1) (by omega) (by omega) (by decide))) hB cw_L_149 qi_X6_differentWords qv_X6_differentWords (dk_at ktL_isTold_2 29 rfl) rfl rfl (by decide) ⟨by decide, Nat.le_of_ble_eq_true rfl⟩ (b := 284) rfl (kc' := 8 * d + C + 2) (ks' := 48 * d + 6 * C + 12) (by omega) (by omega) (fun I12 hI12 => ?_)
              have hI12 : LwR (B) I12 (σ) (sn) := hI12
              refine rc_p (p_aload_n 0 (dk_at ktL_isTold_2 30 rfl) rfl rfl (b := 285) rfl) ?_
              refine rc_p (p_iload 2 (dk_at ktL_isTold_2 31 rfl) rfl (b := 287) rfl) ?_
              refine rc_p (p_iconst (v := 1) (dk_at ktL_isTold_2 32 rfl) (by decide) (b := 288) rfl) ?_
              refine q_code (As' := [.int (nI s), .int 1]) (rest := [.int (a_dw (σ) (tn (nI s)))]) (e := 0) (σ' := σ) (fun T N hT hR => s_X6_word hB hR hI (nI s) 1) hI12 (cIn_t (rg_t (a := 0) (b := 1) (by omega) (by omega) (by decide))) hB cw_L_100 qi_X6_word qv_X6_word (dk_at ktL_isTold_2 33 rfl) rfl rfl (Nat.le_of_ble_eq_true rfl) ⟨by decide, Nat.le_of_ble_eq_true rfl⟩ (b := 291) rfl (kc' := 8 * d + C + 1) (ks' := 48 * d + 6 * C + 6) (by omega) (by omega) (fun I13 hI13 => ?_)
              have hI13 : LwR (B) I13 (σ) (sn) := hI13
              refine r_val (y := (σ (83 + 64 * s + 1))) (word_bt hG (k := 1) hs (by decide)) ?_
              refine r_icmp_gt (dk_at ktL_isTold_2 34 rfl) (b := 304) (by decide) (b2 := 294) rfl (fun c291 => ?_) (fun c291 => ?_)
              · skip
                rw [ht] at c259 c291; exact absurd (dw_in hI c259).2.2 (Int32.not_le.mpr c291)
              · skip
                refine rc_p (p_aload_n 0 (dk_at ktL_isTold_2 35 rfl) rfl rfl (b := 295) rfl) ?_
                refine rc_p (p_iload 2 (dk_at ktL_isTold_2 36 rfl) rfl (b := 297) rfl) ?_
                refine q_code (As' := [.int (nI s)]) (rest := []) (e := 0) (σ' := σ) (fun T N hT hR => s_X6_differentWords hB hR hI (nI s)) hI13 (cIn_t (rg_t (a := 0) (b := 1) (by omega) (by omega) (by decide))) hB cw_L_149 qi_X6_differentWords qv_X6_differentWords (dk_at ktL_isTold_2 37 rfl) rfl rfl (by decide) ⟨by decide, Nat.le_of_ble_eq_true rfl⟩ (b := 300) rfl (kc' := 8 * d + C) (ks' := 48 * d + 6 * C) (by omega) (by omega) (fun I14 hI14 => ?_)
                have hI14 : LwR (B) I14 (σ) (sn) := hI14
                refine rc_p (p_iconst (v := 1) (dk_at ktL_isTold_2 38 rfl) (by decide) (b := 301) rfl) ?_
                refine r_icmp_ge (dk_at ktL_isTold_2 39 rfl) (b := 306) (by decide) (b2 := 304) rfl (fun c301 => ?_) (fun c301 => ?_)
                · skip
                  refine rc_p (p_iinc (j := 2) (v := (nI (s + 1))) (ls' := [(5, .int (nI (s + 1))), (0, .ref 0), (3, .int (nI T))]) (dk_at ktL_isTold_2 42 rfl) rfl (nI_add s 1) (by decide) rfl (b := 309) rfl) ?_
                  refine rc_p (p_goto (b := 229) (dk_at ktL_isTold_2 43 rfl) (by decide)) ?_
                  refine rc_sub [1, 2, 0] (ls' := [(0, .ref 0), (3, .int (nI T)), (5, .int (nI (s + 1)))]) rfl ?_
                  exact rc_weak (by omega) (by omega) (ih _ _ (by omega) hI14)
                · skip
                  rw [ht] at c259 c301; exact absurd (dw_in hI c259).2.1 c301
set_option maxRecDepth 4000 in
set_option maxHeartbeats 4000000 in
theorem tl_z {n : Nat} {sh : mS} {G : mG} {J : mJ} {B : Nat} {σ : sT} {sn : Nat → Option sT} (hB : Bt n sh G) (hI : Inv σ) (hG : Gd σ) {I : mI} {T E : Nat} (hT : LG T σ) (hTb : T < 2 ^ 31) (hL : LwR B I σ sn) : Rc RL cL_isTold 7 (some FieldType.boolean) 9 360 400 2400 n sh G (Qi (fun r_ I_ J_ => 1 = r_ ∧ J = J_ ∧ LwR B I_ σ sn)) nX 16 96 312 [(0, .ref 0), (3, .int (nI T))] [] I J := by
  have h10 : σ 10 = nI (min T 40) := by obtain ⟨c, _, _, q⟩ := hT; exact q
  refine rc_p (p_aload_n 0 (dk_at ktL_isTold_2 44 rfl) rfl rfl (b := 313) rfl) ?_
  refine q_plain (As' := []) (rest := []) (e := 0) (σ' := σ) (fun T N hT hR => s_X6_logSize hB hR hI) hL hB cw_L_112 qi_X6_logSize qv_X6_logSize (dk_at ktL_isTold_2 45 rfl) rfl rfl (by decide) ⟨by decide, Nat.le_of_ble_eq_true rfl⟩ (b := 316) rfl (fun I1 hI1 => ?_)
  have hI1 : LwR (B) I1 (σ) (sn) := hI1
  refine r_val (y := nI (min T 40)) h10 ?_
  refine rc_p (p_bipush (v := 40) (dk_at ktL_isTold_2 46 rfl) (by decide) (b := 318) rfl) ?_
  refine rc_p (p_iload_n 1 (dk_at ktL_isTold_2 47 rfl) rfl rfl (b := 319) rfl) ?_
  refine r_mmin (v := (nI (min T 40))) qm_L_152 qmin_s qmath_n qmin_c (dk_at ktL_isTold_2 48 rfl) ⟨by decide, Nat.le_of_ble_eq_true rfl⟩ (min40b hTb) (b := 322) rfl ?_
  refine r_icmp_ne (dk_at ktL_isTold_2 49 rfl) (b := 357) (by decide) (b2 := 325) rfl (fun c322 => ?_) (fun c322 => ?_)
  · have c322 : ¬ (min T 40) = (min T 40) := fun h => c322 ((nI_eq (a := min T 40) (b := min T 40) (by omega) (by omega)).mpr h)
    exact absurd rfl c322
  · have c322 : (min T 40) = (min T 40) := (nI_eq (a := min T 40) (b := min T 40) (by omega) (by omega)).mp c322
    refine rc_p (p_aload_n 0 (dk_at ktL_isTold_2 50 rfl) rfl rfl (b := 326) rfl) ?_
    refine q_plain (As' := []) (rest := []) (e := 0) (σ' := σ) (fun T N hT hR => s_X6_running hB hR hI) hI1 hB cw_L_89 qi_X6_running qv_X6_running (dk_at ktL_isTold_2 51 rfl) rfl rfl (by decide) ⟨by decide, Nat.le_of_ble_eq_true rfl⟩ (b := 329) rfl (fun I3 hI3 => ?_)
    have hI3 : LwR (B) I3 (σ) (sn) := hI3
    refine r_if_lt (dk_at ktL_isTold_2 52 rfl) (b := 336) (by decide) (b2 := 332) rfl (fun c329 => ?_) (fun c329 => ?_)
    · skip
      refine rc_p (p_iconst (v := 0) (dk_at ktL_isTold_2 55 rfl) (by decide) (b := 337) rfl) ?_
      refine rc_p (p_aload_n 0 (dk_at ktL_isTold_2 56 rfl) rfl rfl (b := 338) rfl) ?_
      refine q_plain (As' := []) (rest := [.int 0]) (e := 0) (σ' := σ) (fun T N hT hR => s_X6_state hB hR hI) hI3 hB cw_L_84 qi_X6_state qv_X6_state (dk_at ktL_isTold_2 57 rfl) rfl rfl (Nat.le_of_ble_eq_true rfl) ⟨by decide, Nat.le_of_ble_eq_true rfl⟩ (b := 341) rfl (fun I4 hI4 => ?_)
      have hI4 : LwR (B) I4 (σ) (sn) := hI4
      refine rc_p (p_iconst (v := 1) (dk_at ktL_isTold_2 58 rfl) (by decide) (b := 342) rfl) ?_
      refine r_icmp_ne (dk_at ktL_isTold_2 59 rfl) (b := 349) (by decide) (b2 := 345) rfl (fun c342 => ?_) (fun c342 => ?_)
      · skip
        refine rc_p (p_iconst (v := 0) (dk_at ktL_isTold_3 2 rfl) (by decide) (b := 350) rfl) ?_
        refine r_icmp_ne (dk_at ktL_isTold_3 3 rfl) (b := 357) (by decide) (b2 := 353) rfl (fun c350 => ?_) (fun c350 => ?_)
        · first | exact absurd c350 (by decide) | exact absurd (by decide) c350
        · skip
          refine rc_p (p_iconst (v := 1) (dk_at ktL_isTold_3 4 rfl) (by decide) (b := 354) rfl) ?_
          refine rc_p (p_goto (b := 358) (dk_at ktL_isTold_3 5 rfl) (by decide)) ?_
          refine r_iret (dk_at ktL_isTold_3 7 rfl) rfl rfl ⟨_, rfl, ?_⟩
          exact ⟨rfl, rfl, hI4⟩
      · skip
        exact absurd c342 (run_0 hI c329)
    · skip
      refine rc_p (p_iconst (v := 1) (dk_at ktL_isTold_2 53 rfl) (by decide) (b := 333) rfl) ?_
      refine rc_p (p_goto (b := 337) (dk_at ktL_isTold_2 54 rfl) (by decide)) ?_
      refine rc_p (p_aload_n 0 (dk_at ktL_isTold_2 56 rfl) rfl rfl (b := 338) rfl) ?_
      refine q_plain (As' := []) (rest := [.int 1]) (e := 0) (σ' := σ) (fun T N hT hR => s_X6_state hB hR hI) hI3 hB cw_L_84 qi_X6_state qv_X6_state (dk_at ktL_isTold_2 57 rfl) rfl rfl (Nat.le_of_ble_eq_true rfl) ⟨by decide, Nat.le_of_ble_eq_true rfl⟩ (b := 341) rfl (fun I5 hI5 => ?_)
      have hI5 : LwR (B) I5 (σ) (sn) := hI5
      refine rc_p (p_iconst (v := 1) (dk_at ktL_isTold_2 58 rfl) (by decide) (b := 342) rfl) ?_
      refine r_icmp_ne (dk_at ktL_isTold_2 59 rfl) (b := 349) (by decide) (b2 := 345) rfl (fun c342 => ?_) (fun c342 => ?_)
      · skip
        exact absurd (run_1 hI c329) c342
      · skip
        refine rc_p (p_iconst (v := 1) (dk_at ktL_isTold_3 0 rfl) (by decide) (b := 346) rfl) ?_
        refine rc_p (p_goto (b := 350) (dk_at ktL_isTold_3 1 rfl) (by decide)) ?_
        refine r_icmp_ne (dk_at ktL_isTold_3 3 rfl) (b := 357) (by decide) (b2 := 353) rfl (fun c350 => ?_) (fun c350 => ?_)
        · first | exact absurd c350 (by decide) | exact absurd (by decide) c350
        · skip
          refine rc_p (p_iconst (v := 1) (dk_at ktL_isTold_3 4 rfl) (by decide) (b := 354) rfl) ?_
          refine rc_p (p_goto (b := 358) (dk_at ktL_isTold_3 5 rfl) (by decide)) ?_
          refine r_iret (dk_at ktL_isTold_3 7 rfl) rfl rfl ⟨_, rfl, ?_⟩
          exact ⟨rfl, rfl, hI5⟩
set_option maxRecDepth 4000 in
set_option maxHeartbeats 4000000 in
theorem tl_p {n : Nat} {sh : mS} {G : mG} {J : mJ} {B : Nat} {σ : sT} {sn : Nat → Option sT} (hB : Bt n sh G) (hI : Inv σ) (hG : Gd σ) {T a0 p0 C : Nat} (ha0 : a0 < 3) (hp0 : p0 < if a0 = 2 then 2 else 4) (hm : ∀ b q, b < 3 → q < pgN σ (nI b) → σ (275 + 16 * b + q) ≤ σ (275 + 16 * a0 + p0)) {a : Nat} (ha : a < 3) (kk : ∀ (I : mI), LwR B I σ sn → Rc RL cL_isTold 7 (some FieldType.boolean) 9 360 400 2400 n sh G (Qi (fun r_ I_ J_ => 1 = r_ ∧ J = J_ ∧ LwR B I_ σ sn)) nX C (6 * C) 220 [(0, .ref 0), (3, .int (nI T)), (4, .int (nI (100 * a0 + p0))), (5, .int (nI a))] [] I J) : ∀ (d k : Nat) (I : mI), k + d = (if a = 2 then 2 else 4) → LwR B I σ sn → Rc RL cL_isTold 7 (some FieldType.boolean) 9 360 400 2400 n sh G (Qi (fun r_ I_ J_ => 1 = r_ ∧ J = J_ ∧ LwR B I_ σ sn)) nX (4 * d + C) (24 * d + 6 * C) 171 [(0, .ref 0), (3, .int (nI T)), (4, .int (nI (100 * a0 + p0))), (5, .int (nI a)), (6, .int (nI k))] [] I J := by
  intro d
  induction d with
  | zero =>
    intro k I hk hL
    have hk9 : k ≤ 4 := by split at hk <;> omega
    refine rc_p (p_iload 4 (dk_at ktL_isTold_1 35 rfl) rfl (b := 173) rfl) ?_
    refine rc_p (p_iload 3 (dk_at ktL_isTold_1 36 rfl) rfl (b := 175) rfl) ?_
    refine rc_p (p_iconst (v := 2) (dk_at ktL_isTold_1 37 rfl) (by decide) (b := 176) rfl) ?_
    refine r_icmp_ne (dk_at ktL_isTold_1 38 rfl) (b := 183) (by decide) (b2 := 179) rfl (fun c176 => ?_) (fun c176 => ?_)
    · have c176 : ¬ a = 2 := fun h => c176 ((nI_eq (a := a) (b := 2) (by omega) (by omega)).mpr h)
      refine rc_p (p_iconst (v := 4) (dk_at ktL_isTold_1 41 rfl) (by decide) (b := 184) rfl) ?_
      refine r_icmp_ge (dk_at ktL_isTold_1 42 rfl) (b := 220) (by decide) (b2 := 187) rfl (fun c184 => ?_) (fun c184 => ?_)
      · have c184 : 4 ≤ k := (nI_leI (a := 4) (b := k) (by omega) (by omega)).mp c184
        refine rc_sub [0, 1, 2, 3] (ls' := [(0, .ref 0), (3, .int (nI T)), (4, .int (nI (100 * a0 + p0))), (5, .int (nI a))]) rfl ?_
        exact rc_weak (by omega) (by omega) (kk _ hL)
      · have c184 : ¬ 4 ≤ k := fun h => c184 ((nI_leI (a := 4) (b := k) (by omega) (by omega)).mpr h)
        rw [if_neg c176] at hk; omega
    · have c176 : a = 2 := (nI_eq (a := a) (b := 2) (by omega) (by omega)).mp c176
      refine rc_p (p_iconst (v := 2) (dk_at ktL_isTold_1 39 rfl) (by decide) (b := 180) rfl) ?_
      refine rc_p (p_goto (b := 184) (dk_at ktL_isTold_1 40 rfl) (by decide)) ?_
      refine r_icmp_ge (dk_at ktL_isTold_1 42 rfl) (b := 220) (by decide) (b2 := 187) rfl (fun c184 => ?_) (fun c184 => ?_)
      · have c184 : 2 ≤ k := (nI_leI (a := 2) (b := k) (by omega) (by omega)).mp c184
        refine rc_sub [0, 1, 2, 3] (ls' := [(0, .ref 0), (3, .int (nI T)), (4, .int (nI (100 * a0 + p0))), (5, .int (nI a))]) rfl ?_
        exact rc_weak (by omega) (by omega) (kk _ hL)
      · have c184 : ¬ 2 ≤ k := fun h => c184 ((nI_leI (a := 2) (b := k) (by omega) (by omega)).mpr h)
        rw [if_pos c176] at hk; omega
  | succ d ih =>
    intro k I hk hL
    have hp4 : p0 < 4 := by split at hp0 <;> omega
    have hk4 : k < (if a = 2 then 2 else 4) := by omega
    have hk5 : k < 4 := by split at hk4 <;> omega
    have hmk := hm a k ha (by rw [hG.pg ha]; exact hk4)
    refine rc_p (p_iload 4 (dk_at ktL_isTold_1 35 rfl) rfl (b := 173) rfl) ?_
    refine rc_p (p_iload 3 (dk_at ktL_isTold_1 36 rfl) rfl (b := 175) rfl) ?_
    refine rc_p (p_iconst (v := 2) (dk_at ktL_isTold_1 37 rfl) (by decide) (b := 176) rfl) ?_
    refine r_icmp_ne (dk_at ktL_isTold_1 38 rfl) (b := 183) (by decide) (b2 := 179) rfl (fun c176 => ?_) (fun c176 => ?_)
    · have c176 : ¬ a = 2 := fun h => c176 ((nI_eq (a := a) (b := 2) (by omega) (by omega)).mpr h)
      refine rc_p (p_iconst (v := 4) (dk_at ktL_isTold_1 41 rfl) (by decide) (b := 184) rfl) ?_
      refine r_icmp_ge (dk_at ktL_isTold_1 42 rfl) (b := 220) (by decide) (b2 := 187) rfl (fun c184 => ?_) (fun c184 => ?_)
      · have c184 : 4 ≤ k := (nI_leI (a := 4) (b := k) (by omega) (by omega)).mp c184
        rw [if_neg c176] at hk; omega
      · have c184 : ¬ 4 ≤ k := fun h => c184 ((nI_leI (a := 4) (b := k) (by omega) (by omega)).mpr h)
        refine rc_p (p_aload_n 0 (dk_at ktL_isTold_1 43 rfl) rfl rfl (b := 188) rfl) ?_
        refine rc_p (p_iload 3 (dk_at ktL_isTold_1 44 rfl) rfl (b := 190) rfl) ?_
        refine rc_p (p_iload 4 (dk_at ktL_isTold_1 45 rfl) rfl (b := 192) rfl) ?_
        refine q_code (As' := [.int (nI a), .int (nI k)]) (rest := []) (e := 0) (σ' := σ) (fun T N hT hR => s_X6_wear hB hR hI (nI a) (nI k)) hL (hG.wr ha hk4) hB cw_L_106 qi_X6_wear qv_X6_wear (dk_at ktL_isTold_1 46 rfl) rfl rfl (by decide) ⟨by decide, Nat.le_of_ble_eq_true rfl⟩ (b := 195) rfl (kc' := 4 * d + C + 2) (ks' := 24 * d + 6 * C + 12) (by omega) (by omega) (fun I1 hI1 => ?_)
        have hI1 : LwR (B) I1 (σ) (sn) := hI1
        refine r_val (y := (σ (275 + 16 * a + k))) (wear_at ha (by omega)) ?_
        refine rc_p (p_aload_n 0 (dk_at ktL_isTold_1 47 rfl) rfl rfl (b := 196) rfl) ?_
        refine rc_p (p_iload 2 (dk_at ktL_isTold_1 48 rfl) rfl (b := 198) rfl) ?_
        refine rc_p (p_bipush (v := 100) (dk_at ktL_isTold_1 49 rfl) (by decide) (b := 200) rfl) ?_
        refine rc_p (p_idiv (v := (nI a0)) (dk_at ktL_isTold_1 50 rfl) (by decide) (worn_div ha0 (by omega)) (b := 201) rfl) ?_
        refine rc_p (p_iload 2 (dk_at ktL_isTold_1 51 rfl) rfl (b := 203) rfl) ?_
        refine rc_p (p_bipush (v := 100) (dk_at ktL_isTold_1 52 rfl) (by decide) (b := 205) rfl) ?_
        refine rc_p (p_irem (v := (nI p0)) (dk_at ktL_isTold_1 53 rfl) (by decide) (worn_rem ha0 (by omega)) (b := 206) rfl) ?_
        refine q_code (As' := [.int (nI a0), .int (nI p0)]) (rest := [.int (σ (275 + 16 * a + k))]) (e := 0) (σ' := σ) (fun T N hT hR => s_X6_wear hB hR hI (nI a0) (nI p0)) hI1 (hG.wr ha0 hp0) hB cw_L_106 qi_X6_wear qv_X6_wear (dk_at ktL_isTold_1 54 rfl) rfl rfl (Nat.le_of_ble_eq_true rfl) ⟨by decide, Nat.le_of_ble_eq_true rfl⟩ (b := 209) rfl (kc' := 4 * d + C) (ks' := 24 * d + 6 * C) (by omega) (by omega) (fun I2 hI2 => ?_)
        have hI2 : LwR (B) I2 (σ) (sn) := hI2
        refine r_val (y := (σ (275 + 16 * a0 + p0))) (wear_at ha0 (by omega)) ?_
        refine r_icmp_le (dk_at ktL_isTold_1 55 rfl) (b := 214) (by decide) (b2 := 212) rfl (fun c209 => ?_) (fun c209 => ?_)
        · skip
          refine rc_p (p_iinc (j := 4) (v := (nI (k + 1))) (ls' := [(6, .int (nI (k + 1))), (0, .ref 0), (3, .int (nI T)), (4, .int (nI (100 * a0 + p0))), (5, .int (nI a))]) (dk_at ktL_isTold_1 58 rfl) rfl (nI_add k 1) (by decide) rfl (b := 217) rfl) ?_
          refine rc_p (p_goto (b := 171) (dk_at ktL_isTold_1 59 rfl) (by decide)) ?_
          refine rc_sub [1, 2, 3, 4, 0] (ls' := [(0, .ref 0), (3, .int (nI T)), (4, .int (nI (100 * a0 + p0))), (5, .int (nI a)), (6, .int (nI (k + 1)))]) rfl ?_
          exact rc_weak (by omega) (by omega) (ih _ _ (by omega) hI2)
        · skip
          exact absurd hmk c209
    · have c176 : a = 2 := (nI_eq (a := a) (b := 2) (by omega) (by omega)).mp c176
      refine rc_p (p_iconst (v := 2) (dk_at ktL_isTold_1 39 rfl) (by decide) (b := 180) rfl) ?_
      refine rc_p (p_goto (b := 184) (dk_at ktL_isTold_1 40 rfl) (by decide)) ?_
      refine r_icmp_ge (dk_at ktL_isTold_1 42 rfl) (b := 220) (by decide) (b2 := 187) rfl (fun c184 => ?_) (fun c184 => ?_)
      · have c184 : 2 ≤ k := (nI_leI (a := 2) (b := k) (by omega) (by omega)).mp c184
        rw [if_pos c176] at hk; omega
      · have c184 : ¬ 2 ≤ k := fun h => c184 ((nI_leI (a := 2) (b := k) (by omega) (by omega)).mpr h)
        refine rc_p (p_aload_n 0 (dk_at ktL_isTold_1 43 rfl) rfl rfl (b := 188) rfl) ?_
        refine rc_p (p_iload 3 (dk_at ktL_isTold_1 44 rfl) rfl (b := 190) rfl) ?_
        refine rc_p (p_iload 4 (dk_at ktL_isTold_1 45 rfl) rfl (b := 192) rfl) ?_
        refine q_code (As' := [.int (nI a), .int (nI k)]) (rest := []) (e := 0) (σ' := σ) (fun T N hT hR => s_X6_wear hB hR hI (nI a) (nI k)) hL (hG.wr ha hk4) hB cw_L_106 qi_X6_wear qv_X6_wear (dk_at ktL_isTold_1 46 rfl) rfl rfl (by decide) ⟨by decide, Nat.le_of_ble_eq_true rfl⟩ (b := 195) rfl (kc' := 4 * d + C + 2) (ks' := 24 * d + 6 * C + 12) (by omega) (by omega) (fun I3 hI3 => ?_)
        have hI3 : LwR (B) I3 (σ) (sn) := hI3
        refine r_val (y := (σ (275 + 16 * a + k))) (wear_at ha (by omega)) ?_
        refine rc_p (p_aload_n 0 (dk_at ktL_isTold_1 47 rfl) rfl rfl (b := 196) rfl) ?_
        refine rc_p (p_iload 2 (dk_at ktL_isTold_1 48 rfl) rfl (b := 198) rfl) ?_
        refine rc_p (p_bipush (v := 100) (dk_at ktL_isTold_1 49 rfl) (by decide) (b := 200) rfl) ?_
        refine rc_p (p_idiv (v := (nI a0)) (dk_at ktL_isTold_1 50 rfl) (by decide) (worn_div ha0 (by omega)) (b := 201) rfl) ?_
        refine rc_p (p_iload 2 (dk_at ktL_isTold_1 51 rfl) rfl (b := 203) rfl) ?_
        refine rc_p (p_bipush (v := 100) (dk_at ktL_isTold_1 52 rfl) (by decide) (b := 205) rfl) ?_
        refine rc_p (p_irem (v := (nI p0)) (dk_at ktL_isTold_1 53 rfl) (by decide) (worn_rem ha0 (by omega)) (b := 206) rfl) ?_
        refine q_code (As' := [.int (nI a0), .int (nI p0)]) (rest := [.int (σ (275 + 16 * a + k))]) (e := 0) (σ' := σ) (fun T N hT hR => s_X6_wear hB hR hI (nI a0) (nI p0)) hI3 (hG.wr ha0 hp0) hB cw_L_106 qi_X6_wear qv_X6_wear (dk_at ktL_isTold_1 54 rfl) rfl rfl (Nat.le_of_ble_eq_true rfl) ⟨by decide, Nat.le_of_ble_eq_true rfl⟩ (b := 209) rfl (kc' := 4 * d + C) (ks' := 24 * d + 6 * C) (by omega) (by omega) (fun I4 hI4 => ?_)
        have hI4 : LwR (B) I4 (σ) (sn) := hI4
        refine r_val (y := (σ (275 + 16 * a0 + p0))) (wear_at ha0 (by omega)) ?_
        refine r_icmp_le (dk_at ktL_isTold_1 55 rfl) (b := 214) (by decide) (b2 := 212) rfl (fun c209 => ?_) (fun c209 => ?_)
        · skip
          refine rc_p (p_iinc (j := 4) (v := (nI (k + 1))) (ls' := [(6, .int (nI (k + 1))), (0, .ref 0), (3, .int (nI T)), (4, .int (nI (100 * a0 + p0))), (5, .int (nI a))]) (dk_at ktL_isTold_1 58 rfl) rfl (nI_add k 1) (by decide) rfl (b := 217) rfl) ?_
          refine rc_p (p_goto (b := 171) (dk_at ktL_isTold_1 59 rfl) (by decide)) ?_
          refine rc_sub [1, 2, 3, 4, 0] (ls' := [(0, .ref 0), (3, .int (nI T)), (4, .int (nI (100 * a0 + p0))), (5, .int (nI a)), (6, .int (nI (k + 1)))]) rfl ?_
          exact rc_weak (by omega) (by omega) (ih _ _ (by omega) hI4)
        · skip
          exact absurd hmk c209
set_option maxRecDepth 4000 in
set_option maxHeartbeats 4000000 in
theorem tl_a {n : Nat} {sh : mS} {G : mG} {J : mJ} {B : Nat} {σ : sT} {sn : Nat → Option sT} (hB : Bt n sh G) (hI : Inv σ) (hG : Gd σ) {T a0 p0 C : Nat} (ha0 : a0 < 3) (hp0 : p0 < if a0 = 2 then 2 else 4) (hm : ∀ b q, b < 3 → q < pgN σ (nI b) → σ (275 + 16 * b + q) ≤ σ (275 + 16 * a0 + p0)) (kk : ∀ (I : mI), LwR B I σ sn → Rc RL cL_isTold 7 (some FieldType.boolean) 9 360 400 2400 n sh G (Qi (fun r_ I_ J_ => 1 = r_ ∧ J = J_ ∧ LwR B I_ σ sn)) nX C (6 * C) 226 [(0, .ref 0), (3, .int (nI T))] [] I J) : ∀ (d a : Nat) (I : mI), a + d = 3 → LwR B I σ sn → Rc RL cL_isTold 7 (some FieldType.boolean) 9 360 400 2400 n sh G (Qi (fun r_ I_ J_ => 1 = r_ ∧ J = J_ ∧ LwR B I_ σ sn)) nX (16 * d + C) (96 * d + 6 * C) 162 [(0, .ref 0), (3, .int (nI T)), (4, .int (nI (100 * a0 + p0))), (5, .int (nI a))] [] I J := by
  intro d
  induction d with
  | zero =>
    intro a I hk hL
    refine rc_p (p_iload 3 (dk_at ktL_isTold_1 30 rfl) rfl (b := 164) rfl) ?_
    refine rc_p (p_iconst (v := 2) (dk_at ktL_isTold_1 31 rfl) (by decide) (b := 165) rfl) ?_
    refine r_icmp_gt (dk_at ktL_isTold_1 32 rfl) (b := 226) (by decide) (b2 := 168) rfl (fun c165 => ?_) (fun c165 => ?_)
    · have c165 : 2 < a := (nI_ltI (a := 2) (b := a) (by omega) (by omega)).mp c165
      refine rc_sub [0, 1] (ls' := [(0, .ref 0), (3, .int (nI T))]) rfl ?_
      exact rc_weak (by omega) (by omega) (kk _ hL)
    · have c165 : ¬ 2 < a := fun h => c165 ((nI_ltI (a := 2) (b := a) (by omega) (by omega)).mpr h)
      exfalso; omega
  | succ d ih =>
    intro a I hk hL
    have hl4 : (if a = 2 then 2 else 4) ≤ 4 := by split <;> omega
    refine rc_p (p_iload 3 (dk_at ktL_isTold_1 30 rfl) rfl (b := 164) rfl) ?_
    refine rc_p (p_iconst (v := 2) (dk_at ktL_isTold_1 31 rfl) (by decide) (b := 165) rfl) ?_
    refine r_icmp_gt (dk_at ktL_isTold_1 32 rfl) (b := 226) (by decide) (b2 := 168) rfl (fun c165 => ?_) (fun c165 => ?_)
    · have c165 : 2 < a := (nI_ltI (a := 2) (b := a) (by omega) (by omega)).mp c165
      exfalso; omega
    · have c165 : ¬ 2 < a := fun h => c165 ((nI_ltI (a := 2) (b := a) (by omega) (by omega)).mpr h)
      refine rc_p (p_iconst (v := 0) (dk_at ktL_isTold_1 33 rfl) (by decide) (b := 169) rfl) ?_
      refine rc_p (p_istore (ls' := [(6, .int 0), (0, .ref 0), (3, .int (nI T)), (4, .int (nI (100 * a0 + p0))), (5, .int (nI a))]) (dk_at ktL_isTold_1 34 rfl) (by decide) rfl (b := 171) rfl) ?_
      refine rc_sub [1, 2, 3, 4, 0] (ls' := [(0, .ref 0), (3, .int (nI T)), (4, .int (nI (100 * a0 + p0))), (5, .int (nI a)), (6, .int 0)]) rfl ?_
      refine rc_weak (kc' := 4 * (if a = 2 then 2 else 4) + (16 * d + C)) (ks' := 24 * (if a = 2 then 2 else 4) + 6 * (16 * d + C)) (by omega) (by omega) (tl_p hB hI hG ha0 hp0 hm (a := a) (by omega) (C := 16 * d + C) (fun I1 hL1 => ?_) (if a = 2 then 2 else 4) 0 _ (by omega) hL)
      refine rc_p (p_iinc (j := 3) (v := (nI (a + 1))) (ls' := [(5, .int (nI (a + 1))), (0, .ref 0), (3, .int (nI T)), (4, .int (nI (100 * a0 + p0)))]) (dk_at ktL_isTold_2 0 rfl) rfl (nI_add a 1) (by decide) rfl (b := 223) rfl) ?_
      refine rc_p (p_goto (b := 162) (dk_at ktL_isTold_2 1 rfl) (by decide)) ?_
      refine rc_sub [1, 2, 3, 0] (ls' := [(0, .ref 0), (3, .int (nI T)), (4, .int (nI (100 * a0 + p0))), (5, .int (nI (a + 1)))]) rfl ?_
      exact rc_weak (by omega) (by omega) (ih _ _ (by omega) hL1)
set_option maxRecDepth 4000 in
set_option maxHeartbeats 4000000 in
theorem tl_e {n : Nat} {sh : mS} {G : mG} {J : mJ} {B : Nat} {σ : sT} {sn : Nat → Option sT} (hB : Bt n sh G) (hI : Inv σ) (hG : Gd σ) {c : Nat → Nat} (hc : ∀ k, k < 8 → σ (11 + k) = nI (c k)) (hcb : sc c 8 < 2 ^ 31) {C : Nat} (kk : ∀ (I : mI), LwR B I σ sn → Rc RL cL_isTold 7 (some FieldType.boolean) 9 360 400 2400 n sh G (Qi (fun r_ I_ J_ => 1 = r_ ∧ J = J_ ∧ LwR B I_ σ sn)) nX C (6 * C) 153 [(0, .ref 0), (3, .int (nI (sc c 8)))] [] I J) : ∀ (d k : Nat) (I : mI), k + d = 8 → LwR B I σ sn → Rc RL cL_isTold 7 (some FieldType.boolean) 9 360 400 2400 n sh G (Qi (fun r_ I_ J_ => 1 = r_ ∧ J = J_ ∧ LwR B I_ σ sn)) nX (d + C) (6 * d + 6 * C) 131 [(0, .ref 0), (3, .int (nI (sc c k))), (4, .int (nI k))] [] I J := by
  intro d
  induction d with
  | zero =>
    intro k I hk hL
    obtain rfl : k = 8 := by omega
    refine rc_p (p_iload 2 (dk_at ktL_isTold_1 14 rfl) rfl (b := 133) rfl) ?_
    refine rc_p (p_bipush (v := 7) (dk_at ktL_isTold_1 15 rfl) (by decide) (b := 135) rfl) ?_
    refine r_icmp_gt (dk_at ktL_isTold_1 16 rfl) (b := 153) (by decide) (b2 := 138) rfl (fun c135 => ?_) (fun c135 => ?_)
    · have c135 : 7 < 8 := (nI_ltI (a := 7) (b := 8) (by omega) (by omega)).mp c135
      refine rc_sub [0, 1] (ls' := [(0, .ref 0), (3, .int (nI (sc c 8)))]) rfl ?_
      exact rc_weak (by omega) (by omega) (kk _ hL)
    · have c135 : ¬ 7 < 8 := fun h => c135 ((nI_ltI (a := 7) (b := 8) (by omega) (by omega)).mpr h)
      exfalso; omega
  | succ d ih =>
    intro k I hk hL
    refine rc_p (p_iload 2 (dk_at ktL_isTold_1 14 rfl) rfl (b := 133) rfl) ?_
    refine rc_p (p_bipush (v := 7) (dk_at ktL_isTold_1 15 rfl) (by decide) (b := 135) rfl) ?_
    refine r_icmp_gt (dk_at ktL_isTold_1 16 rfl) (b := 153) (by decide) (b2 := 138) rfl (fun c135 => ?_) (fun c135 => ?_)
    · have c135 : 7 < k := (nI_ltI (a := 7) (b := k) (by omega) (by omega)).mp c135
      exfalso; omega
    · have c135 : ¬ 7 < k := fun h => c135 ((nI_ltI (a := 7) (b := k) (by omega) (by omega)).mpr h)
      refine rc_p (p_iload_n 1 (dk_at ktL_isTold_1 17 rfl) rfl rfl (b := 139) rfl) ?_
      refine rc_p (p_aload_n 0 (dk_at ktL_isTold_1 18 rfl) rfl rfl (b := 140) rfl) ?_
      refine rc_p (p_iload 2 (dk_at ktL_isTold_1 19 rfl) rfl (b := 142) rfl) ?_
      refine q_code (As' := [.int (nI k)]) (rest := [.int (nI (sc c k))]) (e := 0) (σ' := σ) (fun T N hT hR => s_X6_eventCount hB hR hI (nI k)) hL (cIn_t (rg_t (a := 0) (b := 7) (by omega) (by omega) (by decide))) hB cw_L_109 qi_X6_eventCount qv_X6_eventCount (dk_at ktL_isTold_1 20 rfl) rfl rfl (Nat.le_of_ble_eq_true rfl) ⟨by decide, Nat.le_of_ble_eq_true rfl⟩ (b := 145) rfl (kc' := d + C) (ks' := 6 * d + 6 * C) (by omega) (by omega) (fun I1 hI1 => ?_)
      have hI1 : LwR (B) I1 (σ) (sn) := hI1
      refine r_val (y := nI (c k)) (by rw [tn_nI (by omega)]; exact hc k (by omega)) ?_
      refine rc_p (p_iadd (v := (nI (sc c k + (c k)))) (dk_at ktL_isTold_1 21 rfl) (nI_add (sc c k) (c k)) (b := 146) rfl) ?_
      refine rc_p (p_istore_n (ls' := [(3, .int (nI (sc c k + (c k)))), (0, .ref 0), (4, .int (nI k))]) (dk_at ktL_isTold_1 22 rfl) rfl (by decide) rfl (b := 147) rfl) ?_
      refine rc_p (p_iinc (j := 2) (v := (nI (k + 1))) (ls' := [(4, .int (nI (k + 1))), (3, .int (nI (sc c k + (c k)))), (0, .ref 0)]) (dk_at ktL_isTold_1 23 rfl) rfl (nI_add k 1) (by decide) rfl (b := 150) rfl) ?_
      refine rc_p (p_goto (b := 131) (dk_at ktL_isTold_1 24 rfl) (by decide)) ?_
      refine rc_sub [2, 1, 0] (ls' := [(0, .ref 0), (3, .int (nI (sc c k + (c k)))), (4, .int (nI (k + 1)))]) rfl ?_
      exact rc_weak (by omega) (by omega) (ih (k + 1) _ (by omega) hI1)
set_option maxRecDepth 4000 in
set_option maxHeartbeats 4000000 in
theorem tl_r {n : Nat} {sh : mS} {G : mG} {J : mJ} {B : Nat} {σ : sT} {sn : Nat → Option sT} (hB : Bt n sh G) (hI : Inv σ) (hG : Gd σ) {c C : Nat} (hr : ∀ k, k < c → a_rec σ (nI k) 2 = nI (posR σ k) ∧ 1 ≤ posR σ k ∧ posR σ k < 32 ∧ 1 ≤ a_rec σ (nI k) 0 ∧ a_rec σ (nI k) 0 ≤ 5) (hu : ∀ k, k + 1 < c → posR σ k < posR σ (k + 1)) (hc : c ≤ 11) (kk : ∀ (I : mI), LwR B I σ sn → Rc RL cL_isTold 7 (some FieldType.boolean) 9 360 400 2400 n sh G (Qi (fun r_ I_ J_ => 1 = r_ ∧ J = J_ ∧ LwR B I_ σ sn)) nX C (6 * C) 59 [(0, .ref 0), (1, .int (nI c))] [] I J) : ∀ (d k q : Nat) (I : mI), k + d = c → q < 32 → (k < c → q < posR σ k) → LwR B I σ sn → Rc RL cL_isTold 7 (some FieldType.boolean) 9 360 400 2400 n sh G (Qi (fun r_ I_ J_ => 1 = r_ ∧ J = J_ ∧ LwR B I_ σ sn)) nX (4 * d + C) (24 * d + 6 * C) 9 [(0, .ref 0), (1, .int (nI c)), (2, .int (nI q)), (3, .int (nI k))] [] I J := by
  intro d
  induction d with
  | zero =>
    intro k q I hk hq hqk hL
    refine rc_p (p_iload_n 3 (dk_at ktL_isTold_0 7 rfl) rfl rfl (b := 10) rfl) ?_
    refine rc_p (p_iload_n 1 (dk_at ktL_isTold_0 8 rfl) rfl rfl (b := 11) rfl) ?_
    refine r_icmp_ge (dk_at ktL_isTold_0 9 rfl) (b := 59) (by decide) (b2 := 14) rfl (fun c11 => ?_) (fun c11 => ?_)
    · have c11 : c ≤ k := (nI_leI (a := c) (b := k) (by omega) (by omega)).mp c11
      refine rc_sub [0, 1] (ls' := [(0, .ref 0), (1, .int (nI c))]) rfl ?_
      exact rc_weak (by omega) (by omega) (kk _ hL)
    · have c11 : ¬ c ≤ k := fun h => c11 ((nI_leI (a := c) (b := k) (by omega) (by omega)).mpr h)
      exfalso; omega
  | succ d ih =>
    intro k q I hk hq hqk hL
    have hqk := hqk (by omega)
    obtain ⟨r1, r2, r3, r4, r5⟩ := hr k (by omega)
    refine rc_p (p_iload_n 3 (dk_at ktL_isTold_0 7 rfl) rfl rfl (b := 10) rfl) ?_
    refine rc_p (p_iload_n 1 (dk_at ktL_isTold_0 8 rfl) rfl rfl (b := 11) rfl) ?_
    refine r_icmp_ge (dk_at ktL_isTold_0 9 rfl) (b := 59) (by decide) (b2 := 14) rfl (fun c11 => ?_) (fun c11 => ?_)
    · have c11 : c ≤ k := (nI_leI (a := c) (b := k) (by omega) (by omega)).mp c11
      exfalso; omega
    · have c11 : ¬ c ≤ k := fun h => c11 ((nI_leI (a := c) (b := k) (by omega) (by omega)).mpr h)
      refine rc_p (p_aload_n 0 (dk_at ktL_isTold_0 10 rfl) rfl rfl (b := 15) rfl) ?_
      refine rc_p (p_iload_n 3 (dk_at ktL_isTold_0 11 rfl) rfl rfl (b := 16) rfl) ?_
      refine rc_p (p_iconst (v := 2) (dk_at ktL_isTold_0 12 rfl) (by decide) (b := 17) rfl) ?_
      refine q_code (As' := [.int (nI k), .int 2]) (rest := []) (e := 0) (σ' := σ) (fun T N hT hR => s_X6_record hB hR hI (nI k) 2) hL (by decide) hB cw_L_118 qi_X6_record qv_X6_record (dk_at ktL_isTold_0 13 rfl) rfl rfl (by decide) ⟨by decide, Nat.le_of_ble_eq_true rfl⟩ (b := 20) rfl (kc' := 4 * d + C + 3) (ks' := 24 * d + 6 * C + 18) (by omega) (by omega) (fun I1 hI1 => ?_)
      have hI1 : LwR (B) I1 (σ) (sn) := hI1
      refine r_val (y := nI (posR σ k)) r1 ?_
      refine rc_p (p_iload_n 2 (dk_at ktL_isTold_0 14 rfl) rfl rfl (b := 21) rfl) ?_
      refine r_icmp_le (dk_at ktL_isTold_0 15 rfl) (b := 44) (by decide) (b2 := 24) rfl (fun c21 => ?_) (fun c21 => ?_)
      · have c21 : (posR σ k) ≤ q := (nI_leI (a := posR σ k) (b := q) (by omega) (by omega)).mp c21
        exfalso; omega
      · have c21 : ¬ (posR σ k) ≤ q := fun h => c21 ((nI_leI (a := posR σ k) (b := q) (by omega) (by omega)).mpr h)
        refine rc_p (p_aload_n 0 (dk_at ktL_isTold_0 16 rfl) rfl rfl (b := 25) rfl) ?_
        refine rc_p (p_iload_n 3 (dk_at ktL_isTold_0 17 rfl) rfl rfl (b := 26) rfl) ?_
        refine rc_p (p_iconst (v := 0) (dk_at ktL_isTold_0 18 rfl) (by decide) (b := 27) rfl) ?_
        refine q_code (As' := [.int (nI k), .int 0]) (rest := []) (e := 0) (σ' := σ) (fun T N hT hR => s_X6_record hB hR hI (nI k) 0) hI1 (by decide) hB cw_L_118 qi_X6_record qv_X6_record (dk_at ktL_isTold_0 19 rfl) rfl rfl (by decide) ⟨by decide, Nat.le_of_ble_eq_true rfl⟩ (b := 30) rfl (kc' := 4 * d + C + 2) (ks' := 24 * d + 6 * C + 12) (by omega) (by omega) (fun I2 hI2 => ?_)
        have hI2 : LwR (B) I2 (σ) (sn) := hI2
        refine rc_p (p_iconst (v := 1) (dk_at ktL_isTold_0 20 rfl) (by decide) (b := 31) rfl) ?_
        refine r_icmp_lt (dk_at ktL_isTold_0 21 rfl) (b := 44) (by decide) (b2 := 34) rfl (fun c31 => ?_) (fun c31 => ?_)
        · skip
          exact absurd r4 (Int32.not_le.mpr c31)
        · skip
          refine rc_p (p_aload_n 0 (dk_at ktL_isTold_0 22 rfl) rfl rfl (b := 35) rfl) ?_
          refine rc_p (p_iload_n 3 (dk_at ktL_isTold_0 23 rfl) rfl rfl (b := 36) rfl) ?_
          refine rc_p (p_iconst (v := 0) (dk_at ktL_isTold_0 24 rfl) (by decide) (b := 37) rfl) ?_
          refine q_code (As' := [.int (nI k), .int 0]) (rest := []) (e := 0) (σ' := σ) (fun T N hT hR => s_X6_record hB hR hI (nI k) 0) hI2 (by decide) hB cw_L_118 qi_X6_record qv_X6_record (dk_at ktL_isTold_0 25 rfl) rfl rfl (by decide) ⟨by decide, Nat.le_of_ble_eq_true rfl⟩ (b := 40) rfl (kc' := 4 * d + C + 1) (ks' := 24 * d + 6 * C + 6) (by omega) (by omega) (fun I3 hI3 => ?_)
          have hI3 : LwR (B) I3 (σ) (sn) := hI3
          refine rc_p (p_iconst (v := 5) (dk_at ktL_isTold_0 26 rfl) (by decide) (b := 41) rfl) ?_
          refine r_icmp_le (dk_at ktL_isTold_0 27 rfl) (b := 46) (by decide) (b2 := 44) rfl (fun c41 => ?_) (fun c41 => ?_)
          · skip
            refine rc_p (p_aload_n 0 (dk_at ktL_isTold_0 30 rfl) rfl rfl (b := 47) rfl) ?_
            refine rc_p (p_iload_n 3 (dk_at ktL_isTold_0 31 rfl) rfl rfl (b := 48) rfl) ?_
            refine rc_p (p_iconst (v := 2) (dk_at ktL_isTold_0 32 rfl) (by decide) (b := 49) rfl) ?_
            refine q_code (As' := [.int (nI k), .int 2]) (rest := []) (e := 0) (σ' := σ) (fun T N hT hR => s_X6_record hB hR hI (nI k) 2) hI3 (by decide) hB cw_L_118 qi_X6_record qv_X6_record (dk_at ktL_isTold_0 33 rfl) rfl rfl (by decide) ⟨by decide, Nat.le_of_ble_eq_true rfl⟩ (b := 52) rfl (kc' := 4 * d + C) (ks' := 24 * d + 6 * C) (by omega) (by omega) (fun I4 hI4 => ?_)
            have hI4 : LwR (B) I4 (σ) (sn) := hI4
            refine r_val (y := nI (posR σ k)) r1 ?_
            refine rc_p (p_istore_n (ls' := [(2, .int (nI (posR σ k))), (0, .ref 0), (1, .int (nI c)), (3, .int (nI k))]) (dk_at ktL_isTold_0 34 rfl) rfl (by decide) rfl (b := 53) rfl) ?_
            refine rc_p (p_iinc (j := 3) (v := (nI (k + 1))) (ls' := [(3, .int (nI (k + 1))), (2, .int (nI (posR σ k))), (0, .ref 0), (1, .int (nI c))]) (dk_at ktL_isTold_0 35 rfl) rfl (nI_add k 1) (by decide) rfl (b := 56) rfl) ?_
            refine rc_p (p_goto (b := 9) (dk_at ktL_isTold_0 36 rfl) (by decide)) ?_
            refine rc_sub [2, 3, 1, 0] (ls' := [(0, .ref 0), (1, .int (nI c)), (2, .int (nI (posR σ k))), (3, .int (nI (k + 1)))]) rfl ?_
            exact rc_weak (by omega) (by omega) (ih _ _ _ (by omega) r3 (fun q => hu k q) hI4)
          · skip
            exact absurd r5 c41
set_option maxRecDepth 4000 in
set_option maxHeartbeats 4000000 in
theorem tl_m {n : Nat} {sh : mS} {G : mG} {J : mJ} {B : Nat} {σ : sT} {sn : Nat → Option sT} (hB : Bt n sh G) (hI : Inv σ) (hG : Gd σ) {c T : Nat} (hc : c ≤ 11) (h0 : activeI σ = -1 → c = 0 ∧ a_free σ = 0 ∧ a_left σ = 11 ∧ a_gen σ = -1) (h1 : ¬ activeI σ = -1 → ∃ s f, a_spl σ = nI s ∧ a_free σ = nI f ∧ a_left σ = nI f ∧ c + s + f ≤ 11) (kk : ∀ (I : mI), LwR B I σ sn → Rc RL cL_isTold 7 (some FieldType.boolean) 9 360 400 2400 n sh G (Qi (fun r_ I_ J_ => 1 = r_ ∧ J = J_ ∧ LwR B I_ σ sn)) nX 200 1200 126 [(0, .ref 0)] [] I J) {I : mI} (hL : LwR B I σ sn) : Rc RL cL_isTold 7 (some FieldType.boolean) 9 360 400 2400 n sh G (Qi (fun r_ I_ J_ => 1 = r_ ∧ J = J_ ∧ LwR B I_ σ sn)) nX 200 1200 59 [(0, .ref 0), (1, .int (nI c))] [] I J := by
  refine rc_p (p_aload_n 0 (dk_at ktL_isTold_0 37 rfl) rfl rfl (b := 60) rfl) ?_
  refine q_plain (As' := []) (rest := []) (e := 0) (σ' := σ) (fun T N hT hR => s_X6_activePage hB hR hI) hL hB cw_L_121 qi_X6_activePage qv_X6_activePage (dk_at ktL_isTold_0 38 rfl) rfl rfl (by decide) ⟨by decide, Nat.le_of_ble_eq_true rfl⟩ (b := 63) rfl (fun I1 hI1 => ?_)
  have hI1 : LwR (B) I1 (σ) (sn) := hI1
  refine r_if_ge (dk_at ktL_isTold_0 39 rfl) (b := 97) (by decide) (b2 := 66) rfl (fun c63 => ?_) (fun c63 => ?_)
  · skip
    obtain ⟨sp, f, e1, e2, e3, e4⟩ := h1 (act_ge c63)
    refine rc_p (p_iload_n 1 (dk_at ktL_isTold_0 54 rfl) rfl rfl (b := 98) rfl) ?_
    refine rc_p (p_aload_n 0 (dk_at ktL_isTold_0 55 rfl) rfl rfl (b := 99) rfl) ?_
    refine q_plain (As' := []) (rest := [.int (nI c)]) (e := 0) (σ' := σ) (fun T N hT hR => s_X6_spoiled hB hR hI) hI1 hB cw_L_133 qi_X6_spoiled qv_X6_spoiled (dk_at ktL_isTold_0 56 rfl) rfl rfl (Nat.le_of_ble_eq_true rfl) ⟨by decide, Nat.le_of_ble_eq_true rfl⟩ (b := 102) rfl (fun I2 hI2 => ?_)
    have hI2 : LwR (B) I2 (σ) (sn) := hI2
    refine r_val (y := nI sp) e1 ?_
    refine rc_p (p_iadd (v := (nI (c + sp))) (dk_at ktL_isTold_0 57 rfl) (nI_add c sp) (b := 103) rfl) ?_
    refine rc_p (p_aload_n 0 (dk_at ktL_isTold_0 58 rfl) rfl rfl (b := 104) rfl) ?_
    refine q_plain (As' := []) (rest := [.int (nI (c + sp))]) (e := 0) (σ' := σ) (fun T N hT hR => s_X6_freeWords hB hR hI) hI2 hB cw_L_124 qi_X6_freeWords qv_X6_freeWords (dk_at ktL_isTold_0 59 rfl) rfl rfl (Nat.le_of_ble_eq_true rfl) ⟨by decide, Nat.le_of_ble_eq_true rfl⟩ (b := 107) rfl (fun I3 hI3 => ?_)
    have hI3 : LwR (B) I3 (σ) (sn) := hI3
    refine r_val (y := nI f) e2 ?_
    refine rc_p (p_iadd (v := (nI (c + sp + f))) (dk_at ktL_isTold_1 0 rfl) (nI_add (c + sp) f) (b := 108) rfl) ?_
    refine rc_p (p_bipush (v := 11) (dk_at ktL_isTold_1 1 rfl) (by decide) (b := 110) rfl) ?_
    refine r_icmp_gt (dk_at ktL_isTold_1 2 rfl) (b := 124) (by decide) (b2 := 113) rfl (fun c110 => ?_) (fun c110 => ?_)
    · have c110 : 11 < (c + sp + f) := (nI_ltI (a := 11) (b := c + sp + f) (by omega) (by omega)).mp c110
      exfalso; omega
    · have c110 : ¬ 11 < (c + sp + f) := fun h => c110 ((nI_ltI (a := 11) (b := c + sp + f) (by omega) (by omega)).mpr h)
      refine rc_p (p_aload_n 0 (dk_at ktL_isTold_1 3 rfl) rfl rfl (b := 114) rfl) ?_
      refine q_plain (As' := []) (rest := []) (e := 0) (σ' := σ) (fun T N hT hR => s_X6_freeWords hB hR hI) hI3 hB cw_L_124 qi_X6_freeWords qv_X6_freeWords (dk_at ktL_isTold_1 4 rfl) rfl rfl (by decide) ⟨by decide, Nat.le_of_ble_eq_true rfl⟩ (b := 117) rfl (fun I4 hI4 => ?_)
      have hI4 : LwR (B) I4 (σ) (sn) := hI4
      refine r_val (y := nI f) e2 ?_
      refine rc_p (p_aload_n 0 (dk_at ktL_isTold_1 5 rfl) rfl rfl (b := 118) rfl) ?_
      refine q_plain (As' := []) (rest := [.int (nI f)]) (e := 0) (σ' := σ) (fun T N hT hR => s_X6_recordsLeft hB hR hI) hI4 hB cw_L_127 qi_X6_recordsLeft qv_X6_recordsLeft (dk_at ktL_isTold_1 6 rfl) rfl rfl (Nat.le_of_ble_eq_true rfl) ⟨by decide, Nat.le_of_ble_eq_true rfl⟩ (b := 121) rfl (fun I5 hI5 => ?_)
      have hI5 : LwR (B) I5 (σ) (sn) := hI5
      refine r_val (y := nI f) e3 ?_
      refine r_icmp_eq (dk_at ktL_isTold_1 7 rfl) (b := 126) (by decide) (b2 := 124) rfl (fun c121 => ?_) (fun c121 => ?_)
      · have c121 : f = f := (nI_eq (a := f) (b := f) (by omega) (by omega)).mp c121
        refine rc_sub [0] (ls' := [(0, .ref 0)]) rfl ?_
        exact kk _ hI5
      · have c121 : ¬ f = f := fun h => c121 ((nI_eq (a := f) (b := f) (by omega) (by omega)).mpr h)
        exact absurd rfl c121
  · skip
    obtain ⟨rfl, e1, e2, e3⟩ := h0 (act_m1 c63)
    refine rc_p (p_iload_n 1 (dk_at ktL_isTold_0 40 rfl) rfl rfl (b := 67) rfl) ?_
    refine r_if_ne (dk_at ktL_isTold_0 41 rfl) (b := 124) (by decide) (b2 := 70) rfl (fun c67 => ?_) (fun c67 => ?_)
    · first | exact absurd c67 (by decide) | exact absurd (by decide) c67
    · skip
      refine rc_p (p_aload_n 0 (dk_at ktL_isTold_0 42 rfl) rfl rfl (b := 71) rfl) ?_
      refine q_plain (As' := []) (rest := []) (e := 0) (σ' := σ) (fun T N hT hR => s_X6_freeWords hB hR hI) hI1 hB cw_L_124 qi_X6_freeWords qv_X6_freeWords (dk_at ktL_isTold_0 43 rfl) rfl rfl (by decide) ⟨by decide, Nat.le_of_ble_eq_true rfl⟩ (b := 74) rfl (fun I6 hI6 => ?_)
      have hI6 : LwR (B) I6 (σ) (sn) := hI6
      refine r_val (y := 0) e1 ?_
      refine r_if_ne (dk_at ktL_isTold_0 44 rfl) (b := 124) (by decide) (b2 := 77) rfl (fun c74 => ?_) (fun c74 => ?_)
      · first | exact absurd c74 (by decide) | exact absurd (by decide) c74
      · skip
        refine rc_p (p_aload_n 0 (dk_at ktL_isTold_0 45 rfl) rfl rfl (b := 78) rfl) ?_
        refine q_plain (As' := []) (rest := []) (e := 0) (σ' := σ) (fun T N hT hR => s_X6_recordsLeft hB hR hI) hI6 hB cw_L_127 qi_X6_recordsLeft qv_X6_recordsLeft (dk_at ktL_isTold_0 46 rfl) rfl rfl (by decide) ⟨by decide, Nat.le_of_ble_eq_true rfl⟩ (b := 81) rfl (fun I7 hI7 => ?_)
        have hI7 : LwR (B) I7 (σ) (sn) := hI7
        refine r_val (y := 11) e2 ?_
        refine rc_p (p_bipush (v := 11) (dk_at ktL_isTold_0 47 rfl) (by decide) (b := 83) rfl) ?_
        refine r_icmp_ne (dk_at ktL_isTold_0 48 rfl) (b := 124) (by decide) (b2 := 86) rfl (fun c83 => ?_) (fun c83 => ?_)
        · first | exact absurd c83 (by decide) | exact absurd (by decide) c83
        · skip
          refine rc_p (p_aload_n 0 (dk_at ktL_isTold_0 49 rfl) rfl rfl (b := 87) rfl) ?_
          refine q_plain (As' := []) (rest := []) (e := 0) (σ' := σ) (fun T N hT hR => s_X6_generation hB hR hI) hI7 hB cw_L_130 qi_X6_generation qv_X6_generation (dk_at ktL_isTold_0 50 rfl) rfl rfl (by decide) ⟨by decide, Nat.le_of_ble_eq_true rfl⟩ (b := 90) rfl (fun I8 hI8 => ?_)
          have hI8 : LwR (B) I8 (σ) (sn) := hI8
          refine r_val (y := (-1)) e3 ?_
          refine rc_p (p_iconst (v := (-1)) (dk_at ktL_isTold_0 51 rfl) (by decide) (b := 91) rfl) ?_
          refine r_icmp_eq (dk_at ktL_isTold_0 52 rfl) (b := 126) (by decide) (b2 := 94) rfl (fun c91 => ?_) (fun c91 => ?_)
          · skip
            refine rc_sub [0] (ls' := [(0, .ref 0)]) rfl ?_
            exact kk _ hI8
          · first | exact absurd c91 (by decide) | exact absurd (by decide) c91
set_option maxRecDepth 4000 in
set_option maxHeartbeats 4000000 in
theorem s_L_isTold {n : Nat} {sh : mS} {G : mG} {I : mI} {J : mJ} {B : Nat} {σ : sT} {sn : Nat → Option sT} (hB : Bt n sh G) (hL : LwR B I σ sn) (hI : Inv σ) (hG : Gd σ) {T E : Nat} (hT : LG T σ) (hTb : T < 2 ^ 31) (hE : E < 2 ^ 31) (hW : WB E σ) : Sp yL_isTold cL_isTold 7 (some FieldType.boolean) 9 360 400 2400 [.ref 0] n sh G I J (Qi (fun r_ I_ J_ => 1 = r_ ∧ J = J_ ∧ LwR B I_ σ sn)) nX := by
  have hJ : nJ σ = 12 := by unfold nJ; rw [hG.2.2]; decide
  obtain ⟨cc_, c11, e1, e2, e3, e4, e5⟩ := rec_sum hI hJ
  obtain ⟨a0, p0, ha0, hp0, e0, hm⟩ := mw_most hI hE hW
  have hT' := hT
  obtain ⟨c, hc, hs, -⟩ := hT'
  refine Sp.of (by decide) (ls := [(0, .ref 0)]) (fun _ => rfl) (fun _ => Nat.le_of_ble_eq_true rfl) ?_
  refine rc_p (p_aload_n 0 (dk_at ktL_isTold_0 0 rfl) rfl rfl (b := 1) rfl) ?_
  refine q_plain (As' := []) (rest := []) (e := 0) (σ' := σ) (fun T N hT hR => s_X6_recordCount hB hR hI) hL hB cw_L_115 qi_X6_recordCount qv_X6_recordCount (dk_at ktL_isTold_0 1 rfl) rfl rfl (by decide) ⟨by decide, Nat.le_of_ble_eq_true rfl⟩ (b := 4) rfl (fun I1 hI1 => ?_)
  have hI1 : LwR (B) I1 (σ) (sn) := hI1
  refine r_val (y := nI cc_) e1 ?_
  refine rc_p (p_istore_n (ls' := [(1, .int (nI cc_)), (0, .ref 0)]) (dk_at ktL_isTold_0 2 rfl) rfl (by decide) rfl (b := 5) rfl) ?_
  refine rc_p (p_iconst (v := 0) (dk_at ktL_isTold_0 3 rfl) (by decide) (b := 6) rfl) ?_
  refine rc_p (p_istore_n (ls' := [(2, .int 0), (1, .int (nI cc_)), (0, .ref 0)]) (dk_at ktL_isTold_0 4 rfl) rfl (by decide) rfl (b := 7) rfl) ?_
  refine rc_p (p_iconst (v := 0) (dk_at ktL_isTold_0 5 rfl) (by decide) (b := 8) rfl) ?_
  refine rc_p (p_istore_n (ls' := [(3, .int 0), (2, .int 0), (1, .int (nI cc_)), (0, .ref 0)]) (dk_at ktL_isTold_0 6 rfl) rfl (by decide) rfl (b := 9) rfl) ?_
  refine rc_sub [3, 2, 1, 0] (ls' := [(0, .ref 0), (1, .int (nI cc_)), (2, .int 0), (3, .int 0)]) rfl ?_
  refine rc_weak (kc' := 4 * cc_ + 200) (ks' := 24 * cc_ + 6 * 200) (by omega) (by omega) (tl_r hB hI hG (C := 200) e2 e3 c11 (fun I0 hL0 => ?_) cc_ 0 0 _ (by omega) (by omega) (fun q => (e2 0 q).2.1) hI1)
  refine tl_m hB hI hG (T := 0) c11 e4 e5 (fun I1 hL1 => ?_) hL0
  refine rc_p (p_iconst (v := 0) (dk_at ktL_isTold_1 10 rfl) (by decide) (b := 127) rfl) ?_
  refine rc_p (p_istore_n (ls' := [(3, .int 0), (0, .ref 0)]) (dk_at ktL_isTold_1 11 rfl) rfl (by decide) rfl (b := 128) rfl) ?_
  refine rc_p (p_iconst (v := 0) (dk_at ktL_isTold_1 12 rfl) (by decide) (b := 129) rfl) ?_
  refine rc_p (p_istore (ls' := [(4, .int 0), (3, .int 0), (0, .ref 0)]) (dk_at ktL_isTold_1 13 rfl) (by decide) rfl (b := 131) rfl) ?_
  refine rc_sub [2, 1, 0] (ls' := [(0, .ref 0), (3, .int 0), (4, .int 0)]) rfl ?_
  refine tl_e hB hI hG (c := c) hc (by rw [sc_8 hs]; exact hTb) (C := 192) (fun I2 hL2 => ?_) 8 0 _ (by omega) hL1
  rw [sc_8 hs]
  refine rc_p (p_aload_n 0 (dk_at ktL_isTold_1 25 rfl) rfl rfl (b := 154) rfl) ?_
  refine q_plain (As' := []) (rest := []) (e := 0) (σ' := σ) (fun T N hT hR => s_X6_mostWorn hB hR hI) hL2 hB cw_L_136 qi_X6_mostWorn qv_X6_mostWorn (dk_at ktL_isTold_1 26 rfl) rfl rfl (by decide) ⟨by decide, Nat.le_of_ble_eq_true rfl⟩ (b := 157) rfl (fun I1 hI1 => ?_)
  have hI1 : LwR (B) I1 (σ) (sn) := hI1
  refine r_val (y := nI (100 * a0 + p0)) e0 ?_
  refine rc_p (p_istore (ls' := [(4, .int (nI (100 * a0 + p0))), (0, .ref 0), (3, .int (nI T))]) (dk_at ktL_isTold_1 27 rfl) (by decide) rfl (b := 159) rfl) ?_
  refine rc_p (p_iconst (v := 0) (dk_at ktL_isTold_1 28 rfl) (by decide) (b := 160) rfl) ?_
  refine rc_p (p_istore (ls' := [(5, .int 0), (4, .int (nI (100 * a0 + p0))), (0, .ref 0), (3, .int (nI T))]) (dk_at ktL_isTold_1 29 rfl) (by decide) rfl (b := 162) rfl) ?_
  refine rc_sub [2, 3, 1, 0] (ls' := [(0, .ref 0), (3, .int (nI T)), (4, .int (nI (100 * a0 + p0))), (5, .int 0)]) rfl ?_
  refine rc_weak (Nat.le_of_ble_eq_true rfl) (Nat.le_of_ble_eq_true rfl) (tl_a hB hI hG ha0 (by rw [← hG.pg ha0]; exact hp0) hm (C := 32) (fun I3 hL3 => ?_) 3 0 _ (by omega) hI1)
  refine rc_p (p_iconst (v := 0) (dk_at ktL_isTold_2 2 rfl) (by decide) (b := 227) rfl) ?_
  refine rc_p (p_istore (ls' := [(5, .int 0), (0, .ref 0), (3, .int (nI T))]) (dk_at ktL_isTold_2 3 rfl) (by decide) rfl (b := 229) rfl) ?_
  refine rc_sub [1, 2, 0] (ls' := [(0, .ref 0), (3, .int (nI T)), (5, .int 0)]) rfl ?_
  exact tl_s hB hI hG (C := 16) (fun I4 hL4 => tl_z hB hI hG (E := 0) hT hTb hL4) 2 0 _ (by omega) hL3

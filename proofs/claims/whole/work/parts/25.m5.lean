/-! THE REFERENCE: moving the journal, appending a record -/
theorem rcS_2 {τ : sT} : rcS τ 2 = rc4 τ := rfl
set_option maxRecDepth 4000 in
set_option maxHeartbeats 4000000 in
theorem s_X7_movesJournal {n : Nat} {sh : mS} {G : mG} {I : mI} {J : mJ} {m : Nat} {σ : sT} (hm : ModG n sh G m) (hR : RelW (I (m + 1)) σ) (hI : Inv σ) (hC : I m 23 = 0) (p : Nat) (hp : p < 2) (hA : activeI σ = nI p) : Sp yX7_movesJournal cX7_movesJournal 5 (some FieldType.boolean) 6 288 0 0 [.ref m] n sh G I J (Qi (fun r_ I_ J_ => bi (fMoveP p σ).1 = r_ ∧ J = J_ ∧ RelW (I_ (m + 1)) (sStop (fMoveP p σ).1 (fMoveP p σ).2) ∧ FF m [1] [18, 19, 20, 21, 22, 23, 24] I I_ ∧ I_ m 23 = ic (fMoveP p σ).1)) nX := by
  refine Sp.of (by decide) (ls := [(0, .ref m)]) (fun _ => rfl) (fun _ => Nat.le_of_ble_eq_true rfl) ?_
  have cut194 : sHas σ = true → ∀ (pre : List Int32) (Iz : mI) (σz : sT), MV m p σ I pre Iz σz → recs (told σ) = pre → Rc RX7 cX7_movesJournal 5 (some FieldType.boolean) 6 288 0 0 n sh G (Qi (fun r_ I_ J_ => bi (fMoveP p σ).1 = r_ ∧ J = J_ ∧ RelW (I_ (m + 1)) (sStop (fMoveP p σ).1 (fMoveP p σ).2) ∧ FF m [1] [18, 19, 20, 21, 22, 23, 24] I I_ ∧ I_ m 23 = ic (fMoveP p σ).1)) nX 0 0 194 [(0, .ref m), (2, .int ((genI σ p + 1) % 256)), (3, .int (nI (1 - p)))] [] Iz J := by
    intro hs pre Iz σz hz hr
    refine rc_p (p_aload_n 0 (dk_at ktX7_movesJournal_1 48 rfl) rfl rfl (b := 195) rfl) ?_
    refine rc_p (p_iload_n 2 (dk_at ktX7_movesJournal_1 49 rfl) rfl rfl (b := 196) rfl) ?_
    refine r_iS (As := [.int (nI (1 - p))]) (rest := [.ref m]) (s_X7_pageAt (1 - p)) cw_X7_216 qs_X7_pageAt (dk_at ktX7_movesJournal_1 50 rfl) rfl rfl (Nat.le_of_ble_eq_true rfl) (by decide) (b := 199) rfl (fun v4 I1 J2 q3 => ?_)
    obtain ⟨rfl, rfl, rfl⟩ := q3
    refine rc_p (p_bipush (v := 6) (dk_at ktX7_movesJournal_1 51 rfl) (by decide) (b := 201) rfl) ?_
    refine rc_p (p_iload_n 1 (dk_at ktX7_movesJournal_1 52 rfl) rfl rfl (b := 202) rfl) ?_
    refine r_iS (As := [.int 6, .int ((genI σ p + 1) % 256)]) (rest := [.int (nI (211 + 32 * (1 - p))), .ref m]) (s_X7_wordOf 6 ((genI σ p + 1) % 256)) cw_X7_50 qs_X7_wordOf (dk_at ktX7_movesJournal_1 53 rfl) rfl rfl (Nat.le_of_ble_eq_true rfl) (by decide) (b := 205) rfl (fun v8 I5 J6 q7 => ?_)
    obtain ⟨rfl, rfl, rfl⟩ := q7
    refine r_iV (As' := [.int (nI (211 + 32 * (1 - p))), .int (wordI 6 ((genI σ p + 1) % 256))]) (rest := []) (s_X7_writes hm (σ := σz) hz.1 hz.2.1 hz.2.2.1 (211 + 32 * (1 - p)) (by omega) (by omega) (wordI 6 ((genI σ p + 1) % 256))) cw_X7_280 qi_X7_writes qv_X7_writes rfl hm.l0 hm.s0 (dk_at ktX7_movesJournal_1 54 rfl) rfl rfl (Nat.le_of_ble_eq_true rfl) (by decide) (b := 208) rfl (fun v12 I9 J10 q11 => ?_)
    obtain ⟨rfl, rfl, hR13, hF14, hC15⟩ := q11
    refine r_if_ne (dk_at ktX7_movesJournal_1 55 rfl) (b := 213) (by decide) (b2 := 211) rfl (fun c208 => ?_) (fun c208 => ?_)
    · have c208 := bi_t c208
      have hR16 : RelW (I9 (m + 1)) (sWr σz (211 + 32 * (1 - p)) (wordI 6 ((genI σ p + 1) % 256))) := by rw [c208] at hR13; exact hR13
      have hC17 : I9 m 23 = 0 := by rw [c208] at hC15; exact hC15
      refine rc_p (p_aload_n 0 (dk_at ktX7_movesJournal_1 58 rfl) rfl rfl (b := 214) rfl) ?_
      refine rc_p (p_iconst (v := 5) (dk_at ktX7_movesJournal_1 59 rfl) (by decide) (b := 215) rfl) ?_
      refine rc_p (p_iload_n 2 (dk_at ktX7_movesJournal_2 0 rfl) rfl rfl (b := 216) rfl) ?_
      refine r_vV (As' := [.int 5, .int (nI (1 - p))]) (rest := []) (s_X7_notes hm (σ := (sWr σz (211 + 32 * (1 - p)) (wordI 6 ((genI σ p + 1) % 256)))) hR16 ((Inv.wr hz.2.1 (by omega) (by omega))).2.1 5 (by decide) (nI (1 - p))) cw_X7_262 qi_X7_notes qv_X7_notes rfl hm.l0 hm.s0 (dk_at ktX7_movesJournal_2 1 rfl) rfl rfl (Nat.le_of_ble_eq_true rfl) (by decide) (b := 219) rfl (fun I18 J19 q20 => ?_)
      obtain ⟨rfl, hR22, hF23⟩ := q20
      refine rc_p (p_iconst (v := 1) (dk_at ktX7_movesJournal_2 2 rfl) (by decide) (b := 220) rfl) ?_
      refine r_iret (dk_at ktX7_movesJournal_2 3 rfl) rfl rfl ⟨_, rfl, ?_⟩
      have e : fMoveP p σ = (true, sNote (sWr σz (211 + 32 * (1 - p)) (wordI 6 ((genI σ p + 1) % 256))) 5 (nI (1 - p))) := by
        rw [hz.done hs hr, sq_t (show (fWr _ _ σz).1 = true from c208)]
        rfl
      refine ⟨by rw [e]; rfl, rfl, by rw [e]; exact hR22, ?_, ?_⟩
      · exact hz.2.2.2.2.2.2.tr (FF.tr (hF14.mo (by decide) (by decide)) (hF23.mo (by decide) (by decide)))
      · rw [hF23.2 23 (by decide), e]; exact hC17
    · have c208 := bi_f c208
      have hR24 : RelW (I9 (m + 1)) (sCut (sWr σz (211 + 32 * (1 - p)) (wordI 6 ((genI σ p + 1) % 256)))) := by rw [c208] at hR13; exact hR13
      have hC25 : I9 m 23 = 1 := by rw [c208] at hC15; exact hC15
      refine rc_p (p_iconst (v := 0) (dk_at ktX7_movesJournal_1 56 rfl) (by decide) (b := 212) rfl) ?_
      refine r_iret (dk_at ktX7_movesJournal_1 57 rfl) rfl rfl ⟨_, rfl, ?_⟩
      have e : fMoveP p σ = (false, sWr σz (211 + 32 * (1 - p)) (wordI 6 ((genI σ p + 1) % 256))) := by
        rw [hz.done hs hr, sq_f (show (fWr _ _ σz).1 = false from c208)]
        exact Prod.ext c208 rfl
      refine ⟨by rw [e]; rfl, rfl, by rw [e]; exact hR24, ?_, by rw [e]; exact hC25⟩
      exact hz.2.2.2.2.2.2.tr (hF14.mo (by decide) (by decide))
  have cut153 : sHas σ = true → ∀ (t k : Nat) (pre : List Int32) (Iz : mI) (σz : sT), 5 - k < t → MV m p σ I pre Iz σz → (told σ 2 = -1 → recs (told σ) = pre) → (¬ told σ 2 = -1 → k ≤ trN (told σ) ∧ recs (told σ) = pre ++ List.replicate (trN (told σ) - k) (wordI 4 (told σ 2))) → Rc RX7 cX7_movesJournal 5 (some FieldType.boolean) 6 288 0 0 n sh G (Qi (fun r_ I_ J_ => bi (fMoveP p σ).1 = r_ ∧ J = J_ ∧ RelW (I_ (m + 1)) (sStop (fMoveP p σ).1 (fMoveP p σ).2) ∧ FF m [1] [18, 19, 20, 21, 22, 23, 24] I I_ ∧ I_ m 23 = ic (fMoveP p σ).1)) nX 0 0 153 [(4, .int (nI k)), (0, .ref m), (2, .int ((genI σ p + 1) % 256)), (3, .int (nI (1 - p)))] [] Iz J := by
    intro hs t
    induction t
    · intro k pre Iz σz h; omega
    rename_i t ih
    intro k pre Iz σz ht hz h1 h2
    have htr : trN (told σ) ≤ 3 := Nat.min_le_left _ _
    have hb := hI.bd
    refine rc_p (p_aload_n 1 (dk_at ktX7_movesJournal_1 28 rfl) rfl rfl (b := 154) rfl) ?_
    refine r_geti fl_X7_235 rfl hm.l0 hm.s0 (dk_at ktX7_movesJournal_1 29 rfl) (v := ((told σ) 2)) (hz.2.2.2.1 2 (by decide)) (b := 157) rfl ?_
    refine rc_p (p_iconst (v := (-1)) (dk_at ktX7_movesJournal_1 30 rfl) (by decide) (b := 158) rfl) ?_
    refine r_icmp_eq (dk_at ktX7_movesJournal_1 31 rfl) (b := 194) (by decide) (b2 := 161) rfl (fun c158 => ?_) (fun c158 => ?_)
    · skip
      refine rc_sub [1, 2, 3] (ls' := [(0, .ref m), (2, .int ((genI σ p + 1) % 256)), (3, .int (nI (1 - p)))]) rfl ?_
      exact cut194 hs pre Iz σz hz (h1 c158)
    · skip
      obtain ⟨h3, hr3⟩ := h2 c158
      refine rc_p (p_iload 0 (dk_at ktX7_movesJournal_1 32 rfl) rfl (b := 163) rfl) ?_
      refine rc_p (p_iconst (v := 3) (dk_at ktX7_movesJournal_1 33 rfl) (by decide) (b := 164) rfl) ?_
      refine rc_p (p_aload_n 1 (dk_at ktX7_movesJournal_1 34 rfl) rfl rfl (b := 165) rfl) ?_
      refine r_geti fl_X7_238 rfl hm.l0 hm.s0 (dk_at ktX7_movesJournal_1 35 rfl) (v := ((told σ) 3)) (hz.2.2.2.1 3 (by decide)) (b := 168) rfl ?_
      refine r_mmin (v := (nI (trN (told σ)))) qm_X7_289 qmin_s qmath_n qmin_c (dk_at ktX7_movesJournal_1 36 rfl) ⟨by decide, Nat.le_of_ble_eq_true rfl⟩ (min_tr (told_3 hb.2.2.2.2.2.2.1)) (b := 171) rfl ?_
      refine r_icmp_ge (dk_at ktX7_movesJournal_1 37 rfl) (b := 194) (by decide) (b2 := 174) rfl (fun c171 => ?_) (fun c171 => ?_)
      · have c171 : (trN (told σ)) ≤ k := (nI_leI (a := trN (told σ)) (b := k) (by omega) (by omega)).mp c171
        refine rc_sub [1, 2, 3] (ls' := [(0, .ref m), (2, .int ((genI σ p + 1) % 256)), (3, .int (nI (1 - p)))]) rfl ?_
        exact cut194 hs pre Iz σz hz (by rw [hr3, show trN (told σ) - k = 0 by omega]; exact List.append_nil _)
      · have c171 : ¬ (trN (told σ)) ≤ k := fun h => c171 ((nI_leI (a := trN (told σ)) (b := k) (by omega) (by omega)).mpr h)
        have hl2 := mv_len (show recs (told σ) = pre ++ wordI 4 (told σ 2) :: List.replicate (trN (told σ) - (k + 1)) (wordI 4 (told σ 2)) by rw [hr3, show trN (told σ) - k = (trN (told σ) - (k + 1)) + 1 by omega]; rfl)
        simp only [List.length_cons] at hl2
        refine rc_p (p_aload_n 1 (dk_at ktX7_movesJournal_1 38 rfl) rfl rfl (b := 175) rfl) ?_
        refine rc_p (p_iconst (v := 4) (dk_at ktX7_movesJournal_1 39 rfl) (by decide) (b := 176) rfl) ?_
        refine rc_p (p_aload_n 1 (dk_at ktX7_movesJournal_1 40 rfl) rfl rfl (b := 177) rfl) ?_
        refine r_geti fl_X7_235 rfl hm.l0 hm.s0 (dk_at ktX7_movesJournal_1 41 rfl) (v := ((told σ) 2)) (hz.2.2.2.1 2 (by decide)) (b := 180) rfl ?_
        refine r_iV (As' := [.int 4, .int ((told σ) 2)]) (rest := []) (s_X7_moves hm (σ := σz) hz.1 hz.2.1 hz.2.2.1 (211 + 32 * (1 - p) + 1 + pre.length) (by omega) (by omega) hz.2.2.2.2.1 4 ((told σ) 2)) cw_X7_286 qi_X7_moves qv_X7_moves rfl hm.l0 hm.s0 (dk_at ktX7_movesJournal_1 42 rfl) rfl rfl (Nat.le_of_ble_eq_true rfl) (by decide) (b := 183) rfl (fun v29 I26 J27 q28 => ?_)
        obtain ⟨rfl, rfl, hR30, hF31, hC32, hQ33⟩ := q28
        refine r_if_ne (dk_at ktX7_movesJournal_1 43 rfl) (b := 188) (by decide) (b2 := 186) rfl (fun c183 => ?_) (fun c183 => ?_)
        · have c183 := bi_t c183
          have hR34 : RelW (I26 (m + 1)) (sWr σz (211 + 32 * (1 - p) + 1 + pre.length) (wordI 4 ((told σ) 2))) := by rw [c183] at hR30; exact hR30
          have hC35 : I26 m 23 = 0 := by rw [c183] at hC32; exact hC32
          have hM36 := hz.step hp (by omega) c183 hR34 hF31 hC35 hQ33
          refine rc_p (p_iinc (j := 0) (v := (nI (k + 1))) (ls' := [(4, .int (nI (k + 1))), (0, .ref m), (2, .int ((genI σ p + 1) % 256)), (3, .int (nI (1 - p)))]) (dk_at ktX7_movesJournal_1 46 rfl) rfl (nI_add k 1) (by decide) rfl (b := 191) rfl) ?_
          refine rc_p (p_goto (b := 153) (dk_at ktX7_movesJournal_1 47 rfl) (by decide)) ?_
          exact ih (k + 1) (pre ++ [(wordI 4 ((told σ) 2))]) I26 (sWr σz (211 + 32 * (1 - p) + 1 + pre.length) (wordI 4 ((told σ) 2))) (by omega) hM36 (fun h => absurd h c158) (fun _ => ⟨by omega, by rw [hr3, show trN (told σ) - k = (trN (told σ) - (k + 1)) + 1 by omega, List.append_assoc]; try rfl⟩)
        · have c183 := bi_f c183
          have hR37 : RelW (I26 (m + 1)) (sCut (sWr σz (211 + 32 * (1 - p) + 1 + pre.length) (wordI 4 ((told σ) 2)))) := by rw [c183] at hR30; exact hR30
          have hC38 : I26 m 23 = 1 := by rw [c183] at hC32; exact hC32
          refine rc_p (p_iconst (v := 0) (dk_at ktX7_movesJournal_1 44 rfl) (by decide) (b := 187) rfl) ?_
          refine r_iret (dk_at ktX7_movesJournal_1 45 rfl) rfl rfl ⟨_, rfl, ?_⟩
          have e := hz.stop hs (by rw [hr3, show trN (told σ) - k = (trN (told σ) - (k + 1)) + 1 by omega]; rfl) c183
          refine ⟨by rw [e]; rfl, rfl, by rw [e]; exact hR37, ?_, by rw [e]; exact hC38⟩
          exact hz.2.2.2.2.2.2.tr (hF31.mo (by decide) (by decide))
  have cut91 : sHas σ = true → ∀ (t s : Nat) (pre : List Int32) (Iz : mI) (σz : sT), 2 - s < t → s ≤ 2 → MV m p σ I pre Iz σz → recs (told σ) = pre ++ rcS (told σ) s → Rc RX7 cX7_movesJournal 5 (some FieldType.boolean) 6 288 0 0 n sh G (Qi (fun r_ I_ J_ => bi (fMoveP p σ).1 = r_ ∧ J = J_ ∧ RelW (I_ (m + 1)) (sStop (fMoveP p σ).1 (fMoveP p σ).2) ∧ FF m [1] [18, 19, 20, 21, 22, 23, 24] I I_ ∧ I_ m 23 = ic (fMoveP p σ).1)) nX 0 0 91 [(4, .int (nI s)), (0, .ref m), (2, .int ((genI σ p + 1) % 256)), (3, .int (nI (1 - p)))] [] Iz J := by
    intro hs t
    induction t
    · intro s pre Iz σz h; omega
    rename_i t ih
    intro s pre Iz σz ht h1 hz hr
    have hl := mv_len hr
    refine rc_p (p_iload 0 (dk_at ktX7_movesJournal_0 54 rfl) rfl (b := 93) rfl) ?_
    refine rc_p (p_iconst (v := 1) (dk_at ktX7_movesJournal_0 55 rfl) (by decide) (b := 94) rfl) ?_
    refine r_icmp_gt (dk_at ktX7_movesJournal_0 56 rfl) (b := 128) (by decide) (b2 := 97) rfl (fun c94 => ?_) (fun c94 => ?_)
    · have c94 : 1 < s := (nI_ltI (a := 1) (b := s) (by omega) (by omega)).mp c94
      have hs2 : s = 2 := by omega
      refine rc_p (p_aload_n 1 (dk_at ktX7_movesJournal_1 14 rfl) rfl rfl (b := 129) rfl) ?_
      refine r_geti fl_X7_235 rfl hm.l0 hm.s0 (dk_at ktX7_movesJournal_1 15 rfl) (v := ((told σ) 2)) (hz.2.2.2.1 2 (by decide)) (b := 132) rfl ?_
      refine rc_p (p_iconst (v := (-1)) (dk_at ktX7_movesJournal_1 16 rfl) (by decide) (b := 133) rfl) ?_
      refine r_icmp_eq (dk_at ktX7_movesJournal_1 17 rfl) (b := 150) (by decide) (b2 := 136) rfl (fun c133 => ?_) (fun c133 => ?_)
      · skip
        refine rc_p (p_iconst (v := 0) (dk_at ktX7_movesJournal_1 26 rfl) (by decide) (b := 151) rfl) ?_
        refine rc_p (p_istore (ls' := [(4, .int 0), (0, .ref m), (2, .int ((genI σ p + 1) % 256)), (3, .int (nI (1 - p)))]) (dk_at ktX7_movesJournal_1 27 rfl) (by decide) rfl (b := 153) rfl) ?_
        exact cut153 hs 1000 0 pre Iz σz (by omega) hz (fun _ => by rw [hr, hs2, rcS_2, rc4, if_pos c133, List.append_nil]) (fun h => absurd c133 h)
      · skip
        have hl2 := mv_len (show recs (told σ) = pre ++ wordI 3 (told σ 2) :: List.replicate (trN (told σ)) (wordI 4 (told σ 2)) by rw [hr, hs2, rcS_2, rc4, if_neg c133])
        simp only [List.length_cons] at hl2
        refine rc_p (p_aload_n 1 (dk_at ktX7_movesJournal_1 18 rfl) rfl rfl (b := 137) rfl) ?_
        refine rc_p (p_iconst (v := 3) (dk_at ktX7_movesJournal_1 19 rfl) (by decide) (b := 138) rfl) ?_
        refine rc_p (p_aload_n 1 (dk_at ktX7_movesJournal_1 20 rfl) rfl rfl (b := 139) rfl) ?_
        refine r_geti fl_X7_235 rfl hm.l0 hm.s0 (dk_at ktX7_movesJournal_1 21 rfl) (v := ((told σ) 2)) (hz.2.2.2.1 2 (by decide)) (b := 142) rfl ?_
        refine r_iV (As' := [.int 3, .int ((told σ) 2)]) (rest := []) (s_X7_moves hm (σ := σz) hz.1 hz.2.1 hz.2.2.1 (211 + 32 * (1 - p) + 1 + pre.length) (by omega) (by omega) hz.2.2.2.2.1 3 ((told σ) 2)) cw_X7_286 qi_X7_moves qv_X7_moves rfl hm.l0 hm.s0 (dk_at ktX7_movesJournal_1 22 rfl) rfl rfl (Nat.le_of_ble_eq_true rfl) (by decide) (b := 145) rfl (fun v42 I39 J40 q41 => ?_)
        obtain ⟨rfl, rfl, hR43, hF44, hC45, hQ46⟩ := q41
        refine r_if_ne (dk_at ktX7_movesJournal_1 23 rfl) (b := 150) (by decide) (b2 := 148) rfl (fun c145 => ?_) (fun c145 => ?_)
        · have c145 := bi_t c145
          have hR47 : RelW (I39 (m + 1)) (sWr σz (211 + 32 * (1 - p) + 1 + pre.length) (wordI 3 ((told σ) 2))) := by rw [c145] at hR43; exact hR43
          have hC48 : I39 m 23 = 0 := by rw [c145] at hC45; exact hC45
          have hM49 := hz.step hp (by omega) c145 hR47 hF44 hC48 hQ46
          refine rc_p (p_iconst (v := 0) (dk_at ktX7_movesJournal_1 26 rfl) (by decide) (b := 151) rfl) ?_
          refine rc_p (p_istore (ls' := [(4, .int 0), (0, .ref m), (2, .int ((genI σ p + 1) % 256)), (3, .int (nI (1 - p)))]) (dk_at ktX7_movesJournal_1 27 rfl) (by decide) rfl (b := 153) rfl) ?_
          exact cut153 hs 1000 0 (pre ++ [(wordI 3 ((told σ) 2))]) I39 (sWr σz (211 + 32 * (1 - p) + 1 + pre.length) (wordI 3 ((told σ) 2))) (by omega) hM49 (fun h => absurd h c133) (fun _ => ⟨Nat.zero_le _, by rw [hr, hs2, rcS_2, rc4, if_neg c133, List.append_assoc]; try rfl⟩)
        · have c145 := bi_f c145
          have hR50 : RelW (I39 (m + 1)) (sCut (sWr σz (211 + 32 * (1 - p) + 1 + pre.length) (wordI 3 ((told σ) 2)))) := by rw [c145] at hR43; exact hR43
          have hC51 : I39 m 23 = 1 := by rw [c145] at hC45; exact hC45
          refine rc_p (p_iconst (v := 0) (dk_at ktX7_movesJournal_1 24 rfl) (by decide) (b := 149) rfl) ?_
          refine r_iret (dk_at ktX7_movesJournal_1 25 rfl) rfl rfl ⟨_, rfl, ?_⟩
          have e := hz.stop hs (by rw [hr, hs2, rcS_2, rc4, if_neg c133]) c145
          refine ⟨by rw [e]; rfl, rfl, by rw [e]; exact hR50, ?_, by rw [e]; exact hC51⟩
          exact hz.2.2.2.2.2.2.tr (hF44.mo (by decide) (by decide))
    · have c94 : ¬ 1 < s := fun h => c94 ((nI_ltI (a := 1) (b := s) (by omega) (by omega)).mpr h)
      refine rc_p (p_aload_n 1 (dk_at ktX7_movesJournal_0 57 rfl) rfl rfl (b := 98) rfl) ?_
      refine r_geti fl_X7_242 rfl hm.l0 hm.s0 (dk_at ktX7_movesJournal_0 58 rfl) (v := ((told σ) 4)) (hz.2.2.2.1 4 (by decide)) (b := 101) rfl ?_
      refine rc_p (p_iload 0 (dk_at ktX7_movesJournal_0 59 rfl) rfl (b := 103) rfl) ?_
      refine rc_p (p_ishr (v := (((told σ) 4) >>> ((nI s) &&& 31))) (dk_at ktX7_movesJournal_1 0 rfl) rfl (b := 104) rfl) ?_
      refine rc_p (p_iconst (v := 1) (dk_at ktX7_movesJournal_1 1 rfl) (by decide) (b := 105) rfl) ?_
      refine rc_p (p_iand (v := ((((told σ) 4) >>> ((nI s) &&& 31)) &&& 1)) (dk_at ktX7_movesJournal_1 2 rfl) rfl (b := 106) rfl) ?_
      refine rc_p (p_iconst (v := 1) (dk_at ktX7_movesJournal_1 3 rfl) (by decide) (b := 107) rfl) ?_
      refine r_icmp_ne (dk_at ktX7_movesJournal_1 4 rfl) (b := 122) (by decide) (b2 := 110) rfl (fun c107 => ?_) (fun c107 => ?_)
      · skip
        refine rc_p (p_iinc (j := 0) (v := (nI (s + 1))) (ls' := [(4, .int (nI (s + 1))), (0, .ref m), (2, .int ((genI σ p + 1) % 256)), (3, .int (nI (1 - p)))]) (dk_at ktX7_movesJournal_1 12 rfl) rfl (nI_add s 1) (by decide) rfl (b := 125) rfl) ?_
        refine rc_p (p_goto (b := 91) (dk_at ktX7_movesJournal_1 13 rfl) (by decide)) ?_
        exact ih (s + 1) pre Iz σz (by omega) (by omega) hz (by rw [hr, rcS_s (by omega), rc3, if_neg c107]; rfl)
      · skip
        have hl2 := mv_len (show recs (told σ) = pre ++ wordI 5 (nI s) :: rcS (told σ) (s + 1) by rw [hr, rcS_s (by omega), rc3, if_pos c107]; rfl)
        have hb5 := c107
        simp only [List.length_cons] at hl2
        refine rc_p (p_aload_n 1 (dk_at ktX7_movesJournal_1 5 rfl) rfl rfl (b := 111) rfl) ?_
        refine rc_p (p_iconst (v := 5) (dk_at ktX7_movesJournal_1 6 rfl) (by decide) (b := 112) rfl) ?_
        refine rc_p (p_iload 0 (dk_at ktX7_movesJournal_1 7 rfl) rfl (b := 114) rfl) ?_
        refine r_iV (As' := [.int 5, .int (nI s)]) (rest := []) (s_X7_moves hm (σ := σz) hz.1 hz.2.1 hz.2.2.1 (211 + 32 * (1 - p) + 1 + pre.length) (by omega) (by omega) hz.2.2.2.2.1 5 (nI s)) cw_X7_286 qi_X7_moves qv_X7_moves rfl hm.l0 hm.s0 (dk_at ktX7_movesJournal_1 8 rfl) rfl rfl (Nat.le_of_ble_eq_true rfl) (by decide) (b := 117) rfl (fun v55 I52 J53 q54 => ?_)
        obtain ⟨rfl, rfl, hR56, hF57, hC58, hQ59⟩ := q54
        refine r_if_ne (dk_at ktX7_movesJournal_1 9 rfl) (b := 122) (by decide) (b2 := 120) rfl (fun c117 => ?_) (fun c117 => ?_)
        · have c117 := bi_t c117
          have hR60 : RelW (I52 (m + 1)) (sWr σz (211 + 32 * (1 - p) + 1 + pre.length) (wordI 5 (nI s))) := by rw [c117] at hR56; exact hR56
          have hC61 : I52 m 23 = 0 := by rw [c117] at hC58; exact hC58
          have hM62 := hz.step hp (by omega) c117 hR60 hF57 hC61 hQ59
          refine rc_p (p_iinc (j := 0) (v := (nI (s + 1))) (ls' := [(4, .int (nI (s + 1))), (0, .ref m), (2, .int ((genI σ p + 1) % 256)), (3, .int (nI (1 - p)))]) (dk_at ktX7_movesJournal_1 12 rfl) rfl (nI_add s 1) (by decide) rfl (b := 125) rfl) ?_
          refine rc_p (p_goto (b := 91) (dk_at ktX7_movesJournal_1 13 rfl) (by decide)) ?_
          exact ih (s + 1) (pre ++ [(wordI 5 (nI s))]) I52 (sWr σz (211 + 32 * (1 - p) + 1 + pre.length) (wordI 5 (nI s))) (by omega) (by omega) hM62 (by rw [hr, rcS_s (by omega), rc3, if_pos c107, List.append_assoc]; try rfl)
        · have c117 := bi_f c117
          have hR63 : RelW (I52 (m + 1)) (sCut (sWr σz (211 + 32 * (1 - p) + 1 + pre.length) (wordI 5 (nI s)))) := by rw [c117] at hR56; exact hR56
          have hC64 : I52 m 23 = 1 := by rw [c117] at hC58; exact hC58
          refine rc_p (p_iconst (v := 0) (dk_at ktX7_movesJournal_1 10 rfl) (by decide) (b := 121) rfl) ?_
          refine r_iret (dk_at ktX7_movesJournal_1 11 rfl) rfl rfl ⟨_, rfl, ?_⟩
          have e := hz.stop hs (by rw [hr, rcS_s (by omega), rc3, if_pos hb5]; rfl) c117
          refine ⟨by rw [e]; rfl, rfl, by rw [e]; exact hR63, ?_, by rw [e]; exact hC64⟩
          exact hz.2.2.2.2.2.2.tr (hF57.mo (by decide) (by decide))
  have cut66 : sHas σ = true → ∀ (pre : List Int32) (Iz : mI) (σz : sT), MV m p σ I pre Iz σz → recs (told σ) = pre ++ (rc2 (told σ) ++ rcS (told σ) 0) → Rc RX7 cX7_movesJournal 5 (some FieldType.boolean) 6 288 0 0 n sh G (Qi (fun r_ I_ J_ => bi (fMoveP p σ).1 = r_ ∧ J = J_ ∧ RelW (I_ (m + 1)) (sStop (fMoveP p σ).1 (fMoveP p σ).2) ∧ FF m [1] [18, 19, 20, 21, 22, 23, 24] I I_ ∧ I_ m 23 = ic (fMoveP p σ).1)) nX 0 0 66 [(0, .ref m), (2, .int ((genI σ p + 1) % 256)), (3, .int (nI (1 - p)))] [] Iz J := by
    intro hs pre Iz σz hz hr
    have hl := mv_len hr
    refine rc_p (p_aload_n 0 (dk_at ktX7_movesJournal_0 40 rfl) rfl rfl (b := 67) rfl) ?_
    refine r_geti fl_X7_240 rfl hm.l0 hm.s0 (dk_at ktX7_movesJournal_0 41 rfl) (v := ((told σ) 1)) (hz.2.2.2.1 1 (by decide)) (b := 70) rfl ?_
    refine rc_p (p_iconst (v := (-1)) (dk_at ktX7_movesJournal_0 42 rfl) (by decide) (b := 71) rfl) ?_
    refine r_icmp_eq (dk_at ktX7_movesJournal_0 43 rfl) (b := 88) (by decide) (b2 := 74) rfl (fun c71 => ?_) (fun c71 => ?_)
    · skip
      refine rc_p (p_iconst (v := 0) (dk_at ktX7_movesJournal_0 52 rfl) (by decide) (b := 89) rfl) ?_
      refine rc_p (p_istore (ls' := [(4, .int 0), (0, .ref m), (2, .int ((genI σ p + 1) % 256)), (3, .int (nI (1 - p)))]) (dk_at ktX7_movesJournal_0 53 rfl) (by decide) rfl (b := 91) rfl) ?_
      exact cut91 hs 1000 0 pre Iz σz (by omega) (by omega) hz (by rw [hr, rc2, if_pos c71]; rfl)
    · skip
      have hl2 := mv_len (show recs (told σ) = pre ++ wordI 2 (told σ 1) :: rcS (told σ) 0 by rw [hr, rc2, if_neg c71]; rfl)
      simp only [List.length_cons] at hl2
      refine rc_p (p_aload_n 0 (dk_at ktX7_movesJournal_0 44 rfl) rfl rfl (b := 75) rfl) ?_
      refine rc_p (p_iconst (v := 2) (dk_at ktX7_movesJournal_0 45 rfl) (by decide) (b := 76) rfl) ?_
      refine rc_p (p_aload_n 0 (dk_at ktX7_movesJournal_0 46 rfl) rfl rfl (b := 77) rfl) ?_
      refine r_geti fl_X7_240 rfl hm.l0 hm.s0 (dk_at ktX7_movesJournal_0 47 rfl) (v := ((told σ) 1)) (hz.2.2.2.1 1 (by decide)) (b := 80) rfl ?_
      refine r_iV (As' := [.int 2, .int ((told σ) 1)]) (rest := []) (s_X7_moves hm (σ := σz) hz.1 hz.2.1 hz.2.2.1 (211 + 32 * (1 - p) + 1 + pre.length) (by omega) (by omega) hz.2.2.2.2.1 2 ((told σ) 1)) cw_X7_286 qi_X7_moves qv_X7_moves rfl hm.l0 hm.s0 (dk_at ktX7_movesJournal_0 48 rfl) rfl rfl (Nat.le_of_ble_eq_true rfl) (by decide) (b := 83) rfl (fun v68 I65 J66 q67 => ?_)
      obtain ⟨rfl, rfl, hR69, hF70, hC71, hQ72⟩ := q67
      refine r_if_ne (dk_at ktX7_movesJournal_0 49 rfl) (b := 88) (by decide) (b2 := 86) rfl (fun c83 => ?_) (fun c83 => ?_)
      · have c83 := bi_t c83
        have hR73 : RelW (I65 (m + 1)) (sWr σz (211 + 32 * (1 - p) + 1 + pre.length) (wordI 2 ((told σ) 1))) := by rw [c83] at hR69; exact hR69
        have hC74 : I65 m 23 = 0 := by rw [c83] at hC71; exact hC71
        have hM75 := hz.step hp (by omega) c83 hR73 hF70 hC74 hQ72
        refine rc_p (p_iconst (v := 0) (dk_at ktX7_movesJournal_0 52 rfl) (by decide) (b := 89) rfl) ?_
        refine rc_p (p_istore (ls' := [(4, .int 0), (0, .ref m), (2, .int ((genI σ p + 1) % 256)), (3, .int (nI (1 - p)))]) (dk_at ktX7_movesJournal_0 53 rfl) (by decide) rfl (b := 91) rfl) ?_
        exact cut91 hs 1000 0 (pre ++ [(wordI 2 ((told σ) 1))]) I65 (sWr σz (211 + 32 * (1 - p) + 1 + pre.length) (wordI 2 ((told σ) 1))) (by omega) (by omega) hM75 (by rw [hr, rc2, if_neg c71, List.append_assoc]; try rfl)
      · have c83 := bi_f c83
        have hR76 : RelW (I65 (m + 1)) (sCut (sWr σz (211 + 32 * (1 - p) + 1 + pre.length) (wordI 2 ((told σ) 1)))) := by rw [c83] at hR69; exact hR69
        have hC77 : I65 m 23 = 1 := by rw [c83] at hC71; exact hC71
        refine rc_p (p_iconst (v := 0) (dk_at ktX7_movesJournal_0 50 rfl) (by decide) (b := 87) rfl) ?_
        refine r_iret (dk_at ktX7_movesJournal_0 51 rfl) rfl rfl ⟨_, rfl, ?_⟩
        have e := hz.stop hs (by rw [hr, rc2, if_neg c71]; rfl) c83
        refine ⟨by rw [e]; rfl, rfl, by rw [e]; exact hR76, ?_, by rw [e]; exact hC77⟩
        exact hz.2.2.2.2.2.2.tr (hF70.mo (by decide) (by decide))
  have cut45 : sHas σ = true → ∀ (Iz : mI) (σz : sT), MV m p σ I [] Iz σz → σz = sErJ σ (1 - p) → Rc RX7 cX7_movesJournal 5 (some FieldType.boolean) 6 288 0 0 n sh G (Qi (fun r_ I_ J_ => bi (fMoveP p σ).1 = r_ ∧ J = J_ ∧ RelW (I_ (m + 1)) (sStop (fMoveP p σ).1 (fMoveP p σ).2) ∧ FF m [1] [18, 19, 20, 21, 22, 23, 24] I I_ ∧ I_ m 23 = ic (fMoveP p σ).1)) nX 0 0 45 [(0, .ref m), (2, .int ((genI σ p + 1) % 256)), (3, .int (nI (1 - p)))] [] Iz J := by
    intro hs Iz σz hz hr0
    have hl0 : ([] : List Int32).length = 0 := rfl
    have hr : recs (told σ) = rc1 (told σ) ++ (rc2 (told σ) ++ (rc3 (told σ) 0 ++ (rc3 (told σ) 1 ++ rc4 (told σ)))) := rfl
    refine rc_p (p_aload_n 0 (dk_at ktX7_movesJournal_0 29 rfl) rfl rfl (b := 46) rfl) ?_
    refine r_geti fl_X7_230 rfl hm.l0 hm.s0 (dk_at ktX7_movesJournal_0 30 rfl) (v := ((told σ) 0)) (hz.2.2.2.1 0 (by decide)) (b := 49) rfl ?_
    refine r_if_le (dk_at ktX7_movesJournal_0 31 rfl) (b := 66) (by decide) (b2 := 52) rfl (fun c49 => ?_) (fun c49 => ?_)
    · skip
      exact cut66 hs [] Iz σz hz (by rw [hr, rc1, if_neg (Int32.not_lt.mpr c49)]; rfl)
    · skip
      refine rc_p (p_aload_n 0 (dk_at ktX7_movesJournal_0 32 rfl) rfl rfl (b := 53) rfl) ?_
      refine rc_p (p_iconst (v := 1) (dk_at ktX7_movesJournal_0 33 rfl) (by decide) (b := 54) rfl) ?_
      refine rc_p (p_aload_n 0 (dk_at ktX7_movesJournal_0 34 rfl) rfl rfl (b := 55) rfl) ?_
      refine r_geti fl_X7_230 rfl hm.l0 hm.s0 (dk_at ktX7_movesJournal_0 35 rfl) (v := ((told σ) 0)) (hz.2.2.2.1 0 (by decide)) (b := 58) rfl ?_
      refine r_iV (As' := [.int 1, .int ((told σ) 0)]) (rest := []) (s_X7_moves hm (σ := σz) hz.1 hz.2.1 hz.2.2.1 (211 + 32 * (1 - p) + 1 + ([] : List Int32).length) (by omega) (by omega) hz.2.2.2.2.1 1 ((told σ) 0)) cw_X7_286 qi_X7_moves qv_X7_moves rfl hm.l0 hm.s0 (dk_at ktX7_movesJournal_0 36 rfl) rfl rfl (Nat.le_of_ble_eq_true rfl) (by decide) (b := 61) rfl (fun v81 I78 J79 q80 => ?_)
      obtain ⟨rfl, rfl, hR82, hF83, hC84, hQ85⟩ := q80
      refine r_if_ne (dk_at ktX7_movesJournal_0 37 rfl) (b := 66) (by decide) (b2 := 64) rfl (fun c61 => ?_) (fun c61 => ?_)
      · have c61 := bi_t c61
        have hR86 : RelW (I78 (m + 1)) (sWr σz (211 + 32 * (1 - p) + 1 + ([] : List Int32).length) (wordI 1 ((told σ) 0))) := by rw [c61] at hR82; exact hR82
        have hC87 : I78 m 23 = 0 := by rw [c61] at hC84; exact hC84
        have hM88 := hz.step hp (by omega) c61 hR86 hF83 hC87 hQ85
        exact cut66 hs (([] : List Int32) ++ [(wordI 1 ((told σ) 0))]) I78 (sWr σz (211 + 32 * (1 - p) + 1 + ([] : List Int32).length) (wordI 1 ((told σ) 0))) hM88 (by rw [hr, rc1, if_pos (Int32.not_le.mp c49)]; rfl)
      · have c61 := bi_f c61
        have hR89 : RelW (I78 (m + 1)) (sCut (sWr σz (211 + 32 * (1 - p) + 1 + ([] : List Int32).length) (wordI 1 ((told σ) 0)))) := by rw [c61] at hR82; exact hR82
        have hC90 : I78 m 23 = 1 := by rw [c61] at hC84; exact hC84
        refine rc_p (p_iconst (v := 0) (dk_at ktX7_movesJournal_0 38 rfl) (by decide) (b := 65) rfl) ?_
        refine r_iret (dk_at ktX7_movesJournal_0 39 rfl) rfl rfl ⟨_, rfl, ?_⟩
        have e := hz.stop hs (by rw [hr, rc1, if_pos (Int32.not_le.mp c49)]; rfl) c61
        refine ⟨by rw [e]; rfl, rfl, by rw [e]; exact hR89, ?_, by rw [e]; exact hC90⟩
        exact hz.2.2.2.2.2.2.tr (hF83.mo (by decide) (by decide))
  have hb := hI.bd
  refine rc_p (p_aload_n 0 (dk_at ktX7_movesJournal_0 0 rfl) rfl rfl (b := 1) rfl) ?_
  refine r_iV (As' := []) (rest := []) (s_X7_active hm (σ := σ) hR hI) cw_X7_245 qi_X7_active qv_X7_active rfl hm.l0 hm.s0 (dk_at ktX7_movesJournal_0 1 rfl) rfl rfl (Nat.le_of_ble_eq_true rfl) (by decide) (b := 4) rfl (fun v94 I91 J92 q93 => ?_)
  obtain ⟨ea95, rfl, rfl⟩ := q93
  rw [hA] at ea95
  subst ea95
  refine rc_p (p_istore_n (ls' := [(1, .int (nI p)), (0, .ref m)]) (dk_at ktX7_movesJournal_0 2 rfl) rfl (by decide) rfl (b := 5) rfl) ?_
  refine rc_p (p_aload_n 1 (dk_at ktX7_movesJournal_0 3 rfl) rfl rfl (b := 6) rfl) ?_
  refine rc_p (p_iload_n 0 (dk_at ktX7_movesJournal_0 4 rfl) rfl rfl (b := 7) rfl) ?_
  refine r_iV (As' := [.int (nI p)]) (rest := []) (s_X7_generationOf hm (σ := σ) hR hI p (by omega)) cw_X7_225 qi_X7_generationOf qv_X7_generationOf rfl hm.l0 hm.s0 (dk_at ktX7_movesJournal_0 5 rfl) rfl rfl (Nat.le_of_ble_eq_true rfl) (by decide) (b := 10) rfl (fun v99 I96 J97 q98 => ?_)
  obtain ⟨rfl, rfl, rfl⟩ := q98
  refine rc_p (p_iconst (v := 1) (dk_at ktX7_movesJournal_0 6 rfl) (by decide) (b := 11) rfl) ?_
  refine rc_p (p_iadd (v := ((genI σ p) + 1)) (dk_at ktX7_movesJournal_0 7 rfl) rfl (b := 12) rfl) ?_
  refine rc_p (p_sipush (v := 256) (dk_at ktX7_movesJournal_0 8 rfl) (by decide) (b := 15) rfl) ?_
  refine rc_p (p_irem (v := (((genI σ p) + 1) % 256)) (dk_at ktX7_movesJournal_0 9 rfl) (by decide) (irem_eq_mod _ _) (b := 16) rfl) ?_
  refine rc_p (p_istore_n (ls' := [(2, .int (((genI σ p) + 1) % 256)), (1, .int (nI p)), (0, .ref m)]) (dk_at ktX7_movesJournal_0 10 rfl) rfl (by decide) rfl (b := 17) rfl) ?_
  refine rc_p (p_iconst (v := 1) (dk_at ktX7_movesJournal_0 11 rfl) (by decide) (b := 18) rfl) ?_
  refine rc_p (p_iload_n 1 (dk_at ktX7_movesJournal_0 12 rfl) rfl rfl (b := 19) rfl) ?_
  refine rc_p (p_isub (v := (nI (1 - p))) (dk_at ktX7_movesJournal_0 13 rfl) (pk_sub (a := 1) (b := p) (by omega)) (b := 20) rfl) ?_
  refine rc_p (p_istore_n (ls' := [(3, .int (nI (1 - p))), (2, .int (((genI σ p) + 1) % 256)), (1, .int (nI p)), (0, .ref m)]) (dk_at ktX7_movesJournal_0 14 rfl) rfl (by decide) rfl (b := 21) rfl) ?_
  refine rc_p (p_aload_n 3 (dk_at ktX7_movesJournal_0 15 rfl) rfl rfl (b := 22) rfl) ?_
  refine r_vV (As' := []) (rest := []) (s_X7_tells hm (σ := σ) hR hI) cw_X7_255 qi_X7_tells qv_X7_tells rfl hm.l0 hm.s0 (dk_at ktX7_movesJournal_0 16 rfl) rfl rfl (Nat.le_of_ble_eq_true rfl) (by decide) (b := 25) rfl (fun I100 J101 q102 => ?_)
  obtain ⟨rfl, hR106, hT104, hF105⟩ := q102
  refine rc_p (p_aload_n 3 (dk_at ktX7_movesJournal_0 17 rfl) rfl rfl (b := 26) rfl) ?_
  refine rc_p (p_iload_n 0 (dk_at ktX7_movesJournal_0 18 rfl) rfl rfl (b := 27) rfl) ?_
  refine r_iV (As' := [.int (nI (1 - p))]) (rest := []) (s_X7_erasesJournal hm (σ := σ) hR106 hI (((hF105.2 23 (by decide))).trans hC) (1 - p) (by omega)) cw_X7_277 qi_X7_erasesJournal qv_X7_erasesJournal rfl hm.l0 hm.s0 (dk_at ktX7_movesJournal_0 19 rfl) rfl rfl (Nat.le_of_ble_eq_true rfl) (by decide) (b := 30) rfl (fun v110 I107 J108 q109 => ?_)
  obtain ⟨rfl, rfl, hR111, hF112, hC113⟩ := q109
  refine r_if_ne (dk_at ktX7_movesJournal_0 20 rfl) (b := 35) (by decide) (b2 := 33) rfl (fun c30 => ?_) (fun c30 => ?_)
  · have c30 := bi_t c30
    have hR114 : RelW (I107 (m + 1)) (sErJ σ (1 - p)) := by rw [c30] at hR111; exact hR111
    have hC115 : I107 m 23 = 0 := by rw [c30] at hC113; exact hC113
    refine rc_p (p_aload_n 3 (dk_at ktX7_movesJournal_0 23 rfl) rfl rfl (b := 36) rfl) ?_
    refine rc_p (p_iload_n 0 (dk_at ktX7_movesJournal_0 24 rfl) rfl rfl (b := 37) rfl) ?_
    refine r_iS (As := [.int (nI (1 - p))]) (rest := [.ref m]) (s_X7_pageAt (1 - p)) cw_X7_216 qs_X7_pageAt (dk_at ktX7_movesJournal_0 25 rfl) rfl rfl (Nat.le_of_ble_eq_true rfl) (by decide) (b := 40) rfl (fun v119 I116 J117 q118 => ?_)
    obtain ⟨rfl, rfl, rfl⟩ := q118
    refine rc_p (p_iconst (v := 1) (dk_at ktX7_movesJournal_0 26 rfl) (by decide) (b := 41) rfl) ?_
    refine rc_p (p_iadd (v := (nI (211 + 32 * (1 - p) + 1))) (dk_at ktX7_movesJournal_0 27 rfl) (nI_add (211 + 32 * (1 - p)) 1) (b := 42) rfl) ?_
    have hs := c30
    refine r_puti fl_X7_283 fw_X7_24 rfl hm.l0 hm.s0 rfl rfl (dk_at ktX7_movesJournal_0 28 rfl) (b := 45) rfl ?_
    refine rc_sub [3, 1, 0] (ls' := [(0, .ref m), (2, .int (((genI σ p) + 1) % 256)), (3, .int (nI (1 - p)))]) rfl ?_
    exact cut45 hs (up2 I107 m 24 (nI (211 + 32 * (1 - p) + 1))) _ ⟨by rw [up2_off (by omega)]; exact hR114, (Inv.erj hI (by omega)), by rw [up2_k (by decide)]; exact hC115, fun j hj => by rw [up2_k (by omega), hF112.2 (18 + j) (by simp; omega)]; exact hT104 j hj, by rw [up2_s]; rfl, Prod.ext rfl rfl, FF.uf (FF.tr (hF105.mo (by decide) (by decide)) (hF112.mo (by decide) (by decide))) (by decide)⟩ rfl
  · have c30 := bi_f c30
    have hR120 : RelW (I107 (m + 1)) (sCut (sErJ σ (1 - p))) := by rw [c30] at hR111; exact hR111
    have hC121 : I107 m 23 = 1 := by rw [c30] at hC113; exact hC113
    refine rc_p (p_iconst (v := 0) (dk_at ktX7_movesJournal_0 21 rfl) (by decide) (b := 34) rfl) ?_
    refine r_iret (dk_at ktX7_movesJournal_0 22 rfl) rfl rfl ⟨_, rfl, ?_⟩
    have e : fMoveP p σ = (false, sErJ σ (1 - p)) := by
      unfold fMoveP
      rw [sq_f (show (fErJ (1 - p) σ).1 = false from c30)]
      exact Prod.ext c30 rfl
    refine ⟨by rw [e]; rfl, rfl, by rw [e]; exact hR120, ?_, by rw [e]; exact hC121⟩
    exact FF.tr (hF105.mo (by decide) (by decide)) (hF112.mo (by decide) (by decide))

/-! THE REFERENCE: its calls, the last predictions, snapshots -/
set_option maxRecDepth 4000 in
set_option maxHeartbeats 4000000 in
theorem s_X7_updatesLeft {n : Nat} {sh : mS} {G : mG} {I : mI} {J : mJ} {m : Nat} {σ : sT} (hm : ModG n sh G m) (hR : RelW (I (m + 1)) σ) (hI : Inv σ) (v : Int32)  : Sp yX7_updatesLeft cX7_updatesLeft 7 (some FieldType.int) 12 576 0 0 [.ref m, .int v] n sh G I J (Qi (fun r_ I_ J_ => (cIn v 1 255 = 0 → a_ul v σ = r_) ∧ I_ m 6 = cIn v 1 255 ∧ J = J_ ∧ RelW (I_ (m + 1)) (σ) ∧ FF m [1, 2, 8] [6, 18, 19, 20, 21, 22, 23, 24, 26, 27] I I_)) nX := by
  have hb := hI.bd
  rcases Bool.eq_false_or_eq_true (inI v 1 255) with hib | hw
  · refine Sp.of (by decide) (ls := [(0, .ref m), (1, .int v)]) (fun _ => rfl) (fun _ => Nat.le_of_ble_eq_true rfl) ?_
    have cut48 : errU v σ = 0 → ∀ (t q : Nat) (Iz : mI) (τ : sT), RelW (Iz (m + 1)) τ → Inv τ → RelW (Iz (m + 2)) σ → Iz m 6 = 0 → FF m [1, 2, 8] [6, 18, 19, 20, 21, 22, 23, 24, 26, 27] I Iz → 60 - q < t → q < 60 → τ 0 = σ 0 → a_ul v σ = nI (ulS v (σ 4) (60 - q) q τ) → Rc RX7 cX7_updatesLeft 7 (some FieldType.int) 12 576 0 0 n sh G (Qi (fun r_ I_ J_ => (cIn v 1 255 = 0 → a_ul v σ = r_) ∧ I_ m 6 = cIn v 1 255 ∧ J = J_ ∧ RelW (I_ (m + 1)) (σ) ∧ FF m [1, 2, 8] [6, 18, 19, 20, 21, 22, 23, 24, 26, 27] I I_)) nX 0 0 48 [(3, .int (σ 4)), (4, .int (nI q)), (0, .ref m), (1, .int v)] [] Iz J := by
      intro he0 t
      induction t
      · intro q Iz τ _ _ _ _ _ h; omega
      rename_i t ih
      intro q Iz τ hRz hIz hAz h6z hFz ht h1 hW0 hx
      refine rc_p (p_iconst (v := 1) (dk_at ktX7_updatesLeft_0 30 rfl) (by decide) (b := 49) rfl) ?_
      refine rc_p (p_aload_n 2 (dk_at ktX7_updatesLeft_0 31 rfl) rfl rfl (b := 50) rfl) ?_
      refine r_geta fl_X7_9 rfl hm.l0 hm.s0 (dk_at ktX7_updatesLeft_0 32 rfl) hm.g0_0 (b := 53) rfl ?_
      refine rc_p (p_bipush (v := 8) (dk_at ktX7_updatesLeft_0 33 rfl) (by decide) (b := 55) rfl) ?_
      refine r_iald (j := 8) (hm.lt 1 (by decide)) hm.s1 (dk_at ktX7_updatesLeft_0 34 rfl) rfl ⟨by decide, by decide⟩ (v := (τ 8)) (hRz.1 8 (by decide)) (b := 56) rfl ?_
      refine rc_p (p_isub (v := (1 - (τ 8))) (dk_at ktX7_updatesLeft_0 35 rfl) rfl (b := 57) rfl) ?_
      refine rc_p (p_istore (ls' := [(6, .int (1 - (τ 8))), (3, .int (σ 4)), (4, .int (nI q)), (0, .ref m), (1, .int v)]) (dk_at ktX7_updatesLeft_0 36 rfl) (by decide) rfl (b := 59) rfl) ?_
      refine rc_p (p_aload_n 3 (dk_at ktX7_updatesLeft_0 37 rfl) rfl rfl (b := 60) rfl) ?_
      refine r_geta fl_X7_9 rfl hm.l0 hm.s0 (dk_at ktX7_updatesLeft_0 38 rfl) hm.g0_0 (b := 63) rfl ?_
      refine rc_p (p_iconst (v := 4) (dk_at ktX7_updatesLeft_0 39 rfl) (by decide) (b := 64) rfl) ?_
      refine rc_p (p_iload_n 1 (dk_at ktX7_updatesLeft_0 40 rfl) rfl rfl (b := 65) rfl) ?_
      refine r_iast (j := 4) (hm.lt 1 (by decide)) hm.s1 (dk_at ktX7_updatesLeft_0 41 rfl) rfl ⟨by decide, by decide⟩ (b := 66) rfl ?_
      refine rc_p (p_aload_n 3 (dk_at ktX7_updatesLeft_0 42 rfl) rfl rfl (b := 67) rfl) ?_
      refine rc_p (p_iload_n 4 (dk_at ktX7_updatesLeft_0 43 rfl) rfl rfl (b := 68) rfl) ?_
      refine rc_p (p_iconst (v := 0) (dk_at ktX7_updatesLeft_0 44 rfl) (by decide) (b := 69) rfl) ?_
      refine r_iV (As' := [.int v, .int 0]) (rest := []) (s_X7_updates hm (σ := (upd τ 4 (σ 4))) (show RelW ((up2 Iz (m + 1) 4 (σ 4)) (m + 1)) (upd τ 4 (σ 4)) from (by rw [up2_row]; exact RelW.up hRz (by first | decide | omega) (by first | decide | omega))) (Inv.s4 hIz hI hW0) v false) cw_X7_355 qi_X7_updates qv_X7_updates rfl hm.l0 hm.s0 (dk_at ktX7_updatesLeft_0 45 rfl) rfl rfl (Nat.le_of_ble_eq_true rfl) (by decide) (b := 72) rfl (fun v4 I1 J2 q3 => ?_)
      obtain ⟨eq7, rfl, hR5, hF6⟩ := q3
      refine r_if_le (dk_at ktX7_updatesLeft_0 46 rfl) (b := 95) (by decide) (b2 := 75) rfl (fun c72 => ?_) (fun c72 => ?_)
      · skip
        refine rc_p (p_iconst (v := 0) (dk_at ktX7_updatesLeft_0 56 rfl) (by decide) (b := 96) rfl) ?_
        refine rc_p (p_istore (ls' := [(5, .int 0), (6, .int (1 - (τ 8))), (3, .int (σ 4)), (4, .int (nI q)), (0, .ref m), (1, .int v)]) (dk_at ktX7_updatesLeft_0 57 rfl) (by decide) rfl (b := 98) rfl) ?_
        refine rc_p (p_iload 3 (dk_at ktX7_updatesLeft_0 58 rfl) rfl (b := 100) rfl) ?_
        refine rc_p (p_iload 0 (dk_at ktX7_updatesLeft_0 59 rfl) rfl (b := 102) rfl) ?_
        refine r_if_eq (dk_at ktX7_updatesLeft_1 0 rfl) (b := 109) (by decide) (b2 := 105) rfl (fun c102 => ?_) (fun c102 => ?_)
        · skip
          refine rc_p (p_iconst (v := 0) (dk_at ktX7_updatesLeft_1 3 rfl) (by decide) (b := 110) rfl) ?_
          refine rc_p (p_iadd (v := (nI q)) (dk_at ktX7_updatesLeft_1 4 rfl) (nI_add q 0) (b := 111) rfl) ?_
          refine rc_p (p_istore (ls' := [(4, .int (nI q)), (5, .int 0), (6, .int (1 - (τ 8))), (3, .int (σ 4)), (0, .ref m), (1, .int v)]) (dk_at ktX7_updatesLeft_1 5 rfl) (by decide) rfl (b := 113) rfl) ?_
          refine rc_p (p_iload 1 (dk_at ktX7_updatesLeft_1 6 rfl) rfl (b := 115) rfl) ?_
          refine r_if_eq (dk_at ktX7_updatesLeft_1 7 rfl) (b := 129) (by decide) (b2 := 118) rfl (fun c115 => ?_) (fun c115 => ?_)
          · skip
            refine rc_p (p_iconst (v := 0) (dk_at ktX7_updatesLeft_1 13 rfl) (by decide) (b := 130) rfl) ?_
            refine rc_p (p_istore (ls' := [(5, .int 0), (4, .int (nI q)), (6, .int (1 - (τ 8))), (3, .int (σ 4)), (0, .ref m), (1, .int v)]) (dk_at ktX7_updatesLeft_1 14 rfl) (by decide) rfl (b := 132) rfl) ?_
            refine rc_p (p_goto (b := 43) (dk_at ktX7_updatesLeft_1 15 rfl) (by decide)) ?_
            refine rc_p (p_iload 0 (dk_at ktX7_updatesLeft_0 28 rfl) rfl (b := 45) rfl) ?_
            refine r_if_eq (dk_at ktX7_updatesLeft_0 29 rfl) (b := 135) (by decide) (b2 := 48) rfl (fun c45 => ?_) (fun c45 => ?_)
            · skip
              refine rc_p (p_aload_n 4 (dk_at ktX7_updatesLeft_1 16 rfl) rfl rfl (b := 136) rfl) ?_
              refine r_vV (As' := []) (rest := []) (s_X7_comesBack hm (σ := σ) (RelW.cp hAz (hI).2.1.2 (fun k _ => (((congrFun (hF6.1 _ (by omega) (by simp)) k)).trans (up2_n (by omega))))) (hI).2.1.2) cw_X7_392 qi_X7_comesBack qv_X7_comesBack rfl hm.l0 hm.s0 (dk_at ktX7_updatesLeft_1 17 rfl) rfl rfl (Nat.le_of_ble_eq_true rfl) (by decide) (b := 139) rfl (fun I8 J9 q10 => ?_)
              obtain ⟨rfl, hR12, hF13⟩ := q10
              refine rc_p (p_iload 1 (dk_at ktX7_updatesLeft_1 18 rfl) rfl (b := 141) rfl) ?_
              refine r_iret (dk_at ktX7_updatesLeft_1 19 rfl) rfl rfl ⟨_, rfl, ?_⟩
              refine ⟨fun _ => ?_, Eq.trans (((hF13.2 6 (by decide))).trans (((hF6.2 6 (by decide))).trans ((up2_n (by omega)).trans h6z))) (by exact (cIn_t hib).symm), rfl, (show RelW (I8 (m + 1)) σ from hR12), (FF.tr (FF.tr (FF.ua hFz (by decide) (by decide)) (hF6.mo (by decide) (by decide))) (hF13.mo (by decide) (by decide)))⟩
              rw [hx, ulS_n (by omega) (fun q2 => absurd (ulY_i.mp q2).1 (by rw [eq7]; exact Int32.not_lt.mpr c72))]
            · first | exact absurd c45 (by decide) | exact absurd (by decide) c45
          · first | exact absurd c115 (by decide) | exact absurd (by decide) c115
        · first | exact absurd c102 (by decide) | exact absurd (by decide) c102
      · skip
        refine rc_p (p_aload_n 3 (dk_at ktX7_updatesLeft_0 47 rfl) rfl rfl (b := 76) rfl) ?_
        refine r_iV (As' := []) (rest := []) (s_X7_boots hm (σ := (fUpd v false (upd τ 4 (σ 4))).2) (show RelW (I1 (m + 1)) ((fUpd v false (upd τ 4 (σ 4))).2) from hR5) (Inv.upda (Inv.s4 hIz hI hW0))) cw_X7_319 qi_X7_boots qv_X7_boots rfl hm.l0 hm.s0 (dk_at ktX7_updatesLeft_0 48 rfl) rfl rfl (Nat.le_of_ble_eq_true rfl) (by decide) (b := 79) rfl (fun v17 I14 J15 q16 => ?_)
        obtain ⟨eq20, rfl, hR18, hF19⟩ := q16
        refine rc_p (p_iload 0 (dk_at ktX7_updatesLeft_0 49 rfl) rfl (b := 81) rfl) ?_
        refine r_icmp_ne (dk_at ktX7_updatesLeft_0 50 rfl) (b := 95) (by decide) (b2 := 84) rfl (fun c81 => ?_) (fun c81 => ?_)
        · skip
          refine rc_p (p_iconst (v := 0) (dk_at ktX7_updatesLeft_0 56 rfl) (by decide) (b := 96) rfl) ?_
          refine rc_p (p_istore (ls' := [(5, .int 0), (6, .int (1 - (τ 8))), (3, .int (σ 4)), (4, .int (nI q)), (0, .ref m), (1, .int v)]) (dk_at ktX7_updatesLeft_0 57 rfl) (by decide) rfl (b := 98) rfl) ?_
          refine rc_p (p_iload 3 (dk_at ktX7_updatesLeft_0 58 rfl) rfl (b := 100) rfl) ?_
          refine rc_p (p_iload 0 (dk_at ktX7_updatesLeft_0 59 rfl) rfl (b := 102) rfl) ?_
          refine r_if_eq (dk_at ktX7_updatesLeft_1 0 rfl) (b := 109) (by decide) (b2 := 105) rfl (fun c102 => ?_) (fun c102 => ?_)
          · skip
            refine rc_p (p_iconst (v := 0) (dk_at ktX7_updatesLeft_1 3 rfl) (by decide) (b := 110) rfl) ?_
            refine rc_p (p_iadd (v := (nI q)) (dk_at ktX7_updatesLeft_1 4 rfl) (nI_add q 0) (b := 111) rfl) ?_
            refine rc_p (p_istore (ls' := [(4, .int (nI q)), (5, .int 0), (6, .int (1 - (τ 8))), (3, .int (σ 4)), (0, .ref m), (1, .int v)]) (dk_at ktX7_updatesLeft_1 5 rfl) (by decide) rfl (b := 113) rfl) ?_
            refine rc_p (p_iload 1 (dk_at ktX7_updatesLeft_1 6 rfl) rfl (b := 115) rfl) ?_
            refine r_if_eq (dk_at ktX7_updatesLeft_1 7 rfl) (b := 129) (by decide) (b2 := 118) rfl (fun c115 => ?_) (fun c115 => ?_)
            · skip
              refine rc_p (p_iconst (v := 0) (dk_at ktX7_updatesLeft_1 13 rfl) (by decide) (b := 130) rfl) ?_
              refine rc_p (p_istore (ls' := [(5, .int 0), (4, .int (nI q)), (6, .int (1 - (τ 8))), (3, .int (σ 4)), (0, .ref m), (1, .int v)]) (dk_at ktX7_updatesLeft_1 14 rfl) (by decide) rfl (b := 132) rfl) ?_
              refine rc_p (p_goto (b := 43) (dk_at ktX7_updatesLeft_1 15 rfl) (by decide)) ?_
              refine rc_p (p_iload 0 (dk_at ktX7_updatesLeft_0 28 rfl) rfl (b := 45) rfl) ?_
              refine r_if_eq (dk_at ktX7_updatesLeft_0 29 rfl) (b := 135) (by decide) (b2 := 48) rfl (fun c45 => ?_) (fun c45 => ?_)
              · skip
                refine rc_p (p_aload_n 4 (dk_at ktX7_updatesLeft_1 16 rfl) rfl rfl (b := 136) rfl) ?_
                refine r_vV (As' := []) (rest := []) (s_X7_comesBack hm (σ := σ) (RelW.cp hAz (hI).2.1.2 (fun k _ => (((congrFun (hF19.1 _ (by omega) (by simp)) k)).trans (((congrFun (hF6.1 _ (by omega) (by simp)) k)).trans (up2_n (by omega)))))) (hI).2.1.2) cw_X7_392 qi_X7_comesBack qv_X7_comesBack rfl hm.l0 hm.s0 (dk_at ktX7_updatesLeft_1 17 rfl) rfl rfl (Nat.le_of_ble_eq_true rfl) (by decide) (b := 139) rfl (fun I21 J22 q23 => ?_)
                obtain ⟨rfl, hR25, hF26⟩ := q23
                refine rc_p (p_iload 1 (dk_at ktX7_updatesLeft_1 18 rfl) rfl (b := 141) rfl) ?_
                refine r_iret (dk_at ktX7_updatesLeft_1 19 rfl) rfl rfl ⟨_, rfl, ?_⟩
                refine ⟨fun _ => ?_, Eq.trans (((hF26.2 6 (by decide))).trans (((hF19.2 6 (by decide))).trans (((hF6.2 6 (by decide))).trans ((up2_n (by omega)).trans h6z)))) (by exact (cIn_t hib).symm), rfl, (show RelW (I21 (m + 1)) σ from hR25), (FF.tr (FF.tr (FF.tr (FF.ua hFz (by decide) (by decide)) (hF6.mo (by decide) (by decide))) (hF19.mo (by decide) (by decide))) (hF26.mo (by decide) (by decide)))⟩
                rw [hx, ulS_n (by omega) (fun q2 => c81 (eq20.symm.trans (ulY_i.mp q2).2.1))]
              · first | exact absurd c45 (by decide) | exact absurd (by decide) c45
            · first | exact absurd c115 (by decide) | exact absurd (by decide) c115
          · first | exact absurd c102 (by decide) | exact absurd (by decide) c102
        · skip
          refine rc_p (p_aload_n 3 (dk_at ktX7_updatesLeft_0 51 rfl) rfl rfl (b := 85) rfl) ?_
          refine r_iV (As' := []) (rest := []) (s_X7_confirms hm (σ := (fBoot (fUpd v false (upd τ 4 (σ 4))).2).2) (show RelW (I14 (m + 1)) ((fBoot (fUpd v false (upd τ 4 (σ 4))).2).2) from hR18) (Inv.boot (Inv.upda (Inv.s4 hIz hI hW0)))) cw_X7_359 qi_X7_confirms qv_X7_confirms rfl hm.l0 hm.s0 (dk_at ktX7_updatesLeft_0 52 rfl) rfl rfl (Nat.le_of_ble_eq_true rfl) (by decide) (b := 88) rfl (fun v30 I27 J28 q29 => ?_)
          obtain ⟨eq33, rfl, hR31, hF32⟩ := q29
          refine r_if_lt (dk_at ktX7_updatesLeft_0 53 rfl) (b := 95) (by decide) (b2 := 91) rfl (fun c88 => ?_) (fun c88 => ?_)
          · skip
            refine rc_p (p_iconst (v := 0) (dk_at ktX7_updatesLeft_0 56 rfl) (by decide) (b := 96) rfl) ?_
            refine rc_p (p_istore (ls' := [(5, .int 0), (6, .int (1 - (τ 8))), (3, .int (σ 4)), (4, .int (nI q)), (0, .ref m), (1, .int v)]) (dk_at ktX7_updatesLeft_0 57 rfl) (by decide) rfl (b := 98) rfl) ?_
            refine rc_p (p_iload 3 (dk_at ktX7_updatesLeft_0 58 rfl) rfl (b := 100) rfl) ?_
            refine rc_p (p_iload 0 (dk_at ktX7_updatesLeft_0 59 rfl) rfl (b := 102) rfl) ?_
            refine r_if_eq (dk_at ktX7_updatesLeft_1 0 rfl) (b := 109) (by decide) (b2 := 105) rfl (fun c102 => ?_) (fun c102 => ?_)
            · skip
              refine rc_p (p_iconst (v := 0) (dk_at ktX7_updatesLeft_1 3 rfl) (by decide) (b := 110) rfl) ?_
              refine rc_p (p_iadd (v := (nI q)) (dk_at ktX7_updatesLeft_1 4 rfl) (nI_add q 0) (b := 111) rfl) ?_
              refine rc_p (p_istore (ls' := [(4, .int (nI q)), (5, .int 0), (6, .int (1 - (τ 8))), (3, .int (σ 4)), (0, .ref m), (1, .int v)]) (dk_at ktX7_updatesLeft_1 5 rfl) (by decide) rfl (b := 113) rfl) ?_
              refine rc_p (p_iload 1 (dk_at ktX7_updatesLeft_1 6 rfl) rfl (b := 115) rfl) ?_
              refine r_if_eq (dk_at ktX7_updatesLeft_1 7 rfl) (b := 129) (by decide) (b2 := 118) rfl (fun c115 => ?_) (fun c115 => ?_)
              · skip
                refine rc_p (p_iconst (v := 0) (dk_at ktX7_updatesLeft_1 13 rfl) (by decide) (b := 130) rfl) ?_
                refine rc_p (p_istore (ls' := [(5, .int 0), (4, .int (nI q)), (6, .int (1 - (τ 8))), (3, .int (σ 4)), (0, .ref m), (1, .int v)]) (dk_at ktX7_updatesLeft_1 14 rfl) (by decide) rfl (b := 132) rfl) ?_
                refine rc_p (p_goto (b := 43) (dk_at ktX7_updatesLeft_1 15 rfl) (by decide)) ?_
                refine rc_p (p_iload 0 (dk_at ktX7_updatesLeft_0 28 rfl) rfl (b := 45) rfl) ?_
                refine r_if_eq (dk_at ktX7_updatesLeft_0 29 rfl) (b := 135) (by decide) (b2 := 48) rfl (fun c45 => ?_) (fun c45 => ?_)
                · skip
                  refine rc_p (p_aload_n 4 (dk_at ktX7_updatesLeft_1 16 rfl) rfl rfl (b := 136) rfl) ?_
                  refine r_vV (As' := []) (rest := []) (s_X7_comesBack hm (σ := σ) (RelW.cp hAz (hI).2.1.2 (fun k _ => (((congrFun (hF32.1 _ (by omega) (by simp)) k)).trans (((congrFun (hF19.1 _ (by omega) (by simp)) k)).trans (((congrFun (hF6.1 _ (by omega) (by simp)) k)).trans (up2_n (by omega))))))) (hI).2.1.2) cw_X7_392 qi_X7_comesBack qv_X7_comesBack rfl hm.l0 hm.s0 (dk_at ktX7_updatesLeft_1 17 rfl) rfl rfl (Nat.le_of_ble_eq_true rfl) (by decide) (b := 139) rfl (fun I34 J35 q36 => ?_)
                  obtain ⟨rfl, hR38, hF39⟩ := q36
                  refine rc_p (p_iload 1 (dk_at ktX7_updatesLeft_1 18 rfl) rfl (b := 141) rfl) ?_
                  refine r_iret (dk_at ktX7_updatesLeft_1 19 rfl) rfl rfl ⟨_, rfl, ?_⟩
                  refine ⟨fun _ => ?_, Eq.trans (((hF39.2 6 (by decide))).trans (((hF32.2 6 (by decide))).trans (((hF19.2 6 (by decide))).trans (((hF6.2 6 (by decide))).trans ((up2_n (by omega)).trans h6z))))) (by exact (cIn_t hib).symm), rfl, (show RelW (I34 (m + 1)) σ from hR38), (FF.tr (FF.tr (FF.tr (FF.tr (FF.ua hFz (by decide) (by decide)) (hF6.mo (by decide) (by decide))) (hF19.mo (by decide) (by decide))) (hF32.mo (by decide) (by decide))) (hF39.mo (by decide) (by decide)))⟩
                  rw [hx, ulS_n (by omega) (fun q2 => absurd (ulY_i.mp q2).2.2 (by rw [eq33]; exact Int32.not_le.mpr c88))]
                · first | exact absurd c45 (by decide) | exact absurd (by decide) c45
              · first | exact absurd c115 (by decide) | exact absurd (by decide) c115
            · first | exact absurd c102 (by decide) | exact absurd (by decide) c102
          · skip
            refine rc_p (p_iconst (v := 1) (dk_at ktX7_updatesLeft_0 54 rfl) (by decide) (b := 92) rfl) ?_
            refine rc_p (p_goto (b := 96) (dk_at ktX7_updatesLeft_0 55 rfl) (by decide)) ?_
            refine rc_p (p_istore (ls' := [(5, .int 1), (6, .int (1 - (τ 8))), (3, .int (σ 4)), (4, .int (nI q)), (0, .ref m), (1, .int v)]) (dk_at ktX7_updatesLeft_0 57 rfl) (by decide) rfl (b := 98) rfl) ?_
            refine rc_p (p_iload 3 (dk_at ktX7_updatesLeft_0 58 rfl) rfl (b := 100) rfl) ?_
            refine rc_p (p_iload 0 (dk_at ktX7_updatesLeft_0 59 rfl) rfl (b := 102) rfl) ?_
            refine r_if_eq (dk_at ktX7_updatesLeft_1 0 rfl) (b := 109) (by decide) (b2 := 105) rfl (fun c102 => ?_) (fun c102 => ?_)
            · first | exact absurd c102 (by decide) | exact absurd (by decide) c102
            · skip
              refine rc_p (p_iconst (v := 1) (dk_at ktX7_updatesLeft_1 1 rfl) (by decide) (b := 106) rfl) ?_
              refine rc_p (p_goto (b := 110) (dk_at ktX7_updatesLeft_1 2 rfl) (by decide)) ?_
              refine rc_p (p_iadd (v := (nI (q + 1))) (dk_at ktX7_updatesLeft_1 4 rfl) (nI_add q 1) (b := 111) rfl) ?_
              refine rc_p (p_istore (ls' := [(4, .int (nI (q + 1))), (5, .int 1), (6, .int (1 - (τ 8))), (3, .int (σ 4)), (0, .ref m), (1, .int v)]) (dk_at ktX7_updatesLeft_1 5 rfl) (by decide) rfl (b := 113) rfl) ?_
              refine rc_p (p_iload 1 (dk_at ktX7_updatesLeft_1 6 rfl) rfl (b := 115) rfl) ?_
              refine r_if_eq (dk_at ktX7_updatesLeft_1 7 rfl) (b := 129) (by decide) (b2 := 118) rfl (fun c115 => ?_) (fun c115 => ?_)
              · first | exact absurd c115 (by decide) | exact absurd (by decide) c115
              · skip
                refine rc_p (p_iload 0 (dk_at ktX7_updatesLeft_1 8 rfl) rfl (b := 120) rfl) ?_
                refine rc_p (p_bipush (v := 60) (dk_at ktX7_updatesLeft_1 9 rfl) (by decide) (b := 122) rfl) ?_
                refine r_icmp_ge (dk_at ktX7_updatesLeft_1 10 rfl) (b := 129) (by decide) (b2 := 125) rfl (fun c122 => ?_) (fun c122 => ?_)
                · have c122 : 60 ≤ (q + 1) := (nI_leI (a := 60) (b := q + 1) (by omega) (by omega)).mp c122
                  refine rc_p (p_iconst (v := 0) (dk_at ktX7_updatesLeft_1 13 rfl) (by decide) (b := 130) rfl) ?_
                  refine rc_p (p_istore (ls' := [(5, .int 0), (4, .int (nI (q + 1))), (6, .int (1 - (τ 8))), (3, .int (σ 4)), (0, .ref m), (1, .int v)]) (dk_at ktX7_updatesLeft_1 14 rfl) (by decide) rfl (b := 132) rfl) ?_
                  refine rc_p (p_goto (b := 43) (dk_at ktX7_updatesLeft_1 15 rfl) (by decide)) ?_
                  refine rc_p (p_iload 0 (dk_at ktX7_updatesLeft_0 28 rfl) rfl (b := 45) rfl) ?_
                  refine r_if_eq (dk_at ktX7_updatesLeft_0 29 rfl) (b := 135) (by decide) (b2 := 48) rfl (fun c45 => ?_) (fun c45 => ?_)
                  · skip
                    refine rc_p (p_aload_n 4 (dk_at ktX7_updatesLeft_1 16 rfl) rfl rfl (b := 136) rfl) ?_
                    refine r_vV (As' := []) (rest := []) (s_X7_comesBack hm (σ := σ) (RelW.cp hAz (hI).2.1.2 (fun k _ => (((congrFun (hF32.1 _ (by omega) (by simp)) k)).trans (((congrFun (hF19.1 _ (by omega) (by simp)) k)).trans (((congrFun (hF6.1 _ (by omega) (by simp)) k)).trans (up2_n (by omega))))))) (hI).2.1.2) cw_X7_392 qi_X7_comesBack qv_X7_comesBack rfl hm.l0 hm.s0 (dk_at ktX7_updatesLeft_1 17 rfl) rfl rfl (Nat.le_of_ble_eq_true rfl) (by decide) (b := 139) rfl (fun I40 J41 q42 => ?_)
                    obtain ⟨rfl, hR44, hF45⟩ := q42
                    refine rc_p (p_iload 1 (dk_at ktX7_updatesLeft_1 18 rfl) rfl (b := 141) rfl) ?_
                    refine r_iret (dk_at ktX7_updatesLeft_1 19 rfl) rfl rfl ⟨_, rfl, ?_⟩
                    refine ⟨fun _ => ?_, Eq.trans (((hF45.2 6 (by decide))).trans (((hF32.2 6 (by decide))).trans (((hF19.2 6 (by decide))).trans (((hF6.2 6 (by decide))).trans ((up2_n (by omega)).trans h6z))))) (by exact (cIn_t hib).symm), rfl, (show RelW (I40 (m + 1)) σ from hR44), (FF.tr (FF.tr (FF.tr (FF.tr (FF.ua hFz (by decide) (by decide)) (hF6.mo (by decide) (by decide))) (hF19.mo (by decide) (by decide))) (hF32.mo (by decide) (by decide))) (hF45.mo (by decide) (by decide)))⟩
                    have hy : ulY v (σ 4) τ = true := ulY_i.mpr ⟨by rw [eq7]; exact Int32.not_le.mp c72, eq20.trans c81, by rw [eq33]; exact Int32.not_lt.mp c88⟩
                    rw [hx, ulS_y (by omega) hy, show q + 1 = 60 by omega]; rfl
                  · first | exact absurd c45 (by decide) | exact absurd (by decide) c45
                · have c122 : ¬ 60 ≤ (q + 1) := fun h => c122 ((nI_leI (a := 60) (b := q + 1) (by omega) (by omega)).mpr h)
                  refine rc_p (p_iconst (v := 1) (dk_at ktX7_updatesLeft_1 11 rfl) (by decide) (b := 126) rfl) ?_
                  refine rc_p (p_goto (b := 130) (dk_at ktX7_updatesLeft_1 12 rfl) (by decide)) ?_
                  refine rc_p (p_istore (ls' := [(5, .int 1), (4, .int (nI (q + 1))), (6, .int (1 - (τ 8))), (3, .int (σ 4)), (0, .ref m), (1, .int v)]) (dk_at ktX7_updatesLeft_1 14 rfl) (by decide) rfl (b := 132) rfl) ?_
                  refine rc_p (p_goto (b := 43) (dk_at ktX7_updatesLeft_1 15 rfl) (by decide)) ?_
                  refine rc_p (p_iload 0 (dk_at ktX7_updatesLeft_0 28 rfl) rfl (b := 45) rfl) ?_
                  refine r_if_eq (dk_at ktX7_updatesLeft_0 29 rfl) (b := 135) (by decide) (b2 := 48) rfl (fun c45 => ?_) (fun c45 => ?_)
                  · first | exact absurd c45 (by decide) | exact absurd (by decide) c45
                  · skip
                    refine rc_sub [3, 1, 4, 5] (ls' := [(3, .int (σ 4)), (4, .int (nI (q + 1))), (0, .ref m), (1, .int v)]) rfl ?_
                    have hy : ulY v (σ 4) τ = true := ulY_i.mpr ⟨by rw [eq7]; exact Int32.not_le.mp c72, eq20.trans c81, by rw [eq33]; exact Int32.not_lt.mp c88⟩
                    exact ih (q + 1) I27 ((fCon (fBoot (fUpd v false (upd τ 4 (σ 4))).2).2).2) (show RelW (I27 (m + 1)) ((fCon (fBoot (fUpd v false (upd τ 4 (σ 4))).2).2).2) from hR31) ((hIz.s4 hI hW0).upda.boot.con) (RelW.cp hAz hI.2.1.2 (fun k _ => (((congrFun (hF32.1 _ (by omega) (by simp)) k)).trans (((congrFun (hF19.1 _ (by omega) (by simp)) k)).trans (((congrFun (hF6.1 _ (by omega) (by simp)) k)).trans (up2_n (by omega))))))) (((hF32.2 6 (by decide))).trans (((hF19.2 6 (by decide))).trans (((hF6.2 6 (by decide))).trans ((up2_n (by omega)).trans h6z)))) (FF.tr (FF.tr (FF.tr (FF.ua hFz (by decide) (by decide)) (hF6.mo (by decide) (by decide))) (hF19.mo (by decide) (by decide))) (hF32.mo (by decide) (by decide))) (by omega) (by omega) ((con_ne (by decide)).trans ((boot_ne (by decide)).trans ((upd_ne (by decide) (by decide)).trans ((upd_n (by decide)).trans hW0)))) (hx.trans (congrArg nI (ulS_y (by omega) hy)))
    refine rc_p (p_aload_n 0 (dk_at ktX7_updatesLeft_0 0 rfl) rfl rfl (b := 1) rfl) ?_
    refine rc_p (p_iload_n 1 (dk_at ktX7_updatesLeft_0 1 rfl) rfl rfl (b := 2) rfl) ?_
    refine r_iV (As' := [.int v]) (rest := []) (s_X7_noVersion hm (σ := σ) hR hI v) cw_X7_352 qi_X7_noVersion qv_X7_noVersion rfl hm.l0 hm.s0 (dk_at ktX7_updatesLeft_0 2 rfl) rfl rfl (Nat.le_of_ble_eq_true rfl) (by decide) (b := 5) rfl (fun v49 I46 J47 q48 => ?_)
    obtain ⟨rfl, rfl, hR50, hF51, h652⟩ := q48
    refine r_val (y := 0) (by rw [hib]; rfl) ?_
    have h653 : I46 m 6 = 0 := h652.trans (by rw [hib]; rfl)
    refine r_if_eq (dk_at ktX7_updatesLeft_0 3 rfl) (b := 10) (by decide) (b2 := 8) rfl (fun c5 => ?_) (fun c5 => ?_)
    · skip
      refine rc_p (p_aload_n 0 (dk_at ktX7_updatesLeft_0 6 rfl) rfl rfl (b := 11) rfl) ?_
      refine rc_p (p_iload_n 1 (dk_at ktX7_updatesLeft_0 7 rfl) rfl rfl (b := 12) rfl) ?_
      refine r_iV (As' := [.int v]) (rest := []) (s_X7_errorOf hm (σ := σ) hR50 hI v) cw_X7_340 qi_X7_errorOf qv_X7_errorOf rfl hm.l0 hm.s0 (dk_at ktX7_updatesLeft_0 8 rfl) rfl rfl (Nat.le_of_ble_eq_true rfl) (by decide) (b := 15) rfl (fun v57 I54 J55 q56 => ?_)
      obtain ⟨ee61, rfl, hR60, hT58, hF59⟩ := q56
      refine rc_p (p_istore_n (ls' := [(2, .int v57), (0, .ref m), (1, .int v)]) (dk_at ktX7_updatesLeft_0 9 rfl) rfl (by decide) rfl (b := 16) rfl) ?_
      refine rc_p (p_iload_n 0 (dk_at ktX7_updatesLeft_0 10 rfl) rfl rfl (b := 17) rfl) ?_
      refine r_if_eq (dk_at ktX7_updatesLeft_0 11 rfl) (b := 25) (by decide) (b2 := 20) rfl (fun c17 => ?_) (fun c17 => ?_)
      · skip
        refine rc_p (p_aload_n 1 (dk_at ktX7_updatesLeft_0 16 rfl) rfl rfl (b := 26) rfl) ?_
        refine rc_p (p_iconst (v := (-1)) (dk_at ktX7_updatesLeft_0 17 rfl) (by decide) (b := 27) rfl) ?_
        refine r_vV (As' := [.int (-1)]) (rest := []) (s_X7_goesAside hm (σ := σ) (show RelW (I54 (m + 1)) σ from hR60) hI (-1)) cw_X7_388 qi_X7_goesAside qv_X7_goesAside rfl hm.l0 hm.s0 (dk_at ktX7_updatesLeft_0 18 rfl) rfl rfl (Nat.le_of_ble_eq_true rfl) (by decide) (b := 30) rfl (fun I62 J63 q64 => ?_)
        obtain ⟨rfl, hR66, hA67, hF68⟩ := q64
        refine rc_p (p_aload_n 1 (dk_at ktX7_updatesLeft_0 19 rfl) rfl rfl (b := 31) rfl) ?_
        refine r_geta fl_X7_9 rfl hm.l0 hm.s0 (dk_at ktX7_updatesLeft_0 20 rfl) hm.g0_0 (b := 34) rfl ?_
        refine rc_p (p_iconst (v := 4) (dk_at ktX7_updatesLeft_0 21 rfl) (by decide) (b := 35) rfl) ?_
        refine r_iald (j := 4) (hm.lt 1 (by decide)) hm.s1 (dk_at ktX7_updatesLeft_0 22 rfl) rfl ⟨by decide, by decide⟩ (v := (σ 4)) (((show RelW (I62 (m + 1)) (upd σ 6 (-1)) from hR66).1 4 (by decide)).trans (upd_n (by decide))) (b := 36) rfl ?_
        refine rc_p (p_istore_n (ls' := [(3, .int (σ 4)), (2, .int v57), (0, .ref m), (1, .int v)]) (dk_at ktX7_updatesLeft_0 23 rfl) rfl (by decide) rfl (b := 37) rfl) ?_
        refine rc_p (p_iconst (v := 0) (dk_at ktX7_updatesLeft_0 24 rfl) (by decide) (b := 38) rfl) ?_
        refine rc_p (p_istore (ls' := [(4, .int 0), (3, .int (σ 4)), (2, .int v57), (0, .ref m), (1, .int v)]) (dk_at ktX7_updatesLeft_0 25 rfl) (by decide) rfl (b := 40) rfl) ?_
        refine rc_p (p_iconst (v := 1) (dk_at ktX7_updatesLeft_0 26 rfl) (by decide) (b := 41) rfl) ?_
        refine rc_p (p_istore (ls' := [(5, .int 1), (4, .int 0), (3, .int (σ 4)), (2, .int v57), (0, .ref m), (1, .int v)]) (dk_at ktX7_updatesLeft_0 27 rfl) (by decide) rfl (b := 43) rfl) ?_
        refine rc_p (p_iload 0 (dk_at ktX7_updatesLeft_0 28 rfl) rfl (b := 45) rfl) ?_
        refine r_if_eq (dk_at ktX7_updatesLeft_0 29 rfl) (b := 135) (by decide) (b2 := 48) rfl (fun c45 => ?_) (fun c45 => ?_)
        · first | exact absurd c45 (by decide) | exact absurd (by decide) c45
        · skip
          refine rc_sub [2, 1, 4, 5] (ls' := [(3, .int (σ 4)), (4, .int 0), (0, .ref m), (1, .int v)]) rfl ?_
          have he0 : errU v σ = 0 := ee61.trans c17
          exact cut48 he0 1000 0 I62 (upd σ 6 (-1)) (show RelW (I62 (m + 1)) (upd σ 6 (-1)) from hR66) hI.pm (RelW.cp hA67 hI.2.1.2 (fun k _ => rfl)) (((hF68.2 6 (by decide))).trans (((hF59.2 6 (by decide))).trans h653)) (FF.tr (FF.tr (FF.tr FF.rf (hF51.mo (by decide) (by decide))) (hF59.mo (by decide) (by decide))) (hF68.mo (by decide) (by decide))) (by omega) (by omega) rfl (if_pos he0)
      · skip
        refine rc_p (p_iload_n 0 (dk_at ktX7_updatesLeft_0 12 rfl) rfl rfl (b := 21) rfl) ?_
        refine rc_p (p_bipush (v := 100) (dk_at ktX7_updatesLeft_0 13 rfl) (by decide) (b := 23) rfl) ?_
        refine rc_p (p_isub (v := (v57 - 100)) (dk_at ktX7_updatesLeft_0 14 rfl) rfl (b := 24) rfl) ?_
        refine r_iret (dk_at ktX7_updatesLeft_0 15 rfl) rfl rfl ⟨_, rfl, ?_⟩
        refine ⟨fun _ => ?_, Eq.trans (((hF59.2 6 (by decide))).trans h653) (by exact (cIn_t hib).symm), rfl, (show RelW (I54 (m + 1)) σ from hR60), (FF.tr (FF.tr FF.rf (hF51.mo (by decide) (by decide))) (hF59.mo (by decide) (by decide)))⟩
        unfold a_ul; rw [if_neg (fun q => c17 (ee61.symm.trans q)), ee61]
    · first | exact absurd c5 (by decide) | exact absurd (by decide) c5
  · refine Sp.of (by decide) (ls := [(0, .ref m), (1, .int v)]) (fun _ => rfl) (fun _ => Nat.le_of_ble_eq_true rfl) ?_
    refine rc_p (p_aload_n 0 (dk_at ktX7_updatesLeft_0 0 rfl) rfl rfl (b := 1) rfl) ?_
    refine rc_p (p_iload_n 1 (dk_at ktX7_updatesLeft_0 1 rfl) rfl rfl (b := 2) rfl) ?_
    refine r_iV (As' := [.int v]) (rest := []) (s_X7_noVersion hm (σ := σ) hR hI v) cw_X7_352 qi_X7_noVersion qv_X7_noVersion rfl hm.l0 hm.s0 (dk_at ktX7_updatesLeft_0 2 rfl) rfl rfl (Nat.le_of_ble_eq_true rfl) (by decide) (b := 5) rfl (fun v72 I69 J70 q71 => ?_)
    obtain ⟨rfl, rfl, hR73, hF74, h675⟩ := q71
    refine r_val (y := 1) (by rw [hw]; rfl) ?_
    have h676 : I69 m 6 = 1 := h675.trans (by rw [hw]; rfl)
    refine r_if_eq (dk_at ktX7_updatesLeft_0 3 rfl) (b := 10) (by decide) (b2 := 8) rfl (fun c5 => ?_) (fun c5 => ?_)
    · first | exact absurd c5 (by decide) | exact absurd (by decide) c5
    · skip
      refine rc_p (p_iconst (v := 0) (dk_at ktX7_updatesLeft_0 4 rfl) (by decide) (b := 9) rfl) ?_
      refine r_iret (dk_at ktX7_updatesLeft_0 5 rfl) rfl rfl ⟨_, rfl, ?_⟩
      refine ⟨fun hz => ?_, ?_, rfl, ?_, (hF74.mo (by decide) (by decide))⟩
      · exact absurd (hz.symm.trans (cIn_f hw)) (by decide)
      · exact Eq.trans h676 (by exact (cIn_f hw).symm)
      · exact hR73
set_option maxRecDepth 4000 in
set_option maxHeartbeats 4000000 in
theorem s_X7_firstUnsafePair {n : Nat} {sh : mS} {G : mG} {I : mI} {J : mJ} {m : Nat} {σ : sT} (hm : ModG n sh G m) (hR : RelW (I (m + 1)) σ) (hI : Inv σ) (v : Int32)  : Sp yX7_firstUnsafePair cX7_firstUnsafePair 6 (some FieldType.int) 12 576 0 0 [.ref m, .int v] n sh G I J (Qi (fun r_ I_ J_ => (cIn v 1 255 = 0 → a_fp v σ = r_) ∧ I_ m 6 = cIn v 1 255 ∧ J = J_ ∧ RelW (I_ (m + 1)) (σ) ∧ FF m [1, 2, 8] [6, 18, 19, 20, 21, 22, 23, 24, 26, 27] I I_)) nX := by
  have hb := hI.bd
  rcases Bool.eq_false_or_eq_true (inI v 1 255) with hib | hw
  · refine Sp.of (by decide) (ls := [(0, .ref m), (1, .int v)]) (fun _ => rfl) (fun _ => Nat.le_of_ble_eq_true rfl) ?_
    have cut39 : errU v σ = 0 → ∀ (t c : Nat), (c ≤ 93 ∧ a_fp v σ = fpS v σ (1001 - c) c) → (∀ (c : Nat) (y : Int32) (Iz : mI), RelW (Iz (m + 1)) σ → Iz m 6 = 0 → FF m [1, 2, 8] [6, 18, 19, 20, 21, 22, 23, 24, 26, 27] I Iz → 100 - c < t → (¬ y = -2 → c ≤ 93 ∧ a_fp v σ = fpS v σ (1001 - c) c) → (y = -2 → a_fp v σ = -1) → Rc RX7 cX7_firstUnsafePair 6 (some FieldType.int) 12 576 0 0 n sh G (Qi (fun r_ I_ J_ => (cIn v 1 255 = 0 → a_fp v σ = r_) ∧ I_ m 6 = cIn v 1 255 ∧ J = J_ ∧ RelW (I_ (m + 1)) (σ) ∧ FF m [1, 2, 8] [6, 18, 19, 20, 21, 22, 23, 24, 26, 27] I I_)) nX 0 0 30 [(3, .int y), (4, .int (nI c)), (0, .ref m), (1, .int v)] [] Iz J) → 100 - (c + 1) < t → ∀ (u b : Nat) (y : Int32) (Iz : mI), RelW (Iz (m + 1)) σ → Iz m 6 = 0 → FF m [1, 2, 8] [6, 18, 19, 20, 21, 22, 23, 24, 26, 27] I Iz → 12 - b < u → b ≤ 12 → (b = 12 → (fAft v false (nI c) (nI 11) σ).1 = y) → fpX v σ c = fstI (fpP v σ c) (-1) (12 - b) b → Rc RX7 cX7_firstUnsafePair 6 (some FieldType.int) 12 576 0 0 n sh G (Qi (fun r_ I_ J_ => (cIn v 1 255 = 0 → a_fp v σ = r_) ∧ I_ m 6 = cIn v 1 255 ∧ J = J_ ∧ RelW (I_ (m + 1)) (σ) ∧ FF m [1, 2, 8] [6, 18, 19, 20, 21, 22, 23, 24, 26, 27] I I_)) nX 0 0 39 [(3, .int y), (4, .int (nI c)), (5, .int (nI b)), (0, .ref m), (1, .int v)] [] Iz J := by
      intro he0 t c hx iho hct u
      induction u
      · intro b y Iz _ _ _ h; omega
      rename_i u ih
      intro b y Iz hRz h6z hFz hu h1 h3 h4
      refine rc_p (p_iload 2 (dk_at ktX7_firstUnsafePair_0 25 rfl) rfl (b := 41) rfl) ?_
      refine rc_p (p_bipush (v := 11) (dk_at ktX7_firstUnsafePair_0 26 rfl) (by decide) (b := 43) rfl) ?_
      refine r_icmp_gt (dk_at ktX7_firstUnsafePair_0 27 rfl) (b := 78) (by decide) (b2 := 46) rfl (fun c43 => ?_) (fun c43 => ?_)
      · have c43 : 11 < b := (nI_ltI (a := 11) (b := b) (by omega) (by omega)).mp c43
        refine rc_p (p_iinc (j := 1) (v := (nI (c + 1))) (ls' := [(4, .int (nI (c + 1))), (3, .int y), (5, .int (nI b)), (0, .ref m), (1, .int v)]) (dk_at ktX7_firstUnsafePair_0 47 rfl) rfl (nI_add c 1) (by decide) rfl (b := 81) rfl) ?_
        refine rc_p (p_goto (b := 30) (dk_at ktX7_firstUnsafePair_0 48 rfl) (by decide)) ?_
        refine rc_sub [1, 0, 3, 4] (ls' := [(3, .int y), (4, .int (nI (c + 1))), (0, .ref m), (1, .int v)]) rfl ?_
        have hb12 : b = 12 := by omega
        have ey : (fAft v false (nI c) (nI 11) σ).1 = y := h3 hb12
        have hX : fpX v σ c = -1 := by rw [h4, hb12]; rfl
        exact iho (c + 1) _ Iz (show RelW (Iz (m + 1)) σ from hRz) h6z hFz (by omega) (fun q => ⟨by
          rcases Nat.lt_or_ge c 93 with g | g
          · omega
          · exact absurd (ey.symm.trans (aft_full (thr := false) (bc := nI 11) hI he0 g (by omega))) q, hx.2.trans (fpS_g (by omega) (fun q2 => q (ey.symm.trans q2)) hX)⟩) (fun q => hx.2.trans (fpS_e (by omega) (ey.trans q)))
      · have c43 : ¬ 11 < b := fun h => c43 ((nI_ltI (a := 11) (b := b) (by omega) (by omega)).mpr h)
        refine rc_p (p_aload_n 3 (dk_at ktX7_firstUnsafePair_0 28 rfl) rfl rfl (b := 47) rfl) ?_
        refine rc_p (p_iload_n 4 (dk_at ktX7_firstUnsafePair_0 29 rfl) rfl rfl (b := 48) rfl) ?_
        refine rc_p (p_iload 1 (dk_at ktX7_firstUnsafePair_0 30 rfl) rfl (b := 50) rfl) ?_
        refine rc_p (p_iload 2 (dk_at ktX7_firstUnsafePair_0 31 rfl) rfl (b := 52) rfl) ?_
        refine rc_p (p_iconst (v := 0) (dk_at ktX7_firstUnsafePair_0 32 rfl) (by decide) (b := 53) rfl) ?_
        refine rc_p (p_iconst (v := (-1)) (dk_at ktX7_firstUnsafePair_0 33 rfl) (by decide) (b := 54) rfl) ?_
        refine r_iV (As' := [.int v, .int (nI c), .int (nI b), .int 0, .int (-1)]) (rest := []) (s_X7_after hm (σ := σ) (show RelW (Iz (m + 1)) σ from hRz) hI v false (nI c) (nI b) (n_i (by omega)) (n_i (by omega))) cw_X7_406 qi_X7_after qv_X7_after rfl hm.l0 hm.s0 (dk_at ktX7_firstUnsafePair_0 34 rfl) rfl rfl (Nat.le_of_ble_eq_true rfl) (by decide) (b := 57) rfl (fun v4 I1 J2 q3 => ?_)
        obtain ⟨ef5, rfl, hR6, h277, hF8⟩ := q3
        refine rc_p (p_istore_n (ls' := [(3, .int v4), (4, .int (nI c)), (5, .int (nI b)), (0, .ref m), (1, .int v)]) (dk_at ktX7_firstUnsafePair_0 35 rfl) rfl (by decide) rfl (b := 58) rfl) ?_
        refine rc_p (p_iload_n 0 (dk_at ktX7_firstUnsafePair_0 36 rfl) rfl rfl (b := 59) rfl) ?_
        refine rc_p (p_iconst (v := (-1)) (dk_at ktX7_firstUnsafePair_0 37 rfl) (by decide) (b := 60) rfl) ?_
        refine r_icmp_ne (dk_at ktX7_firstUnsafePair_0 38 rfl) (b := 72) (by decide) (b2 := 63) rfl (fun c60 => ?_) (fun c60 => ?_)
        · skip
          refine rc_p (p_iinc (j := 2) (v := (nI (b + 1))) (ls' := [(5, .int (nI (b + 1))), (3, .int v4), (4, .int (nI c)), (0, .ref m), (1, .int v)]) (dk_at ktX7_firstUnsafePair_0 45 rfl) rfl (nI_add b 1) (by decide) rfl (b := 75) rfl) ?_
          refine rc_p (p_goto (b := 39) (dk_at ktX7_firstUnsafePair_0 46 rfl) (by decide)) ?_
          refine rc_sub [1, 2, 0, 3, 4] (ls' := [(3, .int v4), (4, .int (nI c)), (5, .int (nI (b + 1))), (0, .ref m), (1, .int v)]) rfl ?_
          exact ih (b + 1) _ I1 (show RelW (I1 (m + 1)) σ from hR6) (((hF8.2 6 (by decide))).trans h6z) (FF.tr hFz (hF8.mo (by decide) (by decide))) (by omega) (by omega) (fun q => by rw [show 11 = b by omega]; exact ef5) (h4.trans (fst_n (by omega) (by unfold fpP; rw [decide_eq_false (fun q2 => c60 (ef5.symm.trans q2))])))
        · skip
          refine rc_p (p_bipush (v := 100) (dk_at ktX7_firstUnsafePair_0 39 rfl) (by decide) (b := 65) rfl) ?_
          refine rc_p (p_iload 1 (dk_at ktX7_firstUnsafePair_0 40 rfl) rfl (b := 67) rfl) ?_
          refine rc_p (p_imul (v := (nI (100 * c))) (dk_at ktX7_firstUnsafePair_0 41 rfl) (pk_mul 100 c) (b := 68) rfl) ?_
          refine rc_p (p_iload 2 (dk_at ktX7_firstUnsafePair_0 42 rfl) rfl (b := 70) rfl) ?_
          refine rc_p (p_iadd (v := (nI (100 * c + b))) (dk_at ktX7_firstUnsafePair_0 43 rfl) (nI_add (100 * c) b) (b := 71) rfl) ?_
          refine r_iret (dk_at ktX7_firstUnsafePair_0 44 rfl) rfl rfl ⟨_, rfl, ?_⟩
          refine ⟨fun _ => ?_, Eq.trans (((hF8.2 6 (by decide))).trans h6z) (by exact (cIn_t hib).symm), rfl, (show RelW (I1 (m + 1)) σ from hR6), (FF.tr hFz (hF8.mo (by decide) (by decide)))⟩
          have e1 := ef5.trans c60
          exact hx.2.trans (fpS_h (by omega) (fun q => by
            have := aft_2 hI (n_i (by omega)) (n_i (by omega)) (n_i (k := b) (by omega)) q
            rw [e1] at this; exact absurd this (by decide)) (by omega) (h4.trans (fst_y (by omega) (by unfold fpP; rw [decide_eq_true e1]))))
    have cut30 : errU v σ = 0 → ∀ (t c : Nat) (y : Int32) (Iz : mI), RelW (Iz (m + 1)) σ → Iz m 6 = 0 → FF m [1, 2, 8] [6, 18, 19, 20, 21, 22, 23, 24, 26, 27] I Iz → 100 - c < t → (¬ y = -2 → c ≤ 93 ∧ a_fp v σ = fpS v σ (1001 - c) c) → (y = -2 → a_fp v σ = -1) → Rc RX7 cX7_firstUnsafePair 6 (some FieldType.int) 12 576 0 0 n sh G (Qi (fun r_ I_ J_ => (cIn v 1 255 = 0 → a_fp v σ = r_) ∧ I_ m 6 = cIn v 1 255 ∧ J = J_ ∧ RelW (I_ (m + 1)) (σ) ∧ FF m [1, 2, 8] [6, 18, 19, 20, 21, 22, 23, 24, 26, 27] I I_)) nX 0 0 30 [(3, .int y), (4, .int (nI c)), (0, .ref m), (1, .int v)] [] Iz J := by
      intro he0 t
      induction t
      · intro c y Iz _ _ _ h; omega
      rename_i t iho
      intro c y Iz hRz h6z hFz ht h1 h2
      refine rc_p (p_iload_n 0 (dk_at ktX7_firstUnsafePair_0 20 rfl) rfl rfl (b := 31) rfl) ?_
      refine rc_p (p_bipush (v := (-2)) (dk_at ktX7_firstUnsafePair_0 21 rfl) (by decide) (b := 33) rfl) ?_
      refine r_icmp_eq (dk_at ktX7_firstUnsafePair_0 22 rfl) (b := 84) (by decide) (b2 := 36) rfl (fun c33 => ?_) (fun c33 => ?_)
      · skip
        refine rc_p (p_iconst (v := (-1)) (dk_at ktX7_firstUnsafePair_0 49 rfl) (by decide) (b := 85) rfl) ?_
        refine r_iret (dk_at ktX7_firstUnsafePair_0 50 rfl) rfl rfl ⟨_, rfl, ?_⟩
        refine ⟨fun _ => ?_, Eq.trans h6z (by exact (cIn_t hib).symm), rfl, (show RelW (Iz (m + 1)) σ from hRz), hFz⟩
        exact h2 c33
      · skip
        have hx := h1 c33
        refine rc_p (p_iconst (v := 0) (dk_at ktX7_firstUnsafePair_0 23 rfl) (by decide) (b := 37) rfl) ?_
        refine rc_p (p_istore (ls' := [(5, .int 0), (3, .int y), (4, .int (nI c)), (0, .ref m), (1, .int v)]) (dk_at ktX7_firstUnsafePair_0 24 rfl) (by decide) rfl (b := 39) rfl) ?_
        refine rc_sub [1, 2, 0, 3, 4] (ls' := [(3, .int y), (4, .int (nI c)), (5, .int 0), (0, .ref m), (1, .int v)]) rfl ?_
        exact cut39 he0 t c hx iho (by omega) 1000 0 _ Iz (show RelW (Iz (m + 1)) σ from hRz) h6z hFz (by omega) (by omega) (fun q => absurd q (by decide)) rfl
    refine rc_p (p_aload_n 0 (dk_at ktX7_firstUnsafePair_0 0 rfl) rfl rfl (b := 1) rfl) ?_
    refine rc_p (p_iload_n 1 (dk_at ktX7_firstUnsafePair_0 1 rfl) rfl rfl (b := 2) rfl) ?_
    refine r_iV (As' := [.int v]) (rest := []) (s_X7_noVersion hm (σ := σ) hR hI v) cw_X7_352 qi_X7_noVersion qv_X7_noVersion rfl hm.l0 hm.s0 (dk_at ktX7_firstUnsafePair_0 2 rfl) rfl rfl (Nat.le_of_ble_eq_true rfl) (by decide) (b := 5) rfl (fun v12 I9 J10 q11 => ?_)
    obtain ⟨rfl, rfl, hR13, hF14, h615⟩ := q11
    refine r_val (y := 0) (by rw [hib]; rfl) ?_
    have h616 : I9 m 6 = 0 := h615.trans (by rw [hib]; rfl)
    refine r_if_eq (dk_at ktX7_firstUnsafePair_0 3 rfl) (b := 10) (by decide) (b2 := 8) rfl (fun c5 => ?_) (fun c5 => ?_)
    · skip
      refine rc_p (p_aload_n 0 (dk_at ktX7_firstUnsafePair_0 6 rfl) rfl rfl (b := 11) rfl) ?_
      refine rc_p (p_iload_n 1 (dk_at ktX7_firstUnsafePair_0 7 rfl) rfl rfl (b := 12) rfl) ?_
      refine r_iV (As' := [.int v]) (rest := []) (s_X7_errorOf hm (σ := σ) hR13 hI v) cw_X7_340 qi_X7_errorOf qv_X7_errorOf rfl hm.l0 hm.s0 (dk_at ktX7_firstUnsafePair_0 8 rfl) rfl rfl (Nat.le_of_ble_eq_true rfl) (by decide) (b := 15) rfl (fun v20 I17 J18 q19 => ?_)
      obtain ⟨ee24, rfl, hR23, hT21, hF22⟩ := q19
      refine rc_p (p_istore_n (ls' := [(2, .int v20), (0, .ref m), (1, .int v)]) (dk_at ktX7_firstUnsafePair_0 9 rfl) rfl (by decide) rfl (b := 16) rfl) ?_
      refine rc_p (p_iload_n 0 (dk_at ktX7_firstUnsafePair_0 10 rfl) rfl rfl (b := 17) rfl) ?_
      refine r_if_eq (dk_at ktX7_firstUnsafePair_0 11 rfl) (b := 25) (by decide) (b2 := 20) rfl (fun c17 => ?_) (fun c17 => ?_)
      · skip
        refine rc_p (p_iconst (v := 0) (dk_at ktX7_firstUnsafePair_0 16 rfl) (by decide) (b := 26) rfl) ?_
        refine rc_p (p_istore_n (ls' := [(3, .int 0), (2, .int v20), (0, .ref m), (1, .int v)]) (dk_at ktX7_firstUnsafePair_0 17 rfl) rfl (by decide) rfl (b := 27) rfl) ?_
        refine rc_p (p_iconst (v := 0) (dk_at ktX7_firstUnsafePair_0 18 rfl) (by decide) (b := 28) rfl) ?_
        refine rc_p (p_istore (ls' := [(4, .int 0), (3, .int 0), (2, .int v20), (0, .ref m), (1, .int v)]) (dk_at ktX7_firstUnsafePair_0 19 rfl) (by decide) rfl (b := 30) rfl) ?_
        refine rc_sub [1, 0, 3, 4] (ls' := [(3, .int 0), (4, .int 0), (0, .ref m), (1, .int v)]) rfl ?_
        have he0 : errU v σ = 0 := ee24.trans c17
        exact cut30 he0 1000 0 _ I17 (show RelW (I17 (m + 1)) σ from hR23) (((hF22.2 6 (by decide))).trans h616) (FF.tr (FF.tr FF.rf (hF14.mo (by decide) (by decide))) (hF22.mo (by decide) (by decide))) (by omega) (fun _ => ⟨by omega, if_pos he0⟩) (fun q => absurd q (by decide))
      · skip
        refine rc_p (p_iload_n 0 (dk_at ktX7_firstUnsafePair_0 12 rfl) rfl rfl (b := 21) rfl) ?_
        refine rc_p (p_bipush (v := 100) (dk_at ktX7_firstUnsafePair_0 13 rfl) (by decide) (b := 23) rfl) ?_
        refine rc_p (p_isub (v := (v20 - 100)) (dk_at ktX7_firstUnsafePair_0 14 rfl) rfl (b := 24) rfl) ?_
        refine r_iret (dk_at ktX7_firstUnsafePair_0 15 rfl) rfl rfl ⟨_, rfl, ?_⟩
        refine ⟨fun _ => ?_, Eq.trans (((hF22.2 6 (by decide))).trans h616) (by exact (cIn_t hib).symm), rfl, (show RelW (I17 (m + 1)) σ from hR23), (FF.tr (FF.tr FF.rf (hF14.mo (by decide) (by decide))) (hF22.mo (by decide) (by decide)))⟩
        unfold a_fp; rw [if_neg (fun q => c17 (ee24.symm.trans q)), ee24]
    · first | exact absurd c5 (by decide) | exact absurd (by decide) c5
  · refine Sp.of (by decide) (ls := [(0, .ref m), (1, .int v)]) (fun _ => rfl) (fun _ => Nat.le_of_ble_eq_true rfl) ?_
    refine rc_p (p_aload_n 0 (dk_at ktX7_firstUnsafePair_0 0 rfl) rfl rfl (b := 1) rfl) ?_
    refine rc_p (p_iload_n 1 (dk_at ktX7_firstUnsafePair_0 1 rfl) rfl rfl (b := 2) rfl) ?_
    refine r_iV (As' := [.int v]) (rest := []) (s_X7_noVersion hm (σ := σ) hR hI v) cw_X7_352 qi_X7_noVersion qv_X7_noVersion rfl hm.l0 hm.s0 (dk_at ktX7_firstUnsafePair_0 2 rfl) rfl rfl (Nat.le_of_ble_eq_true rfl) (by decide) (b := 5) rfl (fun v28 I25 J26 q27 => ?_)
    obtain ⟨rfl, rfl, hR29, hF30, h631⟩ := q27
    refine r_val (y := 1) (by rw [hw]; rfl) ?_
    have h632 : I25 m 6 = 1 := h631.trans (by rw [hw]; rfl)
    refine r_if_eq (dk_at ktX7_firstUnsafePair_0 3 rfl) (b := 10) (by decide) (b2 := 8) rfl (fun c5 => ?_) (fun c5 => ?_)
    · first | exact absurd c5 (by decide) | exact absurd (by decide) c5
    · skip
      refine rc_p (p_iconst (v := 0) (dk_at ktX7_firstUnsafePair_0 4 rfl) (by decide) (b := 9) rfl) ?_
      refine r_iret (dk_at ktX7_firstUnsafePair_0 5 rfl) rfl rfl ⟨_, rfl, ?_⟩
      refine ⟨fun hz => ?_, ?_, rfl, ?_, (hF30.mo (by decide) (by decide))⟩
      · exact absurd (hz.symm.trans (cIn_f hw)) (by decide)
      · exact Eq.trans h632 (by exact (cIn_f hw).symm)
      · exact hR29
set_option maxRecDepth 4000 in
set_option maxHeartbeats 4000000 in
theorem s_X7_bootsToRollback {n : Nat} {sh : mS} {G : mG} {I : mI} {J : mJ} {m : Nat} {σ : sT} (hm : ModG n sh G m) (hR : RelW (I (m + 1)) σ) (hI : Inv σ) : Sp yX7_bootsToRollback cX7_bootsToRollback 5 (some FieldType.int) 10 480 0 0 [.ref m] n sh G I J (Qi (fun r_ I_ J_ => (0 = 0 → a_br σ = r_) ∧ I_ m 6 = 0 ∧ J = J_ ∧ RelW (I_ (m + 1)) (σ) ∧ FF m [1, 2, 8] [6, 18, 19, 20, 21, 22, 23, 24, 26, 27] I I_)) nX := by
  have hb := hI.bd
  refine Sp.of (by decide) (ls := [(0, .ref m)]) (fun _ => rfl) (fun _ => Nat.le_of_ble_eq_true rfl) ?_
  have cut48 : ∀ (t q : Nat) (f : Int32) (Iz : mI) (τ : sT), RelW (Iz (m + 1)) τ → Inv τ → RelW (Iz (m + 2)) σ → Iz m 6 = 0 → FF m [1, 2, 8] [6, 18, 19, 20, 21, 22, 23, 24, 26, 27] I Iz → 11 - q < t → q < 11 → a_br σ = brS (11 - q) q f τ → Rc RX7 cX7_bootsToRollback 5 (some FieldType.int) 10 480 0 0 n sh G (Qi (fun r_ I_ J_ => (0 = 0 → a_br σ = r_) ∧ I_ m 6 = 0 ∧ J = J_ ∧ RelW (I_ (m + 1)) (σ) ∧ FF m [1, 2, 8] [6, 18, 19, 20, 21, 22, 23, 24, 26, 27] I I_)) nX 0 0 48 [(1, .int f), (2, .int (-1)), (3, .int (nI q)), (0, .ref m)] [] Iz J := by
    intro t
    induction t
    · intro q f Iz τ _ _ _ _ _ h; omega
    rename_i t ih
    intro q f Iz τ hRz hIz hAz h6z hFz ht h1 hx
    refine rc_p (p_aload_n 3 (dk_at ktX7_bootsToRollback_0 29 rfl) rfl rfl (b := 49) rfl) ?_
    refine r_iV (As' := []) (rest := []) (s_X7_boots hm (σ := τ) hRz hIz) cw_X7_319 qi_X7_boots qv_X7_boots rfl hm.l0 hm.s0 (dk_at ktX7_bootsToRollback_0 30 rfl) rfl rfl (Nat.le_of_ble_eq_true rfl) (by decide) (b := 52) rfl (fun v4 I1 J2 q3 => ?_)
    obtain ⟨eq7, rfl, hR5, hF6⟩ := q3
    refine rc_p (p_istore (ls' := [(4, .int v4), (1, .int f), (2, .int (-1)), (3, .int (nI q)), (0, .ref m)]) (dk_at ktX7_bootsToRollback_0 31 rfl) (by decide) rfl (b := 54) rfl) ?_
    refine rc_p (p_iload 0 (dk_at ktX7_bootsToRollback_0 32 rfl) rfl (b := 56) rfl) ?_
    refine rc_p (p_iconst (v := (-1)) (dk_at ktX7_bootsToRollback_0 33 rfl) (by decide) (b := 57) rfl) ?_
    refine r_icmp_ne (dk_at ktX7_bootsToRollback_0 34 rfl) (b := 63) (by decide) (b2 := 60) rfl (fun c57 => ?_) (fun c57 => ?_)
    · skip
      refine rc_p (p_iload_n 1 (dk_at ktX7_bootsToRollback_0 36 rfl) rfl rfl (b := 64) rfl) ?_
      refine rc_p (p_iconst (v := (-1)) (dk_at ktX7_bootsToRollback_0 37 rfl) (by decide) (b := 65) rfl) ?_
      refine r_icmp_ne (dk_at ktX7_bootsToRollback_0 38 rfl) (b := 71) (by decide) (b2 := 68) rfl (fun c65 => ?_) (fun c65 => ?_)
      · skip
        refine rc_p (p_iload 0 (dk_at ktX7_bootsToRollback_0 41 rfl) rfl (b := 73) rfl) ?_
        refine rc_p (p_iload_n 1 (dk_at ktX7_bootsToRollback_0 42 rfl) rfl rfl (b := 74) rfl) ?_
        refine r_icmp_eq (dk_at ktX7_bootsToRollback_0 43 rfl) (b := 79) (by decide) (b2 := 77) rfl (fun c74 => ?_) (fun c74 => ?_)
        · skip
          refine rc_p (p_iinc (j := 3) (v := (nI (q + 1))) (ls' := [(3, .int (nI (q + 1))), (4, .int v4), (1, .int f), (2, .int (-1)), (0, .ref m)]) (dk_at ktX7_bootsToRollback_0 46 rfl) rfl (nI_add q 1) (by decide) rfl (b := 82) rfl) ?_
          refine rc_p (p_goto (b := 37) (dk_at ktX7_bootsToRollback_0 47 rfl) (by decide)) ?_
          refine rc_p (p_iload_n 0 (dk_at ktX7_bootsToRollback_0 23 rfl) rfl rfl (b := 38) rfl) ?_
          refine rc_p (p_bipush (v := 10) (dk_at ktX7_bootsToRollback_0 24 rfl) (by decide) (b := 40) rfl) ?_
          refine r_icmp_gt (dk_at ktX7_bootsToRollback_0 25 rfl) (b := 85) (by decide) (b2 := 43) rfl (fun c40 => ?_) (fun c40 => ?_)
          · have c40 : 10 < (q + 1) := (nI_ltI (a := 10) (b := q + 1) (by omega) (by omega)).mp c40
            refine rc_p (p_aload_n 4 (dk_at ktX7_bootsToRollback_0 48 rfl) rfl rfl (b := 86) rfl) ?_
            refine r_vV (As' := []) (rest := []) (s_X7_comesBack hm (σ := σ) (RelW.cp hAz (hI).2.1.2 (fun k _ => (congrFun (hF6.1 _ (by omega) (by simp)) k))) (hI).2.1.2) cw_X7_392 qi_X7_comesBack qv_X7_comesBack rfl hm.l0 hm.s0 (dk_at ktX7_bootsToRollback_0 49 rfl) rfl rfl (Nat.le_of_ble_eq_true rfl) (by decide) (b := 89) rfl (fun I8 J9 q10 => ?_)
            obtain ⟨rfl, hR12, hF13⟩ := q10
            refine rc_p (p_iload_n 3 (dk_at ktX7_bootsToRollback_0 50 rfl) rfl rfl (b := 90) rfl) ?_
            refine r_iret (dk_at ktX7_bootsToRollback_0 51 rfl) rfl rfl ⟨_, rfl, ?_⟩
            refine ⟨fun _ => ?_, Eq.trans (((hF13.2 6 (by decide))).trans (((hF6.2 6 (by decide))).trans h6z)) (by rfl), rfl, (show RelW (I8 (m + 1)) σ from hR12), (FF.tr (FF.tr hFz (hF6.mo (by decide) (by decide))) (hF13.mo (by decide) (by decide)))⟩
            have hq : q = 10 := by omega
            subst hq
            exact hx.trans (brS_g (by decide) (fun q2 => c57 (eq7.symm.trans q2)) (if_neg c65) (eq7.trans c74))
          · have c40 : ¬ 10 < (q + 1) := fun h => c40 ((nI_ltI (a := 10) (b := q + 1) (by omega) (by omega)).mpr h)
            refine rc_p (p_iload_n 3 (dk_at ktX7_bootsToRollback_0 26 rfl) rfl rfl (b := 44) rfl) ?_
            refine rc_p (p_iconst (v := (-1)) (dk_at ktX7_bootsToRollback_0 27 rfl) (by decide) (b := 45) rfl) ?_
            refine r_icmp_ne (dk_at ktX7_bootsToRollback_0 28 rfl) (b := 85) (by decide) (b2 := 48) rfl (fun c45 => ?_) (fun c45 => ?_)
            · first | exact absurd c45 (by decide) | exact absurd (by decide) c45
            · skip
              refine rc_sub [2, 3, 0, 4] (ls' := [(1, .int f), (2, .int (-1)), (3, .int (nI (q + 1))), (0, .ref m)]) rfl ?_
              exact ih (q + 1) f I1 ((fBoot τ).2) (show RelW (I1 (m + 1)) ((fBoot τ).2) from hR5) hIz.boot (RelW.cp hAz hI.2.1.2 (fun k _ => (congrFun (hF6.1 _ (by omega) (by simp)) k))) (((hF6.2 6 (by decide))).trans h6z) (FF.tr hFz (hF6.mo (by decide) (by decide))) (by omega) (by omega) (hx.trans (brS_g (by omega) (fun q2 => c57 (eq7.symm.trans q2)) (if_neg c65) (eq7.trans c74)))
        · skip
          refine rc_p (p_iload_n 3 (dk_at ktX7_bootsToRollback_0 44 rfl) rfl rfl (b := 78) rfl) ?_
          refine rc_p (p_istore_n (ls' := [(2, .int (nI q)), (4, .int v4), (1, .int f), (3, .int (nI q)), (0, .ref m)]) (dk_at ktX7_bootsToRollback_0 45 rfl) rfl (by decide) rfl (b := 79) rfl) ?_
          refine rc_p (p_iinc (j := 3) (v := (nI (q + 1))) (ls' := [(3, .int (nI (q + 1))), (2, .int (nI q)), (4, .int v4), (1, .int f), (0, .ref m)]) (dk_at ktX7_bootsToRollback_0 46 rfl) rfl (nI_add q 1) (by decide) rfl (b := 82) rfl) ?_
          refine rc_p (p_goto (b := 37) (dk_at ktX7_bootsToRollback_0 47 rfl) (by decide)) ?_
          refine rc_p (p_iload_n 0 (dk_at ktX7_bootsToRollback_0 23 rfl) rfl rfl (b := 38) rfl) ?_
          refine rc_p (p_bipush (v := 10) (dk_at ktX7_bootsToRollback_0 24 rfl) (by decide) (b := 40) rfl) ?_
          refine r_icmp_gt (dk_at ktX7_bootsToRollback_0 25 rfl) (b := 85) (by decide) (b2 := 43) rfl (fun c40 => ?_) (fun c40 => ?_)
          · have c40 : 10 < (q + 1) := (nI_ltI (a := 10) (b := q + 1) (by omega) (by omega)).mp c40
            refine rc_p (p_aload_n 4 (dk_at ktX7_bootsToRollback_0 48 rfl) rfl rfl (b := 86) rfl) ?_
            refine r_vV (As' := []) (rest := []) (s_X7_comesBack hm (σ := σ) (RelW.cp hAz (hI).2.1.2 (fun k _ => (congrFun (hF6.1 _ (by omega) (by simp)) k))) (hI).2.1.2) cw_X7_392 qi_X7_comesBack qv_X7_comesBack rfl hm.l0 hm.s0 (dk_at ktX7_bootsToRollback_0 49 rfl) rfl rfl (Nat.le_of_ble_eq_true rfl) (by decide) (b := 89) rfl (fun I14 J15 q16 => ?_)
            obtain ⟨rfl, hR18, hF19⟩ := q16
            refine rc_p (p_iload_n 1 (dk_at ktX7_bootsToRollback_0 50 rfl) rfl rfl (b := 90) rfl) ?_
            refine r_iret (dk_at ktX7_bootsToRollback_0 51 rfl) rfl rfl ⟨_, rfl, ?_⟩
            refine ⟨fun _ => ?_, Eq.trans (((hF19.2 6 (by decide))).trans (((hF6.2 6 (by decide))).trans h6z)) (by rfl), rfl, (show RelW (I14 (m + 1)) σ from hR18), (FF.tr (FF.tr hFz (hF6.mo (by decide) (by decide))) (hF19.mo (by decide) (by decide)))⟩
            exact hx.trans (brS_h (by omega) (fun q2 => c57 (eq7.symm.trans q2)) (if_neg c65) (fun q2 => c74 (eq7.symm.trans q2)))
          · have c40 : ¬ 10 < (q + 1) := fun h => c40 ((nI_ltI (a := 10) (b := q + 1) (by omega) (by omega)).mpr h)
            refine rc_p (p_iload_n 1 (dk_at ktX7_bootsToRollback_0 26 rfl) rfl rfl (b := 44) rfl) ?_
            refine rc_p (p_iconst (v := (-1)) (dk_at ktX7_bootsToRollback_0 27 rfl) (by decide) (b := 45) rfl) ?_
            refine r_icmp_ne (dk_at ktX7_bootsToRollback_0 28 rfl) (b := 85) (by decide) (b2 := 48) rfl (fun c45 => ?_) (fun c45 => ?_)
            · skip
              refine rc_p (p_aload_n 4 (dk_at ktX7_bootsToRollback_0 48 rfl) rfl rfl (b := 86) rfl) ?_
              refine r_vV (As' := []) (rest := []) (s_X7_comesBack hm (σ := σ) (RelW.cp hAz (hI).2.1.2 (fun k _ => (congrFun (hF6.1 _ (by omega) (by simp)) k))) (hI).2.1.2) cw_X7_392 qi_X7_comesBack qv_X7_comesBack rfl hm.l0 hm.s0 (dk_at ktX7_bootsToRollback_0 49 rfl) rfl rfl (Nat.le_of_ble_eq_true rfl) (by decide) (b := 89) rfl (fun I20 J21 q22 => ?_)
              obtain ⟨rfl, hR24, hF25⟩ := q22
              refine rc_p (p_iload_n 1 (dk_at ktX7_bootsToRollback_0 50 rfl) rfl rfl (b := 90) rfl) ?_
              refine r_iret (dk_at ktX7_bootsToRollback_0 51 rfl) rfl rfl ⟨_, rfl, ?_⟩
              refine ⟨fun _ => ?_, Eq.trans (((hF25.2 6 (by decide))).trans (((hF6.2 6 (by decide))).trans h6z)) (by rfl), rfl, (show RelW (I20 (m + 1)) σ from hR24), (FF.tr (FF.tr hFz (hF6.mo (by decide) (by decide))) (hF25.mo (by decide) (by decide)))⟩
              exact hx.trans (brS_h (by omega) (fun q2 => c57 (eq7.symm.trans q2)) (if_neg c65) (fun q2 => c74 (eq7.symm.trans q2)))
            · skip
              exact absurd c45 (nI_nm1 (by omega))
      · skip
        refine rc_p (p_iload 0 (dk_at ktX7_bootsToRollback_0 39 rfl) rfl (b := 70) rfl) ?_
        refine rc_p (p_istore_n (ls' := [(1, .int v4), (4, .int v4), (2, .int (-1)), (3, .int (nI q)), (0, .ref m)]) (dk_at ktX7_bootsToRollback_0 40 rfl) rfl (by decide) rfl (b := 71) rfl) ?_
        refine rc_p (p_iload 1 (dk_at ktX7_bootsToRollback_0 41 rfl) rfl (b := 73) rfl) ?_
        refine rc_p (p_iload_n 0 (dk_at ktX7_bootsToRollback_0 42 rfl) rfl rfl (b := 74) rfl) ?_
        refine r_icmp_eq (dk_at ktX7_bootsToRollback_0 43 rfl) (b := 79) (by decide) (b2 := 77) rfl (fun c74 => ?_) (fun c74 => ?_)
        · skip
          refine rc_p (p_iinc (j := 3) (v := (nI (q + 1))) (ls' := [(3, .int (nI (q + 1))), (1, .int v4), (4, .int v4), (2, .int (-1)), (0, .ref m)]) (dk_at ktX7_bootsToRollback_0 46 rfl) rfl (nI_add q 1) (by decide) rfl (b := 82) rfl) ?_
          refine rc_p (p_goto (b := 37) (dk_at ktX7_bootsToRollback_0 47 rfl) (by decide)) ?_
          refine rc_p (p_iload_n 0 (dk_at ktX7_bootsToRollback_0 23 rfl) rfl rfl (b := 38) rfl) ?_
          refine rc_p (p_bipush (v := 10) (dk_at ktX7_bootsToRollback_0 24 rfl) (by decide) (b := 40) rfl) ?_
          refine r_icmp_gt (dk_at ktX7_bootsToRollback_0 25 rfl) (b := 85) (by decide) (b2 := 43) rfl (fun c40 => ?_) (fun c40 => ?_)
          · have c40 : 10 < (q + 1) := (nI_ltI (a := 10) (b := q + 1) (by omega) (by omega)).mp c40
            refine rc_p (p_aload_n 4 (dk_at ktX7_bootsToRollback_0 48 rfl) rfl rfl (b := 86) rfl) ?_
            refine r_vV (As' := []) (rest := []) (s_X7_comesBack hm (σ := σ) (RelW.cp hAz (hI).2.1.2 (fun k _ => (congrFun (hF6.1 _ (by omega) (by simp)) k))) (hI).2.1.2) cw_X7_392 qi_X7_comesBack qv_X7_comesBack rfl hm.l0 hm.s0 (dk_at ktX7_bootsToRollback_0 49 rfl) rfl rfl (Nat.le_of_ble_eq_true rfl) (by decide) (b := 89) rfl (fun I26 J27 q28 => ?_)
            obtain ⟨rfl, hR30, hF31⟩ := q28
            refine rc_p (p_iload_n 3 (dk_at ktX7_bootsToRollback_0 50 rfl) rfl rfl (b := 90) rfl) ?_
            refine r_iret (dk_at ktX7_bootsToRollback_0 51 rfl) rfl rfl ⟨_, rfl, ?_⟩
            refine ⟨fun _ => ?_, Eq.trans (((hF31.2 6 (by decide))).trans (((hF6.2 6 (by decide))).trans h6z)) (by rfl), rfl, (show RelW (I26 (m + 1)) σ from hR30), (FF.tr (FF.tr hFz (hF6.mo (by decide) (by decide))) (hF31.mo (by decide) (by decide)))⟩
            have hq : q = 10 := by omega
            subst hq
            exact hx.trans (brS_g (by decide) (fun q2 => c57 (eq7.symm.trans q2)) (by unfold brF; rw [if_pos c65]; exact eq7) eq7)
          · have c40 : ¬ 10 < (q + 1) := fun h => c40 ((nI_ltI (a := 10) (b := q + 1) (by omega) (by omega)).mpr h)
            refine rc_p (p_iload_n 3 (dk_at ktX7_bootsToRollback_0 26 rfl) rfl rfl (b := 44) rfl) ?_
            refine rc_p (p_iconst (v := (-1)) (dk_at ktX7_bootsToRollback_0 27 rfl) (by decide) (b := 45) rfl) ?_
            refine r_icmp_ne (dk_at ktX7_bootsToRollback_0 28 rfl) (b := 85) (by decide) (b2 := 48) rfl (fun c45 => ?_) (fun c45 => ?_)
            · first | exact absurd c45 (by decide) | exact absurd (by decide) c45
            · skip
              refine rc_sub [1, 3, 0, 4] (ls' := [(1, .int v4), (2, .int (-1)), (3, .int (nI (q + 1))), (0, .ref m)]) rfl ?_
              exact ih (q + 1) v4 I1 ((fBoot τ).2) (show RelW (I1 (m + 1)) ((fBoot τ).2) from hR5) hIz.boot (RelW.cp hAz hI.2.1.2 (fun k _ => (congrFun (hF6.1 _ (by omega) (by simp)) k))) (((hF6.2 6 (by decide))).trans h6z) (FF.tr hFz (hF6.mo (by decide) (by decide))) (by omega) (by omega) (hx.trans (brS_g (by omega) (fun q2 => c57 (eq7.symm.trans q2)) (by unfold brF; rw [if_pos c65]; exact eq7) eq7))
        · skip
          exact absurd rfl c74
    · skip
      refine rc_p (p_goto (b := 85) (dk_at ktX7_bootsToRollback_0 35 rfl) (by decide)) ?_
      refine rc_p (p_aload_n 4 (dk_at ktX7_bootsToRollback_0 48 rfl) rfl rfl (b := 86) rfl) ?_
      refine r_vV (As' := []) (rest := []) (s_X7_comesBack hm (σ := σ) (RelW.cp hAz (hI).2.1.2 (fun k _ => (congrFun (hF6.1 _ (by omega) (by simp)) k))) (hI).2.1.2) cw_X7_392 qi_X7_comesBack qv_X7_comesBack rfl hm.l0 hm.s0 (dk_at ktX7_bootsToRollback_0 49 rfl) rfl rfl (Nat.le_of_ble_eq_true rfl) (by decide) (b := 89) rfl (fun I32 J33 q34 => ?_)
      obtain ⟨rfl, hR36, hF37⟩ := q34
      refine rc_p (p_iload_n 2 (dk_at ktX7_bootsToRollback_0 50 rfl) rfl rfl (b := 90) rfl) ?_
      refine r_iret (dk_at ktX7_bootsToRollback_0 51 rfl) rfl rfl ⟨_, rfl, ?_⟩
      refine ⟨fun _ => ?_, Eq.trans (((hF37.2 6 (by decide))).trans (((hF6.2 6 (by decide))).trans h6z)) (by rfl), rfl, (show RelW (I32 (m + 1)) σ from hR36), (FF.tr (FF.tr hFz (hF6.mo (by decide) (by decide))) (hF37.mo (by decide) (by decide)))⟩
      exact hx.trans (brS_e (by omega) (eq7.trans c57))
  refine rc_p (p_aload_n 0 (dk_at ktX7_bootsToRollback_0 0 rfl) rfl rfl (b := 1) rfl) ?_
  refine rc_p (p_iconst (v := 0) (dk_at ktX7_bootsToRollback_0 1 rfl) (by decide) (b := 2) rfl) ?_
  refine r_puti fl_X7_46 fw_X7_6 rfl hm.l0 hm.s0 rfl rfl (dk_at ktX7_bootsToRollback_0 2 rfl) (b := 5) rfl ?_
  refine rc_p (p_aload_n 0 (dk_at ktX7_bootsToRollback_0 3 rfl) rfl rfl (b := 6) rfl) ?_
  refine rc_p (p_iconst (v := (-1)) (dk_at ktX7_bootsToRollback_0 4 rfl) (by decide) (b := 7) rfl) ?_
  refine r_vV (As' := [.int (-1)]) (rest := []) (s_X7_goesAside hm (σ := σ) (show RelW ((up2 I m 6 0) (m + 1)) σ from (by rw [up2_off (by omega)]; exact hR)) hI (-1)) cw_X7_388 qi_X7_goesAside qv_X7_goesAside rfl hm.l0 hm.s0 (dk_at ktX7_bootsToRollback_0 5 rfl) rfl rfl (Nat.le_of_ble_eq_true rfl) (by decide) (b := 10) rfl (fun I38 J39 q40 => ?_)
  obtain ⟨rfl, hR42, hA43, hF44⟩ := q40
  refine rc_p (p_aload_n 0 (dk_at ktX7_bootsToRollback_0 6 rfl) rfl rfl (b := 11) rfl) ?_
  refine r_geta fl_X7_9 rfl hm.l0 hm.s0 (dk_at ktX7_bootsToRollback_0 7 rfl) hm.g0_0 (b := 14) rfl ?_
  refine rc_p (p_bipush (v := 7) (dk_at ktX7_bootsToRollback_0 8 rfl) (by decide) (b := 16) rfl) ?_
  refine r_iald (j := 7) (hm.lt 1 (by decide)) hm.s1 (dk_at ktX7_bootsToRollback_0 9 rfl) rfl ⟨by decide, by decide⟩ (v := (σ 7)) (((show RelW (I38 (m + 1)) (upd σ 6 (-1)) from hR42).1 7 (by decide)).trans (upd_n (by decide))) (b := 17) rfl ?_
  refine rc_p (p_iconst (v := 1) (dk_at ktX7_bootsToRollback_0 10 rfl) (by decide) (b := 18) rfl) ?_
  refine r_icmp_ne (dk_at ktX7_bootsToRollback_0 11 rfl) (b := 31) (by decide) (b2 := 21) rfl (fun c18 => ?_) (fun c18 => ?_)
  · skip
    refine rc_p (p_iconst (v := (-1)) (dk_at ktX7_bootsToRollback_0 17 rfl) (by decide) (b := 32) rfl) ?_
    refine rc_p (p_istore_n (ls' := [(1, .int (-1)), (0, .ref m)]) (dk_at ktX7_bootsToRollback_0 18 rfl) rfl (by decide) rfl (b := 33) rfl) ?_
    refine rc_p (p_iconst (v := (-1)) (dk_at ktX7_bootsToRollback_0 19 rfl) (by decide) (b := 34) rfl) ?_
    refine rc_p (p_istore_n (ls' := [(2, .int (-1)), (1, .int (-1)), (0, .ref m)]) (dk_at ktX7_bootsToRollback_0 20 rfl) rfl (by decide) rfl (b := 35) rfl) ?_
    refine rc_p (p_iconst (v := 1) (dk_at ktX7_bootsToRollback_0 21 rfl) (by decide) (b := 36) rfl) ?_
    refine rc_p (p_istore_n (ls' := [(3, .int 1), (2, .int (-1)), (1, .int (-1)), (0, .ref m)]) (dk_at ktX7_bootsToRollback_0 22 rfl) rfl (by decide) rfl (b := 37) rfl) ?_
    refine rc_p (p_iload_n 0 (dk_at ktX7_bootsToRollback_0 23 rfl) rfl rfl (b := 38) rfl) ?_
    refine rc_p (p_bipush (v := 10) (dk_at ktX7_bootsToRollback_0 24 rfl) (by decide) (b := 40) rfl) ?_
    refine r_icmp_gt (dk_at ktX7_bootsToRollback_0 25 rfl) (b := 85) (by decide) (b2 := 43) rfl (fun c40 => ?_) (fun c40 => ?_)
    · first | exact absurd c40 (by decide) | exact absurd (by decide) c40
    · skip
      refine rc_p (p_iload_n 1 (dk_at ktX7_bootsToRollback_0 26 rfl) rfl rfl (b := 44) rfl) ?_
      refine rc_p (p_iconst (v := (-1)) (dk_at ktX7_bootsToRollback_0 27 rfl) (by decide) (b := 45) rfl) ?_
      refine r_icmp_ne (dk_at ktX7_bootsToRollback_0 28 rfl) (b := 85) (by decide) (b2 := 48) rfl (fun c45 => ?_) (fun c45 => ?_)
      · first | exact absurd c45 (by decide) | exact absurd (by decide) c45
      · skip
        refine rc_sub [2, 1, 0, 3] (ls' := [(1, .int (-1)), (2, .int (-1)), (3, .int 1), (0, .ref m)]) rfl ?_
        exact cut48 1000 1 (-1) I38 (upd σ 6 (-1)) (show RelW (I38 (m + 1)) (upd σ 6 (-1)) from hR42) hI.pm (RelW.cp hA43 hI.2.1.2 (fun k _ => rfl)) (((hF44.2 6 (by decide))).trans up2_s) (FF.tr (FF.uf FF.rf (by decide)) (hF44.mo (by decide) (by decide))) (by omega) (by omega) (by have e7 : σ 8 = -1 := hI.2.2.1.not (fun q => c18 q); unfold a_br; rw [e7])
  · skip
    refine rc_p (p_aload_n 0 (dk_at ktX7_bootsToRollback_0 12 rfl) rfl rfl (b := 22) rfl) ?_
    refine r_geta fl_X7_9 rfl hm.l0 hm.s0 (dk_at ktX7_bootsToRollback_0 13 rfl) hm.g0_0 (b := 25) rfl ?_
    refine rc_p (p_bipush (v := 8) (dk_at ktX7_bootsToRollback_0 14 rfl) (by decide) (b := 27) rfl) ?_
    refine r_iald (j := 8) (hm.lt 1 (by decide)) hm.s1 (dk_at ktX7_bootsToRollback_0 15 rfl) rfl ⟨by decide, by decide⟩ (v := (σ 8)) (((show RelW (I38 (m + 1)) (upd σ 6 (-1)) from hR42).1 8 (by decide)).trans (upd_n (by decide))) (b := 28) rfl ?_
    refine rc_p (p_goto (b := 32) (dk_at ktX7_bootsToRollback_0 16 rfl) (by decide)) ?_
    refine rc_p (p_istore_n (ls' := [(1, .int (σ 8)), (0, .ref m)]) (dk_at ktX7_bootsToRollback_0 18 rfl) rfl (by decide) rfl (b := 33) rfl) ?_
    refine rc_p (p_iconst (v := (-1)) (dk_at ktX7_bootsToRollback_0 19 rfl) (by decide) (b := 34) rfl) ?_
    refine rc_p (p_istore_n (ls' := [(2, .int (-1)), (1, .int (σ 8)), (0, .ref m)]) (dk_at ktX7_bootsToRollback_0 20 rfl) rfl (by decide) rfl (b := 35) rfl) ?_
    refine rc_p (p_iconst (v := 1) (dk_at ktX7_bootsToRollback_0 21 rfl) (by decide) (b := 36) rfl) ?_
    refine rc_p (p_istore_n (ls' := [(3, .int 1), (2, .int (-1)), (1, .int (σ 8)), (0, .ref m)]) (dk_at ktX7_bootsToRollback_0 22 rfl) rfl (by decide) rfl (b := 37) rfl) ?_
    refine rc_p (p_iload_n 0 (dk_at ktX7_bootsToRollback_0 23 rfl) rfl rfl (b := 38) rfl) ?_
    refine rc_p (p_bipush (v := 10) (dk_at ktX7_bootsToRollback_0 24 rfl) (by decide) (b := 40) rfl) ?_
    refine r_icmp_gt (dk_at ktX7_bootsToRollback_0 25 rfl) (b := 85) (by decide) (b2 := 43) rfl (fun c40 => ?_) (fun c40 => ?_)
    · first | exact absurd c40 (by decide) | exact absurd (by decide) c40
    · skip
      refine rc_p (p_iload_n 1 (dk_at ktX7_bootsToRollback_0 26 rfl) rfl rfl (b := 44) rfl) ?_
      refine rc_p (p_iconst (v := (-1)) (dk_at ktX7_bootsToRollback_0 27 rfl) (by decide) (b := 45) rfl) ?_
      refine r_icmp_ne (dk_at ktX7_bootsToRollback_0 28 rfl) (b := 85) (by decide) (b2 := 48) rfl (fun c45 => ?_) (fun c45 => ?_)
      · first | exact absurd c45 (by decide) | exact absurd (by decide) c45
      · skip
        refine rc_sub [2, 1, 0, 3] (ls' := [(1, .int (σ 8)), (2, .int (-1)), (3, .int 1), (0, .ref m)]) rfl ?_
        exact cut48 1000 1 (σ 8) I38 (upd σ 6 (-1)) (show RelW (I38 (m + 1)) (upd σ 6 (-1)) from hR42) hI.pm (RelW.cp hA43 hI.2.1.2 (fun k _ => rfl)) (((hF44.2 6 (by decide))).trans up2_s) (FF.tr (FF.uf FF.rf (by decide)) (hF44.mo (by decide) (by decide))) (by omega) (by omega) rfl
set_option maxRecDepth 4000 in
set_option maxHeartbeats 4000000 in
theorem s_X7_firstBootCut {n : Nat} {sh : mS} {G : mG} {I : mI} {J : mJ} {m : Nat} {σ : sT} (hm : ModG n sh G m) (hR : RelW (I (m + 1)) σ) (hI : Inv σ) : Sp yX7_firstBootCut cX7_firstBootCut 5 (some FieldType.int) 11 528 0 0 [.ref m] n sh G I J (Qi (fun r_ I_ J_ => (0 = 0 → a_fb σ = r_) ∧ I_ m 6 = 0 ∧ J = J_ ∧ RelW (I_ (m + 1)) (σ) ∧ FF m [1, 2, 8] [6, 18, 19, 20, 21, 22, 23, 24, 26, 27] I I_)) nX := by
  have hb := hI.bd
  refine Sp.of (by decide) (ls := [(0, .ref m)]) (fun _ => rfl) (fun _ => Nat.le_of_ble_eq_true rfl) ?_
  have cut21 : ∀ (y : Int32), (fBoot (upd σ 6 (-1))).1 = y → ∀ (t c : Nat) (Iz : mI), RelW (Iz (m + 1)) σ → Iz m 6 = 0 → FF m [1, 2, 8] [6, 18, 19, 20, 21, 22, 23, 24, 26, 27] I Iz → 100 - c < t → c ≤ 20 → a_fb σ = fbS σ (1001 - c) c → Rc RX7 cX7_firstBootCut 5 (some FieldType.int) 11 528 0 0 n sh G (Qi (fun r_ I_ J_ => (0 = 0 → a_fb σ = r_) ∧ I_ m 6 = 0 ∧ J = J_ ∧ RelW (I_ (m + 1)) (σ) ∧ FF m [1, 2, 8] [6, 18, 19, 20, 21, 22, 23, 24, 26, 27] I I_)) nX 0 0 21 [(1, .int y), (2, .int (nI c)), (0, .ref m)] [] Iz J := by
    intro y hy t
    induction t
    · intro c Iz _ _ _ h; omega
    rename_i t ih
    intro c Iz hRz h6z hFz ht h1 hx
    refine rc_p (p_aload_n 2 (dk_at ktX7_firstBootCut_0 13 rfl) rfl rfl (b := 22) rfl) ?_
    refine rc_p (p_iload_n 1 (dk_at ktX7_firstBootCut_0 14 rfl) rfl rfl (b := 23) rfl) ?_
    refine r_vV (As' := [.int (nI c)]) (rest := []) (s_X7_goesAside hm (σ := σ) (show RelW (Iz (m + 1)) σ from hRz) hI (nI c)) cw_X7_388 qi_X7_goesAside qv_X7_goesAside rfl hm.l0 hm.s0 (dk_at ktX7_firstBootCut_0 15 rfl) rfl rfl (Nat.le_of_ble_eq_true rfl) (by decide) (b := 26) rfl (fun I1 J2 q3 => ?_)
    obtain ⟨rfl, hR5, hA6, hF7⟩ := q3
    refine rc_p (p_aload_n 2 (dk_at ktX7_firstBootCut_0 16 rfl) rfl rfl (b := 27) rfl) ?_
    refine r_iV (As' := []) (rest := []) (s_X7_boots hm (σ := (upd σ 6 (nI c))) (show RelW (I1 (m + 1)) (upd σ 6 (nI c)) from hR5) (Inv.pn hI (by omega))) cw_X7_319 qi_X7_boots qv_X7_boots rfl hm.l0 hm.s0 (dk_at ktX7_firstBootCut_0 17 rfl) rfl rfl (Nat.le_of_ble_eq_true rfl) (by decide) (b := 30) rfl (fun v11 I8 J9 q10 => ?_)
    obtain ⟨eq14, rfl, hR12, hF13⟩ := q10
    refine rc_p (p_bipush (v := (-4)) (dk_at ktX7_firstBootCut_0 18 rfl) (by decide) (b := 32) rfl) ?_
    refine r_icmp_eq (dk_at ktX7_firstBootCut_0 19 rfl) (b := 39) (by decide) (b2 := 35) rfl (fun c32 => ?_) (fun c32 => ?_)
    · skip
      refine rc_p (p_iconst (v := 0) (dk_at ktX7_firstBootCut_0 22 rfl) (by decide) (b := 40) rfl) ?_
      refine rc_p (p_istore_n (ls' := [(3, .int 0), (1, .int y), (2, .int (nI c)), (0, .ref m)]) (dk_at ktX7_firstBootCut_0 23 rfl) rfl (by decide) rfl (b := 41) rfl) ?_
      refine rc_p (p_iload_n 0 (dk_at ktX7_firstBootCut_0 24 rfl) rfl rfl (b := 42) rfl) ?_
      refine r_if_eq (dk_at ktX7_firstBootCut_0 25 rfl) (b := 49) (by decide) (b2 := 45) rfl (fun c42 => ?_) (fun c42 => ?_)
      · skip
        refine rc_p (p_aload_n 3 (dk_at ktX7_firstBootCut_0 28 rfl) rfl rfl (b := 50) rfl) ?_
        refine r_iV (As' := []) (rest := []) (s_X7_bootsFreely hm (σ := (fBoot (upd σ 6 (nI c))).2) (show RelW (I8 (m + 1)) ((fBoot (upd σ 6 (nI c))).2) from hR12) (Inv.boot (Inv.pn hI (by omega)))) cw_X7_401 qi_X7_bootsFreely qv_X7_bootsFreely rfl hm.l0 hm.s0 (dk_at ktX7_firstBootCut_0 29 rfl) rfl rfl (Nat.le_of_ble_eq_true rfl) (by decide) (b := 53) rfl (fun v18 I15 J16 q17 => ?_)
        obtain ⟨eq21, rfl, hR19, hF20⟩ := q17
        refine rc_p (p_istore (ls' := [(4, .int v18), (3, .int 0), (1, .int y), (2, .int (nI c)), (0, .ref m)]) (dk_at ktX7_firstBootCut_0 30 rfl) (by decide) rfl (b := 55) rfl) ?_
        refine rc_p (p_aload_n 4 (dk_at ktX7_firstBootCut_0 31 rfl) rfl rfl (b := 56) rfl) ?_
        refine r_vV (As' := []) (rest := []) (s_X7_comesBack hm (σ := σ) (RelW.cp hA6 (hI).2.1.2 (fun k _ => (((congrFun (hF20.1 _ (by omega) (by simp)) k)).trans (congrFun (hF13.1 _ (by omega) (by simp)) k)))) (hI).2.1.2) cw_X7_392 qi_X7_comesBack qv_X7_comesBack rfl hm.l0 hm.s0 (dk_at ktX7_firstBootCut_0 32 rfl) rfl rfl (Nat.le_of_ble_eq_true rfl) (by decide) (b := 59) rfl (fun I22 J23 q24 => ?_)
        obtain ⟨rfl, hR26, hF27⟩ := q24
        refine rc_p (p_iload_n 1 (dk_at ktX7_firstBootCut_0 33 rfl) rfl rfl (b := 60) rfl) ?_
        refine r_if_eq (dk_at ktX7_firstBootCut_0 34 rfl) (b := 65) (by decide) (b2 := 63) rfl (fun c60 => ?_) (fun c60 => ?_)
        · skip
          refine rc_p (p_iload 0 (dk_at ktX7_firstBootCut_0 37 rfl) rfl (b := 67) rfl) ?_
          refine rc_p (p_iload_n 2 (dk_at ktX7_firstBootCut_0 38 rfl) rfl rfl (b := 68) rfl) ?_
          refine r_icmp_eq (dk_at ktX7_firstBootCut_0 39 rfl) (b := 73) (by decide) (b2 := 71) rfl (fun c68 => ?_) (fun c68 => ?_)
          · skip
            refine rc_p (p_iinc (j := 3) (v := (nI (c + 1))) (ls' := [(2, .int (nI (c + 1))), (4, .int v18), (3, .int 0), (1, .int y), (0, .ref m)]) (dk_at ktX7_firstBootCut_0 42 rfl) rfl (nI_add c 1) (by decide) rfl (b := 76) rfl) ?_
            refine rc_p (p_goto (b := 21) (dk_at ktX7_firstBootCut_0 43 rfl) (by decide)) ?_
            refine rc_sub [3, 0, 4] (ls' := [(1, .int y), (2, .int (nI (c + 1))), (0, .ref m)]) rfl ?_
            have e1 : (fBoot (upd σ 6 (nI c))).1 = -4 := eq14.trans c32
            have hlt := fb_lt hI (by omega) e1
            exact ih (c + 1) I22 (show RelW (I22 (m + 1)) σ from hR26) (((hF27.2 6 (by decide))).trans (((hF20.2 6 (by decide))).trans (((hF13.2 6 (by decide))).trans (((hF7.2 6 (by decide))).trans h6z)))) (FF.tr (FF.tr (FF.tr (FF.tr hFz (hF7.mo (by decide) (by decide))) (hF13.mo (by decide) (by decide))) (hF20.mo (by decide) (by decide))) (hF27.mo (by decide) (by decide))) (by omega) (by omega) (hx.trans (fbS_g (by omega) e1 (eq21.trans (c68.trans hy.symm))))
          · skip
            refine rc_p (p_iload_n 3 (dk_at ktX7_firstBootCut_0 40 rfl) rfl rfl (b := 72) rfl) ?_
            refine r_iret (dk_at ktX7_firstBootCut_0 41 rfl) rfl rfl ⟨_, rfl, ?_⟩
            refine ⟨fun _ => ?_, Eq.trans (((hF27.2 6 (by decide))).trans (((hF20.2 6 (by decide))).trans (((hF13.2 6 (by decide))).trans (((hF7.2 6 (by decide))).trans h6z)))) (by rfl), rfl, (show RelW (I22 (m + 1)) σ from hR26), (FF.tr (FF.tr (FF.tr (FF.tr hFz (hF7.mo (by decide) (by decide))) (hF13.mo (by decide) (by decide))) (hF20.mo (by decide) (by decide))) (hF27.mo (by decide) (by decide)))⟩
            exact hx.trans (fbS_h (by omega) (eq14.trans c32) (fun q2 => c68 (eq21.symm.trans (q2.trans hy))))
        · first | exact absurd c60 (by decide) | exact absurd (by decide) c60
      · first | exact absurd c42 (by decide) | exact absurd (by decide) c42
    · skip
      refine rc_p (p_iconst (v := 1) (dk_at ktX7_firstBootCut_0 20 rfl) (by decide) (b := 36) rfl) ?_
      refine rc_p (p_goto (b := 40) (dk_at ktX7_firstBootCut_0 21 rfl) (by decide)) ?_
      refine rc_p (p_istore_n (ls' := [(3, .int 1), (1, .int y), (2, .int (nI c)), (0, .ref m)]) (dk_at ktX7_firstBootCut_0 23 rfl) rfl (by decide) rfl (b := 41) rfl) ?_
      refine rc_p (p_iload_n 0 (dk_at ktX7_firstBootCut_0 24 rfl) rfl rfl (b := 42) rfl) ?_
      refine r_if_eq (dk_at ktX7_firstBootCut_0 25 rfl) (b := 49) (by decide) (b2 := 45) rfl (fun c42 => ?_) (fun c42 => ?_)
      · first | exact absurd c42 (by decide) | exact absurd (by decide) c42
      · skip
        refine rc_p (p_iload_n 1 (dk_at ktX7_firstBootCut_0 26 rfl) rfl rfl (b := 46) rfl) ?_
        refine rc_p (p_goto (b := 53) (dk_at ktX7_firstBootCut_0 27 rfl) (by decide)) ?_
        refine rc_p (p_istore (ls' := [(4, .int y), (3, .int 1), (1, .int y), (2, .int (nI c)), (0, .ref m)]) (dk_at ktX7_firstBootCut_0 30 rfl) (by decide) rfl (b := 55) rfl) ?_
        refine rc_p (p_aload_n 4 (dk_at ktX7_firstBootCut_0 31 rfl) rfl rfl (b := 56) rfl) ?_
        refine r_vV (As' := []) (rest := []) (s_X7_comesBack hm (σ := σ) (RelW.cp hA6 (hI).2.1.2 (fun k _ => (congrFun (hF13.1 _ (by omega) (by simp)) k))) (hI).2.1.2) cw_X7_392 qi_X7_comesBack qv_X7_comesBack rfl hm.l0 hm.s0 (dk_at ktX7_firstBootCut_0 32 rfl) rfl rfl (Nat.le_of_ble_eq_true rfl) (by decide) (b := 59) rfl (fun I28 J29 q30 => ?_)
        obtain ⟨rfl, hR32, hF33⟩ := q30
        refine rc_p (p_iload_n 1 (dk_at ktX7_firstBootCut_0 33 rfl) rfl rfl (b := 60) rfl) ?_
        refine r_if_eq (dk_at ktX7_firstBootCut_0 34 rfl) (b := 65) (by decide) (b2 := 63) rfl (fun c60 => ?_) (fun c60 => ?_)
        · first | exact absurd c60 (by decide) | exact absurd (by decide) c60
        · skip
          refine rc_p (p_iconst (v := (-1)) (dk_at ktX7_firstBootCut_0 35 rfl) (by decide) (b := 64) rfl) ?_
          refine r_iret (dk_at ktX7_firstBootCut_0 36 rfl) rfl rfl ⟨_, rfl, ?_⟩
          refine ⟨fun _ => ?_, Eq.trans (((hF33.2 6 (by decide))).trans (((hF13.2 6 (by decide))).trans (((hF7.2 6 (by decide))).trans h6z))) (by rfl), rfl, (show RelW (I28 (m + 1)) σ from hR32), (FF.tr (FF.tr (FF.tr hFz (hF7.mo (by decide) (by decide))) (hF13.mo (by decide) (by decide))) (hF33.mo (by decide) (by decide)))⟩
          exact hx.trans (fbS_e (by omega) (fun q2 => c32 (eq14.symm.trans q2)))
  refine rc_p (p_aload_n 0 (dk_at ktX7_firstBootCut_0 0 rfl) rfl rfl (b := 1) rfl) ?_
  refine rc_p (p_iconst (v := 0) (dk_at ktX7_firstBootCut_0 1 rfl) (by decide) (b := 2) rfl) ?_
  refine r_puti fl_X7_46 fw_X7_6 rfl hm.l0 hm.s0 rfl rfl (dk_at ktX7_firstBootCut_0 2 rfl) (b := 5) rfl ?_
  refine rc_p (p_aload_n 0 (dk_at ktX7_firstBootCut_0 3 rfl) rfl rfl (b := 6) rfl) ?_
  refine rc_p (p_iconst (v := (-1)) (dk_at ktX7_firstBootCut_0 4 rfl) (by decide) (b := 7) rfl) ?_
  refine r_vV (As' := [.int (-1)]) (rest := []) (s_X7_goesAside hm (σ := σ) (show RelW ((up2 I m 6 0) (m + 1)) σ from (by rw [up2_off (by omega)]; exact hR)) hI (-1)) cw_X7_388 qi_X7_goesAside qv_X7_goesAside rfl hm.l0 hm.s0 (dk_at ktX7_firstBootCut_0 5 rfl) rfl rfl (Nat.le_of_ble_eq_true rfl) (by decide) (b := 10) rfl (fun I34 J35 q36 => ?_)
  obtain ⟨rfl, hR38, hA39, hF40⟩ := q36
  refine rc_p (p_aload_n 0 (dk_at ktX7_firstBootCut_0 6 rfl) rfl rfl (b := 11) rfl) ?_
  refine r_iV (As' := []) (rest := []) (s_X7_boots hm (σ := (upd σ 6 (-1))) (show RelW (I34 (m + 1)) (upd σ 6 (-1)) from hR38) (Inv.pm hI)) cw_X7_319 qi_X7_boots qv_X7_boots rfl hm.l0 hm.s0 (dk_at ktX7_firstBootCut_0 7 rfl) rfl rfl (Nat.le_of_ble_eq_true rfl) (by decide) (b := 14) rfl (fun v44 I41 J42 q43 => ?_)
  obtain ⟨eq47, rfl, hR45, hF46⟩ := q43
  refine rc_p (p_istore_n (ls' := [(1, .int v44), (0, .ref m)]) (dk_at ktX7_firstBootCut_0 8 rfl) rfl (by decide) rfl (b := 15) rfl) ?_
  refine rc_p (p_aload_n 1 (dk_at ktX7_firstBootCut_0 9 rfl) rfl rfl (b := 16) rfl) ?_
  refine r_vV (As' := []) (rest := []) (s_X7_comesBack hm (σ := σ) (RelW.cp hA39 (hI).2.1.2 (fun k _ => (congrFun (hF46.1 _ (by omega) (by simp)) k))) (hI).2.1.2) cw_X7_392 qi_X7_comesBack qv_X7_comesBack rfl hm.l0 hm.s0 (dk_at ktX7_firstBootCut_0 10 rfl) rfl rfl (Nat.le_of_ble_eq_true rfl) (by decide) (b := 19) rfl (fun I48 J49 q50 => ?_)
  obtain ⟨rfl, hR52, hF53⟩ := q50
  refine rc_p (p_iconst (v := 0) (dk_at ktX7_firstBootCut_0 11 rfl) (by decide) (b := 20) rfl) ?_
  refine rc_p (p_istore_n (ls' := [(2, .int 0), (1, .int v44), (0, .ref m)]) (dk_at ktX7_firstBootCut_0 12 rfl) rfl (by decide) rfl (b := 21) rfl) ?_
  refine rc_sub [1, 0, 2] (ls' := [(1, .int v44), (2, .int 0), (0, .ref m)]) rfl ?_
  exact cut21 v44 eq47 1000 0 I48 (show RelW (I48 (m + 1)) σ from hR52) (((hF53.2 6 (by decide))).trans (((hF46.2 6 (by decide))).trans (((hF40.2 6 (by decide))).trans up2_s))) (FF.tr (FF.tr (FF.tr (FF.uf FF.rf (by decide)) (hF40.mo (by decide) (by decide))) (hF46.mo (by decide) (by decide))) (hF53.mo (by decide) (by decide))) (by omega) (by omega) rfl
theorem SnR.sv {m k : Nat} {I I' : mI} {σ : sT} {sn : Nat → Option sT} (h : SnR m I sn) (h6 : I' (m + 6) k = 1) (h6' : ∀ j, j ≠ k → I' (m + 6) j = I (m + 6) j) (hk : RelW (I' (m + 4 + k)) σ) (ho : ∀ j, j < 2 → j ≠ k → I' (m + 4 + j) = I (m + 4 + j)) : SnR m I' (fun j => if j = k then some σ else sn j) := by
  intro j hj
  by_cases e : j = k
  · subst e
    dsimp only
    rw [if_pos rfl]
    refine ⟨fun q => by simp at q, fun τ q => ?_⟩
    injection q with q
    subst q
    exact ⟨h6, hk⟩
  · dsimp only
    rw [if_neg e, h6' j e, ho j hj e]
    exact h j hj
set_option maxRecDepth 4000 in
set_option maxHeartbeats 4000000 in
theorem s_X7_saveSnapshot {n : Nat} {sh : mS} {G : mG} {I : mI} {J : mJ} {m : Nat} {σ : sT} (hm : ModG n sh G m) (hR : RelW (I (m + 1)) σ) (hI : Inv σ) (sn : Nat → Option sT) (hS : SnR m I sn) (s : Int32) : Sp yX7_saveSnapshot cX7_saveSnapshot 2 (some FieldType.int) 3 144 0 0 [.ref m, .int s] n sh G I J (Qi (fun r_ I_ J_ => (cIn s 0 1 = 0 → σ 9 = r_) ∧ I_ m 6 = cIn s 0 1 ∧ J = J_ ∧ RelW (I_ (m + 1)) σ ∧ SnR m I_ (svS s σ sn) ∧ FF m [4, 5, 6] [6] I I_)) nX := by
  have hb := hI.bd
  rcases sl_c s with rfl | rfl | hs
  · refine Sp.of (by decide) (ls := [(0, .ref m), (1, .int 0)]) (fun _ => rfl) (fun _ => Nat.le_of_ble_eq_true rfl) ?_
    refine rc_p (p_aload_n 0 (dk_at ktX7_saveSnapshot_0 0 rfl) rfl rfl (b := 1) rfl) ?_
    refine rc_p (p_iload_n 1 (dk_at ktX7_saveSnapshot_0 1 rfl) rfl rfl (b := 2) rfl) ?_
    refine r_iV (As' := [.int 0]) (rest := []) (s_X7_noOne hm (σ := σ) hR hI 0) cw_X7_362 qi_X7_noOne qv_X7_noOne rfl hm.l0 hm.s0 (dk_at ktX7_saveSnapshot_0 2 rfl) rfl rfl (Nat.le_of_ble_eq_true rfl) (by decide) (b := 5) rfl (fun v4 I1 J2 q3 => ?_)
    obtain ⟨rfl, rfl, hR5, hF6, h67⟩ := q3
    refine r_val (y := 0) (by decide) ?_
    have h68 : I1 m 6 = 0 := h67.trans (by decide)
    refine r_if_eq (dk_at ktX7_saveSnapshot_0 3 rfl) (b := 10) (by decide) (b2 := 8) rfl (fun c5 => ?_) (fun c5 => ?_)
    · skip
      refine rc_p (p_aload_n 0 (dk_at ktX7_saveSnapshot_0 6 rfl) rfl rfl (b := 11) rfl) ?_
      refine r_geta fl_X7_9 rfl hm.l0 hm.s0 (dk_at ktX7_saveSnapshot_0 7 rfl) hm.g0_0 (b := 14) rfl ?_
      refine rc_p (p_iload_n 1 (dk_at ktX7_saveSnapshot_0 8 rfl) rfl rfl (b := 15) rfl) ?_
      refine r_if_ne (dk_at ktX7_saveSnapshot_0 9 rfl) (b := 25) (by decide) (b2 := 18) rfl (fun c15 => ?_) (fun c15 => ?_)
      · first | exact absurd c15 (by decide) | exact absurd (by decide) c15
      · skip
        refine rc_p (p_aload_n 0 (dk_at ktX7_saveSnapshot_0 10 rfl) rfl rfl (b := 19) rfl) ?_
        refine r_geta fl_X7_19 rfl hm.l0 hm.s0 (dk_at ktX7_saveSnapshot_0 11 rfl) hm.g0_3 (b := 22) rfl ?_
        refine rc_p (p_goto (b := 29) (dk_at ktX7_saveSnapshot_0 12 rfl) (by decide)) ?_
        refine r_vS (As := [.ref (m + 1), .ref (m + 4)]) (rest := []) (s_X7_copies ⟨hm.lt 1 (by decide), hm.s1⟩ ⟨hm.lt 4 (by decide), hm.s4⟩ (by omega)) cw_X7_181 qs_X7_copies (dk_at ktX7_saveSnapshot_0 15 rfl) rfl rfl (Nat.le_of_ble_eq_true rfl) (by decide) (b := 32) rfl (fun I9 J10 q11 => ?_)
        obtain ⟨rfl, h013, h114⟩ := q11
        have hF15 : FF m [4] [] I1 I9 := FF.cp h013 (by decide) (by decide)
        have hR16 : RelW (I9 (m + 4)) σ := RelW.cp (show RelW (I1 (m + 1)) σ from hR5) hI.2.1.2 h114
        have hR17 : RelW (I9 (m + 1)) σ := by rw [h013 (m + 1) (by omega)]; exact hR5
        refine rc_p (p_aload_n 0 (dk_at ktX7_saveSnapshot_0 16 rfl) rfl rfl (b := 33) rfl) ?_
        refine r_geta fl_X7_25 rfl hm.l0 hm.s0 (dk_at ktX7_saveSnapshot_0 17 rfl) hm.g0_5 (b := 36) rfl ?_
        refine rc_p (p_iload_n 1 (dk_at ktX7_saveSnapshot_0 18 rfl) rfl rfl (b := 37) rfl) ?_
        refine rc_p (p_iconst (v := 1) (dk_at ktX7_saveSnapshot_0 19 rfl) (by decide) (b := 38) rfl) ?_
        refine r_zast (j := 0) (hm.lt 6 (by decide)) hm.s6 (dk_at ktX7_saveSnapshot_0 20 rfl) rfl ⟨by decide, by decide⟩ (b := 39) rfl ?_
        refine rc_p (p_aload_n 0 (dk_at ktX7_saveSnapshot_0 21 rfl) rfl rfl (b := 40) rfl) ?_
        refine r_geta fl_X7_9 rfl hm.l0 hm.s0 (dk_at ktX7_saveSnapshot_0 22 rfl) hm.g0_0 (b := 43) rfl ?_
        refine rc_p (p_bipush (v := 9) (dk_at ktX7_saveSnapshot_0 23 rfl) (by decide) (b := 45) rfl) ?_
        refine r_iald (j := 9) (hm.lt 1 (by decide)) hm.s1 (dk_at ktX7_saveSnapshot_0 24 rfl) rfl ⟨by decide, by decide⟩ (v := (σ 9)) ((up2_n (by omega)).trans (hR17.1 9 (by decide))) (b := 46) rfl ?_
        refine r_iret (dk_at ktX7_saveSnapshot_0 25 rfl) rfl rfl ⟨_, rfl, ?_⟩
        refine ⟨fun _ => rfl, Eq.trans ((up2_n (by omega)).trans (((hF15.2 6 (by decide))).trans h68)) (by rfl), rfl, (show RelW ((up2 I9 (m + 6) 0 (vp_nar .boolean 1)) (m + 1)) σ from (by rw [up2_off (by omega)]; exact hR17)), ?_, (FF.ua (FF.tr (FF.tr FF.rf (hF6.mo (by decide) (by decide))) (hF15.mo (by decide) (by decide))) (by decide) (by decide))⟩
        rw [show svS 0 σ sn = (fun j => if j = 0 then some σ else sn j) from if_pos (by decide)]
        refine hS.sv up2_s (fun j hj => ?_) ?_ (fun j hj hk => ?_)
        · rw [up2_k hj]; exact congrFun ((hF15.1 (m + 6) (by omega) (by simp)).trans ((hF6.1 (m + 6) (by omega) (by simp)).trans rfl)) j
        · show RelW ((up2 I9 (m + 6) 0 (vp_nar .boolean 1)) (m + 4)) σ; rw [up2_off (by omega)]; exact hR16
        · obtain rfl : j = 1 := by omega
          show (up2 I9 (m + 6) 0 (vp_nar .boolean 1)) (m + 5) = I (m + 5); rw [up2_off (by omega)]; exact ((hF15.1 (m + 5) (by omega) (by simp)).trans ((hF6.1 (m + 5) (by omega) (by simp)).trans rfl))
    · first | exact absurd c5 (by decide) | exact absurd (by decide) c5
  · refine Sp.of (by decide) (ls := [(0, .ref m), (1, .int 1)]) (fun _ => rfl) (fun _ => Nat.le_of_ble_eq_true rfl) ?_
    refine rc_p (p_aload_n 0 (dk_at ktX7_saveSnapshot_0 0 rfl) rfl rfl (b := 1) rfl) ?_
    refine rc_p (p_iload_n 1 (dk_at ktX7_saveSnapshot_0 1 rfl) rfl rfl (b := 2) rfl) ?_
    refine r_iV (As' := [.int 1]) (rest := []) (s_X7_noOne hm (σ := σ) hR hI 1) cw_X7_362 qi_X7_noOne qv_X7_noOne rfl hm.l0 hm.s0 (dk_at ktX7_saveSnapshot_0 2 rfl) rfl rfl (Nat.le_of_ble_eq_true rfl) (by decide) (b := 5) rfl (fun v21 I18 J19 q20 => ?_)
    obtain ⟨rfl, rfl, hR22, hF23, h624⟩ := q20
    refine r_val (y := 0) (by decide) ?_
    have h625 : I18 m 6 = 0 := h624.trans (by decide)
    refine r_if_eq (dk_at ktX7_saveSnapshot_0 3 rfl) (b := 10) (by decide) (b2 := 8) rfl (fun c5 => ?_) (fun c5 => ?_)
    · skip
      refine rc_p (p_aload_n 0 (dk_at ktX7_saveSnapshot_0 6 rfl) rfl rfl (b := 11) rfl) ?_
      refine r_geta fl_X7_9 rfl hm.l0 hm.s0 (dk_at ktX7_saveSnapshot_0 7 rfl) hm.g0_0 (b := 14) rfl ?_
      refine rc_p (p_iload_n 1 (dk_at ktX7_saveSnapshot_0 8 rfl) rfl rfl (b := 15) rfl) ?_
      refine r_if_ne (dk_at ktX7_saveSnapshot_0 9 rfl) (b := 25) (by decide) (b2 := 18) rfl (fun c15 => ?_) (fun c15 => ?_)
      · skip
        refine rc_p (p_aload_n 0 (dk_at ktX7_saveSnapshot_0 13 rfl) rfl rfl (b := 26) rfl) ?_
        refine r_geta fl_X7_22 rfl hm.l0 hm.s0 (dk_at ktX7_saveSnapshot_0 14 rfl) hm.g0_4 (b := 29) rfl ?_
        refine r_vS (As := [.ref (m + 1), .ref (m + 5)]) (rest := []) (s_X7_copies ⟨hm.lt 1 (by decide), hm.s1⟩ ⟨hm.lt 5 (by decide), hm.s5⟩ (by omega)) cw_X7_181 qs_X7_copies (dk_at ktX7_saveSnapshot_0 15 rfl) rfl rfl (Nat.le_of_ble_eq_true rfl) (by decide) (b := 32) rfl (fun I26 J27 q28 => ?_)
        obtain ⟨rfl, h030, h131⟩ := q28
        have hF32 : FF m [5] [] I18 I26 := FF.cp h030 (by decide) (by decide)
        have hR33 : RelW (I26 (m + 5)) σ := RelW.cp (show RelW (I18 (m + 1)) σ from hR22) hI.2.1.2 h131
        have hR34 : RelW (I26 (m + 1)) σ := by rw [h030 (m + 1) (by omega)]; exact hR22
        refine rc_p (p_aload_n 0 (dk_at ktX7_saveSnapshot_0 16 rfl) rfl rfl (b := 33) rfl) ?_
        refine r_geta fl_X7_25 rfl hm.l0 hm.s0 (dk_at ktX7_saveSnapshot_0 17 rfl) hm.g0_5 (b := 36) rfl ?_
        refine rc_p (p_iload_n 1 (dk_at ktX7_saveSnapshot_0 18 rfl) rfl rfl (b := 37) rfl) ?_
        refine rc_p (p_iconst (v := 1) (dk_at ktX7_saveSnapshot_0 19 rfl) (by decide) (b := 38) rfl) ?_
        refine r_zast (j := 1) (hm.lt 6 (by decide)) hm.s6 (dk_at ktX7_saveSnapshot_0 20 rfl) rfl ⟨by decide, by decide⟩ (b := 39) rfl ?_
        refine rc_p (p_aload_n 0 (dk_at ktX7_saveSnapshot_0 21 rfl) rfl rfl (b := 40) rfl) ?_
        refine r_geta fl_X7_9 rfl hm.l0 hm.s0 (dk_at ktX7_saveSnapshot_0 22 rfl) hm.g0_0 (b := 43) rfl ?_
        refine rc_p (p_bipush (v := 9) (dk_at ktX7_saveSnapshot_0 23 rfl) (by decide) (b := 45) rfl) ?_
        refine r_iald (j := 9) (hm.lt 1 (by decide)) hm.s1 (dk_at ktX7_saveSnapshot_0 24 rfl) rfl ⟨by decide, by decide⟩ (v := (σ 9)) ((up2_n (by omega)).trans (hR34.1 9 (by decide))) (b := 46) rfl ?_
        refine r_iret (dk_at ktX7_saveSnapshot_0 25 rfl) rfl rfl ⟨_, rfl, ?_⟩
        refine ⟨fun _ => rfl, Eq.trans ((up2_n (by omega)).trans (((hF32.2 6 (by decide))).trans h625)) (by rfl), rfl, (show RelW ((up2 I26 (m + 6) 1 (vp_nar .boolean 1)) (m + 1)) σ from (by rw [up2_off (by omega)]; exact hR34)), ?_, (FF.ua (FF.tr (FF.tr FF.rf (hF23.mo (by decide) (by decide))) (hF32.mo (by decide) (by decide))) (by decide) (by decide))⟩
        rw [show svS 1 σ sn = (fun j => if j = 1 then some σ else sn j) from if_pos (by decide)]
        refine hS.sv up2_s (fun j hj => ?_) ?_ (fun j hj hk => ?_)
        · rw [up2_k hj]; exact congrFun ((hF32.1 (m + 6) (by omega) (by simp)).trans ((hF23.1 (m + 6) (by omega) (by simp)).trans rfl)) j
        · show RelW ((up2 I26 (m + 6) 1 (vp_nar .boolean 1)) (m + 5)) σ; rw [up2_off (by omega)]; exact hR33
        · obtain rfl : j = 0 := by omega
          show (up2 I26 (m + 6) 1 (vp_nar .boolean 1)) (m + 4) = I (m + 4); rw [up2_off (by omega)]; exact ((hF32.1 (m + 4) (by omega) (by simp)).trans ((hF23.1 (m + 4) (by omega) (by simp)).trans rfl))
      · first | exact absurd c15 (by decide) | exact absurd (by decide) c15
    · first | exact absurd c5 (by decide) | exact absurd (by decide) c5
  · refine Sp.of (by decide) (ls := [(0, .ref m), (1, .int s)]) (fun _ => rfl) (fun _ => Nat.le_of_ble_eq_true rfl) ?_
    refine rc_p (p_aload_n 0 (dk_at ktX7_saveSnapshot_0 0 rfl) rfl rfl (b := 1) rfl) ?_
    refine rc_p (p_iload_n 1 (dk_at ktX7_saveSnapshot_0 1 rfl) rfl rfl (b := 2) rfl) ?_
    refine r_iV (As' := [.int s]) (rest := []) (s_X7_noOne hm (σ := σ) hR hI s) cw_X7_362 qi_X7_noOne qv_X7_noOne rfl hm.l0 hm.s0 (dk_at ktX7_saveSnapshot_0 2 rfl) rfl rfl (Nat.le_of_ble_eq_true rfl) (by decide) (b := 5) rfl (fun v38 I35 J36 q37 => ?_)
    obtain ⟨rfl, rfl, hR39, hF40, h641⟩ := q37
    refine r_val (y := 1) (by rw [hs]; rfl) ?_
    have h642 : I35 m 6 = 1 := h641.trans (by rw [hs]; rfl)
    refine r_if_eq (dk_at ktX7_saveSnapshot_0 3 rfl) (b := 10) (by decide) (b2 := 8) rfl (fun c5 => ?_) (fun c5 => ?_)
    · first | exact absurd c5 (by decide) | exact absurd (by decide) c5
    · skip
      refine rc_p (p_iconst (v := 0) (dk_at ktX7_saveSnapshot_0 4 rfl) (by decide) (b := 9) rfl) ?_
      refine r_iret (dk_at ktX7_saveSnapshot_0 5 rfl) rfl rfl ⟨_, rfl, ?_⟩
      refine ⟨fun hz => ?_, Eq.trans h642 (by exact (cIn_f hs).symm), rfl, hR39, ?_, (FF.tr FF.rf (hF40.mo (by decide) (by decide)))⟩
      · exact absurd (hz.symm.trans (cIn_f hs)) (by decide)
      · rw [show svS s σ sn = sn from if_neg (by rw [hs]; decide)]; exact hS.of ((hF40.1 (m + 4) (by omega) (by simp)).trans rfl) ((hF40.1 (m + 5) (by omega) (by simp)).trans rfl) ((hF40.1 (m + 6) (by omega) (by simp)).trans rfl)
set_option maxRecDepth 4000 in
set_option maxHeartbeats 4000000 in
theorem s_X7_restoreSnapshot {n : Nat} {sh : mS} {G : mG} {I : mI} {J : mJ} {m : Nat} {σ : sT} (hm : ModG n sh G m) (hR : RelW (I (m + 1)) σ) (hI : Inv σ) (sn : Nat → Option sT) (hS : SnR m I sn) (hN : ∀ k τ, k < 2 → sn k = some τ → Inv τ) (s : Int32) : Sp yX7_restoreSnapshot cX7_restoreSnapshot 2 (some FieldType.int) 3 144 0 0 [.ref m, .int s] n sh G I J (Qi (fun r_ I_ J_ => (cIn s 0 1 = 0 → rsA s sn = r_) ∧ I_ m 6 = cIn s 0 1 ∧ J = J_ ∧ RelW (I_ (m + 1)) (rsT s σ sn) ∧ FF m [1] [6] I I_)) nX := by
  have hb := hI.bd
  have key : (s = 0 ∧ (sn 0 = none ∨ ∃ τ, sn 0 = some τ)) ∨ (s = 1 ∧ (sn 1 = none ∨ ∃ τ, sn 1 = some τ)) ∨ inI s 0 1 = false := by
    rcases sl_c s with h | h | h
    · exact Or.inl ⟨h, by cases e : sn 0 with | none => exact Or.inl rfl | some τ => exact Or.inr ⟨τ, rfl⟩⟩
    · exact Or.inr (Or.inl ⟨h, by cases e : sn 1 with | none => exact Or.inl rfl | some τ => exact Or.inr ⟨τ, rfl⟩⟩)
    · exact Or.inr (Or.inr h)
  rcases key with ⟨rfl, e0 | ⟨τ, e0⟩⟩ | ⟨rfl, e0 | ⟨τ, e0⟩⟩ | hs
  · refine Sp.of (by decide) (ls := [(0, .ref m), (1, .int 0)]) (fun _ => rfl) (fun _ => Nat.le_of_ble_eq_true rfl) ?_
    refine rc_p (p_aload_n 0 (dk_at ktX7_restoreSnapshot_0 0 rfl) rfl rfl (b := 1) rfl) ?_
    refine rc_p (p_iload_n 1 (dk_at ktX7_restoreSnapshot_0 1 rfl) rfl rfl (b := 2) rfl) ?_
    refine r_iV (As' := [.int 0]) (rest := []) (s_X7_noOne hm (σ := σ) hR hI 0) cw_X7_362 qi_X7_noOne qv_X7_noOne rfl hm.l0 hm.s0 (dk_at ktX7_restoreSnapshot_0 2 rfl) rfl rfl (Nat.le_of_ble_eq_true rfl) (by decide) (b := 5) rfl (fun v4 I1 J2 q3 => ?_)
    obtain ⟨rfl, rfl, hR5, hF6, h67⟩ := q3
    refine r_val (y := 0) (by decide) ?_
    have h68 : I1 m 6 = 0 := h67.trans (by decide)
    refine r_if_eq (dk_at ktX7_restoreSnapshot_0 3 rfl) (b := 10) (by decide) (b2 := 8) rfl (fun c5 => ?_) (fun c5 => ?_)
    · skip
      refine rc_p (p_aload_n 0 (dk_at ktX7_restoreSnapshot_0 6 rfl) rfl rfl (b := 11) rfl) ?_
      refine r_geta fl_X7_25 rfl hm.l0 hm.s0 (dk_at ktX7_restoreSnapshot_0 7 rfl) hm.g0_5 (b := 14) rfl ?_
      refine rc_p (p_iload_n 1 (dk_at ktX7_restoreSnapshot_0 8 rfl) rfl rfl (b := 15) rfl) ?_
      refine r_zald (j := 0) (hm.lt 6 (by decide)) hm.s6 (dk_at ktX7_restoreSnapshot_0 9 rfl) rfl ⟨by decide, by decide⟩ (v := 0) (((congrFun (hF6.1 _ (by omega) (by simp)) 0)).trans ((hS 0 (by decide)).1 e0)) (b := 16) rfl ?_
      refine r_if_ne (dk_at ktX7_restoreSnapshot_0 10 rfl) (b := 21) (by decide) (b2 := 19) rfl (fun c16 => ?_) (fun c16 => ?_)
      · first | exact absurd c16 (by decide) | exact absurd (by decide) c16
      · skip
        refine rc_p (p_iconst (v := (-1)) (dk_at ktX7_restoreSnapshot_0 11 rfl) (by decide) (b := 20) rfl) ?_
        refine r_iret (dk_at ktX7_restoreSnapshot_0 12 rfl) rfl rfl ⟨_, rfl, ?_⟩
        refine ⟨fun _ => ?_, Eq.trans h68 (by rfl), rfl, ?_, (FF.tr FF.rf (hF6.mo (by decide) (by decide)))⟩
        · rw [rsA, show sn (tn 0) = none from e0]
        · rw [show rsT 0 σ sn = (sn 0).getD σ from if_pos (by decide), e0]; exact hR5
    · first | exact absurd c5 (by decide) | exact absurd (by decide) c5
  · refine Sp.of (by decide) (ls := [(0, .ref m), (1, .int 0)]) (fun _ => rfl) (fun _ => Nat.le_of_ble_eq_true rfl) ?_
    refine rc_p (p_aload_n 0 (dk_at ktX7_restoreSnapshot_0 0 rfl) rfl rfl (b := 1) rfl) ?_
    refine rc_p (p_iload_n 1 (dk_at ktX7_restoreSnapshot_0 1 rfl) rfl rfl (b := 2) rfl) ?_
    refine r_iV (As' := [.int 0]) (rest := []) (s_X7_noOne hm (σ := σ) hR hI 0) cw_X7_362 qi_X7_noOne qv_X7_noOne rfl hm.l0 hm.s0 (dk_at ktX7_restoreSnapshot_0 2 rfl) rfl rfl (Nat.le_of_ble_eq_true rfl) (by decide) (b := 5) rfl (fun v12 I9 J10 q11 => ?_)
    obtain ⟨rfl, rfl, hR13, hF14, h615⟩ := q11
    refine r_val (y := 0) (by decide) ?_
    have h616 : I9 m 6 = 0 := h615.trans (by decide)
    refine r_if_eq (dk_at ktX7_restoreSnapshot_0 3 rfl) (b := 10) (by decide) (b2 := 8) rfl (fun c5 => ?_) (fun c5 => ?_)
    · skip
      refine rc_p (p_aload_n 0 (dk_at ktX7_restoreSnapshot_0 6 rfl) rfl rfl (b := 11) rfl) ?_
      refine r_geta fl_X7_25 rfl hm.l0 hm.s0 (dk_at ktX7_restoreSnapshot_0 7 rfl) hm.g0_5 (b := 14) rfl ?_
      refine rc_p (p_iload_n 1 (dk_at ktX7_restoreSnapshot_0 8 rfl) rfl rfl (b := 15) rfl) ?_
      refine r_zald (j := 0) (hm.lt 6 (by decide)) hm.s6 (dk_at ktX7_restoreSnapshot_0 9 rfl) rfl ⟨by decide, by decide⟩ (v := 1) (((congrFun (hF14.1 _ (by omega) (by simp)) 0)).trans (((hS 0 (by decide)).2 τ e0).1)) (b := 16) rfl ?_
      refine r_if_ne (dk_at ktX7_restoreSnapshot_0 10 rfl) (b := 21) (by decide) (b2 := 19) rfl (fun c16 => ?_) (fun c16 => ?_)
      · skip
        refine rc_p (p_iload_n 1 (dk_at ktX7_restoreSnapshot_0 13 rfl) rfl rfl (b := 22) rfl) ?_
        refine r_if_ne (dk_at ktX7_restoreSnapshot_0 14 rfl) (b := 32) (by decide) (b2 := 25) rfl (fun c22 => ?_) (fun c22 => ?_)
        · first | exact absurd c22 (by decide) | exact absurd (by decide) c22
        · skip
          refine rc_p (p_aload_n 0 (dk_at ktX7_restoreSnapshot_0 15 rfl) rfl rfl (b := 26) rfl) ?_
          refine r_geta fl_X7_19 rfl hm.l0 hm.s0 (dk_at ktX7_restoreSnapshot_0 16 rfl) hm.g0_3 (b := 29) rfl ?_
          refine rc_p (p_goto (b := 36) (dk_at ktX7_restoreSnapshot_0 17 rfl) (by decide)) ?_
          refine rc_p (p_aload_n 0 (dk_at ktX7_restoreSnapshot_0 20 rfl) rfl rfl (b := 37) rfl) ?_
          refine r_geta fl_X7_9 rfl hm.l0 hm.s0 (dk_at ktX7_restoreSnapshot_0 21 rfl) hm.g0_0 (b := 40) rfl ?_
          refine r_vS (As := [.ref (m + 4), .ref (m + 1)]) (rest := []) (s_X7_copies ⟨hm.lt 4 (by decide), hm.s4⟩ ⟨hm.lt 1 (by decide), hm.s1⟩ (by omega)) cw_X7_181 qs_X7_copies (dk_at ktX7_restoreSnapshot_0 22 rfl) rfl rfl (Nat.le_of_ble_eq_true rfl) (by decide) (b := 43) rfl (fun I17 J18 q19 => ?_)
          obtain ⟨rfl, h021, h122⟩ := q19
          have hF23 : FF m [1] [] I9 I17 := FF.cp h021 (by decide) (by decide)
          have hR24 : RelW (I17 (m + 1)) τ := RelW.cp (show RelW (I9 (m + 4)) τ by rw [((hF14.1 (m + 4) (by omega) (by simp)).trans rfl)]; exact ((hS 0 (by decide)).2 τ e0).2) (hN 0 τ (by decide) e0).2.1.2 h122
          refine rc_p (p_aload_n 0 (dk_at ktX7_restoreSnapshot_0 23 rfl) rfl rfl (b := 44) rfl) ?_
          refine r_geta fl_X7_9 rfl hm.l0 hm.s0 (dk_at ktX7_restoreSnapshot_0 24 rfl) hm.g0_0 (b := 47) rfl ?_
          refine rc_p (p_bipush (v := 9) (dk_at ktX7_restoreSnapshot_0 25 rfl) (by decide) (b := 49) rfl) ?_
          refine r_iald (j := 9) (hm.lt 1 (by decide)) hm.s1 (dk_at ktX7_restoreSnapshot_0 26 rfl) rfl ⟨by decide, by decide⟩ (v := (τ 9)) (hR24.1 9 (by decide)) (b := 50) rfl ?_
          refine r_iret (dk_at ktX7_restoreSnapshot_0 27 rfl) rfl rfl ⟨_, rfl, ?_⟩
          refine ⟨fun _ => ?_, Eq.trans (((hF23.2 6 (by decide))).trans h616) (by rfl), rfl, ?_, (FF.tr (FF.tr FF.rf (hF14.mo (by decide) (by decide))) (hF23.mo (by decide) (by decide)))⟩
          · rw [rsA, show sn (tn 0) = some τ from e0]
          · rw [show rsT 0 σ sn = (sn 0).getD σ from if_pos (by decide), e0]; exact hR24
      · first | exact absurd c16 (by decide) | exact absurd (by decide) c16
    · first | exact absurd c5 (by decide) | exact absurd (by decide) c5
  · refine Sp.of (by decide) (ls := [(0, .ref m), (1, .int 1)]) (fun _ => rfl) (fun _ => Nat.le_of_ble_eq_true rfl) ?_
    refine rc_p (p_aload_n 0 (dk_at ktX7_restoreSnapshot_0 0 rfl) rfl rfl (b := 1) rfl) ?_
    refine rc_p (p_iload_n 1 (dk_at ktX7_restoreSnapshot_0 1 rfl) rfl rfl (b := 2) rfl) ?_
    refine r_iV (As' := [.int 1]) (rest := []) (s_X7_noOne hm (σ := σ) hR hI 1) cw_X7_362 qi_X7_noOne qv_X7_noOne rfl hm.l0 hm.s0 (dk_at ktX7_restoreSnapshot_0 2 rfl) rfl rfl (Nat.le_of_ble_eq_true rfl) (by decide) (b := 5) rfl (fun v28 I25 J26 q27 => ?_)
    obtain ⟨rfl, rfl, hR29, hF30, h631⟩ := q27
    refine r_val (y := 0) (by decide) ?_
    have h632 : I25 m 6 = 0 := h631.trans (by decide)
    refine r_if_eq (dk_at ktX7_restoreSnapshot_0 3 rfl) (b := 10) (by decide) (b2 := 8) rfl (fun c5 => ?_) (fun c5 => ?_)
    · skip
      refine rc_p (p_aload_n 0 (dk_at ktX7_restoreSnapshot_0 6 rfl) rfl rfl (b := 11) rfl) ?_
      refine r_geta fl_X7_25 rfl hm.l0 hm.s0 (dk_at ktX7_restoreSnapshot_0 7 rfl) hm.g0_5 (b := 14) rfl ?_
      refine rc_p (p_iload_n 1 (dk_at ktX7_restoreSnapshot_0 8 rfl) rfl rfl (b := 15) rfl) ?_
      refine r_zald (j := 1) (hm.lt 6 (by decide)) hm.s6 (dk_at ktX7_restoreSnapshot_0 9 rfl) rfl ⟨by decide, by decide⟩ (v := 0) (((congrFun (hF30.1 _ (by omega) (by simp)) 1)).trans ((hS 1 (by decide)).1 e0)) (b := 16) rfl ?_
      refine r_if_ne (dk_at ktX7_restoreSnapshot_0 10 rfl) (b := 21) (by decide) (b2 := 19) rfl (fun c16 => ?_) (fun c16 => ?_)
      · first | exact absurd c16 (by decide) | exact absurd (by decide) c16
      · skip
        refine rc_p (p_iconst (v := (-1)) (dk_at ktX7_restoreSnapshot_0 11 rfl) (by decide) (b := 20) rfl) ?_
        refine r_iret (dk_at ktX7_restoreSnapshot_0 12 rfl) rfl rfl ⟨_, rfl, ?_⟩
        refine ⟨fun _ => ?_, Eq.trans h632 (by rfl), rfl, ?_, (FF.tr FF.rf (hF30.mo (by decide) (by decide)))⟩
        · rw [rsA, show sn (tn 1) = none from e0]
        · rw [show rsT 1 σ sn = (sn 1).getD σ from if_pos (by decide), e0]; exact hR29
    · first | exact absurd c5 (by decide) | exact absurd (by decide) c5
  · refine Sp.of (by decide) (ls := [(0, .ref m), (1, .int 1)]) (fun _ => rfl) (fun _ => Nat.le_of_ble_eq_true rfl) ?_
    refine rc_p (p_aload_n 0 (dk_at ktX7_restoreSnapshot_0 0 rfl) rfl rfl (b := 1) rfl) ?_
    refine rc_p (p_iload_n 1 (dk_at ktX7_restoreSnapshot_0 1 rfl) rfl rfl (b := 2) rfl) ?_
    refine r_iV (As' := [.int 1]) (rest := []) (s_X7_noOne hm (σ := σ) hR hI 1) cw_X7_362 qi_X7_noOne qv_X7_noOne rfl hm.l0 hm.s0 (dk_at ktX7_restoreSnapshot_0 2 rfl) rfl rfl (Nat.le_of_ble_eq_true rfl) (by decide) (b := 5) rfl (fun v36 I33 J34 q35 => ?_)
    obtain ⟨rfl, rfl, hR37, hF38, h639⟩ := q35
    refine r_val (y := 0) (by decide) ?_
    have h640 : I33 m 6 = 0 := h639.trans (by decide)
    refine r_if_eq (dk_at ktX7_restoreSnapshot_0 3 rfl) (b := 10) (by decide) (b2 := 8) rfl (fun c5 => ?_) (fun c5 => ?_)
    · skip
      refine rc_p (p_aload_n 0 (dk_at ktX7_restoreSnapshot_0 6 rfl) rfl rfl (b := 11) rfl) ?_
      refine r_geta fl_X7_25 rfl hm.l0 hm.s0 (dk_at ktX7_restoreSnapshot_0 7 rfl) hm.g0_5 (b := 14) rfl ?_
      refine rc_p (p_iload_n 1 (dk_at ktX7_restoreSnapshot_0 8 rfl) rfl rfl (b := 15) rfl) ?_
      refine r_zald (j := 1) (hm.lt 6 (by decide)) hm.s6 (dk_at ktX7_restoreSnapshot_0 9 rfl) rfl ⟨by decide, by decide⟩ (v := 1) (((congrFun (hF38.1 _ (by omega) (by simp)) 1)).trans (((hS 1 (by decide)).2 τ e0).1)) (b := 16) rfl ?_
      refine r_if_ne (dk_at ktX7_restoreSnapshot_0 10 rfl) (b := 21) (by decide) (b2 := 19) rfl (fun c16 => ?_) (fun c16 => ?_)
      · skip
        refine rc_p (p_iload_n 1 (dk_at ktX7_restoreSnapshot_0 13 rfl) rfl rfl (b := 22) rfl) ?_
        refine r_if_ne (dk_at ktX7_restoreSnapshot_0 14 rfl) (b := 32) (by decide) (b2 := 25) rfl (fun c22 => ?_) (fun c22 => ?_)
        · skip
          refine rc_p (p_aload_n 0 (dk_at ktX7_restoreSnapshot_0 18 rfl) rfl rfl (b := 33) rfl) ?_
          refine r_geta fl_X7_22 rfl hm.l0 hm.s0 (dk_at ktX7_restoreSnapshot_0 19 rfl) hm.g0_4 (b := 36) rfl ?_
          refine rc_p (p_aload_n 0 (dk_at ktX7_restoreSnapshot_0 20 rfl) rfl rfl (b := 37) rfl) ?_
          refine r_geta fl_X7_9 rfl hm.l0 hm.s0 (dk_at ktX7_restoreSnapshot_0 21 rfl) hm.g0_0 (b := 40) rfl ?_
          refine r_vS (As := [.ref (m + 5), .ref (m + 1)]) (rest := []) (s_X7_copies ⟨hm.lt 5 (by decide), hm.s5⟩ ⟨hm.lt 1 (by decide), hm.s1⟩ (by omega)) cw_X7_181 qs_X7_copies (dk_at ktX7_restoreSnapshot_0 22 rfl) rfl rfl (Nat.le_of_ble_eq_true rfl) (by decide) (b := 43) rfl (fun I41 J42 q43 => ?_)
          obtain ⟨rfl, h045, h146⟩ := q43
          have hF47 : FF m [1] [] I33 I41 := FF.cp h045 (by decide) (by decide)
          have hR48 : RelW (I41 (m + 1)) τ := RelW.cp (show RelW (I33 (m + 5)) τ by rw [((hF38.1 (m + 5) (by omega) (by simp)).trans rfl)]; exact ((hS 1 (by decide)).2 τ e0).2) (hN 1 τ (by decide) e0).2.1.2 h146
          refine rc_p (p_aload_n 0 (dk_at ktX7_restoreSnapshot_0 23 rfl) rfl rfl (b := 44) rfl) ?_
          refine r_geta fl_X7_9 rfl hm.l0 hm.s0 (dk_at ktX7_restoreSnapshot_0 24 rfl) hm.g0_0 (b := 47) rfl ?_
          refine rc_p (p_bipush (v := 9) (dk_at ktX7_restoreSnapshot_0 25 rfl) (by decide) (b := 49) rfl) ?_
          refine r_iald (j := 9) (hm.lt 1 (by decide)) hm.s1 (dk_at ktX7_restoreSnapshot_0 26 rfl) rfl ⟨by decide, by decide⟩ (v := (τ 9)) (hR48.1 9 (by decide)) (b := 50) rfl ?_
          refine r_iret (dk_at ktX7_restoreSnapshot_0 27 rfl) rfl rfl ⟨_, rfl, ?_⟩
          refine ⟨fun _ => ?_, Eq.trans (((hF47.2 6 (by decide))).trans h640) (by rfl), rfl, ?_, (FF.tr (FF.tr FF.rf (hF38.mo (by decide) (by decide))) (hF47.mo (by decide) (by decide)))⟩
          · rw [rsA, show sn (tn 1) = some τ from e0]
          · rw [show rsT 1 σ sn = (sn 1).getD σ from if_pos (by decide), e0]; exact hR48
        · first | exact absurd c22 (by decide) | exact absurd (by decide) c22
      · first | exact absurd c16 (by decide) | exact absurd (by decide) c16
    · first | exact absurd c5 (by decide) | exact absurd (by decide) c5
  · refine Sp.of (by decide) (ls := [(0, .ref m), (1, .int s)]) (fun _ => rfl) (fun _ => Nat.le_of_ble_eq_true rfl) ?_
    refine rc_p (p_aload_n 0 (dk_at ktX7_restoreSnapshot_0 0 rfl) rfl rfl (b := 1) rfl) ?_
    refine rc_p (p_iload_n 1 (dk_at ktX7_restoreSnapshot_0 1 rfl) rfl rfl (b := 2) rfl) ?_
    refine r_iV (As' := [.int s]) (rest := []) (s_X7_noOne hm (σ := σ) hR hI s) cw_X7_362 qi_X7_noOne qv_X7_noOne rfl hm.l0 hm.s0 (dk_at ktX7_restoreSnapshot_0 2 rfl) rfl rfl (Nat.le_of_ble_eq_true rfl) (by decide) (b := 5) rfl (fun v52 I49 J50 q51 => ?_)
    obtain ⟨rfl, rfl, hR53, hF54, h655⟩ := q51
    refine r_val (y := 1) (by rw [hs]; rfl) ?_
    have h656 : I49 m 6 = 1 := h655.trans (by rw [hs]; rfl)
    refine r_if_eq (dk_at ktX7_restoreSnapshot_0 3 rfl) (b := 10) (by decide) (b2 := 8) rfl (fun c5 => ?_) (fun c5 => ?_)
    · first | exact absurd c5 (by decide) | exact absurd (by decide) c5
    · skip
      refine rc_p (p_iconst (v := 0) (dk_at ktX7_restoreSnapshot_0 4 rfl) (by decide) (b := 9) rfl) ?_
      refine r_iret (dk_at ktX7_restoreSnapshot_0 5 rfl) rfl rfl ⟨_, rfl, ?_⟩
      refine ⟨fun hz => ?_, Eq.trans h656 (by exact (cIn_f hs).symm), rfl, ?_, (FF.tr FF.rf (hF54.mo (by decide) (by decide)))⟩
      · exact absurd (hz.symm.trans (cIn_f hs)) (by decide)
      · rw [show rsT s σ sn = σ from if_neg (by rw [hs]; decide)]; exact hR53

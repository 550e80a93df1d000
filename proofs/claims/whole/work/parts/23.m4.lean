/-! THE REFERENCE: what the records tell; formatting, moving -/
set_option maxRecDepth 4000 in
set_option maxHeartbeats 4000000 in
theorem s_X7_takesIn {n : Nat} {sh : mS} {G : mG} {I : mI} {J : mJ} {m : Nat} (hm : ModG n sh G m) {τ : sT} (hT : ∀ j, j < 5 → I m (18 + j) = τ j) (k v : Int32) (hk : k = 1 ∨ k = 2 ∨ k = 3 ∨ k = 4 ∨ k = 5) : Sp yX7_takesIn cX7_takesIn 4 none 2 96 0 0 [.ref m, .int k, .int v] n sh G I J (Qv (fun I_ J_ => J = J_ ∧ (∀ j, j < 5 → I_ m (18 + j) = takeI τ k v j) ∧ FF m [] [18, 19, 20, 21, 22] I I_)) nX := by
  rcases hk with rfl | rfl | rfl | rfl | rfl
  · refine Sp.of (by decide) (ls := [(0, .ref m), (1, .int 1), (2, .int v)]) (fun _ => rfl) (fun _ => Nat.le_of_ble_eq_true rfl) ?_
    refine rc_p (p_iload_n 1 (dk_at ktX7_takesIn_0 0 rfl) rfl rfl (b := 1) rfl) ?_
    refine rc_p (p_iconst (v := 1) (dk_at ktX7_takesIn_0 1 rfl) (by decide) (b := 2) rfl) ?_
    refine r_icmp_ne (dk_at ktX7_takesIn_0 2 rfl) (b := 18) (by decide) (b2 := 5) rfl (fun c2 => ?_) (fun c2 => ?_)
    · first | exact absurd c2 (by decide) | exact absurd (by decide) c2
    · skip
      refine rc_p (p_aload_n 0 (dk_at ktX7_takesIn_0 3 rfl) rfl rfl (b := 6) rfl) ?_
      refine rc_p (p_aload_n 0 (dk_at ktX7_takesIn_0 4 rfl) rfl rfl (b := 7) rfl) ?_
      refine r_geti fl_X7_230 rfl hm.l0 hm.s0 (dk_at ktX7_takesIn_0 5 rfl) (v := (τ 0)) (hT 0 (by decide)) (b := 10) rfl ?_
      refine rc_p (p_iload_n 2 (dk_at ktX7_takesIn_0 6 rfl) rfl rfl (b := 11) rfl) ?_
      refine r_mmax (v := (if (τ 0) < v then v else (τ 0))) qm_X7_232 qmax_s qmath_n qmax_c (dk_at ktX7_takesIn_0 7 rfl) ⟨by decide, Nat.le_of_ble_eq_true rfl⟩ rfl (b := 14) rfl ?_
      refine r_puti fl_X7_230 fw_X7_18 rfl hm.l0 hm.s0 rfl rfl (dk_at ktX7_takesIn_0 8 rfl) (b := 17) rfl ?_
      refine r_vret (dk_at ktX7_takesIn_0 9 rfl) rfl ⟨rfl, ?_⟩
      refine ⟨rfl, fun j hj => ?_, ?_⟩
      · have t0 := hT 0 (by decide)
        have t1 := hT 1 (by decide)
        have t2 := hT 2 (by decide)
        have t3 := hT 3 (by decide)
        have t4 := hT 4 (by decide)
        match j, hj with
        | 0, _ => simp_all [takeI, up2, upd]
        | 1, _ => simp_all [takeI, up2, upd]
        | 2, _ => simp_all [takeI, up2, upd]
        | 3, _ => simp_all [takeI, up2, upd]
        | 4, _ => simp_all [takeI, up2, upd]
        | j + 5, h => omega
      · repeat (first | exact FF.rf | refine FF.uf ?_ (by decide))
  · refine Sp.of (by decide) (ls := [(0, .ref m), (1, .int 2), (2, .int v)]) (fun _ => rfl) (fun _ => Nat.le_of_ble_eq_true rfl) ?_
    refine rc_p (p_iload_n 1 (dk_at ktX7_takesIn_0 0 rfl) rfl rfl (b := 1) rfl) ?_
    refine rc_p (p_iconst (v := 1) (dk_at ktX7_takesIn_0 1 rfl) (by decide) (b := 2) rfl) ?_
    refine r_icmp_ne (dk_at ktX7_takesIn_0 2 rfl) (b := 18) (by decide) (b2 := 5) rfl (fun c2 => ?_) (fun c2 => ?_)
    · skip
      refine rc_p (p_aload_n 0 (dk_at ktX7_takesIn_0 10 rfl) rfl rfl (b := 19) rfl) ?_
      refine r_geti fl_X7_235 rfl hm.l0 hm.s0 (dk_at ktX7_takesIn_0 11 rfl) (v := (τ 2)) (hT 2 (by decide)) (b := 22) rfl ?_
      refine rc_p (p_iload_n 2 (dk_at ktX7_takesIn_0 12 rfl) rfl rfl (b := 23) rfl) ?_
      refine r_icmp_ne (dk_at ktX7_takesIn_0 13 rfl) (b := 30) (by decide) (b2 := 26) rfl (fun c23 => ?_) (fun c23 => ?_)
      · skip
        refine rc_p (p_iconst (v := 0) (dk_at ktX7_takesIn_0 16 rfl) (by decide) (b := 31) rfl) ?_
        refine rc_p (p_istore_n (ls' := [(3, .int 0), (0, .ref m), (1, .int 2), (2, .int v)]) (dk_at ktX7_takesIn_0 17 rfl) rfl (by decide) rfl (b := 32) rfl) ?_
        refine rc_p (p_iload_n 2 (dk_at ktX7_takesIn_0 18 rfl) rfl rfl (b := 33) rfl) ?_
        refine rc_p (p_iconst (v := 4) (dk_at ktX7_takesIn_0 19 rfl) (by decide) (b := 34) rfl) ?_
        refine r_icmp_ne (dk_at ktX7_takesIn_0 20 rfl) (b := 56) (by decide) (b2 := 37) rfl (fun c34 => ?_) (fun c34 => ?_)
        · skip
          refine rc_p (p_iload_n 2 (dk_at ktX7_takesIn_0 32 rfl) rfl rfl (b := 57) rfl) ?_
          refine rc_p (p_iconst (v := 3) (dk_at ktX7_takesIn_0 33 rfl) (by decide) (b := 58) rfl) ?_
          refine r_icmp_ne (dk_at ktX7_takesIn_0 34 rfl) (b := 69) (by decide) (b2 := 61) rfl (fun c58 => ?_) (fun c58 => ?_)
          · skip
            refine rc_p (p_iload_n 0 (dk_at ktX7_takesIn_0 39 rfl) rfl rfl (b := 70) rfl) ?_
            refine r_if_eq (dk_at ktX7_takesIn_0 40 rfl) (b := 78) (by decide) (b2 := 73) rfl (fun c70 => ?_) (fun c70 => ?_)
            · skip
              refine rc_p (p_iload_n 2 (dk_at ktX7_takesIn_0 44 rfl) rfl rfl (b := 79) rfl) ?_
              refine rc_p (p_iconst (v := 3) (dk_at ktX7_takesIn_0 45 rfl) (by decide) (b := 80) rfl) ?_
              refine r_icmp_eq (dk_at ktX7_takesIn_0 46 rfl) (b := 87) (by decide) (b2 := 83) rfl (fun c80 => ?_) (fun c80 => ?_)
              · first | exact absurd c80 (by decide) | exact absurd (by decide) c80
              · skip
                refine rc_p (p_iload_n 0 (dk_at ktX7_takesIn_0 47 rfl) rfl rfl (b := 84) rfl) ?_
                refine r_if_eq (dk_at ktX7_takesIn_0 48 rfl) (b := 92) (by decide) (b2 := 87) rfl (fun c84 => ?_) (fun c84 => ?_)
                · skip
                  refine rc_p (p_iload_n 2 (dk_at ktX7_takesIn_0 52 rfl) rfl rfl (b := 93) rfl) ?_
                  refine rc_p (p_iconst (v := 2) (dk_at ktX7_takesIn_0 53 rfl) (by decide) (b := 94) rfl) ?_
                  refine r_icmp_ne (dk_at ktX7_takesIn_0 54 rfl) (b := 102) (by decide) (b2 := 97) rfl (fun c94 => ?_) (fun c94 => ?_)
                  · first | exact absurd c94 (by decide) | exact absurd (by decide) c94
                  · skip
                    refine rc_p (p_aload_n 1 (dk_at ktX7_takesIn_0 55 rfl) rfl rfl (b := 98) rfl) ?_
                    refine rc_p (p_iload_n 3 (dk_at ktX7_takesIn_0 56 rfl) rfl rfl (b := 99) rfl) ?_
                    refine r_puti fl_X7_240 fw_X7_19 rfl hm.l0 hm.s0 rfl rfl (dk_at ktX7_takesIn_0 57 rfl) (b := 102) rfl ?_
                    refine rc_p (p_iload_n 2 (dk_at ktX7_takesIn_0 58 rfl) rfl rfl (b := 103) rfl) ?_
                    refine rc_p (p_iconst (v := 5) (dk_at ktX7_takesIn_0 59 rfl) (by decide) (b := 104) rfl) ?_
                    refine r_icmp_ne (dk_at ktX7_takesIn_1 0 rfl) (b := 120) (by decide) (b2 := 107) rfl (fun c104 => ?_) (fun c104 => ?_)
                    · skip
                      refine rc_p (p_aload_n 1 (dk_at ktX7_takesIn_1 8 rfl) rfl rfl (b := 121) rfl) ?_
                      refine rc_p (p_iload_n 2 (dk_at ktX7_takesIn_1 9 rfl) rfl rfl (b := 122) rfl) ?_
                      refine rc_p (p_iconst (v := 5) (dk_at ktX7_takesIn_1 10 rfl) (by decide) (b := 123) rfl) ?_
                      refine r_icmp_ne (dk_at ktX7_takesIn_1 11 rfl) (b := 137) (by decide) (b2 := 126) rfl (fun c123 => ?_) (fun c123 => ?_)
                      · skip
                        refine rc_p (p_aload_n 1 (dk_at ktX7_takesIn_1 19 rfl) rfl rfl (b := 138) rfl) ?_
                        refine r_geti fl_X7_242 rfl hm.l0 hm.s0 (dk_at ktX7_takesIn_1 20 rfl) (v := (τ 4)) ((up2_n (by omega)).trans (hT 4 (by decide))) (b := 141) rfl ?_
                        refine rc_p (p_iconst (v := 1) (dk_at ktX7_takesIn_1 21 rfl) (by decide) (b := 142) rfl) ?_
                        refine rc_p (p_iload_n 3 (dk_at ktX7_takesIn_1 22 rfl) rfl rfl (b := 143) rfl) ?_
                        refine rc_p (p_ishl (v := (1 <<< (v &&& 31))) (dk_at ktX7_takesIn_1 23 rfl) rfl (b := 144) rfl) ?_
                        refine rc_p (p_iconst (v := (-1)) (dk_at ktX7_takesIn_1 24 rfl) (by decide) (b := 145) rfl) ?_
                        refine rc_p (p_ixor (v := ((1 <<< (v &&& 31)) ^^^ (-1))) (dk_at ktX7_takesIn_1 25 rfl) rfl (b := 146) rfl) ?_
                        refine rc_p (p_iand (v := ((τ 4) &&& ((1 <<< (v &&& 31)) ^^^ (-1)))) (dk_at ktX7_takesIn_1 26 rfl) rfl (b := 147) rfl) ?_
                        refine r_puti fl_X7_242 fw_X7_22 rfl hm.l0 hm.s0 rfl rfl (dk_at ktX7_takesIn_1 27 rfl) (b := 150) rfl ?_
                        refine r_vret (dk_at ktX7_takesIn_1 28 rfl) rfl ⟨rfl, ?_⟩
                        refine ⟨rfl, fun j hj => ?_, ?_⟩
                        · have t0 := hT 0 (by decide)
                          have t1 := hT 1 (by decide)
                          have t2 := hT 2 (by decide)
                          have t3 := hT 3 (by decide)
                          have t4 := hT 4 (by decide)
                          match j, hj with
                          | 0, _ => simp_all [takeI, up2, upd]
                          | 1, _ => simp_all [takeI, up2, upd]
                          | 2, _ => simp_all [takeI, up2, upd]
                          | 3, _ => simp_all [takeI, up2, upd]
                          | 4, _ => simp_all [takeI, up2, upd]
                          | j + 5, h => omega
                        · repeat (first | exact FF.rf | refine FF.uf ?_ (by decide))
                      · first | exact absurd c123 (by decide) | exact absurd (by decide) c123
                    · first | exact absurd c104 (by decide) | exact absurd (by decide) c104
                · first | exact absurd c84 (by decide) | exact absurd (by decide) c84
            · first | exact absurd c70 (by decide) | exact absurd (by decide) c70
          · first | exact absurd c58 (by decide) | exact absurd (by decide) c58
        · first | exact absurd c34 (by decide) | exact absurd (by decide) c34
      · skip
        refine rc_p (p_iconst (v := 1) (dk_at ktX7_takesIn_0 14 rfl) (by decide) (b := 27) rfl) ?_
        refine rc_p (p_goto (b := 31) (dk_at ktX7_takesIn_0 15 rfl) (by decide)) ?_
        refine rc_p (p_istore_n (ls' := [(3, .int 1), (0, .ref m), (1, .int 2), (2, .int v)]) (dk_at ktX7_takesIn_0 17 rfl) rfl (by decide) rfl (b := 32) rfl) ?_
        refine rc_p (p_iload_n 2 (dk_at ktX7_takesIn_0 18 rfl) rfl rfl (b := 33) rfl) ?_
        refine rc_p (p_iconst (v := 4) (dk_at ktX7_takesIn_0 19 rfl) (by decide) (b := 34) rfl) ?_
        refine r_icmp_ne (dk_at ktX7_takesIn_0 20 rfl) (b := 56) (by decide) (b2 := 37) rfl (fun c34 => ?_) (fun c34 => ?_)
        · skip
          refine rc_p (p_iload_n 2 (dk_at ktX7_takesIn_0 32 rfl) rfl rfl (b := 57) rfl) ?_
          refine rc_p (p_iconst (v := 3) (dk_at ktX7_takesIn_0 33 rfl) (by decide) (b := 58) rfl) ?_
          refine r_icmp_ne (dk_at ktX7_takesIn_0 34 rfl) (b := 69) (by decide) (b2 := 61) rfl (fun c58 => ?_) (fun c58 => ?_)
          · skip
            refine rc_p (p_iload_n 0 (dk_at ktX7_takesIn_0 39 rfl) rfl rfl (b := 70) rfl) ?_
            refine r_if_eq (dk_at ktX7_takesIn_0 40 rfl) (b := 78) (by decide) (b2 := 73) rfl (fun c70 => ?_) (fun c70 => ?_)
            · first | exact absurd c70 (by decide) | exact absurd (by decide) c70
            · skip
              refine rc_p (p_aload_n 1 (dk_at ktX7_takesIn_0 41 rfl) rfl rfl (b := 74) rfl) ?_
              refine rc_p (p_iconst (v := (-1)) (dk_at ktX7_takesIn_0 42 rfl) (by decide) (b := 75) rfl) ?_
              refine r_puti fl_X7_235 fw_X7_20 rfl hm.l0 hm.s0 rfl rfl (dk_at ktX7_takesIn_0 43 rfl) (b := 78) rfl ?_
              refine rc_p (p_iload_n 2 (dk_at ktX7_takesIn_0 44 rfl) rfl rfl (b := 79) rfl) ?_
              refine rc_p (p_iconst (v := 3) (dk_at ktX7_takesIn_0 45 rfl) (by decide) (b := 80) rfl) ?_
              refine r_icmp_eq (dk_at ktX7_takesIn_0 46 rfl) (b := 87) (by decide) (b2 := 83) rfl (fun c80 => ?_) (fun c80 => ?_)
              · first | exact absurd c80 (by decide) | exact absurd (by decide) c80
              · skip
                refine rc_p (p_iload_n 0 (dk_at ktX7_takesIn_0 47 rfl) rfl rfl (b := 84) rfl) ?_
                refine r_if_eq (dk_at ktX7_takesIn_0 48 rfl) (b := 92) (by decide) (b2 := 87) rfl (fun c84 => ?_) (fun c84 => ?_)
                · first | exact absurd c84 (by decide) | exact absurd (by decide) c84
                · skip
                  refine rc_p (p_aload_n 1 (dk_at ktX7_takesIn_0 49 rfl) rfl rfl (b := 88) rfl) ?_
                  refine rc_p (p_iconst (v := 0) (dk_at ktX7_takesIn_0 50 rfl) (by decide) (b := 89) rfl) ?_
                  refine r_puti fl_X7_238 fw_X7_21 rfl hm.l0 hm.s0 rfl rfl (dk_at ktX7_takesIn_0 51 rfl) (b := 92) rfl ?_
                  refine rc_p (p_iload_n 2 (dk_at ktX7_takesIn_0 52 rfl) rfl rfl (b := 93) rfl) ?_
                  refine rc_p (p_iconst (v := 2) (dk_at ktX7_takesIn_0 53 rfl) (by decide) (b := 94) rfl) ?_
                  refine r_icmp_ne (dk_at ktX7_takesIn_0 54 rfl) (b := 102) (by decide) (b2 := 97) rfl (fun c94 => ?_) (fun c94 => ?_)
                  · first | exact absurd c94 (by decide) | exact absurd (by decide) c94
                  · skip
                    refine rc_p (p_aload_n 1 (dk_at ktX7_takesIn_0 55 rfl) rfl rfl (b := 98) rfl) ?_
                    refine rc_p (p_iload_n 3 (dk_at ktX7_takesIn_0 56 rfl) rfl rfl (b := 99) rfl) ?_
                    refine r_puti fl_X7_240 fw_X7_19 rfl hm.l0 hm.s0 rfl rfl (dk_at ktX7_takesIn_0 57 rfl) (b := 102) rfl ?_
                    refine rc_p (p_iload_n 2 (dk_at ktX7_takesIn_0 58 rfl) rfl rfl (b := 103) rfl) ?_
                    refine rc_p (p_iconst (v := 5) (dk_at ktX7_takesIn_0 59 rfl) (by decide) (b := 104) rfl) ?_
                    refine r_icmp_ne (dk_at ktX7_takesIn_1 0 rfl) (b := 120) (by decide) (b2 := 107) rfl (fun c104 => ?_) (fun c104 => ?_)
                    · skip
                      refine rc_p (p_aload_n 1 (dk_at ktX7_takesIn_1 8 rfl) rfl rfl (b := 121) rfl) ?_
                      refine rc_p (p_iload_n 2 (dk_at ktX7_takesIn_1 9 rfl) rfl rfl (b := 122) rfl) ?_
                      refine rc_p (p_iconst (v := 5) (dk_at ktX7_takesIn_1 10 rfl) (by decide) (b := 123) rfl) ?_
                      refine r_icmp_ne (dk_at ktX7_takesIn_1 11 rfl) (b := 137) (by decide) (b2 := 126) rfl (fun c123 => ?_) (fun c123 => ?_)
                      · skip
                        refine rc_p (p_aload_n 1 (dk_at ktX7_takesIn_1 19 rfl) rfl rfl (b := 138) rfl) ?_
                        refine r_geti fl_X7_242 rfl hm.l0 hm.s0 (dk_at ktX7_takesIn_1 20 rfl) (v := (τ 4)) ((up2_n (by omega)).trans ((up2_n (by omega)).trans ((up2_n (by omega)).trans (hT 4 (by decide))))) (b := 141) rfl ?_
                        refine rc_p (p_iconst (v := 1) (dk_at ktX7_takesIn_1 21 rfl) (by decide) (b := 142) rfl) ?_
                        refine rc_p (p_iload_n 3 (dk_at ktX7_takesIn_1 22 rfl) rfl rfl (b := 143) rfl) ?_
                        refine rc_p (p_ishl (v := (1 <<< (v &&& 31))) (dk_at ktX7_takesIn_1 23 rfl) rfl (b := 144) rfl) ?_
                        refine rc_p (p_iconst (v := (-1)) (dk_at ktX7_takesIn_1 24 rfl) (by decide) (b := 145) rfl) ?_
                        refine rc_p (p_ixor (v := ((1 <<< (v &&& 31)) ^^^ (-1))) (dk_at ktX7_takesIn_1 25 rfl) rfl (b := 146) rfl) ?_
                        refine rc_p (p_iand (v := ((τ 4) &&& ((1 <<< (v &&& 31)) ^^^ (-1)))) (dk_at ktX7_takesIn_1 26 rfl) rfl (b := 147) rfl) ?_
                        refine r_puti fl_X7_242 fw_X7_22 rfl hm.l0 hm.s0 rfl rfl (dk_at ktX7_takesIn_1 27 rfl) (b := 150) rfl ?_
                        refine r_vret (dk_at ktX7_takesIn_1 28 rfl) rfl ⟨rfl, ?_⟩
                        refine ⟨rfl, fun j hj => ?_, ?_⟩
                        · have t0 := hT 0 (by decide)
                          have t1 := hT 1 (by decide)
                          have t2 := hT 2 (by decide)
                          have t3 := hT 3 (by decide)
                          have t4 := hT 4 (by decide)
                          match j, hj with
                          | 0, _ => simp_all [takeI, up2, upd]
                          | 1, _ => simp_all [takeI, up2, upd]
                          | 2, _ => simp_all [takeI, up2, upd]
                          | 3, _ => simp_all [takeI, up2, upd]
                          | 4, _ => simp_all [takeI, up2, upd]
                          | j + 5, h => omega
                        · repeat (first | exact FF.rf | refine FF.uf ?_ (by decide))
                      · first | exact absurd c123 (by decide) | exact absurd (by decide) c123
                    · first | exact absurd c104 (by decide) | exact absurd (by decide) c104
          · first | exact absurd c58 (by decide) | exact absurd (by decide) c58
        · first | exact absurd c34 (by decide) | exact absurd (by decide) c34
    · first | exact absurd c2 (by decide) | exact absurd (by decide) c2
  · refine Sp.of (by decide) (ls := [(0, .ref m), (1, .int 3), (2, .int v)]) (fun _ => rfl) (fun _ => Nat.le_of_ble_eq_true rfl) ?_
    refine rc_p (p_iload_n 1 (dk_at ktX7_takesIn_0 0 rfl) rfl rfl (b := 1) rfl) ?_
    refine rc_p (p_iconst (v := 1) (dk_at ktX7_takesIn_0 1 rfl) (by decide) (b := 2) rfl) ?_
    refine r_icmp_ne (dk_at ktX7_takesIn_0 2 rfl) (b := 18) (by decide) (b2 := 5) rfl (fun c2 => ?_) (fun c2 => ?_)
    · skip
      refine rc_p (p_aload_n 0 (dk_at ktX7_takesIn_0 10 rfl) rfl rfl (b := 19) rfl) ?_
      refine r_geti fl_X7_235 rfl hm.l0 hm.s0 (dk_at ktX7_takesIn_0 11 rfl) (v := (τ 2)) (hT 2 (by decide)) (b := 22) rfl ?_
      refine rc_p (p_iload_n 2 (dk_at ktX7_takesIn_0 12 rfl) rfl rfl (b := 23) rfl) ?_
      refine r_icmp_ne (dk_at ktX7_takesIn_0 13 rfl) (b := 30) (by decide) (b2 := 26) rfl (fun c23 => ?_) (fun c23 => ?_)
      · skip
        refine rc_p (p_iconst (v := 0) (dk_at ktX7_takesIn_0 16 rfl) (by decide) (b := 31) rfl) ?_
        refine rc_p (p_istore_n (ls' := [(3, .int 0), (0, .ref m), (1, .int 3), (2, .int v)]) (dk_at ktX7_takesIn_0 17 rfl) rfl (by decide) rfl (b := 32) rfl) ?_
        refine rc_p (p_iload_n 2 (dk_at ktX7_takesIn_0 18 rfl) rfl rfl (b := 33) rfl) ?_
        refine rc_p (p_iconst (v := 4) (dk_at ktX7_takesIn_0 19 rfl) (by decide) (b := 34) rfl) ?_
        refine r_icmp_ne (dk_at ktX7_takesIn_0 20 rfl) (b := 56) (by decide) (b2 := 37) rfl (fun c34 => ?_) (fun c34 => ?_)
        · skip
          refine rc_p (p_iload_n 2 (dk_at ktX7_takesIn_0 32 rfl) rfl rfl (b := 57) rfl) ?_
          refine rc_p (p_iconst (v := 3) (dk_at ktX7_takesIn_0 33 rfl) (by decide) (b := 58) rfl) ?_
          refine r_icmp_ne (dk_at ktX7_takesIn_0 34 rfl) (b := 69) (by decide) (b2 := 61) rfl (fun c58 => ?_) (fun c58 => ?_)
          · first | exact absurd c58 (by decide) | exact absurd (by decide) c58
          · skip
            refine rc_p (p_aload_n 1 (dk_at ktX7_takesIn_0 35 rfl) rfl rfl (b := 62) rfl) ?_
            refine rc_p (p_iload_n 3 (dk_at ktX7_takesIn_0 36 rfl) rfl rfl (b := 63) rfl) ?_
            refine r_puti fl_X7_235 fw_X7_20 rfl hm.l0 hm.s0 rfl rfl (dk_at ktX7_takesIn_0 37 rfl) (b := 66) rfl ?_
            refine rc_p (p_goto (b := 78) (dk_at ktX7_takesIn_0 38 rfl) (by decide)) ?_
            refine rc_p (p_iload_n 2 (dk_at ktX7_takesIn_0 44 rfl) rfl rfl (b := 79) rfl) ?_
            refine rc_p (p_iconst (v := 3) (dk_at ktX7_takesIn_0 45 rfl) (by decide) (b := 80) rfl) ?_
            refine r_icmp_eq (dk_at ktX7_takesIn_0 46 rfl) (b := 87) (by decide) (b2 := 83) rfl (fun c80 => ?_) (fun c80 => ?_)
            · skip
              refine rc_p (p_aload_n 1 (dk_at ktX7_takesIn_0 49 rfl) rfl rfl (b := 88) rfl) ?_
              refine rc_p (p_iconst (v := 0) (dk_at ktX7_takesIn_0 50 rfl) (by decide) (b := 89) rfl) ?_
              refine r_puti fl_X7_238 fw_X7_21 rfl hm.l0 hm.s0 rfl rfl (dk_at ktX7_takesIn_0 51 rfl) (b := 92) rfl ?_
              refine rc_p (p_iload_n 2 (dk_at ktX7_takesIn_0 52 rfl) rfl rfl (b := 93) rfl) ?_
              refine rc_p (p_iconst (v := 2) (dk_at ktX7_takesIn_0 53 rfl) (by decide) (b := 94) rfl) ?_
              refine r_icmp_ne (dk_at ktX7_takesIn_0 54 rfl) (b := 102) (by decide) (b2 := 97) rfl (fun c94 => ?_) (fun c94 => ?_)
              · skip
                refine rc_p (p_iload_n 2 (dk_at ktX7_takesIn_0 58 rfl) rfl rfl (b := 103) rfl) ?_
                refine rc_p (p_iconst (v := 5) (dk_at ktX7_takesIn_0 59 rfl) (by decide) (b := 104) rfl) ?_
                refine r_icmp_ne (dk_at ktX7_takesIn_1 0 rfl) (b := 120) (by decide) (b2 := 107) rfl (fun c104 => ?_) (fun c104 => ?_)
                · skip
                  refine rc_p (p_aload_n 1 (dk_at ktX7_takesIn_1 8 rfl) rfl rfl (b := 121) rfl) ?_
                  refine rc_p (p_iload_n 2 (dk_at ktX7_takesIn_1 9 rfl) rfl rfl (b := 122) rfl) ?_
                  refine rc_p (p_iconst (v := 5) (dk_at ktX7_takesIn_1 10 rfl) (by decide) (b := 123) rfl) ?_
                  refine r_icmp_ne (dk_at ktX7_takesIn_1 11 rfl) (b := 137) (by decide) (b2 := 126) rfl (fun c123 => ?_) (fun c123 => ?_)
                  · skip
                    refine rc_p (p_aload_n 1 (dk_at ktX7_takesIn_1 19 rfl) rfl rfl (b := 138) rfl) ?_
                    refine r_geti fl_X7_242 rfl hm.l0 hm.s0 (dk_at ktX7_takesIn_1 20 rfl) (v := (τ 4)) ((up2_n (by omega)).trans ((up2_n (by omega)).trans (hT 4 (by decide)))) (b := 141) rfl ?_
                    refine rc_p (p_iconst (v := 1) (dk_at ktX7_takesIn_1 21 rfl) (by decide) (b := 142) rfl) ?_
                    refine rc_p (p_iload_n 3 (dk_at ktX7_takesIn_1 22 rfl) rfl rfl (b := 143) rfl) ?_
                    refine rc_p (p_ishl (v := (1 <<< (v &&& 31))) (dk_at ktX7_takesIn_1 23 rfl) rfl (b := 144) rfl) ?_
                    refine rc_p (p_iconst (v := (-1)) (dk_at ktX7_takesIn_1 24 rfl) (by decide) (b := 145) rfl) ?_
                    refine rc_p (p_ixor (v := ((1 <<< (v &&& 31)) ^^^ (-1))) (dk_at ktX7_takesIn_1 25 rfl) rfl (b := 146) rfl) ?_
                    refine rc_p (p_iand (v := ((τ 4) &&& ((1 <<< (v &&& 31)) ^^^ (-1)))) (dk_at ktX7_takesIn_1 26 rfl) rfl (b := 147) rfl) ?_
                    refine r_puti fl_X7_242 fw_X7_22 rfl hm.l0 hm.s0 rfl rfl (dk_at ktX7_takesIn_1 27 rfl) (b := 150) rfl ?_
                    refine r_vret (dk_at ktX7_takesIn_1 28 rfl) rfl ⟨rfl, ?_⟩
                    refine ⟨rfl, fun j hj => ?_, ?_⟩
                    · have t0 := hT 0 (by decide)
                      have t1 := hT 1 (by decide)
                      have t2 := hT 2 (by decide)
                      have t3 := hT 3 (by decide)
                      have t4 := hT 4 (by decide)
                      match j, hj with
                      | 0, _ => simp_all [takeI, up2, upd]
                      | 1, _ => simp_all [takeI, up2, upd]
                      | 2, _ => simp_all [takeI, up2, upd]
                      | 3, _ => simp_all [takeI, up2, upd]
                      | 4, _ => simp_all [takeI, up2, upd]
                      | j + 5, h => omega
                    · repeat (first | exact FF.rf | refine FF.uf ?_ (by decide))
                  · first | exact absurd c123 (by decide) | exact absurd (by decide) c123
                · first | exact absurd c104 (by decide) | exact absurd (by decide) c104
              · first | exact absurd c94 (by decide) | exact absurd (by decide) c94
            · first | exact absurd c80 (by decide) | exact absurd (by decide) c80
        · first | exact absurd c34 (by decide) | exact absurd (by decide) c34
      · skip
        refine rc_p (p_iconst (v := 1) (dk_at ktX7_takesIn_0 14 rfl) (by decide) (b := 27) rfl) ?_
        refine rc_p (p_goto (b := 31) (dk_at ktX7_takesIn_0 15 rfl) (by decide)) ?_
        refine rc_p (p_istore_n (ls' := [(3, .int 1), (0, .ref m), (1, .int 3), (2, .int v)]) (dk_at ktX7_takesIn_0 17 rfl) rfl (by decide) rfl (b := 32) rfl) ?_
        refine rc_p (p_iload_n 2 (dk_at ktX7_takesIn_0 18 rfl) rfl rfl (b := 33) rfl) ?_
        refine rc_p (p_iconst (v := 4) (dk_at ktX7_takesIn_0 19 rfl) (by decide) (b := 34) rfl) ?_
        refine r_icmp_ne (dk_at ktX7_takesIn_0 20 rfl) (b := 56) (by decide) (b2 := 37) rfl (fun c34 => ?_) (fun c34 => ?_)
        · skip
          refine rc_p (p_iload_n 2 (dk_at ktX7_takesIn_0 32 rfl) rfl rfl (b := 57) rfl) ?_
          refine rc_p (p_iconst (v := 3) (dk_at ktX7_takesIn_0 33 rfl) (by decide) (b := 58) rfl) ?_
          refine r_icmp_ne (dk_at ktX7_takesIn_0 34 rfl) (b := 69) (by decide) (b2 := 61) rfl (fun c58 => ?_) (fun c58 => ?_)
          · first | exact absurd c58 (by decide) | exact absurd (by decide) c58
          · skip
            refine rc_p (p_aload_n 1 (dk_at ktX7_takesIn_0 35 rfl) rfl rfl (b := 62) rfl) ?_
            refine rc_p (p_iload_n 3 (dk_at ktX7_takesIn_0 36 rfl) rfl rfl (b := 63) rfl) ?_
            refine r_puti fl_X7_235 fw_X7_20 rfl hm.l0 hm.s0 rfl rfl (dk_at ktX7_takesIn_0 37 rfl) (b := 66) rfl ?_
            refine rc_p (p_goto (b := 78) (dk_at ktX7_takesIn_0 38 rfl) (by decide)) ?_
            refine rc_p (p_iload_n 2 (dk_at ktX7_takesIn_0 44 rfl) rfl rfl (b := 79) rfl) ?_
            refine rc_p (p_iconst (v := 3) (dk_at ktX7_takesIn_0 45 rfl) (by decide) (b := 80) rfl) ?_
            refine r_icmp_eq (dk_at ktX7_takesIn_0 46 rfl) (b := 87) (by decide) (b2 := 83) rfl (fun c80 => ?_) (fun c80 => ?_)
            · skip
              refine rc_p (p_aload_n 1 (dk_at ktX7_takesIn_0 49 rfl) rfl rfl (b := 88) rfl) ?_
              refine rc_p (p_iconst (v := 0) (dk_at ktX7_takesIn_0 50 rfl) (by decide) (b := 89) rfl) ?_
              refine r_puti fl_X7_238 fw_X7_21 rfl hm.l0 hm.s0 rfl rfl (dk_at ktX7_takesIn_0 51 rfl) (b := 92) rfl ?_
              refine rc_p (p_iload_n 2 (dk_at ktX7_takesIn_0 52 rfl) rfl rfl (b := 93) rfl) ?_
              refine rc_p (p_iconst (v := 2) (dk_at ktX7_takesIn_0 53 rfl) (by decide) (b := 94) rfl) ?_
              refine r_icmp_ne (dk_at ktX7_takesIn_0 54 rfl) (b := 102) (by decide) (b2 := 97) rfl (fun c94 => ?_) (fun c94 => ?_)
              · skip
                refine rc_p (p_iload_n 2 (dk_at ktX7_takesIn_0 58 rfl) rfl rfl (b := 103) rfl) ?_
                refine rc_p (p_iconst (v := 5) (dk_at ktX7_takesIn_0 59 rfl) (by decide) (b := 104) rfl) ?_
                refine r_icmp_ne (dk_at ktX7_takesIn_1 0 rfl) (b := 120) (by decide) (b2 := 107) rfl (fun c104 => ?_) (fun c104 => ?_)
                · skip
                  refine rc_p (p_aload_n 1 (dk_at ktX7_takesIn_1 8 rfl) rfl rfl (b := 121) rfl) ?_
                  refine rc_p (p_iload_n 2 (dk_at ktX7_takesIn_1 9 rfl) rfl rfl (b := 122) rfl) ?_
                  refine rc_p (p_iconst (v := 5) (dk_at ktX7_takesIn_1 10 rfl) (by decide) (b := 123) rfl) ?_
                  refine r_icmp_ne (dk_at ktX7_takesIn_1 11 rfl) (b := 137) (by decide) (b2 := 126) rfl (fun c123 => ?_) (fun c123 => ?_)
                  · skip
                    refine rc_p (p_aload_n 1 (dk_at ktX7_takesIn_1 19 rfl) rfl rfl (b := 138) rfl) ?_
                    refine r_geti fl_X7_242 rfl hm.l0 hm.s0 (dk_at ktX7_takesIn_1 20 rfl) (v := (τ 4)) ((up2_n (by omega)).trans ((up2_n (by omega)).trans (hT 4 (by decide)))) (b := 141) rfl ?_
                    refine rc_p (p_iconst (v := 1) (dk_at ktX7_takesIn_1 21 rfl) (by decide) (b := 142) rfl) ?_
                    refine rc_p (p_iload_n 3 (dk_at ktX7_takesIn_1 22 rfl) rfl rfl (b := 143) rfl) ?_
                    refine rc_p (p_ishl (v := (1 <<< (v &&& 31))) (dk_at ktX7_takesIn_1 23 rfl) rfl (b := 144) rfl) ?_
                    refine rc_p (p_iconst (v := (-1)) (dk_at ktX7_takesIn_1 24 rfl) (by decide) (b := 145) rfl) ?_
                    refine rc_p (p_ixor (v := ((1 <<< (v &&& 31)) ^^^ (-1))) (dk_at ktX7_takesIn_1 25 rfl) rfl (b := 146) rfl) ?_
                    refine rc_p (p_iand (v := ((τ 4) &&& ((1 <<< (v &&& 31)) ^^^ (-1)))) (dk_at ktX7_takesIn_1 26 rfl) rfl (b := 147) rfl) ?_
                    refine r_puti fl_X7_242 fw_X7_22 rfl hm.l0 hm.s0 rfl rfl (dk_at ktX7_takesIn_1 27 rfl) (b := 150) rfl ?_
                    refine r_vret (dk_at ktX7_takesIn_1 28 rfl) rfl ⟨rfl, ?_⟩
                    refine ⟨rfl, fun j hj => ?_, ?_⟩
                    · have t0 := hT 0 (by decide)
                      have t1 := hT 1 (by decide)
                      have t2 := hT 2 (by decide)
                      have t3 := hT 3 (by decide)
                      have t4 := hT 4 (by decide)
                      match j, hj with
                      | 0, _ => simp_all [takeI, up2, upd]
                      | 1, _ => simp_all [takeI, up2, upd]
                      | 2, _ => simp_all [takeI, up2, upd]
                      | 3, _ => simp_all [takeI, up2, upd]
                      | 4, _ => simp_all [takeI, up2, upd]
                      | j + 5, h => omega
                    · repeat (first | exact FF.rf | refine FF.uf ?_ (by decide))
                  · first | exact absurd c123 (by decide) | exact absurd (by decide) c123
                · first | exact absurd c104 (by decide) | exact absurd (by decide) c104
              · first | exact absurd c94 (by decide) | exact absurd (by decide) c94
            · first | exact absurd c80 (by decide) | exact absurd (by decide) c80
        · first | exact absurd c34 (by decide) | exact absurd (by decide) c34
    · first | exact absurd c2 (by decide) | exact absurd (by decide) c2
  · refine Sp.of (by decide) (ls := [(0, .ref m), (1, .int 4), (2, .int v)]) (fun _ => rfl) (fun _ => Nat.le_of_ble_eq_true rfl) ?_
    refine rc_p (p_iload_n 1 (dk_at ktX7_takesIn_0 0 rfl) rfl rfl (b := 1) rfl) ?_
    refine rc_p (p_iconst (v := 1) (dk_at ktX7_takesIn_0 1 rfl) (by decide) (b := 2) rfl) ?_
    refine r_icmp_ne (dk_at ktX7_takesIn_0 2 rfl) (b := 18) (by decide) (b2 := 5) rfl (fun c2 => ?_) (fun c2 => ?_)
    · skip
      refine rc_p (p_aload_n 0 (dk_at ktX7_takesIn_0 10 rfl) rfl rfl (b := 19) rfl) ?_
      refine r_geti fl_X7_235 rfl hm.l0 hm.s0 (dk_at ktX7_takesIn_0 11 rfl) (v := (τ 2)) (hT 2 (by decide)) (b := 22) rfl ?_
      refine rc_p (p_iload_n 2 (dk_at ktX7_takesIn_0 12 rfl) rfl rfl (b := 23) rfl) ?_
      refine r_icmp_ne (dk_at ktX7_takesIn_0 13 rfl) (b := 30) (by decide) (b2 := 26) rfl (fun c23 => ?_) (fun c23 => ?_)
      · skip
        refine rc_p (p_iconst (v := 0) (dk_at ktX7_takesIn_0 16 rfl) (by decide) (b := 31) rfl) ?_
        refine rc_p (p_istore_n (ls' := [(3, .int 0), (0, .ref m), (1, .int 4), (2, .int v)]) (dk_at ktX7_takesIn_0 17 rfl) rfl (by decide) rfl (b := 32) rfl) ?_
        refine rc_p (p_iload_n 2 (dk_at ktX7_takesIn_0 18 rfl) rfl rfl (b := 33) rfl) ?_
        refine rc_p (p_iconst (v := 4) (dk_at ktX7_takesIn_0 19 rfl) (by decide) (b := 34) rfl) ?_
        refine r_icmp_ne (dk_at ktX7_takesIn_0 20 rfl) (b := 56) (by decide) (b2 := 37) rfl (fun c34 => ?_) (fun c34 => ?_)
        · first | exact absurd c34 (by decide) | exact absurd (by decide) c34
        · skip
          refine rc_p (p_aload_n 1 (dk_at ktX7_takesIn_0 21 rfl) rfl rfl (b := 38) rfl) ?_
          refine rc_p (p_dup (dk_at ktX7_takesIn_0 22 rfl) rfl (b := 39) rfl) ?_
          refine r_geti fl_X7_238 rfl hm.l0 hm.s0 (dk_at ktX7_takesIn_0 23 rfl) (v := (τ 3)) (hT 3 (by decide)) (b := 42) rfl ?_
          refine rc_p (p_iload_n 0 (dk_at ktX7_takesIn_0 24 rfl) rfl rfl (b := 43) rfl) ?_
          refine r_if_eq (dk_at ktX7_takesIn_0 25 rfl) (b := 50) (by decide) (b2 := 46) rfl (fun c43 => ?_) (fun c43 => ?_)
          · skip
            refine rc_p (p_iconst (v := 0) (dk_at ktX7_takesIn_0 28 rfl) (by decide) (b := 51) rfl) ?_
            refine rc_p (p_iadd (v := ((τ 3) + 0)) (dk_at ktX7_takesIn_0 29 rfl) rfl (b := 52) rfl) ?_
            refine r_puti fl_X7_238 fw_X7_21 rfl hm.l0 hm.s0 rfl rfl (dk_at ktX7_takesIn_0 30 rfl) (b := 55) rfl ?_
            refine r_vret (dk_at ktX7_takesIn_0 31 rfl) rfl ⟨rfl, ?_⟩
            refine ⟨rfl, fun j hj => ?_, ?_⟩
            · have t0 := hT 0 (by decide)
              have t1 := hT 1 (by decide)
              have t2 := hT 2 (by decide)
              have t3 := hT 3 (by decide)
              have t4 := hT 4 (by decide)
              match j, hj with
              | 0, _ => simp_all [takeI, up2, upd]
              | 1, _ => simp_all [takeI, up2, upd]
              | 2, _ => simp_all [takeI, up2, upd]
              | 3, _ => simp_all [takeI, up2, upd]
              | 4, _ => simp_all [takeI, up2, upd]
              | j + 5, h => omega
            · repeat (first | exact FF.rf | refine FF.uf ?_ (by decide))
          · first | exact absurd c43 (by decide) | exact absurd (by decide) c43
      · skip
        refine rc_p (p_iconst (v := 1) (dk_at ktX7_takesIn_0 14 rfl) (by decide) (b := 27) rfl) ?_
        refine rc_p (p_goto (b := 31) (dk_at ktX7_takesIn_0 15 rfl) (by decide)) ?_
        refine rc_p (p_istore_n (ls' := [(3, .int 1), (0, .ref m), (1, .int 4), (2, .int v)]) (dk_at ktX7_takesIn_0 17 rfl) rfl (by decide) rfl (b := 32) rfl) ?_
        refine rc_p (p_iload_n 2 (dk_at ktX7_takesIn_0 18 rfl) rfl rfl (b := 33) rfl) ?_
        refine rc_p (p_iconst (v := 4) (dk_at ktX7_takesIn_0 19 rfl) (by decide) (b := 34) rfl) ?_
        refine r_icmp_ne (dk_at ktX7_takesIn_0 20 rfl) (b := 56) (by decide) (b2 := 37) rfl (fun c34 => ?_) (fun c34 => ?_)
        · first | exact absurd c34 (by decide) | exact absurd (by decide) c34
        · skip
          refine rc_p (p_aload_n 1 (dk_at ktX7_takesIn_0 21 rfl) rfl rfl (b := 38) rfl) ?_
          refine rc_p (p_dup (dk_at ktX7_takesIn_0 22 rfl) rfl (b := 39) rfl) ?_
          refine r_geti fl_X7_238 rfl hm.l0 hm.s0 (dk_at ktX7_takesIn_0 23 rfl) (v := (τ 3)) (hT 3 (by decide)) (b := 42) rfl ?_
          refine rc_p (p_iload_n 0 (dk_at ktX7_takesIn_0 24 rfl) rfl rfl (b := 43) rfl) ?_
          refine r_if_eq (dk_at ktX7_takesIn_0 25 rfl) (b := 50) (by decide) (b2 := 46) rfl (fun c43 => ?_) (fun c43 => ?_)
          · first | exact absurd c43 (by decide) | exact absurd (by decide) c43
          · skip
            refine rc_p (p_iconst (v := 1) (dk_at ktX7_takesIn_0 26 rfl) (by decide) (b := 47) rfl) ?_
            refine rc_p (p_goto (b := 51) (dk_at ktX7_takesIn_0 27 rfl) (by decide)) ?_
            refine rc_p (p_iadd (v := ((τ 3) + 1)) (dk_at ktX7_takesIn_0 29 rfl) rfl (b := 52) rfl) ?_
            refine r_puti fl_X7_238 fw_X7_21 rfl hm.l0 hm.s0 rfl rfl (dk_at ktX7_takesIn_0 30 rfl) (b := 55) rfl ?_
            refine r_vret (dk_at ktX7_takesIn_0 31 rfl) rfl ⟨rfl, ?_⟩
            refine ⟨rfl, fun j hj => ?_, ?_⟩
            · have t0 := hT 0 (by decide)
              have t1 := hT 1 (by decide)
              have t2 := hT 2 (by decide)
              have t3 := hT 3 (by decide)
              have t4 := hT 4 (by decide)
              match j, hj with
              | 0, _ => simp_all [takeI, up2, upd]
              | 1, _ => simp_all [takeI, up2, upd]
              | 2, _ => simp_all [takeI, up2, upd]
              | 3, _ => simp_all [takeI, up2, upd]
              | 4, _ => simp_all [takeI, up2, upd]
              | j + 5, h => omega
            · repeat (first | exact FF.rf | refine FF.uf ?_ (by decide))
    · first | exact absurd c2 (by decide) | exact absurd (by decide) c2
  · refine Sp.of (by decide) (ls := [(0, .ref m), (1, .int 5), (2, .int v)]) (fun _ => rfl) (fun _ => Nat.le_of_ble_eq_true rfl) ?_
    refine rc_p (p_iload_n 1 (dk_at ktX7_takesIn_0 0 rfl) rfl rfl (b := 1) rfl) ?_
    refine rc_p (p_iconst (v := 1) (dk_at ktX7_takesIn_0 1 rfl) (by decide) (b := 2) rfl) ?_
    refine r_icmp_ne (dk_at ktX7_takesIn_0 2 rfl) (b := 18) (by decide) (b2 := 5) rfl (fun c2 => ?_) (fun c2 => ?_)
    · skip
      refine rc_p (p_aload_n 0 (dk_at ktX7_takesIn_0 10 rfl) rfl rfl (b := 19) rfl) ?_
      refine r_geti fl_X7_235 rfl hm.l0 hm.s0 (dk_at ktX7_takesIn_0 11 rfl) (v := (τ 2)) (hT 2 (by decide)) (b := 22) rfl ?_
      refine rc_p (p_iload_n 2 (dk_at ktX7_takesIn_0 12 rfl) rfl rfl (b := 23) rfl) ?_
      refine r_icmp_ne (dk_at ktX7_takesIn_0 13 rfl) (b := 30) (by decide) (b2 := 26) rfl (fun c23 => ?_) (fun c23 => ?_)
      · skip
        refine rc_p (p_iconst (v := 0) (dk_at ktX7_takesIn_0 16 rfl) (by decide) (b := 31) rfl) ?_
        refine rc_p (p_istore_n (ls' := [(3, .int 0), (0, .ref m), (1, .int 5), (2, .int v)]) (dk_at ktX7_takesIn_0 17 rfl) rfl (by decide) rfl (b := 32) rfl) ?_
        refine rc_p (p_iload_n 2 (dk_at ktX7_takesIn_0 18 rfl) rfl rfl (b := 33) rfl) ?_
        refine rc_p (p_iconst (v := 4) (dk_at ktX7_takesIn_0 19 rfl) (by decide) (b := 34) rfl) ?_
        refine r_icmp_ne (dk_at ktX7_takesIn_0 20 rfl) (b := 56) (by decide) (b2 := 37) rfl (fun c34 => ?_) (fun c34 => ?_)
        · skip
          refine rc_p (p_iload_n 2 (dk_at ktX7_takesIn_0 32 rfl) rfl rfl (b := 57) rfl) ?_
          refine rc_p (p_iconst (v := 3) (dk_at ktX7_takesIn_0 33 rfl) (by decide) (b := 58) rfl) ?_
          refine r_icmp_ne (dk_at ktX7_takesIn_0 34 rfl) (b := 69) (by decide) (b2 := 61) rfl (fun c58 => ?_) (fun c58 => ?_)
          · skip
            refine rc_p (p_iload_n 0 (dk_at ktX7_takesIn_0 39 rfl) rfl rfl (b := 70) rfl) ?_
            refine r_if_eq (dk_at ktX7_takesIn_0 40 rfl) (b := 78) (by decide) (b2 := 73) rfl (fun c70 => ?_) (fun c70 => ?_)
            · skip
              refine rc_p (p_iload_n 2 (dk_at ktX7_takesIn_0 44 rfl) rfl rfl (b := 79) rfl) ?_
              refine rc_p (p_iconst (v := 3) (dk_at ktX7_takesIn_0 45 rfl) (by decide) (b := 80) rfl) ?_
              refine r_icmp_eq (dk_at ktX7_takesIn_0 46 rfl) (b := 87) (by decide) (b2 := 83) rfl (fun c80 => ?_) (fun c80 => ?_)
              · first | exact absurd c80 (by decide) | exact absurd (by decide) c80
              · skip
                refine rc_p (p_iload_n 0 (dk_at ktX7_takesIn_0 47 rfl) rfl rfl (b := 84) rfl) ?_
                refine r_if_eq (dk_at ktX7_takesIn_0 48 rfl) (b := 92) (by decide) (b2 := 87) rfl (fun c84 => ?_) (fun c84 => ?_)
                · skip
                  refine rc_p (p_iload_n 2 (dk_at ktX7_takesIn_0 52 rfl) rfl rfl (b := 93) rfl) ?_
                  refine rc_p (p_iconst (v := 2) (dk_at ktX7_takesIn_0 53 rfl) (by decide) (b := 94) rfl) ?_
                  refine r_icmp_ne (dk_at ktX7_takesIn_0 54 rfl) (b := 102) (by decide) (b2 := 97) rfl (fun c94 => ?_) (fun c94 => ?_)
                  · skip
                    refine rc_p (p_iload_n 2 (dk_at ktX7_takesIn_0 58 rfl) rfl rfl (b := 103) rfl) ?_
                    refine rc_p (p_iconst (v := 5) (dk_at ktX7_takesIn_0 59 rfl) (by decide) (b := 104) rfl) ?_
                    refine r_icmp_ne (dk_at ktX7_takesIn_1 0 rfl) (b := 120) (by decide) (b2 := 107) rfl (fun c104 => ?_) (fun c104 => ?_)
                    · first | exact absurd c104 (by decide) | exact absurd (by decide) c104
                    · skip
                      refine rc_p (p_aload_n 1 (dk_at ktX7_takesIn_1 1 rfl) rfl rfl (b := 108) rfl) ?_
                      refine r_geti fl_X7_240 rfl hm.l0 hm.s0 (dk_at ktX7_takesIn_1 2 rfl) (v := (τ 1)) (hT 1 (by decide)) (b := 111) rfl ?_
                      refine rc_p (p_iload_n 3 (dk_at ktX7_takesIn_1 3 rfl) rfl rfl (b := 112) rfl) ?_
                      refine r_icmp_ne (dk_at ktX7_takesIn_1 4 rfl) (b := 120) (by decide) (b2 := 115) rfl (fun c112 => ?_) (fun c112 => ?_)
                      · skip
                        refine rc_p (p_aload_n 1 (dk_at ktX7_takesIn_1 8 rfl) rfl rfl (b := 121) rfl) ?_
                        refine rc_p (p_iload_n 2 (dk_at ktX7_takesIn_1 9 rfl) rfl rfl (b := 122) rfl) ?_
                        refine rc_p (p_iconst (v := 5) (dk_at ktX7_takesIn_1 10 rfl) (by decide) (b := 123) rfl) ?_
                        refine r_icmp_ne (dk_at ktX7_takesIn_1 11 rfl) (b := 137) (by decide) (b2 := 126) rfl (fun c123 => ?_) (fun c123 => ?_)
                        · first | exact absurd c123 (by decide) | exact absurd (by decide) c123
                        · skip
                          refine rc_p (p_aload_n 1 (dk_at ktX7_takesIn_1 12 rfl) rfl rfl (b := 127) rfl) ?_
                          refine r_geti fl_X7_242 rfl hm.l0 hm.s0 (dk_at ktX7_takesIn_1 13 rfl) (v := (τ 4)) (hT 4 (by decide)) (b := 130) rfl ?_
                          refine rc_p (p_iconst (v := 1) (dk_at ktX7_takesIn_1 14 rfl) (by decide) (b := 131) rfl) ?_
                          refine rc_p (p_iload_n 3 (dk_at ktX7_takesIn_1 15 rfl) rfl rfl (b := 132) rfl) ?_
                          refine rc_p (p_ishl (v := (1 <<< (v &&& 31))) (dk_at ktX7_takesIn_1 16 rfl) rfl (b := 133) rfl) ?_
                          refine rc_p (p_ior (v := ((τ 4) ||| (1 <<< (v &&& 31)))) (dk_at ktX7_takesIn_1 17 rfl) rfl (b := 134) rfl) ?_
                          refine rc_p (p_goto (b := 147) (dk_at ktX7_takesIn_1 18 rfl) (by decide)) ?_
                          refine r_puti fl_X7_242 fw_X7_22 rfl hm.l0 hm.s0 rfl rfl (dk_at ktX7_takesIn_1 27 rfl) (b := 150) rfl ?_
                          refine r_vret (dk_at ktX7_takesIn_1 28 rfl) rfl ⟨rfl, ?_⟩
                          refine ⟨rfl, fun j hj => ?_, ?_⟩
                          · have t0 := hT 0 (by decide)
                            have t1 := hT 1 (by decide)
                            have t2 := hT 2 (by decide)
                            have t3 := hT 3 (by decide)
                            have t4 := hT 4 (by decide)
                            match j, hj with
                            | 0, _ => simp_all [takeI, up2, upd]
                            | 1, _ => simp_all [takeI, up2, upd]
                            | 2, _ => simp_all [takeI, up2, upd]
                            | 3, _ => simp_all [takeI, up2, upd]
                            | 4, _ => simp_all [takeI, up2, upd]
                            | j + 5, h => omega
                          · repeat (first | exact FF.rf | refine FF.uf ?_ (by decide))
                      · skip
                        refine rc_p (p_aload_n 1 (dk_at ktX7_takesIn_1 5 rfl) rfl rfl (b := 116) rfl) ?_
                        refine rc_p (p_iconst (v := (-1)) (dk_at ktX7_takesIn_1 6 rfl) (by decide) (b := 117) rfl) ?_
                        refine r_puti fl_X7_240 fw_X7_19 rfl hm.l0 hm.s0 rfl rfl (dk_at ktX7_takesIn_1 7 rfl) (b := 120) rfl ?_
                        refine rc_p (p_aload_n 1 (dk_at ktX7_takesIn_1 8 rfl) rfl rfl (b := 121) rfl) ?_
                        refine rc_p (p_iload_n 2 (dk_at ktX7_takesIn_1 9 rfl) rfl rfl (b := 122) rfl) ?_
                        refine rc_p (p_iconst (v := 5) (dk_at ktX7_takesIn_1 10 rfl) (by decide) (b := 123) rfl) ?_
                        refine r_icmp_ne (dk_at ktX7_takesIn_1 11 rfl) (b := 137) (by decide) (b2 := 126) rfl (fun c123 => ?_) (fun c123 => ?_)
                        · first | exact absurd c123 (by decide) | exact absurd (by decide) c123
                        · skip
                          refine rc_p (p_aload_n 1 (dk_at ktX7_takesIn_1 12 rfl) rfl rfl (b := 127) rfl) ?_
                          refine r_geti fl_X7_242 rfl hm.l0 hm.s0 (dk_at ktX7_takesIn_1 13 rfl) (v := (τ 4)) ((up2_n (by omega)).trans (hT 4 (by decide))) (b := 130) rfl ?_
                          refine rc_p (p_iconst (v := 1) (dk_at ktX7_takesIn_1 14 rfl) (by decide) (b := 131) rfl) ?_
                          refine rc_p (p_iload_n 3 (dk_at ktX7_takesIn_1 15 rfl) rfl rfl (b := 132) rfl) ?_
                          refine rc_p (p_ishl (v := (1 <<< (v &&& 31))) (dk_at ktX7_takesIn_1 16 rfl) rfl (b := 133) rfl) ?_
                          refine rc_p (p_ior (v := ((τ 4) ||| (1 <<< (v &&& 31)))) (dk_at ktX7_takesIn_1 17 rfl) rfl (b := 134) rfl) ?_
                          refine rc_p (p_goto (b := 147) (dk_at ktX7_takesIn_1 18 rfl) (by decide)) ?_
                          refine r_puti fl_X7_242 fw_X7_22 rfl hm.l0 hm.s0 rfl rfl (dk_at ktX7_takesIn_1 27 rfl) (b := 150) rfl ?_
                          refine r_vret (dk_at ktX7_takesIn_1 28 rfl) rfl ⟨rfl, ?_⟩
                          refine ⟨rfl, fun j hj => ?_, ?_⟩
                          · have t0 := hT 0 (by decide)
                            have t1 := hT 1 (by decide)
                            have t2 := hT 2 (by decide)
                            have t3 := hT 3 (by decide)
                            have t4 := hT 4 (by decide)
                            match j, hj with
                            | 0, _ => simp_all [takeI, up2, upd]
                            | 1, _ => simp_all [takeI, up2, upd]
                            | 2, _ => simp_all [takeI, up2, upd]
                            | 3, _ => simp_all [takeI, up2, upd]
                            | 4, _ => simp_all [takeI, up2, upd]
                            | j + 5, h => omega
                          · repeat (first | exact FF.rf | refine FF.uf ?_ (by decide))
                  · first | exact absurd c94 (by decide) | exact absurd (by decide) c94
                · first | exact absurd c84 (by decide) | exact absurd (by decide) c84
            · first | exact absurd c70 (by decide) | exact absurd (by decide) c70
          · first | exact absurd c58 (by decide) | exact absurd (by decide) c58
        · first | exact absurd c34 (by decide) | exact absurd (by decide) c34
      · skip
        refine rc_p (p_iconst (v := 1) (dk_at ktX7_takesIn_0 14 rfl) (by decide) (b := 27) rfl) ?_
        refine rc_p (p_goto (b := 31) (dk_at ktX7_takesIn_0 15 rfl) (by decide)) ?_
        refine rc_p (p_istore_n (ls' := [(3, .int 1), (0, .ref m), (1, .int 5), (2, .int v)]) (dk_at ktX7_takesIn_0 17 rfl) rfl (by decide) rfl (b := 32) rfl) ?_
        refine rc_p (p_iload_n 2 (dk_at ktX7_takesIn_0 18 rfl) rfl rfl (b := 33) rfl) ?_
        refine rc_p (p_iconst (v := 4) (dk_at ktX7_takesIn_0 19 rfl) (by decide) (b := 34) rfl) ?_
        refine r_icmp_ne (dk_at ktX7_takesIn_0 20 rfl) (b := 56) (by decide) (b2 := 37) rfl (fun c34 => ?_) (fun c34 => ?_)
        · skip
          refine rc_p (p_iload_n 2 (dk_at ktX7_takesIn_0 32 rfl) rfl rfl (b := 57) rfl) ?_
          refine rc_p (p_iconst (v := 3) (dk_at ktX7_takesIn_0 33 rfl) (by decide) (b := 58) rfl) ?_
          refine r_icmp_ne (dk_at ktX7_takesIn_0 34 rfl) (b := 69) (by decide) (b2 := 61) rfl (fun c58 => ?_) (fun c58 => ?_)
          · skip
            refine rc_p (p_iload_n 0 (dk_at ktX7_takesIn_0 39 rfl) rfl rfl (b := 70) rfl) ?_
            refine r_if_eq (dk_at ktX7_takesIn_0 40 rfl) (b := 78) (by decide) (b2 := 73) rfl (fun c70 => ?_) (fun c70 => ?_)
            · first | exact absurd c70 (by decide) | exact absurd (by decide) c70
            · skip
              refine rc_p (p_aload_n 1 (dk_at ktX7_takesIn_0 41 rfl) rfl rfl (b := 74) rfl) ?_
              refine rc_p (p_iconst (v := (-1)) (dk_at ktX7_takesIn_0 42 rfl) (by decide) (b := 75) rfl) ?_
              refine r_puti fl_X7_235 fw_X7_20 rfl hm.l0 hm.s0 rfl rfl (dk_at ktX7_takesIn_0 43 rfl) (b := 78) rfl ?_
              refine rc_p (p_iload_n 2 (dk_at ktX7_takesIn_0 44 rfl) rfl rfl (b := 79) rfl) ?_
              refine rc_p (p_iconst (v := 3) (dk_at ktX7_takesIn_0 45 rfl) (by decide) (b := 80) rfl) ?_
              refine r_icmp_eq (dk_at ktX7_takesIn_0 46 rfl) (b := 87) (by decide) (b2 := 83) rfl (fun c80 => ?_) (fun c80 => ?_)
              · first | exact absurd c80 (by decide) | exact absurd (by decide) c80
              · skip
                refine rc_p (p_iload_n 0 (dk_at ktX7_takesIn_0 47 rfl) rfl rfl (b := 84) rfl) ?_
                refine r_if_eq (dk_at ktX7_takesIn_0 48 rfl) (b := 92) (by decide) (b2 := 87) rfl (fun c84 => ?_) (fun c84 => ?_)
                · first | exact absurd c84 (by decide) | exact absurd (by decide) c84
                · skip
                  refine rc_p (p_aload_n 1 (dk_at ktX7_takesIn_0 49 rfl) rfl rfl (b := 88) rfl) ?_
                  refine rc_p (p_iconst (v := 0) (dk_at ktX7_takesIn_0 50 rfl) (by decide) (b := 89) rfl) ?_
                  refine r_puti fl_X7_238 fw_X7_21 rfl hm.l0 hm.s0 rfl rfl (dk_at ktX7_takesIn_0 51 rfl) (b := 92) rfl ?_
                  refine rc_p (p_iload_n 2 (dk_at ktX7_takesIn_0 52 rfl) rfl rfl (b := 93) rfl) ?_
                  refine rc_p (p_iconst (v := 2) (dk_at ktX7_takesIn_0 53 rfl) (by decide) (b := 94) rfl) ?_
                  refine r_icmp_ne (dk_at ktX7_takesIn_0 54 rfl) (b := 102) (by decide) (b2 := 97) rfl (fun c94 => ?_) (fun c94 => ?_)
                  · skip
                    refine rc_p (p_iload_n 2 (dk_at ktX7_takesIn_0 58 rfl) rfl rfl (b := 103) rfl) ?_
                    refine rc_p (p_iconst (v := 5) (dk_at ktX7_takesIn_0 59 rfl) (by decide) (b := 104) rfl) ?_
                    refine r_icmp_ne (dk_at ktX7_takesIn_1 0 rfl) (b := 120) (by decide) (b2 := 107) rfl (fun c104 => ?_) (fun c104 => ?_)
                    · first | exact absurd c104 (by decide) | exact absurd (by decide) c104
                    · skip
                      refine rc_p (p_aload_n 1 (dk_at ktX7_takesIn_1 1 rfl) rfl rfl (b := 108) rfl) ?_
                      refine r_geti fl_X7_240 rfl hm.l0 hm.s0 (dk_at ktX7_takesIn_1 2 rfl) (v := (τ 1)) ((up2_n (by omega)).trans ((up2_n (by omega)).trans (hT 1 (by decide)))) (b := 111) rfl ?_
                      refine rc_p (p_iload_n 3 (dk_at ktX7_takesIn_1 3 rfl) rfl rfl (b := 112) rfl) ?_
                      refine r_icmp_ne (dk_at ktX7_takesIn_1 4 rfl) (b := 120) (by decide) (b2 := 115) rfl (fun c112 => ?_) (fun c112 => ?_)
                      · skip
                        refine rc_p (p_aload_n 1 (dk_at ktX7_takesIn_1 8 rfl) rfl rfl (b := 121) rfl) ?_
                        refine rc_p (p_iload_n 2 (dk_at ktX7_takesIn_1 9 rfl) rfl rfl (b := 122) rfl) ?_
                        refine rc_p (p_iconst (v := 5) (dk_at ktX7_takesIn_1 10 rfl) (by decide) (b := 123) rfl) ?_
                        refine r_icmp_ne (dk_at ktX7_takesIn_1 11 rfl) (b := 137) (by decide) (b2 := 126) rfl (fun c123 => ?_) (fun c123 => ?_)
                        · first | exact absurd c123 (by decide) | exact absurd (by decide) c123
                        · skip
                          refine rc_p (p_aload_n 1 (dk_at ktX7_takesIn_1 12 rfl) rfl rfl (b := 127) rfl) ?_
                          refine r_geti fl_X7_242 rfl hm.l0 hm.s0 (dk_at ktX7_takesIn_1 13 rfl) (v := (τ 4)) ((up2_n (by omega)).trans ((up2_n (by omega)).trans (hT 4 (by decide)))) (b := 130) rfl ?_
                          refine rc_p (p_iconst (v := 1) (dk_at ktX7_takesIn_1 14 rfl) (by decide) (b := 131) rfl) ?_
                          refine rc_p (p_iload_n 3 (dk_at ktX7_takesIn_1 15 rfl) rfl rfl (b := 132) rfl) ?_
                          refine rc_p (p_ishl (v := (1 <<< (v &&& 31))) (dk_at ktX7_takesIn_1 16 rfl) rfl (b := 133) rfl) ?_
                          refine rc_p (p_ior (v := ((τ 4) ||| (1 <<< (v &&& 31)))) (dk_at ktX7_takesIn_1 17 rfl) rfl (b := 134) rfl) ?_
                          refine rc_p (p_goto (b := 147) (dk_at ktX7_takesIn_1 18 rfl) (by decide)) ?_
                          refine r_puti fl_X7_242 fw_X7_22 rfl hm.l0 hm.s0 rfl rfl (dk_at ktX7_takesIn_1 27 rfl) (b := 150) rfl ?_
                          refine r_vret (dk_at ktX7_takesIn_1 28 rfl) rfl ⟨rfl, ?_⟩
                          refine ⟨rfl, fun j hj => ?_, ?_⟩
                          · have t0 := hT 0 (by decide)
                            have t1 := hT 1 (by decide)
                            have t2 := hT 2 (by decide)
                            have t3 := hT 3 (by decide)
                            have t4 := hT 4 (by decide)
                            match j, hj with
                            | 0, _ => simp_all [takeI, up2, upd]
                            | 1, _ => simp_all [takeI, up2, upd]
                            | 2, _ => simp_all [takeI, up2, upd]
                            | 3, _ => simp_all [takeI, up2, upd]
                            | 4, _ => simp_all [takeI, up2, upd]
                            | j + 5, h => omega
                          · repeat (first | exact FF.rf | refine FF.uf ?_ (by decide))
                      · skip
                        refine rc_p (p_aload_n 1 (dk_at ktX7_takesIn_1 5 rfl) rfl rfl (b := 116) rfl) ?_
                        refine rc_p (p_iconst (v := (-1)) (dk_at ktX7_takesIn_1 6 rfl) (by decide) (b := 117) rfl) ?_
                        refine r_puti fl_X7_240 fw_X7_19 rfl hm.l0 hm.s0 rfl rfl (dk_at ktX7_takesIn_1 7 rfl) (b := 120) rfl ?_
                        refine rc_p (p_aload_n 1 (dk_at ktX7_takesIn_1 8 rfl) rfl rfl (b := 121) rfl) ?_
                        refine rc_p (p_iload_n 2 (dk_at ktX7_takesIn_1 9 rfl) rfl rfl (b := 122) rfl) ?_
                        refine rc_p (p_iconst (v := 5) (dk_at ktX7_takesIn_1 10 rfl) (by decide) (b := 123) rfl) ?_
                        refine r_icmp_ne (dk_at ktX7_takesIn_1 11 rfl) (b := 137) (by decide) (b2 := 126) rfl (fun c123 => ?_) (fun c123 => ?_)
                        · first | exact absurd c123 (by decide) | exact absurd (by decide) c123
                        · skip
                          refine rc_p (p_aload_n 1 (dk_at ktX7_takesIn_1 12 rfl) rfl rfl (b := 127) rfl) ?_
                          refine r_geti fl_X7_242 rfl hm.l0 hm.s0 (dk_at ktX7_takesIn_1 13 rfl) (v := (τ 4)) ((up2_n (by omega)).trans ((up2_n (by omega)).trans ((up2_n (by omega)).trans (hT 4 (by decide))))) (b := 130) rfl ?_
                          refine rc_p (p_iconst (v := 1) (dk_at ktX7_takesIn_1 14 rfl) (by decide) (b := 131) rfl) ?_
                          refine rc_p (p_iload_n 3 (dk_at ktX7_takesIn_1 15 rfl) rfl rfl (b := 132) rfl) ?_
                          refine rc_p (p_ishl (v := (1 <<< (v &&& 31))) (dk_at ktX7_takesIn_1 16 rfl) rfl (b := 133) rfl) ?_
                          refine rc_p (p_ior (v := ((τ 4) ||| (1 <<< (v &&& 31)))) (dk_at ktX7_takesIn_1 17 rfl) rfl (b := 134) rfl) ?_
                          refine rc_p (p_goto (b := 147) (dk_at ktX7_takesIn_1 18 rfl) (by decide)) ?_
                          refine r_puti fl_X7_242 fw_X7_22 rfl hm.l0 hm.s0 rfl rfl (dk_at ktX7_takesIn_1 27 rfl) (b := 150) rfl ?_
                          refine r_vret (dk_at ktX7_takesIn_1 28 rfl) rfl ⟨rfl, ?_⟩
                          refine ⟨rfl, fun j hj => ?_, ?_⟩
                          · have t0 := hT 0 (by decide)
                            have t1 := hT 1 (by decide)
                            have t2 := hT 2 (by decide)
                            have t3 := hT 3 (by decide)
                            have t4 := hT 4 (by decide)
                            match j, hj with
                            | 0, _ => simp_all [takeI, up2, upd]
                            | 1, _ => simp_all [takeI, up2, upd]
                            | 2, _ => simp_all [takeI, up2, upd]
                            | 3, _ => simp_all [takeI, up2, upd]
                            | 4, _ => simp_all [takeI, up2, upd]
                            | j + 5, h => omega
                          · repeat (first | exact FF.rf | refine FF.uf ?_ (by decide))
                  · first | exact absurd c94 (by decide) | exact absurd (by decide) c94
          · first | exact absurd c58 (by decide) | exact absurd (by decide) c58
        · first | exact absurd c34 (by decide) | exact absurd (by decide) c34
    · first | exact absurd c2 (by decide) | exact absurd (by decide) c2
set_option maxRecDepth 4000 in
set_option maxHeartbeats 4000000 in
theorem s_X7_tells {n : Nat} {sh : mS} {G : mG} {I : mI} {J : mJ} {m : Nat} {σ : sT} (hm : ModG n sh G m) (hR : RelW (I (m + 1)) σ) (hI : Inv σ)  : Sp yX7_tells cX7_tells 3 none 5 240 0 0 [.ref m] n sh G I J (Qv (fun I_ J_ => J = J_ ∧ RelW (I_ (m + 1)) σ ∧ (∀ j, j < 5 → I_ m (18 + j) = told σ j) ∧ FF m [] [18, 19, 20, 21, 22] I I_)) nX := by
  refine Sp.of (by decide) (ls := [(0, .ref m)]) (fun _ => rfl) (fun _ => Nat.le_of_ble_eq_true rfl) ?_
  have cut38 : ∀ (p : Nat), p < 2 → activeI σ = nI p → ∀ (t k : Nat) (Iz : mI), 32 - k < t → 1 ≤ k → k ≤ nJ σ → (∀ j, j < 5 → Iz m (18 + j) = tellK σ p k j) → FF m [] [18, 19, 20, 21, 22] I Iz → RelW (Iz (m + 1)) σ → Rc RX7 cX7_tells 3 none 5 240 0 0 n sh G (Qv (fun I_ J_ => J = J_ ∧ RelW (I_ (m + 1)) σ ∧ (∀ j, j < 5 → I_ m (18 + j) = told σ j) ∧ FF m [] [18, 19, 20, 21, 22] I I_)) nX 0 0 38 [(2, .int (nI k)), (1, .int (nI p)), (0, .ref m)] [] Iz J := by
    have hb := hI.bd
    intro p hp ea t
    induction t
    · intro k Iz h; omega
    rename_i t ih
    intro k Iz ht hk0 h1 hTz hFz hRz
    refine rc_p (p_iload_n 0 (dk_at ktX7_tells_0 24 rfl) rfl rfl (b := 39) rfl) ?_
    refine rc_p (p_aload_n 2 (dk_at ktX7_tells_0 25 rfl) rfl rfl (b := 40) rfl) ?_
    refine r_geta fl_X7_9 rfl hm.l0 hm.s0 (dk_at ktX7_tells_0 26 rfl) hm.g0_0 (b := 43) rfl ?_
    refine rc_p (p_iconst (v := 2) (dk_at ktX7_tells_0 27 rfl) (by decide) (b := 44) rfl) ?_
    refine r_iald (j := 2) (hm.lt 1 (by decide)) hm.s1 (dk_at ktX7_tells_0 28 rfl) rfl ⟨by decide, by decide⟩ (v := (nI (nJ σ))) ((hRz.1 2 (by decide)).trans hI.w2) (b := 45) rfl ?_
    refine r_icmp_ge (dk_at ktX7_tells_0 29 rfl) (b := 95) (by decide) (b2 := 48) rfl (fun c45 => ?_) (fun c45 => ?_)
    · have c45 : (nJ σ) ≤ k := (nI_leI (a := nJ σ) (b := k) (by omega) (by omega)).mp c45
      refine r_vret (dk_at ktX7_tells_0 55 rfl) rfl ⟨rfl, ?_⟩
      have hkJ : k = nJ σ := by omega
      subst hkJ
      refine ⟨rfl, hRz, fun j hj => ?_, hFz⟩
      rw [told, if_neg (by rw [ea]; exact nI_nm1 (by omega)), ea, tn_nI (by omega)]
      exact hTz j hj
    · have c45 : ¬ (nJ σ) ≤ k := fun h => c45 ((nI_leI (a := nJ σ) (b := k) (by omega) (by omega)).mpr h)
      refine rc_p (p_aload_n 2 (dk_at ktX7_tells_0 30 rfl) rfl rfl (b := 49) rfl) ?_
      refine rc_p (p_iload_n 1 (dk_at ktX7_tells_0 31 rfl) rfl rfl (b := 50) rfl) ?_
      refine rc_p (p_iload_n 0 (dk_at ktX7_tells_0 32 rfl) rfl rfl (b := 51) rfl) ?_
      refine r_iV (As' := [.int (nI p), .int (nI k)]) (rest := []) (s_X7_isRecord hm (σ := σ) hRz hI p k (by omega) (by omega)) cw_X7_248 qi_X7_isRecord qv_X7_isRecord rfl hm.l0 hm.s0 (dk_at ktX7_tells_0 33 rfl) rfl rfl (Nat.le_of_ble_eq_true rfl) (by decide) (b := 54) rfl (fun v4 I1 J2 q3 => ?_)
      obtain ⟨rfl, rfl, rfl⟩ := q3
      refine r_if_eq (dk_at ktX7_tells_0 34 rfl) (b := 89) (by decide) (b2 := 57) rfl (fun c54 => ?_) (fun c54 => ?_)
      · have c54 := bi_f c54
        refine rc_p (p_iinc (j := 0) (v := (nI (k + 1))) (ls' := [(2, .int (nI (k + 1))), (1, .int (nI p)), (0, .ref m)]) (dk_at ktX7_tells_0 53 rfl) rfl (nI_add k 1) (by decide) rfl (b := 92) rfl) ?_
        refine rc_p (p_goto (b := 38) (dk_at ktX7_tells_0 54 rfl) (by decide)) ?_
        exact ih (k + 1) _ (by omega) (by omega) (by omega) (fun j hj => by rw [tellK, if_neg (by rw [c54]; decide)]; exact hTz j hj) hFz hRz
      · have c54 := bi_t c54
        refine rc_p (p_aload_n 2 (dk_at ktX7_tells_0 35 rfl) rfl rfl (b := 58) rfl) ?_
        refine rc_p (p_aload_n 2 (dk_at ktX7_tells_0 36 rfl) rfl rfl (b := 59) rfl) ?_
        refine r_geta fl_X7_9 rfl hm.l0 hm.s0 (dk_at ktX7_tells_0 37 rfl) hm.g0_0 (b := 62) rfl ?_
        refine rc_p (p_iload_n 1 (dk_at ktX7_tells_0 38 rfl) rfl rfl (b := 63) rfl) ?_
        refine r_iS (As := [.int (nI p)]) (rest := [.ref (m + 1), .ref m]) (s_X7_pageAt p) cw_X7_216 qs_X7_pageAt (dk_at ktX7_tells_0 39 rfl) rfl rfl (Nat.le_of_ble_eq_true rfl) (by decide) (b := 66) rfl (fun v8 I5 J6 q7 => ?_)
        obtain ⟨rfl, rfl, rfl⟩ := q7
        refine rc_p (p_iload_n 0 (dk_at ktX7_tells_0 40 rfl) rfl rfl (b := 67) rfl) ?_
        refine rc_p (p_iadd (v := (nI (211 + 32 * p + k))) (dk_at ktX7_tells_0 41 rfl) (nI_add (211 + 32 * p) k) (b := 68) rfl) ?_
        refine r_iald (j := 211 + 32 * p + k) (hm.lt 1 (by decide)) hm.s1 (dk_at ktX7_tells_0 42 rfl) rfl ⟨by omega, by decide⟩ (v := (σ (211 + 32 * p + k))) (hRz.1 (211 + 32 * p + k) (by omega)) (b := 69) rfl ?_
        refine r_iS (As := [.int (σ (211 + 32 * p + k))]) (rest := [.ref m]) (s_X7_kindOf (σ (211 + 32 * p + k))) cw_X7_206 qs_X7_kindOf (dk_at ktX7_tells_0 43 rfl) rfl rfl (Nat.le_of_ble_eq_true rfl) (by decide) (b := 72) rfl (fun v12 I9 J10 q11 => ?_)
        obtain ⟨rfl, rfl, rfl⟩ := q11
        refine rc_p (p_aload_n 2 (dk_at ktX7_tells_0 44 rfl) rfl rfl (b := 73) rfl) ?_
        refine r_geta fl_X7_9 rfl hm.l0 hm.s0 (dk_at ktX7_tells_0 45 rfl) hm.g0_0 (b := 76) rfl ?_
        refine rc_p (p_iload_n 1 (dk_at ktX7_tells_0 46 rfl) rfl rfl (b := 77) rfl) ?_
        refine r_iS (As := [.int (nI p)]) (rest := [.ref (m + 1), .int (kindI (σ (211 + 32 * p + k))), .ref m]) (s_X7_pageAt p) cw_X7_216 qs_X7_pageAt (dk_at ktX7_tells_0 47 rfl) rfl rfl (Nat.le_of_ble_eq_true rfl) (by decide) (b := 80) rfl (fun v16 I13 J14 q15 => ?_)
        obtain ⟨rfl, rfl, rfl⟩ := q15
        refine rc_p (p_iload_n 0 (dk_at ktX7_tells_0 48 rfl) rfl rfl (b := 81) rfl) ?_
        refine rc_p (p_iadd (v := (nI (211 + 32 * p + k))) (dk_at ktX7_tells_0 49 rfl) (nI_add (211 + 32 * p) k) (b := 82) rfl) ?_
        refine r_iald (j := 211 + 32 * p + k) (hm.lt 1 (by decide)) hm.s1 (dk_at ktX7_tells_0 50 rfl) rfl ⟨by omega, by decide⟩ (v := (σ (211 + 32 * p + k))) (hRz.1 (211 + 32 * p + k) (by omega)) (b := 83) rfl ?_
        refine r_iS (As := [.int (σ (211 + 32 * p + k))]) (rest := [.int (kindI (σ (211 + 32 * p + k))), .ref m]) (s_X7_valueOf (σ (211 + 32 * p + k))) cw_X7_209 qs_X7_valueOf (dk_at ktX7_tells_0 51 rfl) rfl rfl (Nat.le_of_ble_eq_true rfl) (by decide) (b := 86) rfl (fun v20 I17 J18 q19 => ?_)
        obtain ⟨rfl, rfl, rfl⟩ := q19
        refine r_vV (As' := [.int (kindI (σ (211 + 32 * p + k))), .int (valI (σ (211 + 32 * p + k)))]) (rest := []) (s_X7_takesIn hm (τ := tellK σ p k) hTz (kindI (σ (211 + 32 * p + k))) (valI (σ (211 + 32 * p + k))) (recB_k c54)) cw_X7_251 qi_X7_takesIn qv_X7_takesIn rfl hm.l0 hm.s0 (dk_at ktX7_tells_0 52 rfl) rfl rfl (Nat.le_of_ble_eq_true rfl) (by decide) (b := 89) rfl (fun I21 J22 q23 => ?_)
        obtain ⟨rfl, hT25, hF26⟩ := q23
        have hR27 : RelW (I21 (m + 1)) σ := by rw [hF26.1 _ (by omega) (by simp)]; exact hRz
        refine rc_p (p_iinc (j := 0) (v := (nI (k + 1))) (ls' := [(2, .int (nI (k + 1))), (1, .int (nI p)), (0, .ref m)]) (dk_at ktX7_tells_0 53 rfl) rfl (nI_add k 1) (by decide) rfl (b := 92) rfl) ?_
        refine rc_p (p_goto (b := 38) (dk_at ktX7_tells_0 54 rfl) (by decide)) ?_
        exact ih (k + 1) _ (by omega) (by omega) (by omega) (fun j hj => by rw [tellK, if_pos c54]; exact hT25 j hj) (hFz.tr hF26) hR27
  have hb := hI.bd
  refine rc_p (p_aload_n 0 (dk_at ktX7_tells_0 0 rfl) rfl rfl (b := 1) rfl) ?_
  refine rc_p (p_iconst (v := 0) (dk_at ktX7_tells_0 1 rfl) (by decide) (b := 2) rfl) ?_
  refine r_puti fl_X7_230 fw_X7_18 rfl hm.l0 hm.s0 rfl rfl (dk_at ktX7_tells_0 2 rfl) (b := 5) rfl ?_
  refine rc_p (p_aload_n 0 (dk_at ktX7_tells_0 3 rfl) rfl rfl (b := 6) rfl) ?_
  refine rc_p (p_iconst (v := (-1)) (dk_at ktX7_tells_0 4 rfl) (by decide) (b := 7) rfl) ?_
  refine r_puti fl_X7_240 fw_X7_19 rfl hm.l0 hm.s0 rfl rfl (dk_at ktX7_tells_0 5 rfl) (b := 10) rfl ?_
  refine rc_p (p_aload_n 0 (dk_at ktX7_tells_0 6 rfl) rfl rfl (b := 11) rfl) ?_
  refine rc_p (p_iconst (v := (-1)) (dk_at ktX7_tells_0 7 rfl) (by decide) (b := 12) rfl) ?_
  refine r_puti fl_X7_235 fw_X7_20 rfl hm.l0 hm.s0 rfl rfl (dk_at ktX7_tells_0 8 rfl) (b := 15) rfl ?_
  refine rc_p (p_aload_n 0 (dk_at ktX7_tells_0 9 rfl) rfl rfl (b := 16) rfl) ?_
  refine rc_p (p_iconst (v := 0) (dk_at ktX7_tells_0 10 rfl) (by decide) (b := 17) rfl) ?_
  refine r_puti fl_X7_238 fw_X7_21 rfl hm.l0 hm.s0 rfl rfl (dk_at ktX7_tells_0 11 rfl) (b := 20) rfl ?_
  refine rc_p (p_aload_n 0 (dk_at ktX7_tells_0 12 rfl) rfl rfl (b := 21) rfl) ?_
  refine rc_p (p_iconst (v := 0) (dk_at ktX7_tells_0 13 rfl) (by decide) (b := 22) rfl) ?_
  refine r_puti fl_X7_242 fw_X7_22 rfl hm.l0 hm.s0 rfl rfl (dk_at ktX7_tells_0 14 rfl) (b := 25) rfl ?_
  refine rc_p (p_aload_n 0 (dk_at ktX7_tells_0 15 rfl) rfl rfl (b := 26) rfl) ?_
  refine r_iV (As' := []) (rest := []) (s_X7_active hm (σ := σ) (by rw [up2_off (by omega)]; exact (by rw [up2_off (by omega)]; exact (by rw [up2_off (by omega)]; exact (by rw [up2_off (by omega)]; exact (by rw [up2_off (by omega)]; exact hR))))) hI) cw_X7_245 qi_X7_active qv_X7_active rfl hm.l0 hm.s0 (dk_at ktX7_tells_0 16 rfl) rfl rfl (Nat.le_of_ble_eq_true rfl) (by decide) (b := 29) rfl (fun v31 I28 J29 q30 => ?_)
  obtain ⟨ea32, rfl, rfl⟩ := q30
  refine rc_p (p_istore_n (ls' := [(1, .int v31), (0, .ref m)]) (dk_at ktX7_tells_0 17 rfl) rfl (by decide) rfl (b := 30) rfl) ?_
  refine rc_p (p_iload_n 0 (dk_at ktX7_tells_0 18 rfl) rfl rfl (b := 31) rfl) ?_
  refine rc_p (p_iconst (v := (-1)) (dk_at ktX7_tells_0 19 rfl) (by decide) (b := 32) rfl) ?_
  refine r_icmp_ne (dk_at ktX7_tells_0 20 rfl) (b := 36) (by decide) (b2 := 35) rfl (fun c32 => ?_) (fun c32 => ?_)
  · skip
    obtain ⟨p, hp, rfl⟩ := act_n ea32 c32
    refine rc_p (p_iconst (v := 1) (dk_at ktX7_tells_0 22 rfl) (by decide) (b := 37) rfl) ?_
    refine rc_p (p_istore_n (ls' := [(2, .int 1), (1, .int (nI p)), (0, .ref m)]) (dk_at ktX7_tells_0 23 rfl) rfl (by decide) rfl (b := 38) rfl) ?_
    refine cut38 p hp ea32 1000 1 _ (by omega) (by decide) (by omega) ?_ ?_ ?_
    · intro j hj
      match j, hj with
      | 0, _ => simp [up2, tellK, recB, tau0]
      | 1, _ => simp [up2, tellK, recB, tau0]
      | 2, _ => simp [up2, tellK, recB, tau0]
      | 3, _ => simp [up2, tellK, recB, tau0]
      | 4, _ => simp [up2, tellK, recB, tau0]
      | j + 5, h => omega
    · repeat (first | exact FF.rf | refine FF.uf ?_ (by decide))
    · exact (by rw [up2_off (by omega)]; exact (by rw [up2_off (by omega)]; exact (by rw [up2_off (by omega)]; exact (by rw [up2_off (by omega)]; exact (by rw [up2_off (by omega)]; exact hR)))))
  · skip
    refine r_vret (dk_at ktX7_tells_0 21 rfl) rfl ⟨rfl, ?_⟩
    refine ⟨rfl, (by rw [up2_off (by omega)]; exact (by rw [up2_off (by omega)]; exact (by rw [up2_off (by omega)]; exact (by rw [up2_off (by omega)]; exact (by rw [up2_off (by omega)]; exact hR))))), fun j hj => ?_, ?_⟩
    · rw [told, if_pos (ea32.trans c32)]
      match j, hj with
      | 0, _ => simp [up2, tau0]
      | 1, _ => simp [up2, tau0]
      | 2, _ => simp [up2, tau0]
      | 3, _ => simp [up2, tau0]
      | 4, _ => simp [up2, tau0]
      | j + 5, h => omega
    · repeat (first | exact FF.rf | refine FF.uf ?_ (by decide))
set_option maxRecDepth 4000 in
set_option maxHeartbeats 4000000 in
theorem s_X7_canBoot {n : Nat} {sh : mS} {G : mG} {I : mI} {J : mJ} {m : Nat} {σ : sT} (hm : ModG n sh G m) (hR : RelW (I (m + 1)) σ) (hI : Inv σ) (s : Nat) (hs : s < 2) : Sp yX7_canBoot cX7_canBoot 2 (some FieldType.boolean) 6 288 0 0 [.ref m, .int (nI s)] n sh G I J (Qi (fun r_ I_ J_ => bi (canB σ s) = r_ ∧ J = J_ ∧ RelW (I_ (m + 1)) σ ∧ (∀ j, j < 5 → I_ m (18 + j) = told σ j) ∧ FF m [] [18, 19, 20, 21, 22] I I_)) nX := by
  refine Sp.of (by decide) (ls := [(0, .ref m), (1, .int (nI s))]) (fun _ => rfl) (fun _ => Nat.le_of_ble_eq_true rfl) ?_
  refine rc_p (p_aload_n 0 (dk_at ktX7_canBoot_0 0 rfl) rfl rfl (b := 1) rfl) ?_
  refine r_vV (As' := []) (rest := []) (s_X7_tells hm (σ := σ) hR hI) cw_X7_255 qi_X7_tells qv_X7_tells rfl hm.l0 hm.s0 (dk_at ktX7_canBoot_0 1 rfl) rfl rfl (Nat.le_of_ble_eq_true rfl) (by decide) (b := 4) rfl (fun I1 J2 q3 => ?_)
  obtain ⟨rfl, hR7, hT5, hF6⟩ := q3
  refine rc_p (p_aload_n 0 (dk_at ktX7_canBoot_0 2 rfl) rfl rfl (b := 5) rfl) ?_
  refine rc_p (p_iload_n 1 (dk_at ktX7_canBoot_0 3 rfl) rfl rfl (b := 6) rfl) ?_
  refine r_iV (As' := [.int (nI s)]) (rest := []) (s_X7_wholeAt hm (σ := σ) hR7 hI s (by omega)) cw_X7_185 qi_X7_wholeAt qv_X7_wholeAt rfl hm.l0 hm.s0 (dk_at ktX7_canBoot_0 4 rfl) rfl rfl (Nat.le_of_ble_eq_true rfl) (by decide) (b := 9) rfl (fun v11 I8 J9 q10 => ?_)
  obtain ⟨rfl, rfl, rfl⟩ := q10
  refine r_if_eq (dk_at ktX7_canBoot_0 5 rfl) (b := 43) (by decide) (b2 := 12) rfl (fun c9 => ?_) (fun c9 => ?_)
  · have c9 := bi_f c9
    refine rc_p (p_iconst (v := 0) (dk_at ktX7_canBoot_0 23 rfl) (by decide) (b := 44) rfl) ?_
    refine r_iret (dk_at ktX7_canBoot_0 24 rfl) rfl rfl ⟨_, rfl, ?_⟩
    refine ⟨?_, rfl, hR7, hT5, hF6⟩
    simp_all [canB, bi, ← Int32.not_le]
  · have c9 := bi_t c9
    refine rc_p (p_aload_n 0 (dk_at ktX7_canBoot_0 6 rfl) rfl rfl (b := 13) rfl) ?_
    refine r_geta fl_X7_9 rfl hm.l0 hm.s0 (dk_at ktX7_canBoot_0 7 rfl) hm.g0_0 (b := 16) rfl ?_
    refine rc_p (p_iload_n 1 (dk_at ktX7_canBoot_0 8 rfl) rfl rfl (b := 17) rfl) ?_
    refine r_iS (As := [.int (nI s)]) (rest := [.ref (m + 1)]) (s_X7_slotAt s) cw_X7_197 qs_X7_slotAt (dk_at ktX7_canBoot_0 9 rfl) rfl rfl (Nat.le_of_ble_eq_true rfl) (by decide) (b := 20) rfl (fun v15 I12 J13 q14 => ?_)
    obtain ⟨rfl, rfl, rfl⟩ := q14
    refine r_iald (j := 83 + 64 * s) (hm.lt 1 (by decide)) hm.s1 (dk_at ktX7_canBoot_0 10 rfl) rfl ⟨by omega, by decide⟩ (v := (σ (83 + 64 * s))) (hR7.1 (83 + 64 * s) (by omega)) (b := 21) rfl ?_
    refine rc_p (p_aload_n 0 (dk_at ktX7_canBoot_0 11 rfl) rfl rfl (b := 22) rfl) ?_
    refine r_geti fl_X7_230 rfl hm.l0 hm.s0 (dk_at ktX7_canBoot_0 12 rfl) (v := ((told σ) 0)) (hT5 0 (by decide)) (b := 25) rfl ?_
    refine r_icmp_lt (dk_at ktX7_canBoot_0 13 rfl) (b := 43) (by decide) (b2 := 28) rfl (fun c25 => ?_) (fun c25 => ?_)
    · skip
      refine rc_p (p_iconst (v := 0) (dk_at ktX7_canBoot_0 23 rfl) (by decide) (b := 44) rfl) ?_
      refine r_iret (dk_at ktX7_canBoot_0 24 rfl) rfl rfl ⟨_, rfl, ?_⟩
      refine ⟨?_, rfl, hR7, hT5, hF6⟩
      simp_all [canB, bi, ← Int32.not_le]
    · skip
      refine rc_p (p_aload_n 0 (dk_at ktX7_canBoot_0 14 rfl) rfl rfl (b := 29) rfl) ?_
      refine r_geti fl_X7_242 rfl hm.l0 hm.s0 (dk_at ktX7_canBoot_0 15 rfl) (v := ((told σ) 4)) (hT5 4 (by decide)) (b := 32) rfl ?_
      refine rc_p (p_iload_n 1 (dk_at ktX7_canBoot_0 16 rfl) rfl rfl (b := 33) rfl) ?_
      refine rc_p (p_ishr (v := (((told σ) 4) >>> ((nI s) &&& 31))) (dk_at ktX7_canBoot_0 17 rfl) rfl (b := 34) rfl) ?_
      refine rc_p (p_iconst (v := 1) (dk_at ktX7_canBoot_0 18 rfl) (by decide) (b := 35) rfl) ?_
      refine rc_p (p_iand (v := ((((told σ) 4) >>> ((nI s) &&& 31)) &&& 1)) (dk_at ktX7_canBoot_0 19 rfl) rfl (b := 36) rfl) ?_
      refine r_if_ne (dk_at ktX7_canBoot_0 20 rfl) (b := 43) (by decide) (b2 := 39) rfl (fun c36 => ?_) (fun c36 => ?_)
      · skip
        refine rc_p (p_iconst (v := 0) (dk_at ktX7_canBoot_0 23 rfl) (by decide) (b := 44) rfl) ?_
        refine r_iret (dk_at ktX7_canBoot_0 24 rfl) rfl rfl ⟨_, rfl, ?_⟩
        refine ⟨?_, rfl, hR7, hT5, hF6⟩
        simp_all [canB, bi, ← Int32.not_le]
      · skip
        refine rc_p (p_iconst (v := 1) (dk_at ktX7_canBoot_0 21 rfl) (by decide) (b := 40) rfl) ?_
        refine rc_p (p_goto (b := 44) (dk_at ktX7_canBoot_0 22 rfl) (by decide)) ?_
        refine r_iret (dk_at ktX7_canBoot_0 24 rfl) rfl rfl ⟨_, rfl, ?_⟩
        refine ⟨?_, rfl, hR7, hT5, hF6⟩
        simp_all [canB, bi, ← Int32.not_le]
set_option maxRecDepth 4000 in
set_option maxHeartbeats 4000000 in
theorem s_X7_formats {n : Nat} {sh : mS} {G : mG} {I : mI} {J : mJ} {m : Nat} {σ : sT} (hm : ModG n sh G m) (hR : RelW (I (m + 1)) σ) (hI : Inv σ) (hC : I m 23 = 0)  : Sp yX7_formats cX7_formats 1 (some FieldType.boolean) 5 240 0 0 [.ref m] n sh G I J (Qi (fun r_ I_ J_ => bi ((fFormat σ).1) = r_ ∧ J = J_ ∧ RelW (I_ (m + 1)) (sStop ((fFormat σ).1) ((fFormat σ).2)) ∧ FF m [1] [23] I I_ ∧ I_ m 23 = ic ((fFormat σ).1))) nX := by
  refine Sp.of (by decide) (ls := [(0, .ref m)]) (fun _ => rfl) (fun _ => Nat.le_of_ble_eq_true rfl) ?_
  refine rc_p (p_aload_n 0 (dk_at ktX7_formats_0 0 rfl) rfl rfl (b := 1) rfl) ?_
  refine rc_p (p_iconst (v := 0) (dk_at ktX7_formats_0 1 rfl) (by decide) (b := 2) rfl) ?_
  refine r_iV (As' := [.int 0]) (rest := []) (s_X7_erasesJournal hm (σ := σ) hR hI hC 0 (by omega)) cw_X7_277 qi_X7_erasesJournal qv_X7_erasesJournal rfl hm.l0 hm.s0 (dk_at ktX7_formats_0 2 rfl) rfl rfl (Nat.le_of_ble_eq_true rfl) (by decide) (b := 5) rfl (fun v4 I1 J2 q3 => ?_)
  obtain ⟨rfl, rfl, hR5, hF6, hC7⟩ := q3
  refine r_if_eq (dk_at ktX7_formats_0 3 rfl) (b := 25) (by decide) (b2 := 8) rfl (fun c5 => ?_) (fun c5 => ?_)
  · have c5 := bi_f c5
    have hR8 : RelW (I1 (m + 1)) (sCut (sErJ σ 0)) := by rw [c5] at hR5; exact hR5
    have hC9 : I1 m 23 = 1 := by rw [c5] at hC7; exact hC7
    refine rc_p (p_iconst (v := 0) (dk_at ktX7_formats_0 12 rfl) (by decide) (b := 26) rfl) ?_
    refine r_iret (dk_at ktX7_formats_0 13 rfl) rfl rfl ⟨_, rfl, ?_⟩
    refine ⟨?_, rfl, ?_, hF6, by rw [hC9]; simp [fFormat, sq, fErJ, c5, ic]⟩
    · simp [fFormat, sq, fErJ, fWr, fNote, c5, bi]
    · simp only [fFormat, sq, fErJ, fWr, fNote, c5, if_true, Bool.false_eq_true, if_false, sStop]; exact hR8
  · have c5 := bi_t c5
    have hR10 : RelW (I1 (m + 1)) (sErJ σ 0) := by rw [c5] at hR5; exact hR5
    have hC11 : I1 m 23 = 0 := by rw [c5] at hC7; exact hC7
    refine rc_p (p_aload_n 0 (dk_at ktX7_formats_0 4 rfl) rfl rfl (b := 9) rfl) ?_
    refine rc_p (p_iconst (v := 0) (dk_at ktX7_formats_0 5 rfl) (by decide) (b := 10) rfl) ?_
    refine r_iS (As := [.int 0]) (rest := [.ref m]) (s_X7_pageAt 0) cw_X7_216 qs_X7_pageAt (dk_at ktX7_formats_0 6 rfl) rfl rfl (Nat.le_of_ble_eq_true rfl) (by decide) (b := 13) rfl (fun v15 I12 J13 q14 => ?_)
    obtain ⟨rfl, rfl, rfl⟩ := q14
    refine rc_p (p_bipush (v := 6) (dk_at ktX7_formats_0 7 rfl) (by decide) (b := 15) rfl) ?_
    refine rc_p (p_iconst (v := 0) (dk_at ktX7_formats_0 8 rfl) (by decide) (b := 16) rfl) ?_
    refine r_iS (As := [.int 6, .int 0]) (rest := [.int (nI (211 + 32 * 0)), .ref m]) (s_X7_wordOf 6 0) cw_X7_50 qs_X7_wordOf (dk_at ktX7_formats_0 9 rfl) rfl rfl (Nat.le_of_ble_eq_true rfl) (by decide) (b := 19) rfl (fun v19 I16 J17 q18 => ?_)
    obtain ⟨rfl, rfl, rfl⟩ := q18
    refine r_iV (As' := [.int (nI (211 + 32 * 0)), .int (wordI 6 0)]) (rest := []) (s_X7_writes hm (σ := (sErJ σ 0)) hR10 (Inv.erj hI (by omega)) hC11 (211 + 32 * 0) (by omega) (by omega) (wordI 6 0)) cw_X7_280 qi_X7_writes qv_X7_writes rfl hm.l0 hm.s0 (dk_at ktX7_formats_0 10 rfl) rfl rfl (Nat.le_of_ble_eq_true rfl) (by decide) (b := 22) rfl (fun v23 I20 J21 q22 => ?_)
    obtain ⟨rfl, rfl, hR24, hF25, hC26⟩ := q22
    refine r_if_ne (dk_at ktX7_formats_0 11 rfl) (b := 27) (by decide) (b2 := 25) rfl (fun c22 => ?_) (fun c22 => ?_)
    · have c22 := bi_t c22
      have hR27 : RelW (I20 (m + 1)) (sWr (sErJ σ 0) (211 + 32 * 0) (wordI 6 0)) := by rw [c22] at hR24; exact hR24
      have hC28 : I20 m 23 = 0 := by rw [c22] at hC26; exact hC26
      refine rc_p (p_aload_n 0 (dk_at ktX7_formats_0 14 rfl) rfl rfl (b := 28) rfl) ?_
      refine rc_p (p_bipush (v := 6) (dk_at ktX7_formats_0 15 rfl) (by decide) (b := 30) rfl) ?_
      refine rc_p (p_iconst (v := 0) (dk_at ktX7_formats_0 16 rfl) (by decide) (b := 31) rfl) ?_
      refine r_vV (As' := [.int 6, .int 0]) (rest := []) (s_X7_notes hm (σ := (sWr (sErJ σ 0) (211 + 32 * 0) (wordI 6 0))) hR27 ((Inv.wr (Inv.erj hI (by omega)) (by omega) (by omega))).2.1 6 (by decide) 0) cw_X7_262 qi_X7_notes qv_X7_notes rfl hm.l0 hm.s0 (dk_at ktX7_formats_0 17 rfl) rfl rfl (Nat.le_of_ble_eq_true rfl) (by decide) (b := 34) rfl (fun I29 J30 q31 => ?_)
      obtain ⟨rfl, hR33, hF34⟩ := q31
      refine rc_p (p_iconst (v := 1) (dk_at ktX7_formats_0 18 rfl) (by decide) (b := 35) rfl) ?_
      refine r_iret (dk_at ktX7_formats_0 19 rfl) rfl rfl ⟨_, rfl, ?_⟩
      refine ⟨?_, rfl, ?_, (FF.tr (FF.tr hF6 hF25) (hF34.mo (by decide) (by decide))), by rw [hF34.2 23 (by decide), hC28]; simp [fFormat, sq, fErJ, fWr, fNote, c5, c22, ic]⟩
      · simp [fFormat, sq, fErJ, fWr, fNote, c5, c22, bi]
      · simp only [fFormat, sq, fErJ, fWr, fNote, c5, c22, if_true, Bool.false_eq_true, if_false, sStop]; exact hR33
    · have c22 := bi_f c22
      have hR35 : RelW (I20 (m + 1)) (sCut (sWr (sErJ σ 0) (211 + 32 * 0) (wordI 6 0))) := by rw [c22] at hR24; exact hR24
      have hC36 : I20 m 23 = 1 := by rw [c22] at hC26; exact hC26
      refine rc_p (p_iconst (v := 0) (dk_at ktX7_formats_0 12 rfl) (by decide) (b := 26) rfl) ?_
      refine r_iret (dk_at ktX7_formats_0 13 rfl) rfl rfl ⟨_, rfl, ?_⟩
      refine ⟨?_, rfl, ?_, (FF.tr hF6 hF25), by rw [hC36]; simp [fFormat, sq, fErJ, fWr, c5, c22, ic]⟩
      · simp [fFormat, sq, fErJ, fWr, fNote, c5, c22, bi]
      · simp only [fFormat, sq, fErJ, fWr, fNote, c5, c22, if_true, Bool.false_eq_true, if_false, sStop]; exact hR35
set_option maxRecDepth 4000 in
set_option maxHeartbeats 4000000 in
theorem s_X7_runs {n : Nat} {sh : mS} {G : mG} {I : mI} {J : mJ} {m : Nat} {σ : sT} (hm : ModG n sh G m) (hR : RelW (I (m + 1)) σ) (hI : Inv σ) (s : Nat) (hs : s < 2) : Sp yX7_runs cX7_runs 2 (some FieldType.int) 2 96 0 0 [.ref m, .int (nI s)] n sh G I J (Qi (fun r_ I_ J_ => nI s = r_ ∧ J = J_ ∧ RelW (I_ (m + 1)) (sRun σ (nI s)) ∧ FF m [1] [] I I_)) nX := by
  refine Sp.of (by decide) (ls := [(0, .ref m), (1, .int (nI s))]) (fun _ => rfl) (fun _ => Nat.le_of_ble_eq_true rfl) ?_
  refine rc_p (p_aload_n 0 (dk_at ktX7_runs_0 0 rfl) rfl rfl (b := 1) rfl) ?_
  refine r_geta fl_X7_9 rfl hm.l0 hm.s0 (dk_at ktX7_runs_0 1 rfl) hm.g0_0 (b := 4) rfl ?_
  refine rc_p (p_bipush (v := 7) (dk_at ktX7_runs_0 2 rfl) (by decide) (b := 6) rfl) ?_
  refine rc_p (p_iconst (v := 1) (dk_at ktX7_runs_0 3 rfl) (by decide) (b := 7) rfl) ?_
  refine r_iast (j := 7) (hm.lt 1 (by decide)) hm.s1 (dk_at ktX7_runs_0 4 rfl) rfl ⟨by decide, by decide⟩ (b := 8) rfl ?_
  refine rc_p (p_aload_n 0 (dk_at ktX7_runs_0 5 rfl) rfl rfl (b := 9) rfl) ?_
  refine r_geta fl_X7_9 rfl hm.l0 hm.s0 (dk_at ktX7_runs_0 6 rfl) hm.g0_0 (b := 12) rfl ?_
  refine rc_p (p_bipush (v := 8) (dk_at ktX7_runs_0 7 rfl) (by decide) (b := 14) rfl) ?_
  refine rc_p (p_iload_n 1 (dk_at ktX7_runs_0 8 rfl) rfl rfl (b := 15) rfl) ?_
  refine r_iast (j := 8) (hm.lt 1 (by decide)) hm.s1 (dk_at ktX7_runs_0 9 rfl) rfl ⟨by decide, by decide⟩ (b := 16) rfl ?_
  refine rc_p (p_aload_n 0 (dk_at ktX7_runs_0 10 rfl) rfl rfl (b := 17) rfl) ?_
  refine rc_p (p_iconst (v := 0) (dk_at ktX7_runs_0 11 rfl) (by decide) (b := 18) rfl) ?_
  refine rc_p (p_iload_n 1 (dk_at ktX7_runs_0 12 rfl) rfl rfl (b := 19) rfl) ?_
  refine r_vV (As' := [.int 0, .int (nI s)]) (rest := []) (s_X7_notes hm (σ := (upd (upd σ 7 1) 8 (nI s))) (by rw [up2_row]; exact RelW.up (by rw [up2_row]; exact RelW.up hR (by first | decide | omega) (by first | decide | omega)) (by first | decide | omega) (by first | decide | omega)) ((hI.2.1.up (by decide)).up (by decide)) 0 (by decide) (nI s)) cw_X7_262 qi_X7_notes qv_X7_notes rfl hm.l0 hm.s0 (dk_at ktX7_runs_0 13 rfl) rfl rfl (Nat.le_of_ble_eq_true rfl) (by decide) (b := 22) rfl (fun I1 J2 q3 => ?_)
  obtain ⟨rfl, hR5, hF6⟩ := q3
  refine rc_p (p_iload_n 1 (dk_at ktX7_runs_0 14 rfl) rfl rfl (b := 23) rfl) ?_
  refine r_iret (dk_at ktX7_runs_0 15 rfl) rfl rfl ⟨_, rfl, ?_⟩
  refine ⟨rfl, rfl, hR5, ?_⟩
  refine FF.tr ?_ hF6
  repeat (first | exact FF.rf | refine FF.ua ?_ (by decide) (by decide))
set_option maxRecDepth 4000 in
set_option maxHeartbeats 4000000 in
theorem s_X7_waits {n : Nat} {sh : mS} {G : mG} {I : mI} {J : mJ} {m : Nat} {σ : sT} (hm : ModG n sh G m) (hR : RelW (I (m + 1)) σ) (hI : Inv σ)  : Sp yX7_waits cX7_waits 1 (some FieldType.int) 2 96 0 0 [.ref m] n sh G I J (Qi (fun r_ I_ J_ => -1 = r_ ∧ J = J_ ∧ RelW (I_ (m + 1)) (sWait σ) ∧ FF m [1] [] I I_)) nX := by
  refine Sp.of (by decide) (ls := [(0, .ref m)]) (fun _ => rfl) (fun _ => Nat.le_of_ble_eq_true rfl) ?_
  refine rc_p (p_aload_n 0 (dk_at ktX7_waits_0 0 rfl) rfl rfl (b := 1) rfl) ?_
  refine r_geta fl_X7_9 rfl hm.l0 hm.s0 (dk_at ktX7_waits_0 1 rfl) hm.g0_0 (b := 4) rfl ?_
  refine rc_p (p_bipush (v := 7) (dk_at ktX7_waits_0 2 rfl) (by decide) (b := 6) rfl) ?_
  refine rc_p (p_iconst (v := 2) (dk_at ktX7_waits_0 3 rfl) (by decide) (b := 7) rfl) ?_
  refine r_iast (j := 7) (hm.lt 1 (by decide)) hm.s1 (dk_at ktX7_waits_0 4 rfl) rfl ⟨by decide, by decide⟩ (b := 8) rfl ?_
  refine rc_p (p_aload_n 0 (dk_at ktX7_waits_0 5 rfl) rfl rfl (b := 9) rfl) ?_
  refine rc_p (p_bipush (v := 7) (dk_at ktX7_waits_0 6 rfl) (by decide) (b := 11) rfl) ?_
  refine rc_p (p_iconst (v := 0) (dk_at ktX7_waits_0 7 rfl) (by decide) (b := 12) rfl) ?_
  refine r_vV (As' := [.int 7, .int 0]) (rest := []) (s_X7_notes hm (σ := (upd σ 7 2)) (by rw [up2_row]; exact RelW.up hR (by first | decide | omega) (by first | decide | omega)) (hI.2.1.up (by decide)) 7 (by decide) 0) cw_X7_262 qi_X7_notes qv_X7_notes rfl hm.l0 hm.s0 (dk_at ktX7_waits_0 8 rfl) rfl rfl (Nat.le_of_ble_eq_true rfl) (by decide) (b := 15) rfl (fun I1 J2 q3 => ?_)
  obtain ⟨rfl, hR5, hF6⟩ := q3
  refine rc_p (p_iconst (v := (-1)) (dk_at ktX7_waits_0 9 rfl) (by decide) (b := 16) rfl) ?_
  refine r_iret (dk_at ktX7_waits_0 10 rfl) rfl rfl ⟨_, rfl, ?_⟩
  refine ⟨rfl, rfl, hR5, ?_⟩
  refine FF.tr ?_ hF6
  repeat (first | exact FF.rf | refine FF.ua ?_ (by decide) (by decide))
set_option maxRecDepth 4000 in
set_option maxHeartbeats 4000000 in
theorem s_X7_moves {n : Nat} {sh : mS} {G : mG} {I : mI} {J : mJ} {m : Nat} {σ : sT} (hm : ModG n sh G m) (hR : RelW (I (m + 1)) σ) (hI : Inv σ) (hC : I m 23 = 0) (q : Nat) (h1 : 19 ≤ q) (h2 : q < 275) (hQ : I m 24 = nI q) (k v : Int32) : Sp yX7_moves cX7_moves 3 (some FieldType.boolean) 4 192 0 0 [.ref m, .int k, .int v] n sh G I J (Qi (fun r_ I_ J_ => bi (sHas σ) = r_ ∧ J = J_ ∧ RelW (I_ (m + 1)) (sStop (sHas σ) (sWr σ q (wordI k v))) ∧ FF m [1] [23, 24] I I_ ∧ I_ m 23 = ic (sHas σ) ∧ I_ m 24 = nI (q + 1))) nX := by
  refine Sp.of (by decide) (ls := [(0, .ref m), (1, .int k), (2, .int v)]) (fun _ => rfl) (fun _ => Nat.le_of_ble_eq_true rfl) ?_
  refine rc_p (p_aload_n 0 (dk_at ktX7_moves_0 0 rfl) rfl rfl (b := 1) rfl) ?_
  refine rc_p (p_dup (dk_at ktX7_moves_0 1 rfl) rfl (b := 2) rfl) ?_
  refine r_geti fl_X7_283 rfl hm.l0 hm.s0 (dk_at ktX7_moves_0 2 rfl) (v := (nI q)) hQ (b := 5) rfl ?_
  refine rc_p (p_iconst (v := 1) (dk_at ktX7_moves_0 3 rfl) (by decide) (b := 6) rfl) ?_
  refine rc_p (p_iadd (v := (nI (q + 1))) (dk_at ktX7_moves_0 4 rfl) (nI_add q 1) (b := 7) rfl) ?_
  refine r_puti fl_X7_283 fw_X7_24 rfl hm.l0 hm.s0 rfl rfl (dk_at ktX7_moves_0 5 rfl) (b := 10) rfl ?_
  refine rc_p (p_aload_n 0 (dk_at ktX7_moves_0 6 rfl) rfl rfl (b := 11) rfl) ?_
  refine rc_p (p_aload_n 0 (dk_at ktX7_moves_0 7 rfl) rfl rfl (b := 12) rfl) ?_
  refine r_geti fl_X7_283 rfl hm.l0 hm.s0 (dk_at ktX7_moves_0 8 rfl) (v := (nI (q + 1))) up2_s (b := 15) rfl ?_
  refine rc_p (p_iconst (v := 1) (dk_at ktX7_moves_0 9 rfl) (by decide) (b := 16) rfl) ?_
  refine rc_p (p_isub (v := (nI q)) (dk_at ktX7_moves_0 10 rfl) (pk_m1' q) (b := 17) rfl) ?_
  refine rc_p (p_iload_n 1 (dk_at ktX7_moves_0 11 rfl) rfl rfl (b := 18) rfl) ?_
  refine rc_p (p_iload_n 2 (dk_at ktX7_moves_0 12 rfl) rfl rfl (b := 19) rfl) ?_
  refine r_iS (As := [.int k, .int v]) (rest := [.int (nI q), .ref m]) (s_X7_wordOf k v) cw_X7_50 qs_X7_wordOf (dk_at ktX7_moves_0 13 rfl) rfl rfl (Nat.le_of_ble_eq_true rfl) (by decide) (b := 22) rfl (fun v4 I1 J2 q3 => ?_)
  obtain ⟨rfl, rfl, rfl⟩ := q3
  refine r_iV (As' := [.int (nI q), .int (wordI k v)]) (rest := []) (s_X7_writes hm (σ := σ) (by rw [up2_off (by omega)]; exact hR) hI ((up2_n (by omega)).trans hC) q (by omega) (by omega) (wordI k v)) cw_X7_280 qi_X7_writes qv_X7_writes rfl hm.l0 hm.s0 (dk_at ktX7_moves_0 14 rfl) rfl rfl (Nat.le_of_ble_eq_true rfl) (by decide) (b := 25) rfl (fun v8 I5 J6 q7 => ?_)
  obtain ⟨rfl, rfl, hR9, hF10, hC11⟩ := q7
  refine r_iret (dk_at ktX7_moves_0 15 rfl) rfl (bi_nar (sHas σ)) ⟨_, rfl, ?_⟩
  refine ⟨rfl, rfl, hR9, ?_, hC11, ?_⟩
  · exact FF.tr (FF.uf FF.rf (by decide)) (hF10.mo (by decide) (by decide))
  · rw [hF10.2 24 (by decide), up2_s]

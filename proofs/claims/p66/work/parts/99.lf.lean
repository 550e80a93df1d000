/-! THE JDK'S TEXTS: append of a number -/
def dg (v : Nat) : Nat := if v < 10 then 1 else if v < 100 then 2 else if v < 1000 then 3 else if v < 10000 then 4 else 5
theorem dg_1 {v : Nat} (h : v < 10) : dg v = 1 := if_pos h
theorem dg_2 {v : Nat} (h : 10 ≤ v) (h2 : v < 100) : dg v = 2 := (if_neg (by omega)).trans (if_pos h2)
theorem dg_3 {v : Nat} (h : 100 ≤ v) (h2 : v < 1000) : dg v = 3 := (if_neg (by omega)).trans ((if_neg (by omega)).trans (if_pos h2))
theorem dg_4 {v : Nat} (h : 1000 ≤ v) (h2 : v < 10000) : dg v = 4 := (if_neg (by omega)).trans ((if_neg (by omega)).trans ((if_neg (by omega)).trans (if_pos h2)))
theorem dg_5 {v : Nat} (h : 10000 ≤ v) : dg v = 5 := (if_neg (by omega)).trans ((if_neg (by omega)).trans ((if_neg (by omega)).trans (if_neg (by omega))))
theorem dg_le (v : Nat) : 1 ≤ dg v ∧ dg v ≤ 5 := by
  unfold dg
  split
  · omega
  · split
    · omega
    · split
      · omega
      · split <;> omega
theorem ng_int {a : Nat} (ha : a < 2 ^ 31) : (-nI a).toInt = -(a : Int) := by
  rw [Int32.toInt_neg, nI_toInt ha]
  rw [Int.bmod_eq_of_le (by omega) (by omega)]
theorem ng_le {v k : Nat} {z : Int32} (hv : v < 2 ^ 31) (hk : k < 2 ^ 31) (hz : z = -nI k) : -nI v ≤ z ↔ k ≤ v := by
  rw [hz, Int32.le_iff_toInt_le, ng_int hv, ng_int hk]
  omega
theorem ng_lt {v k : Nat} {z : Int32} (hv : v < 2 ^ 31) (hk : k < 2 ^ 31) (hz : z = -nI k) : z < -nI v ↔ v < k := by
  rw [hz, Int32.lt_iff_toInt_lt, ng_int hv, ng_int hk]
  omega
theorem ng_ge {v k : Nat} {z : Int32} (hv : v < 2 ^ 31) (hk : k < 2 ^ 31) (hz : z = -nI k) : z ≤ -nI v ↔ v ≤ k := by
  rw [hz, Int32.le_iff_toInt_le, ng_int hv, ng_int hk]
  omega
theorem ng_div {v : Nat} (hv : v < 2 ^ 30) : -nI v / 100 = -nI (v / 100) := by
  have e1 : (100 : Int32).toInt = 100 := by decide
  apply Int32.toInt_inj.mp
  rw [Int32.toInt_div_of_ne_right _ _ (by decide), ng_int (by omega), ng_int (by omega), e1, Int.neg_tdiv]
  rfl
theorem ng_rem {v : Nat} (hv : v < 2 ^ 30) : -nI (v / 100) * 100 - -nI v = nI (v % 100) := by
  have e1 : (100 : Int32).toInt = 100 := by decide
  have e2 := Nat.div_add_mod v 100
  apply Int32.toInt_inj.mp
  rw [Int32.toInt_sub, Int32.toInt_mul, ng_int (by omega), ng_int (by omega), e1, nI_toInt (by omega)]
  rw [Int.bmod_eq_of_le (n := -((v / 100 : Nat) : Int) * 100) (by omega) (by omega), Int.bmod_eq_of_le (by omega) (by omega)]
  omega
theorem ng_ng {v : Nat} : - -nI v = nI v := Int32.neg_neg
def dgp : Nat → Nat
  | 0 => 1
  | 1 => 10
  | 2 => 100
  | 3 => 1000
  | _ => 10000
/-- the k-th letter of a number -/
def dgt (v k : Nat) : Int32 := nI (48 + v / dgp (dg v - 1 - k) % 10)
def DgW (I I2 : mI) (a s v : Nat) : Prop := (∀ b, b ≠ a → I2 b = I b) ∧ (∀ j, (j < s ∨ s + dg v ≤ j) → I2 a j = I a j) ∧ ∀ k, k < dg v → I2 a (s + k) = dgt v k
theorem dig_b {d : Nat} (h : d < 10) : vp_nar .byte (nI (48 + d)) = nI (48 + d) := by
  have q : ∀ d : Nat, d < 10 → vp_nar .byte (nI (48 + d)) = nI (48 + d) := by decide
  exact q d h
theorem dig_f {d : Nat} (h : d < 10) : fits .byte (.int (nI (48 + d))) = true := by
  have q : ∀ d : Nat, d < 10 → fits .byte (.int (nI (48 + d))) = true := by decide
  exact q d h
theorem dgt_f (v k : Nat) : fits .byte (.int (dgt v k)) = true := dig_f (Nat.mod_lt _ (by decide))

set_option maxRecDepth 4000 in
set_option maxHeartbeats 4000000 in
theorem m_size {n : Nat} {sh : mS} {G : mG} {I : mI} {J : mJ} (hz : Zo n I J G) (hn9 : n + 2 ≤ 1000) (v : Nat) (hv : v < 65536) : Sm yJ6_stringSize_0f7a4 cJ6_stringSize_0f7a4 4 (some FieldType.int) 1 48 0 0 [.int (nI v)] n n sh G I J (fun r_ G_ I_ J_ => some (.int (nI (dg v))) = r_ ∧ G = G_ ∧ I = I_ ∧ J = J_) := by
  refine Sm.of (by decide) (ls := [(0, .int (nI v))]) (fun _ => rfl) (fun _ => Nat.le_of_ble_eq_true rfl) ?_
  refine gc_p (p_iconst (v := 1) (dk_at ktJ6_stringSize_0f7a4_0 0 rfl) (by decide) (b := 1) rfl) ?_
  refine gc_p (p_istore_n (ls' := [(1, .int 1), (0, .int (nI v))]) (dk_at ktJ6_stringSize_0f7a4_0 1 rfl) rfl (by decide) rfl (b := 2) rfl) ?_
  refine gc_p (p_iload_n 1 (dk_at ktJ6_stringSize_0f7a4_0 2 rfl) rfl rfl (b := 3) rfl) ?_
  refine g_if_lt (dk_at ktJ6_stringSize_0f7a4_0 3 rfl) (b := 11) (by decide) (b2 := 6) rfl (fun c3 => ?_) (fun c3 => ?_)
  · have c3 : v < 0 := (nI_ltI (a := v) (b := 0) (by omega) (by omega)).mp c3
    exfalso; omega
  · have c3 : ¬ v < 0 := fun h => c3 ((nI_ltI (a := v) (b := 0) (by omega) (by omega)).mpr h)
    refine gc_p (p_iconst (v := 0) (dk_at ktJ6_stringSize_0f7a4_0 4 rfl) (by decide) (b := 7) rfl) ?_
    refine gc_p (p_istore_n (ls' := [(1, .int 0), (0, .int (nI v))]) (dk_at ktJ6_stringSize_0f7a4_0 5 rfl) rfl (by decide) rfl (b := 8) rfl) ?_
    refine gc_p (p_iload_n 1 (dk_at ktJ6_stringSize_0f7a4_0 6 rfl) rfl rfl (b := 9) rfl) ?_
    refine gc_p (p_ineg (v := (-nI v)) (dk_at ktJ6_stringSize_0f7a4_0 7 rfl) rfl (b := 10) rfl) ?_
    refine gc_p (p_istore_n (ls' := [(0, .int (-nI v)), (1, .int 0)]) (dk_at ktJ6_stringSize_0f7a4_0 8 rfl) rfl (by decide) rfl (b := 11) rfl) ?_
    refine gc_p (p_bipush (v := (-10)) (dk_at ktJ6_stringSize_0f7a4_0 9 rfl) (by decide) (b := 13) rfl) ?_
    refine gc_p (p_istore_n (ls' := [(2, .int (-10)), (0, .int (-nI v)), (1, .int 0)]) (dk_at ktJ6_stringSize_0f7a4_0 10 rfl) rfl (by decide) rfl (b := 14) rfl) ?_
    refine gc_p (p_iconst (v := 1) (dk_at ktJ6_stringSize_0f7a4_0 11 rfl) (by decide) (b := 15) rfl) ?_
    refine gc_p (p_istore_n (ls' := [(3, .int 1), (2, .int (-10)), (0, .int (-nI v)), (1, .int 0)]) (dk_at ktJ6_stringSize_0f7a4_0 12 rfl) rfl (by decide) rfl (b := 16) rfl) ?_
    refine gc_p (p_iload_n 0 (dk_at ktJ6_stringSize_0f7a4_0 13 rfl) rfl rfl (b := 17) rfl) ?_
    refine gc_p (p_bipush (v := 10) (dk_at ktJ6_stringSize_0f7a4_0 14 rfl) (by decide) (b := 19) rfl) ?_
    refine g_icmp_ge (dk_at ktJ6_stringSize_0f7a4_0 15 rfl) (b := 42) (by decide) (b2 := 22) rfl (fun c19 => ?_) (fun c19 => ?_)
    · first | exact absurd c19 (by decide) | exact absurd (by decide) c19
    · skip
      refine gc_p (p_iload_n 2 (dk_at ktJ6_stringSize_0f7a4_0 16 rfl) rfl rfl (b := 23) rfl) ?_
      refine gc_p (p_iload_n 1 (dk_at ktJ6_stringSize_0f7a4_0 17 rfl) rfl rfl (b := 24) rfl) ?_
      refine g_icmp_le (dk_at ktJ6_stringSize_0f7a4_0 18 rfl) (b := 31) (by decide) (b2 := 27) rfl (fun c24 => ?_) (fun c24 => ?_)
      · skip
        have c24 : 10 ≤ v := (ng_le (k := 10) (by omega) (by decide) (by decide)).mp c24
        refine gc_p (p_bipush (v := 10) (dk_at ktJ6_stringSize_0f7a4_0 23 rfl) (by decide) (b := 33) rfl) ?_
        refine gc_p (p_iload_n 1 (dk_at ktJ6_stringSize_0f7a4_0 24 rfl) rfl rfl (b := 34) rfl) ?_
        refine gc_p (p_imul (v := (-100)) (dk_at ktJ6_stringSize_0f7a4_0 25 rfl) (by decide) (b := 35) rfl) ?_
        refine gc_p (p_istore_n (ls' := [(2, .int (-100)), (3, .int 1), (0, .int (-nI v)), (1, .int 0)]) (dk_at ktJ6_stringSize_0f7a4_0 26 rfl) rfl (by decide) rfl (b := 36) rfl) ?_
        refine gc_p (p_iinc (j := 1) (v := 2) (ls' := [(3, .int 2), (2, .int (-100)), (0, .int (-nI v)), (1, .int 0)]) (dk_at ktJ6_stringSize_0f7a4_0 27 rfl) rfl (by decide) (by decide) rfl (b := 39) rfl) ?_
        refine gc_p (p_goto (b := 16) (dk_at ktJ6_stringSize_0f7a4_0 28 rfl) (by decide)) ?_
        refine gc_p (p_iload_n 0 (dk_at ktJ6_stringSize_0f7a4_0 13 rfl) rfl rfl (b := 17) rfl) ?_
        refine gc_p (p_bipush (v := 10) (dk_at ktJ6_stringSize_0f7a4_0 14 rfl) (by decide) (b := 19) rfl) ?_
        refine g_icmp_ge (dk_at ktJ6_stringSize_0f7a4_0 15 rfl) (b := 42) (by decide) (b2 := 22) rfl (fun c19_1 => ?_) (fun c19_1 => ?_)
        · first | exact absurd c19_1 (by decide) | exact absurd (by decide) c19_1
        · skip
          refine gc_p (p_iload_n 2 (dk_at ktJ6_stringSize_0f7a4_0 16 rfl) rfl rfl (b := 23) rfl) ?_
          refine gc_p (p_iload_n 1 (dk_at ktJ6_stringSize_0f7a4_0 17 rfl) rfl rfl (b := 24) rfl) ?_
          refine g_icmp_le (dk_at ktJ6_stringSize_0f7a4_0 18 rfl) (b := 31) (by decide) (b2 := 27) rfl (fun c24_1 => ?_) (fun c24_1 => ?_)
          · skip
            have c24_1 : 100 ≤ v := (ng_le (k := 100) (by omega) (by decide) (by decide)).mp c24_1
            refine gc_p (p_bipush (v := 10) (dk_at ktJ6_stringSize_0f7a4_0 23 rfl) (by decide) (b := 33) rfl) ?_
            refine gc_p (p_iload_n 1 (dk_at ktJ6_stringSize_0f7a4_0 24 rfl) rfl rfl (b := 34) rfl) ?_
            refine gc_p (p_imul (v := (-1000)) (dk_at ktJ6_stringSize_0f7a4_0 25 rfl) (by decide) (b := 35) rfl) ?_
            refine gc_p (p_istore_n (ls' := [(2, .int (-1000)), (3, .int 2), (0, .int (-nI v)), (1, .int 0)]) (dk_at ktJ6_stringSize_0f7a4_0 26 rfl) rfl (by decide) rfl (b := 36) rfl) ?_
            refine gc_p (p_iinc (j := 1) (v := 3) (ls' := [(3, .int 3), (2, .int (-1000)), (0, .int (-nI v)), (1, .int 0)]) (dk_at ktJ6_stringSize_0f7a4_0 27 rfl) rfl (by decide) (by decide) rfl (b := 39) rfl) ?_
            refine gc_p (p_goto (b := 16) (dk_at ktJ6_stringSize_0f7a4_0 28 rfl) (by decide)) ?_
            refine gc_p (p_iload_n 0 (dk_at ktJ6_stringSize_0f7a4_0 13 rfl) rfl rfl (b := 17) rfl) ?_
            refine gc_p (p_bipush (v := 10) (dk_at ktJ6_stringSize_0f7a4_0 14 rfl) (by decide) (b := 19) rfl) ?_
            refine g_icmp_ge (dk_at ktJ6_stringSize_0f7a4_0 15 rfl) (b := 42) (by decide) (b2 := 22) rfl (fun c19_2 => ?_) (fun c19_2 => ?_)
            · first | exact absurd c19_2 (by decide) | exact absurd (by decide) c19_2
            · skip
              refine gc_p (p_iload_n 2 (dk_at ktJ6_stringSize_0f7a4_0 16 rfl) rfl rfl (b := 23) rfl) ?_
              refine gc_p (p_iload_n 1 (dk_at ktJ6_stringSize_0f7a4_0 17 rfl) rfl rfl (b := 24) rfl) ?_
              refine g_icmp_le (dk_at ktJ6_stringSize_0f7a4_0 18 rfl) (b := 31) (by decide) (b2 := 27) rfl (fun c24_2 => ?_) (fun c24_2 => ?_)
              · skip
                have c24_2 : 1000 ≤ v := (ng_le (k := 1000) (by omega) (by decide) (by decide)).mp c24_2
                refine gc_p (p_bipush (v := 10) (dk_at ktJ6_stringSize_0f7a4_0 23 rfl) (by decide) (b := 33) rfl) ?_
                refine gc_p (p_iload_n 1 (dk_at ktJ6_stringSize_0f7a4_0 24 rfl) rfl rfl (b := 34) rfl) ?_
                refine gc_p (p_imul (v := (-10000)) (dk_at ktJ6_stringSize_0f7a4_0 25 rfl) (by decide) (b := 35) rfl) ?_
                refine gc_p (p_istore_n (ls' := [(2, .int (-10000)), (3, .int 3), (0, .int (-nI v)), (1, .int 0)]) (dk_at ktJ6_stringSize_0f7a4_0 26 rfl) rfl (by decide) rfl (b := 36) rfl) ?_
                refine gc_p (p_iinc (j := 1) (v := 4) (ls' := [(3, .int 4), (2, .int (-10000)), (0, .int (-nI v)), (1, .int 0)]) (dk_at ktJ6_stringSize_0f7a4_0 27 rfl) rfl (by decide) (by decide) rfl (b := 39) rfl) ?_
                refine gc_p (p_goto (b := 16) (dk_at ktJ6_stringSize_0f7a4_0 28 rfl) (by decide)) ?_
                refine gc_p (p_iload_n 0 (dk_at ktJ6_stringSize_0f7a4_0 13 rfl) rfl rfl (b := 17) rfl) ?_
                refine gc_p (p_bipush (v := 10) (dk_at ktJ6_stringSize_0f7a4_0 14 rfl) (by decide) (b := 19) rfl) ?_
                refine g_icmp_ge (dk_at ktJ6_stringSize_0f7a4_0 15 rfl) (b := 42) (by decide) (b2 := 22) rfl (fun c19_3 => ?_) (fun c19_3 => ?_)
                · first | exact absurd c19_3 (by decide) | exact absurd (by decide) c19_3
                · skip
                  refine gc_p (p_iload_n 2 (dk_at ktJ6_stringSize_0f7a4_0 16 rfl) rfl rfl (b := 23) rfl) ?_
                  refine gc_p (p_iload_n 1 (dk_at ktJ6_stringSize_0f7a4_0 17 rfl) rfl rfl (b := 24) rfl) ?_
                  refine g_icmp_le (dk_at ktJ6_stringSize_0f7a4_0 18 rfl) (b := 31) (by decide) (b2 := 27) rfl (fun c24_3 => ?_) (fun c24_3 => ?_)
                  · skip
                    have c24_3 : 10000 ≤ v := (ng_le (k := 10000) (by omega) (by decide) (by decide)).mp c24_3
                    refine gc_p (p_bipush (v := 10) (dk_at ktJ6_stringSize_0f7a4_0 23 rfl) (by decide) (b := 33) rfl) ?_
                    refine gc_p (p_iload_n 1 (dk_at ktJ6_stringSize_0f7a4_0 24 rfl) rfl rfl (b := 34) rfl) ?_
                    refine gc_p (p_imul (v := (-100000)) (dk_at ktJ6_stringSize_0f7a4_0 25 rfl) (by decide) (b := 35) rfl) ?_
                    refine gc_p (p_istore_n (ls' := [(2, .int (-100000)), (3, .int 4), (0, .int (-nI v)), (1, .int 0)]) (dk_at ktJ6_stringSize_0f7a4_0 26 rfl) rfl (by decide) rfl (b := 36) rfl) ?_
                    refine gc_p (p_iinc (j := 1) (v := 5) (ls' := [(3, .int 5), (2, .int (-100000)), (0, .int (-nI v)), (1, .int 0)]) (dk_at ktJ6_stringSize_0f7a4_0 27 rfl) rfl (by decide) (by decide) rfl (b := 39) rfl) ?_
                    refine gc_p (p_goto (b := 16) (dk_at ktJ6_stringSize_0f7a4_0 28 rfl) (by decide)) ?_
                    refine gc_p (p_iload_n 0 (dk_at ktJ6_stringSize_0f7a4_0 13 rfl) rfl rfl (b := 17) rfl) ?_
                    refine gc_p (p_bipush (v := 10) (dk_at ktJ6_stringSize_0f7a4_0 14 rfl) (by decide) (b := 19) rfl) ?_
                    refine g_icmp_ge (dk_at ktJ6_stringSize_0f7a4_0 15 rfl) (b := 42) (by decide) (b2 := 22) rfl (fun c19_4 => ?_) (fun c19_4 => ?_)
                    · first | exact absurd c19_4 (by decide) | exact absurd (by decide) c19_4
                    · skip
                      refine gc_p (p_iload_n 2 (dk_at ktJ6_stringSize_0f7a4_0 16 rfl) rfl rfl (b := 23) rfl) ?_
                      refine gc_p (p_iload_n 1 (dk_at ktJ6_stringSize_0f7a4_0 17 rfl) rfl rfl (b := 24) rfl) ?_
                      refine g_icmp_le (dk_at ktJ6_stringSize_0f7a4_0 18 rfl) (b := 31) (by decide) (b2 := 27) rfl (fun c24_4 => ?_) (fun c24_4 => ?_)
                      · skip
                        have c24_4 : 100000 ≤ v := (ng_le (k := 100000) (by omega) (by decide) (by decide)).mp c24_4
                        exfalso; omega
                      · skip
                        have c24_4 : ¬ 100000 ≤ v := fun h => c24_4 ((ng_le (k := 100000) (by omega) (by decide) (by decide)).mpr h)
                        refine gc_p (p_iload_n 0 (dk_at ktJ6_stringSize_0f7a4_0 19 rfl) rfl rfl (b := 28) rfl) ?_
                        refine gc_p (p_iload_n 3 (dk_at ktJ6_stringSize_0f7a4_0 20 rfl) rfl rfl (b := 29) rfl) ?_
                        refine gc_p (p_iadd (v := 5) (dk_at ktJ6_stringSize_0f7a4_0 21 rfl) rfl (b := 30) rfl) ?_
                        refine h_iret (by first | rfl | decide) (dk_at ktJ6_stringSize_0f7a4_0 22 rfl) ?_ hz
                        exact ⟨by rw [dg_5 (by omega)]; rfl, rfl, rfl, rfl⟩
                  · skip
                    have c24_3 : ¬ 10000 ≤ v := fun h => c24_3 ((ng_le (k := 10000) (by omega) (by decide) (by decide)).mpr h)
                    refine gc_p (p_iload_n 0 (dk_at ktJ6_stringSize_0f7a4_0 19 rfl) rfl rfl (b := 28) rfl) ?_
                    refine gc_p (p_iload_n 3 (dk_at ktJ6_stringSize_0f7a4_0 20 rfl) rfl rfl (b := 29) rfl) ?_
                    refine gc_p (p_iadd (v := 4) (dk_at ktJ6_stringSize_0f7a4_0 21 rfl) rfl (b := 30) rfl) ?_
                    refine h_iret (by first | rfl | decide) (dk_at ktJ6_stringSize_0f7a4_0 22 rfl) ?_ hz
                    exact ⟨by rw [dg_4 (by omega) (by omega)]; rfl, rfl, rfl, rfl⟩
              · skip
                have c24_2 : ¬ 1000 ≤ v := fun h => c24_2 ((ng_le (k := 1000) (by omega) (by decide) (by decide)).mpr h)
                refine gc_p (p_iload_n 0 (dk_at ktJ6_stringSize_0f7a4_0 19 rfl) rfl rfl (b := 28) rfl) ?_
                refine gc_p (p_iload_n 3 (dk_at ktJ6_stringSize_0f7a4_0 20 rfl) rfl rfl (b := 29) rfl) ?_
                refine gc_p (p_iadd (v := 3) (dk_at ktJ6_stringSize_0f7a4_0 21 rfl) rfl (b := 30) rfl) ?_
                refine h_iret (by first | rfl | decide) (dk_at ktJ6_stringSize_0f7a4_0 22 rfl) ?_ hz
                exact ⟨by rw [dg_3 (by omega) (by omega)]; rfl, rfl, rfl, rfl⟩
          · skip
            have c24_1 : ¬ 100 ≤ v := fun h => c24_1 ((ng_le (k := 100) (by omega) (by decide) (by decide)).mpr h)
            refine gc_p (p_iload_n 0 (dk_at ktJ6_stringSize_0f7a4_0 19 rfl) rfl rfl (b := 28) rfl) ?_
            refine gc_p (p_iload_n 3 (dk_at ktJ6_stringSize_0f7a4_0 20 rfl) rfl rfl (b := 29) rfl) ?_
            refine gc_p (p_iadd (v := 2) (dk_at ktJ6_stringSize_0f7a4_0 21 rfl) rfl (b := 30) rfl) ?_
            refine h_iret (by first | rfl | decide) (dk_at ktJ6_stringSize_0f7a4_0 22 rfl) ?_ hz
            exact ⟨by rw [dg_2 (by omega) (by omega)]; rfl, rfl, rfl, rfl⟩
      · skip
        have c24 : ¬ 10 ≤ v := fun h => c24 ((ng_le (k := 10) (by omega) (by decide) (by decide)).mpr h)
        refine gc_p (p_iload_n 0 (dk_at ktJ6_stringSize_0f7a4_0 19 rfl) rfl rfl (b := 28) rfl) ?_
        refine gc_p (p_iload_n 3 (dk_at ktJ6_stringSize_0f7a4_0 20 rfl) rfl rfl (b := 29) rfl) ?_
        refine gc_p (p_iadd (v := 1) (dk_at ktJ6_stringSize_0f7a4_0 21 rfl) rfl (b := 30) rfl) ?_
        refine h_iret (by first | rfl | decide) (dk_at ktJ6_stringSize_0f7a4_0 22 rfl) ?_ hz
        exact ⟨by rw [dg_1 (by omega)]; rfl, rfl, rfl, rfl⟩
set_option maxRecDepth 4000 in
set_option maxHeartbeats 4000000 in
theorem m_getC {n : Nat} {sh : mS} {G : mG} {I : mI} {J : mJ} (hz : Zo n I J G) (hn9 : n + 2 ≤ 1000) {a cap st v : Nat} (ha : a < n) (sa : sh a = .inr (1, cap)) (hc9 : cap ≤ 900) (hv : v < 65536) (hp : st + dg v ≤ cap) : Sm yJ6_getChars_ba4f3 cJ6_getChars_ba4f3 7 (some FieldType.int) 1 48 0 0 [.int (nI v), .int (nI (st + dg v)), .ref a] n n sh G I J (fun r_ G_ I_ J_ => some (.int (nI st)) = r_ ∧ G = G_ ∧ DgW I I_ a st v ∧ J = J_) := by
  rcases (by omega : v < 10 ∨ (10 ≤ v ∧ v < 100) ∨ (100 ≤ v ∧ v < 1000) ∨ (1000 ≤ v ∧ v < 10000) ∨ 10000 ≤ v) with h | h | h | h | h
  · rw [dg_1 h] at hp ⊢
    refine Sm.of (by decide) (ls := [(0, .int (nI v)), (1, .int (nI (st + 1))), (2, .ref a)]) (fun _ => rfl) (fun _ => Nat.le_of_ble_eq_true rfl) ?_
    refine gc_p (p_iload_n 1 (dk_at ktJ6_getChars_ba4f3_0 0 rfl) rfl rfl (b := 1) rfl) ?_
    refine gc_p (p_istore (ls' := [(5, .int (nI (st + 1))), (0, .int (nI v)), (1, .int (nI (st + 1))), (2, .ref a)]) (dk_at ktJ6_getChars_ba4f3_0 1 rfl) (by decide) rfl (b := 3) rfl) ?_
    refine gc_p (p_iload_n 1 (dk_at ktJ6_getChars_ba4f3_0 2 rfl) rfl rfl (b := 4) rfl) ?_
    refine g_if_ge (dk_at ktJ6_getChars_ba4f3_0 3 rfl) (b := 11) (by decide) (b2 := 7) rfl (fun c4 => ?_) (fun c4 => ?_)
    · have c4 : 0 ≤ v := (nI_leI (a := 0) (b := v) (by omega) (by omega)).mp c4
      refine gc_p (p_iconst (v := 0) (dk_at ktJ6_getChars_ba4f3_0 6 rfl) (by decide) (b := 12) rfl) ?_
      refine gc_p (p_istore (ls' := [(6, .int 0), (5, .int (nI (st + 1))), (0, .int (nI v)), (1, .int (nI (st + 1))), (2, .ref a)]) (dk_at ktJ6_getChars_ba4f3_0 7 rfl) (by decide) rfl (b := 14) rfl) ?_
      refine gc_p (p_iload 0 (dk_at ktJ6_getChars_ba4f3_0 8 rfl) rfl (b := 16) rfl) ?_
      refine g_if_ne (dk_at ktJ6_getChars_ba4f3_0 9 rfl) (b := 22) (by decide) (b2 := 19) rfl (fun c16 => ?_) (fun c16 => ?_)
      · first | exact absurd c16 (by decide) | exact absurd (by decide) c16
      · skip
        refine gc_p (p_iload_n 2 (dk_at ktJ6_getChars_ba4f3_0 10 rfl) rfl rfl (b := 20) rfl) ?_
        refine gc_p (p_ineg (v := (-nI v)) (dk_at ktJ6_getChars_ba4f3_0 11 rfl) rfl (b := 21) rfl) ?_
        refine gc_p (p_istore_n (ls' := [(0, .int (-nI v)), (6, .int 0), (5, .int (nI (st + 1))), (1, .int (nI (st + 1))), (2, .ref a)]) (dk_at ktJ6_getChars_ba4f3_0 12 rfl) rfl (by decide) rfl (b := 22) rfl) ?_
        refine gc_p (p_iload_n 0 (dk_at ktJ6_getChars_ba4f3_0 13 rfl) rfl rfl (b := 23) rfl) ?_
        refine gc_p (p_bipush (v := (-100)) (dk_at ktJ6_getChars_ba4f3_0 14 rfl) (by decide) (b := 25) rfl) ?_
        refine g_icmp_gt (dk_at ktJ6_getChars_ba4f3_0 15 rfl) (b := 72) (by decide) (b2 := 28) rfl (fun c25 => ?_) (fun c25 => ?_)
        · skip
          have c25 : v < 100 := (ng_lt (k := 100) (by omega) (by decide) (by decide)).mp c25
          refine gc_p (p_aload_n 4 (dk_at ktJ6_getChars_ba4f3_0 43 rfl) rfl rfl (b := 73) rfl) ?_
          refine gc_p (p_iinc (j := 2) (v := (nI st)) (ls' := [(5, .int (nI st)), (0, .int (-nI v)), (6, .int 0), (1, .int (nI (st + 1))), (2, .ref a)]) (dk_at ktJ6_getChars_ba4f3_0 44 rfl) rfl (pk_m1 (st)) (by decide) rfl (b := 76) rfl) ?_
          refine gc_p (p_iload 0 (dk_at ktJ6_getChars_ba4f3_0 45 rfl) rfl (b := 78) rfl) ?_
          refine g_gdig1 fg_J6_83 (dk_at ktJ6_getChars_ba4f3_0 46 rfl) (b := 81) rfl ?_
          refine gc_p (p_iload_n 1 (dk_at ktJ6_getChars_ba4f3_0 47 rfl) rfl rfl (b := 82) rfl) ?_
          refine gc_p (p_ineg (v := (nI v)) (dk_at ktJ6_getChars_ba4f3_0 48 rfl) ng_ng (b := 83) rfl) ?_
          refine g_ddig1 (j := v) rfl (by omega) (dk_at ktJ6_getChars_ba4f3_0 49 rfl) (b := 84) rfl ?_
          refine g_bast (j := st) ha sa (dk_at ktJ6_getChars_ba4f3_0 50 rfl) rfl ⟨by omega, by omega⟩ (dig_b (by omega)) (b := 85) rfl ?_
          refine gc_p (p_iload_n 1 (dk_at ktJ6_getChars_ba4f3_0 51 rfl) rfl rfl (b := 86) rfl) ?_
          refine gc_p (p_bipush (v := (-9)) (dk_at ktJ6_getChars_ba4f3_0 52 rfl) (by decide) (b := 88) rfl) ?_
          refine g_icmp_ge (dk_at ktJ6_getChars_ba4f3_0 53 rfl) (b := 104) (by decide) (b2 := 91) rfl (fun c88 => ?_) (fun c88 => ?_)
          · skip
            have c88 : v ≤ 9 := (ng_ge (k := 9) (by omega) (by decide) (by decide)).mp c88
            refine gc_p (p_iload 2 (dk_at ktJ6_getChars_ba4f3_1 2 rfl) rfl (b := 106) rfl) ?_
            refine g_if_eq (dk_at ktJ6_getChars_ba4f3_1 3 rfl) (b := 118) (by decide) (b2 := 109) rfl (fun c106 => ?_) (fun c106 => ?_)
            · skip
              refine gc_p (p_iload 0 (dk_at ktJ6_getChars_ba4f3_1 9 rfl) rfl (b := 120) rfl) ?_
              refine h_iret (by first | rfl | decide) (dk_at ktJ6_getChars_ba4f3_1 10 rfl) ?_ (hz.ui (by omega))
              have e : dg v = 1 := dg_1 (by omega)
              refine ⟨rfl, rfl, ⟨fun b hb => ?_, fun j hj => ?_, fun k hk => ?_⟩, rfl⟩
              · exact (up2_off hb).trans (rfl)
              · rw [e] at hj
                rw [up2_n (by omega)]
              · rw [e] at hk
                rcases (by omega : k = 0) with rfl
                · rw [Nat.add_zero st]
                  rw [up2_s]
                  unfold dgt
                  rw [e]
                  show nI _ = nI (48 + v / 1 % 10)
                  congr 1 <;> omega
            · first | exact absurd c106 (by decide) | exact absurd (by decide) c106
          · skip
            have c88 : ¬ v ≤ 9 := fun h => c88 ((ng_ge (k := 9) (by omega) (by decide) (by decide)).mpr h)
            exfalso; omega
        · skip
          have c25 : ¬ v < 100 := fun h => c25 ((ng_lt (k := 100) (by omega) (by decide) (by decide)).mpr h)
          exfalso; omega
    · have c4 : ¬ 0 ≤ v := fun h => c4 ((nI_leI (a := 0) (b := v) (by omega) (by omega)).mpr h)
      exfalso; omega
  · rw [dg_2 h.1 h.2] at hp ⊢
    refine Sm.of (by decide) (ls := [(0, .int (nI v)), (1, .int (nI (st + 2))), (2, .ref a)]) (fun _ => rfl) (fun _ => Nat.le_of_ble_eq_true rfl) ?_
    refine gc_p (p_iload_n 1 (dk_at ktJ6_getChars_ba4f3_0 0 rfl) rfl rfl (b := 1) rfl) ?_
    refine gc_p (p_istore (ls' := [(5, .int (nI (st + 2))), (0, .int (nI v)), (1, .int (nI (st + 2))), (2, .ref a)]) (dk_at ktJ6_getChars_ba4f3_0 1 rfl) (by decide) rfl (b := 3) rfl) ?_
    refine gc_p (p_iload_n 1 (dk_at ktJ6_getChars_ba4f3_0 2 rfl) rfl rfl (b := 4) rfl) ?_
    refine g_if_ge (dk_at ktJ6_getChars_ba4f3_0 3 rfl) (b := 11) (by decide) (b2 := 7) rfl (fun c4 => ?_) (fun c4 => ?_)
    · have c4 : 0 ≤ v := (nI_leI (a := 0) (b := v) (by omega) (by omega)).mp c4
      refine gc_p (p_iconst (v := 0) (dk_at ktJ6_getChars_ba4f3_0 6 rfl) (by decide) (b := 12) rfl) ?_
      refine gc_p (p_istore (ls' := [(6, .int 0), (5, .int (nI (st + 2))), (0, .int (nI v)), (1, .int (nI (st + 2))), (2, .ref a)]) (dk_at ktJ6_getChars_ba4f3_0 7 rfl) (by decide) rfl (b := 14) rfl) ?_
      refine gc_p (p_iload 0 (dk_at ktJ6_getChars_ba4f3_0 8 rfl) rfl (b := 16) rfl) ?_
      refine g_if_ne (dk_at ktJ6_getChars_ba4f3_0 9 rfl) (b := 22) (by decide) (b2 := 19) rfl (fun c16 => ?_) (fun c16 => ?_)
      · first | exact absurd c16 (by decide) | exact absurd (by decide) c16
      · skip
        refine gc_p (p_iload_n 2 (dk_at ktJ6_getChars_ba4f3_0 10 rfl) rfl rfl (b := 20) rfl) ?_
        refine gc_p (p_ineg (v := (-nI v)) (dk_at ktJ6_getChars_ba4f3_0 11 rfl) rfl (b := 21) rfl) ?_
        refine gc_p (p_istore_n (ls' := [(0, .int (-nI v)), (6, .int 0), (5, .int (nI (st + 2))), (1, .int (nI (st + 2))), (2, .ref a)]) (dk_at ktJ6_getChars_ba4f3_0 12 rfl) rfl (by decide) rfl (b := 22) rfl) ?_
        refine gc_p (p_iload_n 0 (dk_at ktJ6_getChars_ba4f3_0 13 rfl) rfl rfl (b := 23) rfl) ?_
        refine gc_p (p_bipush (v := (-100)) (dk_at ktJ6_getChars_ba4f3_0 14 rfl) (by decide) (b := 25) rfl) ?_
        refine g_icmp_gt (dk_at ktJ6_getChars_ba4f3_0 15 rfl) (b := 72) (by decide) (b2 := 28) rfl (fun c25 => ?_) (fun c25 => ?_)
        · skip
          have c25 : v < 100 := (ng_lt (k := 100) (by omega) (by decide) (by decide)).mp c25
          refine gc_p (p_aload_n 4 (dk_at ktJ6_getChars_ba4f3_0 43 rfl) rfl rfl (b := 73) rfl) ?_
          refine gc_p (p_iinc (j := 2) (v := (nI (st + 1))) (ls' := [(5, .int (nI (st + 1))), (0, .int (-nI v)), (6, .int 0), (1, .int (nI (st + 2))), (2, .ref a)]) (dk_at ktJ6_getChars_ba4f3_0 44 rfl) rfl (pk_m1 (st + 1)) (by decide) rfl (b := 76) rfl) ?_
          refine gc_p (p_iload 0 (dk_at ktJ6_getChars_ba4f3_0 45 rfl) rfl (b := 78) rfl) ?_
          refine g_gdig1 fg_J6_83 (dk_at ktJ6_getChars_ba4f3_0 46 rfl) (b := 81) rfl ?_
          refine gc_p (p_iload_n 1 (dk_at ktJ6_getChars_ba4f3_0 47 rfl) rfl rfl (b := 82) rfl) ?_
          refine gc_p (p_ineg (v := (nI v)) (dk_at ktJ6_getChars_ba4f3_0 48 rfl) ng_ng (b := 83) rfl) ?_
          refine g_ddig1 (j := v) rfl (by omega) (dk_at ktJ6_getChars_ba4f3_0 49 rfl) (b := 84) rfl ?_
          refine g_bast (j := st + 1) ha sa (dk_at ktJ6_getChars_ba4f3_0 50 rfl) rfl ⟨by omega, by omega⟩ (dig_b (by omega)) (b := 85) rfl ?_
          refine gc_p (p_iload_n 1 (dk_at ktJ6_getChars_ba4f3_0 51 rfl) rfl rfl (b := 86) rfl) ?_
          refine gc_p (p_bipush (v := (-9)) (dk_at ktJ6_getChars_ba4f3_0 52 rfl) (by decide) (b := 88) rfl) ?_
          refine g_icmp_ge (dk_at ktJ6_getChars_ba4f3_0 53 rfl) (b := 104) (by decide) (b2 := 91) rfl (fun c88 => ?_) (fun c88 => ?_)
          · skip
            have c88 : v ≤ 9 := (ng_ge (k := 9) (by omega) (by decide) (by decide)).mp c88
            exfalso; omega
          · skip
            have c88 : ¬ v ≤ 9 := fun h => c88 ((ng_ge (k := 9) (by omega) (by decide) (by decide)).mpr h)
            refine gc_p (p_aload_n 4 (dk_at ktJ6_getChars_ba4f3_0 54 rfl) rfl rfl (b := 92) rfl) ?_
            refine gc_p (p_iinc (j := 0) (v := (nI st)) (ls' := [(5, .int (nI st)), (0, .int (-nI v)), (6, .int 0), (1, .int (nI (st + 2))), (2, .ref a)]) (dk_at ktJ6_getChars_ba4f3_0 55 rfl) rfl (pk_m1 (st)) (by decide) rfl (b := 95) rfl) ?_
            refine gc_p (p_iload 0 (dk_at ktJ6_getChars_ba4f3_0 56 rfl) rfl (b := 97) rfl) ?_
            refine g_gdig10 fg_J6_87 (dk_at ktJ6_getChars_ba4f3_0 57 rfl) (b := 100) rfl ?_
            refine gc_p (p_iload_n 1 (dk_at ktJ6_getChars_ba4f3_0 58 rfl) rfl rfl (b := 101) rfl) ?_
            refine gc_p (p_ineg (v := (nI v)) (dk_at ktJ6_getChars_ba4f3_0 59 rfl) ng_ng (b := 102) rfl) ?_
            refine g_ddig10 (j := v) rfl (by omega) (dk_at ktJ6_getChars_ba4f3_1 0 rfl) (b := 103) rfl ?_
            refine g_bast (j := st) ha sa (dk_at ktJ6_getChars_ba4f3_1 1 rfl) rfl ⟨by omega, by omega⟩ (dig_b (by omega)) (b := 104) rfl ?_
            refine gc_p (p_iload 2 (dk_at ktJ6_getChars_ba4f3_1 2 rfl) rfl (b := 106) rfl) ?_
            refine g_if_eq (dk_at ktJ6_getChars_ba4f3_1 3 rfl) (b := 118) (by decide) (b2 := 109) rfl (fun c106 => ?_) (fun c106 => ?_)
            · skip
              refine gc_p (p_iload 0 (dk_at ktJ6_getChars_ba4f3_1 9 rfl) rfl (b := 120) rfl) ?_
              refine h_iret (by first | rfl | decide) (dk_at ktJ6_getChars_ba4f3_1 10 rfl) ?_ ((hz.ui (by omega)).ui (by omega))
              have e : dg v = 2 := dg_2 (by omega) (by omega)
              refine ⟨rfl, rfl, ⟨fun b hb => ?_, fun j hj => ?_, fun k hk => ?_⟩, rfl⟩
              · exact (up2_off hb).trans ((up2_off hb).trans (rfl))
              · rw [e] at hj
                rw [up2_n (by omega), up2_n (by omega)]
              · rw [e] at hk
                rcases (by omega : k = 0 ∨ k = 1) with rfl | rfl
                · rw [Nat.add_zero st]
                  rw [up2_s]
                  unfold dgt
                  rw [e]
                  show nI _ = nI (48 + v / 10 % 10)
                  congr 1 <;> omega
                · rw [up2_n (by omega), up2_s]
                  unfold dgt
                  rw [e]
                  show nI _ = nI (48 + v / 1 % 10)
                  congr 1 <;> omega
            · first | exact absurd c106 (by decide) | exact absurd (by decide) c106
        · skip
          have c25 : ¬ v < 100 := fun h => c25 ((ng_lt (k := 100) (by omega) (by decide) (by decide)).mpr h)
          exfalso; omega
    · have c4 : ¬ 0 ≤ v := fun h => c4 ((nI_leI (a := 0) (b := v) (by omega) (by omega)).mpr h)
      exfalso; omega
  · rw [dg_3 h.1 h.2] at hp ⊢
    refine Sm.of (by decide) (ls := [(0, .int (nI v)), (1, .int (nI (st + 3))), (2, .ref a)]) (fun _ => rfl) (fun _ => Nat.le_of_ble_eq_true rfl) ?_
    refine gc_p (p_iload_n 1 (dk_at ktJ6_getChars_ba4f3_0 0 rfl) rfl rfl (b := 1) rfl) ?_
    refine gc_p (p_istore (ls' := [(5, .int (nI (st + 3))), (0, .int (nI v)), (1, .int (nI (st + 3))), (2, .ref a)]) (dk_at ktJ6_getChars_ba4f3_0 1 rfl) (by decide) rfl (b := 3) rfl) ?_
    refine gc_p (p_iload_n 1 (dk_at ktJ6_getChars_ba4f3_0 2 rfl) rfl rfl (b := 4) rfl) ?_
    refine g_if_ge (dk_at ktJ6_getChars_ba4f3_0 3 rfl) (b := 11) (by decide) (b2 := 7) rfl (fun c4 => ?_) (fun c4 => ?_)
    · have c4 : 0 ≤ v := (nI_leI (a := 0) (b := v) (by omega) (by omega)).mp c4
      refine gc_p (p_iconst (v := 0) (dk_at ktJ6_getChars_ba4f3_0 6 rfl) (by decide) (b := 12) rfl) ?_
      refine gc_p (p_istore (ls' := [(6, .int 0), (5, .int (nI (st + 3))), (0, .int (nI v)), (1, .int (nI (st + 3))), (2, .ref a)]) (dk_at ktJ6_getChars_ba4f3_0 7 rfl) (by decide) rfl (b := 14) rfl) ?_
      refine gc_p (p_iload 0 (dk_at ktJ6_getChars_ba4f3_0 8 rfl) rfl (b := 16) rfl) ?_
      refine g_if_ne (dk_at ktJ6_getChars_ba4f3_0 9 rfl) (b := 22) (by decide) (b2 := 19) rfl (fun c16 => ?_) (fun c16 => ?_)
      · first | exact absurd c16 (by decide) | exact absurd (by decide) c16
      · skip
        refine gc_p (p_iload_n 2 (dk_at ktJ6_getChars_ba4f3_0 10 rfl) rfl rfl (b := 20) rfl) ?_
        refine gc_p (p_ineg (v := (-nI v)) (dk_at ktJ6_getChars_ba4f3_0 11 rfl) rfl (b := 21) rfl) ?_
        refine gc_p (p_istore_n (ls' := [(0, .int (-nI v)), (6, .int 0), (5, .int (nI (st + 3))), (1, .int (nI (st + 3))), (2, .ref a)]) (dk_at ktJ6_getChars_ba4f3_0 12 rfl) rfl (by decide) rfl (b := 22) rfl) ?_
        refine gc_p (p_iload_n 0 (dk_at ktJ6_getChars_ba4f3_0 13 rfl) rfl rfl (b := 23) rfl) ?_
        refine gc_p (p_bipush (v := (-100)) (dk_at ktJ6_getChars_ba4f3_0 14 rfl) (by decide) (b := 25) rfl) ?_
        refine g_icmp_gt (dk_at ktJ6_getChars_ba4f3_0 15 rfl) (b := 72) (by decide) (b2 := 28) rfl (fun c25 => ?_) (fun c25 => ?_)
        · skip
          have c25 : v < 100 := (ng_lt (k := 100) (by omega) (by decide) (by decide)).mp c25
          exfalso; omega
        · skip
          have c25 : ¬ v < 100 := fun h => c25 ((ng_lt (k := 100) (by omega) (by decide) (by decide)).mpr h)
          refine gc_p (p_iload_n 0 (dk_at ktJ6_getChars_ba4f3_0 16 rfl) rfl rfl (b := 29) rfl) ?_
          refine gc_p (p_bipush (v := 100) (dk_at ktJ6_getChars_ba4f3_0 17 rfl) (by decide) (b := 31) rfl) ?_
          refine gc_p (p_idiv (v := (-nI (v / 100))) (dk_at ktJ6_getChars_ba4f3_0 18 rfl) (by decide) (ng_div (by omega)) (b := 32) rfl) ?_
          refine gc_p (p_istore_n (ls' := [(3, .int (-nI (v / 100))), (0, .int (-nI v)), (6, .int 0), (5, .int (nI (st + 3))), (1, .int (nI (st + 3))), (2, .ref a)]) (dk_at ktJ6_getChars_ba4f3_0 19 rfl) rfl (by decide) rfl (b := 33) rfl) ?_
          refine gc_p (p_iload_n 0 (dk_at ktJ6_getChars_ba4f3_0 20 rfl) rfl rfl (b := 34) rfl) ?_
          refine gc_p (p_bipush (v := 100) (dk_at ktJ6_getChars_ba4f3_0 21 rfl) (by decide) (b := 36) rfl) ?_
          refine gc_p (p_imul (v := ((-nI (v / 100)) * 100)) (dk_at ktJ6_getChars_ba4f3_0 22 rfl) rfl (b := 37) rfl) ?_
          refine gc_p (p_iload_n 1 (dk_at ktJ6_getChars_ba4f3_0 23 rfl) rfl rfl (b := 38) rfl) ?_
          refine gc_p (p_isub (v := (nI (v % 100))) (dk_at ktJ6_getChars_ba4f3_0 24 rfl) (ng_rem (by omega)) (b := 39) rfl) ?_
          refine gc_p (p_istore (ls' := [(4, .int (nI (v % 100))), (3, .int (-nI (v / 100))), (0, .int (-nI v)), (6, .int 0), (5, .int (nI (st + 3))), (1, .int (nI (st + 3))), (2, .ref a)]) (dk_at ktJ6_getChars_ba4f3_0 25 rfl) (by decide) rfl (b := 41) rfl) ?_
          refine gc_p (p_iload_n 1 (dk_at ktJ6_getChars_ba4f3_0 26 rfl) rfl rfl (b := 42) rfl) ?_
          refine gc_p (p_istore_n (ls' := [(0, .int (-nI (v / 100))), (4, .int (nI (v % 100))), (3, .int (-nI (v / 100))), (6, .int 0), (5, .int (nI (st + 3))), (1, .int (nI (st + 3))), (2, .ref a)]) (dk_at ktJ6_getChars_ba4f3_0 27 rfl) rfl (by decide) rfl (b := 43) rfl) ?_
          refine gc_p (p_aload_n 6 (dk_at ktJ6_getChars_ba4f3_0 28 rfl) rfl rfl (b := 44) rfl) ?_
          refine gc_p (p_iinc (j := 4) (v := (nI (st + 2))) (ls' := [(5, .int (nI (st + 2))), (0, .int (-nI (v / 100))), (4, .int (nI (v % 100))), (3, .int (-nI (v / 100))), (6, .int 0), (1, .int (nI (st + 3))), (2, .ref a)]) (dk_at ktJ6_getChars_ba4f3_0 29 rfl) rfl (pk_m1 (st + 2)) (by decide) rfl (b := 47) rfl) ?_
          refine gc_p (p_iload 0 (dk_at ktJ6_getChars_ba4f3_0 30 rfl) rfl (b := 49) rfl) ?_
          refine g_gdig1 fg_J6_83 (dk_at ktJ6_getChars_ba4f3_0 31 rfl) (b := 52) rfl ?_
          refine gc_p (p_iload 2 (dk_at ktJ6_getChars_ba4f3_0 32 rfl) rfl (b := 54) rfl) ?_
          refine g_ddig1 (j := v % 100) rfl (by omega) (dk_at ktJ6_getChars_ba4f3_0 33 rfl) (b := 55) rfl ?_
          refine g_bast (j := st + 2) ha sa (dk_at ktJ6_getChars_ba4f3_0 34 rfl) rfl ⟨by omega, by omega⟩ (dig_b (by omega)) (b := 56) rfl ?_
          refine gc_p (p_aload_n 6 (dk_at ktJ6_getChars_ba4f3_0 35 rfl) rfl rfl (b := 57) rfl) ?_
          refine gc_p (p_iinc (j := 0) (v := (nI (st + 1))) (ls' := [(5, .int (nI (st + 1))), (0, .int (-nI (v / 100))), (4, .int (nI (v % 100))), (3, .int (-nI (v / 100))), (6, .int 0), (1, .int (nI (st + 3))), (2, .ref a)]) (dk_at ktJ6_getChars_ba4f3_0 36 rfl) rfl (pk_m1 (st + 1)) (by decide) rfl (b := 60) rfl) ?_
          refine gc_p (p_iload 0 (dk_at ktJ6_getChars_ba4f3_0 37 rfl) rfl (b := 62) rfl) ?_
          refine g_gdig10 fg_J6_87 (dk_at ktJ6_getChars_ba4f3_0 38 rfl) (b := 65) rfl ?_
          refine gc_p (p_iload 2 (dk_at ktJ6_getChars_ba4f3_0 39 rfl) rfl (b := 67) rfl) ?_
          refine g_ddig10 (j := v % 100) rfl (by omega) (dk_at ktJ6_getChars_ba4f3_0 40 rfl) (b := 68) rfl ?_
          refine g_bast (j := st + 1) ha sa (dk_at ktJ6_getChars_ba4f3_0 41 rfl) rfl ⟨by omega, by omega⟩ (dig_b (by omega)) (b := 69) rfl ?_
          refine gc_p (p_goto (b := 22) (dk_at ktJ6_getChars_ba4f3_0 42 rfl) (by decide)) ?_
          refine gc_p (p_iload_n 1 (dk_at ktJ6_getChars_ba4f3_0 13 rfl) rfl rfl (b := 23) rfl) ?_
          refine gc_p (p_bipush (v := (-100)) (dk_at ktJ6_getChars_ba4f3_0 14 rfl) (by decide) (b := 25) rfl) ?_
          refine g_icmp_gt (dk_at ktJ6_getChars_ba4f3_0 15 rfl) (b := 72) (by decide) (b2 := 28) rfl (fun c25_1 => ?_) (fun c25_1 => ?_)
          · skip
            have c25_1 : v / 100 < 100 := (ng_lt (k := 100) (by omega) (by decide) (by decide)).mp c25_1
            refine gc_p (p_aload_n 6 (dk_at ktJ6_getChars_ba4f3_0 43 rfl) rfl rfl (b := 73) rfl) ?_
            refine gc_p (p_iinc (j := 0) (v := (nI st)) (ls' := [(5, .int (nI st)), (0, .int (-nI (v / 100))), (4, .int (nI (v % 100))), (3, .int (-nI (v / 100))), (6, .int 0), (1, .int (nI (st + 3))), (2, .ref a)]) (dk_at ktJ6_getChars_ba4f3_0 44 rfl) rfl (pk_m1 (st)) (by decide) rfl (b := 76) rfl) ?_
            refine gc_p (p_iload 0 (dk_at ktJ6_getChars_ba4f3_0 45 rfl) rfl (b := 78) rfl) ?_
            refine g_gdig1 fg_J6_83 (dk_at ktJ6_getChars_ba4f3_0 46 rfl) (b := 81) rfl ?_
            refine gc_p (p_iload_n 1 (dk_at ktJ6_getChars_ba4f3_0 47 rfl) rfl rfl (b := 82) rfl) ?_
            refine gc_p (p_ineg (v := (nI (v / 100))) (dk_at ktJ6_getChars_ba4f3_0 48 rfl) ng_ng (b := 83) rfl) ?_
            refine g_ddig1 (j := v / 100) rfl (by omega) (dk_at ktJ6_getChars_ba4f3_0 49 rfl) (b := 84) rfl ?_
            refine g_bast (j := st) ha sa (dk_at ktJ6_getChars_ba4f3_0 50 rfl) rfl ⟨by omega, by omega⟩ (dig_b (by omega)) (b := 85) rfl ?_
            refine gc_p (p_iload_n 1 (dk_at ktJ6_getChars_ba4f3_0 51 rfl) rfl rfl (b := 86) rfl) ?_
            refine gc_p (p_bipush (v := (-9)) (dk_at ktJ6_getChars_ba4f3_0 52 rfl) (by decide) (b := 88) rfl) ?_
            refine g_icmp_ge (dk_at ktJ6_getChars_ba4f3_0 53 rfl) (b := 104) (by decide) (b2 := 91) rfl (fun c88 => ?_) (fun c88 => ?_)
            · skip
              have c88 : v / 100 ≤ 9 := (ng_ge (k := 9) (by omega) (by decide) (by decide)).mp c88
              refine gc_p (p_iload 4 (dk_at ktJ6_getChars_ba4f3_1 2 rfl) rfl (b := 106) rfl) ?_
              refine g_if_eq (dk_at ktJ6_getChars_ba4f3_1 3 rfl) (b := 118) (by decide) (b2 := 109) rfl (fun c106 => ?_) (fun c106 => ?_)
              · skip
                refine gc_p (p_iload 0 (dk_at ktJ6_getChars_ba4f3_1 9 rfl) rfl (b := 120) rfl) ?_
                refine h_iret (by first | rfl | decide) (dk_at ktJ6_getChars_ba4f3_1 10 rfl) ?_ (((hz.ui (by omega)).ui (by omega)).ui (by omega))
                have e : dg v = 3 := dg_3 (by omega) (by omega)
                refine ⟨rfl, rfl, ⟨fun b hb => ?_, fun j hj => ?_, fun k hk => ?_⟩, rfl⟩
                · exact (up2_off hb).trans ((up2_off hb).trans ((up2_off hb).trans (rfl)))
                · rw [e] at hj
                  rw [up2_n (by omega), up2_n (by omega), up2_n (by omega)]
                · rw [e] at hk
                  rcases (by omega : k = 0 ∨ k = 1 ∨ k = 2) with rfl | rfl | rfl
                  · rw [Nat.add_zero st]
                    rw [up2_s]
                    unfold dgt
                    rw [e]
                    show nI _ = nI (48 + v / 100 % 10)
                    congr 1 <;> omega
                  · rw [up2_n (by omega), up2_s]
                    unfold dgt
                    rw [e]
                    show nI _ = nI (48 + v / 10 % 10)
                    congr 1 <;> omega
                  · rw [up2_n (by omega), up2_n (by omega), up2_s]
                    unfold dgt
                    rw [e]
                    show nI _ = nI (48 + v / 1 % 10)
                    congr 1 <;> omega
              · first | exact absurd c106 (by decide) | exact absurd (by decide) c106
            · skip
              have c88 : ¬ v / 100 ≤ 9 := fun h => c88 ((ng_ge (k := 9) (by omega) (by decide) (by decide)).mpr h)
              exfalso; omega
          · skip
            have c25_1 : ¬ v / 100 < 100 := fun h => c25_1 ((ng_lt (k := 100) (by omega) (by decide) (by decide)).mpr h)
            exfalso; omega
    · have c4 : ¬ 0 ≤ v := fun h => c4 ((nI_leI (a := 0) (b := v) (by omega) (by omega)).mpr h)
      exfalso; omega
  · rw [dg_4 h.1 h.2] at hp ⊢
    refine Sm.of (by decide) (ls := [(0, .int (nI v)), (1, .int (nI (st + 4))), (2, .ref a)]) (fun _ => rfl) (fun _ => Nat.le_of_ble_eq_true rfl) ?_
    refine gc_p (p_iload_n 1 (dk_at ktJ6_getChars_ba4f3_0 0 rfl) rfl rfl (b := 1) rfl) ?_
    refine gc_p (p_istore (ls' := [(5, .int (nI (st + 4))), (0, .int (nI v)), (1, .int (nI (st + 4))), (2, .ref a)]) (dk_at ktJ6_getChars_ba4f3_0 1 rfl) (by decide) rfl (b := 3) rfl) ?_
    refine gc_p (p_iload_n 1 (dk_at ktJ6_getChars_ba4f3_0 2 rfl) rfl rfl (b := 4) rfl) ?_
    refine g_if_ge (dk_at ktJ6_getChars_ba4f3_0 3 rfl) (b := 11) (by decide) (b2 := 7) rfl (fun c4 => ?_) (fun c4 => ?_)
    · have c4 : 0 ≤ v := (nI_leI (a := 0) (b := v) (by omega) (by omega)).mp c4
      refine gc_p (p_iconst (v := 0) (dk_at ktJ6_getChars_ba4f3_0 6 rfl) (by decide) (b := 12) rfl) ?_
      refine gc_p (p_istore (ls' := [(6, .int 0), (5, .int (nI (st + 4))), (0, .int (nI v)), (1, .int (nI (st + 4))), (2, .ref a)]) (dk_at ktJ6_getChars_ba4f3_0 7 rfl) (by decide) rfl (b := 14) rfl) ?_
      refine gc_p (p_iload 0 (dk_at ktJ6_getChars_ba4f3_0 8 rfl) rfl (b := 16) rfl) ?_
      refine g_if_ne (dk_at ktJ6_getChars_ba4f3_0 9 rfl) (b := 22) (by decide) (b2 := 19) rfl (fun c16 => ?_) (fun c16 => ?_)
      · first | exact absurd c16 (by decide) | exact absurd (by decide) c16
      · skip
        refine gc_p (p_iload_n 2 (dk_at ktJ6_getChars_ba4f3_0 10 rfl) rfl rfl (b := 20) rfl) ?_
        refine gc_p (p_ineg (v := (-nI v)) (dk_at ktJ6_getChars_ba4f3_0 11 rfl) rfl (b := 21) rfl) ?_
        refine gc_p (p_istore_n (ls' := [(0, .int (-nI v)), (6, .int 0), (5, .int (nI (st + 4))), (1, .int (nI (st + 4))), (2, .ref a)]) (dk_at ktJ6_getChars_ba4f3_0 12 rfl) rfl (by decide) rfl (b := 22) rfl) ?_
        refine gc_p (p_iload_n 0 (dk_at ktJ6_getChars_ba4f3_0 13 rfl) rfl rfl (b := 23) rfl) ?_
        refine gc_p (p_bipush (v := (-100)) (dk_at ktJ6_getChars_ba4f3_0 14 rfl) (by decide) (b := 25) rfl) ?_
        refine g_icmp_gt (dk_at ktJ6_getChars_ba4f3_0 15 rfl) (b := 72) (by decide) (b2 := 28) rfl (fun c25 => ?_) (fun c25 => ?_)
        · skip
          have c25 : v < 100 := (ng_lt (k := 100) (by omega) (by decide) (by decide)).mp c25
          exfalso; omega
        · skip
          have c25 : ¬ v < 100 := fun h => c25 ((ng_lt (k := 100) (by omega) (by decide) (by decide)).mpr h)
          refine gc_p (p_iload_n 0 (dk_at ktJ6_getChars_ba4f3_0 16 rfl) rfl rfl (b := 29) rfl) ?_
          refine gc_p (p_bipush (v := 100) (dk_at ktJ6_getChars_ba4f3_0 17 rfl) (by decide) (b := 31) rfl) ?_
          refine gc_p (p_idiv (v := (-nI (v / 100))) (dk_at ktJ6_getChars_ba4f3_0 18 rfl) (by decide) (ng_div (by omega)) (b := 32) rfl) ?_
          refine gc_p (p_istore_n (ls' := [(3, .int (-nI (v / 100))), (0, .int (-nI v)), (6, .int 0), (5, .int (nI (st + 4))), (1, .int (nI (st + 4))), (2, .ref a)]) (dk_at ktJ6_getChars_ba4f3_0 19 rfl) rfl (by decide) rfl (b := 33) rfl) ?_
          refine gc_p (p_iload_n 0 (dk_at ktJ6_getChars_ba4f3_0 20 rfl) rfl rfl (b := 34) rfl) ?_
          refine gc_p (p_bipush (v := 100) (dk_at ktJ6_getChars_ba4f3_0 21 rfl) (by decide) (b := 36) rfl) ?_
          refine gc_p (p_imul (v := ((-nI (v / 100)) * 100)) (dk_at ktJ6_getChars_ba4f3_0 22 rfl) rfl (b := 37) rfl) ?_
          refine gc_p (p_iload_n 1 (dk_at ktJ6_getChars_ba4f3_0 23 rfl) rfl rfl (b := 38) rfl) ?_
          refine gc_p (p_isub (v := (nI (v % 100))) (dk_at ktJ6_getChars_ba4f3_0 24 rfl) (ng_rem (by omega)) (b := 39) rfl) ?_
          refine gc_p (p_istore (ls' := [(4, .int (nI (v % 100))), (3, .int (-nI (v / 100))), (0, .int (-nI v)), (6, .int 0), (5, .int (nI (st + 4))), (1, .int (nI (st + 4))), (2, .ref a)]) (dk_at ktJ6_getChars_ba4f3_0 25 rfl) (by decide) rfl (b := 41) rfl) ?_
          refine gc_p (p_iload_n 1 (dk_at ktJ6_getChars_ba4f3_0 26 rfl) rfl rfl (b := 42) rfl) ?_
          refine gc_p (p_istore_n (ls' := [(0, .int (-nI (v / 100))), (4, .int (nI (v % 100))), (3, .int (-nI (v / 100))), (6, .int 0), (5, .int (nI (st + 4))), (1, .int (nI (st + 4))), (2, .ref a)]) (dk_at ktJ6_getChars_ba4f3_0 27 rfl) rfl (by decide) rfl (b := 43) rfl) ?_
          refine gc_p (p_aload_n 6 (dk_at ktJ6_getChars_ba4f3_0 28 rfl) rfl rfl (b := 44) rfl) ?_
          refine gc_p (p_iinc (j := 4) (v := (nI (st + 3))) (ls' := [(5, .int (nI (st + 3))), (0, .int (-nI (v / 100))), (4, .int (nI (v % 100))), (3, .int (-nI (v / 100))), (6, .int 0), (1, .int (nI (st + 4))), (2, .ref a)]) (dk_at ktJ6_getChars_ba4f3_0 29 rfl) rfl (pk_m1 (st + 3)) (by decide) rfl (b := 47) rfl) ?_
          refine gc_p (p_iload 0 (dk_at ktJ6_getChars_ba4f3_0 30 rfl) rfl (b := 49) rfl) ?_
          refine g_gdig1 fg_J6_83 (dk_at ktJ6_getChars_ba4f3_0 31 rfl) (b := 52) rfl ?_
          refine gc_p (p_iload 2 (dk_at ktJ6_getChars_ba4f3_0 32 rfl) rfl (b := 54) rfl) ?_
          refine g_ddig1 (j := v % 100) rfl (by omega) (dk_at ktJ6_getChars_ba4f3_0 33 rfl) (b := 55) rfl ?_
          refine g_bast (j := st + 3) ha sa (dk_at ktJ6_getChars_ba4f3_0 34 rfl) rfl ⟨by omega, by omega⟩ (dig_b (by omega)) (b := 56) rfl ?_
          refine gc_p (p_aload_n 6 (dk_at ktJ6_getChars_ba4f3_0 35 rfl) rfl rfl (b := 57) rfl) ?_
          refine gc_p (p_iinc (j := 0) (v := (nI (st + 2))) (ls' := [(5, .int (nI (st + 2))), (0, .int (-nI (v / 100))), (4, .int (nI (v % 100))), (3, .int (-nI (v / 100))), (6, .int 0), (1, .int (nI (st + 4))), (2, .ref a)]) (dk_at ktJ6_getChars_ba4f3_0 36 rfl) rfl (pk_m1 (st + 2)) (by decide) rfl (b := 60) rfl) ?_
          refine gc_p (p_iload 0 (dk_at ktJ6_getChars_ba4f3_0 37 rfl) rfl (b := 62) rfl) ?_
          refine g_gdig10 fg_J6_87 (dk_at ktJ6_getChars_ba4f3_0 38 rfl) (b := 65) rfl ?_
          refine gc_p (p_iload 2 (dk_at ktJ6_getChars_ba4f3_0 39 rfl) rfl (b := 67) rfl) ?_
          refine g_ddig10 (j := v % 100) rfl (by omega) (dk_at ktJ6_getChars_ba4f3_0 40 rfl) (b := 68) rfl ?_
          refine g_bast (j := st + 2) ha sa (dk_at ktJ6_getChars_ba4f3_0 41 rfl) rfl ⟨by omega, by omega⟩ (dig_b (by omega)) (b := 69) rfl ?_
          refine gc_p (p_goto (b := 22) (dk_at ktJ6_getChars_ba4f3_0 42 rfl) (by decide)) ?_
          refine gc_p (p_iload_n 1 (dk_at ktJ6_getChars_ba4f3_0 13 rfl) rfl rfl (b := 23) rfl) ?_
          refine gc_p (p_bipush (v := (-100)) (dk_at ktJ6_getChars_ba4f3_0 14 rfl) (by decide) (b := 25) rfl) ?_
          refine g_icmp_gt (dk_at ktJ6_getChars_ba4f3_0 15 rfl) (b := 72) (by decide) (b2 := 28) rfl (fun c25_1 => ?_) (fun c25_1 => ?_)
          · skip
            have c25_1 : v / 100 < 100 := (ng_lt (k := 100) (by omega) (by decide) (by decide)).mp c25_1
            refine gc_p (p_aload_n 6 (dk_at ktJ6_getChars_ba4f3_0 43 rfl) rfl rfl (b := 73) rfl) ?_
            refine gc_p (p_iinc (j := 0) (v := (nI (st + 1))) (ls' := [(5, .int (nI (st + 1))), (0, .int (-nI (v / 100))), (4, .int (nI (v % 100))), (3, .int (-nI (v / 100))), (6, .int 0), (1, .int (nI (st + 4))), (2, .ref a)]) (dk_at ktJ6_getChars_ba4f3_0 44 rfl) rfl (pk_m1 (st + 1)) (by decide) rfl (b := 76) rfl) ?_
            refine gc_p (p_iload 0 (dk_at ktJ6_getChars_ba4f3_0 45 rfl) rfl (b := 78) rfl) ?_
            refine g_gdig1 fg_J6_83 (dk_at ktJ6_getChars_ba4f3_0 46 rfl) (b := 81) rfl ?_
            refine gc_p (p_iload_n 1 (dk_at ktJ6_getChars_ba4f3_0 47 rfl) rfl rfl (b := 82) rfl) ?_
            refine gc_p (p_ineg (v := (nI (v / 100))) (dk_at ktJ6_getChars_ba4f3_0 48 rfl) ng_ng (b := 83) rfl) ?_
            refine g_ddig1 (j := v / 100) rfl (by omega) (dk_at ktJ6_getChars_ba4f3_0 49 rfl) (b := 84) rfl ?_
            refine g_bast (j := st + 1) ha sa (dk_at ktJ6_getChars_ba4f3_0 50 rfl) rfl ⟨by omega, by omega⟩ (dig_b (by omega)) (b := 85) rfl ?_
            refine gc_p (p_iload_n 1 (dk_at ktJ6_getChars_ba4f3_0 51 rfl) rfl rfl (b := 86) rfl) ?_
            refine gc_p (p_bipush (v := (-9)) (dk_at ktJ6_getChars_ba4f3_0 52 rfl) (by decide) (b := 88) rfl) ?_
            refine g_icmp_ge (dk_at ktJ6_getChars_ba4f3_0 53 rfl) (b := 104) (by decide) (b2 := 91) rfl (fun c88 => ?_) (fun c88 => ?_)
            · skip
              have c88 : v / 100 ≤ 9 := (ng_ge (k := 9) (by omega) (by decide) (by decide)).mp c88
              exfalso; omega
            · skip
              have c88 : ¬ v / 100 ≤ 9 := fun h => c88 ((ng_ge (k := 9) (by omega) (by decide) (by decide)).mpr h)
              refine gc_p (p_aload_n 6 (dk_at ktJ6_getChars_ba4f3_0 54 rfl) rfl rfl (b := 92) rfl) ?_
              refine gc_p (p_iinc (j := 0) (v := (nI st)) (ls' := [(5, .int (nI st)), (0, .int (-nI (v / 100))), (4, .int (nI (v % 100))), (3, .int (-nI (v / 100))), (6, .int 0), (1, .int (nI (st + 4))), (2, .ref a)]) (dk_at ktJ6_getChars_ba4f3_0 55 rfl) rfl (pk_m1 (st)) (by decide) rfl (b := 95) rfl) ?_
              refine gc_p (p_iload 0 (dk_at ktJ6_getChars_ba4f3_0 56 rfl) rfl (b := 97) rfl) ?_
              refine g_gdig10 fg_J6_87 (dk_at ktJ6_getChars_ba4f3_0 57 rfl) (b := 100) rfl ?_
              refine gc_p (p_iload_n 1 (dk_at ktJ6_getChars_ba4f3_0 58 rfl) rfl rfl (b := 101) rfl) ?_
              refine gc_p (p_ineg (v := (nI (v / 100))) (dk_at ktJ6_getChars_ba4f3_0 59 rfl) ng_ng (b := 102) rfl) ?_
              refine g_ddig10 (j := v / 100) rfl (by omega) (dk_at ktJ6_getChars_ba4f3_1 0 rfl) (b := 103) rfl ?_
              refine g_bast (j := st) ha sa (dk_at ktJ6_getChars_ba4f3_1 1 rfl) rfl ⟨by omega, by omega⟩ (dig_b (by omega)) (b := 104) rfl ?_
              refine gc_p (p_iload 4 (dk_at ktJ6_getChars_ba4f3_1 2 rfl) rfl (b := 106) rfl) ?_
              refine g_if_eq (dk_at ktJ6_getChars_ba4f3_1 3 rfl) (b := 118) (by decide) (b2 := 109) rfl (fun c106 => ?_) (fun c106 => ?_)
              · skip
                refine gc_p (p_iload 0 (dk_at ktJ6_getChars_ba4f3_1 9 rfl) rfl (b := 120) rfl) ?_
                refine h_iret (by first | rfl | decide) (dk_at ktJ6_getChars_ba4f3_1 10 rfl) ?_ ((((hz.ui (by omega)).ui (by omega)).ui (by omega)).ui (by omega))
                have e : dg v = 4 := dg_4 (by omega) (by omega)
                refine ⟨rfl, rfl, ⟨fun b hb => ?_, fun j hj => ?_, fun k hk => ?_⟩, rfl⟩
                · exact (up2_off hb).trans ((up2_off hb).trans ((up2_off hb).trans ((up2_off hb).trans (rfl))))
                · rw [e] at hj
                  rw [up2_n (by omega), up2_n (by omega), up2_n (by omega), up2_n (by omega)]
                · rw [e] at hk
                  rcases (by omega : k = 0 ∨ k = 1 ∨ k = 2 ∨ k = 3) with rfl | rfl | rfl | rfl
                  · rw [Nat.add_zero st]
                    rw [up2_s]
                    unfold dgt
                    rw [e]
                    show nI _ = nI (48 + v / 1000 % 10)
                    congr 1 <;> omega
                  · rw [up2_n (by omega), up2_s]
                    unfold dgt
                    rw [e]
                    show nI _ = nI (48 + v / 100 % 10)
                    congr 1 <;> omega
                  · rw [up2_n (by omega), up2_n (by omega), up2_s]
                    unfold dgt
                    rw [e]
                    show nI _ = nI (48 + v / 10 % 10)
                    congr 1 <;> omega
                  · rw [up2_n (by omega), up2_n (by omega), up2_n (by omega), up2_s]
                    unfold dgt
                    rw [e]
                    show nI _ = nI (48 + v / 1 % 10)
                    congr 1 <;> omega
              · first | exact absurd c106 (by decide) | exact absurd (by decide) c106
          · skip
            have c25_1 : ¬ v / 100 < 100 := fun h => c25_1 ((ng_lt (k := 100) (by omega) (by decide) (by decide)).mpr h)
            exfalso; omega
    · have c4 : ¬ 0 ≤ v := fun h => c4 ((nI_leI (a := 0) (b := v) (by omega) (by omega)).mpr h)
      exfalso; omega
  · rw [dg_5 h] at hp ⊢
    refine Sm.of (by decide) (ls := [(0, .int (nI v)), (1, .int (nI (st + 5))), (2, .ref a)]) (fun _ => rfl) (fun _ => Nat.le_of_ble_eq_true rfl) ?_
    refine gc_p (p_iload_n 1 (dk_at ktJ6_getChars_ba4f3_0 0 rfl) rfl rfl (b := 1) rfl) ?_
    refine gc_p (p_istore (ls' := [(5, .int (nI (st + 5))), (0, .int (nI v)), (1, .int (nI (st + 5))), (2, .ref a)]) (dk_at ktJ6_getChars_ba4f3_0 1 rfl) (by decide) rfl (b := 3) rfl) ?_
    refine gc_p (p_iload_n 1 (dk_at ktJ6_getChars_ba4f3_0 2 rfl) rfl rfl (b := 4) rfl) ?_
    refine g_if_ge (dk_at ktJ6_getChars_ba4f3_0 3 rfl) (b := 11) (by decide) (b2 := 7) rfl (fun c4 => ?_) (fun c4 => ?_)
    · have c4 : 0 ≤ v := (nI_leI (a := 0) (b := v) (by omega) (by omega)).mp c4
      refine gc_p (p_iconst (v := 0) (dk_at ktJ6_getChars_ba4f3_0 6 rfl) (by decide) (b := 12) rfl) ?_
      refine gc_p (p_istore (ls' := [(6, .int 0), (5, .int (nI (st + 5))), (0, .int (nI v)), (1, .int (nI (st + 5))), (2, .ref a)]) (dk_at ktJ6_getChars_ba4f3_0 7 rfl) (by decide) rfl (b := 14) rfl) ?_
      refine gc_p (p_iload 0 (dk_at ktJ6_getChars_ba4f3_0 8 rfl) rfl (b := 16) rfl) ?_
      refine g_if_ne (dk_at ktJ6_getChars_ba4f3_0 9 rfl) (b := 22) (by decide) (b2 := 19) rfl (fun c16 => ?_) (fun c16 => ?_)
      · first | exact absurd c16 (by decide) | exact absurd (by decide) c16
      · skip
        refine gc_p (p_iload_n 2 (dk_at ktJ6_getChars_ba4f3_0 10 rfl) rfl rfl (b := 20) rfl) ?_
        refine gc_p (p_ineg (v := (-nI v)) (dk_at ktJ6_getChars_ba4f3_0 11 rfl) rfl (b := 21) rfl) ?_
        refine gc_p (p_istore_n (ls' := [(0, .int (-nI v)), (6, .int 0), (5, .int (nI (st + 5))), (1, .int (nI (st + 5))), (2, .ref a)]) (dk_at ktJ6_getChars_ba4f3_0 12 rfl) rfl (by decide) rfl (b := 22) rfl) ?_
        refine gc_p (p_iload_n 0 (dk_at ktJ6_getChars_ba4f3_0 13 rfl) rfl rfl (b := 23) rfl) ?_
        refine gc_p (p_bipush (v := (-100)) (dk_at ktJ6_getChars_ba4f3_0 14 rfl) (by decide) (b := 25) rfl) ?_
        refine g_icmp_gt (dk_at ktJ6_getChars_ba4f3_0 15 rfl) (b := 72) (by decide) (b2 := 28) rfl (fun c25 => ?_) (fun c25 => ?_)
        · skip
          have c25 : v < 100 := (ng_lt (k := 100) (by omega) (by decide) (by decide)).mp c25
          exfalso; omega
        · skip
          have c25 : ¬ v < 100 := fun h => c25 ((ng_lt (k := 100) (by omega) (by decide) (by decide)).mpr h)
          refine gc_p (p_iload_n 0 (dk_at ktJ6_getChars_ba4f3_0 16 rfl) rfl rfl (b := 29) rfl) ?_
          refine gc_p (p_bipush (v := 100) (dk_at ktJ6_getChars_ba4f3_0 17 rfl) (by decide) (b := 31) rfl) ?_
          refine gc_p (p_idiv (v := (-nI (v / 100))) (dk_at ktJ6_getChars_ba4f3_0 18 rfl) (by decide) (ng_div (by omega)) (b := 32) rfl) ?_
          refine gc_p (p_istore_n (ls' := [(3, .int (-nI (v / 100))), (0, .int (-nI v)), (6, .int 0), (5, .int (nI (st + 5))), (1, .int (nI (st + 5))), (2, .ref a)]) (dk_at ktJ6_getChars_ba4f3_0 19 rfl) rfl (by decide) rfl (b := 33) rfl) ?_
          refine gc_p (p_iload_n 0 (dk_at ktJ6_getChars_ba4f3_0 20 rfl) rfl rfl (b := 34) rfl) ?_
          refine gc_p (p_bipush (v := 100) (dk_at ktJ6_getChars_ba4f3_0 21 rfl) (by decide) (b := 36) rfl) ?_
          refine gc_p (p_imul (v := ((-nI (v / 100)) * 100)) (dk_at ktJ6_getChars_ba4f3_0 22 rfl) rfl (b := 37) rfl) ?_
          refine gc_p (p_iload_n 1 (dk_at ktJ6_getChars_ba4f3_0 23 rfl) rfl rfl (b := 38) rfl) ?_
          refine gc_p (p_isub (v := (nI (v % 100))) (dk_at ktJ6_getChars_ba4f3_0 24 rfl) (ng_rem (by omega)) (b := 39) rfl) ?_
          refine gc_p (p_istore (ls' := [(4, .int (nI (v % 100))), (3, .int (-nI (v / 100))), (0, .int (-nI v)), (6, .int 0), (5, .int (nI (st + 5))), (1, .int (nI (st + 5))), (2, .ref a)]) (dk_at ktJ6_getChars_ba4f3_0 25 rfl) (by decide) rfl (b := 41) rfl) ?_
          refine gc_p (p_iload_n 1 (dk_at ktJ6_getChars_ba4f3_0 26 rfl) rfl rfl (b := 42) rfl) ?_
          refine gc_p (p_istore_n (ls' := [(0, .int (-nI (v / 100))), (4, .int (nI (v % 100))), (3, .int (-nI (v / 100))), (6, .int 0), (5, .int (nI (st + 5))), (1, .int (nI (st + 5))), (2, .ref a)]) (dk_at ktJ6_getChars_ba4f3_0 27 rfl) rfl (by decide) rfl (b := 43) rfl) ?_
          refine gc_p (p_aload_n 6 (dk_at ktJ6_getChars_ba4f3_0 28 rfl) rfl rfl (b := 44) rfl) ?_
          refine gc_p (p_iinc (j := 4) (v := (nI (st + 4))) (ls' := [(5, .int (nI (st + 4))), (0, .int (-nI (v / 100))), (4, .int (nI (v % 100))), (3, .int (-nI (v / 100))), (6, .int 0), (1, .int (nI (st + 5))), (2, .ref a)]) (dk_at ktJ6_getChars_ba4f3_0 29 rfl) rfl (pk_m1 (st + 4)) (by decide) rfl (b := 47) rfl) ?_
          refine gc_p (p_iload 0 (dk_at ktJ6_getChars_ba4f3_0 30 rfl) rfl (b := 49) rfl) ?_
          refine g_gdig1 fg_J6_83 (dk_at ktJ6_getChars_ba4f3_0 31 rfl) (b := 52) rfl ?_
          refine gc_p (p_iload 2 (dk_at ktJ6_getChars_ba4f3_0 32 rfl) rfl (b := 54) rfl) ?_
          refine g_ddig1 (j := v % 100) rfl (by omega) (dk_at ktJ6_getChars_ba4f3_0 33 rfl) (b := 55) rfl ?_
          refine g_bast (j := st + 4) ha sa (dk_at ktJ6_getChars_ba4f3_0 34 rfl) rfl ⟨by omega, by omega⟩ (dig_b (by omega)) (b := 56) rfl ?_
          refine gc_p (p_aload_n 6 (dk_at ktJ6_getChars_ba4f3_0 35 rfl) rfl rfl (b := 57) rfl) ?_
          refine gc_p (p_iinc (j := 0) (v := (nI (st + 3))) (ls' := [(5, .int (nI (st + 3))), (0, .int (-nI (v / 100))), (4, .int (nI (v % 100))), (3, .int (-nI (v / 100))), (6, .int 0), (1, .int (nI (st + 5))), (2, .ref a)]) (dk_at ktJ6_getChars_ba4f3_0 36 rfl) rfl (pk_m1 (st + 3)) (by decide) rfl (b := 60) rfl) ?_
          refine gc_p (p_iload 0 (dk_at ktJ6_getChars_ba4f3_0 37 rfl) rfl (b := 62) rfl) ?_
          refine g_gdig10 fg_J6_87 (dk_at ktJ6_getChars_ba4f3_0 38 rfl) (b := 65) rfl ?_
          refine gc_p (p_iload 2 (dk_at ktJ6_getChars_ba4f3_0 39 rfl) rfl (b := 67) rfl) ?_
          refine g_ddig10 (j := v % 100) rfl (by omega) (dk_at ktJ6_getChars_ba4f3_0 40 rfl) (b := 68) rfl ?_
          refine g_bast (j := st + 3) ha sa (dk_at ktJ6_getChars_ba4f3_0 41 rfl) rfl ⟨by omega, by omega⟩ (dig_b (by omega)) (b := 69) rfl ?_
          refine gc_p (p_goto (b := 22) (dk_at ktJ6_getChars_ba4f3_0 42 rfl) (by decide)) ?_
          refine gc_p (p_iload_n 1 (dk_at ktJ6_getChars_ba4f3_0 13 rfl) rfl rfl (b := 23) rfl) ?_
          refine gc_p (p_bipush (v := (-100)) (dk_at ktJ6_getChars_ba4f3_0 14 rfl) (by decide) (b := 25) rfl) ?_
          refine g_icmp_gt (dk_at ktJ6_getChars_ba4f3_0 15 rfl) (b := 72) (by decide) (b2 := 28) rfl (fun c25_1 => ?_) (fun c25_1 => ?_)
          · skip
            have c25_1 : v / 100 < 100 := (ng_lt (k := 100) (by omega) (by decide) (by decide)).mp c25_1
            exfalso; omega
          · skip
            have c25_1 : ¬ v / 100 < 100 := fun h => c25_1 ((ng_lt (k := 100) (by omega) (by decide) (by decide)).mpr h)
            refine gc_p (p_iload_n 1 (dk_at ktJ6_getChars_ba4f3_0 16 rfl) rfl rfl (b := 29) rfl) ?_
            refine gc_p (p_bipush (v := 100) (dk_at ktJ6_getChars_ba4f3_0 17 rfl) (by decide) (b := 31) rfl) ?_
            refine gc_p (p_idiv (v := (-nI (v / 100 / 100))) (dk_at ktJ6_getChars_ba4f3_0 18 rfl) (by decide) (ng_div (by omega)) (b := 32) rfl) ?_
            refine gc_p (p_istore_n (ls' := [(3, .int (-nI (v / 100 / 100))), (5, .int (nI (st + 3))), (0, .int (-nI (v / 100))), (4, .int (nI (v % 100))), (6, .int 0), (1, .int (nI (st + 5))), (2, .ref a)]) (dk_at ktJ6_getChars_ba4f3_0 19 rfl) rfl (by decide) rfl (b := 33) rfl) ?_
            refine gc_p (p_iload_n 0 (dk_at ktJ6_getChars_ba4f3_0 20 rfl) rfl rfl (b := 34) rfl) ?_
            refine gc_p (p_bipush (v := 100) (dk_at ktJ6_getChars_ba4f3_0 21 rfl) (by decide) (b := 36) rfl) ?_
            refine gc_p (p_imul (v := ((-nI (v / 100 / 100)) * 100)) (dk_at ktJ6_getChars_ba4f3_0 22 rfl) rfl (b := 37) rfl) ?_
            refine gc_p (p_iload_n 2 (dk_at ktJ6_getChars_ba4f3_0 23 rfl) rfl rfl (b := 38) rfl) ?_
            refine gc_p (p_isub (v := (nI ((v / 100) % 100))) (dk_at ktJ6_getChars_ba4f3_0 24 rfl) (ng_rem (by omega)) (b := 39) rfl) ?_
            refine gc_p (p_istore (ls' := [(4, .int (nI ((v / 100) % 100))), (3, .int (-nI (v / 100 / 100))), (5, .int (nI (st + 3))), (0, .int (-nI (v / 100))), (6, .int 0), (1, .int (nI (st + 5))), (2, .ref a)]) (dk_at ktJ6_getChars_ba4f3_0 25 rfl) (by decide) rfl (b := 41) rfl) ?_
            refine gc_p (p_iload_n 1 (dk_at ktJ6_getChars_ba4f3_0 26 rfl) rfl rfl (b := 42) rfl) ?_
            refine gc_p (p_istore_n (ls' := [(0, .int (-nI (v / 100 / 100))), (4, .int (nI ((v / 100) % 100))), (3, .int (-nI (v / 100 / 100))), (5, .int (nI (st + 3))), (6, .int 0), (1, .int (nI (st + 5))), (2, .ref a)]) (dk_at ktJ6_getChars_ba4f3_0 27 rfl) rfl (by decide) rfl (b := 43) rfl) ?_
            refine gc_p (p_aload_n 6 (dk_at ktJ6_getChars_ba4f3_0 28 rfl) rfl rfl (b := 44) rfl) ?_
            refine gc_p (p_iinc (j := 3) (v := (nI (st + 2))) (ls' := [(5, .int (nI (st + 2))), (0, .int (-nI (v / 100 / 100))), (4, .int (nI ((v / 100) % 100))), (3, .int (-nI (v / 100 / 100))), (6, .int 0), (1, .int (nI (st + 5))), (2, .ref a)]) (dk_at ktJ6_getChars_ba4f3_0 29 rfl) rfl (pk_m1 (st + 2)) (by decide) rfl (b := 47) rfl) ?_
            refine gc_p (p_iload 0 (dk_at ktJ6_getChars_ba4f3_0 30 rfl) rfl (b := 49) rfl) ?_
            refine g_gdig1 fg_J6_83 (dk_at ktJ6_getChars_ba4f3_0 31 rfl) (b := 52) rfl ?_
            refine gc_p (p_iload 2 (dk_at ktJ6_getChars_ba4f3_0 32 rfl) rfl (b := 54) rfl) ?_
            refine g_ddig1 (j := (v / 100) % 100) rfl (by omega) (dk_at ktJ6_getChars_ba4f3_0 33 rfl) (b := 55) rfl ?_
            refine g_bast (j := st + 2) ha sa (dk_at ktJ6_getChars_ba4f3_0 34 rfl) rfl ⟨by omega, by omega⟩ (dig_b (by omega)) (b := 56) rfl ?_
            refine gc_p (p_aload_n 6 (dk_at ktJ6_getChars_ba4f3_0 35 rfl) rfl rfl (b := 57) rfl) ?_
            refine gc_p (p_iinc (j := 0) (v := (nI (st + 1))) (ls' := [(5, .int (nI (st + 1))), (0, .int (-nI (v / 100 / 100))), (4, .int (nI ((v / 100) % 100))), (3, .int (-nI (v / 100 / 100))), (6, .int 0), (1, .int (nI (st + 5))), (2, .ref a)]) (dk_at ktJ6_getChars_ba4f3_0 36 rfl) rfl (pk_m1 (st + 1)) (by decide) rfl (b := 60) rfl) ?_
            refine gc_p (p_iload 0 (dk_at ktJ6_getChars_ba4f3_0 37 rfl) rfl (b := 62) rfl) ?_
            refine g_gdig10 fg_J6_87 (dk_at ktJ6_getChars_ba4f3_0 38 rfl) (b := 65) rfl ?_
            refine gc_p (p_iload 2 (dk_at ktJ6_getChars_ba4f3_0 39 rfl) rfl (b := 67) rfl) ?_
            refine g_ddig10 (j := (v / 100) % 100) rfl (by omega) (dk_at ktJ6_getChars_ba4f3_0 40 rfl) (b := 68) rfl ?_
            refine g_bast (j := st + 1) ha sa (dk_at ktJ6_getChars_ba4f3_0 41 rfl) rfl ⟨by omega, by omega⟩ (dig_b (by omega)) (b := 69) rfl ?_
            refine gc_p (p_goto (b := 22) (dk_at ktJ6_getChars_ba4f3_0 42 rfl) (by decide)) ?_
            refine gc_p (p_iload_n 1 (dk_at ktJ6_getChars_ba4f3_0 13 rfl) rfl rfl (b := 23) rfl) ?_
            refine gc_p (p_bipush (v := (-100)) (dk_at ktJ6_getChars_ba4f3_0 14 rfl) (by decide) (b := 25) rfl) ?_
            refine g_icmp_gt (dk_at ktJ6_getChars_ba4f3_0 15 rfl) (b := 72) (by decide) (b2 := 28) rfl (fun c25_2 => ?_) (fun c25_2 => ?_)
            · skip
              have c25_2 : v / 100 / 100 < 100 := (ng_lt (k := 100) (by omega) (by decide) (by decide)).mp c25_2
              refine gc_p (p_aload_n 6 (dk_at ktJ6_getChars_ba4f3_0 43 rfl) rfl rfl (b := 73) rfl) ?_
              refine gc_p (p_iinc (j := 0) (v := (nI st)) (ls' := [(5, .int (nI st)), (0, .int (-nI (v / 100 / 100))), (4, .int (nI ((v / 100) % 100))), (3, .int (-nI (v / 100 / 100))), (6, .int 0), (1, .int (nI (st + 5))), (2, .ref a)]) (dk_at ktJ6_getChars_ba4f3_0 44 rfl) rfl (pk_m1 (st)) (by decide) rfl (b := 76) rfl) ?_
              refine gc_p (p_iload 0 (dk_at ktJ6_getChars_ba4f3_0 45 rfl) rfl (b := 78) rfl) ?_
              refine g_gdig1 fg_J6_83 (dk_at ktJ6_getChars_ba4f3_0 46 rfl) (b := 81) rfl ?_
              refine gc_p (p_iload_n 1 (dk_at ktJ6_getChars_ba4f3_0 47 rfl) rfl rfl (b := 82) rfl) ?_
              refine gc_p (p_ineg (v := (nI (v / 100 / 100))) (dk_at ktJ6_getChars_ba4f3_0 48 rfl) ng_ng (b := 83) rfl) ?_
              refine g_ddig1 (j := v / 100 / 100) rfl (by omega) (dk_at ktJ6_getChars_ba4f3_0 49 rfl) (b := 84) rfl ?_
              refine g_bast (j := st) ha sa (dk_at ktJ6_getChars_ba4f3_0 50 rfl) rfl ⟨by omega, by omega⟩ (dig_b (by omega)) (b := 85) rfl ?_
              refine gc_p (p_iload_n 1 (dk_at ktJ6_getChars_ba4f3_0 51 rfl) rfl rfl (b := 86) rfl) ?_
              refine gc_p (p_bipush (v := (-9)) (dk_at ktJ6_getChars_ba4f3_0 52 rfl) (by decide) (b := 88) rfl) ?_
              refine g_icmp_ge (dk_at ktJ6_getChars_ba4f3_0 53 rfl) (b := 104) (by decide) (b2 := 91) rfl (fun c88 => ?_) (fun c88 => ?_)
              · skip
                have c88 : v / 100 / 100 ≤ 9 := (ng_ge (k := 9) (by omega) (by decide) (by decide)).mp c88
                refine gc_p (p_iload 4 (dk_at ktJ6_getChars_ba4f3_1 2 rfl) rfl (b := 106) rfl) ?_
                refine g_if_eq (dk_at ktJ6_getChars_ba4f3_1 3 rfl) (b := 118) (by decide) (b2 := 109) rfl (fun c106 => ?_) (fun c106 => ?_)
                · skip
                  refine gc_p (p_iload 0 (dk_at ktJ6_getChars_ba4f3_1 9 rfl) rfl (b := 120) rfl) ?_
                  refine h_iret (by first | rfl | decide) (dk_at ktJ6_getChars_ba4f3_1 10 rfl) ?_ (((((hz.ui (by omega)).ui (by omega)).ui (by omega)).ui (by omega)).ui (by omega))
                  have e : dg v = 5 := dg_5 (by omega)
                  refine ⟨rfl, rfl, ⟨fun b hb => ?_, fun j hj => ?_, fun k hk => ?_⟩, rfl⟩
                  · exact (up2_off hb).trans ((up2_off hb).trans ((up2_off hb).trans ((up2_off hb).trans ((up2_off hb).trans (rfl)))))
                  · rw [e] at hj
                    rw [up2_n (by omega), up2_n (by omega), up2_n (by omega), up2_n (by omega), up2_n (by omega)]
                  · rw [e] at hk
                    rcases (by omega : k = 0 ∨ k = 1 ∨ k = 2 ∨ k = 3 ∨ k = 4) with rfl | rfl | rfl | rfl | rfl
                    · rw [Nat.add_zero st]
                      rw [up2_s]
                      unfold dgt
                      rw [e]
                      show nI _ = nI (48 + v / 10000 % 10)
                      congr 1 <;> omega
                    · rw [up2_n (by omega), up2_s]
                      unfold dgt
                      rw [e]
                      show nI _ = nI (48 + v / 1000 % 10)
                      congr 1 <;> omega
                    · rw [up2_n (by omega), up2_n (by omega), up2_s]
                      unfold dgt
                      rw [e]
                      show nI _ = nI (48 + v / 100 % 10)
                      congr 1 <;> omega
                    · rw [up2_n (by omega), up2_n (by omega), up2_n (by omega), up2_s]
                      unfold dgt
                      rw [e]
                      show nI _ = nI (48 + v / 10 % 10)
                      congr 1 <;> omega
                    · rw [up2_n (by omega), up2_n (by omega), up2_n (by omega), up2_n (by omega), up2_s]
                      unfold dgt
                      rw [e]
                      show nI _ = nI (48 + v / 1 % 10)
                      congr 1 <;> omega
                · first | exact absurd c106 (by decide) | exact absurd (by decide) c106
              · skip
                have c88 : ¬ v / 100 / 100 ≤ 9 := fun h => c88 ((ng_ge (k := 9) (by omega) (by decide) (by decide)).mpr h)
                exfalso; omega
            · skip
              have c25_2 : ¬ v / 100 / 100 < 100 := fun h => c25_2 ((ng_lt (k := 100) (by omega) (by decide) (by decide)).mpr h)
              exfalso; omega
    · have c4 : ¬ 0 ≤ v := fun h => c4 ((nI_leI (a := 0) (b := v) (by omega) (by omega)).mpr h)
      exfalso; omega

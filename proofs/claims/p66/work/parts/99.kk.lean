/-! THE LAW: whole, the number of a state -/
def i2j (x : Int32) : Int64 := Int32.toInt64 x
def whA (σ : sT) : Int64 := i2j (σ 9) + 31 * i2j (σ 7) + 7 * i2j (σ 8) + 100 * i2j (σ 6) + i2j (σ (tn 4))
def whI (σ : sT) (s : Nat) : Nat → Nat → Int64 → Int64
  | 0, _, v => v
  | d + 1, k, v => whI σ s d (k + 1) (31 * v + i2j (a_word σ (nI s) (nI k)) + (if k < 12 then 7 * i2j (a_jword σ (nI s) (nI k)) else 0))
def whP (σ : sT) (s : Nat) : Nat → Nat → Int64 → Int64
  | 0, _, v => v
  | d + 1, k, v => whP σ s d (k + 1) (31 * v + i2j (a_wear σ (nI s) (nI k)))
def whS (σ : sT) : Nat → Nat → Int64 → Int64
  | 0, _, v => v
  | d + 1, s, v => whS σ d (s + 1) (31 * whP σ s 4 0 (whI σ s 16 0 v) + i2j (a_wear σ 2 (nI s)))
def whE (σ : sT) : Nat → Nat → Int64 → Int64
  | 0, _, v => v
  | d + 1, k, v => whE σ d (k + 1) (31 * v + i2j (σ (11 + tn (nI k))))
def whF (σ : sT) : Int64 := whE σ 8 0 (whS σ 2 0 (whA σ)) + i2j (σ 10)
def Gd (σ : sT) : Prop := σ 0 = 16 ∧ σ 1 = 4 ∧ σ 2 = 12
theorem Gd.pg {σ : sT} (h : Gd σ) {a : Nat} (ha : a < 3) : pgN σ (nI a) = if a = 2 then 2 else 4 := by
  by_cases e : a = 2
  · subst e; exact pgN_2
  · rw [if_neg e, pgN_n (fun q => e ((nI_eq (a := a) (b := 2) (by omega) (by decide)).mp q))]
    unfold nW nP
    rw [h.1, h.2.1]
    decide
theorem Gd.wr {σ : sT} (h : Gd σ) {a p : Nat} (ha : a < 3) (hp : p < if a = 2 then 2 else 4) : cWear σ (nI a) (nI p) = 0 :=
  cWear_0 (rg_t (a := 0) (b := 2) (by omega) (by omega) (by decide)) (by rw [h.pg ha]; exact inb_t hp (by split <;> decide))
theorem Gd.wr2 {σ : sT} (h : Gd σ) {p : Nat} (hp : p < 2) : cWear σ 2 (nI p) = 0 := h.wr (a := 2) (by decide) (by rw [if_pos rfl]; exact hp)
theorem Gd.wrs {σ : sT} (h : Gd σ) {s p : Nat} (hs : s < 2) (hp : p < 4) : cWear σ (nI s) (nI p) = 0 := h.wr (by omega) (by rw [if_neg (by omega)]; exact hp)

set_option maxRecDepth 4000 in
set_option maxHeartbeats 4000000 in
theorem wh_e {n : Nat} {sh : mS} {G : mG} {J : mJ} {B : Nat} {σ : sT} {sn : Nat → Option sT} (hB : Bt n sh G) (hI : Inv σ) (hG : Gd σ)  : ∀ (d k : Nat) (v : Int64) (I : mI), k + d = 8 → LwR B I σ sn → whE σ d k v + i2j (σ 10) = whF σ → Rc RL cL_whole 5 (some FieldType.long) 9 360 100 600 n sh G (fun r_ I_ J_ => ∃ v_ : Int64, r_ = some (.long v_) ∧ whF σ = v_ ∧ J = J_ ∧ LwR B I_ σ sn) nX (d + 0) (6 * d + 0) 157 [(0, .ref 0), (1, .long v), (3, .int (nI k))] [] I J := by
  intro d
  induction d with
  | zero =>
    intro k v I hk hL hE
    refine rc_p (p_iload_n 2 (dk_at ktL_whole_1 33 rfl) rfl rfl (b := 158) rfl) ?_
    refine rc_p (p_bipush (v := 7) (dk_at ktL_whole_1 34 rfl) (by decide) (b := 160) rfl) ?_
    refine r_icmp_gt (dk_at ktL_whole_1 35 rfl) (b := 182) (by decide) (b2 := 163) rfl (fun c160 => ?_) (fun c160 => ?_)
    · have c160 : 7 < k := (nI_ltI (a := 7) (b := k) (by omega) (by omega)).mp c160
      refine rc_p (p_lload_n 1 (dk_at ktL_whole_1 47 rfl) rfl rfl (b := 183) rfl) ?_
      refine rc_p (p_aload_n 0 (dk_at ktL_whole_1 48 rfl) rfl rfl (b := 184) rfl) ?_
      refine q_plain (As' := []) (rest := [.long v]) (e := 0) (σ' := σ) (fun T N hT hR => s_X6_logSize hB hR hI) hL hB cw_L_112 qi_X6_logSize qv_X6_logSize (dk_at ktL_whole_1 49 rfl) rfl rfl (Nat.le_of_ble_eq_true rfl) ⟨by decide, Nat.le_of_ble_eq_true rfl⟩ (b := 187) rfl (fun I1 hI1 => ?_)
      have hI1 : LwR (B) I1 (σ) (sn) := hI1
      refine rc_p (p_i2l (v := (i2j ((σ) 10))) (dk_at ktL_whole_1 50 rfl) rfl (b := 188) rfl) ?_
      refine rc_p (p_ladd (v := (v + (i2j ((σ) 10)))) (dk_at ktL_whole_1 51 rfl) rfl (b := 189) rfl) ?_
      refine r_lret (dk_at ktL_whole_1 52 rfl) rfl ⟨_, rfl, ?_⟩
      exact ⟨hE.symm, rfl, hI1⟩
    · have c160 : ¬ 7 < k := fun h => c160 ((nI_ltI (a := 7) (b := k) (by omega) (by omega)).mpr h)
      exfalso; omega
  | succ d ih =>
    intro k v I hk hL hE
    refine rc_p (p_iload_n 2 (dk_at ktL_whole_1 33 rfl) rfl rfl (b := 158) rfl) ?_
    refine rc_p (p_bipush (v := 7) (dk_at ktL_whole_1 34 rfl) (by decide) (b := 160) rfl) ?_
    refine r_icmp_gt (dk_at ktL_whole_1 35 rfl) (b := 182) (by decide) (b2 := 163) rfl (fun c160 => ?_) (fun c160 => ?_)
    · have c160 : 7 < k := (nI_ltI (a := 7) (b := k) (by omega) (by omega)).mp c160
      exfalso; omega
    · have c160 : ¬ 7 < k := fun h => c160 ((nI_ltI (a := 7) (b := k) (by omega) (by omega)).mpr h)
      refine rc_p (p_ldc2 (v := 31) ql_TwinBootLaw_82 (dk_at ktL_whole_1 36 rfl) (b := 166) rfl) ?_
      refine rc_p (p_lload_n 1 (dk_at ktL_whole_1 37 rfl) rfl rfl (b := 167) rfl) ?_
      refine rc_p (p_lmul (v := (31 * v)) (dk_at ktL_whole_1 38 rfl) rfl (b := 168) rfl) ?_
      refine rc_p (p_aload_n 0 (dk_at ktL_whole_1 39 rfl) rfl rfl (b := 169) rfl) ?_
      refine rc_p (p_iload_n 2 (dk_at ktL_whole_1 40 rfl) rfl rfl (b := 170) rfl) ?_
      refine q_code (As' := [.int (nI k)]) (rest := [.long (31 * v)]) (e := 0) (σ' := σ) (fun T N hT hR => s_X6_eventCount hB hR hI (nI k)) hL (cIn_t (rg_t (a := 0) (b := 7) (by omega) (by omega) (by decide))) hB cw_L_109 qi_X6_eventCount qv_X6_eventCount (dk_at ktL_whole_1 41 rfl) rfl rfl (Nat.le_of_ble_eq_true rfl) ⟨by decide, Nat.le_of_ble_eq_true rfl⟩ (b := 173) rfl (kc' := d) (ks' := 6 * d) (by omega) (by omega) (fun I1 hI1 => ?_)
      have hI1 : LwR (B) I1 (σ) (sn) := hI1
      refine rc_p (p_i2l (v := (i2j ((σ) (11 + tn (nI k))))) (dk_at ktL_whole_1 42 rfl) rfl (b := 174) rfl) ?_
      refine rc_p (p_ladd (v := ((31 * v) + (i2j ((σ) (11 + tn (nI k)))))) (dk_at ktL_whole_1 43 rfl) rfl (b := 175) rfl) ?_
      refine rc_p (p_lstore_n (ls' := [(1, .long ((31 * v) + (i2j ((σ) (11 + tn (nI k)))))), (0, .ref 0), (3, .int (nI k))]) (dk_at ktL_whole_1 44 rfl) rfl (by decide) rfl (b := 176) rfl) ?_
      refine rc_p (p_iinc (j := 2) (v := (nI (k + 1))) (ls' := [(3, .int (nI (k + 1))), (1, .long ((31 * v) + (i2j ((σ) (11 + tn (nI k)))))), (0, .ref 0)]) (dk_at ktL_whole_1 45 rfl) rfl (nI_add k 1) (by decide) rfl (b := 179) rfl) ?_
      refine rc_p (p_goto (b := 157) (dk_at ktL_whole_1 46 rfl) (by decide)) ?_
      refine rc_sub [2, 1, 0] (ls' := [(0, .ref 0), (1, .long ((31 * v) + (i2j ((σ) (11 + tn (nI k)))))), (3, .int (nI (k + 1)))]) rfl ?_
      exact ih _ _ _ (by omega) hI1 hE
set_option maxRecDepth 4000 in
set_option maxHeartbeats 4000000 in
theorem wh_p {n : Nat} {sh : mS} {G : mG} {J : mJ} {B : Nat} {σ : sT} {sn : Nat → Option sT} (hB : Bt n sh G) (hI : Inv σ) (hG : Gd σ) {s C : Nat} (hs : s < 2) {E : Int64 → Int64} (kk : ∀ (v : Int64) (I : mI), LwR B I σ sn → E v = whF σ → Rc RL cL_whole 5 (some FieldType.long) 9 360 100 600 n sh G (fun r_ I_ J_ => ∃ v_ : Int64, r_ = some (.long v_) ∧ whF σ = v_ ∧ J = J_ ∧ LwR B I_ σ sn) nX C (6 * C) 135 [(0, .ref 0), (1, .long v), (3, .int (nI s))] [] I J) : ∀ (d k : Nat) (v : Int64) (I : mI), k + d = 4 → LwR B I σ sn → E (whP σ s d k v) = whF σ → Rc RL cL_whole 5 (some FieldType.long) 9 360 100 600 n sh G (fun r_ I_ J_ => ∃ v_ : Int64, r_ = some (.long v_) ∧ whF σ = v_ ∧ J = J_ ∧ LwR B I_ σ sn) nX (2 * d + C) (12 * d + 6 * C) 108 [(0, .ref 0), (1, .long v), (3, .int (nI s)), (4, .int (nI k))] [] I J := by
  intro d
  induction d with
  | zero =>
    intro k v I hk hL hE
    refine rc_p (p_iload 3 (dk_at ktL_whole_1 4 rfl) rfl (b := 110) rfl) ?_
    refine rc_p (p_iconst (v := 4) (dk_at ktL_whole_1 5 rfl) (by decide) (b := 111) rfl) ?_
    refine r_icmp_ge (dk_at ktL_whole_1 6 rfl) (b := 135) (by decide) (b2 := 114) rfl (fun c111 => ?_) (fun c111 => ?_)
    · have c111 : 4 ≤ k := (nI_leI (a := 4) (b := k) (by omega) (by omega)).mp c111
      refine rc_sub [0, 1, 2] (ls' := [(0, .ref 0), (1, .long v), (3, .int (nI s))]) rfl ?_
      exact rc_weak (by omega) (by omega) (kk _ _ hL hE)
    · have c111 : ¬ 4 ≤ k := fun h => c111 ((nI_leI (a := 4) (b := k) (by omega) (by omega)).mpr h)
      exfalso; omega
  | succ d ih =>
    intro k v I hk hL hE
    refine rc_p (p_iload 3 (dk_at ktL_whole_1 4 rfl) rfl (b := 110) rfl) ?_
    refine rc_p (p_iconst (v := 4) (dk_at ktL_whole_1 5 rfl) (by decide) (b := 111) rfl) ?_
    refine r_icmp_ge (dk_at ktL_whole_1 6 rfl) (b := 135) (by decide) (b2 := 114) rfl (fun c111 => ?_) (fun c111 => ?_)
    · have c111 : 4 ≤ k := (nI_leI (a := 4) (b := k) (by omega) (by omega)).mp c111
      exfalso; omega
    · have c111 : ¬ 4 ≤ k := fun h => c111 ((nI_leI (a := 4) (b := k) (by omega) (by omega)).mpr h)
      refine rc_p (p_ldc2 (v := 31) ql_TwinBootLaw_82 (dk_at ktL_whole_1 7 rfl) (b := 117) rfl) ?_
      refine rc_p (p_lload_n 1 (dk_at ktL_whole_1 8 rfl) rfl rfl (b := 118) rfl) ?_
      refine rc_p (p_lmul (v := (31 * v)) (dk_at ktL_whole_1 9 rfl) rfl (b := 119) rfl) ?_
      refine rc_p (p_aload_n 0 (dk_at ktL_whole_1 10 rfl) rfl rfl (b := 120) rfl) ?_
      refine rc_p (p_iload_n 2 (dk_at ktL_whole_1 11 rfl) rfl rfl (b := 121) rfl) ?_
      refine rc_p (p_iload 3 (dk_at ktL_whole_1 12 rfl) rfl (b := 123) rfl) ?_
      refine q_code (As' := [.int (nI s), .int (nI k)]) (rest := [.long (31 * v)]) (e := 0) (σ' := σ) (fun T N hT hR => s_X6_wear hB hR hI (nI s) (nI k)) hL (hG.wrs hs (by omega)) hB cw_L_106 qi_X6_wear qv_X6_wear (dk_at ktL_whole_1 13 rfl) rfl rfl (Nat.le_of_ble_eq_true rfl) ⟨by decide, Nat.le_of_ble_eq_true rfl⟩ (b := 126) rfl (kc' := 2 * d + C) (ks' := 12 * d + 6 * C) (by omega) (by omega) (fun I1 hI1 => ?_)
      have hI1 : LwR (B) I1 (σ) (sn) := hI1
      refine rc_p (p_i2l (v := (i2j (a_wear (σ) (nI s) (nI k)))) (dk_at ktL_whole_1 14 rfl) rfl (b := 127) rfl) ?_
      refine rc_p (p_ladd (v := ((31 * v) + (i2j (a_wear (σ) (nI s) (nI k))))) (dk_at ktL_whole_1 15 rfl) rfl (b := 128) rfl) ?_
      refine rc_p (p_lstore_n (ls' := [(1, .long ((31 * v) + (i2j (a_wear (σ) (nI s) (nI k))))), (0, .ref 0), (3, .int (nI s)), (4, .int (nI k))]) (dk_at ktL_whole_1 16 rfl) rfl (by decide) rfl (b := 129) rfl) ?_
      refine rc_p (p_iinc (j := 3) (v := (nI (k + 1))) (ls' := [(4, .int (nI (k + 1))), (1, .long ((31 * v) + (i2j (a_wear (σ) (nI s) (nI k))))), (0, .ref 0), (3, .int (nI s))]) (dk_at ktL_whole_1 17 rfl) rfl (nI_add k 1) (by decide) rfl (b := 132) rfl) ?_
      refine rc_p (p_goto (b := 108) (dk_at ktL_whole_1 18 rfl) (by decide)) ?_
      refine rc_sub [2, 1, 3, 0] (ls' := [(0, .ref 0), (1, .long ((31 * v) + (i2j (a_wear (σ) (nI s) (nI k))))), (3, .int (nI s)), (4, .int (nI (k + 1)))]) rfl ?_
      exact ih _ _ _ (by omega) hI1 hE
set_option maxRecDepth 4000 in
set_option maxHeartbeats 4000000 in
theorem wh_i {n : Nat} {sh : mS} {G : mG} {J : mJ} {B : Nat} {σ : sT} {sn : Nat → Option sT} (hB : Bt n sh G) (hI : Inv σ) (hG : Gd σ) {s C : Nat} (hs : s < 2) {E : Int64 → Int64} (kk : ∀ (v : Int64) (I : mI), LwR B I σ sn → E v = whF σ → Rc RL cL_whole 5 (some FieldType.long) 9 360 100 600 n sh G (fun r_ I_ J_ => ∃ v_ : Int64, r_ = some (.long v_) ∧ whF σ = v_ ∧ J = J_ ∧ LwR B I_ σ sn) nX C (6 * C) 105 [(0, .ref 0), (1, .long v), (3, .int (nI s))] [] I J) : ∀ (d k : Nat) (v : Int64) (I : mI), k + d = 16 → LwR B I σ sn → E (whI σ s d k v) = whF σ → Rc RL cL_whole 5 (some FieldType.long) 9 360 100 600 n sh G (fun r_ I_ J_ => ∃ v_ : Int64, r_ = some (.long v_) ∧ whF σ = v_ ∧ J = J_ ∧ LwR B I_ σ sn) nX (2 * d + C) (12 * d + 6 * C) 53 [(0, .ref 0), (1, .long v), (3, .int (nI s)), (4, .int (nI k))] [] I J := by
  intro d
  induction d with
  | zero =>
    intro k v I hk hL hE
    refine rc_p (p_iload 3 (dk_at ktL_whole_0 34 rfl) rfl (b := 55) rfl) ?_
    refine rc_p (p_bipush (v := 16) (dk_at ktL_whole_0 35 rfl) (by decide) (b := 57) rfl) ?_
    refine r_icmp_ge (dk_at ktL_whole_0 36 rfl) (b := 105) (by decide) (b2 := 60) rfl (fun c57 => ?_) (fun c57 => ?_)
    · have c57 : 16 ≤ k := (nI_leI (a := 16) (b := k) (by omega) (by omega)).mp c57
      refine rc_sub [0, 1, 2] (ls' := [(0, .ref 0), (1, .long v), (3, .int (nI s))]) rfl ?_
      exact rc_weak (by omega) (by omega) (kk _ _ hL hE)
    · have c57 : ¬ 16 ≤ k := fun h => c57 ((nI_leI (a := 16) (b := k) (by omega) (by omega)).mpr h)
      exfalso; omega
  | succ d ih =>
    intro k v I hk hL hE
    refine rc_p (p_iload 3 (dk_at ktL_whole_0 34 rfl) rfl (b := 55) rfl) ?_
    refine rc_p (p_bipush (v := 16) (dk_at ktL_whole_0 35 rfl) (by decide) (b := 57) rfl) ?_
    refine r_icmp_ge (dk_at ktL_whole_0 36 rfl) (b := 105) (by decide) (b2 := 60) rfl (fun c57 => ?_) (fun c57 => ?_)
    · have c57 : 16 ≤ k := (nI_leI (a := 16) (b := k) (by omega) (by omega)).mp c57
      exfalso; omega
    · have c57 : ¬ 16 ≤ k := fun h => c57 ((nI_leI (a := 16) (b := k) (by omega) (by omega)).mpr h)
      refine rc_p (p_ldc2 (v := 31) ql_TwinBootLaw_82 (dk_at ktL_whole_0 37 rfl) (b := 63) rfl) ?_
      refine rc_p (p_lload_n 1 (dk_at ktL_whole_0 38 rfl) rfl rfl (b := 64) rfl) ?_
      refine rc_p (p_lmul (v := (31 * v)) (dk_at ktL_whole_0 39 rfl) rfl (b := 65) rfl) ?_
      refine rc_p (p_aload_n 0 (dk_at ktL_whole_0 40 rfl) rfl rfl (b := 66) rfl) ?_
      refine rc_p (p_iload_n 2 (dk_at ktL_whole_0 41 rfl) rfl rfl (b := 67) rfl) ?_
      refine rc_p (p_iload 3 (dk_at ktL_whole_0 42 rfl) rfl (b := 69) rfl) ?_
      refine q_code (As' := [.int (nI s), .int (nI k)]) (rest := [.long (31 * v)]) (e := 0) (σ' := σ) (fun T N hT hR => s_X6_word hB hR hI (nI s) (nI k)) hL (cIn_t (rg_t (a := 0) (b := 1) (by omega) (by omega) (by decide))) hB cw_L_100 qi_X6_word qv_X6_word (dk_at ktL_whole_0 43 rfl) rfl rfl (Nat.le_of_ble_eq_true rfl) ⟨by decide, Nat.le_of_ble_eq_true rfl⟩ (b := 72) rfl (kc' := 2 * d + C + 1) (ks' := 12 * d + 6 * C + 6) (by omega) (by omega) (fun I1 hI1 => ?_)
      have hI1 : LwR (B) I1 (σ) (sn) := hI1
      refine rc_p (p_i2l (v := (i2j (a_word (σ) (nI s) (nI k)))) (dk_at ktL_whole_0 44 rfl) rfl (b := 73) rfl) ?_
      refine rc_p (p_ladd (v := ((31 * v) + (i2j (a_word (σ) (nI s) (nI k))))) (dk_at ktL_whole_0 45 rfl) rfl (b := 74) rfl) ?_
      refine rc_p (p_iload 3 (dk_at ktL_whole_0 46 rfl) rfl (b := 76) rfl) ?_
      refine rc_p (p_bipush (v := 12) (dk_at ktL_whole_0 47 rfl) (by decide) (b := 78) rfl) ?_
      refine r_icmp_ge (dk_at ktL_whole_0 48 rfl) (b := 96) (by decide) (b2 := 81) rfl (fun c78 => ?_) (fun c78 => ?_)
      · have c78 : 12 ≤ k := (nI_leI (a := 12) (b := k) (by omega) (by omega)).mp c78
        refine rc_p (p_lconst (v := 0) (dk_at ktL_whole_0 57 rfl) (by decide) (b := 97) rfl) ?_
        refine rc_p (p_ladd (v := (((31 * v) + (i2j (a_word (σ) (nI s) (nI k)))) + 0)) (dk_at ktL_whole_0 58 rfl) rfl (b := 98) rfl) ?_
        refine rc_p (p_lstore_n (ls' := [(1, .long (((31 * v) + (i2j (a_word (σ) (nI s) (nI k)))) + 0)), (0, .ref 0), (3, .int (nI s)), (4, .int (nI k))]) (dk_at ktL_whole_0 59 rfl) rfl (by decide) rfl (b := 99) rfl) ?_
        refine rc_p (p_iinc (j := 3) (v := (nI (k + 1))) (ls' := [(4, .int (nI (k + 1))), (1, .long (((31 * v) + (i2j (a_word (σ) (nI s) (nI k)))) + 0)), (0, .ref 0), (3, .int (nI s))]) (dk_at ktL_whole_1 0 rfl) rfl (nI_add k 1) (by decide) rfl (b := 102) rfl) ?_
        refine rc_p (p_goto (b := 53) (dk_at ktL_whole_1 1 rfl) (by decide)) ?_
        refine rc_sub [2, 1, 3, 0] (ls' := [(0, .ref 0), (1, .long (((31 * v) + (i2j (a_word (σ) (nI s) (nI k)))) + 0)), (3, .int (nI s)), (4, .int (nI (k + 1)))]) rfl ?_
        refine rc_weak (kc' := 2 * d + C) (ks' := 12 * d + 6 * C) (by omega) (by omega) (ih _ _ _ (by omega) hI1 ?_)
        rw [whI, if_neg (by omega)] at hE
        exact hE
      · have c78 : ¬ 12 ≤ k := fun h => c78 ((nI_leI (a := 12) (b := k) (by omega) (by omega)).mpr h)
        refine rc_p (p_ldc2 (v := 7) ql_TwinBootLaw_87 (dk_at ktL_whole_0 49 rfl) (b := 84) rfl) ?_
        refine rc_p (p_aload_n 0 (dk_at ktL_whole_0 50 rfl) rfl rfl (b := 85) rfl) ?_
        refine rc_p (p_iload_n 2 (dk_at ktL_whole_0 51 rfl) rfl rfl (b := 86) rfl) ?_
        refine rc_p (p_iload 3 (dk_at ktL_whole_0 52 rfl) rfl (b := 88) rfl) ?_
        refine q_code (As' := [.int (nI s), .int (nI k)]) (rest := [.long 7, .long ((31 * v) + (i2j (a_word (σ) (nI s) (nI k))))]) (e := 0) (σ' := σ) (fun T N hT hR => s_X6_journalWord hB hR hI (nI s) (nI k)) hI1 (cIn_t (rg_t (a := 0) (b := 1) (by omega) (by omega) (by decide))) hB cw_L_103 qi_X6_journalWord qv_X6_journalWord (dk_at ktL_whole_0 53 rfl) rfl rfl (Nat.le_of_ble_eq_true rfl) ⟨by decide, Nat.le_of_ble_eq_true rfl⟩ (b := 91) rfl (kc' := 2 * d + C) (ks' := 12 * d + 6 * C) (by omega) (by omega) (fun I2 hI2 => ?_)
        have hI2 : LwR (B) I2 (σ) (sn) := hI2
        refine rc_p (p_i2l (v := (i2j (a_jword (σ) (nI s) (nI k)))) (dk_at ktL_whole_0 54 rfl) rfl (b := 92) rfl) ?_
        refine rc_p (p_lmul (v := (7 * (i2j (a_jword (σ) (nI s) (nI k))))) (dk_at ktL_whole_0 55 rfl) rfl (b := 93) rfl) ?_
        refine rc_p (p_goto (b := 97) (dk_at ktL_whole_0 56 rfl) (by decide)) ?_
        refine rc_p (p_ladd (v := (((31 * v) + (i2j (a_word (σ) (nI s) (nI k)))) + (7 * (i2j (a_jword (σ) (nI s) (nI k)))))) (dk_at ktL_whole_0 58 rfl) rfl (b := 98) rfl) ?_
        refine rc_p (p_lstore_n (ls' := [(1, .long (((31 * v) + (i2j (a_word (σ) (nI s) (nI k)))) + (7 * (i2j (a_jword (σ) (nI s) (nI k)))))), (0, .ref 0), (3, .int (nI s)), (4, .int (nI k))]) (dk_at ktL_whole_0 59 rfl) rfl (by decide) rfl (b := 99) rfl) ?_
        refine rc_p (p_iinc (j := 3) (v := (nI (k + 1))) (ls' := [(4, .int (nI (k + 1))), (1, .long (((31 * v) + (i2j (a_word (σ) (nI s) (nI k)))) + (7 * (i2j (a_jword (σ) (nI s) (nI k)))))), (0, .ref 0), (3, .int (nI s))]) (dk_at ktL_whole_1 0 rfl) rfl (nI_add k 1) (by decide) rfl (b := 102) rfl) ?_
        refine rc_p (p_goto (b := 53) (dk_at ktL_whole_1 1 rfl) (by decide)) ?_
        refine rc_sub [2, 1, 3, 0] (ls' := [(0, .ref 0), (1, .long (((31 * v) + (i2j (a_word (σ) (nI s) (nI k)))) + (7 * (i2j (a_jword (σ) (nI s) (nI k)))))), (3, .int (nI s)), (4, .int (nI (k + 1)))]) rfl ?_
        refine rc_weak (kc' := 2 * d + C) (ks' := 12 * d + 6 * C) (by omega) (by omega) (ih _ _ _ (by omega) hI2 ?_)
        rw [whI, if_pos (by omega)] at hE
        exact hE
set_option maxRecDepth 4000 in
set_option maxHeartbeats 4000000 in
theorem wh_s {n : Nat} {sh : mS} {G : mG} {J : mJ} {B : Nat} {σ : sT} {sn : Nat → Option sT} (hB : Bt n sh G) (hI : Inv σ) (hG : Gd σ)  : ∀ (d s : Nat) (v : Int64) (I : mI), s + d = 2 → LwR B I σ sn → whE σ 8 0 (whS σ d s v) + i2j (σ 10) = whF σ → Rc RL cL_whole 5 (some FieldType.long) 9 360 100 600 n sh G (fun r_ I_ J_ => ∃ v_ : Int64, r_ = some (.long v_) ∧ whF σ = v_ ∧ J = J_ ∧ LwR B I_ σ sn) nX (42 * d + 8) (6 * (42 * d + 8)) 45 [(0, .ref 0), (1, .long v), (3, .int (nI s))] [] I J := by
  intro d
  induction d with
  | zero =>
    intro s v I hk hL hE
    refine rc_p (p_iload_n 2 (dk_at ktL_whole_0 29 rfl) rfl rfl (b := 46) rfl) ?_
    refine rc_p (p_iconst (v := 1) (dk_at ktL_whole_0 30 rfl) (by decide) (b := 47) rfl) ?_
    refine r_icmp_gt (dk_at ktL_whole_0 31 rfl) (b := 155) (by decide) (b2 := 50) rfl (fun c47 => ?_) (fun c47 => ?_)
    · have c47 : 1 < s := (nI_ltI (a := 1) (b := s) (by omega) (by omega)).mp c47
      refine rc_p (p_iconst (v := 0) (dk_at ktL_whole_1 31 rfl) (by decide) (b := 156) rfl) ?_
      refine rc_p (p_istore_n (ls' := [(3, .int 0), (0, .ref 0), (1, .long v)]) (dk_at ktL_whole_1 32 rfl) rfl (by decide) rfl (b := 157) rfl) ?_
      refine rc_sub [1, 2, 0] (ls' := [(0, .ref 0), (1, .long v), (3, .int 0)]) rfl ?_
      exact rc_weak (by omega) (by omega) (wh_e hB hI hG 8 0 _ _ (by omega) hL hE)
    · have c47 : ¬ 1 < s := fun h => c47 ((nI_ltI (a := 1) (b := s) (by omega) (by omega)).mpr h)
      exfalso; omega
  | succ d ih =>
    intro s v I hk hL hE
    have hs : s < 2 := by omega
    refine rc_p (p_iload_n 2 (dk_at ktL_whole_0 29 rfl) rfl rfl (b := 46) rfl) ?_
    refine rc_p (p_iconst (v := 1) (dk_at ktL_whole_0 30 rfl) (by decide) (b := 47) rfl) ?_
    refine r_icmp_gt (dk_at ktL_whole_0 31 rfl) (b := 155) (by decide) (b2 := 50) rfl (fun c47 => ?_) (fun c47 => ?_)
    · have c47 : 1 < s := (nI_ltI (a := 1) (b := s) (by omega) (by omega)).mp c47
      exfalso; omega
    · have c47 : ¬ 1 < s := fun h => c47 ((nI_ltI (a := 1) (b := s) (by omega) (by omega)).mpr h)
      refine rc_p (p_iconst (v := 0) (dk_at ktL_whole_0 32 rfl) (by decide) (b := 51) rfl) ?_
      refine rc_p (p_istore (ls' := [(4, .int 0), (0, .ref 0), (1, .long v), (3, .int (nI s))]) (dk_at ktL_whole_0 33 rfl) (by decide) rfl (b := 53) rfl) ?_
      refine rc_sub [1, 2, 3, 0] (ls' := [(0, .ref 0), (1, .long v), (3, .int (nI s)), (4, .int 0)]) rfl ?_
      refine rc_weak (kc' := 2 * 16 + (42 * d + 18)) (ks' := 12 * 16 + 6 * (42 * d + 18)) (by omega) (by omega) (wh_i hB hI hG hs (C := 42 * d + 18) (E := fun z => whE σ 8 0 (whS σ d (s + 1) (31 * whP σ s 4 0 z + i2j (a_wear σ 2 (nI s)))) + i2j (σ 10)) (fun v1 I1 hL1 hE1 => ?_) 16 0 v _ (by omega) hL hE)
      refine rc_p (p_iconst (v := 0) (dk_at ktL_whole_1 2 rfl) (by decide) (b := 106) rfl) ?_
      refine rc_p (p_istore (ls' := [(4, .int 0), (0, .ref 0), (1, .long v1), (3, .int (nI s))]) (dk_at ktL_whole_1 3 rfl) (by decide) rfl (b := 108) rfl) ?_
      refine rc_sub [1, 2, 3, 0] (ls' := [(0, .ref 0), (1, .long v1), (3, .int (nI s)), (4, .int 0)]) rfl ?_
      refine rc_weak (kc' := 2 * 4 + (42 * d + 10)) (ks' := 12 * 4 + 6 * (42 * d + 10)) (by omega) (by omega) (wh_p hB hI hG hs (C := 42 * d + 10) (E := fun z => whE σ 8 0 (whS σ d (s + 1) (31 * z + i2j (a_wear σ 2 (nI s)))) + i2j (σ 10)) (fun v2 I2 hL2 hE2 => ?_) 4 0 v1 I1 (by omega) hL1 hE1)
      refine rc_p (p_ldc2 (v := 31) ql_TwinBootLaw_82 (dk_at ktL_whole_1 19 rfl) (b := 138) rfl) ?_
      refine rc_p (p_lload_n 1 (dk_at ktL_whole_1 20 rfl) rfl rfl (b := 139) rfl) ?_
      refine rc_p (p_lmul (v := (31 * v2)) (dk_at ktL_whole_1 21 rfl) rfl (b := 140) rfl) ?_
      refine rc_p (p_aload_n 0 (dk_at ktL_whole_1 22 rfl) rfl rfl (b := 141) rfl) ?_
      refine rc_p (p_iconst (v := 2) (dk_at ktL_whole_1 23 rfl) (by decide) (b := 142) rfl) ?_
      refine rc_p (p_iload_n 2 (dk_at ktL_whole_1 24 rfl) rfl rfl (b := 143) rfl) ?_
      refine q_code (As' := [.int 2, .int (nI s)]) (rest := [.long (31 * v2)]) (e := 0) (σ' := σ) (fun T N hT hR => s_X6_wear hB hR hI 2 (nI s)) hL2 (hG.wr2 (by omega)) hB cw_L_106 qi_X6_wear qv_X6_wear (dk_at ktL_whole_1 25 rfl) rfl rfl (Nat.le_of_ble_eq_true rfl) ⟨by decide, Nat.le_of_ble_eq_true rfl⟩ (b := 146) rfl (kc' := 42 * d + 8) (ks' := 6 * (42 * d + 8)) (by omega) (by omega) (fun I1 hI1 => ?_)
      have hI1 : LwR (B) I1 (σ) (sn) := hI1
      refine rc_p (p_i2l (v := (i2j (a_wear (σ) 2 (nI s)))) (dk_at ktL_whole_1 26 rfl) rfl (b := 147) rfl) ?_
      refine rc_p (p_ladd (v := ((31 * v2) + (i2j (a_wear (σ) 2 (nI s))))) (dk_at ktL_whole_1 27 rfl) rfl (b := 148) rfl) ?_
      refine rc_p (p_lstore_n (ls' := [(1, .long ((31 * v2) + (i2j (a_wear (σ) 2 (nI s))))), (0, .ref 0), (3, .int (nI s))]) (dk_at ktL_whole_1 28 rfl) rfl (by decide) rfl (b := 149) rfl) ?_
      refine rc_p (p_iinc (j := 2) (v := (nI (s + 1))) (ls' := [(3, .int (nI (s + 1))), (1, .long ((31 * v2) + (i2j (a_wear (σ) 2 (nI s))))), (0, .ref 0)]) (dk_at ktL_whole_1 29 rfl) rfl (nI_add s 1) (by decide) rfl (b := 152) rfl) ?_
      refine rc_p (p_goto (b := 45) (dk_at ktL_whole_1 30 rfl) (by decide)) ?_
      refine rc_sub [2, 1, 0] (ls' := [(0, .ref 0), (1, .long ((31 * v2) + (i2j (a_wear (σ) 2 (nI s))))), (3, .int (nI (s + 1)))]) rfl ?_
      exact rc_weak (by omega) (by omega) (ih _ _ _ (by omega) hI1 hE2)
set_option maxRecDepth 4000 in
set_option maxHeartbeats 4000000 in
theorem s_L_whole {n : Nat} {sh : mS} {G : mG} {I : mI} {J : mJ} {B : Nat} {σ : sT} {sn : Nat → Option sT} (hB : Bt n sh G) (hL : LwR B I σ sn) (hI : Inv σ) (hG : Gd σ) : Sp yL_whole cL_whole 5 (some FieldType.long) 9 360 100 600 [.ref 0] n sh G I J (fun r_ I_ J_ => ∃ v_ : Int64, r_ = some (.long v_) ∧ whF σ = v_ ∧ J = J_ ∧ LwR B I_ σ sn) nX := by
  refine Sp.of (by decide) (ls := [(0, .ref 0)]) (fun _ => rfl) (fun _ => Nat.le_of_ble_eq_true rfl) ?_
  refine rc_p (p_aload_n 0 (dk_at ktL_whole_0 0 rfl) rfl rfl (b := 1) rfl) ?_
  refine q_plain (As' := []) (rest := []) (e := 0) (σ' := σ) (fun T N hT hR => s_X6_operations hB hR hI) hL hB cw_L_79 qi_X6_operations qv_X6_operations (dk_at ktL_whole_0 1 rfl) rfl rfl (by decide) ⟨by decide, Nat.le_of_ble_eq_true rfl⟩ (b := 4) rfl (fun I1 hI1 => ?_)
  have hI1 : LwR (B) I1 (σ) (sn) := hI1
  refine rc_p (p_i2l (v := (i2j ((σ) 9))) (dk_at ktL_whole_0 2 rfl) rfl (b := 5) rfl) ?_
  refine rc_p (p_ldc2 (v := 31) ql_TwinBootLaw_82 (dk_at ktL_whole_0 3 rfl) (b := 8) rfl) ?_
  refine rc_p (p_aload_n 0 (dk_at ktL_whole_0 4 rfl) rfl rfl (b := 9) rfl) ?_
  refine q_plain (As' := []) (rest := [.long 31, .long (i2j ((σ) 9))]) (e := 0) (σ' := σ) (fun T N hT hR => s_X6_state hB hR hI) hI1 hB cw_L_84 qi_X6_state qv_X6_state (dk_at ktL_whole_0 5 rfl) rfl rfl (Nat.le_of_ble_eq_true rfl) ⟨by decide, Nat.le_of_ble_eq_true rfl⟩ (b := 12) rfl (fun I2 hI2 => ?_)
  have hI2 : LwR (B) I2 (σ) (sn) := hI2
  refine rc_p (p_i2l (v := (i2j ((σ) 7))) (dk_at ktL_whole_0 6 rfl) rfl (b := 13) rfl) ?_
  refine rc_p (p_lmul (v := (31 * (i2j ((σ) 7)))) (dk_at ktL_whole_0 7 rfl) rfl (b := 14) rfl) ?_
  refine rc_p (p_ladd (v := ((i2j ((σ) 9)) + (31 * (i2j ((σ) 7))))) (dk_at ktL_whole_0 8 rfl) rfl (b := 15) rfl) ?_
  refine rc_p (p_ldc2 (v := 7) ql_TwinBootLaw_87 (dk_at ktL_whole_0 9 rfl) (b := 18) rfl) ?_
  refine rc_p (p_aload_n 0 (dk_at ktL_whole_0 10 rfl) rfl rfl (b := 19) rfl) ?_
  refine q_plain (As' := []) (rest := [.long 7, .long ((i2j ((σ) 9)) + (31 * (i2j ((σ) 7))))]) (e := 0) (σ' := σ) (fun T N hT hR => s_X6_running hB hR hI) hI2 hB cw_L_89 qi_X6_running qv_X6_running (dk_at ktL_whole_0 11 rfl) rfl rfl (Nat.le_of_ble_eq_true rfl) ⟨by decide, Nat.le_of_ble_eq_true rfl⟩ (b := 22) rfl (fun I3 hI3 => ?_)
  have hI3 : LwR (B) I3 (σ) (sn) := hI3
  refine rc_p (p_i2l (v := (i2j ((σ) 8))) (dk_at ktL_whole_0 12 rfl) rfl (b := 23) rfl) ?_
  refine rc_p (p_lmul (v := (7 * (i2j ((σ) 8)))) (dk_at ktL_whole_0 13 rfl) rfl (b := 24) rfl) ?_
  refine rc_p (p_ladd (v := (((i2j ((σ) 9)) + (31 * (i2j ((σ) 7)))) + (7 * (i2j ((σ) 8))))) (dk_at ktL_whole_0 14 rfl) rfl (b := 25) rfl) ?_
  refine rc_p (p_ldc2 (v := 100) ql_TwinBootLaw_92 (dk_at ktL_whole_0 15 rfl) (b := 28) rfl) ?_
  refine rc_p (p_aload_n 0 (dk_at ktL_whole_0 16 rfl) rfl rfl (b := 29) rfl) ?_
  refine q_plain (As' := []) (rest := [.long 100, .long (((i2j ((σ) 9)) + (31 * (i2j ((σ) 7)))) + (7 * (i2j ((σ) 8))))]) (e := 0) (σ' := σ) (fun T N hT hR => s_X6_power hB hR hI) hI3 hB cw_L_94 qi_X6_power qv_X6_power (dk_at ktL_whole_0 17 rfl) rfl rfl (Nat.le_of_ble_eq_true rfl) ⟨by decide, Nat.le_of_ble_eq_true rfl⟩ (b := 32) rfl (fun I4 hI4 => ?_)
  have hI4 : LwR (B) I4 (σ) (sn) := hI4
  refine rc_p (p_i2l (v := (i2j ((σ) 6))) (dk_at ktL_whole_0 18 rfl) rfl (b := 33) rfl) ?_
  refine rc_p (p_lmul (v := (100 * (i2j ((σ) 6)))) (dk_at ktL_whole_0 19 rfl) rfl (b := 34) rfl) ?_
  refine rc_p (p_ladd (v := ((((i2j ((σ) 9)) + (31 * (i2j ((σ) 7)))) + (7 * (i2j ((σ) 8)))) + (100 * (i2j ((σ) 6))))) (dk_at ktL_whole_0 20 rfl) rfl (b := 35) rfl) ?_
  refine rc_p (p_aload_n 0 (dk_at ktL_whole_0 21 rfl) rfl rfl (b := 36) rfl) ?_
  refine rc_p (p_iconst (v := 4) (dk_at ktL_whole_0 22 rfl) (by decide) (b := 37) rfl) ?_
  refine q_code (As' := [.int 4]) (rest := [.long ((((i2j ((σ) 9)) + (31 * (i2j ((σ) 7)))) + (7 * (i2j ((σ) 8)))) + (100 * (i2j ((σ) 6))))]) (e := 0) (σ' := σ) (fun T N hT hR => s_X6_setting hB hR hI 4) hI4 (by decide) hB cw_L_97 qi_X6_setting qv_X6_setting (dk_at ktL_whole_0 23 rfl) rfl rfl (Nat.le_of_ble_eq_true rfl) ⟨by decide, Nat.le_of_ble_eq_true rfl⟩ (b := 40) rfl (kc' := 99) (ks' := 594) (Nat.le_of_ble_eq_true rfl) (Nat.le_of_ble_eq_true rfl) (fun I5 hI5 => ?_)
  have hI5 : LwR (B) I5 (σ) (sn) := hI5
  refine rc_p (p_i2l (v := (i2j ((σ) (tn 4)))) (dk_at ktL_whole_0 24 rfl) rfl (b := 41) rfl) ?_
  refine rc_p (p_ladd (v := (((((i2j ((σ) 9)) + (31 * (i2j ((σ) 7)))) + (7 * (i2j ((σ) 8)))) + (100 * (i2j ((σ) 6)))) + (i2j ((σ) (tn 4))))) (dk_at ktL_whole_0 25 rfl) rfl (b := 42) rfl) ?_
  refine rc_p (p_lstore_n (ls' := [(1, .long (((((i2j ((σ) 9)) + (31 * (i2j ((σ) 7)))) + (7 * (i2j ((σ) 8)))) + (100 * (i2j ((σ) 6)))) + (i2j ((σ) (tn 4))))), (0, .ref 0)]) (dk_at ktL_whole_0 26 rfl) rfl (by decide) rfl (b := 43) rfl) ?_
  refine rc_p (p_iconst (v := 0) (dk_at ktL_whole_0 27 rfl) (by decide) (b := 44) rfl) ?_
  refine rc_p (p_istore_n (ls' := [(3, .int 0), (1, .long (((((i2j ((σ) 9)) + (31 * (i2j ((σ) 7)))) + (7 * (i2j ((σ) 8)))) + (100 * (i2j ((σ) 6)))) + (i2j ((σ) (tn 4))))), (0, .ref 0)]) (dk_at ktL_whole_0 28 rfl) rfl (by decide) rfl (b := 45) rfl) ?_
  refine rc_sub [2, 1, 0] (ls' := [(0, .ref 0), (1, .long (((((i2j ((σ) 9)) + (31 * (i2j ((σ) 7)))) + (7 * (i2j ((σ) 8)))) + (100 * (i2j ((σ) 6)))) + (i2j ((σ) (tn 4))))), (3, .int 0)]) rfl ?_
  exact rc_weak (by omega) (by omega) (wh_s hB hI hG 2 0 _ _ (by omega) hI5 rfl)

/-! THE LAW: one step of the script -/
def St (B : Nat) (σ : sT) : Prop := Inv σ ∧ Gd σ ∧ (∃ T, T ≤ B ∧ LG T σ) ∧ WB B σ
theorem St.go {B B' n : Nat} {σ τ : sT} (h : St B σ) (hi : Inv τ) (hg : ∀ k, k < 3 → τ k = σ k) (hl : Lq n σ τ) (hn : B + n ≤ B') : St B' τ := by
  obtain ⟨h1, ⟨g0, g1, g2⟩, ⟨T, t1, t2⟩, h4⟩ := h
  obtain ⟨⟨T', a1, a2⟩, a3⟩ := hl T B t2 h4
  refine ⟨hi, ⟨by rw [hg 0 (by decide)]; exact g0, by rw [hg 1 (by decide)]; exact g1, by rw [hg 2 (by decide)]; exact g2⟩, ⟨T', by omega, a2⟩, fun k p q => ?_⟩
  obtain ⟨m, hm, e⟩ := a3 k p q
  exact ⟨m, by omega, e⟩
theorem kp3 {k : Nat} (h : k < 3) : Kp k := by unfold Kp; omega
theorem mir_ne3 {σ : sT} {k : Nat} (h : k < 3) : (fMir σ).2 k = σ k := by
  unfold fMir
  split
  · have h3 : (sq (fImg (1 - tn (σ 8)) false (fun j => σ (83 + 64 * tn (σ 8) + j)) (tn (σ (83 + 64 * tn (σ 8) + 1))) (σ (83 + 64 * tn (σ 8)))) (fApp 2 (σ 8)) σ).2 k = σ k :=
      sq_P (P := fun τ => τ k = σ k) (img_ne (by omega) (by omega) (by omega)) (fun _ => (fApp_ne (kp3 h)).trans (img_ne (by omega) (by omega) (by omega)))
    dsimp only
    split
    · exact h3
    · exact (cut_ne (by omega)).trans h3
  · rfl
theorem mvj_ne3 {σ : sT} {k : Nat} (h : k < 3) : (fMvj σ).2 k = σ k := by
  unfold fMvj
  split
  · rfl
  · split
    · exact fMoveP_ne (kp3 h)
    · exact (cut_ne (by omega)).trans (fMoveP_ne (kp3 h))
theorem rcv_ne3 {σ : sT} {s : Nat} {v : Int32} {k : Nat} (h : k < 3) : (fRcv s v σ).2 k = σ k := by
  unfold fRcv
  split
  · split
    · rfl
    · have h3 : (sq (fImg s false (payS σ) (nS σ) v) (fApp 2 (nI s)) σ).2 k = σ k :=
        sq_P (P := fun τ => τ k = σ k) (img_ne (by omega) (by omega) (by omega)) (fun _ => (fApp_ne (kp3 h)).trans (img_ne (by omega) (by omega) (by omega)))
      dsimp only
      split
      · show upd (upd _ 4 0) 7 0 k = σ k
        rw [upd_n (by omega), upd_n (by omega)]
        exact h3
      · exact (cut_ne (by omega)).trans h3
  · rfl
theorem St.boot {B : Nat} {σ : sT} (h : St B σ) : St (B + 25) (fBoot σ).2 := h.go h.1.boot (fun k hk => boot_ne (by omega)) (lq_boot h.1) (by omega)
theorem St.con {B : Nat} {σ : sT} (h : St B σ) : St (B + 25) (fCon σ).2 := h.go h.1.con (fun k hk => con_ne (by omega)) (lq_con h.1) (by omega)
theorem St.mir {B : Nat} {σ : sT} (h : St B σ) : St (B + 25) (fMir σ).2 := h.go h.1.mir (fun k hk => mir_ne3 hk) (lq_mir h.1) (by omega)
theorem St.mvj {B : Nat} {σ : sT} (h : St B σ) : St (B + 25) (fMvj σ).2 := h.go h.1.mvj (fun k hk => mvj_ne3 hk) (lq_mvj h.1) (by omega)
theorem St.le {B B' : Nat} {σ : sT} (h : St B σ) (hb : B ≤ B') : St B' σ := h.go (n := 0) h.1 (fun _ _ => rfl) lq_rf (by omega)
theorem St.tup {B : Nat} {σ : sT} {v : Int32} {thr : Bool} (h : St B σ) : St (B + 25) (t_upd v thr σ) := by
  unfold t_upd
  split
  · exact h.go h.1.upda (fun k hk => upd_ne (by omega) (by omega)) (lq_upd h.1) (by omega)
  · exact h.le (by omega)
theorem St.rcv {B : Nat} {σ : sT} {s v : Int32} (h : St B σ) : St (B + 25) (t_rcv s v σ) := by
  unfold t_rcv
  split
  · next c =>
    have hs : tn s < 2 := by
      unfold cRcv at c
      split at c
      · next c2 => exact tn_01 c2.1
      · exact absurd c (by decide)
    exact h.go (h.1.rcv hs) (fun k hk => rcv_ne3 hk) (lq_rcv h.1 hs) (by omega)
  · exact h.le (by omega)
theorem St.off {B : Nat} {σ : sT} (h : St B σ) : St (B + 25) (sOff σ) := h.go (n := 0) h.1.off (fun k hk => (upd_n (by omega)).trans (upd_n (by omega))) lq_off (by omega)
theorem St.pow {B : Nat} {σ : sT} {p : Int32} (h : St B σ) : St (B + 25) (t_power σ p) := by
  unfold t_power
  split
  · next c => exact h.go (n := 0) (by have := h.1.pow (p := p); rw [t_power, if_pos c] at this; exact this) (fun k hk => upd_n (by omega)) (lq_up (by omega)) (by omega)
  · exact h.le (by omega)
theorem St.dam {B : Nat} {σ : sT} {a : Nat} {k : Int32} (h : St B σ) (h1 : 19 ≤ a) (h2 : a < 275) : St (B + 25) (t_dam σ a k) := h.go (n := 0) (h.1.dam h1 h2) (fun j hj => upd_n (by omega)) (lq_up (by omega)) (by omega)
theorem St.dms {B : Nat} {σ : sT} {s i : Nat} {k : Int32} (h : St B σ) (hs : s < 2) (hi : i < 16) : St (B + 25) (t_dams σ (nI s) (nI i) k) := by
  unfold t_dams
  split
  · rw [tn_nI (by omega), tn_nI (by omega)]
    exact h.dam (by omega) (by omega)
  · exact h.le (by omega)
theorem St.dmj {B : Nat} {σ : sT} {s i : Nat} {k : Int32} (h : St B σ) (hs : s < 2) (hi : i < 16) : St (B + 25) (t_damj σ (nI s) (nI i) k) := by
  unfold t_damj
  split
  · rw [tn_nI (by omega), tn_nI (by omega)]
    exact h.dam (by omega) (by omega)
  · exact h.le (by omega)
theorem St.stg {B : Nat} {σ : sT} {w : Int32} (h : St B σ) : St (B + 25) (t_stage σ w) := by
  have hI := h.1.stg (w := w)
  have hb := h.1.bd
  unfold t_stage at hI ⊢
  split
  · next c =>
    rw [if_pos c] at hI
    split
    · exact h.le (by omega)
    · next c2 =>
      rw [if_neg c2] at hI
      exact h.go (n := 0) hI (fun k hk => (upd_n (by omega)).trans (upd_n (by omega))) (lq_tr (n := 0) (m := 0) (lq_up (a := 19 + nS σ) (v := w) (by omega)) (lq_up (a := 4) (by omega))) (by omega)
  · exact h.le (by omega)
theorem msk {m : Nat} (h : m < 16) : inI (1 <<< (nI m &&& 31)) 0 65535 = true := by
  have q : ∀ m : Nat, m < 16 → inI (1 <<< (nI m &&& 31)) 0 65535 = true := by decide +kernel
  exact q m h
theorem gd_nW {σ : sT} (h : Gd σ) : nW σ = 16 := by unfold nW; rw [h.1]; decide
theorem gd_nJ {σ : sT} (h : Gd σ) : nJ σ = 12 := by unfold nJ; rw [h.2.2]; decide
theorem dam_c {s i m n : Nat} (hs : s < 2) (hi : i < n) (hn : n < 2 ^ 31) (hm : m < 16) : cDam (nI s) (nI i) (1 <<< (nI m &&& 31)) n = 0 := (if_pos ⟨sl_i hs, msk hm⟩).trans (if_pos (inb_t hi hn))

set_option maxRecDepth 4000 in
set_option maxHeartbeats 4000000 in
theorem s_L_step {n : Nat} {sh : mS} {G : mG} {I : mI} {J : mJ} {B : Nat} {σ : sT} {sn : Nat → Option sT} (hB : Bt n sh G) (hL : LwR B I σ sn) (hS : St B σ) (hBb : B + 100 < 1000000) {i : Nat} (hi : i < 900) : Sp yL_step cL_step 5 none 9 360 10 60 [.ref 0, .ref 1300, .int (nI i)] n sh G I J (Qv (fun I_ J_ => J = J_ ∧ ∃ τ, LwR (B + 25) I_ τ sn ∧ St (B + 25) τ)) nX := by
  have hI := hS.1
  have hG := hS.2.1
  refine Sp.of (by decide) (ls := [(0, .ref 0), (1, .ref 1300), (2, .int (nI i))]) (fun _ => rfl) (fun _ => Nat.le_of_ble_eq_true rfl) ?_
  refine rc_p (p_aload_n 1 (dk_at ktL_step_0 0 rfl) rfl rfl (b := 1) rfl) ?_
  refine rc_p (p_iload_n 2 (dk_at ktL_step_0 1 rfl) rfl rfl (b := 2) rfl) ?_
  refine rc_p (p_iconst (v := 1) (dk_at ktL_step_0 2 rfl) (by decide) (b := 3) rfl) ?_
  refine rc_p (p_iadd (v := (nI (i + 1))) (dk_at ktL_step_0 3 rfl) (nI_add i 1) (b := 4) rfl) ?_
  refine r_iS (As := [.ref 1300, .int (nI (i + 1))]) (rest := []) (s_L_cell (by omega)) cwL_cell qs_L_cell (dk_at ktL_step_0 4 rfl) rfl rfl (by decide) ⟨by decide, Nat.le_of_ble_eq_true rfl⟩ (b := 7) rfl (fun v2 I1 J3 q4 => ?_)
  obtain ⟨⟨x5, hx5, rfl⟩, rfl, rfl⟩ := q4
  refine rc_p (p_istore_n (ls' := [(3, .int (nI x5)), (0, .ref 0), (1, .ref 1300), (2, .int (nI i))]) (dk_at ktL_step_0 5 rfl) rfl (by decide) rfl (b := 8) rfl) ?_
  refine rc_p (p_aload_n 2 (dk_at ktL_step_0 6 rfl) rfl rfl (b := 9) rfl) ?_
  refine rc_p (p_iload_n 3 (dk_at ktL_step_0 7 rfl) rfl rfl (b := 10) rfl) ?_
  refine rc_p (p_iconst (v := 2) (dk_at ktL_step_0 8 rfl) (by decide) (b := 11) rfl) ?_
  refine rc_p (p_iadd (v := (nI (i + 2))) (dk_at ktL_step_0 9 rfl) (nI_add i 2) (b := 12) rfl) ?_
  refine r_iS (As := [.ref 1300, .int (nI (i + 2))]) (rest := []) (s_L_cell (by omega)) cwL_cell qs_L_cell (dk_at ktL_step_0 10 rfl) rfl rfl (by decide) ⟨by decide, Nat.le_of_ble_eq_true rfl⟩ (b := 15) rfl (fun v7 I6 J8 q9 => ?_)
  obtain ⟨⟨x10, hx10, rfl⟩, rfl, rfl⟩ := q9
  refine rc_p (p_istore (ls' := [(4, .int (nI x10)), (3, .int (nI x5)), (0, .ref 0), (1, .ref 1300), (2, .int (nI i))]) (dk_at ktL_step_0 11 rfl) (by decide) rfl (b := 17) rfl) ?_
  refine rc_p (p_aload_n 3 (dk_at ktL_step_0 12 rfl) rfl rfl (b := 18) rfl) ?_
  refine rc_p (p_iload_n 4 (dk_at ktL_step_0 13 rfl) rfl rfl (b := 19) rfl) ?_
  refine r_iS (As := [.ref 1300, .int (nI i)]) (rest := []) (s_L_cell (by omega)) cwL_cell qs_L_cell (dk_at ktL_step_0 14 rfl) rfl rfl (by decide) ⟨by decide, Nat.le_of_ble_eq_true rfl⟩ (b := 22) rfl (fun v12 I11 J13 q14 => ?_)
  obtain ⟨⟨x15, hx15, rfl⟩, rfl, rfl⟩ := q14
  refine rc_p (p_bipush (v := 14) (dk_at ktL_step_0 15 rfl) (by decide) (b := 24) rfl) ?_
  refine rc_p (p_irem (v := (nI (x15 % 14))) (dk_at ktL_step_0 16 rfl) (by decide) (pk_rem (a := x15) (d := 14) (by omega) (by decide) (by decide)) (b := 25) rfl) ?_
  refine rc_sub [2, 3, 4, 1, 0] (ls' := [(0, .ref 0), (1, .ref 1300), (2, .int (nI i)), (3, .int (nI x5)), (4, .int (nI x10))]) rfl ?_
  have hm14 : x15 % 14 < 14 := Nat.mod_lt _ (by decide)
  generalize x15 % 14 = m at hm14 ⊢
  rcases (by omega : m = 0 ∨ m = 1 ∨ m = 2 ∨ m = 3 ∨ m = 4 ∨ m = 5 ∨ m = 6 ∨ m = 7 ∨ m = 8 ∨ m = 9 ∨ m = 10 ∨ m = 11 ∨ m = 12 ∨ m = 13) with rfl | rfl | rfl | rfl | rfl | rfl | rfl | rfl | rfl | rfl | rfl | rfl | rfl | rfl
  · refine rc_p (p_tabIn (b := 88) (dk_at ktL_step_0 17 rfl) (by decide) (by decide) rfl (by decide)) ?_
    refine rc_p (p_aload_n 0 (dk_at ktL_step_0 18 rfl) rfl rfl (b := 89) rfl) ?_
    refine q_plain (As' := []) (rest := []) (e := 6) (σ' := (fBoot (σ)).2) (fun T N hT hR => s_X6_boot hB hR hI (by omega)) hL hB cw_L_39 qi_X6_boot qv_X6_boot (dk_at ktL_step_0 19 rfl) rfl rfl (by decide) ⟨by decide, Nat.le_of_ble_eq_true rfl⟩ (b := 92) rfl (fun I21 hI21 => ?_)
    refine rc_p (p_pop (dk_at ktL_step_0 20 rfl) rfl (b := 93) rfl) ?_
    refine rc_p (p_goto (b := 261) (dk_at ktL_step_0 21 rfl) (by decide)) ?_
    refine r_vret (dk_at ktL_step_2 1 rfl) rfl ⟨rfl, ?_⟩
    exact ⟨rfl, _, hI21.le (by omega), hS.boot⟩
  · refine rc_p (p_tabIn (b := 96) (dk_at ktL_step_0 17 rfl) (by decide) (by decide) rfl (by decide)) ?_
    refine rc_p (p_aload_n 0 (dk_at ktL_step_0 22 rfl) rfl rfl (b := 97) rfl) ?_
    refine q_plain (As' := []) (rest := []) (e := 5) (σ' := (fCon (σ)).2) (fun T N hT hR => s_X6_confirm hB hR hI (by omega)) hL hB cw_L_42 qi_X6_confirm qv_X6_confirm (dk_at ktL_step_0 23 rfl) rfl rfl (by decide) ⟨by decide, Nat.le_of_ble_eq_true rfl⟩ (b := 100) rfl (fun I21 hI21 => ?_)
    refine rc_p (p_pop (dk_at ktL_step_0 24 rfl) rfl (b := 101) rfl) ?_
    refine rc_p (p_goto (b := 261) (dk_at ktL_step_0 25 rfl) (by decide)) ?_
    refine r_vret (dk_at ktL_step_2 1 rfl) rfl ⟨rfl, ?_⟩
    exact ⟨rfl, _, hI21.le (by omega), hS.con⟩
  · refine rc_p (p_tabIn (b := 104) (dk_at ktL_step_0 17 rfl) (by decide) (by decide) rfl (by decide)) ?_
    refine rc_p (p_aload_n 0 (dk_at ktL_step_0 26 rfl) rfl rfl (b := 105) rfl) ?_
    refine rc_p (p_iconst (v := 1) (dk_at ktL_step_0 27 rfl) (by decide) (b := 106) rfl) ?_
    refine rc_p (p_iload_n 3 (dk_at ktL_step_0 28 rfl) rfl rfl (b := 107) rfl) ?_
    refine rc_p (p_sipush (v := 255) (dk_at ktL_step_0 29 rfl) (by decide) (b := 110) rfl) ?_
    refine rc_p (p_irem (v := (nI (x5 % 255))) (dk_at ktL_step_0 30 rfl) (by decide) (pk_rem (a := x5) (d := 255) (by omega) (by decide) (by decide)) (b := 111) rfl) ?_
    refine rc_p (p_iadd (v := (nI (1 + (x5 % 255)))) (dk_at ktL_step_0 31 rfl) (nI_add 1 (x5 % 255)) (b := 112) rfl) ?_
    refine q_code (As' := [.int (nI (1 + (x5 % 255)))]) (rest := []) (e := 4) (σ' := t_upd (nI (1 + (x5 % 255))) false (σ)) (fun T N hT hR => s_X6_update hB hR hI (by omega) (nI (1 + (x5 % 255)))) hL (cIn_t (rg_t (a := 1) (b := 255) (by omega) (by omega) (by decide))) hB cw_L_45 qi_X6_update qv_X6_update (dk_at ktL_step_0 32 rfl) rfl rfl (by decide) ⟨by decide, Nat.le_of_ble_eq_true rfl⟩ (b := 115) rfl (kc' := 9) (ks' := 54) (Nat.le_of_ble_eq_true rfl) (Nat.le_of_ble_eq_true rfl) (fun I21 hI21 => ?_)
    refine rc_p (p_pop (dk_at ktL_step_0 33 rfl) rfl (b := 116) rfl) ?_
    refine rc_p (p_goto (b := 261) (dk_at ktL_step_0 34 rfl) (by decide)) ?_
    refine r_vret (dk_at ktL_step_2 1 rfl) rfl ⟨rfl, ?_⟩
    exact ⟨rfl, _, hI21.le (by omega), hS.tup⟩
  · refine rc_p (p_tabIn (b := 119) (dk_at ktL_step_0 17 rfl) (by decide) (by decide) rfl (by decide)) ?_
    refine rc_p (p_aload_n 0 (dk_at ktL_step_0 35 rfl) rfl rfl (b := 120) rfl) ?_
    refine rc_p (p_iconst (v := 1) (dk_at ktL_step_0 36 rfl) (by decide) (b := 121) rfl) ?_
    refine rc_p (p_iload_n 3 (dk_at ktL_step_0 37 rfl) rfl rfl (b := 122) rfl) ?_
    refine rc_p (p_sipush (v := 255) (dk_at ktL_step_0 38 rfl) (by decide) (b := 125) rfl) ?_
    refine rc_p (p_irem (v := (nI (x5 % 255))) (dk_at ktL_step_0 39 rfl) (by decide) (pk_rem (a := x5) (d := 255) (by omega) (by decide) (by decide)) (b := 126) rfl) ?_
    refine rc_p (p_iadd (v := (nI (1 + (x5 % 255)))) (dk_at ktL_step_0 40 rfl) (nI_add 1 (x5 % 255)) (b := 127) rfl) ?_
    refine q_code (As' := [.int (nI (1 + (x5 % 255)))]) (rest := []) (e := 4) (σ' := t_upd (nI (1 + (x5 % 255))) true (σ)) (fun T N hT hR => s_X6_thriftyUpdate hB hR hI (by omega) (nI (1 + (x5 % 255)))) hL (cIn_t (rg_t (a := 1) (b := 255) (by omega) (by omega) (by decide))) hB cw_L_48 qi_X6_thriftyUpdate qv_X6_thriftyUpdate (dk_at ktL_step_0 41 rfl) rfl rfl (by decide) ⟨by decide, Nat.le_of_ble_eq_true rfl⟩ (b := 130) rfl (kc' := 9) (ks' := 54) (Nat.le_of_ble_eq_true rfl) (Nat.le_of_ble_eq_true rfl) (fun I21 hI21 => ?_)
    refine rc_p (p_pop (dk_at ktL_step_0 42 rfl) rfl (b := 131) rfl) ?_
    refine rc_p (p_goto (b := 261) (dk_at ktL_step_0 43 rfl) (by decide)) ?_
    refine r_vret (dk_at ktL_step_2 1 rfl) rfl ⟨rfl, ?_⟩
    exact ⟨rfl, _, hI21.le (by omega), hS.tup⟩
  · refine rc_p (p_tabIn (b := 134) (dk_at ktL_step_0 17 rfl) (by decide) (by decide) rfl (by decide)) ?_
    refine rc_p (p_aload_n 0 (dk_at ktL_step_0 44 rfl) rfl rfl (b := 135) rfl) ?_
    refine q_plain (As' := []) (rest := []) (e := 4) (σ' := (fMir (σ)).2) (fun T N hT hR => s_X6_mirror hB hR hI (by omega)) hL hB cw_L_51 qi_X6_mirror qv_X6_mirror (dk_at ktL_step_0 45 rfl) rfl rfl (by decide) ⟨by decide, Nat.le_of_ble_eq_true rfl⟩ (b := 138) rfl (fun I21 hI21 => ?_)
    refine rc_p (p_pop (dk_at ktL_step_0 46 rfl) rfl (b := 139) rfl) ?_
    refine rc_p (p_goto (b := 261) (dk_at ktL_step_0 47 rfl) (by decide)) ?_
    refine r_vret (dk_at ktL_step_2 1 rfl) rfl ⟨rfl, ?_⟩
    exact ⟨rfl, _, hI21.le (by omega), hS.mir⟩
  · refine rc_p (p_tabIn (b := 142) (dk_at ktL_step_0 17 rfl) (by decide) (by decide) rfl (by decide)) ?_
    refine rc_p (p_aload_n 0 (dk_at ktL_step_0 48 rfl) rfl rfl (b := 143) rfl) ?_
    refine q_plain (As' := []) (rest := []) (e := 2) (σ' := (fMvj (σ)).2) (fun T N hT hR => s_X6_moveJournal hB hR hI (by omega)) hL hB cw_L_54 qi_X6_moveJournal qv_X6_moveJournal (dk_at ktL_step_0 49 rfl) rfl rfl (by decide) ⟨by decide, Nat.le_of_ble_eq_true rfl⟩ (b := 146) rfl (fun I21 hI21 => ?_)
    refine rc_p (p_pop (dk_at ktL_step_0 50 rfl) rfl (b := 147) rfl) ?_
    refine rc_p (p_goto (b := 261) (dk_at ktL_step_0 51 rfl) (by decide)) ?_
    refine r_vret (dk_at ktL_step_2 1 rfl) rfl ⟨rfl, ?_⟩
    exact ⟨rfl, _, hI21.le (by omega), hS.mvj⟩
  · refine rc_p (p_tabIn (b := 150) (dk_at ktL_step_0 17 rfl) (by decide) (by decide) rfl (by decide)) ?_
    refine rc_p (p_aload_n 0 (dk_at ktL_step_0 52 rfl) rfl rfl (b := 151) rfl) ?_
    refine rc_p (p_iload_n 3 (dk_at ktL_step_0 53 rfl) rfl rfl (b := 152) rfl) ?_
    refine rc_p (p_iconst (v := 2) (dk_at ktL_step_0 54 rfl) (by decide) (b := 153) rfl) ?_
    refine rc_p (p_irem (v := (nI (x5 % 2))) (dk_at ktL_step_0 55 rfl) (by decide) (pk_rem (a := x5) (d := 2) (by omega) (by decide) (by decide)) (b := 154) rfl) ?_
    refine rc_p (p_iconst (v := 1) (dk_at ktL_step_0 56 rfl) (by decide) (b := 155) rfl) ?_
    refine rc_p (p_iload 4 (dk_at ktL_step_0 57 rfl) rfl (b := 157) rfl) ?_
    refine rc_p (p_sipush (v := 255) (dk_at ktL_step_0 58 rfl) (by decide) (b := 160) rfl) ?_
    refine rc_p (p_irem (v := (nI (x10 % 255))) (dk_at ktL_step_0 59 rfl) (by decide) (pk_rem (a := x10) (d := 255) (by omega) (by decide) (by decide)) (b := 161) rfl) ?_
    refine rc_p (p_iadd (v := (nI (1 + (x10 % 255)))) (dk_at ktL_step_1 0 rfl) (nI_add 1 (x10 % 255)) (b := 162) rfl) ?_
    refine q_code (As' := [.int (nI (x5 % 2)), .int (nI (1 + (x10 % 255)))]) (rest := []) (e := 4) (σ' := t_rcv (nI (x5 % 2)) (nI (1 + (x10 % 255))) (σ)) (fun T N hT hR => s_X6_recover hB hR hI (by omega) (nI (x5 % 2)) (nI (1 + (x10 % 255)))) hL (cRcv_0 (sl_i (by omega)) (rg_t (a := 1) (b := 255) (by omega) (by omega) (by decide))) hB cw_L_57 qi_X6_recover qv_X6_recover (dk_at ktL_step_1 1 rfl) rfl rfl (by decide) ⟨by decide, Nat.le_of_ble_eq_true rfl⟩ (b := 165) rfl (kc' := 8) (ks' := 48) (Nat.le_of_ble_eq_true rfl) (Nat.le_of_ble_eq_true rfl) (fun I21 hI21 => ?_)
    refine rc_p (p_pop (dk_at ktL_step_1 2 rfl) rfl (b := 166) rfl) ?_
    refine rc_p (p_goto (b := 261) (dk_at ktL_step_1 3 rfl) (by decide)) ?_
    refine r_vret (dk_at ktL_step_2 1 rfl) rfl ⟨rfl, ?_⟩
    exact ⟨rfl, _, hI21.le (by omega), hS.rcv⟩
  · refine rc_p (p_tabIn (b := 169) (dk_at ktL_step_0 17 rfl) (by decide) (by decide) rfl (by decide)) ?_
    refine rc_p (p_aload_n 0 (dk_at ktL_step_1 4 rfl) rfl rfl (b := 170) rfl) ?_
    refine rc_p (p_iload_n 3 (dk_at ktL_step_1 5 rfl) rfl rfl (b := 171) rfl) ?_
    refine rc_p (p_iconst (v := 3) (dk_at ktL_step_1 6 rfl) (by decide) (b := 172) rfl) ?_
    refine rc_p (p_irem (v := (nI (x5 % 3))) (dk_at ktL_step_1 7 rfl) (by decide) (pk_rem (a := x5) (d := 3) (by omega) (by decide) (by decide)) (b := 173) rfl) ?_
    refine r_if_ne (dk_at ktL_step_1 8 rfl) (b := 184) (by decide) (b2 := 176) rfl (fun c173 => ?_) (fun c173 => ?_)
    · have c173 : ¬ (x5 % 3) = 0 := fun h => c173 ((nI_eq (a := x5 % 3) (b := 0) (by omega) (by omega)).mpr h)
      refine rc_p (p_iconst (v := (-1)) (dk_at ktL_step_1 13 rfl) (by decide) (b := 185) rfl) ?_
      refine q_code (As' := [.int (-1)]) (rest := []) (e := 0) (σ' := t_power (σ) (-1)) (fun T N hT hR => s_X6_setPower hB hR hI (-1)) hL (by decide) hB cw_L_61 qi_X6_setPower qv_X6_setPower (dk_at ktL_step_1 14 rfl) rfl rfl (by decide) ⟨by decide, Nat.le_of_ble_eq_true rfl⟩ (b := 188) rfl (kc' := 9) (ks' := 54) (Nat.le_of_ble_eq_true rfl) (Nat.le_of_ble_eq_true rfl) (fun I21 hI21 => ?_)
      have hI21 : LwR (B) I21 (t_power (σ) (-1)) (sn) := hI21
      refine rc_p (p_pop (dk_at ktL_step_1 15 rfl) rfl (b := 189) rfl) ?_
      refine rc_p (p_goto (b := 261) (dk_at ktL_step_1 16 rfl) (by decide)) ?_
      refine r_vret (dk_at ktL_step_2 1 rfl) rfl ⟨rfl, ?_⟩
      exact ⟨rfl, _, hI21.le (by omega), hS.pow⟩
    · have c173 : (x5 % 3) = 0 := (nI_eq (a := x5 % 3) (b := 0) (by omega) (by omega)).mp c173
      refine rc_p (p_iload 4 (dk_at ktL_step_1 9 rfl) rfl (b := 178) rfl) ?_
      refine rc_p (p_bipush (v := 40) (dk_at ktL_step_1 10 rfl) (by decide) (b := 180) rfl) ?_
      refine rc_p (p_irem (v := (nI (x10 % 40))) (dk_at ktL_step_1 11 rfl) (by decide) (pk_rem (a := x10) (d := 40) (by omega) (by decide) (by decide)) (b := 181) rfl) ?_
      refine rc_p (p_goto (b := 185) (dk_at ktL_step_1 12 rfl) (by decide)) ?_
      refine q_code (As' := [.int (nI (x10 % 40))]) (rest := []) (e := 0) (σ' := t_power (σ) (nI (x10 % 40))) (fun T N hT hR => s_X6_setPower hB hR hI (nI (x10 % 40))) hL (pow_c (by omega)) hB cw_L_61 qi_X6_setPower qv_X6_setPower (dk_at ktL_step_1 14 rfl) rfl rfl (by decide) ⟨by decide, Nat.le_of_ble_eq_true rfl⟩ (b := 188) rfl (kc' := 9) (ks' := 54) (Nat.le_of_ble_eq_true rfl) (Nat.le_of_ble_eq_true rfl) (fun I22 hI22 => ?_)
      have hI22 : LwR (B) I22 (t_power (σ) (nI (x10 % 40))) (sn) := hI22
      refine rc_p (p_pop (dk_at ktL_step_1 15 rfl) rfl (b := 189) rfl) ?_
      refine rc_p (p_goto (b := 261) (dk_at ktL_step_1 16 rfl) (by decide)) ?_
      refine r_vret (dk_at ktL_step_2 1 rfl) rfl ⟨rfl, ?_⟩
      exact ⟨rfl, _, hI22.le (by omega), hS.pow⟩
  · refine rc_p (p_tabIn (b := 192) (dk_at ktL_step_0 17 rfl) (by decide) (by decide) rfl (by decide)) ?_
    refine rc_p (p_aload_n 0 (dk_at ktL_step_1 17 rfl) rfl rfl (b := 193) rfl) ?_
    refine q_plain (As' := []) (rest := []) (e := 0) (σ' := sOff (σ)) (fun T N hT hR => s_X6_off hB hR hI) hL hB cw_L_64 qi_X6_off qv_X6_off (dk_at ktL_step_1 18 rfl) rfl rfl (by decide) ⟨by decide, Nat.le_of_ble_eq_true rfl⟩ (b := 196) rfl (fun I21 hI21 => ?_)
    have hI21 : LwR (B) I21 (sOff (σ)) (sn) := hI21
    refine rc_p (p_pop (dk_at ktL_step_1 19 rfl) rfl (b := 197) rfl) ?_
    refine rc_p (p_goto (b := 261) (dk_at ktL_step_1 20 rfl) (by decide)) ?_
    refine r_vret (dk_at ktL_step_2 1 rfl) rfl ⟨rfl, ?_⟩
    exact ⟨rfl, _, hI21.le (by omega), hS.off⟩
  · refine rc_p (p_tabIn (b := 200) (dk_at ktL_step_0 17 rfl) (by decide) (by decide) rfl (by decide)) ?_
    refine rc_p (p_aload_n 0 (dk_at ktL_step_1 21 rfl) rfl rfl (b := 201) rfl) ?_
    refine rc_p (p_iload_n 3 (dk_at ktL_step_1 22 rfl) rfl rfl (b := 202) rfl) ?_
    refine rc_p (p_iconst (v := 2) (dk_at ktL_step_1 23 rfl) (by decide) (b := 203) rfl) ?_
    refine rc_p (p_irem (v := (nI (x5 % 2))) (dk_at ktL_step_1 24 rfl) (by decide) (pk_rem (a := x5) (d := 2) (by omega) (by decide) (by decide)) (b := 204) rfl) ?_
    refine rc_p (p_iload 4 (dk_at ktL_step_1 25 rfl) rfl (b := 206) rfl) ?_
    refine rc_p (p_bipush (v := 16) (dk_at ktL_step_1 26 rfl) (by decide) (b := 208) rfl) ?_
    refine rc_p (p_irem (v := (nI (x10 % 16))) (dk_at ktL_step_1 27 rfl) (by decide) (pk_rem (a := x10) (d := 16) (by omega) (by decide) (by decide)) (b := 209) rfl) ?_
    refine rc_p (p_iconst (v := 1) (dk_at ktL_step_1 28 rfl) (by decide) (b := 210) rfl) ?_
    refine rc_p (p_iload_n 3 (dk_at ktL_step_1 29 rfl) rfl rfl (b := 211) rfl) ?_
    refine rc_p (p_bipush (v := 16) (dk_at ktL_step_1 30 rfl) (by decide) (b := 213) rfl) ?_
    refine rc_p (p_irem (v := (nI (x5 % 16))) (dk_at ktL_step_1 31 rfl) (by decide) (pk_rem (a := x5) (d := 16) (by omega) (by decide) (by decide)) (b := 214) rfl) ?_
    refine rc_p (p_ishl (v := (1 <<< ((nI (x5 % 16)) &&& 31))) (dk_at ktL_step_1 32 rfl) rfl (b := 215) rfl) ?_
    refine q_code (As' := [.int (nI (x5 % 2)), .int (nI (x10 % 16)), .int (1 <<< ((nI (x5 % 16)) &&& 31))]) (rest := []) (e := 0) (σ' := t_dams (σ) (nI (x5 % 2)) (nI (x10 % 16)) (1 <<< ((nI (x5 % 16)) &&& 31))) (fun T N hT hR => s_X6_damage hB hR hI (nI (x5 % 2)) (nI (x10 % 16)) (1 <<< ((nI (x5 % 16)) &&& 31))) hL (by rw [gd_nW hG]; exact dam_c (by omega) (by omega) (by decide) (by omega)) hB cw_L_68 qi_X6_damage qv_X6_damage (dk_at ktL_step_1 33 rfl) rfl rfl (by decide) ⟨by decide, Nat.le_of_ble_eq_true rfl⟩ (b := 218) rfl (kc' := 7) (ks' := 42) (Nat.le_of_ble_eq_true rfl) (Nat.le_of_ble_eq_true rfl) (fun I21 hI21 => ?_)
    have hI21 : LwR (B) I21 (t_dams (σ) (nI (x5 % 2)) (nI (x10 % 16)) (1 <<< ((nI (x5 % 16)) &&& 31))) (sn) := hI21
    refine rc_p (p_pop (dk_at ktL_step_1 34 rfl) rfl (b := 219) rfl) ?_
    refine rc_p (p_goto (b := 261) (dk_at ktL_step_1 35 rfl) (by decide)) ?_
    refine r_vret (dk_at ktL_step_2 1 rfl) rfl ⟨rfl, ?_⟩
    exact ⟨rfl, _, hI21.le (by omega), (hS.dms (by omega) (by omega))⟩
  · refine rc_p (p_tabIn (b := 222) (dk_at ktL_step_0 17 rfl) (by decide) (by decide) rfl (by decide)) ?_
    refine rc_p (p_aload_n 0 (dk_at ktL_step_1 36 rfl) rfl rfl (b := 223) rfl) ?_
    refine rc_p (p_iload_n 3 (dk_at ktL_step_1 37 rfl) rfl rfl (b := 224) rfl) ?_
    refine rc_p (p_iconst (v := 2) (dk_at ktL_step_1 38 rfl) (by decide) (b := 225) rfl) ?_
    refine rc_p (p_irem (v := (nI (x5 % 2))) (dk_at ktL_step_1 39 rfl) (by decide) (pk_rem (a := x5) (d := 2) (by omega) (by decide) (by decide)) (b := 226) rfl) ?_
    refine rc_p (p_iload 4 (dk_at ktL_step_1 40 rfl) rfl (b := 228) rfl) ?_
    refine rc_p (p_bipush (v := 12) (dk_at ktL_step_1 41 rfl) (by decide) (b := 230) rfl) ?_
    refine rc_p (p_irem (v := (nI (x10 % 12))) (dk_at ktL_step_1 42 rfl) (by decide) (pk_rem (a := x10) (d := 12) (by omega) (by decide) (by decide)) (b := 231) rfl) ?_
    refine rc_p (p_iconst (v := 1) (dk_at ktL_step_1 43 rfl) (by decide) (b := 232) rfl) ?_
    refine rc_p (p_iload_n 3 (dk_at ktL_step_1 44 rfl) rfl rfl (b := 233) rfl) ?_
    refine rc_p (p_bipush (v := 16) (dk_at ktL_step_1 45 rfl) (by decide) (b := 235) rfl) ?_
    refine rc_p (p_irem (v := (nI (x5 % 16))) (dk_at ktL_step_1 46 rfl) (by decide) (pk_rem (a := x5) (d := 16) (by omega) (by decide) (by decide)) (b := 236) rfl) ?_
    refine rc_p (p_ishl (v := (1 <<< ((nI (x5 % 16)) &&& 31))) (dk_at ktL_step_1 47 rfl) rfl (b := 237) rfl) ?_
    refine q_code (As' := [.int (nI (x5 % 2)), .int (nI (x10 % 12)), .int (1 <<< ((nI (x5 % 16)) &&& 31))]) (rest := []) (e := 0) (σ' := t_damj (σ) (nI (x5 % 2)) (nI (x10 % 12)) (1 <<< ((nI (x5 % 16)) &&& 31))) (fun T N hT hR => s_X6_damageJournal hB hR hI (nI (x5 % 2)) (nI (x10 % 12)) (1 <<< ((nI (x5 % 16)) &&& 31))) hL (by rw [gd_nJ hG]; exact dam_c (by omega) (by omega) (by decide) (by omega)) hB cw_L_72 qi_X6_damageJournal qv_X6_damageJournal (dk_at ktL_step_1 48 rfl) rfl rfl (by decide) ⟨by decide, Nat.le_of_ble_eq_true rfl⟩ (b := 240) rfl (kc' := 7) (ks' := 42) (Nat.le_of_ble_eq_true rfl) (Nat.le_of_ble_eq_true rfl) (fun I21 hI21 => ?_)
    have hI21 : LwR (B) I21 (t_damj (σ) (nI (x5 % 2)) (nI (x10 % 12)) (1 <<< ((nI (x5 % 16)) &&& 31))) (sn) := hI21
    refine rc_p (p_pop (dk_at ktL_step_1 49 rfl) rfl (b := 241) rfl) ?_
    refine rc_p (p_goto (b := 261) (dk_at ktL_step_1 50 rfl) (by decide)) ?_
    refine r_vret (dk_at ktL_step_2 1 rfl) rfl ⟨rfl, ?_⟩
    exact ⟨rfl, _, hI21.le (by omega), (hS.dmj (by omega) (by omega))⟩
  · refine rc_p (p_tabIn (b := 244) (dk_at ktL_step_0 17 rfl) (by decide) (by decide) rfl (by decide)) ?_
    refine rc_p (p_aload_n 0 (dk_at ktL_step_1 51 rfl) rfl rfl (b := 245) rfl) ?_
    refine q_plain (As' := []) (rest := []) (e := 6) (σ' := (fBoot (σ)).2) (fun T N hT hR => s_X6_boot hB hR hI (by omega)) hL hB cw_L_39 qi_X6_boot qv_X6_boot (dk_at ktL_step_1 52 rfl) rfl rfl (by decide) ⟨by decide, Nat.le_of_ble_eq_true rfl⟩ (b := 248) rfl (fun I21 hI21 => ?_)
    refine rc_p (p_pop (dk_at ktL_step_1 53 rfl) rfl (b := 249) rfl) ?_
    refine rc_p (p_goto (b := 261) (dk_at ktL_step_1 54 rfl) (by decide)) ?_
    refine r_vret (dk_at ktL_step_2 1 rfl) rfl ⟨rfl, ?_⟩
    exact ⟨rfl, _, hI21.le (by omega), hS.boot⟩
  · refine rc_p (p_tabOut (b := 252) (dk_at ktL_step_0 17 rfl) (by decide) (by decide)) ?_
    refine rc_p (p_aload_n 0 (dk_at ktL_step_1 55 rfl) rfl rfl (b := 253) rfl) ?_
    refine rc_p (p_iload_n 3 (dk_at ktL_step_1 56 rfl) rfl rfl (b := 254) rfl) ?_
    refine rc_p (p_ldc (v := 65536) qk_TwinBootLaw_75 (dk_at ktL_step_1 57 rfl) (b := 256) rfl) ?_
    refine rc_p (p_irem (v := (nI (x5 % 65536))) (dk_at ktL_step_1 58 rfl) (by decide) (pk_rem (a := x5) (d := 65536) (by omega) (by decide) (by decide)) (b := 257) rfl) ?_
    refine q_code (As' := [.int (nI (x5 % 65536))]) (rest := []) (e := 0) (σ' := t_stage (σ) (nI (x5 % 65536))) (fun T N hT hR => s_X6_stage hB hR hI (nI (x5 % 65536))) hL (cIn_t (rg_t (a := 0) (b := 65535) (by omega) (by omega) (by decide))) hB cw_L_76 qi_X6_stage qv_X6_stage (dk_at ktL_step_1 59 rfl) rfl rfl (by decide) ⟨by decide, Nat.le_of_ble_eq_true rfl⟩ (b := 260) rfl (kc' := 9) (ks' := 54) (Nat.le_of_ble_eq_true rfl) (Nat.le_of_ble_eq_true rfl) (fun I21 hI21 => ?_)
    have hI21 : LwR (B) I21 (t_stage (σ) (nI (x5 % 65536))) (sn) := hI21
    refine rc_p (p_pop (dk_at ktL_step_2 0 rfl) rfl (b := 261) rfl) ?_
    refine r_vret (dk_at ktL_step_2 1 rfl) rfl ⟨rfl, ?_⟩
    exact ⟨rfl, _, hI21.le (by omega), hS.stg⟩
  · refine rc_p (p_tabOut (b := 252) (dk_at ktL_step_0 17 rfl) (by decide) (by decide)) ?_
    refine rc_p (p_aload_n 0 (dk_at ktL_step_1 55 rfl) rfl rfl (b := 253) rfl) ?_
    refine rc_p (p_iload_n 3 (dk_at ktL_step_1 56 rfl) rfl rfl (b := 254) rfl) ?_
    refine rc_p (p_ldc (v := 65536) qk_TwinBootLaw_75 (dk_at ktL_step_1 57 rfl) (b := 256) rfl) ?_
    refine rc_p (p_irem (v := (nI (x5 % 65536))) (dk_at ktL_step_1 58 rfl) (by decide) (pk_rem (a := x5) (d := 65536) (by omega) (by decide) (by decide)) (b := 257) rfl) ?_
    refine q_code (As' := [.int (nI (x5 % 65536))]) (rest := []) (e := 0) (σ' := t_stage (σ) (nI (x5 % 65536))) (fun T N hT hR => s_X6_stage hB hR hI (nI (x5 % 65536))) hL (cIn_t (rg_t (a := 0) (b := 65535) (by omega) (by omega) (by decide))) hB cw_L_76 qi_X6_stage qv_X6_stage (dk_at ktL_step_1 59 rfl) rfl rfl (by decide) ⟨by decide, Nat.le_of_ble_eq_true rfl⟩ (b := 260) rfl (kc' := 9) (ks' := 54) (Nat.le_of_ble_eq_true rfl) (Nat.le_of_ble_eq_true rfl) (fun I21 hI21 => ?_)
    have hI21 : LwR (B) I21 (t_stage (σ) (nI (x5 % 65536))) (sn) := hI21
    refine rc_p (p_pop (dk_at ktL_step_2 0 rfl) rfl (b := 261) rfl) ?_
    refine r_vret (dk_at ktL_step_2 1 rfl) rfl ⟨rfl, ?_⟩
    exact ⟨rfl, _, hI21.le (by omega), hS.stg⟩

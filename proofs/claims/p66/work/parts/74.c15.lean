/-! THE CLASS: snapshots -/
def SnD (bv b0 b1 : Nat) (I : mI) (sn : Nat → Option sT) (B : Nat) : Prop := ((sn 0 = none → I bv 0 = 0) ∧ ∀ τ, sn 0 = some τ → I bv 0 = 1 ∧ RelN b0 I τ B) ∧ (sn 1 = none → I bv 1 = 0) ∧ ∀ τ, sn 1 = some τ → I bv 1 = 1 ∧ RelN b1 I τ B
theorem RelN.fr {d : Nat} {I I' : mI} {σ : sT} {B : Nat} (h : RelN d I σ B) (hf : ∀ b, d ≤ b → b < d + 19 → I' b = I b) : RelN d I' σ B := by
  obtain ⟨T, N, h1, h2⟩ := h
  exact ⟨T, N, h1, h2.fr hf⟩
theorem RelN.le {d : Nat} {I : mI} {σ : sT} {B B' : Nat} (h : RelN d I σ B) (hb : B ≤ B') : RelN d I σ B' := by
  obtain ⟨T, N, h1, h2⟩ := h
  exact ⟨T, N, by omega, h2⟩
theorem SnD.of {bv b0 b1 : Nat} {I I' : mI} {sn : Nat → Option sT} {B B' : Nat} (h : SnD bv b0 b1 I sn B) (hb : B ≤ B') (hv : I' bv = I bv) (h0 : ∀ b, b0 ≤ b → b < b0 + 19 → I' b = I b) (h1 : ∀ b, b1 ≤ b → b < b1 + 19 → I' b = I b) : SnD bv b0 b1 I' sn B' := by
  unfold SnD
  rw [hv]
  exact ⟨⟨h.1.1, fun τ e => ⟨(h.1.2 τ e).1, ((h.1.2 τ e).2.fr h0).le hb⟩⟩, h.2.1, fun τ e => ⟨(h.2.2 τ e).1, ((h.2.2 τ e).2.fr h1).le hb⟩⟩
theorem SnD.sv0 {bv b0 b1 : Nat} {I I' : mI} {sn : Nat → Option sT} {B : Nat} {σ : sT} (h : SnD bv b0 b1 I sn B) (hv : I' bv 0 = 1) (hv1 : I' bv 1 = I bv 1) (hr : RelN b0 I' σ B) (h1 : ∀ b, b1 ≤ b → b < b1 + 19 → I' b = I b) : SnD bv b0 b1 I' (svS 0 σ sn) B := by
  rw [show svS 0 σ sn = (fun j => if j = 0 then some σ else sn j) from if_pos (by decide)]
  refine ⟨⟨fun q => ?_, fun τ e => ?_⟩, ?_, ?_⟩
  · exact absurd q (by simp)
  · have : σ = τ := by simpa using e
    subst this
    exact ⟨hv, hr⟩
  · rw [hv1]; exact h.2.1
  · intro τ e
    rw [hv1]
    have := h.2.2 τ e
    exact ⟨this.1, this.2.fr h1⟩
theorem SnD.sv1 {bv b0 b1 : Nat} {I I' : mI} {sn : Nat → Option sT} {B : Nat} {σ : sT} (h : SnD bv b0 b1 I sn B) (hv : I' bv 1 = 1) (hv0 : I' bv 0 = I bv 0) (hr : RelN b1 I' σ B) (h0 : ∀ b, b0 ≤ b → b < b0 + 19 → I' b = I b) : SnD bv b0 b1 I' (svS 1 σ sn) B := by
  rw [show svS 1 σ sn = (fun j => if j = 1 then some σ else sn j) from if_pos (by decide)]
  refine ⟨⟨?_, ?_⟩, fun q => ?_, fun τ e => ?_⟩
  · rw [hv0]; exact h.1.1
  · intro τ e
    rw [hv0]
    have := h.1.2 τ e
    exact ⟨this.1, this.2.fr h0⟩
  · exact absurd q (by simp)
  · have : σ = τ := by simpa using e
    subst this
    exact ⟨hv, hr⟩
set_option maxRecDepth 4000 in
set_option maxHeartbeats 4000000 in
theorem s_X6_saveSnapshot {n : Nat} {sh : mS} {G : mG} {I : mI} {J : mJ} {bx bt d be bf bg b0 b1 bv : Nat} {σ : sT} {T N : Nat} (hB : BootH n sh G bx bt d be bf bg b0 b1 bv) (hR : RelD d I σ T N) (hI : Inv σ) {sn : Nat → Option sT} {B : Nat} (hTB : T ≤ B) (hS : SnD bv b0 b1 I sn B) (s : Int32) : Sp yX6_saveSnapshot cX6_saveSnapshot 2 (some FieldType.int) 8 330 1 6 [.ref bx, .int s] n sh G I J (Qi (fun r_ I_ J_ => cIn s 0 1 = 0 ∧ σ 9 = r_ ∧ J = J_ ∧ RelN d I_ σ T ∧ SnD bv b0 b1 I_ (svS s σ sn) B ∧ FB b0 (bv + 1) I I_)) (eX (cIn s 0 1) I J) := by
  have hd := hB.hD
  have hord := hB.ord
  have hb := hI.bd
  have hNs := hR.2.2.2.1
  have hN61 := hR.2.2.2.2.1
  have hTm := hR.2.2.2.2.2
  rcases sl_c s with rfl | rfl | hw
  · refine Sp.of (by decide) (ls := [(0, .ref bx), (1, .int 0)]) (fun _ => rfl) (fun _ => Nat.le_of_ble_eq_true rfl) ?_
    refine rc_p (p_iload_n 1 (dk_at ktX6_saveSnapshot_0 0 rfl) rfl rfl (b := 1) rfl) ?_
    refine r_vSX (As := [.int 0]) (rest := []) (s_X6_requireSlot 0) cw_X6_134 qs_X6_requireSlot (dk_at ktX6_saveSnapshot_0 1 rfl) rfl rfl (Nat.le_of_ble_eq_true rfl) (by decide) (b := 4) rfl (fun _ _ _ h => ⟨Or.inl ⟨h.1, cIn_f h.2.1⟩, h.2.2⟩) (fun I1 J2 hq3 => ?_)
    obtain ⟨ok4, rfl, rfl⟩ := hq3
    refine rc_p (p_aload_n 0 (dk_at ktX6_saveSnapshot_0 2 rfl) rfl rfl (b := 5) rfl) ?_
    refine r_geta fl_X6_37 rfl hB.l0 hB.s0 (dk_at ktX6_saveSnapshot_0 3 rfl) hB.g0_4 (b := 8) rfl ?_
    refine rc_p (p_iload_n 1 (dk_at ktX6_saveSnapshot_0 4 rfl) rfl rfl (b := 9) rfl) ?_
    refine r_aald (j := 0) (id2 := b0) hB.hg.l0 hB.hg.s0 (by decide) (dk_at ktX6_saveSnapshot_0 5 rfl) rfl ⟨by decide, by decide⟩ hB.gg_0 (b := 10) rfl ?_
    refine rc_p (p_aload_n 0 (dk_at ktX6_saveSnapshot_0 6 rfl) rfl rfl (b := 11) rfl) ?_
    refine r_geta fl_X6_27 rfl hB.l0 hB.s0 (dk_at ktX6_saveSnapshot_0 7 rfl) hB.g0_1 (b := 14) rfl ?_
    refine r_vV (As' := [.ref d]) (rest := []) (s_X0_copyFrom (d := b0) (o := d) hB.h0 hd (by omega) hR) cw_X6_238 qi_X0_copyFrom qv_X0_copyFrom rfl hB.h0.l0 hB.h0.s0 (dk_at ktX6_saveSnapshot_0 8 rfl) rfl rfl (Nat.le_of_ble_eq_true rfl) (by decide) (b := 17) rfl (fun I5 J6 q7 => ?_)
    obtain ⟨rfl, hR9, hF10⟩ := q7
    refine rc_p (p_aload_n 0 (dk_at ktX6_saveSnapshot_0 9 rfl) rfl rfl (b := 18) rfl) ?_
    refine r_geta fl_X6_41 rfl hB.l0 hB.s0 (dk_at ktX6_saveSnapshot_0 10 rfl) hB.g0_5 (b := 21) rfl ?_
    refine rc_p (p_iload_n 1 (dk_at ktX6_saveSnapshot_0 11 rfl) rfl rfl (b := 22) rfl) ?_
    refine rc_p (p_iconst (v := 1) (dk_at ktX6_saveSnapshot_0 12 rfl) (by decide) (b := 23) rfl) ?_
    refine r_zast (j := 0) hB.hv.l0 hB.hv.s0 (dk_at ktX6_saveSnapshot_0 13 rfl) rfl ⟨by decide, by decide⟩ (b := 24) rfl ?_
    refine rc_p (p_aload_n 0 (dk_at ktX6_saveSnapshot_0 14 rfl) rfl rfl (b := 25) rfl) ?_
    refine r_geta fl_X6_27 rfl hB.l0 hB.s0 (dk_at ktX6_saveSnapshot_0 15 rfl) hB.g0_1 (b := 28) rfl ?_
    refine r_geta fl_X6_57 rfl hd.l0 hd.s0 (dk_at ktX6_saveSnapshot_0 16 rfl) hd.g0_0 (b := 31) rfl ?_
    refine r_geti fl_X6_159 rfl (hd.lt 1 (by decide)) hd.s1 (dk_at ktX6_saveSnapshot_0 17 rfl) (v := (σ 9)) ((up2_n (by omega)).trans ((hR.fr (fun b g1 g2 => hF10 b (by omega))).1 1 8 9 lc_1_8)) (b := 34) rfl ?_
    refine r_iret (dk_at ktX6_saveSnapshot_0 18 rfl) rfl rfl ⟨_, rfl, ?_⟩
    refine ⟨cIn_t ok4, rfl, rfl, RelN.of (hR.fr (fun b g1 g2 => (up2_off (by omega)).trans (hF10 b (by omega)))) (by omega), hS.sv0 up2_s ((up2_k (by decide)).trans (congrFun (hF10 bv (by omega)) 1)) (RelN.of (hR9.fr (fun b g1 g2 => up2_off (by omega))) (by omega)) (fun b g1 g2 => (up2_off (by omega)).trans (hF10 b (by omega))), fun b hb => (up2_off (by omega)).trans (hF10 b (by omega))⟩
  · refine Sp.of (by decide) (ls := [(0, .ref bx), (1, .int 1)]) (fun _ => rfl) (fun _ => Nat.le_of_ble_eq_true rfl) ?_
    refine rc_p (p_iload_n 1 (dk_at ktX6_saveSnapshot_0 0 rfl) rfl rfl (b := 1) rfl) ?_
    refine r_vSX (As := [.int 1]) (rest := []) (s_X6_requireSlot 1) cw_X6_134 qs_X6_requireSlot (dk_at ktX6_saveSnapshot_0 1 rfl) rfl rfl (Nat.le_of_ble_eq_true rfl) (by decide) (b := 4) rfl (fun _ _ _ h => ⟨Or.inl ⟨h.1, cIn_f h.2.1⟩, h.2.2⟩) (fun I11 J12 hq13 => ?_)
    obtain ⟨ok14, rfl, rfl⟩ := hq13
    refine rc_p (p_aload_n 0 (dk_at ktX6_saveSnapshot_0 2 rfl) rfl rfl (b := 5) rfl) ?_
    refine r_geta fl_X6_37 rfl hB.l0 hB.s0 (dk_at ktX6_saveSnapshot_0 3 rfl) hB.g0_4 (b := 8) rfl ?_
    refine rc_p (p_iload_n 1 (dk_at ktX6_saveSnapshot_0 4 rfl) rfl rfl (b := 9) rfl) ?_
    refine r_aald (j := 1) (id2 := b1) hB.hg.l0 hB.hg.s0 (by decide) (dk_at ktX6_saveSnapshot_0 5 rfl) rfl ⟨by decide, by decide⟩ hB.gg_1 (b := 10) rfl ?_
    refine rc_p (p_aload_n 0 (dk_at ktX6_saveSnapshot_0 6 rfl) rfl rfl (b := 11) rfl) ?_
    refine r_geta fl_X6_27 rfl hB.l0 hB.s0 (dk_at ktX6_saveSnapshot_0 7 rfl) hB.g0_1 (b := 14) rfl ?_
    refine r_vV (As' := [.ref d]) (rest := []) (s_X0_copyFrom (d := b1) (o := d) hB.h1 hd (by omega) hR) cw_X6_238 qi_X0_copyFrom qv_X0_copyFrom rfl hB.h1.l0 hB.h1.s0 (dk_at ktX6_saveSnapshot_0 8 rfl) rfl rfl (Nat.le_of_ble_eq_true rfl) (by decide) (b := 17) rfl (fun I15 J16 q17 => ?_)
    obtain ⟨rfl, hR19, hF20⟩ := q17
    refine rc_p (p_aload_n 0 (dk_at ktX6_saveSnapshot_0 9 rfl) rfl rfl (b := 18) rfl) ?_
    refine r_geta fl_X6_41 rfl hB.l0 hB.s0 (dk_at ktX6_saveSnapshot_0 10 rfl) hB.g0_5 (b := 21) rfl ?_
    refine rc_p (p_iload_n 1 (dk_at ktX6_saveSnapshot_0 11 rfl) rfl rfl (b := 22) rfl) ?_
    refine rc_p (p_iconst (v := 1) (dk_at ktX6_saveSnapshot_0 12 rfl) (by decide) (b := 23) rfl) ?_
    refine r_zast (j := 1) hB.hv.l0 hB.hv.s0 (dk_at ktX6_saveSnapshot_0 13 rfl) rfl ⟨by decide, by decide⟩ (b := 24) rfl ?_
    refine rc_p (p_aload_n 0 (dk_at ktX6_saveSnapshot_0 14 rfl) rfl rfl (b := 25) rfl) ?_
    refine r_geta fl_X6_27 rfl hB.l0 hB.s0 (dk_at ktX6_saveSnapshot_0 15 rfl) hB.g0_1 (b := 28) rfl ?_
    refine r_geta fl_X6_57 rfl hd.l0 hd.s0 (dk_at ktX6_saveSnapshot_0 16 rfl) hd.g0_0 (b := 31) rfl ?_
    refine r_geti fl_X6_159 rfl (hd.lt 1 (by decide)) hd.s1 (dk_at ktX6_saveSnapshot_0 17 rfl) (v := (σ 9)) ((up2_n (by omega)).trans ((hR.fr (fun b g1 g2 => hF20 b (by omega))).1 1 8 9 lc_1_8)) (b := 34) rfl ?_
    refine r_iret (dk_at ktX6_saveSnapshot_0 18 rfl) rfl rfl ⟨_, rfl, ?_⟩
    refine ⟨cIn_t ok14, rfl, rfl, RelN.of (hR.fr (fun b g1 g2 => (up2_off (by omega)).trans (hF20 b (by omega)))) (by omega), hS.sv1 up2_s ((up2_k (by decide)).trans (congrFun (hF20 bv (by omega)) 0)) (RelN.of (hR19.fr (fun b g1 g2 => up2_off (by omega))) (by omega)) (fun b g1 g2 => (up2_off (by omega)).trans (hF20 b (by omega))), fun b hb => (up2_off (by omega)).trans (hF20 b (by omega))⟩
  · refine Sp.of (by decide) (ls := [(0, .ref bx), (1, .int s)]) (fun _ => rfl) (fun _ => Nat.le_of_ble_eq_true rfl) ?_
    refine rc_p (p_iload_n 1 (dk_at ktX6_saveSnapshot_0 0 rfl) rfl rfl (b := 1) rfl) ?_
    refine r_vSX (As := [.int s]) (rest := []) (s_X6_requireSlot s) cw_X6_134 qs_X6_requireSlot (dk_at ktX6_saveSnapshot_0 1 rfl) rfl rfl (Nat.le_of_ble_eq_true rfl) (by decide) (b := 4) rfl (fun _ _ _ h => ⟨Or.inl ⟨h.1, cIn_f h.2.1⟩, h.2.2⟩) (fun I21 J22 hq23 => ?_)
    obtain ⟨ok24, rfl, rfl⟩ := hq23
    exact absurd (hw.symm.trans ok24) (by decide)
set_option maxRecDepth 4000 in
set_option maxHeartbeats 4000000 in
theorem s_X6_restoreSnapshot {n : Nat} {sh : mS} {G : mG} {I : mI} {J : mJ} {bx bt d be bf bg b0 b1 bv : Nat} {σ : sT} {T N : Nat} (hB : BootH n sh G bx bt d be bf bg b0 b1 bv) (hR : RelD d I σ T N) (hI : Inv σ) {sn : Nat → Option sT} {B : Nat} (hTB : T ≤ B) (hS : SnD bv b0 b1 I sn B) (s : Int32) : Sp yX6_restoreSnapshot cX6_restoreSnapshot 2 (some FieldType.int) 8 330 1 6 [.ref bx, .int s] n sh G I J (Qi (fun r_ I_ J_ => cIn s 0 1 = 0 ∧ rsA s sn = r_ ∧ J = J_ ∧ RelN d I_ (rsT s σ sn) B ∧ FB d bg I I_)) (eX (cIn s 0 1) I J) := by
  have hd := hB.hD
  have hord := hB.ord
  have hb := hI.bd
  have hNs := hR.2.2.2.1
  have hN61 := hR.2.2.2.2.1
  have hTm := hR.2.2.2.2.2
  have key : (s = 0 ∧ (sn 0 = none ∨ ∃ τ, sn 0 = some τ)) ∨ (s = 1 ∧ (sn 1 = none ∨ ∃ τ, sn 1 = some τ)) ∨ inI s 0 1 = false := by
    rcases sl_c s with h | h | h
    · exact Or.inl ⟨h, by cases e : sn 0 with | none => exact Or.inl rfl | some τ => exact Or.inr ⟨τ, rfl⟩⟩
    · exact Or.inr (Or.inl ⟨h, by cases e : sn 1 with | none => exact Or.inl rfl | some τ => exact Or.inr ⟨τ, rfl⟩⟩)
    · exact Or.inr (Or.inr h)
  rcases key with ⟨rfl, e0 | ⟨τ, e0⟩⟩ | ⟨rfl, e0 | ⟨τ, e0⟩⟩ | hw
  · refine Sp.of (by decide) (ls := [(0, .ref bx), (1, .int 0)]) (fun _ => rfl) (fun _ => Nat.le_of_ble_eq_true rfl) ?_
    refine rc_p (p_iload_n 1 (dk_at ktX6_restoreSnapshot_0 0 rfl) rfl rfl (b := 1) rfl) ?_
    refine r_vSX (As := [.int 0]) (rest := []) (s_X6_requireSlot 0) cw_X6_134 qs_X6_requireSlot (dk_at ktX6_restoreSnapshot_0 1 rfl) rfl rfl (Nat.le_of_ble_eq_true rfl) (by decide) (b := 4) rfl (fun _ _ _ h => ⟨Or.inl ⟨h.1, cIn_f h.2.1⟩, h.2.2⟩) (fun I1 J2 hq3 => ?_)
    obtain ⟨ok4, rfl, rfl⟩ := hq3
    refine rc_p (p_aload_n 0 (dk_at ktX6_restoreSnapshot_0 2 rfl) rfl rfl (b := 5) rfl) ?_
    refine r_geta fl_X6_41 rfl hB.l0 hB.s0 (dk_at ktX6_restoreSnapshot_0 3 rfl) hB.g0_5 (b := 8) rfl ?_
    refine rc_p (p_iload_n 1 (dk_at ktX6_restoreSnapshot_0 4 rfl) rfl rfl (b := 9) rfl) ?_
    refine r_zald (j := 0) hB.hv.l0 hB.hv.s0 (dk_at ktX6_restoreSnapshot_0 5 rfl) rfl ⟨by decide, by decide⟩ (v := 0) (hS.1.1 e0) (b := 10) rfl ?_
    refine r_if_ne (dk_at ktX6_restoreSnapshot_0 6 rfl) (b := 15) (by decide) (b2 := 13) rfl (fun c10 => ?_) (fun c10 => ?_)
    · first | exact absurd c10 (by decide) | exact absurd (by decide) c10
    · skip
      refine rc_p (p_iconst (v := (-1)) (dk_at ktX6_restoreSnapshot_0 7 rfl) (by decide) (b := 14) rfl) ?_
      refine r_iret (dk_at ktX6_restoreSnapshot_0 8 rfl) rfl rfl ⟨_, rfl, ?_⟩
      refine ⟨cIn_t ok4, ?_, rfl, ?_, FB.rf⟩
      · rw [rsA, show sn (tn 0) = none from e0]
      · rw [show rsT 0 σ sn = (sn 0).getD σ from if_pos (by decide), e0]; exact RelN.of hR (by omega)
  · obtain ⟨T1, N1, hT1, hR1⟩ := (hS.1.2 τ e0).2
    refine Sp.of (by decide) (ls := [(0, .ref bx), (1, .int 0)]) (fun _ => rfl) (fun _ => Nat.le_of_ble_eq_true rfl) ?_
    refine rc_p (p_iload_n 1 (dk_at ktX6_restoreSnapshot_0 0 rfl) rfl rfl (b := 1) rfl) ?_
    refine r_vSX (As := [.int 0]) (rest := []) (s_X6_requireSlot 0) cw_X6_134 qs_X6_requireSlot (dk_at ktX6_restoreSnapshot_0 1 rfl) rfl rfl (Nat.le_of_ble_eq_true rfl) (by decide) (b := 4) rfl (fun _ _ _ h => ⟨Or.inl ⟨h.1, cIn_f h.2.1⟩, h.2.2⟩) (fun I5 J6 hq7 => ?_)
    obtain ⟨ok8, rfl, rfl⟩ := hq7
    refine rc_p (p_aload_n 0 (dk_at ktX6_restoreSnapshot_0 2 rfl) rfl rfl (b := 5) rfl) ?_
    refine r_geta fl_X6_41 rfl hB.l0 hB.s0 (dk_at ktX6_restoreSnapshot_0 3 rfl) hB.g0_5 (b := 8) rfl ?_
    refine rc_p (p_iload_n 1 (dk_at ktX6_restoreSnapshot_0 4 rfl) rfl rfl (b := 9) rfl) ?_
    refine r_zald (j := 0) hB.hv.l0 hB.hv.s0 (dk_at ktX6_restoreSnapshot_0 5 rfl) rfl ⟨by decide, by decide⟩ (v := 1) ((hS.1.2 τ e0).1) (b := 10) rfl ?_
    refine r_if_ne (dk_at ktX6_restoreSnapshot_0 6 rfl) (b := 15) (by decide) (b2 := 13) rfl (fun c10 => ?_) (fun c10 => ?_)
    · skip
      refine rc_p (p_aload_n 0 (dk_at ktX6_restoreSnapshot_0 9 rfl) rfl rfl (b := 16) rfl) ?_
      refine r_geta fl_X6_27 rfl hB.l0 hB.s0 (dk_at ktX6_restoreSnapshot_0 10 rfl) hB.g0_1 (b := 19) rfl ?_
      refine rc_p (p_aload_n 0 (dk_at ktX6_restoreSnapshot_0 11 rfl) rfl rfl (b := 20) rfl) ?_
      refine r_geta fl_X6_37 rfl hB.l0 hB.s0 (dk_at ktX6_restoreSnapshot_0 12 rfl) hB.g0_4 (b := 23) rfl ?_
      refine rc_p (p_iload_n 1 (dk_at ktX6_restoreSnapshot_0 13 rfl) rfl rfl (b := 24) rfl) ?_
      refine r_aald (j := 0) (id2 := b0) hB.hg.l0 hB.hg.s0 (by decide) (dk_at ktX6_restoreSnapshot_0 14 rfl) rfl ⟨by decide, by decide⟩ hB.gg_0 (b := 25) rfl ?_
      refine r_vV (As' := [.ref b0]) (rest := []) (s_X0_copyFrom (d := d) (o := b0) hd hB.h0 (by omega) hR1) cw_X6_238 qi_X0_copyFrom qv_X0_copyFrom rfl hd.l0 hd.s0 (dk_at ktX6_restoreSnapshot_0 15 rfl) rfl rfl (Nat.le_of_ble_eq_true rfl) (by decide) (b := 28) rfl (fun I9 J10 q11 => ?_)
      obtain ⟨rfl, hR13, hF14⟩ := q11
      refine rc_p (p_aload_n 0 (dk_at ktX6_restoreSnapshot_0 16 rfl) rfl rfl (b := 29) rfl) ?_
      refine r_geta fl_X6_27 rfl hB.l0 hB.s0 (dk_at ktX6_restoreSnapshot_0 17 rfl) hB.g0_1 (b := 32) rfl ?_
      refine r_geta fl_X6_57 rfl hd.l0 hd.s0 (dk_at ktX6_restoreSnapshot_0 18 rfl) hd.g0_0 (b := 35) rfl ?_
      refine r_geti fl_X6_159 rfl (hd.lt 1 (by decide)) hd.s1 (dk_at ktX6_restoreSnapshot_0 19 rfl) (v := (τ 9)) (hR13.1 1 8 9 lc_1_8) (b := 38) rfl ?_
      refine r_iret (dk_at ktX6_restoreSnapshot_0 20 rfl) rfl rfl ⟨_, rfl, ?_⟩
      refine ⟨cIn_t ok8, ?_, rfl, ?_, fun b hb => hF14 b (by omega)⟩
      · rw [rsA, show sn (tn 0) = some τ from e0]
      · rw [show rsT 0 σ sn = (sn 0).getD σ from if_pos (by decide), e0]; exact RelN.of hR13 (by omega)
    · first | exact absurd c10 (by decide) | exact absurd (by decide) c10
  · refine Sp.of (by decide) (ls := [(0, .ref bx), (1, .int 1)]) (fun _ => rfl) (fun _ => Nat.le_of_ble_eq_true rfl) ?_
    refine rc_p (p_iload_n 1 (dk_at ktX6_restoreSnapshot_0 0 rfl) rfl rfl (b := 1) rfl) ?_
    refine r_vSX (As := [.int 1]) (rest := []) (s_X6_requireSlot 1) cw_X6_134 qs_X6_requireSlot (dk_at ktX6_restoreSnapshot_0 1 rfl) rfl rfl (Nat.le_of_ble_eq_true rfl) (by decide) (b := 4) rfl (fun _ _ _ h => ⟨Or.inl ⟨h.1, cIn_f h.2.1⟩, h.2.2⟩) (fun I15 J16 hq17 => ?_)
    obtain ⟨ok18, rfl, rfl⟩ := hq17
    refine rc_p (p_aload_n 0 (dk_at ktX6_restoreSnapshot_0 2 rfl) rfl rfl (b := 5) rfl) ?_
    refine r_geta fl_X6_41 rfl hB.l0 hB.s0 (dk_at ktX6_restoreSnapshot_0 3 rfl) hB.g0_5 (b := 8) rfl ?_
    refine rc_p (p_iload_n 1 (dk_at ktX6_restoreSnapshot_0 4 rfl) rfl rfl (b := 9) rfl) ?_
    refine r_zald (j := 1) hB.hv.l0 hB.hv.s0 (dk_at ktX6_restoreSnapshot_0 5 rfl) rfl ⟨by decide, by decide⟩ (v := 0) (hS.2.1 e0) (b := 10) rfl ?_
    refine r_if_ne (dk_at ktX6_restoreSnapshot_0 6 rfl) (b := 15) (by decide) (b2 := 13) rfl (fun c10 => ?_) (fun c10 => ?_)
    · first | exact absurd c10 (by decide) | exact absurd (by decide) c10
    · skip
      refine rc_p (p_iconst (v := (-1)) (dk_at ktX6_restoreSnapshot_0 7 rfl) (by decide) (b := 14) rfl) ?_
      refine r_iret (dk_at ktX6_restoreSnapshot_0 8 rfl) rfl rfl ⟨_, rfl, ?_⟩
      refine ⟨cIn_t ok18, ?_, rfl, ?_, FB.rf⟩
      · rw [rsA, show sn (tn 1) = none from e0]
      · rw [show rsT 1 σ sn = (sn 1).getD σ from if_pos (by decide), e0]; exact RelN.of hR (by omega)
  · obtain ⟨T1, N1, hT1, hR1⟩ := (hS.2.2 τ e0).2
    refine Sp.of (by decide) (ls := [(0, .ref bx), (1, .int 1)]) (fun _ => rfl) (fun _ => Nat.le_of_ble_eq_true rfl) ?_
    refine rc_p (p_iload_n 1 (dk_at ktX6_restoreSnapshot_0 0 rfl) rfl rfl (b := 1) rfl) ?_
    refine r_vSX (As := [.int 1]) (rest := []) (s_X6_requireSlot 1) cw_X6_134 qs_X6_requireSlot (dk_at ktX6_restoreSnapshot_0 1 rfl) rfl rfl (Nat.le_of_ble_eq_true rfl) (by decide) (b := 4) rfl (fun _ _ _ h => ⟨Or.inl ⟨h.1, cIn_f h.2.1⟩, h.2.2⟩) (fun I19 J20 hq21 => ?_)
    obtain ⟨ok22, rfl, rfl⟩ := hq21
    refine rc_p (p_aload_n 0 (dk_at ktX6_restoreSnapshot_0 2 rfl) rfl rfl (b := 5) rfl) ?_
    refine r_geta fl_X6_41 rfl hB.l0 hB.s0 (dk_at ktX6_restoreSnapshot_0 3 rfl) hB.g0_5 (b := 8) rfl ?_
    refine rc_p (p_iload_n 1 (dk_at ktX6_restoreSnapshot_0 4 rfl) rfl rfl (b := 9) rfl) ?_
    refine r_zald (j := 1) hB.hv.l0 hB.hv.s0 (dk_at ktX6_restoreSnapshot_0 5 rfl) rfl ⟨by decide, by decide⟩ (v := 1) ((hS.2.2 τ e0).1) (b := 10) rfl ?_
    refine r_if_ne (dk_at ktX6_restoreSnapshot_0 6 rfl) (b := 15) (by decide) (b2 := 13) rfl (fun c10 => ?_) (fun c10 => ?_)
    · skip
      refine rc_p (p_aload_n 0 (dk_at ktX6_restoreSnapshot_0 9 rfl) rfl rfl (b := 16) rfl) ?_
      refine r_geta fl_X6_27 rfl hB.l0 hB.s0 (dk_at ktX6_restoreSnapshot_0 10 rfl) hB.g0_1 (b := 19) rfl ?_
      refine rc_p (p_aload_n 0 (dk_at ktX6_restoreSnapshot_0 11 rfl) rfl rfl (b := 20) rfl) ?_
      refine r_geta fl_X6_37 rfl hB.l0 hB.s0 (dk_at ktX6_restoreSnapshot_0 12 rfl) hB.g0_4 (b := 23) rfl ?_
      refine rc_p (p_iload_n 1 (dk_at ktX6_restoreSnapshot_0 13 rfl) rfl rfl (b := 24) rfl) ?_
      refine r_aald (j := 1) (id2 := b1) hB.hg.l0 hB.hg.s0 (by decide) (dk_at ktX6_restoreSnapshot_0 14 rfl) rfl ⟨by decide, by decide⟩ hB.gg_1 (b := 25) rfl ?_
      refine r_vV (As' := [.ref b1]) (rest := []) (s_X0_copyFrom (d := d) (o := b1) hd hB.h1 (by omega) hR1) cw_X6_238 qi_X0_copyFrom qv_X0_copyFrom rfl hd.l0 hd.s0 (dk_at ktX6_restoreSnapshot_0 15 rfl) rfl rfl (Nat.le_of_ble_eq_true rfl) (by decide) (b := 28) rfl (fun I23 J24 q25 => ?_)
      obtain ⟨rfl, hR27, hF28⟩ := q25
      refine rc_p (p_aload_n 0 (dk_at ktX6_restoreSnapshot_0 16 rfl) rfl rfl (b := 29) rfl) ?_
      refine r_geta fl_X6_27 rfl hB.l0 hB.s0 (dk_at ktX6_restoreSnapshot_0 17 rfl) hB.g0_1 (b := 32) rfl ?_
      refine r_geta fl_X6_57 rfl hd.l0 hd.s0 (dk_at ktX6_restoreSnapshot_0 18 rfl) hd.g0_0 (b := 35) rfl ?_
      refine r_geti fl_X6_159 rfl (hd.lt 1 (by decide)) hd.s1 (dk_at ktX6_restoreSnapshot_0 19 rfl) (v := (τ 9)) (hR27.1 1 8 9 lc_1_8) (b := 38) rfl ?_
      refine r_iret (dk_at ktX6_restoreSnapshot_0 20 rfl) rfl rfl ⟨_, rfl, ?_⟩
      refine ⟨cIn_t ok22, ?_, rfl, ?_, fun b hb => hF28 b (by omega)⟩
      · rw [rsA, show sn (tn 1) = some τ from e0]
      · rw [show rsT 1 σ sn = (sn 1).getD σ from if_pos (by decide), e0]; exact RelN.of hR27 (by omega)
    · first | exact absurd c10 (by decide) | exact absurd (by decide) c10
  · refine Sp.of (by decide) (ls := [(0, .ref bx), (1, .int s)]) (fun _ => rfl) (fun _ => Nat.le_of_ble_eq_true rfl) ?_
    refine rc_p (p_iload_n 1 (dk_at ktX6_restoreSnapshot_0 0 rfl) rfl rfl (b := 1) rfl) ?_
    refine r_vSX (As := [.int s]) (rest := []) (s_X6_requireSlot s) cw_X6_134 qs_X6_requireSlot (dk_at ktX6_restoreSnapshot_0 1 rfl) rfl rfl (Nat.le_of_ble_eq_true rfl) (by decide) (b := 4) rfl (fun _ _ _ h => ⟨Or.inl ⟨h.1, cIn_f h.2.1⟩, h.2.2⟩) (fun I29 J30 hq31 => ?_)
    obtain ⟨ok32, rfl, rfl⟩ := hq31
    exact absurd (hw.symm.trans ok32) (by decide)

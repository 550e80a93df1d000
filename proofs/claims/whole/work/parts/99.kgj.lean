/-! THE LAW'S OWN METHODS THAT CATCH, each over its callee's contract -/
def lI (r : Int32) : Int64 := Int32.toInt64 r
def lB (r : Int32) : Int64 := if r = 0 then 0 else 1
def WQ (code : Int32) (PX : Int32 → mI → mJ → Prop) (fz : Int32 → Int64) (o : Nat) (I : mI) (J : mJ) : Option Value → mI → mJ → Prop := Qi (fun k I_ J_ => (k = 0 ∧ ∃ r J1, PX r I_ J1 ∧ J_ = up2 J1 o 0 (fz r)) ∨ (k = code ∧ ¬ code = 0 ∧ I = I_ ∧ J = J_))
set_option maxHeartbeats 1000000 in
theorem s_L_stage {n : Nat} {sh : mS} {G : mG} {I : mI} {J : mJ} {bx o : Nat} {code : Int32} {PX : Int32 → mI → mJ → Prop} (p0 : Int32) (hs : Sp yX6_stage cX6_stage 2 (some FieldType.int) 8 384 1 6 [.ref bx, .int p0] n sh G I J (Qi PX) (eX code I J)) (hx : bx < n) (hsx : sh bx = .inl (9, 6)) (ho : o < n) (hso : sh o = .inr (3, 1)) (hc2 : ¬ code = 2) : Sw yL_stage cL_stage 4 [(0, 9, 12, 13)] 9 432 1 6 [.ref bx, .int p0, .ref o] n sh G I J (WQ code PX lI o I J) := by
  refine Sw.of (by decide) (ls := [(0, .ref bx), (1, .int p0), (2, .ref o)]) (fun _ => rfl) (fun _ => Nat.le_of_ble_eq_true rfl) ?_
  refine gc_p (p_aload_n 2 (dk_at ktL_stage_0 0 rfl) rfl rfl (b := 1) rfl) ?_
  refine gc_p (p_iconst (v := nI 0) (dk_at ktL_stage_0 1 rfl) (by decide) (b := 2) rfl) ?_
  refine gc_p (p_aload_n 0 (dk_at ktL_stage_0 2 rfl) rfl rfl (b := 3) rfl) ?_
  refine gc_p (p_iload_n 1 (dk_at ktL_stage_0 3 rfl) rfl rfl (b := 4) rfl) ?_
  refine w_callV (tl := []) (e1 := 9) (h1 := 12) (h2 := 0) (i := 3) (nx1 := 13) (nx2 := 0) (As' := [.int p0]) (rest := [.int (nI 0), .ref o]) hs cw_L_7 qi_X6_stage qv_X6_stage rfl hx hsx (dk_at ktL_stage_0 4 rfl) rfl rfl (Nat.le_of_ble_eq_true rfl) ⟨by decide, by decide, by decide, by decide⟩ (b := 7) rfl rfl (by decide) (by decide) (fun q hq => by simp only [List.mem_cons, List.not_mem_nil, or_false] at hq; rcases hq with rfl | rfl | rfl <;> exact ⟨by simp, fun h => absurd h.2 (fun z => by cases z)⟩) ql2_L_13 ql2_L_40 (fun hc => ⟨Or.inl ⟨3, (dk_at ktL_stage_0 8 rfl), rfl, rfl⟩, (gc_p (p_iconst (v := 1) (dk_at ktL_stage_0 9 rfl) (by decide) (b := 14) rfl) (w_iret (dk_at ktL_stage_0 10 rfl) ⟨_, rfl, Or.inr ⟨hc.symm, by rw [hc]; decide, rfl, rfl⟩⟩))⟩) (fun hc => absurd hc hc2) (fun r I1 J1 hq => ?_)
  obtain ⟨v, rfl, hq⟩ := hq
  refine gc_p (p_i2l (v := lI v) (dk_at ktL_stage_0 5 rfl) rfl (b := 8) rfl) ?_
  refine g_jast (id := o) (len := 1) (j := 0) (v := (lI v)) (st := []) ho hso (dk_at ktL_stage_0 6 rfl) rfl ⟨by decide, by decide⟩ (b := 9) rfl ?_
  refine gc_p (p_goto (b := 15) (dk_at ktL_stage_0 7 rfl) (by decide)) ?_
  refine gc_p (p_iconst (v := 0) (dk_at ktL_stage_0 11 rfl) (by decide) (b := 16) rfl) ?_
  exact w_iret (dk_at ktL_stage_0 12 rfl) ⟨_, rfl, Or.inl ⟨rfl, v, J1, hq, rfl⟩⟩
set_option maxHeartbeats 1000000 in
theorem s_L_setting {n : Nat} {sh : mS} {G : mG} {I : mI} {J : mJ} {bx o : Nat} {code : Int32} {PX : Int32 → mI → mJ → Prop} (p0 : Int32) (hs : Sp yX6_setting cX6_setting 2 (some FieldType.int) 8 384 1 6 [.ref bx, .int p0] n sh G I J (Qi PX) (eX code I J)) (hx : bx < n) (hsx : sh bx = .inl (9, 6)) (ho : o < n) (hso : sh o = .inr (3, 1)) (hc2 : ¬ code = 2) : Sw yL_setting cL_setting 4 [(0, 9, 12, 13)] 9 432 1 6 [.ref bx, .int p0, .ref o] n sh G I J (WQ code PX lI o I J) := by
  refine Sw.of (by decide) (ls := [(0, .ref bx), (1, .int p0), (2, .ref o)]) (fun _ => rfl) (fun _ => Nat.le_of_ble_eq_true rfl) ?_
  refine gc_p (p_aload_n 2 (dk_at ktL_setting_0 0 rfl) rfl rfl (b := 1) rfl) ?_
  refine gc_p (p_iconst (v := nI 0) (dk_at ktL_setting_0 1 rfl) (by decide) (b := 2) rfl) ?_
  refine gc_p (p_aload_n 0 (dk_at ktL_setting_0 2 rfl) rfl rfl (b := 3) rfl) ?_
  refine gc_p (p_iload_n 1 (dk_at ktL_setting_0 3 rfl) rfl rfl (b := 4) rfl) ?_
  refine w_callV (tl := []) (e1 := 9) (h1 := 12) (h2 := 0) (i := 3) (nx1 := 13) (nx2 := 0) (As' := [.int p0]) (rest := [.int (nI 0), .ref o]) hs cw_L_15 qi_X6_setting qv_X6_setting rfl hx hsx (dk_at ktL_setting_0 4 rfl) rfl rfl (Nat.le_of_ble_eq_true rfl) ⟨by decide, by decide, by decide, by decide⟩ (b := 7) rfl rfl (by decide) (by decide) (fun q hq => by simp only [List.mem_cons, List.not_mem_nil, or_false] at hq; rcases hq with rfl | rfl | rfl <;> exact ⟨by simp, fun h => absurd h.2 (fun z => by cases z)⟩) ql2_L_13 ql2_L_40 (fun hc => ⟨Or.inl ⟨3, (dk_at ktL_setting_0 8 rfl), rfl, rfl⟩, (gc_p (p_iconst (v := 1) (dk_at ktL_setting_0 9 rfl) (by decide) (b := 14) rfl) (w_iret (dk_at ktL_setting_0 10 rfl) ⟨_, rfl, Or.inr ⟨hc.symm, by rw [hc]; decide, rfl, rfl⟩⟩))⟩) (fun hc => absurd hc hc2) (fun r I1 J1 hq => ?_)
  obtain ⟨v, rfl, hq⟩ := hq
  refine gc_p (p_i2l (v := lI v) (dk_at ktL_setting_0 5 rfl) rfl (b := 8) rfl) ?_
  refine g_jast (id := o) (len := 1) (j := 0) (v := (lI v)) (st := []) ho hso (dk_at ktL_setting_0 6 rfl) rfl ⟨by decide, by decide⟩ (b := 9) rfl ?_
  refine gc_p (p_goto (b := 15) (dk_at ktL_setting_0 7 rfl) (by decide)) ?_
  refine gc_p (p_iconst (v := 0) (dk_at ktL_setting_0 11 rfl) (by decide) (b := 16) rfl) ?_
  exact w_iret (dk_at ktL_setting_0 12 rfl) ⟨_, rfl, Or.inl ⟨rfl, v, J1, hq, rfl⟩⟩
set_option maxHeartbeats 1000000 in
theorem s_L_setPower {n : Nat} {sh : mS} {G : mG} {I : mI} {J : mJ} {bx o : Nat} {code : Int32} {PX : Int32 → mI → mJ → Prop} (p0 : Int32) (hs : Sp yX6_setPower cX6_setPower 3 (some FieldType.int) 8 384 1 6 [.ref bx, .int p0] n sh G I J (Qi PX) (eX code I J)) (hx : bx < n) (hsx : sh bx = .inl (9, 6)) (ho : o < n) (hso : sh o = .inr (3, 1)) (hc2 : ¬ code = 2) : Sw yL_setPower cL_setPower 4 [(0, 9, 12, 13)] 9 432 1 6 [.ref bx, .int p0, .ref o] n sh G I J (WQ code PX lI o I J) := by
  refine Sw.of (by decide) (ls := [(0, .ref bx), (1, .int p0), (2, .ref o)]) (fun _ => rfl) (fun _ => Nat.le_of_ble_eq_true rfl) ?_
  refine gc_p (p_aload_n 2 (dk_at ktL_setPower_0 0 rfl) rfl rfl (b := 1) rfl) ?_
  refine gc_p (p_iconst (v := nI 0) (dk_at ktL_setPower_0 1 rfl) (by decide) (b := 2) rfl) ?_
  refine gc_p (p_aload_n 0 (dk_at ktL_setPower_0 2 rfl) rfl rfl (b := 3) rfl) ?_
  refine gc_p (p_iload_n 1 (dk_at ktL_setPower_0 3 rfl) rfl rfl (b := 4) rfl) ?_
  refine w_callV (tl := []) (e1 := 9) (h1 := 12) (h2 := 0) (i := 3) (nx1 := 13) (nx2 := 0) (As' := [.int p0]) (rest := [.int (nI 0), .ref o]) hs cw_L_18 qi_X6_setPower qv_X6_setPower rfl hx hsx (dk_at ktL_setPower_0 4 rfl) rfl rfl (Nat.le_of_ble_eq_true rfl) ⟨by decide, by decide, by decide, by decide⟩ (b := 7) rfl rfl (by decide) (by decide) (fun q hq => by simp only [List.mem_cons, List.not_mem_nil, or_false] at hq; rcases hq with rfl | rfl | rfl <;> exact ⟨by simp, fun h => absurd h.2 (fun z => by cases z)⟩) ql2_L_13 ql2_L_40 (fun hc => ⟨Or.inl ⟨3, (dk_at ktL_setPower_0 8 rfl), rfl, rfl⟩, (gc_p (p_iconst (v := 1) (dk_at ktL_setPower_0 9 rfl) (by decide) (b := 14) rfl) (w_iret (dk_at ktL_setPower_0 10 rfl) ⟨_, rfl, Or.inr ⟨hc.symm, by rw [hc]; decide, rfl, rfl⟩⟩))⟩) (fun hc => absurd hc hc2) (fun r I1 J1 hq => ?_)
  obtain ⟨v, rfl, hq⟩ := hq
  refine gc_p (p_i2l (v := lI v) (dk_at ktL_setPower_0 5 rfl) rfl (b := 8) rfl) ?_
  refine g_jast (id := o) (len := 1) (j := 0) (v := (lI v)) (st := []) ho hso (dk_at ktL_setPower_0 6 rfl) rfl ⟨by decide, by decide⟩ (b := 9) rfl ?_
  refine gc_p (p_goto (b := 15) (dk_at ktL_setPower_0 7 rfl) (by decide)) ?_
  refine gc_p (p_iconst (v := 0) (dk_at ktL_setPower_0 11 rfl) (by decide) (b := 16) rfl) ?_
  exact w_iret (dk_at ktL_setPower_0 12 rfl) ⟨_, rfl, Or.inl ⟨rfl, v, J1, hq, rfl⟩⟩
set_option maxHeartbeats 1000000 in
theorem s_L_update {n : Nat} {sh : mS} {G : mG} {I : mI} {J : mJ} {bx o : Nat} {code : Int32} {PX : Int32 → mI → mJ → Prop} (p0 : Int32) (hs : Sp yX6_update cX6_update 2 (some FieldType.int) 9 432 1 6 [.ref bx, .int p0] n sh G I J (Qi PX) (eX code I J)) (hx : bx < n) (hsx : sh bx = .inl (9, 6)) (ho : o < n) (hso : sh o = .inr (3, 1)) (hc2 : ¬ code = 2) : Sw yL_update cL_update 4 [(0, 9, 12, 13)] 10 480 1 6 [.ref bx, .int p0, .ref o] n sh G I J (WQ code PX lI o I J) := by
  refine Sw.of (by decide) (ls := [(0, .ref bx), (1, .int p0), (2, .ref o)]) (fun _ => rfl) (fun _ => Nat.le_of_ble_eq_true rfl) ?_
  refine gc_p (p_aload_n 2 (dk_at ktL_update_0 0 rfl) rfl rfl (b := 1) rfl) ?_
  refine gc_p (p_iconst (v := nI 0) (dk_at ktL_update_0 1 rfl) (by decide) (b := 2) rfl) ?_
  refine gc_p (p_aload_n 0 (dk_at ktL_update_0 2 rfl) rfl rfl (b := 3) rfl) ?_
  refine gc_p (p_iload_n 1 (dk_at ktL_update_0 3 rfl) rfl rfl (b := 4) rfl) ?_
  refine w_callV (tl := []) (e1 := 9) (h1 := 12) (h2 := 0) (i := 3) (nx1 := 13) (nx2 := 0) (As' := [.int p0]) (rest := [.int (nI 0), .ref o]) hs cw_L_21 qi_X6_update qv_X6_update rfl hx hsx (dk_at ktL_update_0 4 rfl) rfl rfl (Nat.le_of_ble_eq_true rfl) ⟨by decide, by decide, by decide, by decide⟩ (b := 7) rfl rfl (by decide) (by decide) (fun q hq => by simp only [List.mem_cons, List.not_mem_nil, or_false] at hq; rcases hq with rfl | rfl | rfl <;> exact ⟨by simp, fun h => absurd h.2 (fun z => by cases z)⟩) ql2_L_13 ql2_L_40 (fun hc => ⟨Or.inl ⟨3, (dk_at ktL_update_0 8 rfl), rfl, rfl⟩, (gc_p (p_iconst (v := 1) (dk_at ktL_update_0 9 rfl) (by decide) (b := 14) rfl) (w_iret (dk_at ktL_update_0 10 rfl) ⟨_, rfl, Or.inr ⟨hc.symm, by rw [hc]; decide, rfl, rfl⟩⟩))⟩) (fun hc => absurd hc hc2) (fun r I1 J1 hq => ?_)
  obtain ⟨v, rfl, hq⟩ := hq
  refine gc_p (p_i2l (v := lI v) (dk_at ktL_update_0 5 rfl) rfl (b := 8) rfl) ?_
  refine g_jast (id := o) (len := 1) (j := 0) (v := (lI v)) (st := []) ho hso (dk_at ktL_update_0 6 rfl) rfl ⟨by decide, by decide⟩ (b := 9) rfl ?_
  refine gc_p (p_goto (b := 15) (dk_at ktL_update_0 7 rfl) (by decide)) ?_
  refine gc_p (p_iconst (v := 0) (dk_at ktL_update_0 11 rfl) (by decide) (b := 16) rfl) ?_
  exact w_iret (dk_at ktL_update_0 12 rfl) ⟨_, rfl, Or.inl ⟨rfl, v, J1, hq, rfl⟩⟩
set_option maxHeartbeats 1000000 in
theorem s_L_thriftyUpdate {n : Nat} {sh : mS} {G : mG} {I : mI} {J : mJ} {bx o : Nat} {code : Int32} {PX : Int32 → mI → mJ → Prop} (p0 : Int32) (hs : Sp yX6_thriftyUpdate cX6_thriftyUpdate 2 (some FieldType.int) 9 432 1 6 [.ref bx, .int p0] n sh G I J (Qi PX) (eX code I J)) (hx : bx < n) (hsx : sh bx = .inl (9, 6)) (ho : o < n) (hso : sh o = .inr (3, 1)) (hc2 : ¬ code = 2) : Sw yL_thriftyUpdate cL_thriftyUpdate 4 [(0, 9, 12, 13)] 10 480 1 6 [.ref bx, .int p0, .ref o] n sh G I J (WQ code PX lI o I J) := by
  refine Sw.of (by decide) (ls := [(0, .ref bx), (1, .int p0), (2, .ref o)]) (fun _ => rfl) (fun _ => Nat.le_of_ble_eq_true rfl) ?_
  refine gc_p (p_aload_n 2 (dk_at ktL_thriftyUpdate_0 0 rfl) rfl rfl (b := 1) rfl) ?_
  refine gc_p (p_iconst (v := nI 0) (dk_at ktL_thriftyUpdate_0 1 rfl) (by decide) (b := 2) rfl) ?_
  refine gc_p (p_aload_n 0 (dk_at ktL_thriftyUpdate_0 2 rfl) rfl rfl (b := 3) rfl) ?_
  refine gc_p (p_iload_n 1 (dk_at ktL_thriftyUpdate_0 3 rfl) rfl rfl (b := 4) rfl) ?_
  refine w_callV (tl := []) (e1 := 9) (h1 := 12) (h2 := 0) (i := 3) (nx1 := 13) (nx2 := 0) (As' := [.int p0]) (rest := [.int (nI 0), .ref o]) hs cw_L_24 qi_X6_thriftyUpdate qv_X6_thriftyUpdate rfl hx hsx (dk_at ktL_thriftyUpdate_0 4 rfl) rfl rfl (Nat.le_of_ble_eq_true rfl) ⟨by decide, by decide, by decide, by decide⟩ (b := 7) rfl rfl (by decide) (by decide) (fun q hq => by simp only [List.mem_cons, List.not_mem_nil, or_false] at hq; rcases hq with rfl | rfl | rfl <;> exact ⟨by simp, fun h => absurd h.2 (fun z => by cases z)⟩) ql2_L_13 ql2_L_40 (fun hc => ⟨Or.inl ⟨3, (dk_at ktL_thriftyUpdate_0 8 rfl), rfl, rfl⟩, (gc_p (p_iconst (v := 1) (dk_at ktL_thriftyUpdate_0 9 rfl) (by decide) (b := 14) rfl) (w_iret (dk_at ktL_thriftyUpdate_0 10 rfl) ⟨_, rfl, Or.inr ⟨hc.symm, by rw [hc]; decide, rfl, rfl⟩⟩))⟩) (fun hc => absurd hc hc2) (fun r I1 J1 hq => ?_)
  obtain ⟨v, rfl, hq⟩ := hq
  refine gc_p (p_i2l (v := lI v) (dk_at ktL_thriftyUpdate_0 5 rfl) rfl (b := 8) rfl) ?_
  refine g_jast (id := o) (len := 1) (j := 0) (v := (lI v)) (st := []) ho hso (dk_at ktL_thriftyUpdate_0 6 rfl) rfl ⟨by decide, by decide⟩ (b := 9) rfl ?_
  refine gc_p (p_goto (b := 15) (dk_at ktL_thriftyUpdate_0 7 rfl) (by decide)) ?_
  refine gc_p (p_iconst (v := 0) (dk_at ktL_thriftyUpdate_0 11 rfl) (by decide) (b := 16) rfl) ?_
  exact w_iret (dk_at ktL_thriftyUpdate_0 12 rfl) ⟨_, rfl, Or.inl ⟨rfl, v, J1, hq, rfl⟩⟩
set_option maxHeartbeats 1000000 in
theorem s_L_recover {n : Nat} {sh : mS} {G : mG} {I : mI} {J : mJ} {bx o : Nat} {code : Int32} {PX : Int32 → mI → mJ → Prop} (p0 p1 : Int32) (hs : Sp yX6_recover cX6_recover 3 (some FieldType.int) 9 432 2 12 [.ref bx, .int p0, .int p1] n sh G I J (Qi PX) (eX code I J)) (hx : bx < n) (hsx : sh bx = .inl (9, 6)) (ho : o < n) (hso : sh o = .inr (3, 1)) (hc2 : ¬ code = 2) : Sw yL_recover cL_recover 5 [(0, 10, 13, 13)] 10 480 2 12 [.ref bx, .int p0, .int p1, .ref o] n sh G I J (WQ code PX lI o I J) := by
  refine Sw.of (by decide) (ls := [(0, .ref bx), (1, .int p0), (2, .int p1), (3, .ref o)]) (fun _ => rfl) (fun _ => Nat.le_of_ble_eq_true rfl) ?_
  refine gc_p (p_aload_n 3 (dk_at ktL_recover_0 0 rfl) rfl rfl (b := 1) rfl) ?_
  refine gc_p (p_iconst (v := nI 0) (dk_at ktL_recover_0 1 rfl) (by decide) (b := 2) rfl) ?_
  refine gc_p (p_aload_n 0 (dk_at ktL_recover_0 2 rfl) rfl rfl (b := 3) rfl) ?_
  refine gc_p (p_iload_n 1 (dk_at ktL_recover_0 3 rfl) rfl rfl (b := 4) rfl) ?_
  refine gc_p (p_iload_n 2 (dk_at ktL_recover_0 4 rfl) rfl rfl (b := 5) rfl) ?_
  refine w_callV (tl := []) (e1 := 10) (h1 := 13) (h2 := 0) (i := 4) (nx1 := 15) (nx2 := 0) (As' := [.int p0, .int p1]) (rest := [.int (nI 0), .ref o]) hs cw_L_27 qi_X6_recover qv_X6_recover rfl hx hsx (dk_at ktL_recover_0 5 rfl) rfl rfl (Nat.le_of_ble_eq_true rfl) ⟨by decide, by decide, by decide, by decide⟩ (b := 8) rfl rfl (by decide) (by decide) (fun q hq => by simp only [List.mem_cons, List.not_mem_nil, or_false] at hq; rcases hq with rfl | rfl | rfl | rfl <;> exact ⟨by simp, fun h => absurd h.2 (fun z => by cases z)⟩) ql2_L_13 ql2_L_40 (fun hc => ⟨Or.inr ⟨(dk_at ktL_recover_0 9 rfl), rfl⟩, (gc_p (p_iconst (v := 1) (dk_at ktL_recover_0 10 rfl) (by decide) (b := 16) rfl) (w_iret (dk_at ktL_recover_0 11 rfl) ⟨_, rfl, Or.inr ⟨hc.symm, by rw [hc]; decide, rfl, rfl⟩⟩))⟩) (fun hc => absurd hc hc2) (fun r I1 J1 hq => ?_)
  obtain ⟨v, rfl, hq⟩ := hq
  refine gc_p (p_i2l (v := lI v) (dk_at ktL_recover_0 6 rfl) rfl (b := 9) rfl) ?_
  refine g_jast (id := o) (len := 1) (j := 0) (v := (lI v)) (st := []) ho hso (dk_at ktL_recover_0 7 rfl) rfl ⟨by decide, by decide⟩ (b := 10) rfl ?_
  refine gc_p (p_goto (b := 17) (dk_at ktL_recover_0 8 rfl) (by decide)) ?_
  refine gc_p (p_iconst (v := 0) (dk_at ktL_recover_0 12 rfl) (by decide) (b := 18) rfl) ?_
  exact w_iret (dk_at ktL_recover_0 13 rfl) ⟨_, rfl, Or.inl ⟨rfl, v, J1, hq, rfl⟩⟩
set_option maxHeartbeats 1000000 in
theorem s_L_word {n : Nat} {sh : mS} {G : mG} {I : mI} {J : mJ} {bx o : Nat} {code : Int32} {PX : Int32 → mI → mJ → Prop} (p0 p1 : Int32) (hs : Sp yX6_word cX6_word 3 (some FieldType.int) 8 384 1 6 [.ref bx, .int p0, .int p1] n sh G I J (Qi PX) (eX code I J)) (hx : bx < n) (hsx : sh bx = .inl (9, 6)) (ho : o < n) (hso : sh o = .inr (3, 1)) (hc2 : ¬ code = 2) : Sw yL_word cL_word 5 [(0, 10, 13, 13)] 9 432 1 6 [.ref bx, .int p0, .int p1, .ref o] n sh G I J (WQ code PX lI o I J) := by
  refine Sw.of (by decide) (ls := [(0, .ref bx), (1, .int p0), (2, .int p1), (3, .ref o)]) (fun _ => rfl) (fun _ => Nat.le_of_ble_eq_true rfl) ?_
  refine gc_p (p_aload_n 3 (dk_at ktL_word_0 0 rfl) rfl rfl (b := 1) rfl) ?_
  refine gc_p (p_iconst (v := nI 0) (dk_at ktL_word_0 1 rfl) (by decide) (b := 2) rfl) ?_
  refine gc_p (p_aload_n 0 (dk_at ktL_word_0 2 rfl) rfl rfl (b := 3) rfl) ?_
  refine gc_p (p_iload_n 1 (dk_at ktL_word_0 3 rfl) rfl rfl (b := 4) rfl) ?_
  refine gc_p (p_iload_n 2 (dk_at ktL_word_0 4 rfl) rfl rfl (b := 5) rfl) ?_
  refine w_callV (tl := []) (e1 := 10) (h1 := 13) (h2 := 0) (i := 4) (nx1 := 15) (nx2 := 0) (As' := [.int p0, .int p1]) (rest := [.int (nI 0), .ref o]) hs cw_L_31 qi_X6_word qv_X6_word rfl hx hsx (dk_at ktL_word_0 5 rfl) rfl rfl (Nat.le_of_ble_eq_true rfl) ⟨by decide, by decide, by decide, by decide⟩ (b := 8) rfl rfl (by decide) (by decide) (fun q hq => by simp only [List.mem_cons, List.not_mem_nil, or_false] at hq; rcases hq with rfl | rfl | rfl | rfl <;> exact ⟨by simp, fun h => absurd h.2 (fun z => by cases z)⟩) ql2_L_13 ql2_L_40 (fun hc => ⟨Or.inr ⟨(dk_at ktL_word_0 9 rfl), rfl⟩, (gc_p (p_iconst (v := 1) (dk_at ktL_word_0 10 rfl) (by decide) (b := 16) rfl) (w_iret (dk_at ktL_word_0 11 rfl) ⟨_, rfl, Or.inr ⟨hc.symm, by rw [hc]; decide, rfl, rfl⟩⟩))⟩) (fun hc => absurd hc hc2) (fun r I1 J1 hq => ?_)
  obtain ⟨v, rfl, hq⟩ := hq
  refine gc_p (p_i2l (v := lI v) (dk_at ktL_word_0 6 rfl) rfl (b := 9) rfl) ?_
  refine g_jast (id := o) (len := 1) (j := 0) (v := (lI v)) (st := []) ho hso (dk_at ktL_word_0 7 rfl) rfl ⟨by decide, by decide⟩ (b := 10) rfl ?_
  refine gc_p (p_goto (b := 17) (dk_at ktL_word_0 8 rfl) (by decide)) ?_
  refine gc_p (p_iconst (v := 0) (dk_at ktL_word_0 12 rfl) (by decide) (b := 18) rfl) ?_
  exact w_iret (dk_at ktL_word_0 13 rfl) ⟨_, rfl, Or.inl ⟨rfl, v, J1, hq, rfl⟩⟩
set_option maxHeartbeats 1000000 in
theorem s_L_journalWord {n : Nat} {sh : mS} {G : mG} {I : mI} {J : mJ} {bx o : Nat} {code : Int32} {PX : Int32 → mI → mJ → Prop} (p0 p1 : Int32) (hs : Sp yX6_journalWord cX6_journalWord 3 (some FieldType.int) 8 384 1 6 [.ref bx, .int p0, .int p1] n sh G I J (Qi PX) (eX code I J)) (hx : bx < n) (hsx : sh bx = .inl (9, 6)) (ho : o < n) (hso : sh o = .inr (3, 1)) (hc2 : ¬ code = 2) : Sw yL_journalWord cL_journalWord 5 [(0, 10, 13, 13)] 9 432 1 6 [.ref bx, .int p0, .int p1, .ref o] n sh G I J (WQ code PX lI o I J) := by
  refine Sw.of (by decide) (ls := [(0, .ref bx), (1, .int p0), (2, .int p1), (3, .ref o)]) (fun _ => rfl) (fun _ => Nat.le_of_ble_eq_true rfl) ?_
  refine gc_p (p_aload_n 3 (dk_at ktL_journalWord_0 0 rfl) rfl rfl (b := 1) rfl) ?_
  refine gc_p (p_iconst (v := nI 0) (dk_at ktL_journalWord_0 1 rfl) (by decide) (b := 2) rfl) ?_
  refine gc_p (p_aload_n 0 (dk_at ktL_journalWord_0 2 rfl) rfl rfl (b := 3) rfl) ?_
  refine gc_p (p_iload_n 1 (dk_at ktL_journalWord_0 3 rfl) rfl rfl (b := 4) rfl) ?_
  refine gc_p (p_iload_n 2 (dk_at ktL_journalWord_0 4 rfl) rfl rfl (b := 5) rfl) ?_
  refine w_callV (tl := []) (e1 := 10) (h1 := 13) (h2 := 0) (i := 4) (nx1 := 15) (nx2 := 0) (As' := [.int p0, .int p1]) (rest := [.int (nI 0), .ref o]) hs cw_L_34 qi_X6_journalWord qv_X6_journalWord rfl hx hsx (dk_at ktL_journalWord_0 5 rfl) rfl rfl (Nat.le_of_ble_eq_true rfl) ⟨by decide, by decide, by decide, by decide⟩ (b := 8) rfl rfl (by decide) (by decide) (fun q hq => by simp only [List.mem_cons, List.not_mem_nil, or_false] at hq; rcases hq with rfl | rfl | rfl | rfl <;> exact ⟨by simp, fun h => absurd h.2 (fun z => by cases z)⟩) ql2_L_13 ql2_L_40 (fun hc => ⟨Or.inr ⟨(dk_at ktL_journalWord_0 9 rfl), rfl⟩, (gc_p (p_iconst (v := 1) (dk_at ktL_journalWord_0 10 rfl) (by decide) (b := 16) rfl) (w_iret (dk_at ktL_journalWord_0 11 rfl) ⟨_, rfl, Or.inr ⟨hc.symm, by rw [hc]; decide, rfl, rfl⟩⟩))⟩) (fun hc => absurd hc hc2) (fun r I1 J1 hq => ?_)
  obtain ⟨v, rfl, hq⟩ := hq
  refine gc_p (p_i2l (v := lI v) (dk_at ktL_journalWord_0 6 rfl) rfl (b := 9) rfl) ?_
  refine g_jast (id := o) (len := 1) (j := 0) (v := (lI v)) (st := []) ho hso (dk_at ktL_journalWord_0 7 rfl) rfl ⟨by decide, by decide⟩ (b := 10) rfl ?_
  refine gc_p (p_goto (b := 17) (dk_at ktL_journalWord_0 8 rfl) (by decide)) ?_
  refine gc_p (p_iconst (v := 0) (dk_at ktL_journalWord_0 12 rfl) (by decide) (b := 18) rfl) ?_
  exact w_iret (dk_at ktL_journalWord_0 13 rfl) ⟨_, rfl, Or.inl ⟨rfl, v, J1, hq, rfl⟩⟩
set_option maxHeartbeats 1000000 in
theorem s_L_wear {n : Nat} {sh : mS} {G : mG} {I : mI} {J : mJ} {bx o : Nat} {code : Int32} {PX : Int32 → mI → mJ → Prop} (p0 p1 : Int32) (hs : Sp yX6_wear cX6_wear 3 (some FieldType.int) 8 384 2 12 [.ref bx, .int p0, .int p1] n sh G I J (Qi PX) (eX code I J)) (hx : bx < n) (hsx : sh bx = .inl (9, 6)) (ho : o < n) (hso : sh o = .inr (3, 1)) : Sw yL_wear cL_wear 5 [(0, 10, 13, 13), (0, 10, 17, 40)] 9 432 2 12 [.ref bx, .int p0, .int p1, .ref o] n sh G I J (WQ code PX lI o I J) := by
  refine Sw.of (by decide) (ls := [(0, .ref bx), (1, .int p0), (2, .int p1), (3, .ref o)]) (fun _ => rfl) (fun _ => Nat.le_of_ble_eq_true rfl) ?_
  refine gc_p (p_aload_n 3 (dk_at ktL_wear_0 0 rfl) rfl rfl (b := 1) rfl) ?_
  refine gc_p (p_iconst (v := nI 0) (dk_at ktL_wear_0 1 rfl) (by decide) (b := 2) rfl) ?_
  refine gc_p (p_aload_n 0 (dk_at ktL_wear_0 2 rfl) rfl rfl (b := 3) rfl) ?_
  refine gc_p (p_iload_n 1 (dk_at ktL_wear_0 3 rfl) rfl rfl (b := 4) rfl) ?_
  refine gc_p (p_iload_n 2 (dk_at ktL_wear_0 4 rfl) rfl rfl (b := 5) rfl) ?_
  refine w_callV (tl := [(0, 10, 17, 40)]) (e1 := 10) (h1 := 13) (h2 := 17) (i := 4) (nx1 := 15) (nx2 := 19) (As' := [.int p0, .int p1]) (rest := [.int (nI 0), .ref o]) hs cw_L_37 qi_X6_wear qv_X6_wear rfl hx hsx (dk_at ktL_wear_0 5 rfl) rfl rfl (Nat.le_of_ble_eq_true rfl) ⟨by decide, by decide, by decide, by decide⟩ (b := 8) rfl rfl (by decide) (by decide) (fun q hq => by simp only [List.mem_cons, List.not_mem_nil, or_false] at hq; rcases hq with rfl | rfl | rfl | rfl <;> exact ⟨by simp, fun h => absurd h.2 (fun z => by cases z)⟩) ql2_L_13 ql2_L_40 (fun hc => ⟨Or.inr ⟨(dk_at ktL_wear_0 9 rfl), rfl⟩, (gc_p (p_iconst (v := 1) (dk_at ktL_wear_0 10 rfl) (by decide) (b := 16) rfl) (w_iret (dk_at ktL_wear_0 11 rfl) ⟨_, rfl, Or.inr ⟨hc.symm, by rw [hc]; decide, rfl, rfl⟩⟩))⟩) (fun hc => ⟨rfl, Or.inr ⟨(dk_at ktL_wear_0 12 rfl), rfl⟩, (gc_p (p_iconst (v := 2) (dk_at ktL_wear_0 13 rfl) (by decide) (b := 20) rfl) (w_iret (dk_at ktL_wear_0 14 rfl) ⟨_, rfl, Or.inr ⟨hc.symm, by rw [hc]; decide, rfl, rfl⟩⟩))⟩) (fun r I1 J1 hq => ?_)
  obtain ⟨v, rfl, hq⟩ := hq
  refine gc_p (p_i2l (v := lI v) (dk_at ktL_wear_0 6 rfl) rfl (b := 9) rfl) ?_
  refine g_jast (id := o) (len := 1) (j := 0) (v := (lI v)) (st := []) ho hso (dk_at ktL_wear_0 7 rfl) rfl ⟨by decide, by decide⟩ (b := 10) rfl ?_
  refine gc_p (p_goto (b := 21) (dk_at ktL_wear_0 8 rfl) (by decide)) ?_
  refine gc_p (p_iconst (v := 0) (dk_at ktL_wear_0 15 rfl) (by decide) (b := 22) rfl) ?_
  exact w_iret (dk_at ktL_wear_0 16 rfl) ⟨_, rfl, Or.inl ⟨rfl, v, J1, hq, rfl⟩⟩
set_option maxHeartbeats 1000000 in
theorem s_L_wornOut {n : Nat} {sh : mS} {G : mG} {I : mI} {J : mJ} {bx o : Nat} {code : Int32} {PX : Int32 → mI → mJ → Prop} (p0 : Int32) (hs : Sp yX6_wornOut cX6_wornOut 5 (some FieldType.int) 8 384 1 6 [.ref bx, .int p0] n sh G I J (Qi PX) (eX code I J)) (hx : bx < n) (hsx : sh bx = .inl (9, 6)) (ho : o < n) (hso : sh o = .inr (3, 1)) (hc2 : ¬ code = 2) : Sw yL_wornOut cL_wornOut 4 [(0, 9, 12, 13)] 9 432 1 6 [.ref bx, .int p0, .ref o] n sh G I J (WQ code PX lI o I J) := by
  refine Sw.of (by decide) (ls := [(0, .ref bx), (1, .int p0), (2, .ref o)]) (fun _ => rfl) (fun _ => Nat.le_of_ble_eq_true rfl) ?_
  refine gc_p (p_aload_n 2 (dk_at ktL_wornOut_0 0 rfl) rfl rfl (b := 1) rfl) ?_
  refine gc_p (p_iconst (v := nI 0) (dk_at ktL_wornOut_0 1 rfl) (by decide) (b := 2) rfl) ?_
  refine gc_p (p_aload_n 0 (dk_at ktL_wornOut_0 2 rfl) rfl rfl (b := 3) rfl) ?_
  refine gc_p (p_iload_n 1 (dk_at ktL_wornOut_0 3 rfl) rfl rfl (b := 4) rfl) ?_
  refine w_callV (tl := []) (e1 := 9) (h1 := 12) (h2 := 0) (i := 3) (nx1 := 13) (nx2 := 0) (As' := [.int p0]) (rest := [.int (nI 0), .ref o]) hs cw_L_42 qi_X6_wornOut qv_X6_wornOut rfl hx hsx (dk_at ktL_wornOut_0 4 rfl) rfl rfl (Nat.le_of_ble_eq_true rfl) ⟨by decide, by decide, by decide, by decide⟩ (b := 7) rfl rfl (by decide) (by decide) (fun q hq => by simp only [List.mem_cons, List.not_mem_nil, or_false] at hq; rcases hq with rfl | rfl | rfl <;> exact ⟨by simp, fun h => absurd h.2 (fun z => by cases z)⟩) ql2_L_13 ql2_L_40 (fun hc => ⟨Or.inl ⟨3, (dk_at ktL_wornOut_0 8 rfl), rfl, rfl⟩, (gc_p (p_iconst (v := 1) (dk_at ktL_wornOut_0 9 rfl) (by decide) (b := 14) rfl) (w_iret (dk_at ktL_wornOut_0 10 rfl) ⟨_, rfl, Or.inr ⟨hc.symm, by rw [hc]; decide, rfl, rfl⟩⟩))⟩) (fun hc => absurd hc hc2) (fun r I1 J1 hq => ?_)
  obtain ⟨v, rfl, hq⟩ := hq
  refine gc_p (p_i2l (v := lI v) (dk_at ktL_wornOut_0 5 rfl) rfl (b := 8) rfl) ?_
  refine g_jast (id := o) (len := 1) (j := 0) (v := (lI v)) (st := []) ho hso (dk_at ktL_wornOut_0 6 rfl) rfl ⟨by decide, by decide⟩ (b := 9) rfl ?_
  refine gc_p (p_goto (b := 15) (dk_at ktL_wornOut_0 7 rfl) (by decide)) ?_
  refine gc_p (p_iconst (v := 0) (dk_at ktL_wornOut_0 11 rfl) (by decide) (b := 16) rfl) ?_
  exact w_iret (dk_at ktL_wornOut_0 12 rfl) ⟨_, rfl, Or.inl ⟨rfl, v, J1, hq, rfl⟩⟩
set_option maxHeartbeats 1000000 in
theorem s_L_isWhole {n : Nat} {sh : mS} {G : mG} {I : mI} {J : mJ} {bx o : Nat} {code : Int32} {PX : Int32 → mI → mJ → Prop} (p0 : Int32) (hs : Sp yX6_isWhole cX6_isWhole 2 (some FieldType.boolean) 9 432 1 6 [.ref bx, .int p0] n sh G I J (Qi PX) (eX code I J)) (hx : bx < n) (hsx : sh bx = .inl (9, 6)) (ho : o < n) (hso : sh o = .inr (3, 1)) (hc2 : ¬ code = 2) : Sw yL_isWhole cL_isWhole 4 [(0, 16, 19, 13)] 10 480 1 6 [.ref bx, .int p0, .ref o] n sh G I J (WQ code PX lB o I J) := by
  refine Sw.of (by decide) (ls := [(0, .ref bx), (1, .int p0), (2, .ref o)]) (fun _ => rfl) (fun _ => Nat.le_of_ble_eq_true rfl) ?_
  refine gc_p (p_aload_n 2 (dk_at ktL_isWhole_0 0 rfl) rfl rfl (b := 1) rfl) ?_
  refine gc_p (p_iconst (v := nI 0) (dk_at ktL_isWhole_0 1 rfl) (by decide) (b := 2) rfl) ?_
  refine gc_p (p_aload_n 0 (dk_at ktL_isWhole_0 2 rfl) rfl rfl (b := 3) rfl) ?_
  refine gc_p (p_iload_n 1 (dk_at ktL_isWhole_0 3 rfl) rfl rfl (b := 4) rfl) ?_
  refine w_callV (tl := []) (e1 := 16) (h1 := 19) (h2 := 0) (i := 3) (nx1 := 20) (nx2 := 0) (As' := [.int p0]) (rest := [.int (nI 0), .ref o]) hs cw_L_45 qi_X6_isWhole qv_X6_isWhole rfl hx hsx (dk_at ktL_isWhole_0 4 rfl) rfl rfl (Nat.le_of_ble_eq_true rfl) ⟨by decide, by decide, by decide, by decide⟩ (b := 7) rfl rfl (by decide) (by decide) (fun q hq => by simp only [List.mem_cons, List.not_mem_nil, or_false] at hq; rcases hq with rfl | rfl | rfl <;> exact ⟨by simp, fun h => absurd h.2 (fun z => by cases z)⟩) ql2_L_13 ql2_L_40 (fun hc => ⟨Or.inl ⟨3, (dk_at ktL_isWhole_0 11 rfl), rfl, rfl⟩, (gc_p (p_iconst (v := 1) (dk_at ktL_isWhole_0 12 rfl) (by decide) (b := 21) rfl) (w_iret (dk_at ktL_isWhole_0 13 rfl) ⟨_, rfl, Or.inr ⟨hc.symm, by rw [hc]; decide, rfl, rfl⟩⟩))⟩) (fun hc => absurd hc hc2) (fun r I1 J1 hq => ?_)
  obtain ⟨v, rfl, hq⟩ := hq
  refine g_if_eq (st := [.int (nI 0), .ref o]) (dk_at ktL_isWhole_0 5 rfl) (b := 14) (by decide) (b2 := 10) rfl (fun c => ?_) (fun c => ?_)
  · refine gc_p (p_lconst (v := 0) (dk_at ktL_isWhole_0 8 rfl) (by decide) (b := 15) rfl) ?_
    refine g_jast (id := o) (len := 1) (j := 0) (v := 0) (st := []) ho hso (dk_at ktL_isWhole_0 9 rfl) rfl ⟨by decide, by decide⟩ (b := 16) rfl ?_
    refine gc_p (p_goto (b := 22) (dk_at ktL_isWhole_0 10 rfl) (by decide)) ?_
    refine gc_p (p_iconst (v := 0) (dk_at ktL_isWhole_0 14 rfl) (by decide) (b := 23) rfl) ?_
    exact w_iret (dk_at ktL_isWhole_0 15 rfl) ⟨_, rfl, Or.inl ⟨rfl, v, J1, hq, congrArg (up2 J1 o 0) (if_pos c).symm⟩⟩
  · refine gc_p (p_lconst (v := 1) (dk_at ktL_isWhole_0 6 rfl) (by decide) (b := 11) rfl) ?_
    refine gc_p (p_goto (b := 15) (dk_at ktL_isWhole_0 7 rfl) (by decide)) ?_
    refine g_jast (id := o) (len := 1) (j := 0) (v := 1) (st := []) ho hso (dk_at ktL_isWhole_0 9 rfl) rfl ⟨by decide, by decide⟩ (b := 16) rfl ?_
    refine gc_p (p_goto (b := 22) (dk_at ktL_isWhole_0 10 rfl) (by decide)) ?_
    refine gc_p (p_iconst (v := 0) (dk_at ktL_isWhole_0 14 rfl) (by decide) (b := 23) rfl) ?_
    exact w_iret (dk_at ktL_isWhole_0 15 rfl) ⟨_, rfl, Or.inl ⟨rfl, v, J1, hq, congrArg (up2 J1 o 0) (if_neg c).symm⟩⟩
set_option maxHeartbeats 1000000 in
theorem s_L_isBootable {n : Nat} {sh : mS} {G : mG} {I : mI} {J : mJ} {bx o : Nat} {code : Int32} {PX : Int32 → mI → mJ → Prop} (p0 : Int32) (hs : Sp yX6_isBootable cX6_isBootable 2 (some FieldType.boolean) 9 432 1 6 [.ref bx, .int p0] n sh G I J (Qi PX) (eX code I J)) (hx : bx < n) (hsx : sh bx = .inl (9, 6)) (ho : o < n) (hso : sh o = .inr (3, 1)) (hc2 : ¬ code = 2) : Sw yL_isBootable cL_isBootable 4 [(0, 16, 19, 13)] 10 480 1 6 [.ref bx, .int p0, .ref o] n sh G I J (WQ code PX lB o I J) := by
  refine Sw.of (by decide) (ls := [(0, .ref bx), (1, .int p0), (2, .ref o)]) (fun _ => rfl) (fun _ => Nat.le_of_ble_eq_true rfl) ?_
  refine gc_p (p_aload_n 2 (dk_at ktL_isBootable_0 0 rfl) rfl rfl (b := 1) rfl) ?_
  refine gc_p (p_iconst (v := nI 0) (dk_at ktL_isBootable_0 1 rfl) (by decide) (b := 2) rfl) ?_
  refine gc_p (p_aload_n 0 (dk_at ktL_isBootable_0 2 rfl) rfl rfl (b := 3) rfl) ?_
  refine gc_p (p_iload_n 1 (dk_at ktL_isBootable_0 3 rfl) rfl rfl (b := 4) rfl) ?_
  refine w_callV (tl := []) (e1 := 16) (h1 := 19) (h2 := 0) (i := 3) (nx1 := 20) (nx2 := 0) (As' := [.int p0]) (rest := [.int (nI 0), .ref o]) hs cw_L_49 qi_X6_isBootable qv_X6_isBootable rfl hx hsx (dk_at ktL_isBootable_0 4 rfl) rfl rfl (Nat.le_of_ble_eq_true rfl) ⟨by decide, by decide, by decide, by decide⟩ (b := 7) rfl rfl (by decide) (by decide) (fun q hq => by simp only [List.mem_cons, List.not_mem_nil, or_false] at hq; rcases hq with rfl | rfl | rfl <;> exact ⟨by simp, fun h => absurd h.2 (fun z => by cases z)⟩) ql2_L_13 ql2_L_40 (fun hc => ⟨Or.inl ⟨3, (dk_at ktL_isBootable_0 11 rfl), rfl, rfl⟩, (gc_p (p_iconst (v := 1) (dk_at ktL_isBootable_0 12 rfl) (by decide) (b := 21) rfl) (w_iret (dk_at ktL_isBootable_0 13 rfl) ⟨_, rfl, Or.inr ⟨hc.symm, by rw [hc]; decide, rfl, rfl⟩⟩))⟩) (fun hc => absurd hc hc2) (fun r I1 J1 hq => ?_)
  obtain ⟨v, rfl, hq⟩ := hq
  refine g_if_eq (st := [.int (nI 0), .ref o]) (dk_at ktL_isBootable_0 5 rfl) (b := 14) (by decide) (b2 := 10) rfl (fun c => ?_) (fun c => ?_)
  · refine gc_p (p_lconst (v := 0) (dk_at ktL_isBootable_0 8 rfl) (by decide) (b := 15) rfl) ?_
    refine g_jast (id := o) (len := 1) (j := 0) (v := 0) (st := []) ho hso (dk_at ktL_isBootable_0 9 rfl) rfl ⟨by decide, by decide⟩ (b := 16) rfl ?_
    refine gc_p (p_goto (b := 22) (dk_at ktL_isBootable_0 10 rfl) (by decide)) ?_
    refine gc_p (p_iconst (v := 0) (dk_at ktL_isBootable_0 14 rfl) (by decide) (b := 23) rfl) ?_
    exact w_iret (dk_at ktL_isBootable_0 15 rfl) ⟨_, rfl, Or.inl ⟨rfl, v, J1, hq, congrArg (up2 J1 o 0) (if_pos c).symm⟩⟩
  · refine gc_p (p_lconst (v := 1) (dk_at ktL_isBootable_0 6 rfl) (by decide) (b := 11) rfl) ?_
    refine gc_p (p_goto (b := 15) (dk_at ktL_isBootable_0 7 rfl) (by decide)) ?_
    refine g_jast (id := o) (len := 1) (j := 0) (v := 1) (st := []) ho hso (dk_at ktL_isBootable_0 9 rfl) rfl ⟨by decide, by decide⟩ (b := 16) rfl ?_
    refine gc_p (p_goto (b := 22) (dk_at ktL_isBootable_0 10 rfl) (by decide)) ?_
    refine gc_p (p_iconst (v := 0) (dk_at ktL_isBootable_0 14 rfl) (by decide) (b := 23) rfl) ?_
    exact w_iret (dk_at ktL_isBootable_0 15 rfl) ⟨_, rfl, Or.inl ⟨rfl, v, J1, hq, congrArg (up2 J1 o 0) (if_neg c).symm⟩⟩
set_option maxHeartbeats 1000000 in
theorem s_L_checksum {n : Nat} {sh : mS} {G : mG} {I : mI} {J : mJ} {bx o : Nat} {code : Int32} {PX : Int32 → mI → mJ → Prop} (p0 : Int32) (hs : Sp yX6_checksum cX6_checksum 2 (some FieldType.int) 9 432 1 6 [.ref bx, .int p0] n sh G I J (Qi PX) (eX code I J)) (hx : bx < n) (hsx : sh bx = .inl (9, 6)) (ho : o < n) (hso : sh o = .inr (3, 1)) (hc2 : ¬ code = 2) : Sw yL_checksum cL_checksum 4 [(0, 9, 12, 13)] 10 480 1 6 [.ref bx, .int p0, .ref o] n sh G I J (WQ code PX lI o I J) := by
  refine Sw.of (by decide) (ls := [(0, .ref bx), (1, .int p0), (2, .ref o)]) (fun _ => rfl) (fun _ => Nat.le_of_ble_eq_true rfl) ?_
  refine gc_p (p_aload_n 2 (dk_at ktL_checksum_0 0 rfl) rfl rfl (b := 1) rfl) ?_
  refine gc_p (p_iconst (v := nI 0) (dk_at ktL_checksum_0 1 rfl) (by decide) (b := 2) rfl) ?_
  refine gc_p (p_aload_n 0 (dk_at ktL_checksum_0 2 rfl) rfl rfl (b := 3) rfl) ?_
  refine gc_p (p_iload_n 1 (dk_at ktL_checksum_0 3 rfl) rfl rfl (b := 4) rfl) ?_
  refine w_callV (tl := []) (e1 := 9) (h1 := 12) (h2 := 0) (i := 3) (nx1 := 13) (nx2 := 0) (As' := [.int p0]) (rest := [.int (nI 0), .ref o]) hs cw_L_52 qi_X6_checksum qv_X6_checksum rfl hx hsx (dk_at ktL_checksum_0 4 rfl) rfl rfl (Nat.le_of_ble_eq_true rfl) ⟨by decide, by decide, by decide, by decide⟩ (b := 7) rfl rfl (by decide) (by decide) (fun q hq => by simp only [List.mem_cons, List.not_mem_nil, or_false] at hq; rcases hq with rfl | rfl | rfl <;> exact ⟨by simp, fun h => absurd h.2 (fun z => by cases z)⟩) ql2_L_13 ql2_L_40 (fun hc => ⟨Or.inl ⟨3, (dk_at ktL_checksum_0 8 rfl), rfl, rfl⟩, (gc_p (p_iconst (v := 1) (dk_at ktL_checksum_0 9 rfl) (by decide) (b := 14) rfl) (w_iret (dk_at ktL_checksum_0 10 rfl) ⟨_, rfl, Or.inr ⟨hc.symm, by rw [hc]; decide, rfl, rfl⟩⟩))⟩) (fun hc => absurd hc hc2) (fun r I1 J1 hq => ?_)
  obtain ⟨v, rfl, hq⟩ := hq
  refine gc_p (p_i2l (v := lI v) (dk_at ktL_checksum_0 5 rfl) rfl (b := 8) rfl) ?_
  refine g_jast (id := o) (len := 1) (j := 0) (v := (lI v)) (st := []) ho hso (dk_at ktL_checksum_0 6 rfl) rfl ⟨by decide, by decide⟩ (b := 9) rfl ?_
  refine gc_p (p_goto (b := 15) (dk_at ktL_checksum_0 7 rfl) (by decide)) ?_
  refine gc_p (p_iconst (v := 0) (dk_at ktL_checksum_0 11 rfl) (by decide) (b := 16) rfl) ?_
  exact w_iret (dk_at ktL_checksum_0 12 rfl) ⟨_, rfl, Or.inl ⟨rfl, v, J1, hq, rfl⟩⟩
set_option maxHeartbeats 1000000 in
theorem s_L_verify {n : Nat} {sh : mS} {G : mG} {I : mI} {J : mJ} {bx o : Nat} {code : Int32} {PX : Int32 → mI → mJ → Prop} (p0 : Int32) (hs : Sp yX6_verify cX6_verify 4 (some FieldType.int) 8 384 1 6 [.ref bx, .int p0] n sh G I J (Qi PX) (eX code I J)) (hx : bx < n) (hsx : sh bx = .inl (9, 6)) (ho : o < n) (hso : sh o = .inr (3, 1)) (hc2 : ¬ code = 2) : Sw yL_verify cL_verify 4 [(0, 9, 12, 13)] 9 432 1 6 [.ref bx, .int p0, .ref o] n sh G I J (WQ code PX lI o I J) := by
  refine Sw.of (by decide) (ls := [(0, .ref bx), (1, .int p0), (2, .ref o)]) (fun _ => rfl) (fun _ => Nat.le_of_ble_eq_true rfl) ?_
  refine gc_p (p_aload_n 2 (dk_at ktL_verify_0 0 rfl) rfl rfl (b := 1) rfl) ?_
  refine gc_p (p_iconst (v := nI 0) (dk_at ktL_verify_0 1 rfl) (by decide) (b := 2) rfl) ?_
  refine gc_p (p_aload_n 0 (dk_at ktL_verify_0 2 rfl) rfl rfl (b := 3) rfl) ?_
  refine gc_p (p_iload_n 1 (dk_at ktL_verify_0 3 rfl) rfl rfl (b := 4) rfl) ?_
  refine w_callV (tl := []) (e1 := 9) (h1 := 12) (h2 := 0) (i := 3) (nx1 := 13) (nx2 := 0) (As' := [.int p0]) (rest := [.int (nI 0), .ref o]) hs cw_L_55 qi_X6_verify qv_X6_verify rfl hx hsx (dk_at ktL_verify_0 4 rfl) rfl rfl (Nat.le_of_ble_eq_true rfl) ⟨by decide, by decide, by decide, by decide⟩ (b := 7) rfl rfl (by decide) (by decide) (fun q hq => by simp only [List.mem_cons, List.not_mem_nil, or_false] at hq; rcases hq with rfl | rfl | rfl <;> exact ⟨by simp, fun h => absurd h.2 (fun z => by cases z)⟩) ql2_L_13 ql2_L_40 (fun hc => ⟨Or.inl ⟨3, (dk_at ktL_verify_0 8 rfl), rfl, rfl⟩, (gc_p (p_iconst (v := 1) (dk_at ktL_verify_0 9 rfl) (by decide) (b := 14) rfl) (w_iret (dk_at ktL_verify_0 10 rfl) ⟨_, rfl, Or.inr ⟨hc.symm, by rw [hc]; decide, rfl, rfl⟩⟩))⟩) (fun hc => absurd hc hc2) (fun r I1 J1 hq => ?_)
  obtain ⟨v, rfl, hq⟩ := hq
  refine gc_p (p_i2l (v := lI v) (dk_at ktL_verify_0 5 rfl) rfl (b := 8) rfl) ?_
  refine g_jast (id := o) (len := 1) (j := 0) (v := (lI v)) (st := []) ho hso (dk_at ktL_verify_0 6 rfl) rfl ⟨by decide, by decide⟩ (b := 9) rfl ?_
  refine gc_p (p_goto (b := 15) (dk_at ktL_verify_0 7 rfl) (by decide)) ?_
  refine gc_p (p_iconst (v := 0) (dk_at ktL_verify_0 11 rfl) (by decide) (b := 16) rfl) ?_
  exact w_iret (dk_at ktL_verify_0 12 rfl) ⟨_, rfl, Or.inl ⟨rfl, v, J1, hq, rfl⟩⟩
set_option maxHeartbeats 1000000 in
theorem s_L_differentWords {n : Nat} {sh : mS} {G : mG} {I : mI} {J : mJ} {bx o : Nat} {code : Int32} {PX : Int32 → mI → mJ → Prop} (p0 : Int32) (hs : Sp yX6_differentWords cX6_differentWords 5 (some FieldType.int) 8 384 1 6 [.ref bx, .int p0] n sh G I J (Qi PX) (eX code I J)) (hx : bx < n) (hsx : sh bx = .inl (9, 6)) (ho : o < n) (hso : sh o = .inr (3, 1)) (hc2 : ¬ code = 2) : Sw yL_differentWords cL_differentWords 4 [(0, 9, 12, 13)] 9 432 1 6 [.ref bx, .int p0, .ref o] n sh G I J (WQ code PX lI o I J) := by
  refine Sw.of (by decide) (ls := [(0, .ref bx), (1, .int p0), (2, .ref o)]) (fun _ => rfl) (fun _ => Nat.le_of_ble_eq_true rfl) ?_
  refine gc_p (p_aload_n 2 (dk_at ktL_differentWords_0 0 rfl) rfl rfl (b := 1) rfl) ?_
  refine gc_p (p_iconst (v := nI 0) (dk_at ktL_differentWords_0 1 rfl) (by decide) (b := 2) rfl) ?_
  refine gc_p (p_aload_n 0 (dk_at ktL_differentWords_0 2 rfl) rfl rfl (b := 3) rfl) ?_
  refine gc_p (p_iload_n 1 (dk_at ktL_differentWords_0 3 rfl) rfl rfl (b := 4) rfl) ?_
  refine w_callV (tl := []) (e1 := 9) (h1 := 12) (h2 := 0) (i := 3) (nx1 := 13) (nx2 := 0) (As' := [.int p0]) (rest := [.int (nI 0), .ref o]) hs cw_L_58 qi_X6_differentWords qv_X6_differentWords rfl hx hsx (dk_at ktL_differentWords_0 4 rfl) rfl rfl (Nat.le_of_ble_eq_true rfl) ⟨by decide, by decide, by decide, by decide⟩ (b := 7) rfl rfl (by decide) (by decide) (fun q hq => by simp only [List.mem_cons, List.not_mem_nil, or_false] at hq; rcases hq with rfl | rfl | rfl <;> exact ⟨by simp, fun h => absurd h.2 (fun z => by cases z)⟩) ql2_L_13 ql2_L_40 (fun hc => ⟨Or.inl ⟨3, (dk_at ktL_differentWords_0 8 rfl), rfl, rfl⟩, (gc_p (p_iconst (v := 1) (dk_at ktL_differentWords_0 9 rfl) (by decide) (b := 14) rfl) (w_iret (dk_at ktL_differentWords_0 10 rfl) ⟨_, rfl, Or.inr ⟨hc.symm, by rw [hc]; decide, rfl, rfl⟩⟩))⟩) (fun hc => absurd hc hc2) (fun r I1 J1 hq => ?_)
  obtain ⟨v, rfl, hq⟩ := hq
  refine gc_p (p_i2l (v := lI v) (dk_at ktL_differentWords_0 5 rfl) rfl (b := 8) rfl) ?_
  refine g_jast (id := o) (len := 1) (j := 0) (v := (lI v)) (st := []) ho hso (dk_at ktL_differentWords_0 6 rfl) rfl ⟨by decide, by decide⟩ (b := 9) rfl ?_
  refine gc_p (p_goto (b := 15) (dk_at ktL_differentWords_0 7 rfl) (by decide)) ?_
  refine gc_p (p_iconst (v := 0) (dk_at ktL_differentWords_0 11 rfl) (by decide) (b := 16) rfl) ?_
  exact w_iret (dk_at ktL_differentWords_0 12 rfl) ⟨_, rfl, Or.inl ⟨rfl, v, J1, hq, rfl⟩⟩
set_option maxHeartbeats 1000000 in
theorem s_L_zeroBits {n : Nat} {sh : mS} {G : mG} {I : mI} {J : mJ} {bx o : Nat} {code : Int32} {PX : Int32 → mI → mJ → Prop} (p0 : Int32) (hs : Sp yX6_zeroBits cX6_zeroBits 5 (some FieldType.int) 8 384 1 6 [.ref bx, .int p0] n sh G I J (Qi PX) (eX code I J)) (hx : bx < n) (hsx : sh bx = .inl (9, 6)) (ho : o < n) (hso : sh o = .inr (3, 1)) (hc2 : ¬ code = 2) : Sw yL_zeroBits cL_zeroBits 4 [(0, 9, 12, 13)] 9 432 1 6 [.ref bx, .int p0, .ref o] n sh G I J (WQ code PX lI o I J) := by
  refine Sw.of (by decide) (ls := [(0, .ref bx), (1, .int p0), (2, .ref o)]) (fun _ => rfl) (fun _ => Nat.le_of_ble_eq_true rfl) ?_
  refine gc_p (p_aload_n 2 (dk_at ktL_zeroBits_0 0 rfl) rfl rfl (b := 1) rfl) ?_
  refine gc_p (p_iconst (v := nI 0) (dk_at ktL_zeroBits_0 1 rfl) (by decide) (b := 2) rfl) ?_
  refine gc_p (p_aload_n 0 (dk_at ktL_zeroBits_0 2 rfl) rfl rfl (b := 3) rfl) ?_
  refine gc_p (p_iload_n 1 (dk_at ktL_zeroBits_0 3 rfl) rfl rfl (b := 4) rfl) ?_
  refine w_callV (tl := []) (e1 := 9) (h1 := 12) (h2 := 0) (i := 3) (nx1 := 13) (nx2 := 0) (As' := [.int p0]) (rest := [.int (nI 0), .ref o]) hs cw_L_61 qi_X6_zeroBits qv_X6_zeroBits rfl hx hsx (dk_at ktL_zeroBits_0 4 rfl) rfl rfl (Nat.le_of_ble_eq_true rfl) ⟨by decide, by decide, by decide, by decide⟩ (b := 7) rfl rfl (by decide) (by decide) (fun q hq => by simp only [List.mem_cons, List.not_mem_nil, or_false] at hq; rcases hq with rfl | rfl | rfl <;> exact ⟨by simp, fun h => absurd h.2 (fun z => by cases z)⟩) ql2_L_13 ql2_L_40 (fun hc => ⟨Or.inl ⟨3, (dk_at ktL_zeroBits_0 8 rfl), rfl, rfl⟩, (gc_p (p_iconst (v := 1) (dk_at ktL_zeroBits_0 9 rfl) (by decide) (b := 14) rfl) (w_iret (dk_at ktL_zeroBits_0 10 rfl) ⟨_, rfl, Or.inr ⟨hc.symm, by rw [hc]; decide, rfl, rfl⟩⟩))⟩) (fun hc => absurd hc hc2) (fun r I1 J1 hq => ?_)
  obtain ⟨v, rfl, hq⟩ := hq
  refine gc_p (p_i2l (v := lI v) (dk_at ktL_zeroBits_0 5 rfl) rfl (b := 8) rfl) ?_
  refine g_jast (id := o) (len := 1) (j := 0) (v := (lI v)) (st := []) ho hso (dk_at ktL_zeroBits_0 6 rfl) rfl ⟨by decide, by decide⟩ (b := 9) rfl ?_
  refine gc_p (p_goto (b := 15) (dk_at ktL_zeroBits_0 7 rfl) (by decide)) ?_
  refine gc_p (p_iconst (v := 0) (dk_at ktL_zeroBits_0 11 rfl) (by decide) (b := 16) rfl) ?_
  exact w_iret (dk_at ktL_zeroBits_0 12 rfl) ⟨_, rfl, Or.inl ⟨rfl, v, J1, hq, rfl⟩⟩
set_option maxHeartbeats 1000000 in
theorem s_L_damage {n : Nat} {sh : mS} {G : mG} {I : mI} {J : mJ} {bx o : Nat} {code : Int32} {PX : Int32 → mI → mJ → Prop} (p0 p1 p2 : Int32) (hs : Sp yX6_damage cX6_damage 4 (some FieldType.int) 8 384 3 18 [.ref bx, .int p0, .int p1, .int p2] n sh G I J (Qi PX) (eX code I J)) (hx : bx < n) (hsx : sh bx = .inl (9, 6)) (ho : o < n) (hso : sh o = .inr (3, 1)) : Sw yL_damage cL_damage 6 [(0, 12, 15, 13), (0, 12, 19, 40)] 9 432 3 18 [.ref bx, .int p0, .int p1, .int p2, .ref o] n sh G I J (WQ code PX lI o I J) := by
  refine Sw.of (by decide) (ls := [(0, .ref bx), (1, .int p0), (2, .int p1), (3, .int p2), (4, .ref o)]) (fun _ => rfl) (fun _ => Nat.le_of_ble_eq_true rfl) ?_
  refine gc_p (p_aload 4 (dk_at ktL_damage_0 0 rfl) rfl (b := 2) rfl) ?_
  refine gc_p (p_iconst (v := nI 0) (dk_at ktL_damage_0 1 rfl) (by decide) (b := 3) rfl) ?_
  refine gc_p (p_aload_n 0 (dk_at ktL_damage_0 2 rfl) rfl rfl (b := 4) rfl) ?_
  refine gc_p (p_iload_n 1 (dk_at ktL_damage_0 3 rfl) rfl rfl (b := 5) rfl) ?_
  refine gc_p (p_iload_n 2 (dk_at ktL_damage_0 4 rfl) rfl rfl (b := 6) rfl) ?_
  refine gc_p (p_iload_n 3 (dk_at ktL_damage_0 5 rfl) rfl rfl (b := 7) rfl) ?_
  refine w_callV (tl := [(0, 12, 19, 40)]) (e1 := 12) (h1 := 15) (h2 := 19) (i := 5) (nx1 := 17) (nx2 := 21) (As' := [.int p0, .int p1, .int p2]) (rest := [.int (nI 0), .ref o]) hs cw_L_64 qi_X6_damage qv_X6_damage rfl hx hsx (dk_at ktL_damage_0 6 rfl) rfl rfl (Nat.le_of_ble_eq_true rfl) ⟨by decide, by decide, by decide, by decide⟩ (b := 10) rfl rfl (by decide) (by decide) (fun q hq => by simp only [List.mem_cons, List.not_mem_nil, or_false] at hq; rcases hq with rfl | rfl | rfl | rfl | rfl <;> exact ⟨by simp, fun h => absurd h.2 (fun z => by cases z)⟩) ql2_L_13 ql2_L_40 (fun hc => ⟨Or.inr ⟨(dk_at ktL_damage_0 10 rfl), rfl⟩, (gc_p (p_iconst (v := 1) (dk_at ktL_damage_0 11 rfl) (by decide) (b := 18) rfl) (w_iret (dk_at ktL_damage_0 12 rfl) ⟨_, rfl, Or.inr ⟨hc.symm, by rw [hc]; decide, rfl, rfl⟩⟩))⟩) (fun hc => ⟨rfl, Or.inr ⟨(dk_at ktL_damage_0 13 rfl), rfl⟩, (gc_p (p_iconst (v := 2) (dk_at ktL_damage_0 14 rfl) (by decide) (b := 22) rfl) (w_iret (dk_at ktL_damage_0 15 rfl) ⟨_, rfl, Or.inr ⟨hc.symm, by rw [hc]; decide, rfl, rfl⟩⟩))⟩) (fun r I1 J1 hq => ?_)
  obtain ⟨v, rfl, hq⟩ := hq
  refine gc_p (p_i2l (v := lI v) (dk_at ktL_damage_0 7 rfl) rfl (b := 11) rfl) ?_
  refine g_jast (id := o) (len := 1) (j := 0) (v := (lI v)) (st := []) ho hso (dk_at ktL_damage_0 8 rfl) rfl ⟨by decide, by decide⟩ (b := 12) rfl ?_
  refine gc_p (p_goto (b := 23) (dk_at ktL_damage_0 9 rfl) (by decide)) ?_
  refine gc_p (p_iconst (v := 0) (dk_at ktL_damage_0 16 rfl) (by decide) (b := 24) rfl) ?_
  exact w_iret (dk_at ktL_damage_0 17 rfl) ⟨_, rfl, Or.inl ⟨rfl, v, J1, hq, rfl⟩⟩
set_option maxHeartbeats 1000000 in
theorem s_L_damageJournal {n : Nat} {sh : mS} {G : mG} {I : mI} {J : mJ} {bx o : Nat} {code : Int32} {PX : Int32 → mI → mJ → Prop} (p0 p1 p2 : Int32) (hs : Sp yX6_damageJournal cX6_damageJournal 4 (some FieldType.int) 8 384 3 18 [.ref bx, .int p0, .int p1, .int p2] n sh G I J (Qi PX) (eX code I J)) (hx : bx < n) (hsx : sh bx = .inl (9, 6)) (ho : o < n) (hso : sh o = .inr (3, 1)) : Sw yL_damageJournal cL_damageJournal 6 [(0, 12, 15, 13), (0, 12, 19, 40)] 9 432 3 18 [.ref bx, .int p0, .int p1, .int p2, .ref o] n sh G I J (WQ code PX lI o I J) := by
  refine Sw.of (by decide) (ls := [(0, .ref bx), (1, .int p0), (2, .int p1), (3, .int p2), (4, .ref o)]) (fun _ => rfl) (fun _ => Nat.le_of_ble_eq_true rfl) ?_
  refine gc_p (p_aload 4 (dk_at ktL_damageJournal_0 0 rfl) rfl (b := 2) rfl) ?_
  refine gc_p (p_iconst (v := nI 0) (dk_at ktL_damageJournal_0 1 rfl) (by decide) (b := 3) rfl) ?_
  refine gc_p (p_aload_n 0 (dk_at ktL_damageJournal_0 2 rfl) rfl rfl (b := 4) rfl) ?_
  refine gc_p (p_iload_n 1 (dk_at ktL_damageJournal_0 3 rfl) rfl rfl (b := 5) rfl) ?_
  refine gc_p (p_iload_n 2 (dk_at ktL_damageJournal_0 4 rfl) rfl rfl (b := 6) rfl) ?_
  refine gc_p (p_iload_n 3 (dk_at ktL_damageJournal_0 5 rfl) rfl rfl (b := 7) rfl) ?_
  refine w_callV (tl := [(0, 12, 19, 40)]) (e1 := 12) (h1 := 15) (h2 := 19) (i := 5) (nx1 := 17) (nx2 := 21) (As' := [.int p0, .int p1, .int p2]) (rest := [.int (nI 0), .ref o]) hs cw_L_68 qi_X6_damageJournal qv_X6_damageJournal rfl hx hsx (dk_at ktL_damageJournal_0 6 rfl) rfl rfl (Nat.le_of_ble_eq_true rfl) ⟨by decide, by decide, by decide, by decide⟩ (b := 10) rfl rfl (by decide) (by decide) (fun q hq => by simp only [List.mem_cons, List.not_mem_nil, or_false] at hq; rcases hq with rfl | rfl | rfl | rfl | rfl <;> exact ⟨by simp, fun h => absurd h.2 (fun z => by cases z)⟩) ql2_L_13 ql2_L_40 (fun hc => ⟨Or.inr ⟨(dk_at ktL_damageJournal_0 10 rfl), rfl⟩, (gc_p (p_iconst (v := 1) (dk_at ktL_damageJournal_0 11 rfl) (by decide) (b := 18) rfl) (w_iret (dk_at ktL_damageJournal_0 12 rfl) ⟨_, rfl, Or.inr ⟨hc.symm, by rw [hc]; decide, rfl, rfl⟩⟩))⟩) (fun hc => ⟨rfl, Or.inr ⟨(dk_at ktL_damageJournal_0 13 rfl), rfl⟩, (gc_p (p_iconst (v := 2) (dk_at ktL_damageJournal_0 14 rfl) (by decide) (b := 22) rfl) (w_iret (dk_at ktL_damageJournal_0 15 rfl) ⟨_, rfl, Or.inr ⟨hc.symm, by rw [hc]; decide, rfl, rfl⟩⟩))⟩) (fun r I1 J1 hq => ?_)
  obtain ⟨v, rfl, hq⟩ := hq
  refine gc_p (p_i2l (v := lI v) (dk_at ktL_damageJournal_0 7 rfl) rfl (b := 11) rfl) ?_
  refine g_jast (id := o) (len := 1) (j := 0) (v := (lI v)) (st := []) ho hso (dk_at ktL_damageJournal_0 8 rfl) rfl ⟨by decide, by decide⟩ (b := 12) rfl ?_
  refine gc_p (p_goto (b := 23) (dk_at ktL_damageJournal_0 9 rfl) (by decide)) ?_
  refine gc_p (p_iconst (v := 0) (dk_at ktL_damageJournal_0 16 rfl) (by decide) (b := 24) rfl) ?_
  exact w_iret (dk_at ktL_damageJournal_0 17 rfl) ⟨_, rfl, Or.inl ⟨rfl, v, J1, hq, rfl⟩⟩
set_option maxHeartbeats 1000000 in
theorem s_L_record {n : Nat} {sh : mS} {G : mG} {I : mI} {J : mJ} {bx o : Nat} {code : Int32} {PX : Int32 → mI → mJ → Prop} (p0 p1 : Int32) (hs : Sp yX6_record cX6_record 6 (some FieldType.int) 8 384 1 6 [.ref bx, .int p0, .int p1] n sh G I J (Qi PX) (eX code I J)) (hx : bx < n) (hsx : sh bx = .inl (9, 6)) (ho : o < n) (hso : sh o = .inr (3, 1)) (hc2 : ¬ code = 2) : Sw yL_record cL_record 5 [(0, 10, 13, 13)] 9 432 1 6 [.ref bx, .int p0, .int p1, .ref o] n sh G I J (WQ code PX lI o I J) := by
  refine Sw.of (by decide) (ls := [(0, .ref bx), (1, .int p0), (2, .int p1), (3, .ref o)]) (fun _ => rfl) (fun _ => Nat.le_of_ble_eq_true rfl) ?_
  refine gc_p (p_aload_n 3 (dk_at ktL_record_0 0 rfl) rfl rfl (b := 1) rfl) ?_
  refine gc_p (p_iconst (v := nI 0) (dk_at ktL_record_0 1 rfl) (by decide) (b := 2) rfl) ?_
  refine gc_p (p_aload_n 0 (dk_at ktL_record_0 2 rfl) rfl rfl (b := 3) rfl) ?_
  refine gc_p (p_iload_n 1 (dk_at ktL_record_0 3 rfl) rfl rfl (b := 4) rfl) ?_
  refine gc_p (p_iload_n 2 (dk_at ktL_record_0 4 rfl) rfl rfl (b := 5) rfl) ?_
  refine w_callV (tl := []) (e1 := 10) (h1 := 13) (h2 := 0) (i := 4) (nx1 := 15) (nx2 := 0) (As' := [.int p0, .int p1]) (rest := [.int (nI 0), .ref o]) hs cw_L_71 qi_X6_record qv_X6_record rfl hx hsx (dk_at ktL_record_0 5 rfl) rfl rfl (Nat.le_of_ble_eq_true rfl) ⟨by decide, by decide, by decide, by decide⟩ (b := 8) rfl rfl (by decide) (by decide) (fun q hq => by simp only [List.mem_cons, List.not_mem_nil, or_false] at hq; rcases hq with rfl | rfl | rfl | rfl <;> exact ⟨by simp, fun h => absurd h.2 (fun z => by cases z)⟩) ql2_L_13 ql2_L_40 (fun hc => ⟨Or.inr ⟨(dk_at ktL_record_0 9 rfl), rfl⟩, (gc_p (p_iconst (v := 1) (dk_at ktL_record_0 10 rfl) (by decide) (b := 16) rfl) (w_iret (dk_at ktL_record_0 11 rfl) ⟨_, rfl, Or.inr ⟨hc.symm, by rw [hc]; decide, rfl, rfl⟩⟩))⟩) (fun hc => absurd hc hc2) (fun r I1 J1 hq => ?_)
  obtain ⟨v, rfl, hq⟩ := hq
  refine gc_p (p_i2l (v := lI v) (dk_at ktL_record_0 6 rfl) rfl (b := 9) rfl) ?_
  refine g_jast (id := o) (len := 1) (j := 0) (v := (lI v)) (st := []) ho hso (dk_at ktL_record_0 7 rfl) rfl ⟨by decide, by decide⟩ (b := 10) rfl ?_
  refine gc_p (p_goto (b := 17) (dk_at ktL_record_0 8 rfl) (by decide)) ?_
  refine gc_p (p_iconst (v := 0) (dk_at ktL_record_0 12 rfl) (by decide) (b := 18) rfl) ?_
  exact w_iret (dk_at ktL_record_0 13 rfl) ⟨_, rfl, Or.inl ⟨rfl, v, J1, hq, rfl⟩⟩
set_option maxHeartbeats 1000000 in
theorem s_L_told {n : Nat} {sh : mS} {G : mG} {I : mI} {J : mJ} {bx o : Nat} {code : Int32} {PX : Int32 → mI → mJ → Prop} (p0 : Int32) (hs : Sp yX6_told cX6_told 2 (some FieldType.int) 8 384 1 6 [.ref bx, .int p0] n sh G I J (Qi PX) (eX code I J)) (hx : bx < n) (hsx : sh bx = .inl (9, 6)) (ho : o < n) (hso : sh o = .inr (3, 1)) (hc2 : ¬ code = 2) : Sw yL_told cL_told 4 [(0, 9, 12, 13)] 9 432 1 6 [.ref bx, .int p0, .ref o] n sh G I J (WQ code PX lI o I J) := by
  refine Sw.of (by decide) (ls := [(0, .ref bx), (1, .int p0), (2, .ref o)]) (fun _ => rfl) (fun _ => Nat.le_of_ble_eq_true rfl) ?_
  refine gc_p (p_aload_n 2 (dk_at ktL_told_0 0 rfl) rfl rfl (b := 1) rfl) ?_
  refine gc_p (p_iconst (v := nI 0) (dk_at ktL_told_0 1 rfl) (by decide) (b := 2) rfl) ?_
  refine gc_p (p_aload_n 0 (dk_at ktL_told_0 2 rfl) rfl rfl (b := 3) rfl) ?_
  refine gc_p (p_iload_n 1 (dk_at ktL_told_0 3 rfl) rfl rfl (b := 4) rfl) ?_
  refine w_callV (tl := []) (e1 := 9) (h1 := 12) (h2 := 0) (i := 3) (nx1 := 13) (nx2 := 0) (As' := [.int p0]) (rest := [.int (nI 0), .ref o]) hs cw_L_74 qi_X6_told qv_X6_told rfl hx hsx (dk_at ktL_told_0 4 rfl) rfl rfl (Nat.le_of_ble_eq_true rfl) ⟨by decide, by decide, by decide, by decide⟩ (b := 7) rfl rfl (by decide) (by decide) (fun q hq => by simp only [List.mem_cons, List.not_mem_nil, or_false] at hq; rcases hq with rfl | rfl | rfl <;> exact ⟨by simp, fun h => absurd h.2 (fun z => by cases z)⟩) ql2_L_13 ql2_L_40 (fun hc => ⟨Or.inl ⟨3, (dk_at ktL_told_0 8 rfl), rfl, rfl⟩, (gc_p (p_iconst (v := 1) (dk_at ktL_told_0 9 rfl) (by decide) (b := 14) rfl) (w_iret (dk_at ktL_told_0 10 rfl) ⟨_, rfl, Or.inr ⟨hc.symm, by rw [hc]; decide, rfl, rfl⟩⟩))⟩) (fun hc => absurd hc hc2) (fun r I1 J1 hq => ?_)
  obtain ⟨v, rfl, hq⟩ := hq
  refine gc_p (p_i2l (v := lI v) (dk_at ktL_told_0 5 rfl) rfl (b := 8) rfl) ?_
  refine g_jast (id := o) (len := 1) (j := 0) (v := (lI v)) (st := []) ho hso (dk_at ktL_told_0 6 rfl) rfl ⟨by decide, by decide⟩ (b := 9) rfl ?_
  refine gc_p (p_goto (b := 15) (dk_at ktL_told_0 7 rfl) (by decide)) ?_
  refine gc_p (p_iconst (v := 0) (dk_at ktL_told_0 11 rfl) (by decide) (b := 16) rfl) ?_
  exact w_iret (dk_at ktL_told_0 12 rfl) ⟨_, rfl, Or.inl ⟨rfl, v, J1, hq, rfl⟩⟩
set_option maxHeartbeats 1000000 in
theorem s_L_updateOperations {n : Nat} {sh : mS} {G : mG} {I : mI} {J : mJ} {bx o : Nat} {code : Int32} {PX : Int32 → mI → mJ → Prop} (p0 : Int32) (hs : Sp yX6_updateOperations cX6_updateOperations 2 (some FieldType.int) 10 480 1 6 [.ref bx, .int p0] n sh G I J (Qi PX) (eX code I J)) (hx : bx < n) (hsx : sh bx = .inl (9, 6)) (ho : o < n) (hso : sh o = .inr (3, 1)) (hc2 : ¬ code = 2) : Sw yL_updateOperations cL_updateOperations 4 [(0, 9, 12, 13)] 11 528 1 6 [.ref bx, .int p0, .ref o] n sh G I J (WQ code PX lI o I J) := by
  refine Sw.of (by decide) (ls := [(0, .ref bx), (1, .int p0), (2, .ref o)]) (fun _ => rfl) (fun _ => Nat.le_of_ble_eq_true rfl) ?_
  refine gc_p (p_aload_n 2 (dk_at ktL_updateOperations_0 0 rfl) rfl rfl (b := 1) rfl) ?_
  refine gc_p (p_iconst (v := nI 0) (dk_at ktL_updateOperations_0 1 rfl) (by decide) (b := 2) rfl) ?_
  refine gc_p (p_aload_n 0 (dk_at ktL_updateOperations_0 2 rfl) rfl rfl (b := 3) rfl) ?_
  refine gc_p (p_iload_n 1 (dk_at ktL_updateOperations_0 3 rfl) rfl rfl (b := 4) rfl) ?_
  refine w_callV (tl := []) (e1 := 9) (h1 := 12) (h2 := 0) (i := 3) (nx1 := 13) (nx2 := 0) (As' := [.int p0]) (rest := [.int (nI 0), .ref o]) hs cw_L_77 qi_X6_updateOperations qv_X6_updateOperations rfl hx hsx (dk_at ktL_updateOperations_0 4 rfl) rfl rfl (Nat.le_of_ble_eq_true rfl) ⟨by decide, by decide, by decide, by decide⟩ (b := 7) rfl rfl (by decide) (by decide) (fun q hq => by simp only [List.mem_cons, List.not_mem_nil, or_false] at hq; rcases hq with rfl | rfl | rfl <;> exact ⟨by simp, fun h => absurd h.2 (fun z => by cases z)⟩) ql2_L_13 ql2_L_40 (fun hc => ⟨Or.inl ⟨3, (dk_at ktL_updateOperations_0 8 rfl), rfl, rfl⟩, (gc_p (p_iconst (v := 1) (dk_at ktL_updateOperations_0 9 rfl) (by decide) (b := 14) rfl) (w_iret (dk_at ktL_updateOperations_0 10 rfl) ⟨_, rfl, Or.inr ⟨hc.symm, by rw [hc]; decide, rfl, rfl⟩⟩))⟩) (fun hc => absurd hc hc2) (fun r I1 J1 hq => ?_)
  obtain ⟨v, rfl, hq⟩ := hq
  refine gc_p (p_i2l (v := lI v) (dk_at ktL_updateOperations_0 5 rfl) rfl (b := 8) rfl) ?_
  refine g_jast (id := o) (len := 1) (j := 0) (v := (lI v)) (st := []) ho hso (dk_at ktL_updateOperations_0 6 rfl) rfl ⟨by decide, by decide⟩ (b := 9) rfl ?_
  refine gc_p (p_goto (b := 15) (dk_at ktL_updateOperations_0 7 rfl) (by decide)) ?_
  refine gc_p (p_iconst (v := 0) (dk_at ktL_updateOperations_0 11 rfl) (by decide) (b := 16) rfl) ?_
  exact w_iret (dk_at ktL_updateOperations_0 12 rfl) ⟨_, rfl, Or.inl ⟨rfl, v, J1, hq, rfl⟩⟩
set_option maxHeartbeats 1000000 in
theorem s_L_slotAfterCut {n : Nat} {sh : mS} {G : mG} {I : mI} {J : mJ} {bx o : Nat} {code : Int32} {PX : Int32 → mI → mJ → Prop} (p0 p1 : Int32) (hs : Sp yX6_slotAfterCut cX6_slotAfterCut 3 (some FieldType.int) 12 576 2 12 [.ref bx, .int p0, .int p1] n sh G I J (Qi PX) (eX code I J)) (hx : bx < n) (hsx : sh bx = .inl (9, 6)) (ho : o < n) (hso : sh o = .inr (3, 1)) (hc2 : ¬ code = 2) : Sw yL_slotAfterCut cL_slotAfterCut 5 [(0, 10, 13, 13)] 13 624 2 12 [.ref bx, .int p0, .int p1, .ref o] n sh G I J (WQ code PX lI o I J) := by
  refine Sw.of (by decide) (ls := [(0, .ref bx), (1, .int p0), (2, .int p1), (3, .ref o)]) (fun _ => rfl) (fun _ => Nat.le_of_ble_eq_true rfl) ?_
  refine gc_p (p_aload_n 3 (dk_at ktL_slotAfterCut_0 0 rfl) rfl rfl (b := 1) rfl) ?_
  refine gc_p (p_iconst (v := nI 0) (dk_at ktL_slotAfterCut_0 1 rfl) (by decide) (b := 2) rfl) ?_
  refine gc_p (p_aload_n 0 (dk_at ktL_slotAfterCut_0 2 rfl) rfl rfl (b := 3) rfl) ?_
  refine gc_p (p_iload_n 1 (dk_at ktL_slotAfterCut_0 3 rfl) rfl rfl (b := 4) rfl) ?_
  refine gc_p (p_iload_n 2 (dk_at ktL_slotAfterCut_0 4 rfl) rfl rfl (b := 5) rfl) ?_
  refine w_callV (tl := []) (e1 := 10) (h1 := 13) (h2 := 0) (i := 4) (nx1 := 15) (nx2 := 0) (As' := [.int p0, .int p1]) (rest := [.int (nI 0), .ref o]) hs cw_L_80 qi_X6_slotAfterCut qv_X6_slotAfterCut rfl hx hsx (dk_at ktL_slotAfterCut_0 5 rfl) rfl rfl (Nat.le_of_ble_eq_true rfl) ⟨by decide, by decide, by decide, by decide⟩ (b := 8) rfl rfl (by decide) (by decide) (fun q hq => by simp only [List.mem_cons, List.not_mem_nil, or_false] at hq; rcases hq with rfl | rfl | rfl | rfl <;> exact ⟨by simp, fun h => absurd h.2 (fun z => by cases z)⟩) ql2_L_13 ql2_L_40 (fun hc => ⟨Or.inr ⟨(dk_at ktL_slotAfterCut_0 9 rfl), rfl⟩, (gc_p (p_iconst (v := 1) (dk_at ktL_slotAfterCut_0 10 rfl) (by decide) (b := 16) rfl) (w_iret (dk_at ktL_slotAfterCut_0 11 rfl) ⟨_, rfl, Or.inr ⟨hc.symm, by rw [hc]; decide, rfl, rfl⟩⟩))⟩) (fun hc => absurd hc hc2) (fun r I1 J1 hq => ?_)
  obtain ⟨v, rfl, hq⟩ := hq
  refine gc_p (p_i2l (v := lI v) (dk_at ktL_slotAfterCut_0 6 rfl) rfl (b := 9) rfl) ?_
  refine g_jast (id := o) (len := 1) (j := 0) (v := (lI v)) (st := []) ho hso (dk_at ktL_slotAfterCut_0 7 rfl) rfl ⟨by decide, by decide⟩ (b := 10) rfl ?_
  refine gc_p (p_goto (b := 17) (dk_at ktL_slotAfterCut_0 8 rfl) (by decide)) ?_
  refine gc_p (p_iconst (v := 0) (dk_at ktL_slotAfterCut_0 12 rfl) (by decide) (b := 18) rfl) ?_
  exact w_iret (dk_at ktL_slotAfterCut_0 13 rfl) ⟨_, rfl, Or.inl ⟨rfl, v, J1, hq, rfl⟩⟩
set_option maxHeartbeats 1000000 in
theorem s_L_firstUnsafeCut {n : Nat} {sh : mS} {G : mG} {I : mI} {J : mJ} {bx o : Nat} {code : Int32} {PX : Int32 → mI → mJ → Prop} (p0 : Int32) (hs : Sp yX6_firstUnsafeCut cX6_firstUnsafeCut 2 (some FieldType.int) 12 576 1 6 [.ref bx, .int p0] n sh G I J (Qi PX) (eX code I J)) (hx : bx < n) (hsx : sh bx = .inl (9, 6)) (ho : o < n) (hso : sh o = .inr (3, 1)) (hc2 : ¬ code = 2) : Sw yL_firstUnsafeCut cL_firstUnsafeCut 4 [(0, 9, 12, 13)] 13 624 1 6 [.ref bx, .int p0, .ref o] n sh G I J (WQ code PX lI o I J) := by
  refine Sw.of (by decide) (ls := [(0, .ref bx), (1, .int p0), (2, .ref o)]) (fun _ => rfl) (fun _ => Nat.le_of_ble_eq_true rfl) ?_
  refine gc_p (p_aload_n 2 (dk_at ktL_firstUnsafeCut_0 0 rfl) rfl rfl (b := 1) rfl) ?_
  refine gc_p (p_iconst (v := nI 0) (dk_at ktL_firstUnsafeCut_0 1 rfl) (by decide) (b := 2) rfl) ?_
  refine gc_p (p_aload_n 0 (dk_at ktL_firstUnsafeCut_0 2 rfl) rfl rfl (b := 3) rfl) ?_
  refine gc_p (p_iload_n 1 (dk_at ktL_firstUnsafeCut_0 3 rfl) rfl rfl (b := 4) rfl) ?_
  refine w_callV (tl := []) (e1 := 9) (h1 := 12) (h2 := 0) (i := 3) (nx1 := 13) (nx2 := 0) (As' := [.int p0]) (rest := [.int (nI 0), .ref o]) hs cw_L_83 qi_X6_firstUnsafeCut qv_X6_firstUnsafeCut rfl hx hsx (dk_at ktL_firstUnsafeCut_0 4 rfl) rfl rfl (Nat.le_of_ble_eq_true rfl) ⟨by decide, by decide, by decide, by decide⟩ (b := 7) rfl rfl (by decide) (by decide) (fun q hq => by simp only [List.mem_cons, List.not_mem_nil, or_false] at hq; rcases hq with rfl | rfl | rfl <;> exact ⟨by simp, fun h => absurd h.2 (fun z => by cases z)⟩) ql2_L_13 ql2_L_40 (fun hc => ⟨Or.inl ⟨3, (dk_at ktL_firstUnsafeCut_0 8 rfl), rfl, rfl⟩, (gc_p (p_iconst (v := 1) (dk_at ktL_firstUnsafeCut_0 9 rfl) (by decide) (b := 14) rfl) (w_iret (dk_at ktL_firstUnsafeCut_0 10 rfl) ⟨_, rfl, Or.inr ⟨hc.symm, by rw [hc]; decide, rfl, rfl⟩⟩))⟩) (fun hc => absurd hc hc2) (fun r I1 J1 hq => ?_)
  obtain ⟨v, rfl, hq⟩ := hq
  refine gc_p (p_i2l (v := lI v) (dk_at ktL_firstUnsafeCut_0 5 rfl) rfl (b := 8) rfl) ?_
  refine g_jast (id := o) (len := 1) (j := 0) (v := (lI v)) (st := []) ho hso (dk_at ktL_firstUnsafeCut_0 6 rfl) rfl ⟨by decide, by decide⟩ (b := 9) rfl ?_
  refine gc_p (p_goto (b := 15) (dk_at ktL_firstUnsafeCut_0 7 rfl) (by decide)) ?_
  refine gc_p (p_iconst (v := 0) (dk_at ktL_firstUnsafeCut_0 11 rfl) (by decide) (b := 16) rfl) ?_
  exact w_iret (dk_at ktL_firstUnsafeCut_0 12 rfl) ⟨_, rfl, Or.inl ⟨rfl, v, J1, hq, rfl⟩⟩
set_option maxHeartbeats 1000000 in
theorem s_L_cutsToNew {n : Nat} {sh : mS} {G : mG} {I : mI} {J : mJ} {bx o : Nat} {code : Int32} {PX : Int32 → mI → mJ → Prop} (p0 : Int32) (hs : Sp yX6_cutsToNew cX6_cutsToNew 5 (some FieldType.int) 12 576 1 6 [.ref bx, .int p0] n sh G I J (Qi PX) (eX code I J)) (hx : bx < n) (hsx : sh bx = .inl (9, 6)) (ho : o < n) (hso : sh o = .inr (3, 1)) (hc2 : ¬ code = 2) : Sw yL_cutsToNew cL_cutsToNew 4 [(0, 9, 12, 13)] 13 624 1 6 [.ref bx, .int p0, .ref o] n sh G I J (WQ code PX lI o I J) := by
  refine Sw.of (by decide) (ls := [(0, .ref bx), (1, .int p0), (2, .ref o)]) (fun _ => rfl) (fun _ => Nat.le_of_ble_eq_true rfl) ?_
  refine gc_p (p_aload_n 2 (dk_at ktL_cutsToNew_0 0 rfl) rfl rfl (b := 1) rfl) ?_
  refine gc_p (p_iconst (v := nI 0) (dk_at ktL_cutsToNew_0 1 rfl) (by decide) (b := 2) rfl) ?_
  refine gc_p (p_aload_n 0 (dk_at ktL_cutsToNew_0 2 rfl) rfl rfl (b := 3) rfl) ?_
  refine gc_p (p_iload_n 1 (dk_at ktL_cutsToNew_0 3 rfl) rfl rfl (b := 4) rfl) ?_
  refine w_callV (tl := []) (e1 := 9) (h1 := 12) (h2 := 0) (i := 3) (nx1 := 13) (nx2 := 0) (As' := [.int p0]) (rest := [.int (nI 0), .ref o]) hs cw_L_86 qi_X6_cutsToNew qv_X6_cutsToNew rfl hx hsx (dk_at ktL_cutsToNew_0 4 rfl) rfl rfl (Nat.le_of_ble_eq_true rfl) ⟨by decide, by decide, by decide, by decide⟩ (b := 7) rfl rfl (by decide) (by decide) (fun q hq => by simp only [List.mem_cons, List.not_mem_nil, or_false] at hq; rcases hq with rfl | rfl | rfl <;> exact ⟨by simp, fun h => absurd h.2 (fun z => by cases z)⟩) ql2_L_13 ql2_L_40 (fun hc => ⟨Or.inl ⟨3, (dk_at ktL_cutsToNew_0 8 rfl), rfl, rfl⟩, (gc_p (p_iconst (v := 1) (dk_at ktL_cutsToNew_0 9 rfl) (by decide) (b := 14) rfl) (w_iret (dk_at ktL_cutsToNew_0 10 rfl) ⟨_, rfl, Or.inr ⟨hc.symm, by rw [hc]; decide, rfl, rfl⟩⟩))⟩) (fun hc => absurd hc hc2) (fun r I1 J1 hq => ?_)
  obtain ⟨v, rfl, hq⟩ := hq
  refine gc_p (p_i2l (v := lI v) (dk_at ktL_cutsToNew_0 5 rfl) rfl (b := 8) rfl) ?_
  refine g_jast (id := o) (len := 1) (j := 0) (v := (lI v)) (st := []) ho hso (dk_at ktL_cutsToNew_0 6 rfl) rfl ⟨by decide, by decide⟩ (b := 9) rfl ?_
  refine gc_p (p_goto (b := 15) (dk_at ktL_cutsToNew_0 7 rfl) (by decide)) ?_
  refine gc_p (p_iconst (v := 0) (dk_at ktL_cutsToNew_0 11 rfl) (by decide) (b := 16) rfl) ?_
  exact w_iret (dk_at ktL_cutsToNew_0 12 rfl) ⟨_, rfl, Or.inl ⟨rfl, v, J1, hq, rfl⟩⟩
set_option maxHeartbeats 1000000 in
theorem s_L_longestOldRun {n : Nat} {sh : mS} {G : mG} {I : mI} {J : mJ} {bx o : Nat} {code : Int32} {PX : Int32 → mI → mJ → Prop} (p0 : Int32) (hs : Sp yX6_longestOldRun cX6_longestOldRun 6 (some FieldType.int) 12 576 1 6 [.ref bx, .int p0] n sh G I J (Qi PX) (eX code I J)) (hx : bx < n) (hsx : sh bx = .inl (9, 6)) (ho : o < n) (hso : sh o = .inr (3, 1)) (hc2 : ¬ code = 2) : Sw yL_longestOldRun cL_longestOldRun 4 [(0, 9, 12, 13)] 13 624 1 6 [.ref bx, .int p0, .ref o] n sh G I J (WQ code PX lI o I J) := by
  refine Sw.of (by decide) (ls := [(0, .ref bx), (1, .int p0), (2, .ref o)]) (fun _ => rfl) (fun _ => Nat.le_of_ble_eq_true rfl) ?_
  refine gc_p (p_aload_n 2 (dk_at ktL_longestOldRun_0 0 rfl) rfl rfl (b := 1) rfl) ?_
  refine gc_p (p_iconst (v := nI 0) (dk_at ktL_longestOldRun_0 1 rfl) (by decide) (b := 2) rfl) ?_
  refine gc_p (p_aload_n 0 (dk_at ktL_longestOldRun_0 2 rfl) rfl rfl (b := 3) rfl) ?_
  refine gc_p (p_iload_n 1 (dk_at ktL_longestOldRun_0 3 rfl) rfl rfl (b := 4) rfl) ?_
  refine w_callV (tl := []) (e1 := 9) (h1 := 12) (h2 := 0) (i := 3) (nx1 := 13) (nx2 := 0) (As' := [.int p0]) (rest := [.int (nI 0), .ref o]) hs cw_L_89 qi_X6_longestOldRun qv_X6_longestOldRun rfl hx hsx (dk_at ktL_longestOldRun_0 4 rfl) rfl rfl (Nat.le_of_ble_eq_true rfl) ⟨by decide, by decide, by decide, by decide⟩ (b := 7) rfl rfl (by decide) (by decide) (fun q hq => by simp only [List.mem_cons, List.not_mem_nil, or_false] at hq; rcases hq with rfl | rfl | rfl <;> exact ⟨by simp, fun h => absurd h.2 (fun z => by cases z)⟩) ql2_L_13 ql2_L_40 (fun hc => ⟨Or.inl ⟨3, (dk_at ktL_longestOldRun_0 8 rfl), rfl, rfl⟩, (gc_p (p_iconst (v := 1) (dk_at ktL_longestOldRun_0 9 rfl) (by decide) (b := 14) rfl) (w_iret (dk_at ktL_longestOldRun_0 10 rfl) ⟨_, rfl, Or.inr ⟨hc.symm, by rw [hc]; decide, rfl, rfl⟩⟩))⟩) (fun hc => absurd hc hc2) (fun r I1 J1 hq => ?_)
  obtain ⟨v, rfl, hq⟩ := hq
  refine gc_p (p_i2l (v := lI v) (dk_at ktL_longestOldRun_0 5 rfl) rfl (b := 8) rfl) ?_
  refine g_jast (id := o) (len := 1) (j := 0) (v := (lI v)) (st := []) ho hso (dk_at ktL_longestOldRun_0 6 rfl) rfl ⟨by decide, by decide⟩ (b := 9) rfl ?_
  refine gc_p (p_goto (b := 15) (dk_at ktL_longestOldRun_0 7 rfl) (by decide)) ?_
  refine gc_p (p_iconst (v := 0) (dk_at ktL_longestOldRun_0 11 rfl) (by decide) (b := 16) rfl) ?_
  exact w_iret (dk_at ktL_longestOldRun_0 12 rfl) ⟨_, rfl, Or.inl ⟨rfl, v, J1, hq, rfl⟩⟩
set_option maxHeartbeats 1000000 in
theorem s_L_updatesLeft {n : Nat} {sh : mS} {G : mG} {I : mI} {J : mJ} {bx o : Nat} {code : Int32} {PX : Int32 → mI → mJ → Prop} (p0 : Int32) (hs : Sp yX6_updatesLeft cX6_updatesLeft 5 (some FieldType.int) 10 480 1 6 [.ref bx, .int p0] n sh G I J (Qi PX) (eX code I J)) (hx : bx < n) (hsx : sh bx = .inl (9, 6)) (ho : o < n) (hso : sh o = .inr (3, 1)) (hc2 : ¬ code = 2) : Sw yL_updatesLeft cL_updatesLeft 4 [(0, 9, 12, 13)] 11 528 1 6 [.ref bx, .int p0, .ref o] n sh G I J (WQ code PX lI o I J) := by
  refine Sw.of (by decide) (ls := [(0, .ref bx), (1, .int p0), (2, .ref o)]) (fun _ => rfl) (fun _ => Nat.le_of_ble_eq_true rfl) ?_
  refine gc_p (p_aload_n 2 (dk_at ktL_updatesLeft_0 0 rfl) rfl rfl (b := 1) rfl) ?_
  refine gc_p (p_iconst (v := nI 0) (dk_at ktL_updatesLeft_0 1 rfl) (by decide) (b := 2) rfl) ?_
  refine gc_p (p_aload_n 0 (dk_at ktL_updatesLeft_0 2 rfl) rfl rfl (b := 3) rfl) ?_
  refine gc_p (p_iload_n 1 (dk_at ktL_updatesLeft_0 3 rfl) rfl rfl (b := 4) rfl) ?_
  refine w_callV (tl := []) (e1 := 9) (h1 := 12) (h2 := 0) (i := 3) (nx1 := 13) (nx2 := 0) (As' := [.int p0]) (rest := [.int (nI 0), .ref o]) hs cw_L_92 qi_X6_updatesLeft qv_X6_updatesLeft rfl hx hsx (dk_at ktL_updatesLeft_0 4 rfl) rfl rfl (Nat.le_of_ble_eq_true rfl) ⟨by decide, by decide, by decide, by decide⟩ (b := 7) rfl rfl (by decide) (by decide) (fun q hq => by simp only [List.mem_cons, List.not_mem_nil, or_false] at hq; rcases hq with rfl | rfl | rfl <;> exact ⟨by simp, fun h => absurd h.2 (fun z => by cases z)⟩) ql2_L_13 ql2_L_40 (fun hc => ⟨Or.inl ⟨3, (dk_at ktL_updatesLeft_0 8 rfl), rfl, rfl⟩, (gc_p (p_iconst (v := 1) (dk_at ktL_updatesLeft_0 9 rfl) (by decide) (b := 14) rfl) (w_iret (dk_at ktL_updatesLeft_0 10 rfl) ⟨_, rfl, Or.inr ⟨hc.symm, by rw [hc]; decide, rfl, rfl⟩⟩))⟩) (fun hc => absurd hc hc2) (fun r I1 J1 hq => ?_)
  obtain ⟨v, rfl, hq⟩ := hq
  refine gc_p (p_i2l (v := lI v) (dk_at ktL_updatesLeft_0 5 rfl) rfl (b := 8) rfl) ?_
  refine g_jast (id := o) (len := 1) (j := 0) (v := (lI v)) (st := []) ho hso (dk_at ktL_updatesLeft_0 6 rfl) rfl ⟨by decide, by decide⟩ (b := 9) rfl ?_
  refine gc_p (p_goto (b := 15) (dk_at ktL_updatesLeft_0 7 rfl) (by decide)) ?_
  refine gc_p (p_iconst (v := 0) (dk_at ktL_updatesLeft_0 11 rfl) (by decide) (b := 16) rfl) ?_
  exact w_iret (dk_at ktL_updatesLeft_0 12 rfl) ⟨_, rfl, Or.inl ⟨rfl, v, J1, hq, rfl⟩⟩
set_option maxHeartbeats 1000000 in
theorem s_L_thriftyOperations {n : Nat} {sh : mS} {G : mG} {I : mI} {J : mJ} {bx o : Nat} {code : Int32} {PX : Int32 → mI → mJ → Prop} (p0 : Int32) (hs : Sp yX6_thriftyOperations cX6_thriftyOperations 2 (some FieldType.int) 10 480 1 6 [.ref bx, .int p0] n sh G I J (Qi PX) (eX code I J)) (hx : bx < n) (hsx : sh bx = .inl (9, 6)) (ho : o < n) (hso : sh o = .inr (3, 1)) (hc2 : ¬ code = 2) : Sw yL_thriftyOperations cL_thriftyOperations 4 [(0, 9, 12, 13)] 11 528 1 6 [.ref bx, .int p0, .ref o] n sh G I J (WQ code PX lI o I J) := by
  refine Sw.of (by decide) (ls := [(0, .ref bx), (1, .int p0), (2, .ref o)]) (fun _ => rfl) (fun _ => Nat.le_of_ble_eq_true rfl) ?_
  refine gc_p (p_aload_n 2 (dk_at ktL_thriftyOperations_0 0 rfl) rfl rfl (b := 1) rfl) ?_
  refine gc_p (p_iconst (v := nI 0) (dk_at ktL_thriftyOperations_0 1 rfl) (by decide) (b := 2) rfl) ?_
  refine gc_p (p_aload_n 0 (dk_at ktL_thriftyOperations_0 2 rfl) rfl rfl (b := 3) rfl) ?_
  refine gc_p (p_iload_n 1 (dk_at ktL_thriftyOperations_0 3 rfl) rfl rfl (b := 4) rfl) ?_
  refine w_callV (tl := []) (e1 := 9) (h1 := 12) (h2 := 0) (i := 3) (nx1 := 13) (nx2 := 0) (As' := [.int p0]) (rest := [.int (nI 0), .ref o]) hs cw_L_95 qi_X6_thriftyOperations qv_X6_thriftyOperations rfl hx hsx (dk_at ktL_thriftyOperations_0 4 rfl) rfl rfl (Nat.le_of_ble_eq_true rfl) ⟨by decide, by decide, by decide, by decide⟩ (b := 7) rfl rfl (by decide) (by decide) (fun q hq => by simp only [List.mem_cons, List.not_mem_nil, or_false] at hq; rcases hq with rfl | rfl | rfl <;> exact ⟨by simp, fun h => absurd h.2 (fun z => by cases z)⟩) ql2_L_13 ql2_L_40 (fun hc => ⟨Or.inl ⟨3, (dk_at ktL_thriftyOperations_0 8 rfl), rfl, rfl⟩, (gc_p (p_iconst (v := 1) (dk_at ktL_thriftyOperations_0 9 rfl) (by decide) (b := 14) rfl) (w_iret (dk_at ktL_thriftyOperations_0 10 rfl) ⟨_, rfl, Or.inr ⟨hc.symm, by rw [hc]; decide, rfl, rfl⟩⟩))⟩) (fun hc => absurd hc hc2) (fun r I1 J1 hq => ?_)
  obtain ⟨v, rfl, hq⟩ := hq
  refine gc_p (p_i2l (v := lI v) (dk_at ktL_thriftyOperations_0 5 rfl) rfl (b := 8) rfl) ?_
  refine g_jast (id := o) (len := 1) (j := 0) (v := (lI v)) (st := []) ho hso (dk_at ktL_thriftyOperations_0 6 rfl) rfl ⟨by decide, by decide⟩ (b := 9) rfl ?_
  refine gc_p (p_goto (b := 15) (dk_at ktL_thriftyOperations_0 7 rfl) (by decide)) ?_
  refine gc_p (p_iconst (v := 0) (dk_at ktL_thriftyOperations_0 11 rfl) (by decide) (b := 16) rfl) ?_
  exact w_iret (dk_at ktL_thriftyOperations_0 12 rfl) ⟨_, rfl, Or.inl ⟨rfl, v, J1, hq, rfl⟩⟩
set_option maxHeartbeats 1000000 in
theorem s_L_firstUnsafeThriftyCut {n : Nat} {sh : mS} {G : mG} {I : mI} {J : mJ} {bx o : Nat} {code : Int32} {PX : Int32 → mI → mJ → Prop} (p0 : Int32) (hs : Sp yX6_firstUnsafeThriftyCut cX6_firstUnsafeThriftyCut 2 (some FieldType.int) 12 576 1 6 [.ref bx, .int p0] n sh G I J (Qi PX) (eX code I J)) (hx : bx < n) (hsx : sh bx = .inl (9, 6)) (ho : o < n) (hso : sh o = .inr (3, 1)) (hc2 : ¬ code = 2) : Sw yL_firstUnsafeThriftyCut cL_firstUnsafeThriftyCut 4 [(0, 9, 12, 13)] 13 624 1 6 [.ref bx, .int p0, .ref o] n sh G I J (WQ code PX lI o I J) := by
  refine Sw.of (by decide) (ls := [(0, .ref bx), (1, .int p0), (2, .ref o)]) (fun _ => rfl) (fun _ => Nat.le_of_ble_eq_true rfl) ?_
  refine gc_p (p_aload_n 2 (dk_at ktL_firstUnsafeThriftyCut_0 0 rfl) rfl rfl (b := 1) rfl) ?_
  refine gc_p (p_iconst (v := nI 0) (dk_at ktL_firstUnsafeThriftyCut_0 1 rfl) (by decide) (b := 2) rfl) ?_
  refine gc_p (p_aload_n 0 (dk_at ktL_firstUnsafeThriftyCut_0 2 rfl) rfl rfl (b := 3) rfl) ?_
  refine gc_p (p_iload_n 1 (dk_at ktL_firstUnsafeThriftyCut_0 3 rfl) rfl rfl (b := 4) rfl) ?_
  refine w_callV (tl := []) (e1 := 9) (h1 := 12) (h2 := 0) (i := 3) (nx1 := 13) (nx2 := 0) (As' := [.int p0]) (rest := [.int (nI 0), .ref o]) hs cw_L_98 qi_X6_firstUnsafeThriftyCut qv_X6_firstUnsafeThriftyCut rfl hx hsx (dk_at ktL_firstUnsafeThriftyCut_0 4 rfl) rfl rfl (Nat.le_of_ble_eq_true rfl) ⟨by decide, by decide, by decide, by decide⟩ (b := 7) rfl rfl (by decide) (by decide) (fun q hq => by simp only [List.mem_cons, List.not_mem_nil, or_false] at hq; rcases hq with rfl | rfl | rfl <;> exact ⟨by simp, fun h => absurd h.2 (fun z => by cases z)⟩) ql2_L_13 ql2_L_40 (fun hc => ⟨Or.inl ⟨3, (dk_at ktL_firstUnsafeThriftyCut_0 8 rfl), rfl, rfl⟩, (gc_p (p_iconst (v := 1) (dk_at ktL_firstUnsafeThriftyCut_0 9 rfl) (by decide) (b := 14) rfl) (w_iret (dk_at ktL_firstUnsafeThriftyCut_0 10 rfl) ⟨_, rfl, Or.inr ⟨hc.symm, by rw [hc]; decide, rfl, rfl⟩⟩))⟩) (fun hc => absurd hc hc2) (fun r I1 J1 hq => ?_)
  obtain ⟨v, rfl, hq⟩ := hq
  refine gc_p (p_i2l (v := lI v) (dk_at ktL_firstUnsafeThriftyCut_0 5 rfl) rfl (b := 8) rfl) ?_
  refine g_jast (id := o) (len := 1) (j := 0) (v := (lI v)) (st := []) ho hso (dk_at ktL_firstUnsafeThriftyCut_0 6 rfl) rfl ⟨by decide, by decide⟩ (b := 9) rfl ?_
  refine gc_p (p_goto (b := 15) (dk_at ktL_firstUnsafeThriftyCut_0 7 rfl) (by decide)) ?_
  refine gc_p (p_iconst (v := 0) (dk_at ktL_firstUnsafeThriftyCut_0 11 rfl) (by decide) (b := 16) rfl) ?_
  exact w_iret (dk_at ktL_firstUnsafeThriftyCut_0 12 rfl) ⟨_, rfl, Or.inl ⟨rfl, v, J1, hq, rfl⟩⟩
set_option maxHeartbeats 1000000 in
theorem s_L_slotAfterTwoCuts {n : Nat} {sh : mS} {G : mG} {I : mI} {J : mJ} {bx o : Nat} {code : Int32} {PX : Int32 → mI → mJ → Prop} (p0 p1 p2 : Int32) (hs : Sp yX6_slotAfterTwoCuts cX6_slotAfterTwoCuts 5 (some FieldType.int) 11 528 3 18 [.ref bx, .int p0, .int p1, .int p2] n sh G I J (Qi PX) (eX code I J)) (hx : bx < n) (hsx : sh bx = .inl (9, 6)) (ho : o < n) (hso : sh o = .inr (3, 1)) (hc2 : ¬ code = 2) : Sw yL_slotAfterTwoCuts cL_slotAfterTwoCuts 6 [(0, 12, 15, 13)] 12 576 3 18 [.ref bx, .int p0, .int p1, .int p2, .ref o] n sh G I J (WQ code PX lI o I J) := by
  refine Sw.of (by decide) (ls := [(0, .ref bx), (1, .int p0), (2, .int p1), (3, .int p2), (4, .ref o)]) (fun _ => rfl) (fun _ => Nat.le_of_ble_eq_true rfl) ?_
  refine gc_p (p_aload 4 (dk_at ktL_slotAfterTwoCuts_0 0 rfl) rfl (b := 2) rfl) ?_
  refine gc_p (p_iconst (v := nI 0) (dk_at ktL_slotAfterTwoCuts_0 1 rfl) (by decide) (b := 3) rfl) ?_
  refine gc_p (p_aload_n 0 (dk_at ktL_slotAfterTwoCuts_0 2 rfl) rfl rfl (b := 4) rfl) ?_
  refine gc_p (p_iload_n 1 (dk_at ktL_slotAfterTwoCuts_0 3 rfl) rfl rfl (b := 5) rfl) ?_
  refine gc_p (p_iload_n 2 (dk_at ktL_slotAfterTwoCuts_0 4 rfl) rfl rfl (b := 6) rfl) ?_
  refine gc_p (p_iload_n 3 (dk_at ktL_slotAfterTwoCuts_0 5 rfl) rfl rfl (b := 7) rfl) ?_
  refine w_callV (tl := []) (e1 := 12) (h1 := 15) (h2 := 0) (i := 5) (nx1 := 17) (nx2 := 0) (As' := [.int p0, .int p1, .int p2]) (rest := [.int (nI 0), .ref o]) hs cw_L_101 qi_X6_slotAfterTwoCuts qv_X6_slotAfterTwoCuts rfl hx hsx (dk_at ktL_slotAfterTwoCuts_0 6 rfl) rfl rfl (Nat.le_of_ble_eq_true rfl) ⟨by decide, by decide, by decide, by decide⟩ (b := 10) rfl rfl (by decide) (by decide) (fun q hq => by simp only [List.mem_cons, List.not_mem_nil, or_false] at hq; rcases hq with rfl | rfl | rfl | rfl | rfl <;> exact ⟨by simp, fun h => absurd h.2 (fun z => by cases z)⟩) ql2_L_13 ql2_L_40 (fun hc => ⟨Or.inr ⟨(dk_at ktL_slotAfterTwoCuts_0 10 rfl), rfl⟩, (gc_p (p_iconst (v := 1) (dk_at ktL_slotAfterTwoCuts_0 11 rfl) (by decide) (b := 18) rfl) (w_iret (dk_at ktL_slotAfterTwoCuts_0 12 rfl) ⟨_, rfl, Or.inr ⟨hc.symm, by rw [hc]; decide, rfl, rfl⟩⟩))⟩) (fun hc => absurd hc hc2) (fun r I1 J1 hq => ?_)
  obtain ⟨v, rfl, hq⟩ := hq
  refine gc_p (p_i2l (v := lI v) (dk_at ktL_slotAfterTwoCuts_0 7 rfl) rfl (b := 11) rfl) ?_
  refine g_jast (id := o) (len := 1) (j := 0) (v := (lI v)) (st := []) ho hso (dk_at ktL_slotAfterTwoCuts_0 8 rfl) rfl ⟨by decide, by decide⟩ (b := 12) rfl ?_
  refine gc_p (p_goto (b := 19) (dk_at ktL_slotAfterTwoCuts_0 9 rfl) (by decide)) ?_
  refine gc_p (p_iconst (v := 0) (dk_at ktL_slotAfterTwoCuts_0 13 rfl) (by decide) (b := 20) rfl) ?_
  exact w_iret (dk_at ktL_slotAfterTwoCuts_0 14 rfl) ⟨_, rfl, Or.inl ⟨rfl, v, J1, hq, rfl⟩⟩
set_option maxHeartbeats 1000000 in
theorem s_L_firstUnsafePair {n : Nat} {sh : mS} {G : mG} {I : mI} {J : mJ} {bx o : Nat} {code : Int32} {PX : Int32 → mI → mJ → Prop} (p0 : Int32) (hs : Sp yX6_firstUnsafePair cX6_firstUnsafePair 5 (some FieldType.int) 12 576 1 6 [.ref bx, .int p0] n sh G I J (Qi PX) (eX code I J)) (hx : bx < n) (hsx : sh bx = .inl (9, 6)) (ho : o < n) (hso : sh o = .inr (3, 1)) (hc2 : ¬ code = 2) : Sw yL_firstUnsafePair cL_firstUnsafePair 4 [(0, 9, 12, 13)] 13 624 1 6 [.ref bx, .int p0, .ref o] n sh G I J (WQ code PX lI o I J) := by
  refine Sw.of (by decide) (ls := [(0, .ref bx), (1, .int p0), (2, .ref o)]) (fun _ => rfl) (fun _ => Nat.le_of_ble_eq_true rfl) ?_
  refine gc_p (p_aload_n 2 (dk_at ktL_firstUnsafePair_0 0 rfl) rfl rfl (b := 1) rfl) ?_
  refine gc_p (p_iconst (v := nI 0) (dk_at ktL_firstUnsafePair_0 1 rfl) (by decide) (b := 2) rfl) ?_
  refine gc_p (p_aload_n 0 (dk_at ktL_firstUnsafePair_0 2 rfl) rfl rfl (b := 3) rfl) ?_
  refine gc_p (p_iload_n 1 (dk_at ktL_firstUnsafePair_0 3 rfl) rfl rfl (b := 4) rfl) ?_
  refine w_callV (tl := []) (e1 := 9) (h1 := 12) (h2 := 0) (i := 3) (nx1 := 13) (nx2 := 0) (As' := [.int p0]) (rest := [.int (nI 0), .ref o]) hs cw_L_104 qi_X6_firstUnsafePair qv_X6_firstUnsafePair rfl hx hsx (dk_at ktL_firstUnsafePair_0 4 rfl) rfl rfl (Nat.le_of_ble_eq_true rfl) ⟨by decide, by decide, by decide, by decide⟩ (b := 7) rfl rfl (by decide) (by decide) (fun q hq => by simp only [List.mem_cons, List.not_mem_nil, or_false] at hq; rcases hq with rfl | rfl | rfl <;> exact ⟨by simp, fun h => absurd h.2 (fun z => by cases z)⟩) ql2_L_13 ql2_L_40 (fun hc => ⟨Or.inl ⟨3, (dk_at ktL_firstUnsafePair_0 8 rfl), rfl, rfl⟩, (gc_p (p_iconst (v := 1) (dk_at ktL_firstUnsafePair_0 9 rfl) (by decide) (b := 14) rfl) (w_iret (dk_at ktL_firstUnsafePair_0 10 rfl) ⟨_, rfl, Or.inr ⟨hc.symm, by rw [hc]; decide, rfl, rfl⟩⟩))⟩) (fun hc => absurd hc hc2) (fun r I1 J1 hq => ?_)
  obtain ⟨v, rfl, hq⟩ := hq
  refine gc_p (p_i2l (v := lI v) (dk_at ktL_firstUnsafePair_0 5 rfl) rfl (b := 8) rfl) ?_
  refine g_jast (id := o) (len := 1) (j := 0) (v := (lI v)) (st := []) ho hso (dk_at ktL_firstUnsafePair_0 6 rfl) rfl ⟨by decide, by decide⟩ (b := 9) rfl ?_
  refine gc_p (p_goto (b := 15) (dk_at ktL_firstUnsafePair_0 7 rfl) (by decide)) ?_
  refine gc_p (p_iconst (v := 0) (dk_at ktL_firstUnsafePair_0 11 rfl) (by decide) (b := 16) rfl) ?_
  exact w_iret (dk_at ktL_firstUnsafePair_0 12 rfl) ⟨_, rfl, Or.inl ⟨rfl, v, J1, hq, rfl⟩⟩
set_option maxHeartbeats 1000000 in
theorem s_L_toldAfterCut {n : Nat} {sh : mS} {G : mG} {I : mI} {J : mJ} {bx o : Nat} {code : Int32} {PX : Int32 → mI → mJ → Prop} (p0 p1 p2 : Int32) (hs : Sp yX6_toldAfterCut cX6_toldAfterCut 5 (some FieldType.int) 12 576 3 18 [.ref bx, .int p0, .int p1, .int p2] n sh G I J (Qi PX) (eX code I J)) (hx : bx < n) (hsx : sh bx = .inl (9, 6)) (ho : o < n) (hso : sh o = .inr (3, 1)) (hc2 : ¬ code = 2) : Sw yL_toldAfterCut cL_toldAfterCut 6 [(0, 12, 15, 13)] 13 624 3 18 [.ref bx, .int p0, .int p1, .int p2, .ref o] n sh G I J (WQ code PX lI o I J) := by
  refine Sw.of (by decide) (ls := [(0, .ref bx), (1, .int p0), (2, .int p1), (3, .int p2), (4, .ref o)]) (fun _ => rfl) (fun _ => Nat.le_of_ble_eq_true rfl) ?_
  refine gc_p (p_aload 4 (dk_at ktL_toldAfterCut_0 0 rfl) rfl (b := 2) rfl) ?_
  refine gc_p (p_iconst (v := nI 0) (dk_at ktL_toldAfterCut_0 1 rfl) (by decide) (b := 3) rfl) ?_
  refine gc_p (p_aload_n 0 (dk_at ktL_toldAfterCut_0 2 rfl) rfl rfl (b := 4) rfl) ?_
  refine gc_p (p_iload_n 1 (dk_at ktL_toldAfterCut_0 3 rfl) rfl rfl (b := 5) rfl) ?_
  refine gc_p (p_iload_n 2 (dk_at ktL_toldAfterCut_0 4 rfl) rfl rfl (b := 6) rfl) ?_
  refine gc_p (p_iload_n 3 (dk_at ktL_toldAfterCut_0 5 rfl) rfl rfl (b := 7) rfl) ?_
  refine w_callV (tl := []) (e1 := 12) (h1 := 15) (h2 := 0) (i := 5) (nx1 := 17) (nx2 := 0) (As' := [.int p0, .int p1, .int p2]) (rest := [.int (nI 0), .ref o]) hs cw_L_107 qi_X6_toldAfterCut qv_X6_toldAfterCut rfl hx hsx (dk_at ktL_toldAfterCut_0 6 rfl) rfl rfl (Nat.le_of_ble_eq_true rfl) ⟨by decide, by decide, by decide, by decide⟩ (b := 10) rfl rfl (by decide) (by decide) (fun q hq => by simp only [List.mem_cons, List.not_mem_nil, or_false] at hq; rcases hq with rfl | rfl | rfl | rfl | rfl <;> exact ⟨by simp, fun h => absurd h.2 (fun z => by cases z)⟩) ql2_L_13 ql2_L_40 (fun hc => ⟨Or.inr ⟨(dk_at ktL_toldAfterCut_0 10 rfl), rfl⟩, (gc_p (p_iconst (v := 1) (dk_at ktL_toldAfterCut_0 11 rfl) (by decide) (b := 18) rfl) (w_iret (dk_at ktL_toldAfterCut_0 12 rfl) ⟨_, rfl, Or.inr ⟨hc.symm, by rw [hc]; decide, rfl, rfl⟩⟩))⟩) (fun hc => absurd hc hc2) (fun r I1 J1 hq => ?_)
  obtain ⟨v, rfl, hq⟩ := hq
  refine gc_p (p_i2l (v := lI v) (dk_at ktL_toldAfterCut_0 7 rfl) rfl (b := 11) rfl) ?_
  refine g_jast (id := o) (len := 1) (j := 0) (v := (lI v)) (st := []) ho hso (dk_at ktL_toldAfterCut_0 8 rfl) rfl ⟨by decide, by decide⟩ (b := 12) rfl ?_
  refine gc_p (p_goto (b := 19) (dk_at ktL_toldAfterCut_0 9 rfl) (by decide)) ?_
  refine gc_p (p_iconst (v := 0) (dk_at ktL_toldAfterCut_0 13 rfl) (by decide) (b := 20) rfl) ?_
  exact w_iret (dk_at ktL_toldAfterCut_0 14 rfl) ⟨_, rfl, Or.inl ⟨rfl, v, J1, hq, rfl⟩⟩
set_option maxHeartbeats 1000000 in
theorem s_L_logEntry {n : Nat} {sh : mS} {G : mG} {I : mI} {J : mJ} {bx o : Nat} {code : Int32} {PX : Int32 → mI → mJ → Prop} (p0 p1 : Int32) (hs : Sp yX6_logEntry cX6_logEntry 3 (some FieldType.int) 8 384 1 6 [.ref bx, .int p0, .int p1] n sh G I J (Qi PX) (eX code I J)) (hx : bx < n) (hsx : sh bx = .inl (9, 6)) (ho : o < n) (hso : sh o = .inr (3, 1)) (hc2 : ¬ code = 2) : Sw yL_logEntry cL_logEntry 5 [(0, 10, 13, 13)] 9 432 1 6 [.ref bx, .int p0, .int p1, .ref o] n sh G I J (WQ code PX lI o I J) := by
  refine Sw.of (by decide) (ls := [(0, .ref bx), (1, .int p0), (2, .int p1), (3, .ref o)]) (fun _ => rfl) (fun _ => Nat.le_of_ble_eq_true rfl) ?_
  refine gc_p (p_aload_n 3 (dk_at ktL_logEntry_0 0 rfl) rfl rfl (b := 1) rfl) ?_
  refine gc_p (p_iconst (v := nI 0) (dk_at ktL_logEntry_0 1 rfl) (by decide) (b := 2) rfl) ?_
  refine gc_p (p_aload_n 0 (dk_at ktL_logEntry_0 2 rfl) rfl rfl (b := 3) rfl) ?_
  refine gc_p (p_iload_n 1 (dk_at ktL_logEntry_0 3 rfl) rfl rfl (b := 4) rfl) ?_
  refine gc_p (p_iload_n 2 (dk_at ktL_logEntry_0 4 rfl) rfl rfl (b := 5) rfl) ?_
  refine w_callV (tl := []) (e1 := 10) (h1 := 13) (h2 := 0) (i := 4) (nx1 := 15) (nx2 := 0) (As' := [.int p0, .int p1]) (rest := [.int (nI 0), .ref o]) hs cw_L_110 qi_X6_logEntry qv_X6_logEntry rfl hx hsx (dk_at ktL_logEntry_0 5 rfl) rfl rfl (Nat.le_of_ble_eq_true rfl) ⟨by decide, by decide, by decide, by decide⟩ (b := 8) rfl rfl (by decide) (by decide) (fun q hq => by simp only [List.mem_cons, List.not_mem_nil, or_false] at hq; rcases hq with rfl | rfl | rfl | rfl <;> exact ⟨by simp, fun h => absurd h.2 (fun z => by cases z)⟩) ql2_L_13 ql2_L_40 (fun hc => ⟨Or.inr ⟨(dk_at ktL_logEntry_0 9 rfl), rfl⟩, (gc_p (p_iconst (v := 1) (dk_at ktL_logEntry_0 10 rfl) (by decide) (b := 16) rfl) (w_iret (dk_at ktL_logEntry_0 11 rfl) ⟨_, rfl, Or.inr ⟨hc.symm, by rw [hc]; decide, rfl, rfl⟩⟩))⟩) (fun hc => absurd hc hc2) (fun r I1 J1 hq => ?_)
  obtain ⟨v, rfl, hq⟩ := hq
  refine gc_p (p_i2l (v := lI v) (dk_at ktL_logEntry_0 6 rfl) rfl (b := 9) rfl) ?_
  refine g_jast (id := o) (len := 1) (j := 0) (v := (lI v)) (st := []) ho hso (dk_at ktL_logEntry_0 7 rfl) rfl ⟨by decide, by decide⟩ (b := 10) rfl ?_
  refine gc_p (p_goto (b := 17) (dk_at ktL_logEntry_0 8 rfl) (by decide)) ?_
  refine gc_p (p_iconst (v := 0) (dk_at ktL_logEntry_0 12 rfl) (by decide) (b := 18) rfl) ?_
  exact w_iret (dk_at ktL_logEntry_0 13 rfl) ⟨_, rfl, Or.inl ⟨rfl, v, J1, hq, rfl⟩⟩
set_option maxHeartbeats 1000000 in
theorem s_L_eventCount {n : Nat} {sh : mS} {G : mG} {I : mI} {J : mJ} {bx o : Nat} {code : Int32} {PX : Int32 → mI → mJ → Prop} (p0 : Int32) (hs : Sp yX6_eventCount cX6_eventCount 2 (some FieldType.int) 8 384 1 6 [.ref bx, .int p0] n sh G I J (Qi PX) (eX code I J)) (hx : bx < n) (hsx : sh bx = .inl (9, 6)) (ho : o < n) (hso : sh o = .inr (3, 1)) (hc2 : ¬ code = 2) : Sw yL_eventCount cL_eventCount 4 [(0, 9, 12, 13)] 9 432 1 6 [.ref bx, .int p0, .ref o] n sh G I J (WQ code PX lI o I J) := by
  refine Sw.of (by decide) (ls := [(0, .ref bx), (1, .int p0), (2, .ref o)]) (fun _ => rfl) (fun _ => Nat.le_of_ble_eq_true rfl) ?_
  refine gc_p (p_aload_n 2 (dk_at ktL_eventCount_0 0 rfl) rfl rfl (b := 1) rfl) ?_
  refine gc_p (p_iconst (v := nI 0) (dk_at ktL_eventCount_0 1 rfl) (by decide) (b := 2) rfl) ?_
  refine gc_p (p_aload_n 0 (dk_at ktL_eventCount_0 2 rfl) rfl rfl (b := 3) rfl) ?_
  refine gc_p (p_iload_n 1 (dk_at ktL_eventCount_0 3 rfl) rfl rfl (b := 4) rfl) ?_
  refine w_callV (tl := []) (e1 := 9) (h1 := 12) (h2 := 0) (i := 3) (nx1 := 13) (nx2 := 0) (As' := [.int p0]) (rest := [.int (nI 0), .ref o]) hs cw_L_113 qi_X6_eventCount qv_X6_eventCount rfl hx hsx (dk_at ktL_eventCount_0 4 rfl) rfl rfl (Nat.le_of_ble_eq_true rfl) ⟨by decide, by decide, by decide, by decide⟩ (b := 7) rfl rfl (by decide) (by decide) (fun q hq => by simp only [List.mem_cons, List.not_mem_nil, or_false] at hq; rcases hq with rfl | rfl | rfl <;> exact ⟨by simp, fun h => absurd h.2 (fun z => by cases z)⟩) ql2_L_13 ql2_L_40 (fun hc => ⟨Or.inl ⟨3, (dk_at ktL_eventCount_0 8 rfl), rfl, rfl⟩, (gc_p (p_iconst (v := 1) (dk_at ktL_eventCount_0 9 rfl) (by decide) (b := 14) rfl) (w_iret (dk_at ktL_eventCount_0 10 rfl) ⟨_, rfl, Or.inr ⟨hc.symm, by rw [hc]; decide, rfl, rfl⟩⟩))⟩) (fun hc => absurd hc hc2) (fun r I1 J1 hq => ?_)
  obtain ⟨v, rfl, hq⟩ := hq
  refine gc_p (p_i2l (v := lI v) (dk_at ktL_eventCount_0 5 rfl) rfl (b := 8) rfl) ?_
  refine g_jast (id := o) (len := 1) (j := 0) (v := (lI v)) (st := []) ho hso (dk_at ktL_eventCount_0 6 rfl) rfl ⟨by decide, by decide⟩ (b := 9) rfl ?_
  refine gc_p (p_goto (b := 15) (dk_at ktL_eventCount_0 7 rfl) (by decide)) ?_
  refine gc_p (p_iconst (v := 0) (dk_at ktL_eventCount_0 11 rfl) (by decide) (b := 16) rfl) ?_
  exact w_iret (dk_at ktL_eventCount_0 12 rfl) ⟨_, rfl, Or.inl ⟨rfl, v, J1, hq, rfl⟩⟩
set_option maxHeartbeats 1000000 in
theorem s_L_saveSnapshot {n : Nat} {sh : mS} {G : mG} {I : mI} {J : mJ} {bx o : Nat} {code : Int32} {PX : Int32 → mI → mJ → Prop} (p0 : Int32) (hs : Sp yX6_saveSnapshot cX6_saveSnapshot 2 (some FieldType.int) 8 384 1 6 [.ref bx, .int p0] n sh G I J (Qi PX) (eX code I J)) (hx : bx < n) (hsx : sh bx = .inl (9, 6)) (ho : o < n) (hso : sh o = .inr (3, 1)) (hc2 : ¬ code = 2) : Sw yL_saveSnapshot cL_saveSnapshot 4 [(0, 9, 12, 13)] 9 432 1 6 [.ref bx, .int p0, .ref o] n sh G I J (WQ code PX lI o I J) := by
  refine Sw.of (by decide) (ls := [(0, .ref bx), (1, .int p0), (2, .ref o)]) (fun _ => rfl) (fun _ => Nat.le_of_ble_eq_true rfl) ?_
  refine gc_p (p_aload_n 2 (dk_at ktL_saveSnapshot_0 0 rfl) rfl rfl (b := 1) rfl) ?_
  refine gc_p (p_iconst (v := nI 0) (dk_at ktL_saveSnapshot_0 1 rfl) (by decide) (b := 2) rfl) ?_
  refine gc_p (p_aload_n 0 (dk_at ktL_saveSnapshot_0 2 rfl) rfl rfl (b := 3) rfl) ?_
  refine gc_p (p_iload_n 1 (dk_at ktL_saveSnapshot_0 3 rfl) rfl rfl (b := 4) rfl) ?_
  refine w_callV (tl := []) (e1 := 9) (h1 := 12) (h2 := 0) (i := 3) (nx1 := 13) (nx2 := 0) (As' := [.int p0]) (rest := [.int (nI 0), .ref o]) hs cw_L_116 qi_X6_saveSnapshot qv_X6_saveSnapshot rfl hx hsx (dk_at ktL_saveSnapshot_0 4 rfl) rfl rfl (Nat.le_of_ble_eq_true rfl) ⟨by decide, by decide, by decide, by decide⟩ (b := 7) rfl rfl (by decide) (by decide) (fun q hq => by simp only [List.mem_cons, List.not_mem_nil, or_false] at hq; rcases hq with rfl | rfl | rfl <;> exact ⟨by simp, fun h => absurd h.2 (fun z => by cases z)⟩) ql2_L_13 ql2_L_40 (fun hc => ⟨Or.inl ⟨3, (dk_at ktL_saveSnapshot_0 8 rfl), rfl, rfl⟩, (gc_p (p_iconst (v := 1) (dk_at ktL_saveSnapshot_0 9 rfl) (by decide) (b := 14) rfl) (w_iret (dk_at ktL_saveSnapshot_0 10 rfl) ⟨_, rfl, Or.inr ⟨hc.symm, by rw [hc]; decide, rfl, rfl⟩⟩))⟩) (fun hc => absurd hc hc2) (fun r I1 J1 hq => ?_)
  obtain ⟨v, rfl, hq⟩ := hq
  refine gc_p (p_i2l (v := lI v) (dk_at ktL_saveSnapshot_0 5 rfl) rfl (b := 8) rfl) ?_
  refine g_jast (id := o) (len := 1) (j := 0) (v := (lI v)) (st := []) ho hso (dk_at ktL_saveSnapshot_0 6 rfl) rfl ⟨by decide, by decide⟩ (b := 9) rfl ?_
  refine gc_p (p_goto (b := 15) (dk_at ktL_saveSnapshot_0 7 rfl) (by decide)) ?_
  refine gc_p (p_iconst (v := 0) (dk_at ktL_saveSnapshot_0 11 rfl) (by decide) (b := 16) rfl) ?_
  exact w_iret (dk_at ktL_saveSnapshot_0 12 rfl) ⟨_, rfl, Or.inl ⟨rfl, v, J1, hq, rfl⟩⟩
set_option maxHeartbeats 1000000 in
theorem s_L_restoreSnapshot {n : Nat} {sh : mS} {G : mG} {I : mI} {J : mJ} {bx o : Nat} {code : Int32} {PX : Int32 → mI → mJ → Prop} (p0 : Int32) (hs : Sp yX6_restoreSnapshot cX6_restoreSnapshot 2 (some FieldType.int) 8 384 1 6 [.ref bx, .int p0] n sh G I J (Qi PX) (eX code I J)) (hx : bx < n) (hsx : sh bx = .inl (9, 6)) (ho : o < n) (hso : sh o = .inr (3, 1)) (hc2 : ¬ code = 2) : Sw yL_restoreSnapshot cL_restoreSnapshot 4 [(0, 9, 12, 13)] 9 432 1 6 [.ref bx, .int p0, .ref o] n sh G I J (WQ code PX lI o I J) := by
  refine Sw.of (by decide) (ls := [(0, .ref bx), (1, .int p0), (2, .ref o)]) (fun _ => rfl) (fun _ => Nat.le_of_ble_eq_true rfl) ?_
  refine gc_p (p_aload_n 2 (dk_at ktL_restoreSnapshot_0 0 rfl) rfl rfl (b := 1) rfl) ?_
  refine gc_p (p_iconst (v := nI 0) (dk_at ktL_restoreSnapshot_0 1 rfl) (by decide) (b := 2) rfl) ?_
  refine gc_p (p_aload_n 0 (dk_at ktL_restoreSnapshot_0 2 rfl) rfl rfl (b := 3) rfl) ?_
  refine gc_p (p_iload_n 1 (dk_at ktL_restoreSnapshot_0 3 rfl) rfl rfl (b := 4) rfl) ?_
  refine w_callV (tl := []) (e1 := 9) (h1 := 12) (h2 := 0) (i := 3) (nx1 := 13) (nx2 := 0) (As' := [.int p0]) (rest := [.int (nI 0), .ref o]) hs cw_L_119 qi_X6_restoreSnapshot qv_X6_restoreSnapshot rfl hx hsx (dk_at ktL_restoreSnapshot_0 4 rfl) rfl rfl (Nat.le_of_ble_eq_true rfl) ⟨by decide, by decide, by decide, by decide⟩ (b := 7) rfl rfl (by decide) (by decide) (fun q hq => by simp only [List.mem_cons, List.not_mem_nil, or_false] at hq; rcases hq with rfl | rfl | rfl <;> exact ⟨by simp, fun h => absurd h.2 (fun z => by cases z)⟩) ql2_L_13 ql2_L_40 (fun hc => ⟨Or.inl ⟨3, (dk_at ktL_restoreSnapshot_0 8 rfl), rfl, rfl⟩, (gc_p (p_iconst (v := 1) (dk_at ktL_restoreSnapshot_0 9 rfl) (by decide) (b := 14) rfl) (w_iret (dk_at ktL_restoreSnapshot_0 10 rfl) ⟨_, rfl, Or.inr ⟨hc.symm, by rw [hc]; decide, rfl, rfl⟩⟩))⟩) (fun hc => absurd hc hc2) (fun r I1 J1 hq => ?_)
  obtain ⟨v, rfl, hq⟩ := hq
  refine gc_p (p_i2l (v := lI v) (dk_at ktL_restoreSnapshot_0 5 rfl) rfl (b := 8) rfl) ?_
  refine g_jast (id := o) (len := 1) (j := 0) (v := (lI v)) (st := []) ho hso (dk_at ktL_restoreSnapshot_0 6 rfl) rfl ⟨by decide, by decide⟩ (b := 9) rfl ?_
  refine gc_p (p_goto (b := 15) (dk_at ktL_restoreSnapshot_0 7 rfl) (by decide)) ?_
  refine gc_p (p_iconst (v := 0) (dk_at ktL_restoreSnapshot_0 11 rfl) (by decide) (b := 16) rfl) ?_
  exact w_iret (dk_at ktL_restoreSnapshot_0 12 rfl) ⟨_, rfl, Or.inl ⟨rfl, v, J1, hq, rfl⟩⟩
theorem cwW_L_142 : cwW RL 142 yL_stage cL_stage 4 [(0, 9, 12, 13)] 3 := ⟨TT_of (tb5 (List.mem_of_getElem? (i := 105) rfl)) rfl, qm_L_142, qn_TwinBootLaw, qs_L_stage, by decide +kernel, by decide +kernel⟩
theorem cwW_L_159 : cwW RL 159 yL_setting cL_setting 4 [(0, 9, 12, 13)] 3 := ⟨TT_of (tb5 (List.mem_of_getElem? (i := 121) rfl)) rfl, qm_L_159, qn_TwinBootLaw, qs_L_setting, by decide +kernel, by decide +kernel⟩
theorem cwW_L_162 : cwW RL 162 yL_setPower cL_setPower 4 [(0, 9, 12, 13)] 3 := ⟨TT_of (tb5 (List.mem_of_getElem? (i := 128) rfl)) rfl, qm_L_162, qn_TwinBootLaw, qs_L_setPower, by decide +kernel, by decide +kernel⟩
theorem cwW_L_186 : cwW RL 186 yL_update cL_update 4 [(0, 9, 12, 13)] 3 := ⟨TT_of (tb5 (List.mem_of_getElem? (i := 136) rfl)) rfl, qm_L_186, qn_TwinBootLaw, qs_L_update, by decide +kernel, by decide +kernel⟩
theorem cwW_L_189 : cwW RL 189 yL_thriftyUpdate cL_thriftyUpdate 4 [(0, 9, 12, 13)] 3 := ⟨TT_of (tb5 (List.mem_of_getElem? (i := 150) rfl)) rfl, qm_L_189, qn_TwinBootLaw, qs_L_thriftyUpdate, by decide +kernel, by decide +kernel⟩
theorem cwW_L_204 : cwW RL 204 yL_recover cL_recover 5 [(0, 10, 13, 13)] 4 := ⟨TT_of (tb5 (List.mem_of_getElem? (i := 157) rfl)) rfl, qm_L_204, qn_TwinBootLaw, qs_L_recover, by decide +kernel, by decide +kernel⟩
theorem cwW_L_208 : cwW RL 208 yL_word cL_word 5 [(0, 10, 13, 13)] 4 := ⟨TT_of (tb5 (List.mem_of_getElem? (i := 171) rfl)) rfl, qm_L_208, qn_TwinBootLaw, qs_L_word, by decide +kernel, by decide +kernel⟩
theorem cwW_L_211 : cwW RL 211 yL_journalWord cL_journalWord 5 [(0, 10, 13, 13)] 4 := ⟨TT_of (tb5 (List.mem_of_getElem? (i := 178) rfl)) rfl, qm_L_211, qn_TwinBootLaw, qs_L_journalWord, by decide +kernel, by decide +kernel⟩
theorem cwW_L_214 : cwW RL 214 yL_wear cL_wear 5 [(0, 10, 13, 13), (0, 10, 17, 40)] 4 := ⟨TT_of (tb5 (List.mem_of_getElem? (i := 185) rfl)) rfl, qm_L_214, qn_TwinBootLaw, qs_L_wear, by decide +kernel, by decide +kernel⟩
theorem cwW_L_221 : cwW RL 221 yL_wornOut cL_wornOut 4 [(0, 9, 12, 13)] 3 := ⟨TT_of (tb5 (List.mem_of_getElem? (i := 209) rfl)) rfl, qm_L_221, qn_TwinBootLaw, qs_L_wornOut, by decide +kernel, by decide +kernel⟩
theorem cwW_L_228 : cwW RL 228 yL_isWhole cL_isWhole 4 [(0, 16, 19, 13)] 3 := ⟨TT_of (tb5 (List.mem_of_getElem? (i := 216) rfl)) rfl, qm_L_228, qn_TwinBootLaw, qs_L_isWhole, by decide +kernel, by decide +kernel⟩
theorem cwW_L_231 : cwW RL 231 yL_isBootable cL_isBootable 4 [(0, 16, 19, 13)] 3 := ⟨TT_of (tb5 (List.mem_of_getElem? (i := 223) rfl)) rfl, qm_L_231, qn_TwinBootLaw, qs_L_isBootable, by decide +kernel, by decide +kernel⟩
theorem cwW_L_234 : cwW RL 234 yL_checksum cL_checksum 4 [(0, 9, 12, 13)] 3 := ⟨TT_of (tb5 (List.mem_of_getElem? (i := 231) rfl)) rfl, qm_L_234, qn_TwinBootLaw, qs_L_checksum, by decide +kernel, by decide +kernel⟩
theorem cwW_L_237 : cwW RL 237 yL_verify cL_verify 4 [(0, 9, 12, 13)] 3 := ⟨TT_of (tb5 (List.mem_of_getElem? (i := 239) rfl)) rfl, qm_L_237, qn_TwinBootLaw, qs_L_verify, by decide +kernel, by decide +kernel⟩
theorem cwW_L_240 : cwW RL 240 yL_differentWords cL_differentWords 4 [(0, 9, 12, 13)] 3 := ⟨TT_of (tb6 (List.mem_of_getElem? (i := 6) rfl)) rfl, qm_L_240, qn_TwinBootLaw, qs_L_differentWords, by decide +kernel, by decide +kernel⟩
theorem cwW_L_247 : cwW RL 247 yL_zeroBits cL_zeroBits 4 [(0, 9, 12, 13)] 3 := ⟨TT_of (tb6 (List.mem_of_getElem? (i := 16) rfl)) rfl, qm_L_247, qn_TwinBootLaw, qs_L_zeroBits, by decide +kernel, by decide +kernel⟩
theorem cwW_L_250 : cwW RL 250 yL_damage cL_damage 6 [(0, 12, 15, 13), (0, 12, 19, 40)] 5 := ⟨TT_of (tb6 (List.mem_of_getElem? (i := 29) rfl)) rfl, qm_L_250, qn_TwinBootLaw, qs_L_damage, by decide +kernel, by decide +kernel⟩
theorem cwW_L_254 : cwW RL 254 yL_damageJournal cL_damageJournal 6 [(0, 12, 15, 13), (0, 12, 19, 40)] 5 := ⟨TT_of (tb6 (List.mem_of_getElem? (i := 41) rfl)) rfl, qm_L_254, qn_TwinBootLaw, qs_L_damageJournal, by decide +kernel, by decide +kernel⟩
theorem cwW_L_273 : cwW RL 273 yL_record cL_record 5 [(0, 10, 13, 13)] 4 := ⟨TT_of (tb6 (List.mem_of_getElem? (i := 48) rfl)) rfl, qm_L_273, qn_TwinBootLaw, qs_L_record, by decide +kernel, by decide +kernel⟩
theorem cwW_L_280 : cwW RL 280 yL_told cL_told 4 [(0, 9, 12, 13)] 3 := ⟨TT_of (tb6 (List.mem_of_getElem? (i := 61) rfl)) rfl, qm_L_280, qn_TwinBootLaw, qs_L_told, by decide +kernel, by decide +kernel⟩
theorem cwW_L_291 : cwW RL 291 yL_updateOperations cL_updateOperations 4 [(0, 9, 12, 13)] 3 := ⟨TT_of (tb6 (List.mem_of_getElem? (i := 72) rfl)) rfl, qm_L_291, qn_TwinBootLaw, qs_L_updateOperations, by decide +kernel, by decide +kernel⟩
theorem cwW_L_294 : cwW RL 294 yL_slotAfterCut cL_slotAfterCut 5 [(0, 10, 13, 13)] 4 := ⟨TT_of (tb6 (List.mem_of_getElem? (i := 79) rfl)) rfl, qm_L_294, qn_TwinBootLaw, qs_L_slotAfterCut, by decide +kernel, by decide +kernel⟩
theorem cwW_L_297 : cwW RL 297 yL_firstUnsafeCut cL_firstUnsafeCut 4 [(0, 9, 12, 13)] 3 := ⟨TT_of (tb6 (List.mem_of_getElem? (i := 93) rfl)) rfl, qm_L_297, qn_TwinBootLaw, qs_L_firstUnsafeCut, by decide +kernel, by decide +kernel⟩
theorem cwW_L_300 : cwW RL 300 yL_cutsToNew cL_cutsToNew 4 [(0, 9, 12, 13)] 3 := ⟨TT_of (tb6 (List.mem_of_getElem? (i := 104) rfl)) rfl, qm_L_300, qn_TwinBootLaw, qs_L_cutsToNew, by decide +kernel, by decide +kernel⟩
theorem cwW_L_303 : cwW RL 303 yL_longestOldRun cL_longestOldRun 4 [(0, 9, 12, 13)] 3 := ⟨TT_of (tb6 (List.mem_of_getElem? (i := 111) rfl)) rfl, qm_L_303, qn_TwinBootLaw, qs_L_longestOldRun, by decide +kernel, by decide +kernel⟩
theorem cwW_L_306 : cwW RL 306 yL_updatesLeft cL_updatesLeft 4 [(0, 9, 12, 13)] 3 := ⟨TT_of (tb6 (List.mem_of_getElem? (i := 119) rfl)) rfl, qm_L_306, qn_TwinBootLaw, qs_L_updatesLeft, by decide +kernel, by decide +kernel⟩
theorem cwW_L_309 : cwW RL 309 yL_thriftyOperations cL_thriftyOperations 4 [(0, 9, 12, 13)] 3 := ⟨TT_of (tb6 (List.mem_of_getElem? (i := 126) rfl)) rfl, qm_L_309, qn_TwinBootLaw, qs_L_thriftyOperations, by decide +kernel, by decide +kernel⟩
theorem cwW_L_316 : cwW RL 316 yL_firstUnsafeThriftyCut cL_firstUnsafeThriftyCut 4 [(0, 9, 12, 13)] 3 := ⟨TT_of (tb6 (List.mem_of_getElem? (i := 133) rfl)) rfl, qm_L_316, qn_TwinBootLaw, qs_L_firstUnsafeThriftyCut, by decide +kernel, by decide +kernel⟩
theorem cwW_L_319 : cwW RL 319 yL_slotAfterTwoCuts cL_slotAfterTwoCuts 6 [(0, 12, 15, 13)] 5 := ⟨TT_of (tb6 (List.mem_of_getElem? (i := 140) rfl)) rfl, qm_L_319, qn_TwinBootLaw, qs_L_slotAfterTwoCuts, by decide +kernel, by decide +kernel⟩
theorem cwW_L_322 : cwW RL 322 yL_firstUnsafePair cL_firstUnsafePair 4 [(0, 9, 12, 13)] 3 := ⟨TT_of (tb6 (List.mem_of_getElem? (i := 151) rfl)) rfl, qm_L_322, qn_TwinBootLaw, qs_L_firstUnsafePair, by decide +kernel, by decide +kernel⟩
theorem cwW_L_325 : cwW RL 325 yL_toldAfterCut cL_toldAfterCut 6 [(0, 12, 15, 13)] 5 := ⟨TT_of (tb6 (List.mem_of_getElem? (i := 158) rfl)) rfl, qm_L_325, qn_TwinBootLaw, qs_L_toldAfterCut, by decide +kernel, by decide +kernel⟩
theorem cwW_L_344 : cwW RL 344 yL_logEntry cL_logEntry 5 [(0, 10, 13, 13)] 4 := ⟨TT_of (tb6 (List.mem_of_getElem? (i := 165) rfl)) rfl, qm_L_344, qn_TwinBootLaw, qs_L_logEntry, by decide +kernel, by decide +kernel⟩
theorem cwW_L_347 : cwW RL 347 yL_eventCount cL_eventCount 4 [(0, 9, 12, 13)] 3 := ⟨TT_of (tb6 (List.mem_of_getElem? (i := 177) rfl)) rfl, qm_L_347, qn_TwinBootLaw, qs_L_eventCount, by decide +kernel, by decide +kernel⟩
theorem cwW_L_350 : cwW RL 350 yL_saveSnapshot cL_saveSnapshot 4 [(0, 9, 12, 13)] 3 := ⟨TT_of (tb6 (List.mem_of_getElem? (i := 184) rfl)) rfl, qm_L_350, qn_TwinBootLaw, qs_L_saveSnapshot, by decide +kernel, by decide +kernel⟩
theorem cwW_L_353 : cwW RL 353 yL_restoreSnapshot cL_restoreSnapshot 4 [(0, 9, 12, 13)] 3 := ⟨TT_of (tb6 (List.mem_of_getElem? (i := 191) rfl)) rfl, qm_L_353, qn_TwinBootLaw, qs_L_restoreSnapshot, by decide +kernel, by decide +kernel⟩

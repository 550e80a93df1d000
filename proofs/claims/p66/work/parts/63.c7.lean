/-! THE CLASS: checks of arguments, copies of devices -/
set_option maxRecDepth 4000 in
set_option maxHeartbeats 4000000 in
theorem s_X6_requireRange {n : Nat} {sh : mS} {G : mG} {I : mI} {J : mJ} (x a b : Int32) : Sp yX6_requireRange cX6_requireRange 3 none 6 288 1 6 [.int x, .int a, .int b] n sh G I J (Qv (fun I_ J_ => inI x a b = true ∧ I = I_ ∧ J = J_)) (xR (inI x a b) bIA I J) := by
  refine Sp.of (by decide) (ls := [(0, .int x), (1, .int a), (2, .int b)]) (fun _ => rfl) (fun _ => Nat.le_of_ble_eq_true rfl) ?_
  refine rc_p (p_iload_n 0 (dk_at ktX6_requireRange_0 0 rfl) rfl rfl (b := 1) rfl) ?_
  refine rc_p (p_iload_n 1 (dk_at ktX6_requireRange_0 1 rfl) rfl rfl (b := 2) rfl) ?_
  refine r_icmp_lt (dk_at ktX6_requireRange_0 2 rfl) (b := 10) (by decide) (b2 := 5) rfl (fun c2 => ?_) (fun c2 => ?_)
  · skip
    exact r_throwW (ik := 264) (is := 266) (ic := 268) (i := 6) (cls := bIA) (text := "a number is out of range") bS6 q_cIA qn_java_lang_IllegalArgumentException atIA (by decide) (dk_at ktX6_requireRange_0 6 rfl) (dk_at ktX6_requireRange_0 7 rfl) (dk_at ktX6_requireRange_0 8 rfl) (dk_at ktX6_requireRange_0 9 rfl) (dk_at ktX6_requireRange_0 10 rfl) (by decide) ⟨rfl, (by unfold inI; rw [decide_eq_false (Int32.not_le.mpr c2), Bool.false_and]), rfl, rfl⟩
  · skip
    refine rc_p (p_iload_n 0 (dk_at ktX6_requireRange_0 3 rfl) rfl rfl (b := 6) rfl) ?_
    refine rc_p (p_iload_n 2 (dk_at ktX6_requireRange_0 4 rfl) rfl rfl (b := 7) rfl) ?_
    refine r_icmp_le (dk_at ktX6_requireRange_0 5 rfl) (b := 21) (by decide) (b2 := 10) rfl (fun c7 => ?_) (fun c7 => ?_)
    · skip
      refine r_vret (dk_at ktX6_requireRange_0 11 rfl) rfl ⟨rfl, ?_⟩
      exact ⟨by unfold inI; rw [decide_eq_true (Int32.not_lt.mp c2), decide_eq_true c7]; rfl, rfl, rfl⟩
    · skip
      exact r_throwW (ik := 264) (is := 266) (ic := 268) (i := 6) (cls := bIA) (text := "a number is out of range") bS6 q_cIA qn_java_lang_IllegalArgumentException atIA (by decide) (dk_at ktX6_requireRange_0 6 rfl) (dk_at ktX6_requireRange_0 7 rfl) (dk_at ktX6_requireRange_0 8 rfl) (dk_at ktX6_requireRange_0 9 rfl) (dk_at ktX6_requireRange_0 10 rfl) (by decide) ⟨rfl, (by unfold inI; rw [decide_eq_false c7, Bool.and_false]), rfl, rfl⟩
set_option maxRecDepth 4000 in
set_option maxHeartbeats 4000000 in
theorem s_X6_requireIndex {n : Nat} {sh : mS} {G : mG} {I : mI} {J : mJ} (i : Int32) (q : Nat) : Sp yX6_requireIndex cX6_requireIndex 2 none 6 288 1 6 [.int i, .int (nI q)] n sh G I J (Qv (fun I_ J_ => inb i q = true ∧ I = I_ ∧ J = J_)) (xR (inb i q) bIB I J) := by
  refine Sp.of (by decide) (ls := [(0, .int i), (1, .int (nI q))]) (fun _ => rfl) (fun _ => Nat.le_of_ble_eq_true rfl) ?_
  refine rc_p (p_iload_n 0 (dk_at ktX6_requireIndex_0 0 rfl) rfl rfl (b := 1) rfl) ?_
  refine r_if_lt (dk_at ktX6_requireIndex_0 1 rfl) (b := 9) (by decide) (b2 := 4) rfl (fun c1 => ?_) (fun c1 => ?_)
  · skip
    exact r_throwW (ik := 271) (is := 273) (ic := 275) (i := 7) (cls := bIB) (text := "there is no such place") bS7 q_cIB qn_java_lang_IndexOutOfBoundsException atIB (by decide) (dk_at ktX6_requireIndex_0 5 rfl) (dk_at ktX6_requireIndex_0 6 rfl) (dk_at ktX6_requireIndex_0 7 rfl) (dk_at ktX6_requireIndex_0 8 rfl) (dk_at ktX6_requireIndex_0 9 rfl) (by decide) ⟨rfl, (by unfold inb; rw [decide_eq_false (Int32.not_le.mpr c1), Bool.false_and]), rfl, rfl⟩
  · skip
    refine rc_p (p_iload_n 0 (dk_at ktX6_requireIndex_0 2 rfl) rfl rfl (b := 5) rfl) ?_
    refine rc_p (p_iload_n 1 (dk_at ktX6_requireIndex_0 3 rfl) rfl rfl (b := 6) rfl) ?_
    refine r_icmp_lt (dk_at ktX6_requireIndex_0 4 rfl) (b := 20) (by decide) (b2 := 9) rfl (fun c6 => ?_) (fun c6 => ?_)
    · skip
      refine r_vret (dk_at ktX6_requireIndex_0 10 rfl) rfl ⟨rfl, ?_⟩
      exact ⟨by unfold inb; rw [decide_eq_true (Int32.not_lt.mp c1), decide_eq_true c6]; rfl, rfl, rfl⟩
    · skip
      exact r_throwW (ik := 271) (is := 273) (ic := 275) (i := 7) (cls := bIB) (text := "there is no such place") bS7 q_cIB qn_java_lang_IndexOutOfBoundsException atIB (by decide) (dk_at ktX6_requireIndex_0 5 rfl) (dk_at ktX6_requireIndex_0 6 rfl) (dk_at ktX6_requireIndex_0 7 rfl) (dk_at ktX6_requireIndex_0 8 rfl) (dk_at ktX6_requireIndex_0 9 rfl) (by decide) ⟨rfl, (by unfold inb; rw [decide_eq_false c6, Bool.and_false]), rfl, rfl⟩
set_option maxRecDepth 4000 in
set_option maxHeartbeats 4000000 in
theorem s_X6_requireSlot {n : Nat} {sh : mS} {G : mG} {I : mI} {J : mJ} (s : Int32) : Sp yX6_requireSlot cX6_requireSlot 1 none 7 310 1 6 [.int s] n sh G I J (Qv (fun I_ J_ => inI s 0 1 = true ∧ I = I_ ∧ J = J_)) (xR (inI s 0 1) bIA I J) := by
  refine Sp.of (by decide) (ls := [(0, .int s)]) (fun _ => rfl) (fun _ => Nat.le_of_ble_eq_true rfl) ?_
  refine rc_p (p_iload_n 0 (dk_at ktX6_requireSlot_0 0 rfl) rfl rfl (b := 1) rfl) ?_
  refine rc_p (p_iconst (v := 0) (dk_at ktX6_requireSlot_0 1 rfl) (by decide) (b := 2) rfl) ?_
  refine rc_p (p_iconst (v := 1) (dk_at ktX6_requireSlot_0 2 rfl) (by decide) (b := 3) rfl) ?_
  refine r_vSX (As := [.int s, .int 0, .int 1]) (rest := []) (s_X6_requireRange s 0 1) cw_X6_71 qs_X6_requireRange (dk_at ktX6_requireSlot_0 3 rfl) rfl rfl (Nat.le_of_ble_eq_true rfl) (by decide) (b := 6) rfl (fun _ _ _ h => h) (fun I1 J2 hq3 => ?_)
  obtain ⟨ok4, rfl, rfl⟩ := hq3
  refine r_vret (dk_at ktX6_requireSlot_0 4 rfl) rfl ⟨rfl, ?_⟩
  exact ⟨ok4, rfl, rfl⟩
set_option maxRecDepth 4000 in
set_option maxHeartbeats 4000000 in
theorem s_X6_requireVersion {n : Nat} {sh : mS} {G : mG} {I : mI} {J : mJ} (v : Int32) : Sp yX6_requireVersion cX6_requireVersion 1 none 7 310 1 6 [.int v] n sh G I J (Qv (fun I_ J_ => inI v 1 255 = true ∧ I = I_ ∧ J = J_)) (xR (inI v 1 255) bIA I J) := by
  refine Sp.of (by decide) (ls := [(0, .int v)]) (fun _ => rfl) (fun _ => Nat.le_of_ble_eq_true rfl) ?_
  refine rc_p (p_iload_n 0 (dk_at ktX6_requireVersion_0 0 rfl) rfl rfl (b := 1) rfl) ?_
  refine rc_p (p_iconst (v := 1) (dk_at ktX6_requireVersion_0 1 rfl) (by decide) (b := 2) rfl) ?_
  refine rc_p (p_sipush (v := 255) (dk_at ktX6_requireVersion_0 2 rfl) (by decide) (b := 5) rfl) ?_
  refine r_vSX (As := [.int v, .int 1, .int 255]) (rest := []) (s_X6_requireRange v 1 255) cw_X6_71 qs_X6_requireRange (dk_at ktX6_requireVersion_0 3 rfl) rfl rfl (Nat.le_of_ble_eq_true rfl) (by decide) (b := 8) rfl (fun _ _ _ h => h) (fun I1 J2 hq3 => ?_)
  obtain ⟨ok4, rfl, rfl⟩ := hq3
  refine r_vret (dk_at ktX6_requireVersion_0 4 rfl) rfl ⟨rfl, ?_⟩
  exact ⟨ok4, rfl, rfl⟩
set_option maxRecDepth 4000 in
set_option maxHeartbeats 4000000 in
theorem s_X6_requireCut {n : Nat} {sh : mS} {G : mG} {I : mI} {J : mJ} (c : Int32) : Sp yX6_requireCut cX6_requireCut 1 none 7 310 1 6 [.int c] n sh G I J (Qv (fun I_ J_ => inI c 0 1000 = true ∧ I = I_ ∧ J = J_)) (xR (inI c 0 1000) bIA I J) := by
  refine Sp.of (by decide) (ls := [(0, .int c)]) (fun _ => rfl) (fun _ => Nat.le_of_ble_eq_true rfl) ?_
  refine rc_p (p_iload_n 0 (dk_at ktX6_requireCut_0 0 rfl) rfl rfl (b := 1) rfl) ?_
  refine rc_p (p_iconst (v := 0) (dk_at ktX6_requireCut_0 1 rfl) (by decide) (b := 2) rfl) ?_
  refine rc_p (p_sipush (v := 1000) (dk_at ktX6_requireCut_0 2 rfl) (by decide) (b := 5) rfl) ?_
  refine r_vSX (As := [.int c, .int 0, .int 1000]) (rest := []) (s_X6_requireRange c 0 1000) cw_X6_71 qs_X6_requireRange (dk_at ktX6_requireCut_0 3 rfl) rfl rfl (Nat.le_of_ble_eq_true rfl) (by decide) (b := 8) rfl (fun _ _ _ h => h) (fun I1 J2 hq3 => ?_)
  obtain ⟨ok4, rfl, rfl⟩ := hq3
  refine r_vret (dk_at ktX6_requireCut_0 4 rfl) rfl ⟨rfl, ?_⟩
  exact ⟨ok4, rfl, rfl⟩

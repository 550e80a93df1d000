/-! more of boots behind cuts; updates one after another -/
theorem bac_up {v c x : Int32} {σ : sT} (hI : Inv σ) (hc : (-1 : Int) ≤ c.toInt) (e : a_bac v false c σ = x) (h1 : -1 ≤ x) : errU v σ = 0 ∧ (fUpd v false (upd σ 6 c)).1 = -4 ∧ Inv (fAft v false c (-1) σ).2 := by
  have h0 := bac_0 e (ge_ne h1 (by decide)) (ge_ne h1 (by decide))
  have hu : (fUpd v false (upd σ 6 c)).1 = -4 := by
    rcases aft_c (v := v) (thr := false) hI hc m1_i with q | q
    · exact absurd (h0.2.symm.trans q.1) (ge_ne h1 (by decide))
    · exact q.1
  refine ⟨h0.1, hu, ?_⟩
  rw [(bac_cut hI hc hu).2]
  exact (Inv.pm (Inv.upda (Inv.p6 hI hc))).boot
theorem aft_y2 {v c b : Int32} {σ : sT} (hI : Inv σ) (hc : (-1 : Int) ≤ c.toInt) (hb : (-1 : Int) ≤ b.toInt) (e : (fUpd v false (upd σ 6 c)).1 = -4) : ¬ (fAft v false c b σ).1 = -2 := fun g => by
  rcases aft_c (v := v) (thr := false) hI hc hb with q | ⟨_, q | q | q⟩
  · exact q.2 e
  · rw [g] at q; exact absurd q (by decide)
  · rw [g] at q; exact absurd q (by decide)
  · rw [g] at q; exact absurd q (by decide)
theorem tac_n {v c w x : Int32} {σ : sT} (hI : Inv σ) (hc : (-1 : Int) ≤ c.toInt) (e : a_bac v false c σ = x) (h1 : x < -1) : a_tac v c w σ = x - 100 := by
  by_cases h2 : x = -2
  · subst h2
    have h0 := bac_0 e (by decide) (by decide)
    have hu : ¬ (fUpd v false (upd σ 6 c)).1 = -4 := fun g => aft_y2 hI hc m1_i g h0.2
    unfold a_tac
    rw [if_pos h0.1, if_neg hu]
    rfl
  · have h0 := bac_n hI hc e h1 h2
    unfold a_tac
    rw [if_neg h0.1, h0.2]
theorem upd_sm {σ : sT} {a : Nat} {v : Int32} (h : σ a = v) : upd σ a v = σ := by
  funext k
  by_cases e : k = a
  · subst e; rw [upd_s, h]
  · rw [upd_n e]
theorem upd_ge {v : Int32} {thr : Bool} {τ : sT} (hI : Inv τ) (h : 0 ≤ (fUpd v thr τ).1) : errU v τ = 0 ∧ 0 < (fUpd v thr τ).1 := by
  have h0 : errU v τ = 0 := by
    rcases errU_c v τ with q | q | q
    · exact q
    · have e : (fUpd v thr τ).1 = -3 := (congrArg Prod.fst (fUpd_e (v := v) (thr := thr) (σ := τ) (by rw [q]; decide))).trans q
      rw [e] at h; exact absurd h (by decide)
    · have e : (fUpd v thr τ).1 = -5 := (congrArg Prod.fst (fUpd_e (v := v) (thr := thr) (σ := τ) (by rw [q]; decide))).trans q
      rw [e] at h; exact absurd h (by decide)
  refine ⟨h0, ?_⟩
  rcases upd_o (thr := thr) hI h0 with ⟨q, _⟩ | ⟨_, d, hd, hd2, q, _⟩
  · rw [q] at h; exact absurd h (by decide)
  · rw [q]; exact (nI_ltI (a := 0) (by decide) (by omega)).mpr hd
theorem ul_lt {v : Int32} {τ : sT} (hI : Inv τ) (h6 : τ 6 = -1) (h : ¬ 0 ≤ (fUpd v false τ).1) : ¬ errU v τ = 0 ∧ (fUpd v false τ).1 = errU v τ := by
  have h0 : ¬ errU v τ = 0 := fun e => by
    rcases upd_o (thr := false) hI e with ⟨_, q⟩ | ⟨_, d, hd, hd2, q, _⟩
    · exact absurd (q.symm.trans (upd_pw hI e (Or.inl h6))) (by decide)
    · apply h; rw [q]; exact (nI_leI (a := 0) (by decide) (by omega)).mpr (Nat.zero_le _)
  exact ⟨h0, congrArg Prod.fst (fUpd_e (v := v) (thr := false) (σ := τ) h0)⟩
theorem ul_s0 {σ : sT} (hI : Inv σ) : upd (upd σ 6 (-1)) 4 (nI (nS σ)) = upd σ 6 (-1) := upd_sm ((upd_n (by decide)).trans hI.w4)
theorem ul_e0 {v : Int32} {k : Nat} {σ τ : sT} (hI : Inv σ) (hτ : Inv (upd τ 4 (nI (nS σ)))) (h0 : k = 0 → τ = upd σ 6 (-1)) (h1 : k = 0 ∨ errU v σ = 0) (h : 0 ≤ (fUpd v false (upd τ 4 (nI (nS σ)))).1) : errU v σ = 0 := by
  rcases h1 with e | e
  · have e2 := h0 e
    subst e2
    have e3 := (upd_ge hτ h).1
    rw [ul_s0 hI] at e3
    exact errU_6.symm.trans e3
  · exact e
theorem ul_a0 {v : Int32} {σ τ : sT} (hI : Inv σ) (hτ : Inv (upd τ 4 (nI (nS σ)))) (h0 : τ = upd σ 6 (-1)) (h : ¬ 0 ≤ (fUpd v false (upd τ 4 (nI (nS σ)))).1) : a_ul v σ = (fUpd v false (upd τ 4 (nI (nS σ)))).1 - 100 := by
  subst h0
  have e := ul_lt hτ ((upd_n (by decide)).trans upd_s) h
  rw [e.2]
  have e1 := e.1
  rw [ul_s0 hI] at e1 ⊢
  have e2 : errU v (upd σ 6 (-1)) = errU v σ := errU_6
  rw [e2] at e1 ⊢
  exact if_neg e1
theorem ul_st {v : Int32} {σ : sT} (hI : Inv σ) (he : errU v σ = 0) : a_ul v σ = nI (ulS v (nI (nS σ)) (60 - 0) 0 (upd σ 6 (-1))) := (if_pos he).trans (congrArg (fun s => nI (ulS v s (60 - 0) 0 (upd σ 6 (-1)))) hI.w4)
theorem ul_y {v : Int32} {σ τ : sT} (hτ : Inv (upd τ 4 (nI (nS σ)))) (h6 : τ 6 = -1) (h : 0 ≤ (fUpd v false (upd τ 4 (nI (nS σ)))).1) (hb : (fBoot (fUpd v false (upd τ 4 (nI (nS σ)))).2).1 = 1 - τ 8) : ulY v (nI (nS σ)) τ = true :=
  ulY_i.mpr ⟨(upd_ge hτ h).2, hb, ul_con hτ ((upd_n (by decide)).trans h6) (upd_ge hτ h).1 (by rw [upd_n (show (8 : Nat) ≠ 4 by decide)]; exact hb)⟩
theorem ulT_0 {v st : Int32} {τ : sT} : ulT v st τ 0 = τ 0 := (con_ne (by decide)).trans ((boot_ne (by decide)).trans ((upd_ne (by decide) (by decide)).trans (upd_n (by decide))))
theorem ulT_6 {v st : Int32} {τ : sT} (hI : Inv (upd τ 4 st)) (h : τ 6 = -1) : ulT v st τ 6 = -1 := co6 (bo6 (up6 hI ((upd_n (by decide)).trans h)))
theorem ulT_I {v st : Int32} {τ : sT} (hI : Inv (upd τ 4 st)) : Inv (ulT v st τ) := (Inv.boot (Inv.upda hI)).con

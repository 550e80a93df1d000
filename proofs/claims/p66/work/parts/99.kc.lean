/-! BOOTING: what it takes, which cuts it feels, what stands behind it -/
def VI (B : Nat) (F : sT → Int32 × sT) (σ : sT) : Prop := σ 6 = -1 → ∃ c, c ≤ B ∧ ¬ (F σ).1 = -4 ∧ (F σ).2 6 = -1 ∧ (F σ).2 9 = σ 9 + nI c ∧ ∀ k, k < 2 ^ 31 → c ≤ k → F (upd σ 6 (nI k)) = ((F σ).1, upd (F σ).2 6 (nI (k - c)))
theorem off_6 {σ : sT} {x : Int32} : sOff (upd σ 6 x) = upd (sOff σ) 6 x := by
  unfold sOff
  rw [upd_cm (a := 6) (b := 7) (by decide), upd_cm (a := 6) (b := 8) (by decide)]
theorem run_6 {σ : sT} {v x : Int32} : sRun (upd σ 6 x) v = upd (sRun σ v) 6 x := by
  unfold sRun
  rw [upd_cm (a := 6) (b := 7) (by decide), upd_cm (a := 6) (b := 8) (by decide), note_6 (by decide)]
theorem wait_6 {σ : sT} {x : Int32} : sWait (upd σ 6 x) = upd (sWait σ) 6 x := by
  unfold sWait
  rw [upd_cm (a := 6) (b := 7) (by decide), note_6 (by decide)]
theorem toldB_6 {σ : sT} {s : Nat} {x : Int32} : toldB (upd σ 6 x) s = toldB σ s := by
  unfold toldB
  rw [upd_n (by omega), upd_n (by omega), nW_6]
theorem whole_6 {σ : sT} {s : Nat} {x : Int32} : wholeB (upd σ 6 x) s = wholeB σ s := by
  have e : sumS (upd σ 6 x) s = sumS σ s := by
    unfold sumS
    rw [toldB_6, upd_n (by omega), upd_n (by omega), sumF_congr (r1 := upd σ 6 x) (r2 := σ) (a := 83 + 64 * s) (b := 83 + 64 * s) (fun k _ => upd_n (by omega))]
  unfold wholeB
  rw [toldB_6, e, upd_n (by omega)]
theorem can_6 {σ : sT} {s : Nat} {x : Int32} : canB (upd σ 6 x) s = canB σ s := by
  unfold canB
  rw [whole_6, told_6, upd_n (by omega)]
theorem may_6 {σ : sT} {x : Int32} : mayB (upd σ 6 x) = mayB σ := by
  unfold mayB
  rw [can_6, told_6, upd_n (by decide)]
theorem rest_6 {σ : sT} {x : Int32} : fRest (upd σ 6 x) = ((fRest σ).1, upd (fRest σ).2 6 x) := by
  unfold fRest
  rw [told_6, can_6, can_6, can_6, run_6, run_6, run_6, wait_6]
  split
  · rfl
  · split
    · rfl
    · split <;> rfl
theorem run_k {σ : sT} {v : Int32} {k : Nat} (h7 : k ≠ 7) (h8 : k ≠ 8) (hk : k < 10) : sRun σ v k = σ k := (sNote_ne (σ := upd (upd σ 7 1) 8 v) (by omega) (by omega) (by omega)).trans ((upd_n h8).trans (upd_n h7))
theorem wait_k {σ : sT} {k : Nat} (h7 : k ≠ 7) (hk : k < 10) : sWait σ k = σ k := (sNote_ne (σ := upd σ 7 2) (by omega) (by omega) (by omega)).trans (upd_n h7)
theorem rest_69 {σ : sT} : (fRest σ).2 6 = σ 6 ∧ (fRest σ).2 9 = σ 9 := by
  refine ⟨rest_ne (by decide), ?_⟩
  unfold fRest
  split
  · exact run_k (σ := σ) (v := told σ 1) (k := 9) (by decide) (by decide) (by decide)
  · split
    · exact run_k (σ := σ) (v := 0) (k := 9) (by decide) (by decide) (by decide)
    · split
      · exact run_k (σ := σ) (v := 1) (k := 9) (by decide) (by decide) (by decide)
      · exact wait_k (σ := σ) (k := 9) (by decide) (by decide)
theorem slot_n4 {v : Int32} (h : slotV v) : ¬ v = -4 := by
  rcases h with h | ⟨s, hs, h⟩
  · rw [h]; decide
  · rw [h]; exact nI_n4 (by omega)
theorem vi_try {σ : sT} (h : Inv σ) : VI 13 fTry σ := by
  intro h6
  by_cases h2 : told σ 2 = -1
  · refine ⟨0, by decide, ?_, ?_, ?_, fun k hk _ => ?_⟩
    · rw [fTry_n h2]; exact (by decide : ¬ (-1 : Int32) = -4)
    · rw [fTry_n h2]; exact h6
    · rw [fTry_n h2]; exact (Int32.add_zero _).symm
    · rw [fTry_n (σ := upd σ 6 (nI k)) (by rw [told_6]; exact h2), fTry_n h2]
      rfl
  · obtain ⟨s, hs, es⟩ := told_s (told_ok h).2.2.1 h2
    have es6 : ∀ x, told (upd σ 6 x) 2 = nI s := fun x => by rw [told_6]; exact es
    cases hm : mayB σ
    · obtain ⟨c, a1, a2, a3, a4, a5⟩ := pi_app (σ := σ) (k := 5) (v := nI s) h6
      have e : fTry σ = (-1, (fApp 5 (nI s) σ).2) := by rw [fTry_b hs es hm, if_pos a2]
      refine ⟨c, a1, by rw [e]; exact (by decide : ¬ (-1 : Int32) = -4), by rw [e]; exact a3, by rw [e]; exact a4, fun k hk q => ?_⟩
      have b := (a5 k hk).1 q
      rw [fTry_b hs (es6 _) (by rw [may_6]; exact hm), b, if_pos rfl, e]
    · obtain ⟨c, a1, a2, a3, a4, a5⟩ := pi_app (σ := σ) (k := 4) (v := nI s) h6
      have e : fTry σ = (nI s, sRun (fApp 4 (nI s) σ).2 (nI s)) := by rw [fTry_m hs es hm, if_pos a2]
      refine ⟨c, a1, by rw [e]; exact nI_n4 (by omega), by rw [e]; exact (run_k (σ := (fApp 4 (nI s) σ).2) (k := 6) (v := nI s) (by decide) (by decide) (by decide)).trans a3, ?_, fun k hk q => ?_⟩
      · rw [e]
        exact (run_k (σ := (fApp 4 (nI s) σ).2) (k := 9) (v := nI s) (by decide) (by decide) (by decide)).trans a4
      · have b := (a5 k hk).1 q
        rw [fTry_m hs (es6 _) (by rw [may_6]; exact hm), b, if_pos rfl, e, run_6]
theorem vi_tr {σ : sT} (h : Inv σ) : VI 13 fTR σ := by
  intro h6
  obtain ⟨c, a1, a2, a3, a4, a5⟩ := vi_try h h6
  by_cases e : (fTry σ).1 = -1
  · have eT : fTR σ = fRest (fTry σ).2 := if_pos e
    have hr := rest_c (σ := (fTry σ).2) h.try
    refine ⟨c, a1, ?_, ?_, ?_, fun k hk q => ?_⟩
    · rw [eT]
      rcases hr with hr | hr | hr <;> rw [hr] <;> decide
    · rw [eT, rest_69.1]; exact a3
    · rw [eT, rest_69.2]; exact a4
    · have b := a5 k hk q
      show (if (fTry (upd σ 6 (nI k))).1 = -1 then fRest (fTry (upd σ 6 (nI k))).2 else fTry (upd σ 6 (nI k))) = _
      rw [b, if_pos e, rest_6, eT]
  · have eT : fTR σ = fTry σ := if_neg e
    refine ⟨c, a1, by rw [eT]; exact a2, by rw [eT]; exact a3, by rw [eT]; exact a4, fun k hk q => ?_⟩
    have b := a5 k hk q
    show (if (fTry (upd σ 6 (nI k))).1 = -1 then fRest (fTry (upd σ 6 (nI k))).2 else fTry (upd σ 6 (nI k))) = _
    rw [b, if_neg e, eT]
theorem vi_boot {σ : sT} (h : Inv σ) : VI 15 fBoot σ := by
  intro h6
  obtain ⟨c, a1, a2, a3, a4, a5⟩ := pi_prep (σ := sOff σ) ((upd_n (by decide)).trans ((upd_n (by decide)).trans h6))
  obtain ⟨c2, b1, b2, b3, b4, b5⟩ := vi_tr (σ := (fPrep (sOff σ)).2) h.off.prep a3
  have e : fBoot σ = fTR (fPrep (sOff σ)).2 := if_pos a2
  refine ⟨c + c2, by omega, by rw [e]; exact b2, by rw [e]; exact b3, ?_, fun k hk q => ?_⟩
  · rw [e, b4, a4, Int32.add_assoc, nI_add]
    exact congrArg (fun z => z + nI (c + c2)) ((upd_n (by decide)).trans (upd_n (by decide)))
  · have g := (a5 k hk).1 (by omega)
    have g2 := b5 (k - c) (by omega) (by omega)
    show (if (fPrep (sOff (upd σ 6 (nI k)))).1 = true then fTR (fPrep (sOff (upd σ 6 (nI k)))).2 else _) = _
    rw [off_6, g, if_pos rfl, e, g2, Nat.sub_sub]
theorem boot_cut {σ : sT} (h : Inv σ) : ∃ c, c ≤ 15 ∧ a_bop σ = nI c ∧ (fBoot (upd σ 6 (-1))).2 9 = σ 9 + nI c ∧ ¬ (fBoot (upd σ 6 (-1))).1 = -4 ∧ ∀ k, k < 2 ^ 31 → (fBoot (upd σ 6 (nI k))).1 = -4 → k < c := by
  obtain ⟨c, a1, a2, a3, a4, a5⟩ := vi_boot h.pm upd_s
  rw [upd_n (by decide)] at a4
  refine ⟨c, a1, cnt_sub a4, a4, a2, fun k hk q => ?_⟩
  rcases Nat.lt_or_ge k c with g | g
  · exact g
  · have b := a5 k hk g
    rw [upd_u] at b
    rw [b] at q
    exact absurd q a2
/-- what a boot leaves -/
theorem cut_7 {σ : sT} : sCut σ 7 = 0 := (sNote_ne (by omega) (by omega) (by omega)).trans ((upd_n (by decide)).trans upd_s)
theorem wait_7 {σ : sT} : sWait σ 7 = 2 := (sNote_ne (by omega) (by omega) (by omega)).trans upd_s
def BootE (r : Int32 × sT) : Prop := (r.1 = -4 → r.2 7 = 0) ∧ (r.1 = -1 → r.2 7 = 2) ∧ (0 ≤ r.1 → r.2 8 = r.1)
theorem be_cut {σ : sT} : BootE (-4, sCut σ) := ⟨fun _ => cut_7 (σ := σ), fun q => absurd (show (-4 : Int32) = -1 from q) (by decide), fun q => absurd (show (0 : Int32) ≤ -4 from q) (by decide)⟩
theorem be_run {σ : sT} {s : Nat} (hs : s < 2) : BootE (nI s, sRun σ (nI s)) := ⟨fun q => absurd q (nI_n4 (by omega)), fun q => absurd q (nI_nm1 (by omega)), fun _ => run_8e (σ := σ)⟩
theorem be_wait {σ : sT} : BootE (-1, sWait σ) := ⟨fun q => absurd (show (-1 : Int32) = -4 from q) (by decide), fun _ => wait_7 (σ := σ), fun q => absurd (show (0 : Int32) ≤ -1 from q) (by decide)⟩
theorem be_rest {σ : sT} (h : Inv σ) : BootE (fRest σ) := by
  unfold fRest
  split
  · rename_i h1
    obtain ⟨s, hs, es⟩ := told_s (told_ok (σ := σ) h).2.1 h1.1
    rw [es]
    exact be_run hs
  · split
    · exact be_run (s := 0) (by decide)
    · split
      · exact be_run (s := 1) (by decide)
      · exact be_wait
theorem be_try {σ : sT} (h : Inv σ) (h1 : ¬ (fTry σ).1 = -1) : BootE (fTry σ) := by
  by_cases h2 : told σ 2 = -1
  · rw [fTry_n h2] at h1
    exact absurd rfl h1
  · obtain ⟨s, hs, es⟩ := told_s (told_ok h).2.2.1 h2
    cases hm : mayB σ
    · rw [fTry_b hs es hm] at h1 ⊢
      split
      · rename_i q
        rw [if_pos q] at h1
        exact absurd rfl h1
      · exact be_cut
    · rw [fTry_m hs es hm]
      split
      · exact be_run hs
      · exact be_cut
theorem be_boot {σ : sT} (h : Inv σ) : BootE (fBoot σ) := by
  unfold fBoot
  split
  · unfold fTR
    split
    · exact be_rest h.off.prep.try
    · rename_i q
      exact be_try h.off.prep q
  · exact be_cut

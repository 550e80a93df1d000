/-! WHAT IS FORESEEN OF BOOTS AND UPDATES COMES -/
theorem fb_o {σ : sT} : ∀ {t c : Nat}, fbS σ t c = -1 ∨ ∃ j, c ≤ j ∧ j < c + t ∧ fbS σ t c = nI j ∧ (fBoot (upd σ 6 (nI j))).1 = -4 ∧ ¬ fbW σ j = (fBoot (upd σ 6 (-1))).1
  | 0, _ => Or.inl rfl
  | t + 1, c => by
    unfold fbS
    by_cases h1 : (fBoot (upd σ 6 (nI c))).1 = -4
    · rw [if_pos h1]
      by_cases h2 : fbW σ c = (fBoot (upd σ 6 (-1))).1
      · rw [if_pos h2]
        rcases fb_o (σ := σ) (t := t) (c := c + 1) with g | ⟨j, a, b, g⟩
        · exact Or.inl g
        · exact Or.inr ⟨j, by omega, by omega, g⟩
      · rw [if_neg h2]
        exact Or.inr ⟨c, Nat.le_refl _, by omega, rfl, h1, h2⟩
    · rw [if_neg h1]
      exact Or.inl rfl
theorem br_o : ∀ {t n : Nat} {f : Int32} {τ : sT}, brS t n f τ = -1 ∨ ∃ j, n ≤ j ∧ j < n + t ∧ brS t n f τ = nI j
  | 0, _, _, _ => Or.inl rfl
  | t + 1, n, f, τ => by
    unfold brS
    split
    · exact Or.inl rfl
    · split
      · rcases br_o (t := t) (n := n + 1) (f := brF f (fBoot τ).1) (τ := (fBoot τ).2) with g | ⟨j, a, b, g⟩
        · exact Or.inl g
        · exact Or.inr ⟨j, by omega, by omega, g⟩
      · exact Or.inr ⟨n, Nat.le_refl _, by omega, rfl⟩
theorem br_in (σ : sT) : ¬ a_br σ = 0 ∧ a_br σ ≤ 10 := by
  unfold a_br
  rcases br_o (t := 11 - 1) (n := 1) (f := σ 8) (τ := upd σ 6 (-1)) with g | ⟨j, a, b, g⟩
  · rw [g]; exact ⟨by decide, by decide⟩
  · rw [g]; exact ⟨nI_ne0 (by omega) (by omega), (nI_leI (b := 10) (by omega) (by decide)).mpr (by omega)⟩
theorem fb_in {σ : sT} (h : Inv σ) : a_fb σ = -1 ∨ ∃ j, j < 1001 ∧ a_fb σ = nI j ∧ nI j < a_bop σ ∧ (fBoot (upd σ 6 (nI j))).1 = -4 ∧ ¬ fbW σ j = (fBoot (upd σ 6 (-1))).1 := by
  rcases fb_o (σ := σ) (t := 1001 - 0) (c := 0) with g | ⟨j, a, b, g1, g2, g3⟩
  · exact Or.inl g
  · obtain ⟨c, c1, c2, c3, c4, c5⟩ := boot_cut h
    refine Or.inr ⟨j, by omega, g1, ?_, g2, g3⟩
    rw [c2]
    exact (nI_ltI (by omega) (by omega)).mpr (c5 j (by omega) g2)
theorem boot_m {σ : sT} (h : Inv σ) : (0 ≤ (fBoot (upd σ 6 (-1))).1 ∧ (fBoot (upd σ 6 (-1))).2 8 = (fBoot (upd σ 6 (-1))).1) ∨ ((fBoot (upd σ 6 (-1))).1 < 0 ∧ (fBoot (upd σ 6 (-1))).2 7 = 2) := by
  have hb := be_boot h.pm
  rcases boot_c h.pm with e | e | e | e
  · exact absurd e (boot_4 h.pm pwB_m)
  · exact Or.inr ⟨by rw [e]; decide, hb.2.1 e⟩
  · exact Or.inl ⟨by rw [e]; decide, hb.2.2 (by rw [e]; decide)⟩
  · exact Or.inl ⟨by rw [e]; decide, hb.2.2 (by rw [e]; decide)⟩
theorem bop_in {σ : sT} (h : Inv σ) : 0 ≤ a_bop σ ∧ (fBoot (upd σ 6 (-1))).2 9 - σ 9 = a_bop σ := by
  obtain ⟨c, c1, c2, c3, c4, c5⟩ := boot_cut h
  refine ⟨?_, rfl⟩
  rw [c2]
  exact nI_pos' (by omega)
/-! updates -/
theorem fu_o {v : Int32} {thr : Bool} {σ : sT} : ∀ {t c : Nat}, fuS v thr σ t c = -1 ∨ ∃ j, c ≤ j ∧ j < c + t ∧ fuS v thr σ t c = nI j ∧ fuA v thr σ j = -1
  | 0, _ => Or.inl rfl
  | t + 1, c => by
    unfold fuS
    by_cases h1 : fuA v thr σ c = -1
    · rw [if_pos h1]
      exact Or.inr ⟨c, Nat.le_refl _, by omega, rfl, h1⟩
    · rw [if_neg h1]
      split
      · exact Or.inl rfl
      · rcases fu_o (v := v) (thr := thr) (σ := σ) (t := t) (c := c + 1) with g | ⟨j, a, b, g⟩
        · exact Or.inl g
        · exact Or.inr ⟨j, by omega, by omega, g⟩
theorem fuA_iff {v : Int32} {thr : Bool} {σ : sT} {c : Nat} (h : Inv σ) (hc : c ≤ 93) (hk : ∀ k, k < 2 ^ 31 → (c ≤ k → (fUpd v thr (upd σ 6 (nI k))).1 = nI c) ∧ (k < c → (fUpd v thr (upd σ 6 (nI k))).1 = -4)) {k : Nat} (h2 : k < 2 ^ 31) : fuA v thr σ k = -2 ↔ c ≤ k := by
  unfold fuA
  rcases aft_c (v := v) (thr := thr) (bc := -1) h (c := nI k) (n_i h2) m1_i with ⟨a, b⟩ | ⟨a, b⟩
  · refine ⟨fun _ => ?_, fun _ => a⟩
    rcases Nat.lt_or_ge k c with q | q
    · exact absurd ((hk k h2).2 q) b
    · exact q
  · constructor
    · intro q
      rcases b with b | b | b <;> rw [b] at q <;> exact absurd q (by decide)
    · intro q
      exact absurd (((hk k h2).1 q).symm.trans a) (nI_n4 (by omega))
theorem cn_lo {v : Int32} {σ : sT} {m : Nat} (hm : m ≤ 93) (h2 : ∀ k, k < 2 ^ 31 → (fuA v false σ k = -2 ↔ m ≤ k)) (h8 : ¬ σ 8 = 1 - σ 8) : ∀ {d c a r mx : Nat}, c + d = m → ∃ x y, x + y ≤ d ∧ cnS v σ (1001 - c) c (nI a) = nI (a + x) ∧ loS v σ (1001 - c) c r mx ≤ max mx (r + y)
  | 0, c, a, r, mx, e => by
    have e2 : fuA v false σ c = -2 := (h2 c (by omega)).mpr (by omega)
    exact ⟨0, 0, by omega, by rw [cnS_e (by omega) e2]; rfl, by rw [loS_e (by omega) e2]; omega⟩
  | d + 1, c, a, r, mx, e => by
    have e2 : ¬ fuA v false σ c = -2 := fun q => by have := (h2 c (by omega)).mp q; omega
    by_cases g : fuA v false σ c = σ 8
    · obtain ⟨x, y, q1, q2, q3⟩ := cn_lo hm h2 h8 (d := d) (c := c + 1) (a := a) (r := r + 1) (mx := max mx (r + 1)) (by omega)
      refine ⟨x, y + 1, by omega, ?_, ?_⟩
      · rw [cnS_g (by omega) e2 (y := nI a) (by rw [if_neg (by rw [g]; exact h8)])]
        exact q2
      · rw [loS_g (by omega) e2, show loR v σ c r = r + 1 from if_pos g]
        omega
    · have er : loR v σ c r = 0 := if_neg g
      by_cases g2 : fuA v false σ c = 1 - σ 8
      · obtain ⟨x, y, q1, q2, q3⟩ := cn_lo hm h2 h8 (d := d) (c := c + 1) (a := a + 1) (r := 0) (mx := max mx 0) (by omega)
        refine ⟨x + 1, y, by omega, ?_, ?_⟩
        · rw [cnS_g (by omega) e2 (y := nI (a + 1)) (by rw [if_pos g2, nI_1]), q2]
          congr 1
          omega
        · rw [loS_g (by omega) e2, er]
          omega
      · obtain ⟨x, y, q1, q2, q3⟩ := cn_lo hm h2 h8 (d := d) (c := c + 1) (a := a) (r := 0) (mx := max mx 0) (by omega)
        refine ⟨x, y, by omega, ?_, ?_⟩
        · rw [cnS_g (by omega) e2 (y := nI a) (by rw [if_neg g2])]
          exact q2
        · rw [loS_g (by omega) e2, er]
          omega
theorem errU_r {v : Int32} {σ : sT} (h : Inv σ) (he : errU v σ = 0) : σ 7 = 1 ∧ (σ 8 = 0 ∨ σ 8 = 1) ∧ ¬ σ 4 = 0 := by
  unfold errU at he
  split at he
  · rename_i q
    refine ⟨q.1.1, ?_, q.2⟩
    rcases h.2.2.1 with ⟨a, _⟩ | ⟨_, a⟩ | ⟨a, _⟩
    · exact absurd (q.1.1.symm.trans a) (by decide)
    · exact a
    · exact absurd (q.1.1.symm.trans a) (by decide)
  · exact absurd he (by decide)
/-- all that the law asks of an update -/
theorem upd_all {v : Int32} {σ : sT} (h : Inv σ) (he : errU v σ = 0) : ∃ c x y, 0 < c ∧ c ≤ 93 ∧ (fUpd v false (upd σ 6 (-1))).1 = nI c ∧ (fUpd v false (upd σ 6 (-1))).2 9 - σ 9 = nI c ∧ (fUpd v false (upd σ 6 (-1))).2 4 = 0 ∧ a_cn v σ = nI x ∧ a_lo v σ = nI y ∧ x + y ≤ c ∧ (a_fu v false σ = -1 ∨ ∃ j, j < c ∧ a_fu v false σ = nI j) ∧
    ∀ k, k < 2 ^ 31 → (a_sac v (nI k) (-1) σ = -2 ↔ c ≤ k) ∧ (c ≤ k → (fUpd v false (upd σ 6 (nI k))).1 = nI c) ∧ (k < c → (fUpd v false (upd σ 6 (nI k))).1 = -4 ∧ (fBoot (upd (fUpd v false (upd σ 6 (nI k))).2 6 (-1))).1 = a_sac v (nI k) (-1) σ) := by
  obtain ⟨c, c0, c1, c2, c3, c4, c5⟩ := upd_cut (thr := false) h he
  have hA : ∀ k, k < 2 ^ 31 → (fuA v false σ k = -2 ↔ c ≤ k) := fun k hk => fuA_iff h c1 c5 hk
  obtain ⟨h7, h8, h4⟩ := errU_r h he
  have hne : ¬ σ 8 = 1 - σ 8 := by
    rcases h8 with e | e <;> rw [e] <;> decide
  obtain ⟨x, y, q1, q2, q3⟩ := cn_lo (v := v) (σ := σ) c1 hA hne (d := c) (c := 0) (a := 0) (r := 0) (mx := 0) (by omega)
  refine ⟨c, x, loS v σ (1001 - 0) 0 0 0, c0, c1, c2, cnt_sub c3, c4, ?_, if_pos he, by omega, ?_, fun k hk => ⟨?_, (c5 k hk).1, fun q => ?_⟩⟩
  · unfold a_cn
    rw [if_pos he]
    rw [Nat.zero_add] at q2
    exact q2
  · unfold a_fu
    rw [if_pos he]
    rcases fu_o (v := v) (thr := false) (σ := σ) (t := 1001 - 0) (c := 0) with g | ⟨j, a, b, g1, g2⟩
    · exact Or.inl g
    · refine Or.inr ⟨j, ?_, g1⟩
      rcases Nat.lt_or_ge j c with q | q
      · exact q
      · exact absurd (g2.symm.trans ((hA j (by omega)).mpr q)) (by decide)
  · unfold a_sac
    rw [if_pos he]
    exact hA k hk
  · have e4 := (c5 k hk).2 q
    refine ⟨e4, ?_⟩
    unfold a_sac
    rw [if_pos he, aft_y e4, bt_m (h.pn hk).upda]
/-- and of one that is refused -/
theorem upd_no {v : Int32} {σ : sT} (he : ¬ errU v σ = 0) : (∀ thr x, fUpd v thr (upd σ 6 x) = (errU v σ, upd σ 6 x)) ∧ (∀ k, a_sac v (nI k) (-1) σ = errU v σ) ∧ (∀ thr, a_fu v thr σ = errU v σ - 100) ∧ a_cn v σ = errU v σ ∧ a_lo v σ = errU v σ ∧ errU v σ < 0 :=
  ⟨fun thr x => bac_err0 he, fun k => if_neg he, fun thr => if_neg he, if_neg he, if_neg he, by
    rcases errU_c v σ with e | e | e
    · exact absurd e he
    · rw [e]; decide
    · rw [e]; decide⟩
theorem or_1 {x y : Int32} (h : x &&& 1 = 1) : (x ||| y) &&& 1 = 1 := by
  have e : (x ||| y) &&& 1 = (x &&& 1) ||| (y &&& 1) := by
    apply Int32.toBitVec_inj.mp
    rw [Int32.toBitVec_and, Int32.toBitVec_or, BitVec.and_or_distrib_right, Int32.toBitVec_or, Int32.toBitVec_and, Int32.toBitVec_and]
  rw [e, h]
  rcases bit1 y with e | e <;> rw [e] <;> decide
theorem orL_1 {f : Nat → Int32} (h : f 0 = 1) : ∀ {n : Nat}, 1 ≤ n → orL f n &&& 1 = 1
  | 0, hn => absurd hn (by decide)
  | 1, _ => by
    show ((0 : Int32) ||| f 0) &&& 1 = 1
    rw [h]; decide
  | n + 2, _ => or_1 (x := orL f (n + 1)) (orL_1 h (by omega))
theorem tp_1 {v : Int32} {σ : sT} (h : Inv σ) (he : errU v σ = 0) : a_tp σ &&& 1 = 1 := by
  have hb := h.bd
  obtain ⟨h7, h8, h4⟩ := errU_r h he
  unfold a_tp
  rw [if_pos ⟨h7, h4⟩]
  refine orL_1 ?_ (Nat.div_pos (Nat.le_of_dvd (by omega) (Nat.dvd_of_mod_eq_zero hb.2.2.2.2.1)) (by omega))
  unfold tpF spentB
  rw [if_pos (by simp)]
  decide
theorem told0 {σ : sT} (h : Inv σ) : ¬ told σ 0 < 0 := by
  obtain ⟨⟨f, hf, e⟩, _⟩ := told_ok h
  rw [e]
  exact nI_npos (by omega)

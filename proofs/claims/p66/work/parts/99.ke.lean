/-! HOW MANY EVENTS, HOW MUCH WEAR -/
def LG (T : Nat) (σ : sT) : Prop := ∃ c : Nat → Nat, (∀ k, k < 8 → σ (11 + k) = nI (c k)) ∧ c 0 + c 1 + c 2 + c 3 + c 4 + c 5 + c 6 + c 7 = T ∧ σ 10 = nI (min T 40)
def WB (E : Nat) (σ : sT) : Prop := ∀ k, 275 ≤ k → k < 309 → ∃ m, m ≤ E ∧ σ k = nI m
def Lq (n : Nat) (σ τ : sT) : Prop := ∀ T E, LG T σ → WB E σ → (∃ T', T' ≤ T + n ∧ LG T' τ) ∧ WB (E + n) τ
theorem lq_fr {σ τ : sT} (h : ∀ k, (10 ≤ k ∧ k < 19) ∨ (275 ≤ k ∧ k < 309) → τ k = σ k) : Lq 0 σ τ := by
  intro T E ⟨c, h1, h2, h3⟩ hw
  refine ⟨⟨T, Nat.le_refl _, c, fun k hk => ?_, h2, ?_⟩, fun k a b => ?_⟩
  · rw [h _ (Or.inl ⟨by omega, by omega⟩)]; exact h1 k hk
  · rw [h _ (Or.inl ⟨by omega, by omega⟩)]; exact h3
  · rw [h _ (Or.inr ⟨a, b⟩)]; exact hw k a b
theorem lq_rf {σ : sT} : Lq 0 σ σ := lq_fr (fun _ _ => rfl)
theorem lq_mo {n m : Nat} {σ τ : sT} (h : Lq n σ τ) (hn : n ≤ m) : Lq m σ τ := by
  intro T E a b
  obtain ⟨⟨T', h1, h2⟩, h3⟩ := h T E a b
  refine ⟨⟨T', by omega, h2⟩, fun k p q => ?_⟩
  obtain ⟨x, hx, e⟩ := h3 k p q
  exact ⟨x, by omega, e⟩
theorem lq_tr {n m : Nat} {σ τ υ : sT} (h : Lq n σ τ) (h2 : Lq m τ υ) : Lq (n + m) σ υ := by
  intro T E a b
  obtain ⟨⟨T1, a1, a2⟩, a3⟩ := h T E a b
  obtain ⟨⟨T2, b1, b2⟩, b3⟩ := h2 T1 (E + n) a2 a3
  refine ⟨⟨T2, by omega, b2⟩, fun k p q => ?_⟩
  obtain ⟨x, hx, e⟩ := b3 k p q
  exact ⟨x, by omega, e⟩
theorem lq_up {σ : sT} {a : Nat} {v : Int32} (h : a < 10 ∨ (19 ≤ a ∧ a < 275)) : Lq 0 σ (upd σ a v) := lq_fr (fun k hk => upd_n (by omega))
theorem lq_note {σ : sT} {e : Nat} {x : Int32} (he : e < 8) : Lq 1 σ (sNote σ e x) := by
  intro T E ⟨c, h1, h2, h3⟩ hw
  have hL : nL σ = min T 40 := by unfold nL; rw [h3, tn_nI (by omega)]
  refine ⟨⟨T + 1, Nat.le_refl _, fun k => if k = e then c k + 1 else c k, fun k hk => ?_, ?_, ?_⟩, fun k a b => ?_⟩
  · show sNote σ e x (11 + k) = nI (if k = e then c k + 1 else c k)
    by_cases g : k = e
    · subst g
      have e1 : sNote σ k x (11 + k) = σ (11 + k) + 1 := by
        unfold sNote
        rw [if_neg (by omega), if_pos rfl]
      rw [e1, if_pos rfl, h1 k hk, nI_1]
    · rw [if_neg g, sNote_ne (by omega) (by omega) (by omega)]
      exact h1 k hk
  · rcases (by omega : e = 0 ∨ e = 1 ∨ e = 2 ∨ e = 3 ∨ e = 4 ∨ e = 5 ∨ e = 6 ∨ e = 7) with rfl | rfl | rfl | rfl | rfl | rfl | rfl | rfl <;> simp <;> omega
  · have e1 : sNote σ e x 10 = nI (min (nL σ + 1) 40) := by unfold sNote; rw [if_pos rfl]
    rw [e1, hL]
    congr 1
    omega
  · rw [sNote_ne (by omega) (by omega) (by omega)]
    obtain ⟨y, hy, q⟩ := hw k a b
    exact ⟨y, by omega, q⟩
theorem lq_wr {σ : sT} {k : Nat} {v : Int32} (h : 19 ≤ k) (h2 : k < 275) : Lq 0 σ (fWr k v σ).2 := lq_fr (fun j hj => sWr_ne (by omega) (by omega) (by omega))
theorem lq_er {σ : sT} {a c r : Nat} {v : Int32} (h1 : 19 ≤ a) (h2 : a + c ≤ 275) (h3 : 275 ≤ r) : Lq 1 σ (sEr σ a c r v) := by
  intro T E ⟨f, g1, g2, g3⟩ hw
  have e : ∀ k, k ≠ r → k < 19 ∨ 275 ≤ k → k ≠ 6 → k ≠ 9 → sEr σ a c r v k = σ k := fun k q1 q2 q3 q4 => by
    show upd (sFill (sTake σ) a (if sHas σ = true then c else c / 2) v) r _ k = _
    rw [upd_n q1, sFill_out (by split <;> omega), sTake_ne q3 q4]
  refine ⟨⟨T, by omega, f, fun k hk => ?_, g2, ?_⟩, fun k p q => ?_⟩
  · rw [e _ (by omega) (by omega) (by omega) (by omega)]; exact g1 k hk
  · rw [e _ (by omega) (by omega) (by omega) (by omega)]; exact g3
  · by_cases q1 : k = r
    · subst q1
      obtain ⟨y, hy, w⟩ := hw k p q
      refine ⟨y + 1, by omega, ?_⟩
      show upd (sFill (sTake σ) a _ v) k (σ k + 1) k = _
      rw [upd_s, w, nI_1]
    · rw [e _ q1 (by omega) (by omega) (by omega)]
      obtain ⟨y, hy, w⟩ := hw k p q
      exact ⟨y, by omega, w⟩
theorem lq_sq {n m : Nat} {f g : opT} {σ : sT} (h1 : Lq n σ (f σ).2) (h2 : (f σ).1 = true → Lq m (f σ).2 (g (f σ).2).2) : Lq (n + m) σ (sq f g σ).2 := by
  unfold sq
  split
  · rename_i h
    exact lq_tr h1 (h2 h)
  · exact lq_mo h1 (by omega)
theorem lq_wl : ∀ {l : List Int32} {b : Nat} {σ : sT}, 19 ≤ b → b + l.length ≤ 275 → Lq 0 σ (fWl b l σ).2
  | [], _, _, _, _ => lq_rf
  | w :: ws, b, σ, h1, h2 => by
    simp only [List.length_cons] at h2
    exact lq_sq (n := 0) (m := 0) (f := fWr b w) (g := fWl (b + 1) ws) (lq_wr h1 (by omega)) (fun _ => lq_wl (by omega) (by omega))
theorem lq_erj {σ : sT} {p : Nat} (h : Inv σ) (hp : p < 2) : Lq 1 σ (fErJ p σ).2 := by
  have hb := h.bd
  exact lq_er (by omega) (by omega) (by omega)
theorem lq_fmt {σ : sT} (h : Inv σ) : Lq 2 σ (fFormat σ).2 := lq_sq (n := 1) (m := 1) (f := fErJ 0) (lq_erj h (by decide)) (fun _ => lq_sq (n := 0) (m := 1) (f := fWr 211 _) (lq_wr (by decide) (by decide)) (fun _ => lq_note (by decide)))
theorem lq_mvp {σ : sT} {p : Nat} (h : Inv σ) : Lq 2 σ (fMoveP p σ).2 := by
  have hl := recs_len (told σ)
  exact lq_sq (n := 1) (m := 1) (f := fErJ (1 - p)) (lq_erj h (by omega)) (fun _ => lq_sq (n := 0) (m := 1) (f := fWl _ _) (lq_wl (by omega) (by omega)) (fun _ => lq_sq (n := 0) (m := 1) (f := fWr _ _) (lq_wr (by omega) (by omega)) (fun _ => lq_note (by decide))))
theorem lq_rec {σ : sT} {k : Nat} {v : Int32} : Lq 1 σ (fRec k v σ).2 := by
  unfold fRec
  split
  · exact lq_note (by decide)
  · split
    · exact lq_note (by decide)
    · split
      · exact lq_note (by decide)
      · exact lq_mo lq_rf (by decide)
theorem lq_prep {σ : sT} (h : Inv σ) : Lq 2 σ (fPrep σ).2 := by
  unfold fPrep
  split
  · exact lq_fmt h
  · exact lq_mo lq_rf (by decide)
theorem lq_full {σ : sT} (h : Inv σ) : Lq 2 σ (fFull σ).2 := by
  unfold fFull
  split
  · exact lq_mvp h
  · exact lq_mo lq_rf (by decide)
theorem lq_put {σ : sT} {k : Nat} {v : Int32} (h : Inv σ) (hf : ffree σ (tn (activeI σ)) (nJ σ) < nJ σ) : Lq 1 σ (fPut k v σ).2 := by
  have hb := h.bd
  have := act_lt σ
  exact lq_sq (n := 0) (m := 1) (f := fWr _ _) (lq_wr (by omega) (by omega)) (fun _ => lq_rec)
theorem lq_app {σ : sT} {k : Nat} {v : Int32} (h : Inv σ) : Lq 5 σ (fApp k v σ).2 := by
  refine lq_sq (n := 2) (m := 3) (f := fPrep) (lq_prep h) (fun h1 => lq_sq (n := 2) (m := 1) (f := fFull) (lq_full h.prep) (fun h2 => ?_))
  have := full_act h.prep (prep_act h h1) h2
  exact lq_put h.prep.full (by rw [nJ_full]; exact this.2)
theorem lq_cut {σ : sT} : Lq 1 σ (sCut σ) := lq_tr (n := 0) (lq_tr (n := 0) (m := 0) (lq_up (a := 7) (v := 0) (by decide)) (lq_up (a := 8) (v := -1) (by decide))) (lq_note (by decide))
theorem lq_off {σ : sT} : Lq 0 σ (sOff σ) := lq_tr (n := 0) (m := 0) (lq_up (a := 7) (v := 0) (by decide)) (lq_up (a := 8) (v := -1) (by decide))
theorem lq_run {σ : sT} {v : Int32} : Lq 1 σ (sRun σ v) := lq_tr (n := 0) (lq_tr (n := 0) (m := 0) (lq_up (a := 7) (v := 1) (by decide)) (lq_up (a := 8) (v := v) (by decide))) (lq_note (by decide))
theorem lq_wait {σ : sT} : Lq 1 σ (sWait σ) := lq_tr (n := 0) (lq_up (a := 7) (v := 2) (by decide)) (lq_note (by decide))
theorem lq_try {σ : sT} (h : Inv σ) : Lq 6 σ (fTry σ).2 := by
  unfold fTry
  split
  · exact lq_mo lq_rf (by decide)
  · split
    · split
      · exact lq_tr (lq_app h) lq_run
      · exact lq_tr (lq_app h) lq_cut
    · split
      · exact lq_mo (lq_app h) (by decide)
      · exact lq_tr (lq_app h) lq_cut
theorem lq_rest {σ : sT} : Lq 1 σ (fRest σ).2 := by
  unfold fRest
  split
  · exact lq_run
  · split
    · exact lq_run
    · split
      · exact lq_run
      · exact lq_wait
theorem lq_boot {σ : sT} (h : Inv σ) : Lq 9 σ (fBoot σ).2 := by
  unfold fBoot
  split
  · unfold fTR
    split
    · exact lq_tr (lq_tr (lq_tr lq_off (lq_prep h.off)) (lq_try h.off.prep)) lq_rest
    · exact lq_mo (lq_tr (lq_tr lq_off (lq_prep h.off)) (lq_try h.off.prep)) (by decide)
  · exact lq_mo (lq_tr (lq_tr lq_off (lq_prep h.off)) lq_cut) (by decide)
theorem lq_pg {s : Nat} {thr : Bool} {pay : sT} {c p : Nat} {σ : sT} (h : Inv σ) (hs : s < 2) (hp : p < nW σ / nP σ) : Lq 1 σ (fPg s thr pay c p σ).2 := by
  have hb := h.bd
  unfold fPg
  split
  · have h1 : nP σ * (p + 1) ≤ nW σ := Nat.le_trans (Nat.mul_le_mul_left _ hp) (Nat.mul_div_le _ _)
    rw [Nat.mul_add, Nat.mul_one] at h1
    exact lq_er (by omega) (by omega) (by omega)
  · exact lq_mo lq_rf (by decide)
theorem lq_it {f : Nat → opT} {P : sT → Prop} {σ : sT} {m : Nat} (h0 : P σ) : ∀ {n : Nat}, (∀ k, k < n → ∀ σ, P σ → P (f k σ).2 ∧ Lq m σ (f k σ).2) → Lq (n * m) σ (itK f n σ).2
  | 0, _ => by
    rw [Nat.zero_mul]
    exact lq_rf
  | n + 1, h => by
    rw [Nat.succ_mul]
    exact lq_sq (f := itK f n) (g := f n) (lq_it h0 (fun k hk => h k (by omega))) (fun _ => (h n (by omega) _ (itK_P (f := f) (P := P) h0 (fun k hk τ q => (h k (by omega) τ q).1))).2)
theorem lq_pgs {s : Nat} {thr : Bool} {pay : sT} {c n : Nat} {σ : sT} (h : Inv σ) (hs : s < 2) (hn : n ≤ nW σ / nP σ) : Lq n σ (itK (fPg s thr pay c) n σ).2 := by
  have := lq_it (f := fPg s thr pay c) (P := fun τ => Inv τ ∧ nW τ = nW σ ∧ nP τ = nP σ) (m := 1) (n := n) ⟨h, rfl, rfl⟩ (fun k hk τ ⟨a, b, c⟩ => ⟨⟨a.pg hs (by rw [b, c]; omega), (nW_of (fPg_ne (by decide) (by decide) (by decide))).trans b, (nP_of (fPg_ne (by decide) (by decide) (by decide))).trans c⟩, lq_pg a hs (by rw [b, c]; omega)⟩)
  rw [Nat.mul_one] at this
  exact this
theorem lq_pws {s : Nat} {pay : sT} {n : Nat} {σ : sT} (hs : s < 2) (hn : n ≤ 61) : Lq 0 σ (itK (fPw s pay) n σ).2 := by
  have := lq_it (f := fPw s pay) (P := fun _ => True) (m := 0) (n := n) (σ := σ) trivial (fun k hk τ _ => ⟨trivial, by
    unfold fPw
    split
    · exact lq_rf
    · exact lq_wr (by omega) (by omega)⟩)
  rw [Nat.mul_zero] at this
  exact this
theorem lq_hd {s c : Nat} {x v : Int32} {σ : sT} (hs : s < 2) : Lq 0 σ (fHd s c x v σ).2 := lq_sq (n := 0) (m := 0) (f := fWr _ _) (lq_wr (by omega) (by omega)) (fun _ => lq_sq (n := 0) (m := 0) (f := fWr _ _) (lq_wr (by omega) (by omega)) (fun _ => lq_wr (by omega) (by omega)))
theorem lq_img {s : Nat} {thr : Bool} {pay : sT} {c : Nat} {v : Int32} {σ : sT} (h : Inv σ) (hs : s < 2) (hc : c ≤ 61) : Lq 16 σ (fImg s thr pay c v σ).2 := by
  have h16 := pgN_16 h 0
  rw [pgN_n (by decide)] at h16
  exact lq_mo (lq_sq (n := nW σ / nP σ) (m := 0) (f := itK (fPg s thr pay c) (nW σ / nP σ)) (lq_pgs h hs (Nat.le_refl _)) (fun _ => lq_sq (n := 0) (m := 0) (f := itK (fPw s pay) c) (lq_pws hs hc) (fun _ => lq_hd hs))) (by omega)
theorem lq_opu {v : Int32} {thr : Bool} {s : Nat} {σ : sT} (h : Inv σ) (hs : s < 2) : Lq 21 σ (opU v thr s σ).2 := by
  have hb := h.bd
  exact lq_sq (n := 16) (m := 5) (f := fImg s thr (payS σ) (nS σ) v) (lq_img h hs (by omega)) (fun _ => lq_app (h.img hs (by omega)))
theorem lq_upd {v : Int32} {thr : Bool} {σ : sT} (h : Inv σ) : Lq 22 σ (fUpd v thr σ).2 := by
  unfold fUpd
  split
  · unfold endU
    split
    · exact lq_mo (lq_tr (lq_opu h (by omega)) (lq_up (a := 4) (by decide))) (by decide)
    · exact lq_tr (lq_opu h (by omega)) lq_cut
  · exact lq_mo lq_rf (by decide)
theorem lq_opc {v : Int32} {r : Nat} {σ : sT} (h : Inv σ) : Lq 10 σ (opC v r σ).2 := by
  refine lq_sq (n := 5) (m := 5) (f := fApp 2 (nI r)) (lq_app h) (fun _ => ?_)
  split
  · exact lq_app h.app
  · exact lq_mo lq_rf (by decide)
theorem lq_con {σ : sT} (h : Inv σ) : Lq 11 σ (fCon σ).2 := by
  unfold fCon
  split
  · dsimp only
    split
    · exact lq_mo (lq_opc h) (by decide)
    · exact lq_tr (lq_opc h) lq_cut
  · exact lq_mo lq_rf (by decide)
theorem lq_mir {σ : sT} (h : Inv σ) : Lq 22 σ (fMir σ).2 := by
  have hb := h.bd
  unfold fMir
  split
  · rename_i h1
    obtain ⟨r, hr, er⟩ := h.2.2.1.run h1.1.1
    have h2 := h1.2
    rw [er, tn_nI (by omega)] at h2 ⊢
    have hn := toldB_n hb.2.1 (wholeB_n h2)
    have h3 : Lq 21 σ (sq (fImg (1 - r) false (fun j => σ (83 + 64 * r + j)) (tn (σ (83 + 64 * r + 1))) (σ (83 + 64 * r))) (fApp 2 (nI r)) σ).2 := lq_sq (n := 16) (m := 5) (f := fImg _ _ _ _ _) (lq_img h (by omega) (by omega)) (fun _ => lq_app (h.img (by omega) (by omega)))
    dsimp only
    split
    · exact lq_mo h3 (by decide)
    · exact lq_tr h3 lq_cut
  · exact lq_mo lq_rf (by decide)
theorem lq_mvj {σ : sT} (h : Inv σ) : Lq 3 σ (fMvj σ).2 := by
  unfold fMvj
  split
  · exact lq_mo lq_rf (by decide)
  · split
    · exact lq_mo (lq_mvp h) (by decide)
    · exact lq_tr (n := 2) (lq_mvp h) lq_cut
theorem lq_rcv {s : Nat} {v : Int32} {σ : sT} (h : Inv σ) (hs : s < 2) : Lq 22 σ (fRcv s v σ).2 := by
  have hb := h.bd
  unfold fRcv
  split
  · split
    · exact lq_mo lq_rf (by decide)
    · have h3 : Lq 21 σ (sq (fImg s false (payS σ) (nS σ) v) (fApp 2 (nI s)) σ).2 := lq_sq (n := 16) (m := 5) (f := fImg _ _ _ _ _) (lq_img h hs (by omega)) (fun _ => lq_app (h.img hs (by omega)))
      dsimp only
      split
      · exact lq_mo (lq_tr (lq_tr h3 (lq_up (a := 4) (by decide))) (lq_up (a := 7) (by decide))) (by decide)
      · exact lq_tr h3 lq_cut
  · exact lq_mo lq_rf (by decide)

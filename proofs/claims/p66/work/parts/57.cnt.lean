/-! HOW MANY operations an action takes, and that it succeeds where there is power for them -/
def OpAt (A B : Nat) (σ : sT) (r : Bool × sT) : Prop := ∃ c, c ≤ B ∧ (r.1 = true → A ≤ c) ∧ r.2 9 = σ 9 + nI c ∧ (σ 6 = -1 → r.1 = true ∧ r.2 6 = -1) ∧ ∀ k, k < 2 ^ 31 → σ 6 = nI k → (r.1 = true → c ≤ k ∧ r.2 6 = nI (k - c)) ∧ (r.1 = false → c = k + 1)
theorem op_id {σ τ : sT} (h9 : τ 9 = σ 9) (h6 : τ 6 = σ 6) : OpAt 0 0 σ (true, τ) :=
  ⟨0, Nat.le_refl _, fun _ => Nat.le_refl _, by rw [show nI 0 = (0 : Int32) from rfl, Int32.add_zero]; exact h9, fun h => ⟨rfl, h6.trans h⟩, fun k _ h => ⟨fun _ => ⟨Nat.zero_le _, h6.trans h⟩, fun q => absurd q (by simp)⟩⟩
theorem op_mo {A A' B B' : Nat} {σ : sT} {r : Bool × sT} (h : OpAt A B σ r) (hA : A' ≤ A) (hB : B ≤ B') : OpAt A' B' σ r := by
  obtain ⟨c, h1, h2, h3⟩ := h
  exact ⟨c, by omega, fun q => by have := h2 q; omega, h3⟩
theorem dec_1 {k : Nat} (h : 0 < k) : nI k - 1 = nI (k - 1) := by
  obtain ⟨j, rfl⟩ : ∃ j, k = j + 1 := ⟨k - 1, by omega⟩
  exact pk_m1' j
theorem s01 {s : Nat} (h : s < 2) : nI s = 0 ∨ nI s = 1 := by
  rcases (by omega : s = 0 ∨ s = 1) with rfl | rfl
  · exact Or.inl rfl
  · exact Or.inr rfl
theorem op_take {σ τ : sT} (h9 : τ 9 = sTake σ 9) (h6 : τ 6 = sTake σ 6) : OpAt 1 1 σ (sHas σ, τ) := by
  have e1 : nI 1 = (1 : Int32) := rfl
  refine ⟨1, Nat.le_refl _, fun _ => Nat.le_refl _, ?_, fun h => ?_, fun k hk h => ?_⟩
  · show τ 9 = _
    rw [h9, e1]
    unfold sTake
    split
    · simp [upd]
    · split <;> simp [upd]
  · have h0 : ¬ σ 6 = 0 := by rw [h]; decide
    refine ⟨sHas_t h0, ?_⟩
    show τ 6 = _
    rw [h6, sTake_n h0 (by rw [h]; decide)]
    simp [upd, h]
  · by_cases hz : k = 0
    · subst hz
      have h0 : σ 6 = 0 := h
      have e : sHas σ = false := by simp [sHas, h0]
      exact ⟨fun q => absurd (e.symm.trans q) (by decide), fun _ => rfl⟩
    · have h0 : ¬ σ 6 = 0 := by
        rw [h]; intro q
        exact hz ((nI_eq (a := k) (b := 0) hk (by decide)).mp q)
      have h1 : ¬ σ 6 ≤ 0 := by
        rw [h]; intro q
        exact hz (Nat.le_zero.mp ((nI_leI (a := k) (b := 0) hk (by decide)).mp q))
      refine ⟨fun _ => ⟨by omega, ?_⟩, fun q => absurd ((sHas_t h0).symm.trans q) (by decide)⟩
      show τ 6 = _
      rw [h6, sTake_p h0 h1, upd_s, h]
      exact dec_1 (by omega)
theorem op_sq {A1 B1 A2 B2 : Nat} {f g : opT} {σ : sT} (h1 : OpAt A1 B1 σ (f σ)) (h2 : (f σ).1 = true → OpAt A2 B2 (f σ).2 (g (f σ).2)) : OpAt (A1 + A2) (B1 + B2) σ (sq f g σ) := by
  obtain ⟨c, c1, c2, c3, c4, c5⟩ := h1
  by_cases ok : (f σ).1 = true
  · obtain ⟨d, d1, d2, d3, d4, d5⟩ := h2 ok
    rw [sq_t ok]
    refine ⟨c + d, by omega, fun q => by have := d2 q; have := c2 ok; omega, by rw [d3, c3, Int32.add_assoc, nI_add], fun h => d4 (c4 h).2, fun k hk h => ?_⟩
    obtain ⟨e1, e2⟩ := (c5 k hk h).1 ok
    obtain ⟨g1, g2⟩ := d5 (k - c) (by omega) e2
    refine ⟨fun q => ?_, fun q => ?_⟩
    · obtain ⟨x, y⟩ := g1 q
      exact ⟨by omega, by rw [y]; congr 1; omega⟩
    · have := g2 q
      omega
  · have ok' : (f σ).1 = false := Bool.eq_false_iff.mpr ok
    rw [sq_f ok']
    exact ⟨c, by omega, fun q => absurd q ok, c3, fun h => c4 h, fun k hk h => ⟨fun q => absurd q ok, (c5 k hk h).2⟩⟩
theorem op_wr {σ : sT} {k : Nat} {v : Int32} (h6 : k ≠ 6) (h9 : k ≠ 9) : OpAt 1 1 σ (fWr k v σ) := op_take (upd_n (Ne.symm h9)) (upd_n (Ne.symm h6))
theorem op_er {σ : sT} {a c r : Nat} {v : Int32} (ha : 9 < a) (hr : 9 < r) : OpAt 1 1 σ (sHas σ, sEr σ a c r v) := by
  refine op_take ?_ ?_
  · unfold sEr
    rw [upd_n (by omega), sFill_out (by omega)]
  · unfold sEr
    rw [upd_n (by omega), sFill_out (by omega)]
theorem op_note {σ : sT} {e : Nat} {x : Int32} : OpAt 0 0 σ (fNote e x σ) := op_id (sNote_ne (by omega) (by omega) (by omega)) (sNote_ne (by omega) (by omega) (by omega))
theorem op_fId {σ : sT} : OpAt 0 0 σ (fId σ) := op_id rfl rfl
theorem op_it {f : Nat → opT} {B : Nat} {σ : sT} : ∀ {n : Nat}, (∀ k, k < n → ∀ τ, OpAt 0 B τ (f k τ)) → OpAt 0 (n * B) σ (itK f n σ)
  | 0, _ => op_mo op_fId (Nat.le_refl _) (Nat.zero_le _)
  | n + 1, h => by
    have h1 : OpAt (0 + 0) (n * B + B) σ (sq (itK f n) (f n) σ) := op_sq (op_it (fun k hk => h k (by omega))) (fun _ => h n (Nat.lt_succ_self _) _)
    rw [Nat.succ_mul]
    exact h1
theorem op_wl {l : List Int32} : ∀ {b : Nat} {σ : sT}, 9 < b → OpAt 0 l.length σ (fWl b l σ) := by
  induction l with
  | nil => intro b σ _; exact op_fId
  | cons w ws ih =>
    intro b σ hb
    exact op_mo (op_sq (f := fWr b w) (g := fWl (b + 1) ws) (op_wr (by omega) (by omega)) (fun _ => ih (by omega))) (Nat.zero_le _) (by simp only [List.length_cons]; omega)
theorem op_fmt {σ : sT} : OpAt 0 2 σ (fFormat σ) :=
  op_mo (op_sq (f := fErJ 0) (op_er (by omega) (by omega)) (fun _ => op_sq (f := fWr 211 (wordI 6 0)) (op_wr (by decide) (by decide)) (fun _ => op_note))) (Nat.zero_le _) (by decide)
theorem op_mvp {σ : sT} {p : Nat} : OpAt 0 10 σ (fMoveP p σ) :=
  op_mo (op_sq (f := fErJ (1 - p)) (op_er (by omega) (by omega)) (fun _ => op_sq (f := fWl (211 + 32 * (1 - p) + 1) (recs (told σ))) (op_wl (by omega)) (fun _ => op_sq (f := fWr (211 + 32 * (1 - p)) (wordI 6 ((genI σ p + 1) % 256))) (op_wr (by omega) (by omega)) (fun _ => op_note)))) (Nat.zero_le _) (by have := recs_len (told σ); omega)
theorem op_rec {σ : sT} {k : Nat} {v : Int32} : OpAt 0 0 σ (fRec k v σ) := by
  unfold fRec
  split
  · exact op_note
  · split
    · exact op_note
    · split
      · exact op_note
      · exact op_fId
theorem op_put {σ : sT} {k : Nat} {v : Int32} : OpAt 1 1 σ (fPut k v σ) := op_sq (f := fWr _ _) (op_wr (by omega) (by omega)) (fun _ => op_rec)
theorem op_prep {σ : sT} : OpAt 0 2 σ (fPrep σ) := by
  unfold fPrep
  split
  · exact op_fmt
  · exact op_mo op_fId (Nat.le_refl _) (by decide)
theorem op_full {σ : sT} : OpAt 0 10 σ (fFull σ) := by
  unfold fFull
  split
  · exact op_mvp
  · exact op_mo op_fId (Nat.le_refl _) (by decide)
theorem op_app {σ : sT} {k : Nat} {v : Int32} : OpAt 1 13 σ (fApp k v σ) :=
  op_sq (f := fPrep) op_prep (fun _ => op_sq (f := fFull) op_full (fun _ => op_put))
theorem op_pg {σ : sT} {s p c : Nat} {thr : Bool} {pay : sT} : OpAt 0 1 σ (fPg s thr pay c p σ) := by
  unfold fPg
  split
  · exact op_mo (op_er (by omega) (by omega)) (by decide) (by decide)
  · exact op_mo op_fId (by decide) (by decide)
theorem op_pw {σ : sT} {s k : Nat} {pay : sT} : OpAt 0 1 σ (fPw s pay k σ) := by
  unfold fPw
  split
  · exact op_mo op_fId (by decide) (by decide)
  · exact op_mo (op_wr (by omega) (by omega)) (by decide) (by decide)
theorem op_hd {σ : sT} {s c : Nat} {x v : Int32} : OpAt 0 3 σ (fHd s c x v σ) :=
  op_mo (op_sq (f := fWr _ _) (op_wr (by omega) (by omega)) (fun _ => op_sq (f := fWr _ _) (op_wr (by omega) (by omega)) (fun _ => op_wr (by omega) (by omega)))) (by decide) (by decide)
theorem op_img {σ : sT} {s c : Nat} {thr : Bool} {pay : sT} {v : Int32} (h : Inv σ) (hc : c ≤ 61) : OpAt 0 80 σ (fImg s thr pay c v σ) := by
  have h16 := pgN_16 h 0
  rw [pgN_n (by decide)] at h16
  exact op_mo (op_sq (f := itK (fPg s thr pay c) (nW σ / nP σ)) (op_it (B := 1) (fun k _ τ => op_pg)) (fun _ => op_sq (f := itK (fPw s pay) c) (op_it (B := 1) (fun k _ τ => op_pw)) (fun _ => op_hd))) (by decide) (by omega)
theorem op_opu {σ : sT} {s : Nat} {thr : Bool} {v : Int32} (h : Inv σ) : OpAt 1 93 σ (opU v thr s σ) :=
  have hb := h.bd
  op_sq (f := fImg s thr (payS σ) (nS σ) v) (op_img h (by omega)) (fun _ => op_app)
theorem op_opc {σ : sT} {s : Nat} {v : Int32} : OpAt 0 26 σ (opC v s σ) := by
  refine op_mo (op_sq (f := fApp 2 (nI s)) op_app (fun _ => (show OpAt 0 13 _ _ from ?_))) (Nat.zero_le _) (Nat.le_refl _)
  split
  · exact op_mo op_app (Nat.zero_le _) (Nat.le_refl _)
  · exact op_mo op_fId (Nat.le_refl _) (Nat.zero_le _)
/-- power enough for B operations -/
def pwB (B : Nat) (σ : sT) : Prop := σ 6 = -1 ∨ ∃ k, k < 2 ^ 31 ∧ B ≤ k ∧ σ 6 = nI k
theorem op_ok {A B : Nat} {σ : sT} {r : Bool × sT} (h : OpAt A B σ r) (hp : pwB B σ) : r.1 = true := by
  obtain ⟨c, c1, c2, c3, c4, c5⟩ := h
  rcases hp with h | ⟨k, hk, hB, h⟩
  · exact (c4 h).1
  · cases hr : r.1
    · have := (c5 k hk h).2 hr
      omega
    · rfl
theorem op_pw6 {A B : Nat} {σ : sT} {r : Bool × sT} (h : OpAt A B σ r) (hp : σ 6 = -1) : r.2 6 = -1 := by
  obtain ⟨c, c1, c2, c3, c4, c5⟩ := h
  exact (c4 hp).2
theorem pwB_mo {B B' : Nat} {σ : sT} (h : pwB B σ) (hb : B' ≤ B) : pwB B' σ := h.elim Or.inl (fun ⟨k, h1, h2, h3⟩ => Or.inr ⟨k, h1, by omega, h3⟩)
theorem pwB_st {A B C : Nat} {σ : sT} {r : Bool × sT} (h : OpAt A B σ r) (hp : pwB (B + C) σ) : pwB C r.2 := by
  have ok := op_ok h (pwB_mo hp (by omega))
  obtain ⟨c, c1, c2, c3, c4, c5⟩ := h
  rcases hp with h | ⟨k, hk, hB, h⟩
  · exact Or.inl (c4 h).2
  · have := ((c5 k hk h).1 ok)
    exact Or.inr ⟨k - c, by omega, by omega, this.2⟩
theorem cnt_sub {a b : Int32} {c : Nat} (h : b = a + nI c) : b - a = nI c := by
  rw [h, Int32.add_comm, Int32.add_sub_cancel]
/-- an update that is no error: cut, or its operations -/
theorem upd_o {v : Int32} {thr : Bool} {σ : sT} (h : Inv σ) (he : errU v σ = 0) : ((fUpd v thr σ).1 = -4 ∧ (opU v thr (1 - tn (σ 8)) σ).1 = false) ∨ ((opU v thr (1 - tn (σ 8)) σ).1 = true ∧ ∃ c, 0 < c ∧ c ≤ 93 ∧ (fUpd v thr σ).1 = nI c ∧ (fUpd v thr σ).2 = upd (opU v thr (1 - tn (σ 8)) σ).2 4 0) := by
  have e : fUpd v thr σ = endU σ (opU v thr (1 - tn (σ 8)) σ) := if_pos he
  cases ok : (opU v thr (1 - tn (σ 8)) σ).1
  · refine Or.inl ⟨?_, rfl⟩
    rw [e, endU_f (pr_e ok)]
  · refine Or.inr ⟨rfl, ?_⟩
    obtain ⟨c, c1, c2, c3, _⟩ := op_opu (v := v) (thr := thr) (s := 1 - tn (σ 8)) h
    refine ⟨c, by have := c2 ok; omega, c1, ?_, ?_⟩
    · rw [e, endU_t (pr_e ok)]
      exact cnt_sub c3
    · rw [e, endU_t (pr_e ok)]
theorem upd_pw {v : Int32} {thr : Bool} {σ : sT} (h : Inv σ) (he : errU v σ = 0) (hp : pwB 93 σ) : (opU v thr (1 - tn (σ 8)) σ).1 = true := op_ok (op_opu h) hp
theorem nI_n4 {c : Nat} (h : c < 2 ^ 31) : ¬ nI c = -4 := fun e => by
  have h1 := nI_toInt h
  rw [e] at h1
  have : (-4 : Int32).toInt = -4 := by decide
  omega
theorem nI_npos {c : Nat} (h : c < 2 ^ 31) : ¬ nI c < 0 := fun e => by
  have := (nI_ltI (a := c) (b := 0) h (by decide)).mp e
  omega
theorem errU_c (v : Int32) (σ : sT) : errU v σ = 0 ∨ errU v σ = -3 ∨ errU v σ = -5 := by
  unfold errU
  split
  · split
    · exact Or.inr (Or.inr rfl)
    · exact Or.inl rfl
  · exact Or.inr (Or.inl rfl)
theorem act_6 {σ : sT} {k : Nat} {x : Int32} (h : k < 211) : activeI (upd σ k x) = activeI σ := by
  have g : ∀ p, genI (upd σ k x) p = genI σ p := fun p => by unfold genI; rw [upd_n (by omega)]
  have q : ∀ p, headB (upd σ k x) p = headB σ p := fun p => by unfold headB; rw [upd_n (by omega)]
  unfold activeI
  rw [q 0, q 1, g 0, g 1]
theorem tellK_u {σ : sT} {p k : Nat} {x : Int32} (h : k < 211) : ∀ {j : Nat}, tellK (upd σ k x) p j = tellK σ p j
  | 0 => rfl
  | j + 1 => by
    unfold tellK
    have e : recB (upd σ k x) p j = recB σ p j := by unfold recB; rw [upd_n (by omega)]
    rw [e, tellK_u h, upd_n (by omega)]
theorem told_u {σ : sT} {k : Nat} {x : Int32} (h : k < 211) (h2 : k ≠ 2) : told (upd σ k x) = told σ := by
  unfold told
  rw [act_6 h, nJ_of (upd_n (Ne.symm h2)), tellK_u h]
theorem errU_6 {v x : Int32} {σ : sT} : errU v (upd σ 6 x) = errU v σ := by
  unfold errU
  rw [told_u (by decide) (by decide), upd_n (by decide), upd_n (by decide), upd_n (by decide)]
theorem Inv.p6 {σ : sT} {x : Int32} (h : Inv σ) (hx : (-1 : Int) ≤ x.toInt) : Inv (upd σ 6 x) :=
  h.ch rfl rfl rfl rfl rfl rfl hx h.2.2.1 (h.2.1.up (by decide)) (fun j h2 h3 => by rw [upd_n (by omega)]; exact h.2.2.2.1 j h2 h3)
theorem Inv.pm {σ : sT} (h : Inv σ) : Inv (upd σ 6 (-1)) := h.p6 (by decide)
theorem Inv.pn {σ : sT} {k : Nat} (h : Inv σ) (hk : k < 2 ^ 31) : Inv (upd σ 6 (nI k)) := h.p6 (by rw [nI_toInt hk]; omega)
theorem pwB_m {B : Nat} {σ : sT} : pwB B (upd σ 6 (-1)) := Or.inl upd_s
theorem pwB_n {B k : Nat} {σ : sT} (h : B ≤ k) (hk : k < 2 ^ 31) : pwB B (upd σ 6 (nI k)) := Or.inr ⟨k, hk, h, upd_s⟩
theorem op_9 {A B : Nat} {σ τ : sT} {r : Bool × sT} (h : OpAt A B τ r) (h9 : τ 9 = σ 9) (h6 : τ 6 = σ 6) : OpAt A B σ r := by
  obtain ⟨c, c1, c2, c3, c4, c5⟩ := h
  exact ⟨c, c1, c2, by rw [c3, h9], fun q => c4 (h6.trans q), fun k hk q => c5 k hk (h6.trans q)⟩
/-- a boot's answer -/
theorem rest_c {σ : sT} (h : Inv σ) : (fRest σ).1 = -1 ∨ (fRest σ).1 = 0 ∨ (fRest σ).1 = 1 := by
  unfold fRest
  split
  · rename_i q
    obtain ⟨s, hs, e⟩ := told_s (told_ok h).2.1 q.1
    rcases s01 hs with q | q
    · exact Or.inr (Or.inl (e.trans q))
    · exact Or.inr (Or.inr (e.trans q))
  · split
    · exact Or.inr (Or.inl rfl)
    · split
      · exact Or.inr (Or.inr rfl)
      · exact Or.inl rfl
theorem try_c {σ : sT} (h : Inv σ) : (fTry σ).1 = -4 ∨ (fTry σ).1 = -1 ∨ (fTry σ).1 = 0 ∨ (fTry σ).1 = 1 := by
  by_cases h2 : told σ 2 = -1
  · exact Or.inr (Or.inl (by rw [fTry_n h2]))
  · obtain ⟨s, hs, e⟩ := told_s (told_ok h).2.2.1 h2
    cases hm : mayB σ
    · rw [fTry_b hs e hm]
      split
      · exact Or.inr (Or.inl rfl)
      · exact Or.inl rfl
    · rw [fTry_m hs e hm]
      split
      · exact Or.inr (Or.inr (s01 hs))
      · exact Or.inl rfl
theorem try_4 {σ : sT} (h : Inv σ) (hp : pwB 13 σ) : ¬ (fTry σ).1 = -4 := by
  by_cases h2 : told σ 2 = -1
  · rw [fTry_n h2]; exact (by decide : ¬ (-1 : Int32) = -4)
  · obtain ⟨s, hs, e⟩ := told_s (told_ok h).2.2.1 h2
    cases hm : mayB σ
    · rw [fTry_b hs e hm, if_pos (op_ok op_app hp)]; exact (by decide : ¬ (-1 : Int32) = -4)
    · rw [fTry_m hs e hm, if_pos (op_ok op_app hp)]
      exact nI_n4 (by omega)
theorem boot_c {σ : sT} (h : Inv σ) : (fBoot σ).1 = -4 ∨ (fBoot σ).1 = -1 ∨ (fBoot σ).1 = 0 ∨ (fBoot σ).1 = 1 := by
  unfold fBoot
  split
  · unfold fTR
    split
    · exact Or.inr (rest_c h.off.prep.try)
    · exact try_c h.off.prep
  · exact Or.inl rfl
theorem sOff_9 {σ : sT} : sOff σ 9 = σ 9 := rfl
theorem boot_4 {σ : sT} (h : Inv σ) (hp : pwB 15 σ) : ¬ (fBoot σ).1 = -4 := by
  have hp2 : pwB (2 + 13) (sOff σ) := hp
  unfold fBoot
  rw [if_pos (op_ok op_prep (pwB_mo hp2 (by decide)))]
  unfold fTR
  split
  · rcases rest_c h.off.prep.try with q | q | q <;> rw [q] <;> decide
  · exact try_4 h.off.prep (pwB_st op_prep hp2)

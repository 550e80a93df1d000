/-! POWER: a run of operations without a bound, and the same one with k operations left -/
def PI (B : Nat) (f : opT) (σ : sT) : Prop := σ 6 = -1 → ∃ c, c ≤ B ∧ (f σ).1 = true ∧ (f σ).2 6 = -1 ∧ (f σ).2 9 = σ 9 + nI c ∧ ∀ k, k < 2 ^ 31 → (c ≤ k → f (upd σ 6 (nI k)) = (true, upd (f σ).2 6 (nI (k - c)))) ∧ (k < c → (f (upd σ 6 (nI k))).1 = false)
theorem pi_mo {B B' : Nat} {f : opT} {σ : sT} (h : PI B f σ) (hb : B ≤ B') : PI B' f σ := fun h6 => by
  obtain ⟨c, h1, h2⟩ := h h6
  exact ⟨c, by omega, h2⟩
theorem upd_u {f : sT} {a : Nat} {x y : Int32} : upd (upd f a x) a y = upd f a y := funext fun k => by
  by_cases h : k = a
  · subst h; rw [upd_s, upd_s]
  · rw [upd_n h, upd_n h, upd_n h]
theorem upd_cm {f : sT} {a b : Nat} {x y : Int32} (h : a ≠ b) : upd (upd f a x) b y = upd (upd f b y) a x := funext fun k => by
  by_cases h1 : k = a
  · subst h1; rw [upd_n h, upd_s, upd_s]
  · rw [upd_n h1]
    by_cases h2 : k = b
    · subst h2; rw [upd_s, upd_s]
    · rw [upd_n h2, upd_n h1, upd_n h2]
theorem pi_ret {g : sT → sT} {σ : sT} (h6 : g σ 6 = σ 6) (h9 : g σ 9 = σ 9) (h : ∀ x, g (upd σ 6 x) = upd (g σ) 6 x) : PI 0 (fun σ => (true, g σ)) σ := by
  intro h0
  refine ⟨0, Nat.le_refl _, rfl, h6.trans h0, ?_, fun k hk => ⟨fun _ => ?_, fun q => absurd q (by omega)⟩⟩
  · show g σ 9 = σ 9 + 0
    rw [h9]
    exact (Int32.add_zero _).symm
  · show (true, g (upd σ 6 (nI k))) = (true, upd (g σ) 6 (nI (k - 0)))
    rw [h]
    rfl
theorem pi_dep {B : Nat} {F G : opT} {σ : sT} (h : F σ = G σ) (h2 : ∀ x, F (upd σ 6 x) = G (upd σ 6 x)) (hp : PI B G σ) : PI B F σ := by
  intro h6
  obtain ⟨c, a1, a2, a3, a4, a5⟩ := hp h6
  refine ⟨c, a1, by rw [h]; exact a2, by rw [h]; exact a3, by rw [h]; exact a4, fun k hk => ?_⟩
  rw [h, h2]
  exact a5 k hk
theorem has_m {σ : sT} (h : σ 6 = -1) : sHas σ = true := by unfold sHas; rw [h]; decide
theorem has_k {σ : sT} {k : Nat} (h : 0 < k) (hk : k < 2 ^ 31) : sHas (upd σ 6 (nI k)) = true := by
  unfold sHas
  rw [upd_s]
  exact decide_eq_true (nI_ne0 h hk)
theorem has_0 {σ : sT} : sHas (upd σ 6 (nI 0)) = false := by
  unfold sHas
  rw [upd_s]
  decide
theorem take_m {σ : sT} (h : σ 6 = -1) : sTake σ = upd σ 9 (σ 9 + 1) := sTake_n (by rw [h]; decide) (by rw [h]; decide)
theorem take_k {σ : sT} {k : Nat} (h6 : σ 6 = -1) (h : 0 < k) (hk : k < 2 ^ 31) : sTake (upd σ 6 (nI k)) = upd (sTake σ) 6 (nI (k - 1)) := by
  rw [take_m h6, sTake_p (by rw [upd_s]; exact nI_ne0 h hk) (by rw [upd_s]; exact nI_nle h hk), upd_s, upd_n (by decide)]
  obtain ⟨j, rfl⟩ : ∃ j, k = j + 1 := ⟨k - 1, by omega⟩
  rw [nI_pred, upd_cm (a := 6) (b := 9) (by decide), upd_u]
  rfl
theorem pi_take {K : sT → sT} {σ : sT} (h6 : σ 6 = -1 → K σ 6 = -1) (h9 : σ 6 = -1 → K σ 9 = σ 9 + 1) (h : σ 6 = -1 → ∀ k, 0 < k → k < 2 ^ 31 → K (upd σ 6 (nI k)) = upd (K σ) 6 (nI (k - 1))) : PI 1 (fun σ => (sHas σ, K σ)) σ := by
  intro h0
  refine ⟨1, Nat.le_refl _, has_m h0, h6 h0, h9 h0, fun k hk => ⟨fun q => ?_, fun q => ?_⟩⟩
  · show (sHas (upd σ 6 (nI k)), K (upd σ 6 (nI k))) = (true, upd (K σ) 6 (nI (k - 1)))
    rw [has_k (by omega) hk, h h0 k (by omega) hk]
  · obtain rfl : k = 0 := by omega
    exact has_0 (σ := σ)
theorem pi_wr {σ : sT} {a : Nat} {v : Int32} (h6 : a ≠ 6) (h9 : a ≠ 9) : PI 1 (fWr a v) σ := by
  refine pi_take (K := fun σ => sWr σ a v) (fun h => ?_) (fun h => ?_) (fun h k h0 hk => ?_)
  · show upd (sTake σ) a _ 6 = -1
    rw [upd_n (Ne.symm h6), take_m h, upd_n (by decide)]
    exact h
  · show upd (sTake σ) a _ 9 = σ 9 + 1
    rw [upd_n (Ne.symm h9), take_m h, upd_s]
  · show upd (sTake (upd σ 6 (nI k))) a _ = upd (upd (sTake σ) a _) 6 _
    rw [take_k h h0 hk, has_k h0 hk, has_m h, upd_n h6, upd_cm (Ne.symm h6)]
theorem fill_6 {σ : sT} {a c : Nat} {v x : Int32} (h : 6 < a) : sFill (upd σ 6 x) a c v = upd (sFill σ a c v) 6 x := funext fun k => by
  unfold sFill
  by_cases h1 : k = 6
  · subst h1
    rw [if_neg (by omega), upd_s, upd_s]
  · rw [upd_n h1, upd_n h1]
theorem pi_er {σ : sT} {a c r : Nat} {v : Int32} (ha : 9 < a) (hr : 9 < r) : PI 1 (fun σ => (sHas σ, sEr σ a c r v)) σ := by
  refine pi_take (K := fun σ => sEr σ a c r v) (fun h => ?_) (fun h => ?_) (fun h k h0 hk => ?_)
  · show upd (sFill (sTake σ) a _ v) r _ 6 = -1
    rw [upd_n (by omega), sFill_out (by omega), take_m h, upd_n (by decide)]
    exact h
  · show upd (sFill (sTake σ) a _ v) r _ 9 = σ 9 + 1
    rw [upd_n (by omega), sFill_out (by omega), take_m h, upd_s]
  · show upd (sFill (sTake (upd σ 6 (nI k))) a _ v) r _ = upd (upd (sFill (sTake σ) a _ v) r _) 6 _
    rw [take_k h h0 hk, has_k h0 hk, has_m h, upd_n (by omega), fill_6 (by omega), upd_cm (a := 6) (b := r) (by omega)]
theorem pi_sq {B1 B2 : Nat} {f g : opT} {σ : sT} (h1 : PI B1 f σ) (h2 : (f σ).1 = true → PI B2 g (f σ).2) : PI (B1 + B2) (sq f g) σ := by
  intro h6
  obtain ⟨c1, a1, a2, a3, a4, a5⟩ := h1 h6
  obtain ⟨c2, b1, b2, b3, b4, b5⟩ := h2 a2 a3
  have e : sq f g σ = g (f σ).2 := if_pos a2
  refine ⟨c1 + c2, by omega, by rw [e]; exact b2, by rw [e]; exact b3, ?_, fun k hk => ⟨fun q => ?_, fun q => ?_⟩⟩
  · rw [e, b4, a4, Int32.add_assoc, nI_add]
  · have e1 := (a5 k hk).1 (by omega)
    have e2 := (b5 (k - c1) (by omega)).1 (by omega)
    show (if (f (upd σ 6 (nI k))).1 = true then g (f (upd σ 6 (nI k))).2 else f (upd σ 6 (nI k))) = _
    rw [e1, if_pos rfl, e, e2, Nat.sub_sub]
  · show (if (f (upd σ 6 (nI k))).1 = true then g (f (upd σ 6 (nI k))).2 else f (upd σ 6 (nI k))).1 = false
    by_cases hc : k < c1
    · have e1 := (a5 k hk).2 hc
      rw [if_neg (by rw [e1]; decide)]
      exact e1
    · have e1 := (a5 k hk).1 (by omega)
      have e2 := (b5 (k - c1) (by omega)).2 (by omega)
      rw [e1, if_pos rfl]
      exact e2
theorem note_6 {σ : sT} {e : Nat} {x y : Int32} (he : e < 8) : sNote (upd σ 6 y) e x = upd (sNote σ e x) 6 y := funext fun k => by
  by_cases h1 : k = 6
  · subst h1
    rw [upd_s, sNote_ne (by decide) (by decide) (by omega), upd_s]
  · rw [upd_n h1]
    have e1 : nL (upd σ 6 y) = nL σ := by unfold nL; rw [upd_n (by decide)]
    have e2 : (upd σ 6 y) 9 = σ 9 := upd_n (by decide)
    unfold sNote
    rw [e1, e2, upd_n (by omega), upd_n h1]
    by_cases h3 : 1000 ≤ k
    · rw [upd_n (show k - 3 ≠ 6 by omega)]
    · simp only [if_neg h3]
theorem pi_note {σ : sT} {e : Nat} {x : Int32} (he : e < 8) : PI 0 (fNote e x) σ := pi_ret (g := fun σ => sNote σ e x) (sNote_ne (by decide) (by decide) (by omega)) (sNote_ne (by decide) (by decide) (by omega)) (fun y => note_6 he)
theorem pi_id {σ : sT} : PI 0 fId σ := pi_ret (g := fun σ => σ) rfl rfl (fun _ => rfl)
theorem pi_wl : ∀ {l : List Int32} {b : Nat} {σ : sT}, 9 < b → PI l.length (fWl b l) σ
  | [], _, _, _ => pi_id
  | w :: ws, b, σ, h => by
    rw [List.length_cons, Nat.add_comm]
    exact pi_sq (f := fWr b w) (g := fWl (b + 1) ws) (pi_wr (by omega) (by omega)) (fun _ => pi_wl (by omega))
theorem pi_it {f : Nat → opT} {B : Nat} {σ : sT} : ∀ {n : Nat}, (∀ k, k < n → ∀ τ, PI B (f k) τ) → PI (n * B) (itK f n) σ
  | 0, _ => by
    rw [Nat.zero_mul]
    exact pi_id
  | n + 1, h => by
    rw [Nat.succ_mul]
    exact pi_sq (f := itK f n) (g := f n) (pi_it (fun k hk => h k (by omega))) (fun _ => h n (by omega) _)
theorem pi_erj {σ : sT} {p : Nat} : PI 1 (fErJ p) σ := by
  refine pi_dep (G := fun τ => (sHas τ, sEr τ (211 + 32 * p) (nJ σ) (307 + p) 65535)) rfl (fun x => ?_) (pi_er (by omega) (by omega))
  show (sHas (upd σ 6 x), sEr (upd σ 6 x) (211 + 32 * p) (nJ (upd σ 6 x)) (307 + p) 65535) = _
  rw [nJ_of (upd_n (by decide))]
theorem pi_fmt {σ : sT} : PI 2 fFormat σ := pi_sq (f := fErJ 0) (B1 := 1) (B2 := 1) pi_erj (fun _ => pi_sq (f := fWr 211 _) (B1 := 1) (B2 := 0) (pi_wr (by decide) (by decide)) (fun _ => pi_note (by decide)))
theorem gen_6 {σ : sT} {p : Nat} {x : Int32} : genI (upd σ 6 x) p = genI σ p := by unfold genI; rw [upd_n (by omega)]
theorem free_6 {σ : sT} {p k : Nat} {x : Int32} : ffree (upd σ 6 x) p k = ffree σ p k := (free_c (fun j _ => upd_n (by omega))).1
theorem nJ_6 {σ : sT} {x : Int32} : nJ (upd σ 6 x) = nJ σ := nJ_of (upd_n (by decide))
theorem told_6 {σ : sT} {x : Int32} : told (upd σ 6 x) = told σ := told_u (by decide) (by decide)
theorem pi_mvp {σ : sT} {p : Nat} : PI 10 (fMoveP p) σ := by
  refine pi_dep (G := sq (fErJ (1 - p)) (sq (fWl (211 + 32 * (1 - p) + 1) (recs (told σ))) (sq (fWr (211 + 32 * (1 - p)) (wordI 6 ((genI σ p + 1) % 256))) (fNote 5 (nI (1 - p)))))) rfl (fun x => ?_) ?_
  · show sq _ (sq (fWl _ (recs (told (upd σ 6 x)))) (sq (fWr _ (wordI 6 ((genI (upd σ 6 x) p + 1) % 256))) _)) _ = _
    rw [told_6, gen_6]
  · exact pi_mo (pi_sq (B1 := 1) (B2 := 9) pi_erj (fun _ => pi_sq (B1 := 8) (B2 := 1) (pi_mo (pi_wl (by omega)) (recs_len _)) (fun _ => pi_sq (B1 := 1) (B2 := 0) (pi_wr (by omega) (by omega)) (fun _ => pi_note (by decide))))) (by decide)
theorem pi_rec {σ : sT} {k : Nat} {v : Int32} : PI 0 (fRec k v) σ := by
  unfold fRec
  split
  · exact pi_note (by decide)
  · split
    · exact pi_note (by decide)
    · split
      · exact pi_note (by decide)
      · exact pi_id
theorem pi_put {σ : sT} {k : Nat} {v : Int32} : PI 1 (fPut k v) σ := by
  refine pi_dep (G := sq (fWr (211 + 32 * tn (activeI σ) + ffree σ (tn (activeI σ)) (nJ σ)) (wordI (nI k) v)) (fRec k v)) rfl (fun x => ?_) (pi_sq (B1 := 1) (B2 := 0) (pi_wr (by omega) (by omega)) (fun _ => pi_rec))
  show sq (fWr (211 + 32 * tn (activeI (upd σ 6 x)) + ffree (upd σ 6 x) (tn (activeI (upd σ 6 x))) (nJ (upd σ 6 x))) _) _ _ = _
  rw [act_6 (by decide), free_6, nJ_6]
theorem pi_full {σ : sT} : PI 10 fFull σ := by
  by_cases h : ffree σ (tn (activeI σ)) (nJ σ) = nJ σ
  · refine pi_dep (G := fMoveP (tn (activeI σ))) (if_pos h) (fun x => ?_) pi_mvp
    refine (if_pos (by rw [act_6 (by decide), free_6, nJ_6]; exact h)).trans ?_
    show fMoveP (tn (activeI (upd σ 6 x))) _ = _
    rw [act_6 (by decide)]
  · refine pi_mo (pi_dep (G := fId) (if_neg h) (fun x => ?_) pi_id) (by decide)
    exact if_neg (by rw [act_6 (by decide), free_6, nJ_6]; exact h)
theorem pi_prep {σ : sT} : PI 2 fPrep σ := by
  by_cases h : activeI σ = -1
  · exact pi_dep (G := fFormat) (if_pos h) (fun x => if_pos (by rw [act_6 (by decide)]; exact h)) pi_fmt
  · exact pi_mo (pi_dep (G := fId) (if_neg h) (fun x => if_neg (by rw [act_6 (by decide)]; exact h)) pi_id) (by decide)

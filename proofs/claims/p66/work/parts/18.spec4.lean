theorem qmax_c : Cond.code Lib.Math.max.name Lib.Math.max.code 2 (some .int) ∈ TT := qc_J9_max_7cf53
theorem qmin_c : Cond.code Lib.Math.min.name Lib.Math.min.code 2 (some .int) ∈ TT := qc_J9_min_7cf53
theorem qmax_s : Cond.static Lib.Math.max.name ∈ TT := qs_J9_max_7cf53
theorem qmin_s : Cond.static Lib.Math.min.name ∈ TT := qs_J9_min_7cf53
theorem qmath_n : Cond.initialized "java/lang/Math" ∈ TT := qn_java_lang_Math
/-! what takes several operations: each has power or ends it -/
abbrev opT : Type := sT → Bool × sT
def sq (f g : opT) : opT := fun σ => if (f σ).1 = true then g (f σ).2 else f σ
def fWr (k : Nat) (v : Int32) : opT := fun σ => (sHas σ, sWr σ k v)
def fErJ (p : Nat) : opT := fun σ => (sHas σ, sErJ σ p)
def fErP (s p : Nat) : opT := fun σ => (sHas σ, sErP σ s p)
def fNote (e : Nat) (x : Int32) : opT := fun σ => (true, sNote σ e x)
def fId : opT := fun σ => (true, σ)
theorem sq_t {f g : opT} {σ : sT} (h : (f σ).1 = true) : sq f g σ = g (f σ).2 := if_pos h
theorem sq_f {f g : opT} {σ : sT} (h : (f σ).1 = false) : sq f g σ = f σ := if_neg (by rw [h]; decide)
def fFormat : opT := sq (fErJ 0) (sq (fWr 211 (wordI 6 0)) (fNote 6 0))
def fWl (b : Nat) : List Int32 → opT
  | [] => fId
  | w :: ws => sq (fWr b w) (fWl (b + 1) ws)
theorem fWl_app (σ : sT) (y : List Int32) : ∀ (x : List Int32) (b : Nat) (σ : sT), fWl b (x ++ y) σ = sq (fWl b x) (fWl (b + x.length) y) σ
  | [], b, σ => by simp [fWl, sq, fId]
  | w :: ws, b, σ => by
    simp only [List.cons_append, fWl, List.length_cons]
    unfold sq
    by_cases h : (fWr b w σ).1 = true
    · rw [if_pos h, if_pos h, fWl_app σ y ws (b + 1), show b + (ws.length + 1) = b + 1 + ws.length by omega]
      rfl
    · rw [if_neg h, if_neg h, if_neg h]
/-- the records of a state told -/
def rc1 (τ : sT) : List Int32 := if 0 < τ 0 then [wordI 1 (τ 0)] else []
def rc2 (τ : sT) : List Int32 := if τ 1 = -1 then [] else [wordI 2 (τ 1)]
def rc3 (τ : sT) (s : Nat) : List Int32 := if (τ 4 >>> (nI s &&& 31)) &&& 1 = 1 then [wordI 5 (nI s)] else []
def trN (τ : sT) : Nat := min 3 (tn (τ 3))
def rc4 (τ : sT) : List Int32 := if τ 2 = -1 then [] else wordI 3 (τ 2) :: List.replicate (trN τ) (wordI 4 (τ 2))
def recs (τ : sT) : List Int32 := rc1 τ ++ (rc2 τ ++ (rc3 τ 0 ++ (rc3 τ 1 ++ rc4 τ)))
theorem recs_len (τ : sT) : (recs τ).length ≤ 8 := by
  simp only [recs, List.length_append]
  have h1 : (rc1 τ).length ≤ 1 := by unfold rc1; split <;> simp
  have h2 : (rc2 τ).length ≤ 1 := by unfold rc2; split <;> simp
  have h3 : ∀ s, (rc3 τ s).length ≤ 1 := fun s => by unfold rc3; split <;> simp
  have h4 : (rc4 τ).length ≤ 4 := by
    unfold rc4 trN
    split
    · simp
    · simp only [List.length_cons, List.length_replicate]
      omega
  have := h3 0
  have := h3 1
  omega
def fMoveP (p : Nat) : opT := fun σ => sq (fErJ (1 - p)) (sq (fWl (211 + 32 * (1 - p) + 1) (recs (told σ))) (sq (fWr (211 + 32 * (1 - p)) (wordI 6 ((genI σ p + 1) % 256))) (fNote 5 (nI (1 - p))))) σ
def fMove : opT := fun σ => fMoveP (tn (activeI σ)) σ
def fRec (k : Nat) (v : Int32) : opT := if k = 3 then fNote 2 v else if k = 2 then fNote 3 v else if k = 5 then fNote 4 v else fId
def fPut (k : Nat) (v : Int32) : opT := fun σ => sq (fWr (211 + 32 * tn (activeI σ) + ffree σ (tn (activeI σ)) (nJ σ)) (wordI (nI k) v)) (fRec k v) σ
def fFull : opT := fun σ => if ffree σ (tn (activeI σ)) (nJ σ) = nJ σ then fMove σ else (true, σ)
def fPrep : opT := fun σ => if activeI σ = -1 then fFormat σ else (true, σ)
def fApp (k : Nat) (v : Int32) : opT := sq fPrep (sq fFull (fPut k v))
def sRun (σ : sT) (v : Int32) : sT := sNote (upd (upd σ 7 1) 8 v) 0 v
def sWait (σ : sT) : sT := sNote (upd σ 7 2) 7 0
theorem Inv.st {σ : sT} {a b : Int32} (h : Inv σ) (hr : (a = 0 ∧ b = -1) ∨ (a = 1 ∧ (b = 0 ∨ b = 1)) ∨ (a = 2 ∧ b = -1)) : Inv (upd (upd σ 7 a) 8 b) :=
  h.ch rfl rfl rfl rfl rfl rfl h.2.2.2.2.2.1 hr ((h.2.1.up (by decide)).up (by decide)) (fun j h2 h3 => by
    rw [upd_n (by omega), upd_n (by omega)]; exact h.2.2.2.1 j h2 h3)
theorem Inv.wt {σ : sT} (h : Inv σ) (h8 : σ 8 = -1) : Inv (upd σ 7 2) :=
  h.ch rfl rfl rfl rfl rfl rfl h.2.2.2.2.2.1 (Or.inr (Or.inr ⟨rfl, h8⟩)) (h.2.1.up (by decide)) (fun j h2 h3 => by
    rw [upd_n (by omega)]; exact h.2.2.2.1 j h2 h3)
theorem Inv.run {σ : sT} {s : Nat} (h : Inv σ) (hs : s < 2) : Inv (sRun σ (nI s)) := by
  refine (h.st (Or.inr (Or.inl ⟨rfl, ?_⟩))).note (by decide)
  match s, hs with
  | 0, _ => exact Or.inl rfl
  | 1, _ => exact Or.inr rfl
theorem Inv.wait {σ : sT} (h : Inv σ) (h8 : σ 8 = -1) : Inv (sWait σ) := (h.wt h8).note (by decide)
theorem Inv.fmt {σ : sT} (h : Inv σ) : Inv (fFormat σ).2 := by
  unfold fFormat sq fErJ fWr fNote
  dsimp only
  split
  · split
    · exact ((h.erj (by decide)).wr (by decide) (by decide)).note (by decide)
    · exact (h.erj (by decide)).wr (by decide) (by decide)
  · exact h.erj (by decide)
theorem Inv.wl {l : List Int32} : ∀ {b : Nat} {σ : sT}, Inv σ → 19 ≤ b → b + l.length ≤ 275 → Inv (fWl b l σ).2 := by
  induction l with
  | nil => intro b σ h _ _; exact h
  | cons w ws ih =>
    intro b σ h h1 h2
    simp only [List.length_cons] at h2
    unfold fWl sq fWr
    dsimp only
    split
    · exact ih (h.wr h1 (by omega)) (by omega) (by omega)
    · exact h.wr h1 (by omega)

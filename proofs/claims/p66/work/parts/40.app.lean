/-! THE CLASS: records moved and appended, in numbers -/
def RelE (d : Nat) (I : mI) (σ : sT) (T c N : Nat) : Prop := ∃ T1, T1 ≤ T + c ∧ RelD d I σ T1 N
theorem RelE.of {d : Nat} {I : mI} {σ : sT} {T T1 c N : Nat} (h : RelD d I σ T1 N) (hT : T1 ≤ T + c) : RelE d I σ T c N := ⟨T1, hT, h⟩
theorem fWl_1 (b : Nat) (w : Int32) (σ : sT) : fWl b [w] σ = fWr b w σ := fWl_one b w σ
theorem take_s {l : List Int32} {k : Nat} (hk : k < l.length) : l.take (k + 1) = l.take k ++ [l.getD k 0] := by
  rw [List.take_add_one, List.getD_eq_getElem?_getD, List.getElem?_eq_getElem hk]
  rfl
theorem wl_step {l : List Int32} {b k : Nat} {σ σ1 : sT} (hk : k < l.length) (h : fWl b (l.take k) σ = (true, σ1)) : fWl b (l.take (k + 1)) σ = fWr (b + k) (l.getD k 0) σ1 := by
  rw [take_s hk, fWl_app σ, sq_e h, List.length_take, Nat.min_eq_left (by omega), fWl_1]
theorem wl_stop {l : List Int32} {b k : Nat} {σ σ1 : sT} (hk : k < l.length) (h : fWl b (l.take k) σ = (true, σ1)) (ok : sHas σ1 = false) : fWl b l σ = (false, sWr σ1 (b + k) (l.getD k 0)) := by
  have e := wl_step hk h
  rw [fWr_e ok] at e
  conv => lhs; rw [← List.take_append_drop (k + 1) l]
  rw [fWl_app σ, sq_n e]
theorem gen_and {g : Nat} (h : g < 256) : (nI g + 1) &&& 255 = (nI g + 1) % 256 := by
  rw [show nI g + 1 = nI (g + 1) from nI_add g 1, an255 (by omega), show (256 : Int32) = nI 256 from rfl, n_mod (by omega) (by decide) (by decide)]
def badB (τ : sT) (s : Nat) : Bool := decide (¬ (τ 4 >>> (nI s &&& 31)) &&& 1 = 0)
theorem bit1 (x : Int32) : x &&& 1 = 0 ∨ x &&& 1 = 1 := by
  have h := pk_and x (m := 1) 1 (by decide)
  rw [h]
  have : x.toBitVec.toNat % 2 ^ 1 < 2 := Nat.mod_lt _ (by decide)
  generalize x.toBitVec.toNat % 2 ^ 1 = a at this
  match a, this with
  | 0, _ => exact Or.inl rfl
  | 1, _ => exact Or.inr rfl
  | a + 2, h => omega
theorem rc3_t {τ : sT} {s : Nat} (h : badB τ s = true) : rc3 τ s = [wordI 5 (nI s)] := by
  unfold badB at h
  rw [decide_eq_true_eq] at h
  unfold rc3
  rw [if_pos ((bit1 _).resolve_left h)]
theorem rc3_f {τ : sT} {s : Nat} (h : badB τ s = false) : rc3 τ s = [] := by
  unfold badB at h
  rw [decide_eq_false_iff_not, Classical.not_not] at h
  unfold rc3
  rw [if_neg (by rw [h]; decide)]
theorem canB_i {σ : sT} {s : Nat} : canB σ s = (wholeB σ s && (decide (told σ 0 ≤ σ (83 + 64 * s)) && !badB (told σ) s)) := by
  unfold canB badB
  congr 2
  by_cases h : (told σ 4 >>> (nI s &&& 31)) &&& 1 = 0
  · rw [decide_eq_true h, decide_eq_false (fun q => q h)]; rfl
  · rw [decide_eq_false h, decide_eq_true h]; rfl
/-- the records, as far as they are gathered -/
def GA (d : Nat) (I : mI) (pre : List Int32) (Iz : mI) : Prop := FD d [17] I Iz ∧ ∀ j, j < pre.length → Iz (d + 17) j = pre.getD j 0
theorem GA.push {d : Nat} {I Iz : mI} {pre : List Int32} {w : Int32} (h : GA d I pre Iz) : GA d I (pre ++ [w]) (up2 Iz (d + 17) pre.length w) := by
  refine ⟨h.1.up (by simp), fun j hj => ?_⟩
  rw [List.length_append] at hj
  simp only [List.length_cons, List.length_nil] at hj
  by_cases e : j = pre.length
  · subst e
    rw [up2_s, List.getD_eq_getElem?_getD, List.getElem?_append_right (by omega), Nat.sub_self]
    rfl
  · rw [up2_k e, h.2 j (by omega), List.getD_eq_getElem?_getD, List.getD_eq_getElem?_getD, List.getElem?_append_left (by omega)]
theorem GA.nil {d : Nat} {I : mI} : GA d I [] I := ⟨FD.rf, fun j hj => absurd hj (by simp)⟩
theorem GA.led {d : Nat} {I Iz : mI} {pre : List Int32} (h : GA d I pre Iz) : Iz (d + 16) = I (d + 16) := h.1 _ (by simp)
theorem fPut_e {σ τ : sT} {p k : Nat} {v : Int32} {b : Bool} (hp : p < 2) (h : activeI σ = nI p) (h2 : sHas σ = b) (ht : τ = if b = true then (fRec k v (sWr σ (211 + 32 * p + ffree σ p (nJ σ)) (wordI (nI k) v))).2 else sWr σ (211 + 32 * p + ffree σ p (nJ σ)) (wordI (nI k) v)) : fPut k v σ = (b, τ) := by
  subst ht
  rw [fPut_p hp h]
  cases b
  · rw [sq_n (fWr_e h2)]; rfl
  · rw [sq_e (fWr_e h2), if_pos rfl]
    exact Prod.ext fRec_1 rfl
theorem gnA {σ : sT} {p : Nat} (h : Inv σ) (hp : p < 2) : (genI σ p + 1) &&& 255 = (genI σ p + 1) % 256 := by
  rw [gen_n (h.2.2.2.1 (211 + 32 * p) (by omega) (by omega))]
  exact gen_and (Nat.mod_lt _ (by decide))

/-! what is told behind a move, a formatting, an appended record -/
theorem badB_f {τ : sT} {s : Nat} : badB τ s = false ↔ (τ 4 >>> (nI s &&& 31)) &&& 1 = 0 := by
  unfold badB
  rw [decide_eq_false_iff_not, Classical.not_not]
theorem nI_s {s t : Nat} (hs : s < 2) (ht : t < 2) (h : nI s = nI t) : s = t := (nI_eq (by omega) (by omega)).mp h
theorem takeI_C {τ : sT} {k : Nat} {v : Int32} {t : Nat} (ho : TauOk τ t) (hc : TauC τ) (hr : okR k v) : TauC (takeI τ (nI k) v) := by
  obtain ⟨c1, c2⟩ := hc
  have hb := ho.2.2.2.2
  rcases hr with ⟨rfl, f, hf, rfl⟩ | ⟨h1, h2, s, hs, rfl⟩
  · exact ⟨fun u hu e => c1 u hu e, fun u hu e => c2 u hu e⟩
  · match k, h1, h2 with
    | 0, h1, _ => omega
    | 1, h1, _ => omega
    | 2, _, _ =>
      refine ⟨fun u hu e => ?_, fun u hu e => ?_⟩
      · have e' : s = u := nI_s hs hu e
        subst e'
        exact badB_f.mpr ((one_bad hb hs hs).mpr (Or.inl rfl))
      · have e' : (if τ 2 = nI s then (-1 : Int32) else τ 2) = nI u := e
        split at e'
        · exact absurd e'.symm (nI_nm1 (by omega))
        · exact badB_f.mpr ((one_bad hb hs hu).mpr (Or.inr (badB_f.mp (c2 u hu e'))))
    | 3, _, _ =>
      refine ⟨fun u hu e => ?_, fun u hu e => ?_⟩
      · have e' : τ 1 = nI u := e
        exact badB_f.mpr ((one_bad hb hs hu).mpr (Or.inr (badB_f.mp (c1 u hu e'))))
      · have e' : s = u := nI_s hs hu e
        subst e'
        exact badB_f.mpr ((one_bad hb hs hs).mpr (Or.inl rfl))
    | 4, _, _ => exact ⟨fun u hu e => c1 u hu e, fun u hu e => c2 u hu e⟩
    | 5, _, _ =>
      refine ⟨fun u hu e => ?_, fun u hu e => ?_⟩
      · have e' : (if τ 1 = nI s then (-1 : Int32) else τ 1) = nI u := by
          have e2 : (if (nI 5 : Int32) = 5 ∧ τ 1 = nI s then (-1 : Int32) else τ 1) = nI u := e
          have e3 : ((nI 5 : Int32) = 5 ∧ τ 1 = nI s) = (τ 1 = nI s) := by simp; exact fun _ => rfl
          simpa only [e3] using e2
        split at e'
        · exact absurd e'.symm (nI_nm1 (by omega))
        · rename_i q
          exact badB_f.mpr ((or_bad hb hs hu).mpr ⟨fun w => q (by rw [e', w]), badB_f.mp (c1 u hu e')⟩)
      · have e' : (if τ 2 = nI s then (-1 : Int32) else τ 2) = nI u := e
        split at e'
        · exact absurd e'.symm (nI_nm1 (by omega))
        · rename_i q
          exact badB_f.mpr ((or_bad hb hs hu).mpr ⟨fun w => q (by rw [e', w]), badB_f.mp (c2 u hu e')⟩)
    | k + 6, _, h => omega
theorem tau0_C : TauC tau0 := ⟨fun u hu e => absurd e.symm (nI_nm1 (by omega)), fun u hu e => absurd e.symm (nI_nm1 (by omega))⟩
/-- a right record is one that can be appended -/
theorem rec_ok {σ : sT} {p k : Nat} (hw : wd (σ (211 + 32 * p + k))) (h : recB σ p k = true) : ∃ q : Nat, okR q (valI (σ (211 + 32 * p + k))) ∧ kindI (σ (211 + 32 * p + k)) = nI q := by
  have hri : rightI (σ (211 + 32 * p + k)) = true := by
    simp only [recB, Bool.and_eq_true] at h
    exact h.2.1
  have hv := val_le hw hri
  obtain ⟨f, hf, ef⟩ := rec_val hw
  rcases recB_k h with e | e | e | e | e <;> rw [e] at hv ⊢
  · exact ⟨1, Or.inl ⟨rfl, f, hf, ef⟩, rfl⟩
  · exact ⟨2, Or.inr ⟨by decide, by decide, hv (Or.inl rfl)⟩, rfl⟩
  · exact ⟨3, Or.inr ⟨by decide, by decide, hv (Or.inr (Or.inl rfl))⟩, rfl⟩
  · exact ⟨4, Or.inr ⟨by decide, by decide, hv (Or.inr (Or.inr (Or.inl rfl)))⟩, rfl⟩
  · exact ⟨5, Or.inr ⟨by decide, by decide, hv (Or.inr (Or.inr (Or.inr rfl)))⟩, rfl⟩
theorem tellK_C {σ : sT} {p : Nat} (hw : ∀ k, k < 32 → wd (σ (211 + 32 * p + k))) : ∀ {k : Nat}, k ≤ 32 → TauC (tellK σ p k)
  | 0, _ => tau0_C
  | k + 1, hk => by
    have ih := tellK_C (σ := σ) (p := p) hw (k := k) (by omega)
    unfold tellK
    split
    · rename_i h
      obtain ⟨q, hq, e⟩ := rec_ok (hw k (by omega)) h
      rw [e]
      exact takeI_C (tellK_ok hw (k := k) (by omega)) ih hq
    · exact ih
theorem told_C {σ : sT} (h : Inv σ) : TauC (told σ) := by
  have hb := h.bd
  unfold told
  split
  · exact tau0_C
  · exact tellK_C (fun k hk => h.2.2.2.1 _ (by omega) (by have := act_lt σ; omega)) (by omega)
/-! the records moved, told again -/
def rpA (g f : Int32) (b0 b1 : Bool) : List (Nat × Int32) := (if g = -1 then [] else [(2, g)]) ++ ((if b0 = true then [(5, nI 0)] else []) ++ ((if b1 = true then [(5, nI 1)] else []) ++ (if f = -1 then [] else [(3, f)])))
theorem fold_app : ∀ (x y : List (Nat × Int32)) (τ : sT), foldT τ (x ++ y) = foldT (foldT τ x) y
  | [], _, _ => rfl
  | x :: xs, y, τ => fold_app xs y _
theorem takeI_124 {τ τ' : sT} {k v : Int32} (h : ∀ j, (j = 1 ∨ j = 2 ∨ j = 4) → τ j = τ' j) : ∀ j, (j = 1 ∨ j = 2 ∨ j = 4) → takeI τ k v j = takeI τ' k v j := by
  intro j hj
  have t1 := h 1 (Or.inl rfl)
  have t2 := h 2 (Or.inr (Or.inl rfl))
  have t4 := h 4 (Or.inr (Or.inr rfl))
  unfold takeI
  split
  · rcases hj with rfl | rfl | rfl <;> simp [upd, t1, t2, t4]
  · split
    · rcases hj with rfl | rfl | rfl <;> simp [upd, t1, t2, t4]
    · rcases hj with rfl | rfl | rfl <;> simp only [t1, t2, t4]
theorem fold_124 : ∀ (l : List (Nat × Int32)) {τ τ' : sT}, (∀ j, (j = 1 ∨ j = 2 ∨ j = 4) → τ j = τ' j) → ∀ j, (j = 1 ∨ j = 2 ∨ j = 4) → foldT τ l j = foldT τ' l j
  | [], _, _, h => h
  | x :: xs, _, _, h => fold_124 xs (takeI_124 h)
theorem takeI_0 {τ : sT} {k v : Int32} (h : ¬ k = 1) : takeI τ k v 0 = τ 0 := by
  unfold takeI
  rw [if_neg h]
  split
  · simp [upd]
  · rfl
theorem fold_0 : ∀ (l : List (Nat × Int32)) {τ : sT}, (∀ x, x ∈ l → ¬ (nI x.1 : Int32) = 1) → foldT τ l 0 = τ 0
  | [], _, _ => rfl
  | x :: xs, τ, h => by
    show foldT (takeI τ (nI x.1) x.2) xs 0 = _
    rw [fold_0 xs (fun y hy => h y (List.mem_cons_of_mem _ hy)), takeI_0 (h x List.mem_cons_self)]
theorem fold_try {v : Int32} : ∀ (n : Nat) {τ : sT} {j : Nat}, j ≠ 3 → foldT τ (List.replicate n (4, v)) j = τ j
  | 0, _, _, _ => rfl
  | n + 1, τ, j, h => by
    show foldT (takeI τ (nI 4) v) (List.replicate n (4, v)) j = _
    rw [fold_try n h]
    show takeI τ 4 v j = _
    unfold takeI
    rw [if_neg (by decide), if_pos rfl]
    simp [upd, h]
theorem rpA_fold {g f : Int32} {a : Nat} (ha : a < 4) (hg : slotV g) (hf : slotV f) (c1 : ∀ s, s < 2 → g = nI s → (nI a >>> (nI s &&& 31)) &&& 1 = 0) (c2 : ∀ s, s < 2 → f = nI s → (nI a >>> (nI s &&& 31)) &&& 1 = 0) :
    foldT tau0 (rpA g f (decide (¬ (nI a >>> (nI 0 &&& 31)) &&& 1 = 0)) (decide (¬ (nI a >>> (nI 1 &&& 31)) &&& 1 = 0))) 1 = g ∧ foldT tau0 (rpA g f (decide (¬ (nI a >>> (nI 0 &&& 31)) &&& 1 = 0)) (decide (¬ (nI a >>> (nI 1 &&& 31)) &&& 1 = 0))) 2 = f ∧ foldT tau0 (rpA g f (decide (¬ (nI a >>> (nI 0 &&& 31)) &&& 1 = 0)) (decide (¬ (nI a >>> (nI 1 &&& 31)) &&& 1 = 0))) 4 = nI a := by
  have hg' : g = -1 ∨ g = 0 ∨ g = 1 := by
    rcases hg with h | ⟨s, hs, h⟩
    · exact Or.inl h
    · match s, hs with
      | 0, _ => exact Or.inr (Or.inl h)
      | 1, _ => exact Or.inr (Or.inr h)
  have hf' : f = -1 ∨ f = 0 ∨ f = 1 := by
    rcases hf with h | ⟨s, hs, h⟩
    · exact Or.inl h
    · match s, hs with
      | 0, _ => exact Or.inr (Or.inl h)
      | 1, _ => exact Or.inr (Or.inr h)
  have d10 := c1 0 (by decide)
  have d11 := c1 1 (by decide)
  have d20 := c2 0 (by decide)
  have d21 := c2 1 (by decide)
  clear c1 c2 hg hf
  match a, ha with
  | 0, _ => rcases hg' with rfl | rfl | rfl <;> rcases hf' with rfl | rfl | rfl <;> decide
  | 1, _ => rcases hg' with rfl | rfl | rfl <;> rcases hf' with rfl | rfl | rfl <;> first | decide | exact absurd (d10 rfl) (by decide) | exact absurd (d20 rfl) (by decide)
  | 2, _ => rcases hg' with rfl | rfl | rfl <;> rcases hf' with rfl | rfl | rfl <;> first | decide | exact absurd (d11 rfl) (by decide) | exact absurd (d21 rfl) (by decide)
  | 3, _ => rcases hg' with rfl | rfl | rfl <;> rcases hf' with rfl | rfl | rfl <;> first | decide | exact absurd (d10 rfl) (by decide) | exact absurd (d11 rfl) (by decide) | exact absurd (d20 rfl) (by decide) | exact absurd (d21 rfl) (by decide)
def rp (τ : sT) : List (Nat × Int32) := (if 0 < τ 0 then [(1, τ 0)] else []) ++ (rpA (τ 1) (τ 2) (badB τ 0) (badB τ 1) ++ (if τ 2 = -1 then [] else List.replicate (trN τ) (4, τ 2)))
theorem rp_recs (τ : sT) : recs τ = (rp τ).map (fun x => wordI (nI x.1) x.2) := by
  unfold recs rp rpA rc1 rc2 rc4
  have h0 : rc3 τ 0 = (if badB τ 0 = true then [(5, nI 0)] else [] : List (Nat × Int32)).map (fun x => wordI (nI x.1) x.2) := by
    by_cases h : badB τ 0 = true
    · rw [if_pos h, rc3_t h]; rfl
    · rw [if_neg h, rc3_f (Bool.eq_false_iff.mpr h)]; rfl
  have h1 : rc3 τ 1 = (if badB τ 1 = true then [(5, nI 1)] else [] : List (Nat × Int32)).map (fun x => wordI (nI x.1) x.2) := by
    by_cases h : badB τ 1 = true
    · rw [if_pos h, rc3_t h]; rfl
    · rw [if_neg h, rc3_f (Bool.eq_false_iff.mpr h)]; rfl
  rw [h0, h1]
  simp only [List.map_append, List.append_assoc]
  congr 1
  · split <;> rfl
  · congr 1
    · split <;> rfl
    · congr 2
      split
      · rfl
      · simp
        exact ⟨rfl, Or.inr rfl⟩
theorem rp_fold {τ : sT} {t : Nat} (ho : TauOk τ t) (hc : TauC τ) : ∀ j, j < 5 → j ≠ 3 → foldT tau0 (rp τ) j = τ j := by
  obtain ⟨⟨f, hf, e0⟩, s1, s2, _, a, ha, e4⟩ := ho
  have hT : ∀ j, j ≠ 3 → foldT tau0 (rp τ) j = foldT (foldT tau0 (if 0 < τ 0 then [(1, τ 0)] else [])) (rpA (τ 1) (τ 2) (badB τ 0) (badB τ 1)) j := fun j hj => by
    unfold rp
    rw [fold_app, fold_app]
    by_cases h2 : τ 2 = -1
    · rw [if_pos h2]; rfl
    · rw [if_neg h2]; exact fold_try _ hj
  have hx : ∀ j, (j = 1 ∨ j = 2 ∨ j = 4) → foldT tau0 (if 0 < τ 0 then [(1, τ 0)] else []) j = tau0 j := fun j hj => by
    split
    · show takeI tau0 1 (τ 0) j = _
      unfold takeI
      rw [if_pos rfl]
      rcases hj with rfl | rfl | rfl <;> rfl
    · rfl
  have hA := rpA_fold ha s1 s2 (fun s hs e => by have := badB_f.mp (hc.1 s hs e); rw [e4] at this; exact this) (fun s hs e => by have := badB_f.mp (hc.2 s hs e); rw [e4] at this; exact this)
  have hb0 : badB τ 0 = decide (¬ (nI a >>> (nI 0 &&& 31)) &&& 1 = 0) := by unfold badB; rw [e4]
  have hb1 : badB τ 1 = decide (¬ (nI a >>> (nI 1 &&& 31)) &&& 1 = 0) := by unfold badB; rw [e4]
  have hm := fold_124 (rpA (τ 1) (τ 2) (badB τ 0) (badB τ 1)) hx
  rw [hb0, hb1] at hm hT
  intro j hj h3
  rw [hT j h3]
  match j, hj with
  | 0, _ =>
    rw [fold_0]
    · split
      · rename_i h
        show takeI tau0 1 (τ 0) 0 = _
        unfold takeI
        rw [if_pos rfl]
        show (if (0 : Int32) < τ 0 then τ 0 else 0) = _
        rw [if_pos h]
      · rename_i h
        show (0 : Int32) = τ 0
        rw [e0] at h ⊢
        have : ¬ 0 < f := fun q => h ((nI_ltI (a := 0) (by decide) (by omega)).mpr q)
        obtain rfl : f = 0 := by omega
        rfl
    · intro x hx
      unfold rpA at hx
      simp only [List.mem_append] at hx
      rcases hx with h | h | h | h <;> (split at h <;> first | (simp at h; done) | (simp only [List.mem_cons, List.not_mem_nil, or_false] at h; subst h; first | exact (show ¬ (nI 2 : Int32) = 1 by decide) | exact (show ¬ (nI 5 : Int32) = 1 by decide) | exact (show ¬ (nI 3 : Int32) = 1 by decide)))
  | 1, _ => rw [hm 1 (Or.inl rfl)]; exact hA.1
  | 2, _ => rw [hm 2 (Or.inr (Or.inl rfl))]; exact hA.2.1
  | 3, _ => exact absurd rfl h3
  | 4, _ => rw [hm 4 (Or.inr (Or.inr rfl)), e4]; exact hA.2.2
  | j + 5, h => omega

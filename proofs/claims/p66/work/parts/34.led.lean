/-! THE CLASS: the ledger, in numbers -/
theorem wd_tn {x : Int32} (h : wd x) : x = nI (tn x) ∧ tn x < 65536 := by
  obtain ⟨a, ha, rfl⟩ := h
  rw [tn_nI (by omega)]
  exact ⟨rfl, ha⟩
theorem sh12 {a : Nat} (h : a < 2 ^ 31) : nI a >>> ((12 : Int32) &&& 31) = nI (a / 4096) := pk_shrN h _ 12 (by decide)
theorem sh4 {a : Nat} (h : a < 2 ^ 31) : nI a >>> ((4 : Int32) &&& 31) = nI (a / 16) := pk_shrN h _ 4 (by decide)
theorem an255 {a : Nat} (h : a < 2 ^ 31) : nI a &&& 255 = nI (a % 256) := pk_andN (by omega) 8 (by decide)
theorem an15 {a : Nat} (h : a < 2 ^ 31) : nI a &&& 15 = nI (a % 16) := pk_andN (by omega) 4 (by decide)
theorem an16 {a : Nat} (h : a < 2 ^ 31) : nI a &&& 65535 = nI (a % 65536) := pk_andN (by omega) 16 (by decide)
theorem sub255 {a b : Nat} (ha : a < 256) (hb : b < 256) : (nI a - nI b) &&& 255 = nI ((a + 256 - b) % 256) := by
  have h := pk_and (nI a - nI b) (m := 255) 8 (by decide)
  rw [h]
  congr 1
  have e : (nI a - nI b).toBitVec.toNat = (2 ^ 32 - b + a) % 2 ^ 32 := by
    rw [Int32.toBitVec_sub, BitVec.toNat_sub]
    have h1 : (nI a).toBitVec.toNat = a := pk_tn (by omega)
    have h2 : (nI b).toBitVec.toNat = b := pk_tn (by omega)
    rw [h1, h2]
  rw [e]
  omega
def rkN (a : Nat) : Nat := if 1 ≤ a / 4096 ∧ a / 4096 ≤ 6 ∧ a % 16 = (a / 4096 + a / 16 % 256 / 16 + a / 16 % 256 % 16) % 16 ∧ (a / 4096 < 2 ∨ 5 < a / 4096 ∨ a / 16 % 256 ≤ 1) then a / 4096 else 0
theorem rkN_le (a : Nat) : rkN a ≤ 6 := by
  unfold rkN
  split
  · rename_i h; exact h.2.1
  · omega
def entB (a : Nat) : Bool := decide (¬ rkN a = 0) && decide (¬ rkN a = 6)
theorem word_n {k v : Nat} (hk : k < 16) (hv : v < 256) : wordI (nI k) (nI v) = nI (4096 * k + 16 * v + (k + v / 16 + v % 16) % 16) := by
  unfold wordI
  rw [show (4096 : Int32) = nI 4096 from rfl, show (16 : Int32) = nI 16 from rfl, n_div (by omega) (by decide) (by decide), n_mod (by omega) (by decide) (by decide), pk_mul, pk_mul, nI_add, nI_add, nI_add, n_mod (by omega) (by decide) (by decide), nI_add]
theorem right_n {a : Nat} (ha : a < 65536) : rightI (nI a) = decide (¬ rkN a = 0) := by
  unfold rightI
  rw [kind_n ha, val_n ha, word_n (by omega) (by omega)]
  have h1 : inI (nI (a / 4096)) 1 6 = decide (1 ≤ a / 4096 ∧ a / 4096 ≤ 6) := by
    unfold inI
    rw [show (1 : Int32) = nI 1 from rfl, show (6 : Int32) = nI 6 from rfl]
    rw [Bool.eq_iff_iff]
    simp only [Bool.and_eq_true, decide_eq_true_eq]
    rw [nI_leI (by decide) (by omega), nI_leI (by omega) (by decide)]
  have h2 : inI (nI (a / 4096)) 2 5 = decide (2 ≤ a / 4096 ∧ a / 4096 ≤ 5) := by
    unfold inI
    rw [show (2 : Int32) = nI 2 from rfl, show (5 : Int32) = nI 5 from rfl]
    rw [Bool.eq_iff_iff]
    simp only [Bool.and_eq_true, decide_eq_true_eq]
    rw [nI_leI (by decide) (by omega), nI_leI (by omega) (by decide)]
  rw [h1, h2, Bool.eq_iff_iff]
  simp only [Bool.and_eq_true, Bool.or_eq_true, Bool.not_eq_true', decide_eq_true_eq, decide_eq_false_iff_not]
  rw [nI_eq (by omega) (by omega), show (1 : Int32) = nI 1 from rfl, nI_leI (by omega) (by decide)]
  unfold rkN
  split <;> omega
theorem rkN_k {a : Nat} (h : ¬ rkN a = 0) : rkN a = a / 4096 := by
  unfold rkN at h ⊢
  split
  · rfl
  · rename_i q; rw [if_neg q] at h; exact absurd rfl h
theorem ent_rec {σ : sT} {p k : Nat} (hk : 0 < k) (h : wd (σ (211 + 32 * p + k))) : entB (tn (σ (211 + 32 * p + k))) = recB σ p k := by
  obtain ⟨e, ha⟩ := wd_tn h
  unfold recB
  generalize tn (σ (211 + 32 * p + k)) = a at e ha
  rw [e, right_n ha, kind_n ha]
  unfold entB
  rw [Bool.eq_iff_iff]
  simp only [Bool.and_eq_true, Bool.not_eq_true', decide_eq_true_eq, decide_eq_false_iff_not]
  rw [show (6 : Int32) = nI 6 from rfl, nI_eq (by omega) (by decide)]
  refine ⟨fun q => ⟨hk, q.1, ?_⟩, fun q => ⟨q.2.1, ?_⟩⟩
  · rw [← rkN_k q.1]; exact q.2
  · rw [rkN_k q.2.1]; exact q.2.2
def dN (a b : Nat) : Nat := (b / 16 % 256 + 256 - a / 16 % 256) % 256
def actN (a b : Nat) : Int32 := if rkN a = 6 then (if rkN b = 6 then (if 1 ≤ dN a b ∧ dN a b ≤ 127 then 1 else 0) else 0) else if rkN b = 6 then 1 else -1
theorem head_n {σ : sT} {p : Nat} (h : wd (σ (211 + 32 * p))) : headB σ p = decide (rkN (tn (σ (211 + 32 * p))) = 6) := by
  obtain ⟨e, ha⟩ := wd_tn h
  unfold headB
  generalize tn (σ (211 + 32 * p)) = a at e ha
  rw [e, right_n ha, kind_n ha, Bool.eq_iff_iff]
  simp only [Bool.and_eq_true, decide_eq_true_eq]
  rw [show (6 : Int32) = nI 6 from rfl, nI_eq (by omega) (by decide)]
  refine ⟨fun q => ?_, fun q => ?_⟩
  · rw [rkN_k q.1]; exact q.2
  · have : ¬ rkN a = 0 := by omega
    exact ⟨this, by rw [← rkN_k this]; exact q⟩
theorem gen_n {σ : sT} {p : Nat} (h : wd (σ (211 + 32 * p))) : genI σ p = nI (tn (σ (211 + 32 * p)) / 16 % 256) := by
  obtain ⟨e, ha⟩ := wd_tn h
  unfold genI
  generalize tn (σ (211 + 32 * p)) = a at e ha
  rw [e, val_n ha]
theorem act_act {σ : sT} (h : Inv σ) : actN (tn (σ 211)) (tn (σ 243)) = activeI σ := by
  have w0 : wd (σ (211 + 32 * 0)) := h.2.2.2.1 _ (by decide) (by decide)
  have w1 : wd (σ (211 + 32 * 1)) := h.2.2.2.1 _ (by decide) (by decide)
  unfold activeI
  rw [head_n w0, head_n w1, gen_n w0, gen_n w1]
  rw [show 211 + 32 * 0 = 211 from rfl, show 211 + 32 * 1 = 243 from rfl]
  generalize tn (σ 211) = a
  generalize tn (σ 243) = b
  have e : (nI (b / 16 % 256) - nI (a / 16 % 256) + 256) % 256 = nI (dN a b) := by
    have e1 : nI (b / 16 % 256) - nI (a / 16 % 256) + 256 = nI (b / 16 % 256 + 256 - a / 16 % 256) := by
      rw [show (256 : Int32) = nI 256 from rfl]
      apply Int32.toInt_inj.mp
      have h1 : (nI (b / 16 % 256)).toInt = ((b / 16 % 256 : Nat) : Int) := nI_toInt (by omega)
      have h2 : (nI (a / 16 % 256)).toInt = ((a / 16 % 256 : Nat) : Int) := nI_toInt (by omega)
      have h3 : (nI 256).toInt = 256 := nI_toInt (by decide)
      rw [Int32.toInt_add, Int32.toInt_sub, h1, h2, h3, nI_toInt (by omega)]
      have k1 : ((b / 16 % 256 : Nat) : Int) < 256 := by omega
      have k2 : ((a / 16 % 256 : Nat) : Int) < 256 := by omega
      rw [Int.bmod_eq_of_le (n := (((b / 16 % 256 : Nat) : Int) - ((a / 16 % 256 : Nat) : Int))) (by omega) (by omega), Int.bmod_eq_of_le (by omega) (by omega)]
      omega
    rw [e1, show (256 : Int32) = nI 256 from rfl, n_mod (by omega) (by decide) (by decide)]
    rfl
  have hd : dN a b < 256 := Nat.mod_lt _ (by decide)
  have i1 : inI (nI (dN a b)) 1 127 = decide (1 ≤ dN a b ∧ dN a b ≤ 127) := by
    unfold inI
    rw [show (1 : Int32) = nI 1 from rfl, show (127 : Int32) = nI 127 from rfl, Bool.eq_iff_iff]
    simp only [Bool.and_eq_true, decide_eq_true_eq]
    rw [nI_leI (by decide) (by omega), nI_leI (by omega) (by decide)]
  rw [e, i1]
  unfold actN
  simp only [decide_eq_true_eq]
def cntN (σ : sT) (p : Nat) : Nat → Nat
  | 0 => 0
  | k + 1 => if recB σ p k = true then cntN σ p k + 1 else cntN σ p k
def splN (σ : sT) (p : Nat) : Nat → Nat
  | 0 => 0
  | k + 1 => if k = 0 ∨ σ (211 + 32 * p + k) = 65535 ∨ recB σ p k = true then splN σ p k else splN σ p k + 1
theorem cntN_le (σ : sT) (p : Nat) : ∀ k, cntN σ p k ≤ k
  | 0 => Nat.le_refl _
  | k + 1 => by
    have := cntN_le σ p k
    unfold cntN
    split <;> omega
theorem splN_le (σ : sT) (p : Nat) : ∀ k, splN σ p k ≤ k
  | 0 => Nat.le_refl _
  | k + 1 => by
    have := splN_le σ p k
    unfold splN
    split <;> omega
theorem rec_ff {σ : sT} {p k : Nat} (h : σ (211 + 32 * p + k) = 65535) : recB σ p k = false := by
  unfold recB
  rw [h, show rightI 65535 = false from by decide]
  simp
/-- what a ledger that was just read holds -/
def LedR (d : Nat) (I : mI) (σ : sT) : Prop := I (d + 16) 0 = activeI σ ∧ (activeI σ = -1 → I (d + 16) 1 = -1 ∧ I (d + 16) 2 = 0 ∧ I (d + 16) 3 = 0 ∧ I (d + 16) 4 = 0) ∧ (∀ p, p < 2 → activeI σ = nI p → I (d + 16) 1 = genI σ p ∧ I (d + 16) 2 = nI (ffree σ p (nJ σ)) ∧ I (d + 16) 3 = nI (cntN σ p (nJ σ)) ∧ I (d + 16) 4 = nI (splN σ p (nJ σ))) ∧ ∀ j, j < 5 → I (d + 16) (5 + j) = told σ j
theorem LedR.of {d : Nat} {I I' : mI} {σ : sT} (h : LedR d I σ) (e : I' (d + 16) = I (d + 16)) : LedR d I' σ := by
  unfold LedR at h ⊢
  rw [e]
  exact h
theorem free_1 {σ : sT} {p : Nat} (h : headB σ p = true) : ffree σ p 1 = 1 := by
  unfold ffree
  rw [if_neg]
  intro q
  unfold headB at h
  rw [show 211 + 32 * p = 211 + 32 * p + 0 from rfl, q] at h
  exact absurd h (by decide)
theorem kv_n {x : Int32} (h : wd x) : kindI x = nI (tn x / 4096) ∧ valI x = nI (tn x / 16 % 256) := by
  obtain ⟨e, ha⟩ := wd_tn h
  generalize tn x = a at e ha
  rw [e, kind_n ha, val_n ha]
  exact ⟨rfl, rfl⟩
theorem recK {x : Int32} (_h : wd x) (he : entB (tn x) = true) : nI (tn x / 4096) = 1 ∨ nI (tn x / 4096) = 2 ∨ nI (tn x / 4096) = 3 ∨ nI (tn x / 4096) = 4 ∨ nI (tn x / 4096) = 5 := by
  unfold entB at he
  simp only [Bool.and_eq_true, decide_eq_true_eq] at he
  have h1 := rkN_le (tn x)
  rw [← rkN_k he.1]
  generalize rkN (tn x) = a at he h1
  match a, he, h1 with
  | 0, he, _ => exact absurd rfl he.1
  | 1, _, _ => exact Or.inl rfl
  | 2, _, _ => exact Or.inr (Or.inl rfl)
  | 3, _, _ => exact Or.inr (Or.inr (Or.inl rfl))
  | 4, _, _ => exact Or.inr (Or.inr (Or.inr (Or.inl rfl)))
  | 5, _, _ => exact Or.inr (Or.inr (Or.inr (Or.inr rfl)))
  | 6, he, _ => exact absurd rfl he.2
  | a + 7, _, h => omega
theorem FD.of16 {d : Nat} {l : List Nat} {I I' : mI} (h : FF (d + 16) [] l I I') : FD d [16] I I' := fun b hb => h.1 b (hb 16 (by simp)) (fun _ q => by simp at q)
/-! places, by name -/
theorem lc_1_2 {N : Nat} : Loc N 1 2 0 := Or.inl ⟨rfl, Or.inl ⟨rfl, rfl⟩⟩
theorem lc_1_3 {N : Nat} : Loc N 1 3 1 := Or.inl ⟨rfl, Or.inr (Or.inl ⟨rfl, rfl⟩)⟩
theorem lc_1_5 {N : Nat} : Loc N 1 5 2 := Or.inl ⟨rfl, Or.inr (Or.inr (Or.inl ⟨rfl, rfl⟩))⟩
theorem lc_1_6 {N : Nat} : Loc N 1 6 5 := Or.inl ⟨rfl, Or.inr (Or.inr (Or.inr (Or.inl ⟨rfl, rfl⟩)))⟩
theorem lc_1_7 {N : Nat} : Loc N 1 7 6 := Or.inl ⟨rfl, Or.inr (Or.inr (Or.inr (Or.inr (Or.inl ⟨rfl, rfl⟩))))⟩
theorem lc_1_8 {N : Nat} : Loc N 1 8 9 := Or.inl ⟨rfl, Or.inr (Or.inr (Or.inr (Or.inr (Or.inr ⟨rfl, rfl⟩))))⟩
theorem lc_0_5 {N : Nat} : Loc N 0 5 4 := Or.inr (Or.inl ⟨rfl, Or.inl ⟨rfl, rfl⟩⟩)
theorem lc_0_6 {N : Nat} : Loc N 0 6 3 := Or.inr (Or.inl ⟨rfl, Or.inr (Or.inl ⟨rfl, rfl⟩)⟩)
theorem lc_0_7 {N : Nat} : Loc N 0 7 7 := Or.inr (Or.inl ⟨rfl, Or.inr (Or.inr (Or.inl ⟨rfl, rfl⟩))⟩)
theorem lc_0_8 {N : Nat} : Loc N 0 8 8 := Or.inr (Or.inl ⟨rfl, Or.inr (Or.inr (Or.inr ⟨rfl, rfl⟩))⟩)
theorem lc_s {N s k : Nat} (hs : s < 2) (hk : k < 64) : Loc N (3 + s) k (83 + 64 * s + k) := Or.inr (Or.inr (Or.inl ⟨by omega, by omega, hk, by omega⟩))
theorem lc_j {N p k : Nat} (hp : p < 2) (hk : k < 32) : Loc N (3 + (2 + p)) k (211 + 32 * p + k) := Or.inr (Or.inr (Or.inr (Or.inl ⟨by omega, by omega, hk, by omega⟩)))
theorem lc_s0 {N k : Nat} (hk : k < 64) : Loc N 3 k (83 + k) := Or.inr (Or.inr (Or.inl ⟨by omega, by omega, hk, by omega⟩))
theorem lc_s1 {N k : Nat} (hk : k < 64) : Loc N 4 k (147 + k) := Or.inr (Or.inr (Or.inl ⟨by omega, by omega, hk, by omega⟩))
theorem lc_j0 {N k : Nat} (hk : k < 32) : Loc N 5 k (211 + k) := Or.inr (Or.inr (Or.inr (Or.inl ⟨by omega, by omega, hk, by omega⟩)))
theorem lc_j1 {N k : Nat} (hk : k < 32) : Loc N 6 k (243 + k) := Or.inr (Or.inr (Or.inr (Or.inl ⟨by omega, by omega, hk, by omega⟩)))
theorem lc_w {N s k : Nat} (hs : s < 2) (hk : k < 16) : Loc N (8 + s) k (275 + 16 * s + k) := Or.inr (Or.inr (Or.inr (Or.inr (Or.inl ⟨by omega, by omega, hk, by omega⟩))))
theorem lc_w0 {N k : Nat} (hk : k < 16) : Loc N 8 k (275 + k) := Or.inr (Or.inr (Or.inr (Or.inr (Or.inl ⟨by omega, by omega, hk, by omega⟩))))
theorem lc_w1 {N k : Nat} (hk : k < 16) : Loc N 9 k (291 + k) := Or.inr (Or.inr (Or.inr (Or.inr (Or.inl ⟨by omega, by omega, hk, by omega⟩))))
theorem lc_w2 {N k : Nat} (hk : k < 2) : Loc N 10 k (307 + k) := Or.inr (Or.inr (Or.inr (Or.inr (Or.inr (Or.inl ⟨rfl, hk, rfl⟩)))))
theorem lc_c {N k : Nat} (hk : k < 8) : Loc N 15 k (11 + k) := Or.inr (Or.inr (Or.inr (Or.inr (Or.inr (Or.inr (Or.inl ⟨rfl, hk, rfl⟩))))))
theorem lc_t {N k : Nat} (hk : 3 ≤ k) (h2 : k < 3 + N) : Loc N 18 k (16 + k) := Or.inr (Or.inr (Or.inr (Or.inr (Or.inr (Or.inr (Or.inr ⟨rfl, hk, h2, rfl⟩))))))
theorem lc_sf {N s a j : Nat} (hs : s < 2) (hk : a + j < 64) : Loc N (3 + s) (a + j) (83 + 64 * s + a + j) := by
  rw [Nat.add_assoc (83 + 64 * s)]
  exact lc_s hs hk
theorem lc_jf {N p j : Nat} (hp : p < 2) (hk : j < 32) : Loc N (3 + (2 + p)) (0 + j) (211 + 32 * p + j) := by
  rw [Nat.zero_add]
  exact lc_j hp hk
theorem lc_jf0 {N j : Nat} (hk : j < 32) : Loc N 5 (0 + j) (211 + j) := by
  rw [Nat.zero_add]
  exact lc_j0 hk

/-! THE LAW: letters into longs, longs into the class's text -/
def preT (T : tT) (k : Nat) : tT := fun j => if j < k then T j else 0
def pkI (T : tT) (q : Nat) : Nat → Int64
  | 0 => 0
  | r + 1 => (pkI T q r <<< (Int32.toInt64 8 &&& 63)) ||| (nI (T (q + r))).toInt64
def pkN (T : tT) (q : Nat) : Nat → Nat
  | 0 => 0
  | r + 1 => pkN T q r * 256 + T (q + r)
def Asc (T : tT) (L : Nat) : Prop := ∀ k, k < L → 0 < T k ∧ T k < 128
theorem pkN_lt {T : tT} {q : Nat} : ∀ m : Nat, (∀ k, k < m → T (q + k) < 128) → pkN T q m < 256 ^ m
  | 0, _ => Nat.one_pos
  | m + 1, h => by
    have h1 := pkN_lt m (fun k hk => h k (by omega))
    have h2 := h m (by omega)
    show pkN T q m * 256 + T (q + m) < 256 ^ m * 256
    omega
theorem shl_or (x : Int64) (c : Nat) (hx : x.toBitVec.toNat < 2 ^ 56) (hc : c < 128) : ((x <<< (Int32.toInt64 8 &&& 63)) ||| (nI c).toInt64).toBitVec.toNat = x.toBitVec.toNat * 256 + c := by
  have e8 : (Int32.toInt64 8 &&& 63 : Int64) = 8 := by decide
  have es : (x <<< (8 : Int64)).toBitVec.toNat = x.toBitVec.toNat * 256 := by
    rw [Int64.toBitVec_shiftLeft]
    have e9 : ((8 : Int64).toBitVec.smod 64) = 8#64 := by decide
    rw [e9, BitVec.shiftLeft_eq', BitVec.toNat_shiftLeft]
    show (x.toBitVec.toNat <<< 8) % 2 ^ 64 = _
    rw [Nat.shiftLeft_eq]
    omega
  rw [e8, Int64.toBitVec_or, BitVec.toNat_or, es, i64_n c (by omega)]
  have := Nat.two_pow_add_eq_or_of_lt (i := 8) (b := c) (by omega) x.toBitVec.toNat
  rw [Nat.mul_comm (2 ^ 8)] at this
  exact this.symm
theorem pkI_n {T : tT} {q : Nat} : ∀ m : Nat, m ≤ 8 → (∀ k, k < m → T (q + k) < 128) → (pkI T q m).toBitVec.toNat = pkN T q m
  | 0, _, _ => rfl
  | m + 1, hm, h => by
    have h1 := pkI_n m (by omega) (fun k hk => h k (by omega))
    have h2 := h m (by omega)
    have h3 := pkN_lt m (fun k hk => h k (by omega))
    have h4 : 256 ^ m ≤ 256 ^ 7 := Nat.pow_le_pow_right (by decide) (by omega)
    have h5 : (256 : Nat) ^ 7 = 2 ^ 56 := by decide
    show ((pkI T q m <<< (Int32.toInt64 8 &&& 63)) ||| (nI (T (q + m))).toInt64).toBitVec.toNat = pkN T q m * 256 + T (q + m)
    rw [shl_or _ _ (by rw [h1]; omega) h2, h1]
theorem pkN_d {T : tT} {q : Nat} : ∀ (m d : Nat), (∀ k, k < m → T (q + k) < 128) → pkN T q m / 256 ^ d % 256 = if d < m then T (q + (m - 1 - d)) else 0
  | 0, d, _ => by
    rw [if_neg (by omega)]
    show 0 / 256 ^ d % 256 = 0
    rw [Nat.zero_div]
  | m + 1, 0, h => by
    rw [if_pos (by omega)]
    have h2 := h m (by omega)
    show (pkN T q m * 256 + T (q + m)) / 1 % 256 = T (q + m)
    omega
  | m + 1, d + 1, h => by
    have h1 := pkN_d m d (fun k hk => h k (by omega))
    have h2 := h m (by omega)
    have e : pkN T q (m + 1) / 256 ^ (d + 1) = pkN T q m / 256 ^ d := by
      show (pkN T q m * 256 + T (q + m)) / (256 ^ d * 256) = _
      rw [Nat.mul_comm (256 ^ d) 256, ← Nat.div_div_eq_div_mul]
      congr 1
      omega
    rw [e, h1]
    by_cases c : d < m
    · rw [if_pos c, if_pos (by omega), show m + 1 - 1 - (d + 1) = m - 1 - d by omega]
    · rw [if_neg c, if_neg (by omega)]
theorem qb_pk {T : tT} {q m j : Nat} (hm : m ≤ 8) (hj : j < 8) (h : ∀ k, k < m → T (q + k) < 128) : qb (pkI T q m) j = if 8 ≤ j + m then T (q + (j + m - 8)) else 0 := by
  unfold qb
  rw [pkI_n m hm h]
  have e : 2 ^ (56 - 8 * j) = 256 ^ (7 - j) := by
    rw [show (256 : Nat) = 2 ^ 8 by decide, ← Nat.pow_mul]
    congr 1
    omega
  rw [e, pkN_d m (7 - j) h]
  by_cases c : 8 ≤ j + m
  · rw [if_pos c, if_pos (by omega), show m - 1 - (7 - j) = j + m - 8 by omega]
  · rw [if_neg c, if_neg (by omega)]
theorem preT_up {T : tT} {p : Nat} : updT (preT T p) p (T p) = preT T (p + 1) := by
  funext j
  unfold updT preT
  by_cases e : j = p
  · subst e
    rw [if_pos rfl, if_pos (by omega)]
  · rw [if_neg e]
    by_cases c : j < p
    · rw [if_pos c, if_pos (by omega)]
    · rw [if_neg c, if_neg (by omega)]
theorem ap_pk {T : tT} {q m : Nat} (hm : m ≤ 8) (h : ∀ k, k < m → 0 < T (q + k) ∧ T (q + k) < 128) : ∀ j : Nat, j ≤ 8 → apC (pkI T q m) j = j + m - 8 ∧ apT (preT T q) q (pkI T q m) j = preT T (q + (j + m - 8))
  | 0, _ => ⟨by show 0 = _; omega, by show preT T q = _; rw [show 0 + m - 8 = 0 by omega]; rfl⟩
  | j + 1, hj => by
    obtain ⟨h1, h2⟩ := ap_pk hm h j (by omega)
    have h3 := qb_pk (T := T) (q := q) (m := m) (j := j) hm (by omega) (fun k hk => (h k hk).2)
    by_cases c : 8 ≤ j + m
    · rw [if_pos c] at h3
      have h4 := h (j + m - 8) (by omega)
      have h5 : ¬ qb (pkI T q m) j = 0 := by rw [h3]; omega
      refine ⟨by rw [apC_n h5, h1]; omega, ?_⟩
      rw [apT_n h5, h1, h2, h3, preT_up]
      congr 1
      omega
    · rw [if_neg c] at h3
      refine ⟨by rw [apC_y h3, h1]; omega, ?_⟩
      rw [apT_y h3, h2]
      congr 1
      omega
theorem ap_8 {T : tT} {q m : Nat} (hm : m ≤ 8) (h : ∀ k, k < m → 0 < T (q + k) ∧ T (q + k) < 128) (h9 : q + m ≤ 900) : apT8 (preT T q) q (pkI T q m) = preT T (q + m) ∧ apN8 q (pkI T q m) = q + m := by
  obtain ⟨h1, h2⟩ := ap_pk hm h 8 (Nat.le_refl _)
  have e : 8 + m - 8 = m := by omega
  rw [e] at h1 h2
  exact ⟨(if_neg (by rw [h1]; omega)).trans h2, (if_neg (by rw [h1]; omega)).trans (by rw [h1])⟩
theorem preT_all {T : tT} {L : Nat} (h : ∀ k, L ≤ k → T k = 0) : preT T L = T := by
  funext j
  unfold preT
  split
  · rfl
  · rw [h j (by omega)]

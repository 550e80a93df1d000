/-! eight bytes to a text -/
def kq (j : Nat) : Int32 := 56 - nI (8 * j)
theorem kq_s {j : Nat} (hj : j < 8) : kq j + (-8) = kq (j + 1) := by
  have h : ∀ j : Nat, j < 8 → kq j + (-8) = kq (j + 1) := by decide
  exact h j hj
theorem kq_l {j : Nat} (hj : j ≤ 8) : kq j < 0 ↔ j = 8 := by
  have h : ∀ j : Nat, j < 9 → (kq j < 0 ↔ j = 8) := by decide
  exact h j (by omega)
def qb (x : Int64) (j : Nat) : Nat := x.toBitVec.toNat / 2 ^ (56 - 8 * j) % 256
theorem qb_lt {x : Int64} {j : Nat} : qb x j < 256 := Nat.mod_lt _ (by decide)
def kz (x : Int64) (j : Nat) : Int64 := (x.toUInt64 >>> ((kq j : Int32).toInt64.toUInt64 &&& Int64.toUInt64 63)).toInt64
theorem kz_n {x : Int64} {j : Nat} (hj : j < 8) : (kz x j).toBitVec.toNat = x.toBitVec.toNat / 2 ^ (56 - 8 * j) := by
  have hs : ∀ j : Nat, j < 8 → (((kq j : Int32).toInt64.toUInt64 &&& Int64.toUInt64 63).toBitVec % 64).toNat = 56 - 8 * j := by decide +kernel
  unfold kz
  show ((x.toUInt64 >>> ((kq j : Int32).toInt64.toUInt64 &&& Int64.toUInt64 63)).toBitVec).toNat = _
  rw [UInt64.toBitVec_shiftRight, BitVec.ushiftRight_eq', BitVec.toNat_ushiftRight, hs j hj, Nat.shiftRight_eq_div_pow]
  rfl
theorem i64_n : ∀ q : Nat, q < 256 → (Int32.toInt64 (nI q)).toBitVec.toNat = q := by decide +kernel
theorem kz_and {x : Int64} {j : Nat} (hj : j < 8) : kz x j &&& 255 = Int32.toInt64 (nI (qb x j)) := by
  apply Int64.toBitVec_inj.mp
  apply BitVec.eq_of_toNat_eq
  rw [i64_n _ qb_lt, Int64.toBitVec_and, BitVec.toNat_and, kz_n hj]
  have e : (255 : Int64).toBitVec.toNat = 2 ^ 8 - 1 := by decide
  rw [e, Nat.and_two_pow_sub_one_eq_mod]
  rfl
theorem qb_z {q : Nat} (h : q < 256) : Int32.toInt64 (nI q) = 0 ↔ q = 0 := by
  constructor
  · intro e
    have := i64_n q h
    rw [e] at this
    exact this.symm
  · intro e
    subst e
    rfl
theorem kz_b {x : Int64} {j : Nat} (hj : j < 8) : (Int64.toInt32 (kz x j)).toInt8.toInt32 = sg (qb x j) := by
  have e : (Int64.toInt32 (kz x j)).toInt8 = (nI (qb x j)).toInt8 := by
    apply Int8.toBitVec_inj.mp
    apply BitVec.eq_of_toNat_eq
    rw [Int32.toBitVec_toInt8, Int32.toBitVec_toInt8, Int64.toBitVec_toInt32, BitVec.signExtend_eq_setWidth_of_le _ (by decide), BitVec.signExtend_eq_setWidth_of_le _ (by decide), BitVec.signExtend_eq_setWidth_of_le _ (by decide), BitVec.toNat_setWidth, BitVec.toNat_setWidth, BitVec.toNat_setWidth, kz_n hj]
    have e2 : (nI (qb x j)).toBitVec.toNat = qb x j := pk_tn (by have := qb_lt (x := x) (j := j); omega)
    rw [e2]
    unfold qb
    omega
  unfold sg
  rw [e]
theorem sg_nar {v : Nat} (hv : v < 256) : vp_nar .byte (sg v) = sg v := by
  have h : ∀ v : Nat, v < 256 → vp_nar .byte (sg v) = sg v := by decide +kernel
  exact h v hv
def updT (T : tT) (k v : Nat) : tT := fun j => if j = k then v else T j
def apC (x : Int64) : Nat → Nat
  | 0 => 0
  | j + 1 => apC x j + (if qb x j = 0 then 0 else 1)
def apT (T : tT) (n : Nat) (x : Int64) : Nat → tT
  | 0 => T
  | j + 1 => if qb x j = 0 then apT T n x j else updT (apT T n x j) (n + apC x j) (qb x j)
theorem apC_y {x : Int64} {j : Nat} (h : qb x j = 0) : apC x (j + 1) = apC x j := by
  show apC x j + (if qb x j = 0 then 0 else 1) = _
  rw [if_pos h, Nat.add_zero]
theorem apC_n {x : Int64} {j : Nat} (h : ¬ qb x j = 0) : apC x (j + 1) = apC x j + 1 := by
  show apC x j + (if qb x j = 0 then 0 else 1) = _
  rw [if_neg h]
theorem apC_mono {x : Int64} : ∀ (t j : Nat), apC x j ≤ apC x (j + t)
  | 0, _ => Nat.le_refl _
  | t + 1, j => Nat.le_trans (apC_mono t j) (by
    show apC x (j + t) ≤ apC x (j + t) + _
    omega)
theorem apC_j {x : Int64} : ∀ j : Nat, apC x j ≤ j
  | 0 => Nat.le_refl _
  | j + 1 => by
    have := apC_j (x := x) j
    show apC x j + (if qb x j = 0 then 0 else 1) ≤ _
    split <;> omega
theorem apT_y {T : tT} {n : Nat} {x : Int64} {j : Nat} (h : qb x j = 0) : apT T n x (j + 1) = apT T n x j := if_pos h
theorem apT_n {T : tT} {n : Nat} {x : Int64} {j : Nat} (h : ¬ qb x j = 0) : apT T n x (j + 1) = updT (apT T n x j) (n + apC x j) (qb x j) := if_neg h
theorem TxOk.ap {T : tT} {n v : Nat} (h : TxOk T n) (hn : n < 900) (h0 : ¬ v = 0) (hv : v < 256) : TxOk (updT T n v) (n + 1) := by
  refine ⟨by omega, fun k hk => ?_, fun k hk => ?_⟩
  · unfold updT
    split
    · omega
    · exact h.2.1 k (by omega)
  · unfold updT
    rw [if_neg (by omega)]
    exact h.2.2 k (by omega)
def apA (n : Nat) (x : Int64) : Int32 := if 900 < n + apC x 8 then -2 else nI (n + apC x 8)
def apT8 (T : tT) (n : Nat) (x : Int64) : tT := if 900 < n + apC x 8 then T else apT T n x 8
def apN8 (n : Nat) (x : Int64) : Nat := if 900 < n + apC x 8 then n else n + apC x 8
theorem TR.ap {m n v : Nat} {I : mI} {T : tT} (h : TR m I T n) (hn : n < 900) (h0 : ¬ v = 0) (hv : v < 256) : TR m (up2 (up2 I (m + 7) n (nI v)) m 10 (nI (n + 1))) (updT T n v) (n + 1) := by
  refine ⟨h.1.ap hn h0 hv, up2_s, fun k hk => ?_⟩
  rw [up2_off (by omega)]
  unfold updT
  split
  · rename_i e
    subst e
    exact up2_s
  · rename_i e
    exact (up2_k e).trans (h.2.2 k (by omega))
theorem TC.ap {x n v : Nat} {I : mI} {T : tT} (h : TC x I T n) (hn : n < 900) (h0 : ¬ v = 0) (hv : v < 256) : TC x (up2 (up2 I (x + 1) n (sg v)) x 2 (nI (n + 1))) (updT T n v) (n + 1) := by
  refine ⟨h.1.ap hn h0 hv, up2_s, fun k hk => ?_⟩
  rw [up2_off (by omega)]
  unfold updT
  split
  · rename_i e
    subst e
    exact up2_s
  · rename_i e
    exact (up2_k e).trans (h.2.2 k (by omega))
theorem TR.u6 {m n : Nat} {I : mI} {T : tT} {v : Int32} (h : TR m I T n) : TR m (up2 I m 6 v) T n := ⟨h.1, (up2_k (by decide)).trans h.2.1, fun k hk => (congrFun (up2_off (by omega)) k).trans (h.2.2 k hk)⟩

/-! BITS: what Integer.bitCount counts of 16 -/
def us (x : Int32) (k : Int32) : Int32 := (x.toUInt32 >>> (k.toUInt32 &&& Int32.toUInt32 31)).toInt32
def bc1 (x : Int32) : Int32 := x - (us x 1 &&& 1431655765)
def bc2 (x : Int32) : Int32 := (x &&& 858993459) + (us x 2 &&& 858993459)
def bc3 (x : Int32) : Int32 := (x + us x 4) &&& 252645135
def bc4 (x : Int32) : Int32 := x + us x 8
def bc5 (x : Int32) : Int32 := x + us x 16
def bcI (x : Int32) : Int32 := bc5 (bc4 (bc3 (bc2 (bc1 x)))) &&& 63
def bn1 (a : Nat) : Nat := a - (a / 2 &&& 1431655765)
def bn2 (a : Nat) : Nat := (a &&& 858993459) + (a / 4 &&& 858993459)
def bn3 (a : Nat) : Nat := (a + a / 16) &&& 252645135
def bn4 (a : Nat) : Nat := a + a / 256
def bn5 (a : Nat) : Nat := a + a / 65536
def bcN (a : Nat) : Nat := bn5 (bn4 (bn3 (bn2 (bn1 a)))) % 64
def onesN (a : Nat) : Nat → Nat
  | 0 => 0
  | k + 1 => onesN a k + a / 2 ^ k % 2
set_option maxRecDepth 100000 in
theorem bc_0 : ∀ h, h < 16 → ∀ l, l < 256 → bcN (0 + 256 * h + l) = onesN (0 + 256 * h + l) 16 := by decide +kernel
set_option maxRecDepth 100000 in
theorem bc_1 : ∀ h, h < 16 → ∀ l, l < 256 → bcN (4096 + 256 * h + l) = onesN (4096 + 256 * h + l) 16 := by decide +kernel
set_option maxRecDepth 100000 in
theorem bc_2 : ∀ h, h < 16 → ∀ l, l < 256 → bcN (8192 + 256 * h + l) = onesN (8192 + 256 * h + l) 16 := by decide +kernel
set_option maxRecDepth 100000 in
theorem bc_3 : ∀ h, h < 16 → ∀ l, l < 256 → bcN (12288 + 256 * h + l) = onesN (12288 + 256 * h + l) 16 := by decide +kernel
set_option maxRecDepth 100000 in
theorem bc_4 : ∀ h, h < 16 → ∀ l, l < 256 → bcN (16384 + 256 * h + l) = onesN (16384 + 256 * h + l) 16 := by decide +kernel
set_option maxRecDepth 100000 in
theorem bc_5 : ∀ h, h < 16 → ∀ l, l < 256 → bcN (20480 + 256 * h + l) = onesN (20480 + 256 * h + l) 16 := by decide +kernel
set_option maxRecDepth 100000 in
theorem bc_6 : ∀ h, h < 16 → ∀ l, l < 256 → bcN (24576 + 256 * h + l) = onesN (24576 + 256 * h + l) 16 := by decide +kernel
set_option maxRecDepth 100000 in
theorem bc_7 : ∀ h, h < 16 → ∀ l, l < 256 → bcN (28672 + 256 * h + l) = onesN (28672 + 256 * h + l) 16 := by decide +kernel
set_option maxRecDepth 100000 in
theorem bc_8 : ∀ h, h < 16 → ∀ l, l < 256 → bcN (32768 + 256 * h + l) = onesN (32768 + 256 * h + l) 16 := by decide +kernel
set_option maxRecDepth 100000 in
theorem bc_9 : ∀ h, h < 16 → ∀ l, l < 256 → bcN (36864 + 256 * h + l) = onesN (36864 + 256 * h + l) 16 := by decide +kernel
set_option maxRecDepth 100000 in
theorem bc_10 : ∀ h, h < 16 → ∀ l, l < 256 → bcN (40960 + 256 * h + l) = onesN (40960 + 256 * h + l) 16 := by decide +kernel
set_option maxRecDepth 100000 in
theorem bc_11 : ∀ h, h < 16 → ∀ l, l < 256 → bcN (45056 + 256 * h + l) = onesN (45056 + 256 * h + l) 16 := by decide +kernel
set_option maxRecDepth 100000 in
theorem bc_12 : ∀ h, h < 16 → ∀ l, l < 256 → bcN (49152 + 256 * h + l) = onesN (49152 + 256 * h + l) 16 := by decide +kernel
set_option maxRecDepth 100000 in
theorem bc_13 : ∀ h, h < 16 → ∀ l, l < 256 → bcN (53248 + 256 * h + l) = onesN (53248 + 256 * h + l) 16 := by decide +kernel
set_option maxRecDepth 100000 in
theorem bc_14 : ∀ h, h < 16 → ∀ l, l < 256 → bcN (57344 + 256 * h + l) = onesN (57344 + 256 * h + l) 16 := by decide +kernel
set_option maxRecDepth 100000 in
theorem bc_15 : ∀ h, h < 16 → ∀ l, l < 256 → bcN (61440 + 256 * h + l) = onesN (61440 + 256 * h + l) 16 := by decide +kernel
theorem pk_andM {n M : Nat} (h : n < 2 ^ 31) {m : Int32} (hm : m.toBitVec.toNat = M) : nI n &&& m = nI (n &&& M) := by
  have h2 : n &&& M ≤ n := Nat.and_le_left
  apply Int32.toBitVec_inj.mp
  apply BitVec.eq_of_toNat_eq
  rw [Int32.toBitVec_and, BitVec.toNat_and, hm, pk_tn (by omega), pk_tn (by omega)]
theorem us1 {a : Nat} (h : a < 2 ^ 31) : us (nI a) 1 = nI (a / 2) := pk_ushrN (by omega) 1 1 (by decide)
theorem us2 {a : Nat} (h : a < 2 ^ 31) : us (nI a) 2 = nI (a / 4) := pk_ushrN (by omega) 2 2 (by decide)
theorem us4 {a : Nat} (h : a < 2 ^ 31) : us (nI a) 4 = nI (a / 16) := pk_ushrN (by omega) 4 4 (by decide)
theorem us8 {a : Nat} (h : a < 2 ^ 31) : us (nI a) 8 = nI (a / 256) := pk_ushrN (by omega) 8 8 (by decide)
theorem us16 {a : Nat} (h : a < 2 ^ 31) : us (nI a) 16 = nI (a / 65536) := pk_ushrN (by omega) 16 16 (by decide)
theorem bc1_n {a : Nat} (h : a < 65536) : bc1 (nI a) = nI (bn1 a) := by
  have h2 : a / 2 &&& 1431655765 ≤ a / 2 := Nat.and_le_left
  unfold bc1 bn1
  rw [us1 (by omega), pk_andM (M := 1431655765) (by omega) (by decide), pk_sub (by omega)]
theorem bc2_n {a : Nat} (h : a < 65536) : bc2 (nI a) = nI (bn2 a) := by
  unfold bc2 bn2
  rw [us2 (by omega), pk_andM (M := 858993459) (by omega) (by decide), pk_andM (M := 858993459) (by omega) (by decide), nI_add]
theorem bc3_n {a : Nat} (h : a < 131072) : bc3 (nI a) = nI (bn3 a) := by
  unfold bc3 bn3
  rw [us4 (by omega), nI_add, pk_andM (M := 252645135) (by omega) (by decide)]
theorem bc4_n {a : Nat} (h : a < 262144) : bc4 (nI a) = nI (bn4 a) := by
  unfold bc4 bn4
  rw [us8 (by omega), nI_add]
theorem bc5_n {a : Nat} (h : a < 524288) : bc5 (nI a) = nI (bn5 a) := by
  unfold bc5 bn5
  rw [us16 (by omega), nI_add]
theorem bcI_n {a : Nat} (h : a < 65536) : bcI (nI a) = nI (bcN a) := by
  have h1 : bn1 a ≤ a := Nat.sub_le _ _
  have h2 : bn2 (bn1 a) ≤ bn1 a + bn1 a / 4 := Nat.add_le_add Nat.and_le_left Nat.and_le_left
  have h3 : bn3 (bn2 (bn1 a)) ≤ bn2 (bn1 a) + bn2 (bn1 a) / 16 := Nat.and_le_left
  have h4 : bn4 (bn3 (bn2 (bn1 a))) = bn3 (bn2 (bn1 a)) + bn3 (bn2 (bn1 a)) / 256 := rfl
  have h5 : bn5 (bn4 (bn3 (bn2 (bn1 a)))) = bn4 (bn3 (bn2 (bn1 a))) + bn4 (bn3 (bn2 (bn1 a))) / 65536 := rfl
  unfold bcI bcN
  rw [bc1_n h, bc2_n (by omega), bc3_n (by omega), bc4_n (by omega), bc5_n (by omega)]
  exact pk_andN (by omega) 6 (by decide)
theorem sh_n : ∀ k, k < 16 → ((nI k &&& 31).toBitVec.smod 32).toNat = k := by decide
theorem ones_n {a : Nat} (h : a < 65536) : ∀ {k : Nat}, k ≤ 16 → onesI (nI a) k = nI (onesN a k)
  | 0, _ => rfl
  | k + 1, hk => by
    have hd : a / 2 ^ k ≤ a := Nat.div_le_self _ _
    rw [onesI, onesN, ones_n h (by omega), pk_shrN (by omega) (nI k &&& 31) k (sh_n k (by omega)), pk_andN (n := a / 2 ^ k) (m := 1) (by omega) 1 (by decide), nI_add]
theorem bcN_ok {a : Nat} (h : a < 65536) : bcN a = onesN a 16 := by
  rcases (by omega : a / 4096 = 0 ∨ a / 4096 = 1 ∨ a / 4096 = 2 ∨ a / 4096 = 3 ∨ a / 4096 = 4 ∨ a / 4096 = 5 ∨ a / 4096 = 6 ∨ a / 4096 = 7 ∨ a / 4096 = 8 ∨ a / 4096 = 9 ∨ a / 4096 = 10 ∨ a / 4096 = 11 ∨ a / 4096 = 12 ∨ a / 4096 = 13 ∨ a / 4096 = 14 ∨ a / 4096 = 15) with e | e | e | e | e | e | e | e | e | e | e | e | e | e | e | e
  · have := bc_0 ((a - 0) / 256) (by omega) ((a - 0) % 256) (by omega)
    rw [show 0 + 256 * ((a - 0) / 256) + (a - 0) % 256 = a by omega] at this
    exact this
  · have := bc_1 ((a - 4096) / 256) (by omega) ((a - 4096) % 256) (by omega)
    rw [show 4096 + 256 * ((a - 4096) / 256) + (a - 4096) % 256 = a by omega] at this
    exact this
  · have := bc_2 ((a - 8192) / 256) (by omega) ((a - 8192) % 256) (by omega)
    rw [show 8192 + 256 * ((a - 8192) / 256) + (a - 8192) % 256 = a by omega] at this
    exact this
  · have := bc_3 ((a - 12288) / 256) (by omega) ((a - 12288) % 256) (by omega)
    rw [show 12288 + 256 * ((a - 12288) / 256) + (a - 12288) % 256 = a by omega] at this
    exact this
  · have := bc_4 ((a - 16384) / 256) (by omega) ((a - 16384) % 256) (by omega)
    rw [show 16384 + 256 * ((a - 16384) / 256) + (a - 16384) % 256 = a by omega] at this
    exact this
  · have := bc_5 ((a - 20480) / 256) (by omega) ((a - 20480) % 256) (by omega)
    rw [show 20480 + 256 * ((a - 20480) / 256) + (a - 20480) % 256 = a by omega] at this
    exact this
  · have := bc_6 ((a - 24576) / 256) (by omega) ((a - 24576) % 256) (by omega)
    rw [show 24576 + 256 * ((a - 24576) / 256) + (a - 24576) % 256 = a by omega] at this
    exact this
  · have := bc_7 ((a - 28672) / 256) (by omega) ((a - 28672) % 256) (by omega)
    rw [show 28672 + 256 * ((a - 28672) / 256) + (a - 28672) % 256 = a by omega] at this
    exact this
  · have := bc_8 ((a - 32768) / 256) (by omega) ((a - 32768) % 256) (by omega)
    rw [show 32768 + 256 * ((a - 32768) / 256) + (a - 32768) % 256 = a by omega] at this
    exact this
  · have := bc_9 ((a - 36864) / 256) (by omega) ((a - 36864) % 256) (by omega)
    rw [show 36864 + 256 * ((a - 36864) / 256) + (a - 36864) % 256 = a by omega] at this
    exact this
  · have := bc_10 ((a - 40960) / 256) (by omega) ((a - 40960) % 256) (by omega)
    rw [show 40960 + 256 * ((a - 40960) / 256) + (a - 40960) % 256 = a by omega] at this
    exact this
  · have := bc_11 ((a - 45056) / 256) (by omega) ((a - 45056) % 256) (by omega)
    rw [show 45056 + 256 * ((a - 45056) / 256) + (a - 45056) % 256 = a by omega] at this
    exact this
  · have := bc_12 ((a - 49152) / 256) (by omega) ((a - 49152) % 256) (by omega)
    rw [show 49152 + 256 * ((a - 49152) / 256) + (a - 49152) % 256 = a by omega] at this
    exact this
  · have := bc_13 ((a - 53248) / 256) (by omega) ((a - 53248) % 256) (by omega)
    rw [show 53248 + 256 * ((a - 53248) / 256) + (a - 53248) % 256 = a by omega] at this
    exact this
  · have := bc_14 ((a - 57344) / 256) (by omega) ((a - 57344) % 256) (by omega)
    rw [show 57344 + 256 * ((a - 57344) / 256) + (a - 57344) % 256 = a by omega] at this
    exact this
  · have := bc_15 ((a - 61440) / 256) (by omega) ((a - 61440) % 256) (by omega)
    rw [show 61440 + 256 * ((a - 61440) / 256) + (a - 61440) % 256 = a by omega] at this
    exact this
theorem bc_ones {x : Int32} (h : wd x) : bcI x = onesI x 16 := by
  obtain ⟨a, ha, rfl⟩ := h
  rw [bcI_n ha, ones_n ha (Nat.le_refl _), bcN_ok ha]

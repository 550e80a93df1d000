/-! GRAPHS: which cells an object has, by ids; what its fields and rows of rows point at -/
def ModG (n : Nat) (sh : mS) (G : mG) (m : Nat) : Prop := m + 9 ≤ n ∧ sh m = .inl (10, 28) ∧ sh (m + 1) = .inr (0, 429) ∧ sh (m + 2) = .inr (0, 429) ∧ sh (m + 3) = .inr (0, 429) ∧ sh (m + 4) = .inr (0, 429) ∧ sh (m + 5) = .inr (0, 429) ∧ sh (m + 6) = .inr (2, 2) ∧ sh (m + 7) = .inr (0, 900) ∧ sh (m + 8) = .inr (0, 67) ∧ G m 0 = some (m + 1) ∧ G m 1 = some (m + 2) ∧ G m 2 = some (m + 3) ∧ G m 3 = some (m + 4) ∧ G m 4 = some (m + 5) ∧ G m 5 = some (m + 6) ∧ G m 9 = some (m + 7) ∧ G m 25 = some (m + 8)
theorem ModG.l0 {n : Nat} {sh : mS} {G : mG} {m : Nat} (h : ModG n sh G m) : m < n := by have := h.1; omega
theorem ModG.lt {n : Nat} {sh : mS} {G : mG} {m : Nat} (h : ModG n sh G m) (k : Nat) (hk : k < 9) : m + k < n := by have := h.1; omega
theorem ModG.s0 {n : Nat} {sh : mS} {G : mG} {m : Nat} (h : ModG n sh G m) : sh m = .inl (10, 28) := h.2.1
theorem ModG.s1 {n : Nat} {sh : mS} {G : mG} {m : Nat} (h : ModG n sh G m) : sh (m + 1) = .inr (0, 429) := h.2.2.1
theorem ModG.s2 {n : Nat} {sh : mS} {G : mG} {m : Nat} (h : ModG n sh G m) : sh (m + 2) = .inr (0, 429) := h.2.2.2.1
theorem ModG.s3 {n : Nat} {sh : mS} {G : mG} {m : Nat} (h : ModG n sh G m) : sh (m + 3) = .inr (0, 429) := h.2.2.2.2.1
theorem ModG.s4 {n : Nat} {sh : mS} {G : mG} {m : Nat} (h : ModG n sh G m) : sh (m + 4) = .inr (0, 429) := h.2.2.2.2.2.1
theorem ModG.s5 {n : Nat} {sh : mS} {G : mG} {m : Nat} (h : ModG n sh G m) : sh (m + 5) = .inr (0, 429) := h.2.2.2.2.2.2.1
theorem ModG.s6 {n : Nat} {sh : mS} {G : mG} {m : Nat} (h : ModG n sh G m) : sh (m + 6) = .inr (2, 2) := h.2.2.2.2.2.2.2.1
theorem ModG.s7 {n : Nat} {sh : mS} {G : mG} {m : Nat} (h : ModG n sh G m) : sh (m + 7) = .inr (0, 900) := h.2.2.2.2.2.2.2.2.1
theorem ModG.s8 {n : Nat} {sh : mS} {G : mG} {m : Nat} (h : ModG n sh G m) : sh (m + 8) = .inr (0, 67) := h.2.2.2.2.2.2.2.2.2.1
theorem ModG.g0_0 {n : Nat} {sh : mS} {G : mG} {m : Nat} (h : ModG n sh G m) : G m 0 = some (m + 1) := h.2.2.2.2.2.2.2.2.2.2.1
theorem ModG.g0_1 {n : Nat} {sh : mS} {G : mG} {m : Nat} (h : ModG n sh G m) : G m 1 = some (m + 2) := h.2.2.2.2.2.2.2.2.2.2.2.1
theorem ModG.g0_2 {n : Nat} {sh : mS} {G : mG} {m : Nat} (h : ModG n sh G m) : G m 2 = some (m + 3) := h.2.2.2.2.2.2.2.2.2.2.2.2.1
theorem ModG.g0_3 {n : Nat} {sh : mS} {G : mG} {m : Nat} (h : ModG n sh G m) : G m 3 = some (m + 4) := h.2.2.2.2.2.2.2.2.2.2.2.2.2.1
theorem ModG.g0_4 {n : Nat} {sh : mS} {G : mG} {m : Nat} (h : ModG n sh G m) : G m 4 = some (m + 5) := h.2.2.2.2.2.2.2.2.2.2.2.2.2.2.1
theorem ModG.g0_5 {n : Nat} {sh : mS} {G : mG} {m : Nat} (h : ModG n sh G m) : G m 5 = some (m + 6) := h.2.2.2.2.2.2.2.2.2.2.2.2.2.2.2.1
theorem ModG.g0_9 {n : Nat} {sh : mS} {G : mG} {m : Nat} (h : ModG n sh G m) : G m 9 = some (m + 7) := h.2.2.2.2.2.2.2.2.2.2.2.2.2.2.2.2.1
theorem ModG.g0_25 {n : Nat} {sh : mS} {G : mG} {m : Nat} (h : ModG n sh G m) : G m 25 = some (m + 8) := h.2.2.2.2.2.2.2.2.2.2.2.2.2.2.2.2.2
def DevG (n : Nat) (sh : mS) (G : mG) (d : Nat) : Prop := d + 19 ≤ n ∧ sh d = .inl (3, 9) ∧ sh (d + 1) = .inl (4, 9) ∧ sh (d + 2) = .inr (4, 4) ∧ sh (d + 3) = .inr (0, 64) ∧ sh (d + 4) = .inr (0, 64) ∧ sh (d + 5) = .inr (0, 64) ∧ sh (d + 6) = .inr (0, 64) ∧ sh (d + 7) = .inr (4, 3) ∧ sh (d + 8) = .inr (0, 16) ∧ sh (d + 9) = .inr (0, 16) ∧ sh (d + 10) = .inr (0, 16) ∧ sh (d + 11) = .inl (6, 5) ∧ sh (d + 12) = .inr (0, 40) ∧ sh (d + 13) = .inr (0, 40) ∧ sh (d + 14) = .inr (0, 40) ∧ sh (d + 15) = .inr (0, 8) ∧ sh (d + 16) = .inl (5, 10) ∧ sh (d + 17) = .inr (0, 8) ∧ sh (d + 18) = .inr (0, 64) ∧ G d 0 = some (d + 1) ∧ G d 1 = some (d + 11) ∧ G d 2 = some (d + 16) ∧ G d 3 = some (d + 17) ∧ G d 4 = some (d + 18) ∧ G (d + 1) 0 = some (d + 2) ∧ G (d + 1) 1 = some (d + 7) ∧ G (d + 2) 0 = some (d + 3) ∧ G (d + 2) 1 = some (d + 4) ∧ G (d + 2) 2 = some (d + 5) ∧ G (d + 2) 3 = some (d + 6) ∧ G (d + 7) 0 = some (d + 8) ∧ G (d + 7) 1 = some (d + 9) ∧ G (d + 7) 2 = some (d + 10) ∧ G (d + 11) 0 = some (d + 12) ∧ G (d + 11) 1 = some (d + 13) ∧ G (d + 11) 2 = some (d + 14) ∧ G (d + 11) 3 = some (d + 15)
theorem DevG.l0 {n : Nat} {sh : mS} {G : mG} {d : Nat} (h : DevG n sh G d) : d < n := by have := h.1; omega
theorem DevG.lt {n : Nat} {sh : mS} {G : mG} {d : Nat} (h : DevG n sh G d) (k : Nat) (hk : k < 19) : d + k < n := by have := h.1; omega
theorem DevG.s0 {n : Nat} {sh : mS} {G : mG} {d : Nat} (h : DevG n sh G d) : sh d = .inl (3, 9) := h.2.1
theorem DevG.s1 {n : Nat} {sh : mS} {G : mG} {d : Nat} (h : DevG n sh G d) : sh (d + 1) = .inl (4, 9) := h.2.2.1
theorem DevG.s2 {n : Nat} {sh : mS} {G : mG} {d : Nat} (h : DevG n sh G d) : sh (d + 2) = .inr (4, 4) := h.2.2.2.1
theorem DevG.s3 {n : Nat} {sh : mS} {G : mG} {d : Nat} (h : DevG n sh G d) : sh (d + 3) = .inr (0, 64) := h.2.2.2.2.1
theorem DevG.s4 {n : Nat} {sh : mS} {G : mG} {d : Nat} (h : DevG n sh G d) : sh (d + 4) = .inr (0, 64) := h.2.2.2.2.2.1
theorem DevG.s5 {n : Nat} {sh : mS} {G : mG} {d : Nat} (h : DevG n sh G d) : sh (d + 5) = .inr (0, 64) := h.2.2.2.2.2.2.1
theorem DevG.s6 {n : Nat} {sh : mS} {G : mG} {d : Nat} (h : DevG n sh G d) : sh (d + 6) = .inr (0, 64) := h.2.2.2.2.2.2.2.1
theorem DevG.s7 {n : Nat} {sh : mS} {G : mG} {d : Nat} (h : DevG n sh G d) : sh (d + 7) = .inr (4, 3) := h.2.2.2.2.2.2.2.2.1
theorem DevG.s8 {n : Nat} {sh : mS} {G : mG} {d : Nat} (h : DevG n sh G d) : sh (d + 8) = .inr (0, 16) := h.2.2.2.2.2.2.2.2.2.1
theorem DevG.s9 {n : Nat} {sh : mS} {G : mG} {d : Nat} (h : DevG n sh G d) : sh (d + 9) = .inr (0, 16) := h.2.2.2.2.2.2.2.2.2.2.1
theorem DevG.s10 {n : Nat} {sh : mS} {G : mG} {d : Nat} (h : DevG n sh G d) : sh (d + 10) = .inr (0, 16) := h.2.2.2.2.2.2.2.2.2.2.2.1
theorem DevG.s11 {n : Nat} {sh : mS} {G : mG} {d : Nat} (h : DevG n sh G d) : sh (d + 11) = .inl (6, 5) := h.2.2.2.2.2.2.2.2.2.2.2.2.1
theorem DevG.s12 {n : Nat} {sh : mS} {G : mG} {d : Nat} (h : DevG n sh G d) : sh (d + 12) = .inr (0, 40) := h.2.2.2.2.2.2.2.2.2.2.2.2.2.1
theorem DevG.s13 {n : Nat} {sh : mS} {G : mG} {d : Nat} (h : DevG n sh G d) : sh (d + 13) = .inr (0, 40) := h.2.2.2.2.2.2.2.2.2.2.2.2.2.2.1
theorem DevG.s14 {n : Nat} {sh : mS} {G : mG} {d : Nat} (h : DevG n sh G d) : sh (d + 14) = .inr (0, 40) := h.2.2.2.2.2.2.2.2.2.2.2.2.2.2.2.1
theorem DevG.s15 {n : Nat} {sh : mS} {G : mG} {d : Nat} (h : DevG n sh G d) : sh (d + 15) = .inr (0, 8) := h.2.2.2.2.2.2.2.2.2.2.2.2.2.2.2.2.1
theorem DevG.s16 {n : Nat} {sh : mS} {G : mG} {d : Nat} (h : DevG n sh G d) : sh (d + 16) = .inl (5, 10) := h.2.2.2.2.2.2.2.2.2.2.2.2.2.2.2.2.2.1
theorem DevG.s17 {n : Nat} {sh : mS} {G : mG} {d : Nat} (h : DevG n sh G d) : sh (d + 17) = .inr (0, 8) := h.2.2.2.2.2.2.2.2.2.2.2.2.2.2.2.2.2.2.1
theorem DevG.s18 {n : Nat} {sh : mS} {G : mG} {d : Nat} (h : DevG n sh G d) : sh (d + 18) = .inr (0, 64) := h.2.2.2.2.2.2.2.2.2.2.2.2.2.2.2.2.2.2.2.1
theorem DevG.g0_0 {n : Nat} {sh : mS} {G : mG} {d : Nat} (h : DevG n sh G d) : G d 0 = some (d + 1) := h.2.2.2.2.2.2.2.2.2.2.2.2.2.2.2.2.2.2.2.2.1
theorem DevG.g0_1 {n : Nat} {sh : mS} {G : mG} {d : Nat} (h : DevG n sh G d) : G d 1 = some (d + 11) := h.2.2.2.2.2.2.2.2.2.2.2.2.2.2.2.2.2.2.2.2.2.1
theorem DevG.g0_2 {n : Nat} {sh : mS} {G : mG} {d : Nat} (h : DevG n sh G d) : G d 2 = some (d + 16) := h.2.2.2.2.2.2.2.2.2.2.2.2.2.2.2.2.2.2.2.2.2.2.1
theorem DevG.g0_3 {n : Nat} {sh : mS} {G : mG} {d : Nat} (h : DevG n sh G d) : G d 3 = some (d + 17) := h.2.2.2.2.2.2.2.2.2.2.2.2.2.2.2.2.2.2.2.2.2.2.2.1
theorem DevG.g0_4 {n : Nat} {sh : mS} {G : mG} {d : Nat} (h : DevG n sh G d) : G d 4 = some (d + 18) := h.2.2.2.2.2.2.2.2.2.2.2.2.2.2.2.2.2.2.2.2.2.2.2.2.1
theorem DevG.g1_0 {n : Nat} {sh : mS} {G : mG} {d : Nat} (h : DevG n sh G d) : G (d + 1) 0 = some (d + 2) := h.2.2.2.2.2.2.2.2.2.2.2.2.2.2.2.2.2.2.2.2.2.2.2.2.2.1
theorem DevG.g1_1 {n : Nat} {sh : mS} {G : mG} {d : Nat} (h : DevG n sh G d) : G (d + 1) 1 = some (d + 7) := h.2.2.2.2.2.2.2.2.2.2.2.2.2.2.2.2.2.2.2.2.2.2.2.2.2.2.1
theorem DevG.g2_0 {n : Nat} {sh : mS} {G : mG} {d : Nat} (h : DevG n sh G d) : G (d + 2) 0 = some (d + 3) := h.2.2.2.2.2.2.2.2.2.2.2.2.2.2.2.2.2.2.2.2.2.2.2.2.2.2.2.1
theorem DevG.g2_1 {n : Nat} {sh : mS} {G : mG} {d : Nat} (h : DevG n sh G d) : G (d + 2) 1 = some (d + 4) := h.2.2.2.2.2.2.2.2.2.2.2.2.2.2.2.2.2.2.2.2.2.2.2.2.2.2.2.2.1
theorem DevG.g2_2 {n : Nat} {sh : mS} {G : mG} {d : Nat} (h : DevG n sh G d) : G (d + 2) 2 = some (d + 5) := h.2.2.2.2.2.2.2.2.2.2.2.2.2.2.2.2.2.2.2.2.2.2.2.2.2.2.2.2.2.1
theorem DevG.g2_3 {n : Nat} {sh : mS} {G : mG} {d : Nat} (h : DevG n sh G d) : G (d + 2) 3 = some (d + 6) := h.2.2.2.2.2.2.2.2.2.2.2.2.2.2.2.2.2.2.2.2.2.2.2.2.2.2.2.2.2.2.1
theorem DevG.g7_0 {n : Nat} {sh : mS} {G : mG} {d : Nat} (h : DevG n sh G d) : G (d + 7) 0 = some (d + 8) := h.2.2.2.2.2.2.2.2.2.2.2.2.2.2.2.2.2.2.2.2.2.2.2.2.2.2.2.2.2.2.2.1
theorem DevG.g7_1 {n : Nat} {sh : mS} {G : mG} {d : Nat} (h : DevG n sh G d) : G (d + 7) 1 = some (d + 9) := h.2.2.2.2.2.2.2.2.2.2.2.2.2.2.2.2.2.2.2.2.2.2.2.2.2.2.2.2.2.2.2.2.1
theorem DevG.g7_2 {n : Nat} {sh : mS} {G : mG} {d : Nat} (h : DevG n sh G d) : G (d + 7) 2 = some (d + 10) := h.2.2.2.2.2.2.2.2.2.2.2.2.2.2.2.2.2.2.2.2.2.2.2.2.2.2.2.2.2.2.2.2.2.1
theorem DevG.g11_0 {n : Nat} {sh : mS} {G : mG} {d : Nat} (h : DevG n sh G d) : G (d + 11) 0 = some (d + 12) := h.2.2.2.2.2.2.2.2.2.2.2.2.2.2.2.2.2.2.2.2.2.2.2.2.2.2.2.2.2.2.2.2.2.2.1
theorem DevG.g11_1 {n : Nat} {sh : mS} {G : mG} {d : Nat} (h : DevG n sh G d) : G (d + 11) 1 = some (d + 13) := h.2.2.2.2.2.2.2.2.2.2.2.2.2.2.2.2.2.2.2.2.2.2.2.2.2.2.2.2.2.2.2.2.2.2.2.1
theorem DevG.g11_2 {n : Nat} {sh : mS} {G : mG} {d : Nat} (h : DevG n sh G d) : G (d + 11) 2 = some (d + 14) := h.2.2.2.2.2.2.2.2.2.2.2.2.2.2.2.2.2.2.2.2.2.2.2.2.2.2.2.2.2.2.2.2.2.2.2.2.1
theorem DevG.g11_3 {n : Nat} {sh : mS} {G : mG} {d : Nat} (h : DevG n sh G d) : G (d + 11) 3 = some (d + 15) := h.2.2.2.2.2.2.2.2.2.2.2.2.2.2.2.2.2.2.2.2.2.2.2.2.2.2.2.2.2.2.2.2.2.2.2.2.2
theorem DevG.gc {n : Nat} {sh : mS} {G : mG} {d : Nat} (h : DevG n sh G d) {i : Nat} (hi : i < 4) : G (d + 2) i = some (d + 3 + i) := by
  match i, hi with
  | 0, _ => exact h.g2_0
  | 1, _ => exact h.g2_1
  | 2, _ => exact h.g2_2
  | 3, _ => exact h.g2_3
  | j + 4, hi => exact absurd hi (by omega)
theorem DevG.sc {n : Nat} {sh : mS} {G : mG} {d : Nat} (h : DevG n sh G d) {i : Nat} (hi : i < 4) : sh (d + 3 + i) = .inr (0, 64) := by
  match i, hi with
  | 0, _ => exact h.s3
  | 1, _ => exact h.s4
  | 2, _ => exact h.s5
  | 3, _ => exact h.s6
  | j + 4, hi => exact absurd hi (by omega)
theorem DevG.gw {n : Nat} {sh : mS} {G : mG} {d : Nat} (h : DevG n sh G d) {i : Nat} (hi : i < 3) : G (d + 7) i = some (d + 8 + i) := by
  match i, hi with
  | 0, _ => exact h.g7_0
  | 1, _ => exact h.g7_1
  | 2, _ => exact h.g7_2
  | j + 3, hi => exact absurd hi (by omega)
theorem DevG.sw {n : Nat} {sh : mS} {G : mG} {d : Nat} (h : DevG n sh G d) {i : Nat} (hi : i < 3) : sh (d + 8 + i) = .inr (0, 16) := by
  match i, hi with
  | 0, _ => exact h.s8
  | 1, _ => exact h.s9
  | 2, _ => exact h.s10
  | j + 3, hi => exact absurd hi (by omega)
def TxtG (n : Nat) (sh : mS) (G : mG) (t : Nat) : Prop := t + 6 ≤ n ∧ sh t = .inl (8, 8) ∧ sh (t + 1) = .inr (1, 900) ∧ sh (t + 2) = .inl (7, 9) ∧ sh (t + 3) = .inr (4, 2) ∧ sh (t + 4) = .inr (0, 64) ∧ sh (t + 5) = .inr (0, 64) ∧ G t 0 = some (t + 1) ∧ G t 1 = some (t + 2) ∧ G (t + 2) 0 = some (t + 3) ∧ G (t + 3) 0 = some (t + 4) ∧ G (t + 3) 1 = some (t + 5)
theorem TxtG.l0 {n : Nat} {sh : mS} {G : mG} {t : Nat} (h : TxtG n sh G t) : t < n := by have := h.1; omega
theorem TxtG.lt {n : Nat} {sh : mS} {G : mG} {t : Nat} (h : TxtG n sh G t) (k : Nat) (hk : k < 6) : t + k < n := by have := h.1; omega
theorem TxtG.s0 {n : Nat} {sh : mS} {G : mG} {t : Nat} (h : TxtG n sh G t) : sh t = .inl (8, 8) := h.2.1
theorem TxtG.s1 {n : Nat} {sh : mS} {G : mG} {t : Nat} (h : TxtG n sh G t) : sh (t + 1) = .inr (1, 900) := h.2.2.1
theorem TxtG.s2 {n : Nat} {sh : mS} {G : mG} {t : Nat} (h : TxtG n sh G t) : sh (t + 2) = .inl (7, 9) := h.2.2.2.1
theorem TxtG.s3 {n : Nat} {sh : mS} {G : mG} {t : Nat} (h : TxtG n sh G t) : sh (t + 3) = .inr (4, 2) := h.2.2.2.2.1
theorem TxtG.s4 {n : Nat} {sh : mS} {G : mG} {t : Nat} (h : TxtG n sh G t) : sh (t + 4) = .inr (0, 64) := h.2.2.2.2.2.1
theorem TxtG.s5 {n : Nat} {sh : mS} {G : mG} {t : Nat} (h : TxtG n sh G t) : sh (t + 5) = .inr (0, 64) := h.2.2.2.2.2.2.1
theorem TxtG.g0_0 {n : Nat} {sh : mS} {G : mG} {t : Nat} (h : TxtG n sh G t) : G t 0 = some (t + 1) := h.2.2.2.2.2.2.2.1
theorem TxtG.g0_1 {n : Nat} {sh : mS} {G : mG} {t : Nat} (h : TxtG n sh G t) : G t 1 = some (t + 2) := h.2.2.2.2.2.2.2.2.1
theorem TxtG.g2_0 {n : Nat} {sh : mS} {G : mG} {t : Nat} (h : TxtG n sh G t) : G (t + 2) 0 = some (t + 3) := h.2.2.2.2.2.2.2.2.2.1
theorem TxtG.g3_0 {n : Nat} {sh : mS} {G : mG} {t : Nat} (h : TxtG n sh G t) : G (t + 3) 0 = some (t + 4) := h.2.2.2.2.2.2.2.2.2.2.1
theorem TxtG.g3_1 {n : Nat} {sh : mS} {G : mG} {t : Nat} (h : TxtG n sh G t) : G (t + 3) 1 = some (t + 5) := h.2.2.2.2.2.2.2.2.2.2.2
theorem TxtG.gi {n : Nat} {sh : mS} {G : mG} {t : Nat} (h : TxtG n sh G t) {i : Nat} (hi : i < 2) : G (t + 3) i = some (t + 4 + i) := by
  match i, hi with
  | 0, _ => exact h.g3_0
  | 1, _ => exact h.g3_1
  | j + 2, hi => exact absurd hi (by omega)
theorem TxtG.si {n : Nat} {sh : mS} {G : mG} {t : Nat} (h : TxtG n sh G t) {i : Nat} (hi : i < 2) : sh (t + 4 + i) = .inr (0, 64) := by
  match i, hi with
  | 0, _ => exact h.s4
  | 1, _ => exact h.s5
  | j + 2, hi => exact absurd hi (by omega)
/-- the class's own object: its text, its five devices, two rows -/
def BootG (n : Nat) (sh : mS) (G : mG) (x : Nat) : Prop := x + 104 ≤ n ∧ sh x = .inl (9, 6) ∧ TxtG n sh G (x + 1) ∧ DevG n sh G (x + 7) ∧ DevG n sh G (x + 26) ∧ DevG n sh G (x + 45) ∧ sh (x + 64) = .inr (5, 2) ∧ DevG n sh G (x + 65) ∧ DevG n sh G (x + 84) ∧ sh (x + 103) = .inr (2, 2) ∧
  G x 0 = some (x + 1) ∧ G x 1 = some (x + 7) ∧ G x 2 = some (x + 26) ∧ G x 3 = some (x + 45) ∧ G x 4 = some (x + 64) ∧ G x 5 = some (x + 103) ∧ G (x + 64) 0 = some (x + 65) ∧ G (x + 64) 1 = some (x + 84)

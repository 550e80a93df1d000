/-! THE LAW'S TEXT: what the class reads in it -/
theorem scan_d {P : Nat → Bool} {n p : Nat} : ∀ d : Nat, (∀ k, k < d → P (p + k) = true) → P (p + d) = false → p + d ≤ n → scanF P (n - p) p = p + d
  | 0, _, h2, _ => scan_n h2
  | d + 1, h, h2, hn => by
    have h3 : ∀ k, k ≤ d + 1 → scanF P (n - p) p = scanF P (n - (p + k)) (p + k) := by
      intro k
      induction k with
      | zero => intro _; rfl
      | succ k ih => intro hk; rw [ih (by omega), scan_y (by omega) (h k (by omega))]; rfl
    rw [h3 (d + 1) (Nat.le_refl _)]
    exact scan_n h2
theorem sk_0 {T : tT} {n p : Nat} (h : txS T p = false) : txSk T n p = p := scan_n h
theorem sk_1 {T : tT} {n p : Nat} (h : txS T p = true) (h2 : txS T (p + 1) = false) (hn : p + 1 ≤ n) : txSk T n p = p + 1 := scan_d 1 (fun k hk => by rw [show k = 0 by omega]; exact h) h2 hn
theorem txS_v {T : tT} {p c : Nat} (h : T p = c) : txS T p = decide (c = 32) := by unfold txS; rw [h]
theorem txL_v {T : tT} {p c : Nat} (h : T p = c) : txL T p = decide (97 ≤ c ∧ c ≤ 122) := by unfold txL; rw [h]
theorem txD_v {T : tT} {p c : Nat} (h : T p = c) : txD T p = decide (48 ≤ c ∧ c ≤ 57) := by unfold txD; rw [h]
theorem dgp_s {m : Nat} (h : m < 4) : dgp (m + 1) = dgp m * 10 := by
  rcases (by omega : m = 0 ∨ m = 1 ∨ m = 2 ∨ m = 3) with rfl | rfl | rfl | rfl <;> rfl
theorem dg_top {v : Nat} (hv : v < 100000) : v < dgp (dg v - 1) * 10 := by
  unfold dg
  split
  · show v < 1 * 10; omega
  · split
    · show v < 10 * 10; omega
    · split
      · show v < 100 * 10; omega
      · split
        · show v < 1000 * 10; omega
        · show v < 10000 * 10; omega
theorem dig_d {T : tT} {p v k : Nat} (h : T (p + k) = 48 + v / dgp (dg v - 1 - k) % 10) : txD T (p + k) = true := by
  have := Nat.mod_lt (v / dgp (dg v - 1 - k)) (show 0 < 10 by decide)
  rw [txD_v h]
  exact decide_eq_true (by omega)
theorem va_step {T : tT} {n p v : Nat} (hv : v < 100000) (hd : ∀ k, k < dg v → T (p + k) = 48 + v / dgp (dg v - 1 - k) % 10) (hn : p + dg v ≤ n) : ∀ k, k < dg v → vaF 1000000 T (n - p) p 0 = vaF 1000000 T (n - (p + (k + 1))) (p + (k + 1)) (v / dgp (dg v - 1 - k)) := by
  intro k
  induction k with
  | zero =>
    intro hk
    have e := hd 0 hk
    have t := dg_top hv
    have ed := dig_d e
    rw [Nat.add_zero] at e ed
    rw [vaF_y (by omega) ed, e]
    show vaF 1000000 T (n - (p + 1)) (p + 1) _ = _
    congr 1
    have : v / dgp (dg v - 1 - 0) < 10 := by
      rw [Nat.sub_zero]
      exact Nat.div_lt_of_lt_mul t
    generalize v / dgp (dg v - 1 - 0) = x9 at this ⊢
    omega
  | succ k ih =>
    intro hk
    have e := hd (k + 1) hk
    have hl := dg_le v
    rw [ih (by omega), vaF_y (by omega) (dig_d e), e]
    show vaF 1000000 T (n - (p + (k + 1) + 1)) (p + (k + 1) + 1) _ = _
    congr 1
    have e2 : dgp (dg v - 1 - k) = dgp (dg v - 1 - (k + 1)) * 10 := by
      rw [show dg v - 1 - k = (dg v - 1 - (k + 1)) + 1 by omega]
      exact dgp_s (by omega)
    rw [e2, ← Nat.div_div_eq_div_mul]
    have : v / dgp (dg v - 1 - (k + 1)) ≤ v := Nat.div_le_self _ _
    omega
theorem num_at {T : tT} {n p v : Nat} (hv : v < 100000) (hd : ∀ k, k < dg v → T (p + k) = 48 + v / dgp (dg v - 1 - k) % 10) (he : txD T (p + dg v) = false) (hn : p + dg v ≤ n) : txD T p = true ∧ txVa T n p = v ∧ txDe T n p = p + dg v := by
  have hl := dg_le v
  refine ⟨dig_d (k := 0) (hd 0 (by omega)), ?_, scan_d (dg v) (fun k hk => dig_d (hd k hk)) he hn⟩
  unfold txVa
  rw [va_step hv hd hn (dg v - 1) (by omega), show p + (dg v - 1 + 1) = p + dg v by omega, vaF_n he, Nat.sub_self]
  show v / 1 = v
  exact Nat.div_one v
theorem num_K {T : tT} {n p v lo hi : Nat} (h : txD T p = true ∧ txVa T n p = v ∧ txDe T n p = p + dg v) (hb : lo ≤ v ∧ v ≤ hi) : txK T n p lo hi = 0 := txK_0 h.1 (by rw [h.2.1]; exact hb)
/-- the law's text, letter by letter -/
def lt0 (j : Nat) : Nat := [102, 108, 97, 115, 104, 32, 49, 54, 32, 52, 32, 49, 50, 59, 116, 114, 105, 101, 115, 32].getD j 0
def lt1 (j : Nat) : Nat := [59, 105, 109, 97, 103, 101, 32, 48, 32].getD j 0
def lt2 (j : Nat) : Nat := [32, 55, 32].getD j 0
def lt3 (j : Nat) : Nat := [59, 103, 111, 111, 100, 32, 48, 59, 108, 105, 102, 101, 32].getD j 0
abbrev LTx (T : tT) (n t v w l : Nat) : Prop := (∀ j, j < 20 → T j = lt0 j) ∧ (T 20 = 48 + t) ∧ (∀ j, j < 9 → T (21 + j) = lt1 j) ∧ (∀ k, k < dg v → T (30 + k) = 48 + v / dgp (dg v - 1 - k) % 10) ∧ (∀ j, j < 3 → T (30 + dg v + j) = lt2 j) ∧ (∀ k, k < dg w → T (33 + dg v + k) = 48 + w / dgp (dg w - 1 - k) % 10) ∧ (∀ j, j < 13 → T (33 + dg v + dg w + j) = lt3 j) ∧ (T (46 + dg v + dg w) = 48 + l) ∧ (∀ k, n ≤ k → T k = 0) ∧ (n = 47 + dg v + dg w) ∧ (1 ≤ t ∧ t ≤ 3) ∧ (1 ≤ v ∧ v ≤ 255) ∧ (w < 65536) ∧ (l ≤ 9)
theorem LTx.t0 {T : tT} {n t v w l : Nat} (h : LTx T n t v w l) : ∀ j, j < 20 → T j = lt0 j := h.1
theorem LTx.tt {T : tT} {n t v w l : Nat} (h : LTx T n t v w l) : T 20 = 48 + t := h.2.1
theorem LTx.t1 {T : tT} {n t v w l : Nat} (h : LTx T n t v w l) : ∀ j, j < 9 → T (21 + j) = lt1 j := h.2.2.1
theorem LTx.tv {T : tT} {n t v w l : Nat} (h : LTx T n t v w l) : ∀ k, k < dg v → T (30 + k) = 48 + v / dgp (dg v - 1 - k) % 10 := h.2.2.2.1
theorem LTx.t2 {T : tT} {n t v w l : Nat} (h : LTx T n t v w l) : ∀ j, j < 3 → T (30 + dg v + j) = lt2 j := h.2.2.2.2.1
theorem LTx.tw {T : tT} {n t v w l : Nat} (h : LTx T n t v w l) : ∀ k, k < dg w → T (33 + dg v + k) = 48 + w / dgp (dg w - 1 - k) % 10 := h.2.2.2.2.2.1
theorem LTx.t3 {T : tT} {n t v w l : Nat} (h : LTx T n t v w l) : ∀ j, j < 13 → T (33 + dg v + dg w + j) = lt3 j := h.2.2.2.2.2.2.1
theorem LTx.tl {T : tT} {n t v w l : Nat} (h : LTx T n t v w l) : T (46 + dg v + dg w) = 48 + l := h.2.2.2.2.2.2.2.1
theorem LTx.tz {T : tT} {n t v w l : Nat} (h : LTx T n t v w l) : ∀ k, n ≤ k → T k = 0 := h.2.2.2.2.2.2.2.2.1
theorem LTx.hn {T : tT} {n t v w l : Nat} (h : LTx T n t v w l) : n = 47 + dg v + dg w := h.2.2.2.2.2.2.2.2.2.1
theorem LTx.ht {T : tT} {n t v w l : Nat} (h : LTx T n t v w l) : 1 ≤ t ∧ t ≤ 3 := h.2.2.2.2.2.2.2.2.2.2.1
theorem LTx.hv {T : tT} {n t v w l : Nat} (h : LTx T n t v w l) : 1 ≤ v ∧ v ≤ 255 := h.2.2.2.2.2.2.2.2.2.2.2.1
theorem LTx.hw {T : tT} {n t v w l : Nat} (h : LTx T n t v w l) : w < 65536 := h.2.2.2.2.2.2.2.2.2.2.2.2.1
theorem LTx.hl {T : tT} {n t v w l : Nat} (h : LTx T n t v w l) : l ≤ 9 := h.2.2.2.2.2.2.2.2.2.2.2.2.2
def imE (r : sT) (v w : Nat) : sT := imgE (upd (upd (upd r 83 (nI v)) 86 (nI 7)) 87 (nI w)) 0 2
def S5 (t v w l : Nat) : PSt := ((((((SI.cl 0).st 3 t).cl 3).rw (imE ((SI.cl 0).st 3 t).row v w)).cl 2).sg 0 |>.cl 5).st 5 l
section LTE
variable {T : tT} {n t v w l : Nat}
theorem num_c {T : tT} {n p c : Nat} (v : Nat) (hv : v < 10) (h : T p = 48 + v) (he : T (p + 1) = c) (hc : decide (48 ≤ c ∧ c ≤ 57) = false) (hn : p + 1 ≤ n) : txD T p = true ∧ txVa T n p = v ∧ txDe T n p = p + 1 := by
  have e := dg_1 hv
  have := num_at (T := T) (n := n) (p := p) (v := v) (by omega) (fun k hk => by
    rw [e] at hk ⊢
    rw [show k = 0 by omega]
    show T p = 48 + v / 1 % 10
    rw [h, Nat.div_one, Nat.mod_eq_of_lt hv]) (by rw [e, txD_v he]; exact hc) (by omega)
  rw [e] at this
  exact this
theorem num_2 {T : tT} {n p c : Nat} (v : Nat) (hv : 10 ≤ v ∧ v < 100) (h : T p = 48 + v / 10) (h2 : T (p + 1) = 48 + v % 10) (he : T (p + 2) = c) (hc : decide (48 ≤ c ∧ c ≤ 57) = false) (hn : p + 2 ≤ n) : txD T p = true ∧ txVa T n p = v ∧ txDe T n p = p + 2 := by
  have e := dg_2 hv.1 hv.2
  have := num_at (T := T) (n := n) (p := p) (v := v) (by omega) (fun k hk => by
    rw [e] at hk ⊢
    rcases (by omega : k = 0 ∨ k = 1) with rfl | rfl
    · show T p = 48 + v / 10 % 10
      rw [h]; omega
    · show T (p + 1) = 48 + v / 1 % 10
      rw [h2]; omega) (by rw [e, txD_v he]; exact hc) (by omega)
  rw [e] at this
  exact this
theorem lw_of {T : tT} {n p : Nat} (i : Nat) (c : Nat → Nat) (h : ∀ j, j < bLen.getD i 0 + 1 → T (p + j) = c j) (hd : (∀ j, j < bLen.getD i 0 → nI (c j) = bC i j ∧ decide (97 ≤ c j ∧ c j ≤ 122) = true) ∧ decide (97 ≤ c (bLen.getD i 0) ∧ c (bLen.getD i 0) ≤ 122) = false) (hn : p + bLen.getD i 0 ≤ n) : txWe T n p = p + bLen.getD i 0 ∧ isW T p (p + bLen.getD i 0) i = true :=
  ⟨scan_d _ (fun k hk => by rw [txL_v (h k (by omega))]; exact (hd.1 k hk).2) (by rw [txL_v (h _ (by omega))]; exact hd.2) hn, isW_t (by omega) (fun j hj => by rw [h j (by omega)]; exact (hd.1 j hj).1)⟩
theorem lw_no {T : tT} {p e : Nat} (i c : Nat) (h : T p = c) (h2 : decide (0 < bLen.getD i 0) = true) (hd : decide (nI c = bC i 0) = false) : isW T p e i = false := isW_f (j := 0) (of_decide_eq_true h2) (by rw [Nat.add_zero, h]; exact of_decide_eq_false hd)
theorem lt_flash (h : LTx T n t v w l) : flashO T n 0 S0 = poG 13 SI := by
  have hn := h.hn
  have k0 := fun j (hj : j < 20) => h.t0 j hj
  have w0 := lw_of (T := T) (n := n) (p := 0) 0 lt0 (fun j hj => by
    have hj : j < 6 := hj
    rw [Nat.zero_add]
    exact k0 j (by omega)) (by decide) (by show 0 + 5 ≤ n; omega)
  have e0 : txSk T n 0 = 0 := sk_0 (by rw [txS_v (k0 0 (by decide))]; decide)
  have w1 : txWe T n 0 = 5 := w0.1
  have w2 : isW T 0 5 0 = true := w0.2
  have e5 : txSk T n 5 = 6 := sk_1 (by rw [txS_v (k0 5 (by decide))]; decide) (by rw [txS_v (k0 6 (by decide))]; decide) (by omega)
  have n6 := num_2 (T := T) (n := n) (p := 6) 16 (by decide) (k0 6 (by decide)) (k0 7 (by decide)) (k0 8 (by decide)) (by decide) (by omega)
  have e8 : txSk T n 8 = 9 := sk_1 (by rw [txS_v (k0 8 (by decide))]; decide) (by rw [txS_v (k0 9 (by decide))]; decide) (by omega)
  have n9 := num_c (T := T) (n := n) (p := 9) 4 (by decide) (k0 9 (by decide)) (k0 10 (by decide)) (by decide) (by omega)
  have e10 : txSk T n 10 = 11 := sk_1 (by rw [txS_v (k0 10 (by decide))]; decide) (by rw [txS_v (k0 11 (by decide))]; decide) (by omega)
  have n11 := num_2 (T := T) (n := n) (p := 11) 12 (by decide) (k0 11 (by decide)) (k0 12 (by decide)) (k0 13 (by decide)) (by decide) (by omega)
  unfold flashO
  rw [e0, w1]
  unfold flashW
  rw [if_pos w2, e5, n6.2.1, n6.2.2, if_pos (txK_0 n6.1 (by rw [n6.2.1]; decide)), show 6 + 2 = 8 from rfl, e8, n9.2.1, n9.2.2, if_pos (txK_0 n9.1 (by rw [n9.2.1]; decide)), if_pos (by decide), show 9 + 1 = 10 from rfl]
  rw [numO_y (by rw [e10]; exact txK_0 n11.1 (by rw [n11.2.1]; decide)), e10, n11.2.1, n11.2.2]
  rfl
theorem lt_tries (h : LTx T n t v w l) : stmtO T n 14 SI = poG 21 ((SI.cl 0).st 3 t) := by
  have hn := h.hn
  have ht := h.ht
  have k0 := fun j (hj : j < 20) => h.t0 j hj
  have e0 : txSk T n 14 = 14 := sk_0 (by rw [txS_v (k0 14 (by decide))]; decide)
  have w0 := lw_of (T := T) (n := n) (p := 14) 2 (fun j => lt0 (14 + j)) (fun j hj => by
    have hj : j < 6 := hj
    exact k0 (14 + j) (by omega)) (by decide) (by show 14 + 5 ≤ n; omega)
  have w1 : txWe T n 14 = 19 := w0.1
  have w2 : isW T 14 19 2 = true := w0.2
  have w3 : isW T 14 19 1 = false := lw_no 1 116 (k0 14 (by decide)) (by decide) (by decide)
  have e19 : txSk T n 19 = 20 := sk_1 (by rw [txS_v (k0 19 (by decide))]; decide) (by rw [txS_v h.tt]; exact decide_eq_false (by omega)) (by omega)
  have n20 := num_c (T := T) (n := n) (p := 20) (c := 59) t (by omega) h.tt (h.t1 0 (by decide)) (by decide) (by omega)
  unfold stmtO
  rw [e0, w1]
  unfold stmtW
  rw [if_neg (by rw [w3]; decide), if_pos w2]
  unfold onceO
  rw [if_neg (by decide), numO_y (by rw [e19]; exact txK_0 n20.1 (by rw [n20.2.1]; exact ht)), e19, n20.2.1, n20.2.2]
theorem lt_img (h : LTx T n t v w l) (S : PSt) (hS0 : S.row 0 = nI 16) (hgv : S.gv.testBit 3 = false) : stmtO T n 22 S = poG (33 + dg v + dg w) ((S.cl 3).rw (imE S.row v w)) := by
  have hn := h.hn
  have hv := h.hv
  have hw := h.hw
  have lv := dg_le v
  have lw := dg_le w
  have k1 := fun j (hj : j < 9) => h.t1 j hj
  have e0 : txSk T n 22 = 22 := sk_0 (by rw [txS_v (k1 1 (by decide))]; decide)
  have w0 := lw_of (T := T) (n := n) (p := 22) 1 (fun j => lt1 (1 + j)) (fun j hj => by
    have hj : j < 6 := hj
    have := k1 (1 + j) (by omega)
    rw [show 21 + (1 + j) = 22 + j by omega] at this
    exact this) (by decide) (by show 22 + 5 ≤ n; omega)
  have w1 : txWe T n 22 = 27 := w0.1
  have w2 : isW T 22 27 1 = true := w0.2
  have e27 : txSk T n 27 = 28 := sk_1 (by rw [txS_v (k1 6 (by decide))]; decide) (by rw [txS_v (k1 7 (by decide))]; decide) (by omega)
  have n28 := num_c (T := T) (n := n) (p := 28) (c := 32) 0 (by decide) (k1 7 (by decide)) (k1 8 (by decide)) (by decide) (by omega)
  have d30 : txD T 30 = true := dig_d (k := 0) (h.tv 0 (by omega))
  have sd : ∀ {q : Nat}, txD T q = true → txS T q = false := fun {q} hq => by
    have := of_decide_eq_true hq
    exact decide_eq_false (by omega)
  have e29 : txSk T n 29 = 30 := sk_1 (by rw [txS_v (k1 8 (by decide))]; decide) (sd d30) (by omega)
  have c0 := h.t2 0 (by decide)
  have c1 := h.t2 1 (by decide)
  have c2 := h.t2 2 (by decide)
  rw [Nat.add_zero] at c0
  have n30 := num_at (T := T) (n := n) (p := 30) (v := v) (by omega) h.tv (by rw [txD_v c0]; decide) (by omega)
  have ep : txSk T n (30 + dg v) = 30 + dg v + 1 := sk_1 (by rw [txS_v c0]; decide) (by rw [txS_v c1]; decide) (by omega)
  have np := num_c (T := T) (n := n) (p := 30 + dg v + 1) (c := 32) 7 (by decide) c1 c2 (by decide) (by omega)
  have dw : txD T (33 + dg v) = true := by
    have := dig_d (k := 0) (h.tw 0 (by omega))
    exact this
  have eq_ : txSk T n (30 + dg v + 1 + 1) = 33 + dg v := by
    rw [sk_1 (by rw [show 30 + dg v + 1 + 1 = 30 + dg v + 2 by omega, txS_v c2]; decide) (by rw [show 30 + dg v + 1 + 1 + 1 = 33 + dg v by omega]; exact sd dw) (by omega)]
    omega
  have c3 := h.t3 0 (by decide)
  rw [Nat.add_zero] at c3
  have nw := num_at (T := T) (n := n) (p := 33 + dg v) (v := w) (by omega) h.tw (by rw [txD_v c3]; decide) (by omega)
  have ew : txSk T n (33 + dg v) = 33 + dg v := sk_0 (sd dw)
  have ez : txSk T n (33 + dg v + dg w) = 33 + dg v + dg w := sk_0 (by rw [txS_v c3]; decide)
  unfold stmtO
  rw [e0, w1]
  unfold stmtW
  rw [if_pos w2, hS0, tn_nI (by decide)]
  unfold imageO
  rw [e27, n28.2.1, n28.2.2, if_pos (txK_0 n28.1 (by rw [n28.2.1]; decide))]
  unfold onceO
  rw [if_neg (by rw [hgv]; decide), show 28 + 1 = 29 from rfl, e29, n30.2.1, n30.2.2, if_pos (txK_0 n30.1 (by rw [n30.2.1]; exact hv))]
  show imgF T n 16 0 _ (60 + 1 + 1) 0 (30 + dg v) _ = _
  rw [imgF_s (by decide) (by rw [ep]; exact txK_0 np.1 (by rw [np.2.1]; decide)), ep, np.2.1, np.2.2]
  rw [imgH_d (by decide) (by rw [eq_]; exact dw), eq_]
  rw [imgF_s (by decide) (by rw [ew]; exact txK_0 nw.1 (by rw [nw.2.1]; omega)), ew, nw.2.1, nw.2.2]
  rw [imgH_e (by decide) (by rw [ez, txD_v c3]; decide), ez]
  rfl
theorem lt_good (h : LTx T n t v w l) (S : PSt) (hgv : S.gv.testBit 2 = false) : stmtO T n (34 + dg v + dg w) S = poG (40 + dg v + dg w) ((S.cl 2).sg 0) := by
  have hn := h.hn
  generalize hp : 33 + dg v + dg w = p
  have k3 := fun j (hj : j < 13) => h.t3 j hj
  rw [hp] at k3
  rw [show 34 + dg v + dg w = p + 1 by omega, show 40 + dg v + dg w = p + 7 by omega]
  have e0 : txSk T n (p + 1) = p + 1 := sk_0 (by rw [txS_v (k3 1 (by decide))]; decide)
  have w0 := lw_of (T := T) (n := n) (p := p + 1) 5 (fun j => lt3 (1 + j)) (fun j hj => by
    have hj : j < 5 := hj
    have := k3 (1 + j) (by omega)
    rw [show p + (1 + j) = p + 1 + j by omega] at this
    exact this) (by decide) (by show p + 1 + 4 ≤ n; omega)
  have w1 : txWe T n (p + 1) = p + 5 := w0.1
  have w2 : isW T (p + 1) (p + 5) 5 = true := w0.2
  have q1 : isW T (p + 1) (p + 5) 1 = false := lw_no 1 103 (k3 1 (by decide)) (by decide) (by decide)
  have q2 : isW T (p + 1) (p + 5) 2 = false := lw_no 2 103 (k3 1 (by decide)) (by decide) (by decide)
  have q3 : isW T (p + 1) (p + 5) 3 = false := lw_no 3 103 (k3 1 (by decide)) (by decide) (by decide)
  have q4 : isW T (p + 1) (p + 5) 4 = false := lw_no 4 103 (k3 1 (by decide)) (by decide) (by decide)
  have e5 : txSk T n (p + 5) = p + 6 := sk_1 (by rw [txS_v (k3 5 (by decide))]; decide) (by rw [txS_v (k3 6 (by decide))]; decide) (by omega)
  have n6 := num_c (T := T) (n := n) (p := p + 6) (c := 59) 0 (by decide) (k3 6 (by decide)) (k3 7 (by decide)) (by decide) (by omega)
  unfold stmtO
  rw [e0, w1]
  unfold stmtW
  rw [if_neg (by rw [q1]; decide), if_neg (by rw [q2]; decide), if_neg (by rw [q3]; decide), if_neg (by rw [q4]; decide), if_pos w2]
  unfold onceO
  rw [if_neg (by rw [hgv]; decide), numO_y (by rw [e5]; exact txK_0 n6.1 (by rw [n6.2.1]; decide)), e5, n6.2.1, n6.2.2]
theorem lt_life (h : LTx T n t v w l) (S : PSt) (hgv : S.gv.testBit 5 = false) : stmtO T n (41 + dg v + dg w) S = poG n ((S.cl 5).st 5 l) := by
  have hn := h.hn
  have hl := h.hl
  have tl := h.tl
  have tz := h.tz n (Nat.le_refl _)
  generalize hp : 33 + dg v + dg w = p
  have k3 := fun j (hj : j < 13) => h.t3 j hj
  rw [hp] at k3
  rw [show 46 + dg v + dg w = p + 13 by omega] at tl
  have en : n = p + 14 := by omega
  rw [show 41 + dg v + dg w = p + 8 by omega]
  have e0 : txSk T n (p + 8) = p + 8 := sk_0 (by rw [txS_v (k3 8 (by decide))]; decide)
  have w0 := lw_of (T := T) (n := n) (p := p + 8) 3 (fun j => lt3 (8 + j)) (fun j hj => by
    have hj : j < 5 := hj
    have := k3 (8 + j) (by omega)
    rw [show p + (8 + j) = p + 8 + j by omega] at this
    exact this) (by decide) (by show p + 8 + 4 ≤ n; omega)
  have w1 : txWe T n (p + 8) = p + 12 := w0.1
  have w2 : isW T (p + 8) (p + 12) 3 = true := w0.2
  have q1 : isW T (p + 8) (p + 12) 1 = false := lw_no 1 108 (k3 8 (by decide)) (by decide) (by decide)
  have q2 : isW T (p + 8) (p + 12) 2 = false := lw_no 2 108 (k3 8 (by decide)) (by decide) (by decide)
  have e12 : txSk T n (p + 12) = p + 13 := sk_1 (by rw [txS_v (k3 12 (by decide))]; decide) (by rw [txS_v tl]; exact decide_eq_false (by omega)) (by omega)
  rw [en] at tz
  have n13 := num_c (T := T) (n := n) (p := p + 13) (c := 0) l (by omega) tl tz (by decide) (by omega)
  unfold stmtO
  rw [e0, w1]
  unfold stmtW
  rw [if_neg (by rw [q1]; decide), if_neg (by rw [q2]; decide), if_pos w2]
  unfold onceO
  rw [if_neg (by rw [hgv]; decide), numO_y (by rw [e12]; exact txK_0 n13.1 (by rw [n13.2.1]; omega)), e12, n13.2.1, n13.2.2, en]
theorem lt_parse (h : LTx T n t v w l) : parseO T n = poG n (S5 t v w l) := by
  have hn := h.hn
  have c13 := h.t0 13 (by decide)
  have c21 := h.t1 0 (by decide)
  rw [Nat.add_zero] at c21
  have cp := h.t3 0 (by decide)
  rw [Nat.add_zero] at cp
  have cq := h.t3 7 (by decide)
  rw [show 33 + dg v + dg w + 7 = 40 + dg v + dg w by omega] at cq
  have cz := h.tz n (Nat.le_refl _)
  have s13 : txSk T n 13 = 13 := sk_0 (by rw [txS_v c13]; decide)
  have s21 : txSk T n 21 = 21 := sk_0 (by rw [txS_v c21]; decide)
  have sp : txSk T n (33 + dg v + dg w) = 33 + dg v + dg w := sk_0 (by rw [txS_v cp]; decide)
  have sq : txSk T n (40 + dg v + dg w) = 40 + dg v + dg w := sk_0 (by rw [txS_v cq]; decide)
  have sz : txSk T n n = n := sk_0 (by rw [txS_v cz]; decide)
  unfold parseO
  rw [lt_flash h, if_pos (show (poG 13 SI).k = 0 from rfl)]
  show allF T n (883 + 1 + 1 + 1 + 1 + 1) 13 SI = _
  rw [allF_s (by rw [s13]; exact c13) (by rw [s13, lt_tries h]; rfl), s13, lt_tries h]
  show allF T n _ 21 ((SI.cl 0).st 3 t) = _
  have hi := lt_img h ((SI.cl 0).st 3 t) rfl (show (1 : Nat).testBit 3 = false by decide)
  rw [allF_s (by rw [s21]; exact c21) (by rw [s21, hi]; rfl), s21, hi]
  show allF T n _ (33 + dg v + dg w) ((((SI.cl 0).st 3 t).cl 3).rw (imE ((SI.cl 0).st 3 t).row v w)) = _
  have hg := lt_good h ((((SI.cl 0).st 3 t).cl 3).rw (imE ((SI.cl 0).st 3 t).row v w)) (show (9 : Nat).testBit 2 = false by decide)
  rw [show 34 + dg v + dg w = 33 + dg v + dg w + 1 by omega] at hg
  rw [allF_s (by rw [sp]; exact cp) (by rw [sp, hg]; rfl), sp, hg]
  show allF T n _ (40 + dg v + dg w) (((((SI.cl 0).st 3 t).cl 3).rw (imE ((SI.cl 0).st 3 t).row v w)).cl 2 |>.sg 0) = _
  have hl := lt_life h (((((SI.cl 0).st 3 t).cl 3).rw (imE ((SI.cl 0).st 3 t).row v w)).cl 2 |>.sg 0) (show (13 : Nat).testBit 5 = false by decide)
  rw [show 41 + dg v + dg w = 40 + dg v + dg w + 1 by omega] at hl
  rw [allF_s (by rw [sq]; exact cq) (by rw [sq, hl]; rfl), sq, hl]
  show allF T n _ n (S5 t v w l) = _
  rw [allF_0 (by rw [sz]; exact cz), sz]
end LTE

/-! TEXTS, in numbers: T k is the k-th byte, 0 from the length on -/
abbrev tT : Type := Nat → Nat
def txS (T : tT) (k : Nat) : Bool := decide (T k = 32)
def txL (T : tT) (k : Nat) : Bool := decide (97 ≤ T k ∧ T k ≤ 122)
def txD (T : tT) (k : Nat) : Bool := decide (48 ≤ T k ∧ T k ≤ 57)
def TxOk (T : tT) (n : Nat) : Prop := n ≤ 900 ∧ (∀ k, k < n → 0 < T k ∧ T k < 256) ∧ ∀ k, n ≤ k → T k = 0
def scanF (P : Nat → Bool) : Nat → Nat → Nat
  | 0, p => p
  | t + 1, p => if P p = true then scanF P t (p + 1) else p
theorem scan_y {P : Nat → Bool} {n p : Nat} (h : p < n) (hp : P p = true) : scanF P (n - p) p = scanF P (n - (p + 1)) (p + 1) := by
  rw [show n - p = (n - (p + 1)) + 1 by omega]
  exact if_pos hp
theorem scan_n {P : Nat → Bool} {t p : Nat} (hp : P p = false) : scanF P t p = p := by
  cases t with
  | zero => rfl
  | succ t => exact if_neg (by rw [hp]; decide)
theorem scan_le {P : Nat → Bool} : ∀ (t p : Nat), p ≤ scanF P t p ∧ scanF P t p ≤ p + t
  | 0, p => ⟨Nat.le_refl _, Nat.le_refl _⟩
  | t + 1, p => by
    unfold scanF
    split
    · have := scan_le (P := P) t (p + 1); omega
    · omega
theorem scan_in {P : Nat → Bool} : ∀ (t p k : Nat), p ≤ k → k < scanF P t p → P k = true
  | 0, p, k, h1, h2 => absurd h2 (by show ¬ k < p; omega)
  | t + 1, p, k, h1, h2 => by
    unfold scanF at h2
    split at h2
    · rename_i hp
      by_cases e : k = p
      · rw [e]; exact hp
      · exact scan_in t (p + 1) k (by omega) h2
    · omega
theorem scan_end {P : Nat → Bool} {n : Nat} (hn : P n = false) : ∀ (t p : Nat), p + t = n → P (scanF P t p) = false
  | 0, p, h => by rw [show scanF P 0 p = n from h]; exact hn
  | t + 1, p, h => by
    unfold scanF
    split
    · exact scan_end hn t (p + 1) (by omega)
    · rename_i hp
      exact Bool.eq_false_iff.mpr hp
def txSk (T : tT) (n p : Nat) : Nat := scanF (txS T) (n - p) p
def txWe (T : tT) (n p : Nat) : Nat := scanF (txL T) (n - p) p
def txDe (T : tT) (n p : Nat) : Nat := scanF (txD T) (n - p) p
theorem txSk_le {T : tT} {n p : Nat} (h : p ≤ n) : p ≤ txSk T n p ∧ txSk T n p ≤ n := by have := scan_le (P := txS T) (n - p) p; unfold txSk; omega
theorem txWe_le {T : tT} {n p : Nat} (h : p ≤ n) : p ≤ txWe T n p ∧ txWe T n p ≤ n := by have := scan_le (P := txL T) (n - p) p; unfold txWe; omega
theorem txDe_le {T : tT} {n p : Nat} (h : p ≤ n) : p ≤ txDe T n p ∧ txDe T n p ≤ n := by have := scan_le (P := txD T) (n - p) p; unfold txDe; omega
theorem tx_no {T : tT} {n k : Nat} (h : TxOk T n) (hk : n ≤ k) : txS T k = false ∧ txL T k = false ∧ txD T k = false := by
  simp only [txS, txL, txD, h.2.2 k hk]
  decide
theorem txS_lt {T : tT} {n k : Nat} (h : TxOk T n) (e : txS T k = true) : k < n := Nat.lt_of_not_le (fun q => by rw [(tx_no h q).1] at e; exact absurd e (by decide))
theorem txL_lt {T : tT} {n k : Nat} (h : TxOk T n) (e : txL T k = true) : k < n := Nat.lt_of_not_le (fun q => by rw [(tx_no h q).2.1] at e; exact absurd e (by decide))
theorem txD_lt {T : tT} {n k : Nat} (h : TxOk T n) (e : txD T k = true) : k < n := Nat.lt_of_not_le (fun q => by rw [(tx_no h q).2.2] at e; exact absurd e (by decide))
theorem txSk_sk {T : tT} {n p : Nat} (h : TxOk T n) (hp : p ≤ n) : txS T (txSk T n p) = false := scan_end (tx_no h (Nat.le_refl n)).1 _ _ (by omega)
theorem txSk_2 {T : tT} {n p : Nat} (h : TxOk T n) (hp : p ≤ n) : txSk T n (txSk T n p) = txSk T n p := scan_n (txSk_sk h hp)
/-- numbers, with a cap -/
def vaF (C : Nat) (T : tT) : Nat → Nat → Nat → Nat
  | 0, _, v => v
  | t + 1, p, v => if txD T p = true then vaF C T t (p + 1) (min C (10 * v + (T p - 48))) else v
theorem vaF_y {C : Nat} {T : tT} {n p v : Nat} (h : p < n) (hp : txD T p = true) : vaF C T (n - p) p v = vaF C T (n - (p + 1)) (p + 1) (min C (10 * v + (T p - 48))) := by
  rw [show n - p = (n - (p + 1)) + 1 by omega]
  exact if_pos hp
theorem vaF_n {C : Nat} {T : tT} {t p v : Nat} (hp : txD T p = false) : vaF C T t p v = v := by
  cases t with
  | zero => rfl
  | succ t => exact if_neg (by rw [hp]; decide)
theorem vaF_cap {C1 C2 : Nat} (h : C2 ≤ C1) {T : tT} : ∀ (t p v w : Nat), w = min C2 v → vaF C2 T t p w = min C2 (vaF C1 T t p v)
  | 0, _, _, _, e => e
  | t + 1, p, v, w, e => by
    unfold vaF
    split
    · exact vaF_cap h t (p + 1) _ _ (by subst e; omega)
    · exact e
def txVa (T : tT) (n p : Nat) : Nat := vaF 1000000 T (n - p) p 0
theorem txVa_8 {T : tT} {n p : Nat} : txVa T n p = min 1000000 (vaF 100000000 T (n - p) p 0) := vaF_cap (by decide) _ _ _ _ (by decide)
/-- what is wrong with a number (1: none stands there, 2: out of range); p stands behind the spaces -/
def txK (T : tT) (n p lo hi : Nat) : Nat := if txD T p = true then (if lo ≤ txVa T n p ∧ txVa T n p ≤ hi then 0 else 2) else 1
theorem txK_1 {T : tT} {n p lo hi : Nat} (h : txD T p = false) : txK T n p lo hi = 1 := if_neg (by rw [h]; decide)
theorem txK_2 {T : tT} {n p lo hi : Nat} (h : txD T p = true) (h2 : ¬ (lo ≤ txVa T n p ∧ txVa T n p ≤ hi)) : txK T n p lo hi = 2 := (if_pos h).trans (if_neg h2)
theorem txK_0 {T : tT} {n p lo hi : Nat} (h : txD T p = true) (h2 : lo ≤ txVa T n p ∧ txVa T n p ≤ hi) : txK T n p lo hi = 0 := (if_pos h).trans (if_pos h2)
theorem txK_in {T : tT} {n p lo hi : Nat} (h : txK T n p lo hi = 0) : txD T p = true ∧ lo ≤ txVa T n p ∧ txVa T n p ≤ hi := by
  unfold txK at h
  split at h
  · split at h
    · rename_i a b; exact ⟨a, b⟩
    · omega
  · omega
theorem txK_c {T : tT} {n p lo hi : Nat} : txK T n p lo hi = 0 ∨ txK T n p lo hi = 1 ∨ txK T n p lo hi = 2 := by
  unfold txK
  split
  · split
    · exact Or.inl rfl
    · exact Or.inr (Or.inr rfl)
  · exact Or.inr (Or.inl rfl)
/-- a word -/
def isW (T : tT) (w e i : Nat) : Bool := decide (e - w = bLen.getD i 0) && (List.range (bLen.getD i 0)).all (fun j => decide (nI (T (w + j)) = bC i j))
theorem isW_t {T : tT} {w e i : Nat} (h : e - w = bLen.getD i 0) (h2 : ∀ j, j < bLen.getD i 0 → nI (T (w + j)) = bC i j) : isW T w e i = true := by
  simp only [isW, Bool.and_eq_true, decide_eq_true_eq, List.all_eq_true, List.mem_range]
  exact ⟨h, h2⟩
theorem isW_f {T : tT} {w e i j : Nat} (hj : j < bLen.getD i 0) (h2 : ¬ nI (T (w + j)) = bC i j) : isW T w e i = false := by
  cases q : isW T w e i
  · rfl
  · simp only [isW, Bool.and_eq_true, decide_eq_true_eq, List.all_eq_true, List.mem_range] at q
    exact absurd (q.2 j hj) h2
theorem isW_l {T : tT} {w e i : Nat} (h : ¬ e - w = bLen.getD i 0) : isW T w e i = false := by
  cases q : isW T w e i
  · rfl
  · simp only [isW, Bool.and_eq_true, decide_eq_true_eq] at q
    exact absurd q.1 h
/-- what has been read -/
abbrev PSt : Type := sT × Nat × Int32 × Nat
def PSt.row (s : PSt) : sT := s.1
def PSt.fl (s : PSt) : Nat := s.2.1
def PSt.gd (s : PSt) : Int32 := s.2.2.1
def PSt.gv (s : PSt) : Nat := s.2.2.2
abbrev PO : Type := Nat × Nat × Nat × PSt
def PO.k (o : PO) : Nat := o.1
def PO.a (o : PO) : Nat := o.2.1
def PO.p (o : PO) : Nat := o.2.2.1
def PO.st (o : PO) : PSt := o.2.2.2
def PSt.cl (s : PSt) (b : Nat) : PSt := ⟨s.row, s.fl, s.gd, s.gv + 2 ^ b⟩
def PSt.rw (s : PSt) (r : sT) : PSt := ⟨r, s.fl, s.gd, s.gv⟩
def PSt.st (s : PSt) (k v : Nat) : PSt := s.rw (upd s.row k (nI v))
def PSt.sf (s : PSt) (v : Nat) : PSt := ⟨s.row, v, s.gd, s.gv⟩
def PSt.sg (s : PSt) (v : Nat) : PSt := ⟨s.row, s.fl, nI v, s.gv⟩
def poB (k a : Nat) (s : PSt) : PO := ⟨k, a, 0, s⟩
def poG (p : Nat) (s : PSt) : PO := ⟨0, 0, p, s⟩
def numO (T : tT) (n e lo hi : Nat) (f : Nat → PSt) (s : PSt) : PO :=
  if txK T n (txSk T n e) lo hi = 0 then poG (txDe T n (txSk T n e)) (f (txVa T n (txSk T n e))) else poB (txK T n (txSk T n e) lo hi) (txSk T n e) s
theorem numO_y {T : tT} {n e lo hi : Nat} {f : Nat → PSt} {s : PSt} (h : txK T n (txSk T n e) lo hi = 0) : numO T n e lo hi f s = poG (txDe T n (txSk T n e)) (f (txVa T n (txSk T n e))) := if_pos h
theorem numO_n {T : tT} {n e lo hi : Nat} {f : Nat → PSt} {s : PSt} (h : ¬ txK T n (txSk T n e) lo hi = 0) : numO T n e lo hi f s = poB (txK T n (txSk T n e) lo hi) (txSk T n e) s := if_neg h
def onceO (w b : Nat) (s : PSt) (o : PO) : PO := if s.gv.testBit b = true then poB 4 w s else o
def imgE (r : sT) (s c : Nat) : sT := upd (upd r (84 + 64 * s) (nI c)) (85 + 64 * s) (sumF (upd r (84 + 64 * s) (nI c)) (83 + 64 * s) (r (83 + 64 * s)) c)
def imgF (T : tT) (n W s : Nat) (S : PSt) : Nat → Nat → Nat → sT → PO
  | 0, _, p, _ => poB 1 p S
  | t + 1, c, p, r =>
    if c + 3 = W then poB 1 p S
    else if txK T n (txSk T n p) 0 65535 = 0 then
      (if txD T (txSk T n (txDe T n (txSk T n p))) = true then imgF T n W s S t (c + 1) (txSk T n (txDe T n (txSk T n p))) (upd r (86 + 64 * s + c) (nI (txVa T n (txSk T n p))))
       else poG (txSk T n (txDe T n (txSk T n p))) (S.rw (imgE (upd r (86 + 64 * s + c) (nI (txVa T n (txSk T n p)))) s (c + 1))))
    else poB (txK T n (txSk T n p) 0 65535) (txSk T n p) S
def imgH (T : tT) (n W s : Nat) (S : PSt) (t c p : Nat) (r : sT) : PO :=
  if c = 0 then imgF T n W s S t 0 p r
  else if txD T (txSk T n p) = true then imgF T n W s S t c (txSk T n p) r else poG (txSk T n p) (S.rw (imgE r s c))
theorem imgF_w {T : tT} {n W s t c p : Nat} {S : PSt} {r : sT} (h : c + 3 = W) : imgF T n W s S (t + 1) c p r = poB 1 p S := if_pos h
theorem imgF_k {T : tT} {n W s t c p : Nat} {S : PSt} {r : sT} (h : ¬ c + 3 = W) (hk : ¬ txK T n (txSk T n p) 0 65535 = 0) : imgF T n W s S (t + 1) c p r = poB (txK T n (txSk T n p) 0 65535) (txSk T n p) S := (if_neg h).trans (if_neg hk)
theorem imgF_s {T : tT} {n W s t c p : Nat} {S : PSt} {r : sT} (h : ¬ c + 3 = W) (hk : txK T n (txSk T n p) 0 65535 = 0) : imgF T n W s S (t + 1) c p r = imgH T n W s S t (c + 1) (txDe T n (txSk T n p)) (upd r (86 + 64 * s + c) (nI (txVa T n (txSk T n p)))) := ((if_neg h).trans (if_pos hk)).trans (if_neg (Nat.succ_ne_zero c)).symm
theorem imgH_0 {T : tT} {n W s t p : Nat} {S : PSt} {r : sT} : imgH T n W s S t 0 p r = imgF T n W s S t 0 p r := if_pos rfl
theorem imgH_z {T : tT} {n W s t c p : Nat} {S : PSt} {r : sT} (h : c = 0) : imgH T n W s S t c p r = imgF T n W s S t c p r := by subst h; exact imgH_0
theorem imgH_d {T : tT} {n W s t c p : Nat} {S : PSt} {r : sT} (h : ¬ c = 0) (hd : txD T (txSk T n p) = true) : imgH T n W s S t c p r = imgF T n W s S t c (txSk T n p) r := (if_neg h).trans (if_pos hd)
theorem imgH_e {T : tT} {n W s t c p : Nat} {S : PSt} {r : sT} (h : ¬ c = 0) (hd : txD T (txSk T n p) = false) : imgH T n W s S t c p r = poG (txSk T n p) (S.rw (imgE r s c)) := (if_neg h).trans (if_neg (by rw [hd]; decide))
def imageO (T : tT) (n e W : Nat) (S : PSt) : PO :=
  if txK T n (txSk T n e) 0 1 = 0 then
    onceO (txSk T n e) (3 + txVa T n (txSk T n e)) S
      (if txK T n (txSk T n (txDe T n (txSk T n e))) 1 255 = 0 then
        imgF T n W (txVa T n (txSk T n e)) (S.cl (3 + txVa T n (txSk T n e))) 62 0 (txDe T n (txSk T n (txDe T n (txSk T n e)))) (upd S.row (83 + 64 * txVa T n (txSk T n e)) (nI (txVa T n (txSk T n (txDe T n (txSk T n e))))))
       else poB (txK T n (txSk T n (txDe T n (txSk T n e))) 1 255) (txSk T n (txDe T n (txSk T n e))) S)
  else poB (txK T n (txSk T n e) 0 1) (txSk T n e) S
def stmtW (T : tT) (n w e : Nat) (S : PSt) : PO :=
  if isW T w e 1 = true then imageO T n e (tn (S.row 0)) S
  else if isW T w e 2 = true then onceO w 0 S (numO T n e 1 3 (fun v => (S.cl 0).st 3 v) S)
  else if isW T w e 3 = true then onceO w 5 S (numO T n e 0 1000 (fun v => (S.cl 5).st 5 v) S)
  else if isW T w e 4 = true then onceO w 1 S (numO T n e 0 255 (fun v => (S.cl 1).sf v) S)
  else if isW T w e 5 = true then onceO w 2 S (numO T n e 0 1 (fun v => (S.cl 2).sg v) S)
  else poB 1 w S
def stmtO (T : tT) (n p : Nat) (S : PSt) : PO := stmtW T n (txSk T n p) (txWe T n (txSk T n p)) S
def flashW (T : tT) (n w e : Nat) (S : PSt) : PO :=
  if isW T w e 0 = true then
    (if txK T n (txSk T n e) 8 64 = 0 then
      (if txK T n (txSk T n (txDe T n (txSk T n e))) 4 16 = 0 then
        (if txVa T n (txSk T n e) % txVa T n (txSk T n (txDe T n (txSk T n e))) = 0 then
          numO T n (txDe T n (txSk T n (txDe T n (txSk T n e)))) 12 32 (fun v => ((S.st 0 (txVa T n (txSk T n e))).st 1 (txVa T n (txSk T n (txDe T n (txSk T n e))))).st 2 v) S
         else poB 3 (txSk T n (txDe T n (txSk T n e))) S)
       else poB (txK T n (txSk T n (txDe T n (txSk T n e))) 4 16) (txSk T n (txDe T n (txSk T n e))) S)
     else poB (txK T n (txSk T n e) 8 64) (txSk T n e) S)
  else poB 1 w S
def flashO (T : tT) (n p : Nat) (S : PSt) : PO := flashW T n (txSk T n p) (txWe T n (txSk T n p)) S
def allF (T : tT) (n : Nat) : Nat → Nat → PSt → PO
  | 0, p, S => poB 1 p S
  | t + 1, p, S =>
    if T (txSk T n p) = 59 then (if (stmtO T n (txSk T n p + 1) S).k = 0 then allF T n t (stmtO T n (txSk T n p + 1) S).p (stmtO T n (txSk T n p + 1) S).st else stmtO T n (txSk T n p + 1) S)
    else if T (txSk T n p) = 0 then poG (txSk T n p) S else poB 1 (txSk T n p) S
def row0 : sT := fun k => if 83 ≤ k ∧ k < 275 then 65535 else if k = 3 then 3 else if k = 6 then -1 else if k = 8 then -1 else 0
def S0 : PSt := ⟨row0, 0, -1, 0⟩
def parseO (T : tT) (n : Nat) : PO := if (flashO T n 0 S0).k = 0 then allF T n (901 - (flashO T n 0 S0).p) (flashO T n 0 S0).p (flashO T n 0 S0).st else flashO T n 0 S0
def newS (s : PSt) : sT := fun k => if k = 211 then 24582 else if k = 212 then (if 0 < s.fl then wordI 1 (nI s.fl) else if s.gd = -1 then s.row 212 else wordI 2 s.gd) else if k = 213 then (if 0 < s.fl ∧ ¬ s.gd = -1 then wordI 2 s.gd else s.row 213) else if k < 309 then s.row k else 0

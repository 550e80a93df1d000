/-! TEXTS in THE CLASS's memory -/
def sg (v : Nat) : Int32 := (nI v).toInt8.toInt32
def TC (x : Nat) (I : mI) (T : tT) (n : Nat) : Prop := TxOk T n ∧ I x 2 = nI n ∧ ∀ k, k < n → I (x + 1) k = sg (T k)
abbrev FQ (x : Nat) (I I' : mI) : Prop := FF x [2, 4, 5] [3, 4, 5, 6, 7] I I'
theorem TC.fr {x n : Nat} {I I' : mI} {T : tT} (h : TC x I T n) (hf : FQ x I I') : TC x I' T n :=
  ⟨h.1, (hf.2 2 (by decide)).trans h.2.1, fun k hk => (congrFun (hf.1 (x + 1) (by omega) (by simp)) k).trans (h.2.2 k hk)⟩
theorem sg_all : ∀ v : Nat, v < 256 → ((sg v = 32 ↔ v = 32) ∧ (sg v = 59 ↔ v = 59) ∧ (sg v < 48 ↔ (v < 48 ∨ 128 ≤ v)) ∧ (57 < sg v ↔ (57 < v ∧ v < 128)) ∧ (sg v < 97 ↔ (v < 97 ∨ 128 ≤ v)) ∧ (122 < sg v ↔ (122 < v ∧ v < 128)) ∧ (v < 128 → sg v = nI v)) := by decide +kernel
theorem sg_b {i j : Nat} (hi : i < 6) (hj : j < bLen.getD i 0) {v : Nat} (hv : v < 256) : sg v = bC i j ↔ nI v = bC i j := by
  have h : ∀ i : Nat, i < 6 → ∀ j : Nat, j < 5 → ∀ v : Nat, v < 256 → (sg v = bC i j ↔ (nI v = bC i j ∨ (bC i j = 0 ∧ v = 0))) := by decide +kernel
  have h2 := h i hi j (Nat.lt_of_lt_of_le hj (bL_5 hi)) v hv
  rw [h2]
  constructor
  · rintro (q | ⟨q1, q2⟩)
    · exact q
    · rw [q1, q2]; rfl
  · exact Or.inl
/-- bits of what stood -/
def cs (b : Nat) : Nat := match b with
  | 0 => 1
  | 1 => 4
  | 2 => 8
  | 3 => 16
  | 4 => 32
  | _ => 2
def cg (g : Nat) : Nat := (if g.testBit 0 then 1 else 0) + (if g.testBit 1 then 4 else 0) + (if g.testBit 2 then 8 else 0) + (if g.testBit 3 then 16 else 0) + (if g.testBit 4 then 32 else 0) + (if g.testBit 5 then 2 else 0)
theorem cg_t {g b : Nat} (hg : g < 64) (hb : b < 6) : (nI (cg g) &&& nI (cs b) = 0) ↔ g.testBit b = false := by
  have h : ∀ g : Nat, g < 64 → ∀ b : Nat, b < 6 → ((nI (cg g) &&& nI (cs b) = 0) ↔ g.testBit b = false) := by decide +kernel
  exact h g hg b hb
theorem cg_o {g b : Nat} (hg : g < 64) (hb : b < 6) (h0 : g.testBit b = false) : nI (cg g) ||| nI (cs b) = nI (cg (g + 2 ^ b)) := by
  have h : ∀ g : Nat, g < 64 → ∀ b : Nat, b < 6 → g.testBit b = false → nI (cg g) ||| nI (cs b) = nI (cg (g + 2 ^ b)) := by decide +kernel
  exact h g hg b hb h0
theorem cs_i {s : Nat} (hs : s < 2) : (16 : Int32) <<< (nI s &&& 31) = nI (cs (3 + s)) := by
  rcases (by omega : s = 0 ∨ s = 1) with rfl | rfl <;> rfl
/-- what has been read, in THE CLASS's memory (at first without its sizes) -/
def RC0 (x : Nat) (I : mI) (s : PSt) : Prop := (I (x + 2) 4 = s.row 3 ∧ I (x + 2) 5 = s.row 5 ∧ I (x + 2) 6 = nI s.fl ∧ I (x + 2) 7 = s.gd ∧ I (x + 2) 8 = nI (cg s.gv)) ∧ ∀ q k, q < 2 → k < 64 → I (x + 4 + q) k = s.row (83 + 64 * q + k)
def RC (x : Nat) (I : mI) (s : PSt) : Prop := (I (x + 2) 1 = s.row 0 ∧ I (x + 2) 2 = s.row 1 ∧ I (x + 2) 3 = s.row 2) ∧ RC0 x I s
theorem RC0.fr {x : Nat} {I I' : mI} {s : PSt} {l : List Nat} (h : RC0 x I s) (hf : FF x [] l I I') : RC0 x I' s := by
  have e := hf.1 (x + 2) (by omega) (by simp)
  unfold RC0
  rw [e]
  exact ⟨h.1, fun q k hq hk => (congrFun (hf.1 (x + 4 + q) (by omega) (by simp)) k).trans (h.2 q k hq hk)⟩
theorem RC.fr {x : Nat} {I I' : mI} {s : PSt} {l : List Nat} (h : RC x I s) (hf : FF x [] l I I') : RC x I' s := by
  refine ⟨?_, h.2.fr hf⟩
  rw [hf.1 (x + 2) (by omega) (by simp)]
  exact h.1
theorem RC.u {x j : Nat} {I : mI} {s : PSt} {v : Int32} (h : RC x I s) : RC x (up2 I x j v) s := h.fr (l := [j]) (FF.rf.uf (by simp))
theorem RC.im {x q k : Nat} {I : mI} {s : PSt} {v : Int32} (h : RC x I s) (hq : q < 2) (hk : k < 64) : RC x (up2 I (x + 4 + q) k v) (s.rw (upd s.row (83 + 64 * q + k) v)) := by
  refine ⟨?_, ?_, fun q' k' hq' hk' => ?_⟩
  · rw [up2_off (by omega)]
    show _ = upd _ _ _ _ ∧ _ = upd _ _ _ _ ∧ _ = upd _ _ _ _
    rw [upd_n (by omega), upd_n (by omega), upd_n (by omega)]
    exact h.1
  · rw [up2_off (by omega)]
    show _ = upd _ _ _ _ ∧ _ = upd _ _ _ _ ∧ _ ∧ _ ∧ _
    rw [upd_n (by omega), upd_n (by omega)]
    exact h.2.1
  · show _ = upd _ _ _ _
    by_cases e : q' = q ∧ k' = k
    · obtain ⟨rfl, rfl⟩ := e
      rw [up2_s, upd_s]
    · rw [up2_n (by omega), upd_n (by omega)]
      exact h.2.2 q' k' hq' hk'
theorem RC.pl {x k a v : Nat} {I : mI} {s : PSt} (h : RC x I s) (ha : (k = 1 ∧ a = 0) ∨ (k = 2 ∧ a = 1) ∨ (k = 3 ∧ a = 2) ∨ (k = 4 ∧ a = 3) ∨ (k = 5 ∧ a = 5)) : RC x (up2 I (x + 2) k (nI v)) (s.st a v) := by
  have im : ∀ q' k', q' < 2 → k' < 64 → (up2 I (x + 2) k (nI v)) (x + 4 + q') k' = (s.st a v).row (83 + 64 * q' + k') := fun q' k' hq' hk' => by
    show _ = upd _ _ _ _
    rw [up2_off (by omega), upd_n (by omega)]
    exact h.2.2 q' k' hq' hk'
  obtain ⟨⟨h1, h2, h3⟩, ⟨h4, h5, h6, h7, h8⟩, -⟩ := h
  rcases ha with ⟨rfl, rfl⟩ | ⟨rfl, rfl⟩ | ⟨rfl, rfl⟩ | ⟨rfl, rfl⟩ | ⟨rfl, rfl⟩
  · exact ⟨⟨up2_s, (up2_k (by decide)).trans h2, (up2_k (by decide)).trans h3⟩, ⟨(up2_k (by decide)).trans h4, (up2_k (by decide)).trans h5, (up2_k (by decide)).trans h6, (up2_k (by decide)).trans h7, (up2_k (by decide)).trans h8⟩, im⟩
  · exact ⟨⟨(up2_k (by decide)).trans h1, up2_s, (up2_k (by decide)).trans h3⟩, ⟨(up2_k (by decide)).trans h4, (up2_k (by decide)).trans h5, (up2_k (by decide)).trans h6, (up2_k (by decide)).trans h7, (up2_k (by decide)).trans h8⟩, im⟩
  · exact ⟨⟨(up2_k (by decide)).trans h1, (up2_k (by decide)).trans h2, up2_s⟩, ⟨(up2_k (by decide)).trans h4, (up2_k (by decide)).trans h5, (up2_k (by decide)).trans h6, (up2_k (by decide)).trans h7, (up2_k (by decide)).trans h8⟩, im⟩
  · exact ⟨⟨(up2_k (by decide)).trans h1, (up2_k (by decide)).trans h2, (up2_k (by decide)).trans h3⟩, ⟨up2_s, (up2_k (by decide)).trans h5, (up2_k (by decide)).trans h6, (up2_k (by decide)).trans h7, (up2_k (by decide)).trans h8⟩, im⟩
  · exact ⟨⟨(up2_k (by decide)).trans h1, (up2_k (by decide)).trans h2, (up2_k (by decide)).trans h3⟩, ⟨(up2_k (by decide)).trans h4, up2_s, (up2_k (by decide)).trans h6, (up2_k (by decide)).trans h7, (up2_k (by decide)).trans h8⟩, im⟩
theorem RC.sf {x v : Nat} {I : mI} {s : PSt} (h : RC x I s) : RC x (up2 I (x + 2) 6 (nI v)) (s.sf v) :=
  ⟨⟨(up2_k (by decide)).trans h.1.1, (up2_k (by decide)).trans h.1.2.1, (up2_k (by decide)).trans h.1.2.2⟩, ⟨(up2_k (by decide)).trans h.2.1.1, (up2_k (by decide)).trans h.2.1.2.1, up2_s, (up2_k (by decide)).trans h.2.1.2.2.2.1, (up2_k (by decide)).trans h.2.1.2.2.2.2⟩, fun q k hq hk => (congrFun (up2_off (by omega)) k).trans (h.2.2 q k hq hk)⟩
theorem RC.sg {x v : Nat} {I : mI} {s : PSt} (h : RC x I s) : RC x (up2 I (x + 2) 7 (nI v)) (s.sg v) :=
  ⟨⟨(up2_k (by decide)).trans h.1.1, (up2_k (by decide)).trans h.1.2.1, (up2_k (by decide)).trans h.1.2.2⟩, ⟨(up2_k (by decide)).trans h.2.1.1, (up2_k (by decide)).trans h.2.1.2.1, (up2_k (by decide)).trans h.2.1.2.2.1, up2_s, (up2_k (by decide)).trans h.2.1.2.2.2.2⟩, fun q k hq hk => (congrFun (up2_off (by omega)) k).trans (h.2.2 q k hq hk)⟩
theorem RC.cl {x b : Nat} {I : mI} {s : PSt} (h : RC x I s) : RC x (up2 I (x + 2) 8 (nI (cg (s.gv + 2 ^ b)))) (s.cl b) :=
  ⟨⟨(up2_k (by decide)).trans h.1.1, (up2_k (by decide)).trans h.1.2.1, (up2_k (by decide)).trans h.1.2.2⟩, ⟨(up2_k (by decide)).trans h.2.1.1, (up2_k (by decide)).trans h.2.1.2.1, (up2_k (by decide)).trans h.2.1.2.2.1, (up2_k (by decide)).trans h.2.1.2.2.2.1, up2_s⟩, fun q k hq hk => (congrFun (up2_off (by omega)) k).trans (h.2.2 q k hq hk)⟩
/-- the sizes, after the rest -/
theorem RC0.s3 {x a b c : Nat} {I I' : mI} {s : PSt} (h : RC0 x I' s) (h1 : I' (x + 2) 1 = nI a) (h2 : I' (x + 2) 2 = nI b) (h3 : I' (x + 2) 3 = nI c) : RC x I' (((s.st 0 a).st 1 b).st 2 c) := by
  refine ⟨⟨?_, ?_, ?_⟩, ⟨?_, ?_, h.1.2.2.1, h.1.2.2.2.1, h.1.2.2.2.2⟩, fun q k hq hk => ?_⟩
  · rw [h1, st_row, st_row, st_row, upd_n (by decide), upd_n (by decide), upd_s]
  · rw [h2, st_row, st_row, upd_n (by decide), upd_s]
  · rw [h3, st_row, upd_s]
  · rw [h.1.1, st_row, st_row, st_row, upd_n (by decide), upd_n (by decide), upd_n (by decide)]
  · rw [h.1.2.1, st_row, st_row, st_row, upd_n (by decide), upd_n (by decide), upd_n (by decide)]
  · rw [h.2 q k hq hk, st_row, st_row, st_row, upd_n (by omega), upd_n (by omega), upd_n (by omega)]
theorem RC0.p {x k : Nat} {I : mI} {s : PSt} {v : Int32} (h : RC0 x I s) (hk : k < 4) : RC0 x (up2 I (x + 2) k v) s :=
  ⟨⟨(up2_k (by omega)).trans h.1.1, (up2_k (by omega)).trans h.1.2.1, (up2_k (by omega)).trans h.1.2.2.1, (up2_k (by omega)).trans h.1.2.2.2.1, (up2_k (by omega)).trans h.1.2.2.2.2⟩, fun q j hq hj => (congrFun (up2_off (by omega)) j).trans (h.2 q j hq hj)⟩
/-- how a part of the reader ends -/
def PC (x : Nat) (I I' : mI) (o : PO) : Prop := FQ x I I' ∧ (o.k = 0 → I' x 6 = 0 ∧ I' x 3 = nI o.p ∧ RC x I' o.st) ∧ (¬ o.k = 0 → I' x 6 = nI o.k ∧ I' x 7 = nI o.a)
theorem PC.good {x p : Nat} {I I' : mI} {s : PSt} (hF : FQ x I I') (h6 : I' x 6 = 0) (h3 : I' x 3 = nI p) (hR : RC x I' s) : PC x I I' (poG p s) := ⟨hF, fun _ => ⟨h6, h3, hR⟩, fun h => absurd rfl h⟩
theorem PC.bad {x k a : Nat} {I I' : mI} {s : PSt} (hk : ¬ k = 0) (hF : FQ x I I') (h6 : I' x 6 = nI k) (h7 : I' x 7 = nI a) : PC x I I' (poB k a s) := ⟨hF, fun h => absurd h hk, fun _ => ⟨h6, h7⟩⟩
theorem PC.tr {x : Nat} {I I1 I2 : mI} {o : PO} (hF : FQ x I I1) (h : PC x I1 I2 o) : PC x I I2 o := ⟨hF.tr h.1, h.2⟩
theorem sg_d {v : Nat} (hv : v < 256) (h1 : ¬ sg v < 48) (h2 : ¬ 57 < sg v) : 48 ≤ v ∧ v ≤ 57 := by
  have := sg_all v hv
  rw [this.2.2.1] at h1
  rw [this.2.2.2.1] at h2
  omega
theorem sg_nd {v : Nat} (hv : v < 256) (h : sg v < 48 ∨ 57 < sg v) : ¬ (48 ≤ v ∧ v ≤ 57) := by
  have := sg_all v hv
  rw [this.2.2.1, this.2.2.2.1] at h
  omega
theorem sg_l {v : Nat} (hv : v < 256) (h1 : ¬ sg v < 97) (h2 : ¬ 122 < sg v) : 97 ≤ v ∧ v ≤ 122 := by
  have := sg_all v hv
  rw [this.2.2.2.2.1] at h1
  rw [this.2.2.2.2.2.1] at h2
  omega
theorem sg_nl {v : Nat} (hv : v < 256) (h : sg v < 97 ∨ 122 < sg v) : ¬ (97 ≤ v ∧ v ≤ 122) := by
  have := sg_all v hv
  rw [this.2.2.2.2.1, this.2.2.2.2.2.1] at h
  omega

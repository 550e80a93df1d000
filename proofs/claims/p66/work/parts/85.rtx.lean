/-! TEXTS in the reference's memory; longs that are ints; rows for long answers -/
def TR (m : Nat) (I : mI) (T : tT) (n : Nat) : Prop := TxOk T n ∧ I m 10 = nI n ∧ ∀ k, k < n → I (m + 7) k = nI (T k)
abbrev FP (m : Nat) (I I' : mI) : Prop := FF m [3] [7, 8, 11, 12, 13, 14, 16, 17] I I'
theorem TR.fr {m n : Nat} {I I' : mI} {T : tT} (h : TR m I T n) (hf : FP m I I') : TR m I' T n :=
  ⟨h.1, (hf.2 10 (by decide)).trans h.2.1, fun k hk => (congrFun (hf.1 (m + 7) (by omega) (by simp)) k).trans (h.2.2 k hk)⟩
theorem tx_256 {T : tT} {n : Nat} (h : TxOk T n) (k : Nat) : T k < 256 := by
  rcases Nat.lt_or_ge k n with q | q
  · exact (h.2.1 k q).2
  · rw [h.2.2 k q]; decide
theorem tx_0 {T : tT} {n k : Nat} (h : TxOk T n) : T k = 0 ↔ ¬ k < n := by
  constructor
  · intro e q
    have := (h.2.1 k q).1
    omega
  · intro q
    exact h.2.2 k (by omega)
/-- what byteAt answers -/
def bA (T : tT) (k : Nat) : Int32 := if T k = 0 then -1 else nI (T k)
theorem bA_e {T : tT} {n k c : Nat} (h : TxOk T n) (hc : 0 < c) (hc2 : c < 2 ^ 31) : bA T k = nI c ↔ T k = c := by
  have h2 := tx_256 h k
  unfold bA
  split
  · rename_i e
    rw [e]
    exact ⟨fun q => absurd q.symm (nI_nm1 hc2), fun q => by omega⟩
  · exact nI_eq (by omega) hc2
theorem bA_r {T : tT} {n k lo hi : Nat} (h : TxOk T n) (hl : 0 < lo) (hh : hi < 2 ^ 31) (hlh : lo < 2 ^ 31) : inI (bA T k) (nI lo) (nI hi) = decide (lo ≤ T k ∧ T k ≤ hi) := by
  have h2 := tx_256 h k
  unfold bA
  split
  · rename_i e
    rw [e]
    have e1 : decide (lo ≤ 0 ∧ 0 ≤ hi) = false := decide_eq_false (by omega)
    rw [e1]
    simp only [inI, Bool.and_eq_false_iff, decide_eq_false_iff_not]
    left
    intro q
    have q2 := Int32.le_iff_toInt_le.mp q
    rw [nI_toInt hlh] at q2
    have : (-1 : Int32).toInt = -1 := by decide
    omega
  · simp only [inI]
    rw [Bool.eq_iff_iff]
    simp only [Bool.and_eq_true, decide_eq_true_eq]
    rw [nI_leI hlh (by omega), nI_leI (by omega) hh]
theorem bA_L {T : tT} {n k : Nat} (h : TxOk T n) : inI (bA T k) 97 122 = txL T k := bA_r (lo := 97) (hi := 122) h (by decide) (by decide) (by decide)
theorem bA_D {T : tT} {n k : Nat} (h : TxOk T n) : inI (bA T k) 48 57 = txD T k := bA_r (lo := 48) (hi := 57) h (by decide) (by decide) (by decide)
theorem bA_0 {T : tT} {n k : Nat} (h : TxOk T n) : bA T k = -1 ↔ T k = 0 := by
  unfold bA
  split
  · rename_i e; exact ⟨fun _ => e, fun _ => rfl⟩
  · rename_i e; exact ⟨fun g => absurd g (nI_nm1 (by have := tx_256 h k; omega)), fun g => absurd g e⟩
theorem bA_n {T : tT} {k : Nat} (h : ¬ T k = 0) : bA T k = nI (T k) := if_neg h
theorem txL_ne {T : tT} {k : Nat} (h : txL T k = true) : ¬ T k = 0 := by
  simp only [txL, decide_eq_true_eq] at h; omega
theorem txD_ne {T : tT} {k : Nat} (h : txD T k = true) : 48 ≤ T k ∧ T k ≤ 57 := by
  simpa only [txD, decide_eq_true_eq] using h
/-- longs that are ints -/
theorem lg_dig {v d : Nat} (hv : v ≤ 100000000) (h1 : 48 ≤ d) (h2 : d ≤ 57) : (10 : Int64) * Int32.toInt64 (nI v) + Int32.toInt64 (nI d) - 48 = Int32.toInt64 (nI (10 * v + (d - 48))) := by
  have e : ∀ k : Nat, k < 2 ^ 31 → (Int32.toInt64 (nI k)).toInt = (k : Int) := fun k hk => by rw [Int32.toInt_toInt64, nI_toInt hk]
  apply Int64.toInt_inj.mp
  rw [Int64.toInt_sub, Int64.toInt_add, Int64.toInt_mul, e v (by omega), e d (by omega), e _ (by omega)]
  have e10 : (10 : Int64).toInt = 10 := by decide
  have e48 : (48 : Int64).toInt = 48 := by decide
  rw [e10, e48]
  simp only [Int.bmod_sub_bmod, Int.bmod_add_bmod]
  rw [Int.bmod_eq_of_le (by omega) (by omega)]
  omega
theorem lg_min {a b : Nat} (ha : a < 2 ^ 31) (hb : b < 2 ^ 31) : Int32.toInt64 (nI a) ≤ Int32.toInt64 (nI b) ↔ a ≤ b := by
  rw [Int64.le_iff_toInt_le, Int32.toInt_toInt64, Int32.toInt_toInt64, nI_toInt ha, nI_toInt hb]
  omega
theorem vx_ofWP {l : Launch} {y : MethodName} {ws ws' : List Cond} {rm : Room} {Pc : Array Value → State → Prop} {Qc : Array Value → State → Outcome → State → Prop} {XC : String → State → State → Prop} {mc ms : Nat} {free : Addr → Prop} {cc : ByteArray} {maxL : Nat} {ret : Option FieldType}
    (hy : plainFor y = true) (hw : ws = Cond.code y cc maxL ret :: ws')
    (body : ∀ p e s m args below meth c s₁, BodyLoose p l y (headSpec ws rm) cc maxL ret e s m args below meth c s₁ → c.maxLocals = maxL → (∀ x ∈ c.exceptionTable.toList, False) → Pc args s →
      W p l e (headSpec ws rm).room s m args below meth c s.heap [] 0 0 (vx_MQ below Qc XC args s mc ms free) (entryFrame m args maxL)) : vx_Met l y ws rm Pc Qc XC mc ms free := by
  refine MetFree.of_bodySF (code := cc) (maxLocals := maxL) (ret := ret) hy ?_ ?_
  · intro args s m h hn
    obtain ⟨meth, c, h1, h2, h3, h4, h5, h6, -, -⟩ := Cond.code_spec hn (atoms_spec (ws := ws) h _ (by rw [hw]; exact List.mem_cons_self))
    exact ⟨meth, c, h1, h2, h3, h4, h5, h6⟩
  · intro p e s m args below meth c s₁ B hml hP _
    have hh0 : s₁.heap = s.heap := by rw [B.state]; rfl
    have ht : ∀ x ∈ c.exceptionTable.toList, False := by
      obtain ⟨meth9, c9, h1, h2, -, -, -, -, h7, -⟩ := Cond.code_spec B.named (atoms_spec (ws := ws) B.pre _ (by rw [hw]; exact List.mem_cons_self))
      cases Option.some.inj (h1.symm.trans B.method)
      cases Option.some.inj (h2.symm.trans (Stand.of_body B).code)
      intro x hx
      rw [Array.isEmpty_iff.mp h7] at hx
      cases hx
    obtain ⟨t, a1, o, b1, b2, b3⟩ := body p e s m args below meth c s₁ B hml ht hP s₁ hh0 (Stand.of_body B)
    exact ⟨t, o, a1, b1, b2, b3⟩
set_option maxHeartbeats 1000000 in
/-- from the body to the contract, for a member that the machine has no row of its own for -/
theorem Sp.ofP {y : MethodName} {cc : ByteArray} {nL : Nat} {ret : Option FieldType} {fr lo mc ms : Nat} {args : List Value} {n : Nat} {sh : mS} {G : mG} {I : mI} {J : mJ} {Q : Option Value → mI → mJ → Prop} {X : String → mI → mJ → Prop} (hy : plainFor y = true) {ls : List (Nat × Value)}
    (hl : ∀ ad : Nat → Nat, lv_args 0 (args.map (mz ad)) = ls.map (mzp ad)) (hn : ∀ ad : Nat → Nat, (lg_sl (args.map (mz ad))).length ≤ nL)
    (h : Rc y.cls cc nL ret fr lo mc ms n sh G Q X mc ms 0 ls [] I J) : Sp y cc nL ret fr lo mc ms args n sh G I J Q X := by
  intro l D cA ad sz hfl
  refine vx_ofWP (cc := cc) (maxL := nL) (ret := ret) hy rfl ?_
  intro p e s m args' below meth c s₁ B hml hxt hv
  obtain ⟨rfl, hsz, hP, hD, hK, hB⟩ := hv
  subst hsz
  have hts := atoms_spec (ws := Cond.code y cc nL ret :: TT) B.pre
  have hown : s.vm.findClass y.cls = some m.cls := findClass_of_methodNamed B.named
  have hA : ∀ q : Nat, s.heap.size ≤ q → mA ad n s.heap.size q := fun q hq => Or.inr hq
  have hD2 : va_D (mA ad n s.heap.size) (mws cA ad n sh I J G) := hD.weaken (fun k q hk _ => by
    obtain ⟨h1, h2⟩ := mws_inv hk
    exact Or.inl ⟨k, h1, by rw [h2]⟩)
  have hl0 := lv_entry (args.map (mz ad)) (n := nL) (hn ad)
  rw [lg_entry_eq]
  refine h p l e _ s m _ below meth c s.heap [] 0 0 _ D cA ad (mA ad n s.heap.size) hfl ⟨B.exec, B.bytes, hml, hown, fun w hw => hts w (List.mem_cons_of_mem _ hw)⟩ B.returns B.notSynchronized hxt ⟨Nat.le_refl _, Nat.le_refl _, Nat.le_refl _, Nat.le_refl _⟩ (by omega) (by omega) hA hB va_S.rf hP hD2 hK ?_
  rw [← hl ad]
  exact hl0
def Ql (P : Int64 → mI → mJ → Prop) : Option Value → mI → mJ → Prop := fun r I J => ∃ v : Int64, r = some (.long v) ∧ P v I J
section R2L
variable {own : String} {cc : ByteArray} {nL pc b : Nat} {ls ls' : List (Nat × Value)} {st rest : List Value}
variable {ret : Option FieldType} {fr lo mc ms n kc ks : Nat} {sh : mS} {G : mG} {Q : Option Value → mI → mJ → Prop} {X : String → mI → mJ → Prop} {I : mI} {J : mJ}
variable {y : MethodName} {cb : ByteArray} {nb : Nat} {rb : Option FieldType} {fr' lo' nA : Nat} {As As' : List Value}
theorem r_lS {ix : Nat} {P : Int64 → mI → mJ → Prop} (hs : Sp y cb nb rb fr' lo' 0 0 As n sh G I J (Ql P) nX) (hw : cw own ix y cb nb rb nA) (hst : Cond.static y ∈ TT) (hd : decode cc pc = .ok (.invokestatic ix, 3)) (hn : As.length = nA) (hstk : st = As.reverse ++ rest) (hcat : (rest.map fun v => v.category).sum ≤ 8) (hroom : fr' + 1 ≤ fr ∧ nb + 19 + lo' ≤ lo) (hb : pc + 3 = b)
    (kk : ∀ (v : Int64) (I1 : mI) (J1 : mJ), P v I1 J1 → Rc own cc nL ret fr lo mc ms n sh G Q X kc ks b ls (.long v :: rest) I1 J1) : Rc own cc nL ret fr lo mc ms n sh G Q X kc ks pc ls st I J :=
  r_callS hs hw hst hd hn hstk hcat ⟨hroom.1, hroom.2, Nat.zero_le _, Nat.zero_le _⟩ hb (fun _ _ _ h => h.elim) (fun r I1 J1 h => by
    obtain ⟨v, rfl, hP⟩ := h
    exact kk v I1 J1 hP)
theorem r_lret {v : Int64} (hd : decode cc pc = .ok (.lreturn, 1)) (hret : ret = some .long) (hq : Q (some (.long v)) I J) : Rc own cc nL ret fr lo mc ms n sh G Q X kc ks pc ls (.long v :: []) I J := by
  intro p l e R s m args below meth c H locs cells slots la D cA ad A hfl S hr hlk hxt hR hkc hks hA hB hS hP hD hK hl
  refine W.widen (k := mc) (n := ms) (by omega) (by omega) (vx_ret ?_)
  exact W.lret S.1 S.2.1 (hr.trans hret) (fun t ht hW => ⟨⟨some (.long v), I, J, rfl, hq, by rw [ht]; exact hP, hD, va_K.moved hW.alike hK⟩, hS.F ht⟩) hS.2.2 hd hlk
end R2L
/-- what has been read, in the reference's memory -/
def RS (m : Nat) (I : mI) (s : PSt) : Prop := (∀ k, k < 309 → I (m + 3) k = s.row k) ∧ I m 7 = nI s.fl ∧ I m 8 = s.gd ∧ I m 17 = nI s.gv
theorem RS.fr {m : Nat} {I I' : mI} {s : PSt} (h : RS m I s) (hf : FF m [] [11, 12, 13, 14, 16] I I') : RS m I' s :=
  ⟨fun k hk => (congrFun (hf.1 (m + 3) (by omega) (by simp)) k).trans (h.1 k hk), (hf.2 7 (by decide)).trans h.2.1, (hf.2 8 (by decide)).trans h.2.2.1, (hf.2 17 (by decide)).trans h.2.2.2⟩
theorem RS.uf {m j : Nat} {I : mI} {s : PSt} {v : Int32} (h : RS m I s) (hj : j ∈ [11, 12, 13, 14, 16]) : RS m (up2 I m j v) s := h.fr (FF.rf.uf hj)
theorem RS.st {m k v : Nat} {I : mI} {s : PSt} (h : RS m I s) : RS m (up2 I (m + 3) k (nI v)) (s.st k v) := by
  refine ⟨fun j hj => ?_, (up2_a (by omega)).trans h.2.1, (up2_a (by omega)).trans h.2.2.1, (up2_a (by omega)).trans h.2.2.2⟩
  rw [up2_row]
  show upd (I (m + 3)) k (nI v) j = upd s.row k (nI v) j
  simp only [upd, h.1 j hj]
theorem RS.ro {m k : Nat} {I : mI} {s : PSt} {v : Int32} (h : RS m I s) : RS m (up2 I (m + 3) k v) (s.rw (upd s.row k v)) := by
  refine ⟨fun j hj => ?_, (up2_a (by omega)).trans h.2.1, (up2_a (by omega)).trans h.2.2.1, (up2_a (by omega)).trans h.2.2.2⟩
  rw [up2_row]
  show upd (I (m + 3)) k v j = upd s.row k v j
  simp only [upd, h.1 j hj]
theorem RS.cl {m b : Nat} {I : mI} {s : PSt} (h : RS m I s) : RS m (up2 I m 17 (nI (s.gv + 2 ^ b))) (s.cl b) :=
  ⟨fun j hj => (congrFun (up2_off (by omega)) j).trans (h.1 j hj), (up2_k (by decide)).trans h.2.1, (up2_k (by decide)).trans h.2.2.1, up2_s⟩
theorem RS.sf {m v : Nat} {I : mI} {s : PSt} (h : RS m I s) : RS m (up2 I m 7 (nI v)) (s.sf v) :=
  ⟨fun j hj => (congrFun (up2_off (by omega)) j).trans (h.1 j hj), up2_s, (up2_k (by decide)).trans h.2.2.1, (up2_k (by decide)).trans h.2.2.2⟩
theorem RS.sg {m v : Nat} {I : mI} {s : PSt} (h : RS m I s) : RS m (up2 I m 8 (nI v)) (s.sg v) :=
  ⟨fun j hj => (congrFun (up2_off (by omega)) j).trans (h.1 j hj), (up2_k (by decide)).trans h.2.1, up2_s, (up2_k (by decide)).trans h.2.2.2⟩
/-- bits that stand once -/
theorem gv_t {g b : Nat} (hg : g < 64) (hb : b < 6) : ((nI g >>> (nI b &&& 31)) &&& 1 = 1) ↔ g.testBit b = true := by
  have h : ∀ g : Nat, g < 64 → ∀ b : Nat, b < 6 → (((nI g >>> (nI b &&& 31)) &&& 1 = 1) ↔ g.testBit b = true) := by decide +kernel
  exact h g hg b hb
theorem gv_o {g b : Nat} (hg : g < 64) (hb : b < 6) (h0 : g.testBit b = false) : nI g ||| ((1 : Int32) <<< (nI b &&& 31)) = nI (g + 2 ^ b) ∧ g + 2 ^ b < 64 := by
  have h : ∀ g : Nat, g < 64 → ∀ b : Nat, b < 6 → g.testBit b = false → (nI g ||| ((1 : Int32) <<< (nI b &&& 31)) = nI (g + 2 ^ b) ∧ g + 2 ^ b < 64) := by decide +kernel
  exact h g hg b hb h0
/-- how a part of the reader ends -/
def PQ (m : Nat) (I I' : mI) (o : PO) : Prop := FP m I I' ∧ (o.k = 0 → I' m 14 = 0 ∧ I' m 11 = nI o.p ∧ RS m I' o.st) ∧ (¬ o.k = 0 → I' m 14 = nI o.k ∧ I' m 13 = nI o.a)
theorem PQ.good {m p : Nat} {I I' : mI} {s : PSt} (hF : FP m I I') (h14 : I' m 14 = 0) (h11 : I' m 11 = nI p) (hR : RS m I' s) : PQ m I I' (poG p s) := ⟨hF, fun _ => ⟨h14, h11, hR⟩, fun h => absurd rfl h⟩
theorem PQ.bad {m k a : Nat} {I I' : mI} {s : PSt} (hk : ¬ k = 0) (hF : FP m I I') (h14 : I' m 14 = nI k) (h13 : I' m 13 = nI a) : PQ m I I' (poB k a s) := ⟨hF, fun h => absurd h hk, fun _ => ⟨h14, h13⟩⟩
theorem PQ.tr {m : Nat} {I I1 I2 : mI} {o : PO} (hF : FP m I I1) (h : PQ m I1 I2 o) : PQ m I I2 o := ⟨hF.tr h.1, h.2⟩
theorem bk_0 {k : Nat} (h : k = 0) : bi (decide (k = 0)) = 1 := by rw [decide_eq_true h]; rfl
theorem bk_1 {k : Nat} (h : ¬ k = 0) : bi (decide (k = 0)) = 0 := by rw [decide_eq_false h]; rfl
theorem inI_m {v lo hi : Nat} (hv : v < 2 ^ 31) (hl : lo < 2 ^ 31) (hh : hi < 2 ^ 31) : inI (nI v) (nI lo) (nI hi) = decide (lo ≤ v ∧ v ≤ hi) := by
  simp only [inI]
  rw [Bool.eq_iff_iff]
  simp only [Bool.and_eq_true, decide_eq_true_eq]
  rw [nI_leI hl hv, nI_leI hv hh]
theorem RS.u {m j : Nat} {I : mI} {s : PSt} {v : Int32} (h : RS m I s) (h7 : j ≠ 7) (h8 : j ≠ 8) (h17 : j ≠ 17) : RS m (up2 I m j v) s :=
  ⟨fun k hk => (congrFun (up2_off (by omega)) k).trans (h.1 k hk), (up2_k (Ne.symm h7)).trans h.2.1, (up2_k (Ne.symm h8)).trans h.2.2.1, (up2_k (Ne.symm h17)).trans h.2.2.2⟩
theorem TR.fu {m n : Nat} {I I' : mI} {T : tT} (h : TR m I T n) (hf : FF m [3] [6, 7, 8, 11, 12, 13, 14, 15, 16, 17] I I') : TR m I' T n :=
  ⟨h.1, (hf.2 10 (by decide)).trans h.2.1, fun k hk => (congrFun (hf.1 (m + 7) (by omega) (by simp)) k).trans (h.2.2 k hk)⟩
/-- what load answers, and the state behind it -/
def loadA (T : tT) (n : Nat) : Int32 := if (parseO T n).k = 0 then bi (wholeB (newS (parseO T n).st) 0) + bi (wholeB (newS (parseO T n).st) 1) else -100 - nI (parseO T n).a
def loadT (T : tT) (n : Nat) (σ : sT) : sT := if (parseO T n).k = 0 then newS (parseO T n).st else σ

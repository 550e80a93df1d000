/-! THE SMALL MACHINE: one memory for all cells (I ints, J longs, G references by ids), a frame judgement Rc over it, a row an instruction. -/
abbrev mI : Type := Nat → Nat → Int32
abbrev mJ : Type := Nat → Nat → Int64
abbrev mG : Type := Nat → Nat → Option Nat
abbrev mS : Type := Nat → (Nat × Nat) ⊕ (Nat × Nat)
def up2 {α : Type} (I : Nat → Nat → α) (a k : Nat) (v : α) : Nat → Nat → α := fun b j => if b = a ∧ j = k then v else I b j
theorem up2_s {α : Type} {I : Nat → Nat → α} {a k : Nat} {v : α} : up2 I a k v a k = v := by simp [up2]
theorem up2_n {α : Type} {I : Nat → Nat → α} {a k b j : Nat} {v : α} (h : ¬ (b = a ∧ j = k)) : up2 I a k v b j = I b j := if_neg h
theorem up2_a {α : Type} {I : Nat → Nat → α} {a k b j : Nat} {v : α} (h : b ≠ a) : up2 I a k v b j = I b j := if_neg (fun q => h q.1)
theorem up2_k {α : Type} {I : Nat → Nat → α} {a k j : Nat} {v : α} (h : j ≠ k) : up2 I a k v a j = I a j := if_neg (fun q => h q.2)
def TT : List Cond := lw_tbl.filter goodWord
theorem TT_good : GoodIn TT TT := fun w hw => ⟨hw, good_of_word (List.mem_filter.mp hw).2⟩
theorem TT_of {w : Cond} (h : w ∈ tables_1) (g : goodWord w = true) : w ∈ TT := List.mem_filter.mpr ⟨List.mem_append_right _ h, g⟩
theorem TT_sel {q : MethodName × Nat} (h : q ∈ lw_privs) : Cond.selects q.1.cls q.1 q.1 ∈ TT := List.mem_filter.mpr ⟨List.mem_append_left _ (List.mem_map.mpr ⟨q, h, rfl⟩), rfl⟩
/-- a value by ids, to a value by addresses -/
def mz (ad : Nat → Nat) : Value → Value
  | .ref a => .ref (ad a)
  | v => v
def mzp (ad : Nat → Nat) (q : Nat × Value) : Nat × Value := (q.1, mz ad q.2)
theorem mz_cat (ad : Nat → Nat) (v : Value) : (mz ad v).category = v.category := by cases v <;> rfl
def mty : Nat → Nat → FieldType := fun ci => match ci with
  | 3 => tyX0
  | 4 => tyX1
  | 5 => tyX2
  | 6 => tyX3
  | 7 => tyX4
  | 8 => tyX5
  | 9 => tyX6
  | 0 => tyJ0
  | 1 => tyJ4
  | _ => fun _ => .int
def mrf (t : FieldType) : Bool := match t with
  | .object _ => true
  | .array _ => true
  | _ => false
def mr (ci k : Nat) : Bool := mrf (mty ci k)
def mf (ad : Nat → Nat) (I : mI) (G : mG) (ci id k : Nat) : Value := if mr ci k = true then va_rf ((G id k).map ad) else .int (I id k)
def mcell (cA : Nat → ClassId) (ad : Nat → Nat) (I : mI) (J : mJ) (G : mG) (id : Nat) (x : (Nat × Nat) ⊕ (Nat × Nat)) : va_E := match x with
  | .inl (ci, N) => .inr (ci, (List.range N).map (mf ad I G ci id))
  | .inr (3, len) => .inl (cA 3, len, .inr (.inl (J id)))
  | .inr (4, len) => .inl (cA 4, len, .inr (.inr (.inr (.inr (fun k => (G id k).map ad)))))
  | .inr (5, len) => .inl (cA 5, len, .inr (.inr (.inr (.inr (fun k => (G id k).map ad)))))
  | .inr (t, len) => .inl (cA t, len, .inl (I id))
def mws (cA : Nat → ClassId) (ad : Nat → Nat) (n : Nat) (sh : mS) (I : mI) (J : mJ) (G : mG) : va_W := (List.range n).map fun id => (ad id, mcell cA ad I J G id (sh id))
def mtys (cA : Nat → ClassId) : List (ClassId × FieldType) := [(cA 0, .int), (cA 1, .byte), (cA 2, .boolean), (cA 3, .int), (cA 4, .array .int), (cA 5, .object "TwinBoot$Device")]
theorem mws_at {cA : Nat → ClassId} {ad : Nat → Nat} {n : Nat} {sh : mS} {I : mI} {J : mJ} {G : mG} {id : Nat} (h : id < n) : (mws cA ad n sh I J G)[id]? = some (ad id, mcell cA ad I J G id (sh id)) := by
  simp [mws, h]
theorem mws_inv {cA : Nat → ClassId} {ad : Nat → Nat} {n : Nat} {sh : mS} {I : mI} {J : mJ} {G : mG} {k : Nat} {q : Nat × va_E} (h : (mws cA ad n sh I J G)[k]? = some q) : k < n ∧ q = (ad k, mcell cA ad I J G k (sh k)) := by
  have hk : k < n := by
    have := (List.getElem?_eq_some_iff.mp h).1
    simpa [mws] using this
  rw [mws_at hk] at h
  exact ⟨hk, (Option.some.inj h).symm⟩
/-- one cell changes: the world with the other memory -/
theorem mws_set {cA : Nat → ClassId} {ad : Nat → Nat} {n : Nat} {sh : mS} {I I' : mI} {J J' : mJ} {G : mG} {id : Nat} {e : va_E} (he : mcell cA ad I' J' G id (sh id) = e) (ho : ∀ b, b ≠ id → I' b = I b ∧ J' b = J b) : (mws cA ad n sh I J G).set id (ad id, e) = mws cA ad n sh I' J' G := by
  apply List.ext_getElem?
  intro k
  by_cases hk : k = id
  · subst hk
    by_cases h : k < n
    · rw [List.getElem?_set_self (by simpa [mws] using h), mws_at h, he]
    · rw [List.getElem?_eq_none (by simp [mws]; omega), List.getElem?_eq_none (by simp [mws]; omega)]
  · rw [List.getElem?_set_ne (Ne.symm hk)]
    by_cases h : k < n
    · rw [mws_at h, mws_at h]
      obtain ⟨h1, h2⟩ := ho k hk
      have : mcell cA ad I' J' G k (sh k) = mcell cA ad I J G k (sh k) := by
        unfold mcell
        split <;> simp [mf, h1, h2] <;> (try (intro a _; rfl))
      rw [this]
    · rw [List.getElem?_eq_none (by simp [mws]; omega), List.getElem?_eq_none (by simp [mws]; omega)]
/-- the background: what no cell of the world is, and nobody writes: three statics, the String constants (ids 1000 + i, their rows 1100 + i; 1200: what a static of the JDK points at) -/
def bStr : List (String × Nat × String × Nat) := [("TwinBoot$Text", 88, "flash", 0), ("TwinBoot$Text", 106, "image", 1), ("TwinBoot$Text", 111, "tries", 2), ("TwinBoot$Text", 119, "life", 3), ("TwinBoot$Text", 123, "floor", 4), ("TwinBoot$Text", 127, "good", 5), ("TwinBoot", 266, "a number is out of range", 6), ("TwinBoot", 273, "there is no such place", 7), ("TwinBootLaw", 211, "flash 16 4 12;tries ", 10), ("TwinBootLaw", 219, ";image 0 ", 11), ("TwinBootLaw", 221, " 7 ", 12), ("TwinBootLaw", 223, ";good 0;life ", 13)]
def bLen : List Nat := [5, 5, 5, 4, 5, 4]
def bByt : List (List Int32) := [[102, 108, 97, 115, 104], [105, 109, 97, 103, 101], [116, 114, 105, 101, 115], [108, 105, 102, 101], [102, 108, 111, 111, 114], [103, 111, 111, 100]]
abbrev bSC : String := "jdk/internal/util/Preconditions"
abbrev bSN : String := "SIOOBE_FORMATTER"
abbrev bSD : String := "Ljava/util/function/BiFunction;"
abbrev bIA : String := "java/lang/IllegalArgumentException"
abbrev bIB : String := "java/lang/IndexOutOfBoundsException"
/-- words of classes' faces, which no change of the machine's own takes away -/
def exW : List Cond := [.declares (Bundle.initS "java/lang/RuntimeException"), .declares (Bundle.initS "java/lang/Exception"), .declares (Bundle.initS "java/lang/Throwable"), .castable bIA bIA, .castable bIB bIB]
theorem exW_moved {A A' : Array Value} {u U : State} (hvm : u.vm.Alike U.vm) {w : Cond} (hw : w ∈ exW) (h : w.before A u = true) : w.before A' U = true := by
  have hf : w.faceAtom = true ∧ w.onTables = true := by
    simp only [exW, List.mem_cons, List.not_mem_nil, or_false] at hw
    rcases hw with rfl | rfl | rfl | rfl | rfl <;> exact ⟨rfl, rfl⟩
  have h1 := Cond.faceAtom_setVm hvm w hf.1 h
  rw [Cond.onTables_vm (A' := A') (U' := U) U.vm w hf.2] at h1
  exact h1
abbrev bIn : String := "java/lang/Integer"
def cLen : List Nat := [20, 9, 3, 13]
def cByt : List (List Int32) := [[102, 108, 97, 115, 104, 32, 49, 54, 32, 52, 32, 49, 50, 59, 116, 114, 105, 101, 115, 32], [59, 105, 109, 97, 103, 101, 32, 48, 32], [32, 55, 32], [59, 103, 111, 111, 100, 32, 48, 59, 108, 105, 102, 101, 32]]
/-- the law's own String constants (ids 1010 + i, their rows 1110 + i), and the JDK's two rows of digits (1201, 1202), and the script (1300) -/
def BX (ad : Nat → Nat) (A : Nat → Prop) (U : State) (H : Heap) : Prop := vk_S 4 cLen cByt (fun i => ad (1010 + i)) (fun i => ad (1110 + i)) A U H ∧ va_Z bIn "DigitOnes" "[B" (.ref (ad 1201)) A U H ∧ va_T .byte (ad 1201) 100 (fun j => .int (nI (48 + j % 10))) A U H ∧ va_Z bIn "DigitTens" "[B" (.ref (ad 1202)) A U H ∧ va_T .byte (ad 1202) 100 (fun j => .int (nI (48 + j / 10))) A U H ∧ ∃ (L : Nat) (xs : Nat → Int32), L ≤ 260 ∧ va_T .int (ad 1300) L (fun j => .int (xs j)) A U H
theorem BX.moved {ad : Nat → Nat} {A : Nat → Prop} {u U : State} {H : Heap} (hw : u.WarmedH U.vm) (h : BX ad A u H) : BX ad A U H :=
  ⟨h.1.moved hw.alike, h.2.1.moved hw.alike, h.2.2.1.moved hw.alike, h.2.2.2.1.moved hw.alike, h.2.2.2.2.1.moved hw.alike, h.2.2.2.2.2.imp (fun _ q => q.imp (fun _ q => ⟨q.1, q.2.moved hw.alike⟩))⟩
theorem BX.kept {ad : Nat → Nat} {A : Nat → Prop} {U : State} {H H1 : Heap} (h : BX ad A U H) (hq : ∀ a : Nat, a < H.size → ¬ A a → H1[a]? = H[a]?) : BX ad A U H1 :=
  ⟨h.1.kept hq, h.2.1.kept hq, h.2.2.1.kept hq, h.2.2.2.1.kept hq, h.2.2.2.2.1.kept hq, h.2.2.2.2.2.imp (fun _ q => q.imp (fun _ q => ⟨q.1, q.2.kept hq⟩))⟩
theorem BX.narrow {ad : Nat → Nat} {A B : Nat → Prop} {U : State} {H : Heap} (h : BX ad A U H) (hAB : ∀ q, B q → A q) : BX ad B U H :=
  ⟨h.1.narrow hAB, h.2.1.narrow hAB, h.2.2.1.narrow hAB, h.2.2.2.1.narrow hAB, h.2.2.2.2.1.narrow hAB, h.2.2.2.2.2.imp (fun _ q => q.imp (fun _ q => ⟨q.1, q.2.narrow hAB⟩))⟩
def BG (ad : Nat → Nat) (A : Nat → Prop) (U : State) (H : Heap) : Prop := vx_Zq Bundle.tN "UNASSIGNED_STACK" Bundle.steD A U H ∧ vx_Zq Bundle.tN "SUPPRESSED_SENTINEL" Bundle.listD A U H ∧ va_Z "java/lang/String" "COMPACT_STRINGS" "Z" (.int 1) A U H ∧ (va_Z bSC bSN bSD .null A U H ∨ va_Z bSC bSN bSD (.ref (ad 1200)) A U H) ∧ vk_S 6 bLen bByt (fun i => ad (1000 + i)) (fun i => ad (1100 + i)) A U H ∧ (∀ q, q ∈ bStr → vk_R q.1 q.2.1 q.2.2.1 (ad (1000 + q.2.2.2)) U) ∧ (∀ w, w ∈ exW → w.before #[] U = true) ∧ True ∧ BX ad A U H
theorem BG.moved {ad : Nat → Nat} {A : Nat → Prop} {u U : State} {H : Heap} (hw : u.WarmedH U.vm) (h : BG ad A u H) : BG ad A U H :=
  ⟨h.1.moved hw.alike, h.2.1.moved hw.alike, h.2.2.1.moved hw.alike, h.2.2.2.1.imp (fun q => q.moved hw.alike) (fun q => q.moved hw.alike), h.2.2.2.2.1.moved hw.alike, fun q hq => vk_R.warm hw (h.2.2.2.2.2.1 q hq), fun w hq => exW_moved hw.alike hq (h.2.2.2.2.2.2.1 w hq), trivial, h.2.2.2.2.2.2.2.2.moved hw⟩
theorem BG.kept {ad : Nat → Nat} {A : Nat → Prop} {U : State} {H H1 : Heap} (h : BG ad A U H) (hq : ∀ a : Nat, a < H.size → ¬ A a → H1[a]? = H[a]?) : BG ad A U H1 :=
  ⟨h.1.kept hq, h.2.1.kept hq, h.2.2.1.kept hq, h.2.2.2.1.imp (fun q => q.kept hq) (fun q => q.kept hq), h.2.2.2.2.1.kept hq, h.2.2.2.2.2.1, h.2.2.2.2.2.2.1, h.2.2.2.2.2.2.2.1, h.2.2.2.2.2.2.2.2.kept hq⟩
theorem BG.narrow {ad : Nat → Nat} {A B : Nat → Prop} {U : State} {H : Heap} (h : BG ad A U H) (hAB : ∀ q, B q → A q) : BG ad B U H :=
  ⟨h.1.narrow hAB, h.2.1.narrow hAB, h.2.2.1.narrow hAB, h.2.2.2.1.imp (fun q => q.narrow hAB) (fun q => q.narrow hAB), h.2.2.2.2.1.narrow hAB, h.2.2.2.2.2.1, h.2.2.2.2.2.2.1, h.2.2.2.2.2.2.2.1, h.2.2.2.2.2.2.2.2.narrow hAB⟩
def mA (ad : Nat → Nat) (n sz : Nat) : Nat → Prop := fun q => (∃ k, k < n ∧ q = ad k) ∨ sz ≤ q
/-- the world in a state -/
def mW (D : va_G) (cA : Nat → ClassId) (ad : Nat → Nat) (n : Nat) (sh : mS) (G : mG) (A : Nat → Prop) (I : mI) (J : mJ) (H : Heap) (s : State) : Prop :=
  va_P D vwCl (mws cA ad n sh I J G) H ∧ va_D A (mws cA ad n sh I J G) ∧ va_K D vwCl (mtys cA) s
def mQ (D : va_G) (cA : Nat → ClassId) (ad : Nat → Nat) (n : Nat) (sh : mS) (G : mG) (A : Nat → Prop) (Q : Option Value → mI → mJ → Prop) : Array Value → State → Outcome → State → Prop := fun _ st oc t =>
  (∃ (r : Option Value) (I : mI) (J : mJ), oc = .returned (r.map (mz ad)) ∧ Q r I J ∧ mW D cA ad n sh G A I J t.heap t) ∧ va_F A st t
def mX (D : va_G) (cA : Nat → ClassId) (ad : Nat → Nat) (n : Nat) (sh : mS) (G : mG) (A : Nat → Prop) (X : String → mI → mJ → Prop) : String → State → State → Prop := fun E st t =>
  (∃ (I : mI) (J : mJ), X E I J ∧ mW D cA ad n sh G A I J t.heap t) ∧ va_F A st t
def mPc (D : va_G) (cA : Nat → ClassId) (ad : Nat → Nat) (n sz : Nat) (sh : mS) (G : mG) (I : mI) (J : mJ) (args : List Value) : Array Value → State → Prop :=
  va_Pc (args.map (mz ad)) (fun U => U.heap.size = sz ∧ va_P D vwCl (mws cA ad n sh I J G) U.heap ∧ va_D (fun _ => True) (mws cA ad n sh I J G) ∧ va_K D vwCl (mtys cA) U ∧ BG ad (mA ad n sz) U U.heap)
/-- a method's contract at these arguments and this memory -/
def Sp (y : MethodName) (cc : ByteArray) (nL : Nat) (ret : Option FieldType) (fr lo mc ms : Nat) (args : List Value) (n : Nat) (sh : mS) (G : mG) (I : mI) (J : mJ) (Q : Option Value → mI → mJ → Prop) (X : String → mI → mJ → Prop) : Prop :=
  ∀ (l : Launch) (D : va_G) (cA : Nat → ClassId) (ad : Nat → Nat) (sz : Nat), l.stackTraces = false → vx_Met l y (.code y cc nL ret :: TT) { frames := fr, cells := mc, slots := ms, locals := lo } (mPc D cA ad n sz sh G I J args) (mQ D cA ad n sh G (mA ad n sz) Q) (mX D cA ad n sh G (mA ad n sz) X) mc ms (mA ad n sz)
/-- the frame, from here on -/
def Rc (own : String) (cc : ByteArray) (nL : Nat) (ret : Option FieldType) (fr lo mc ms n : Nat) (sh : mS) (G : mG) (Q : Option Value → mI → mJ → Prop) (X : String → mI → mJ → Prop) (kc ks pc : Nat) (ls : List (Nat × Value)) (st : List Value) (I : mI) (J : mJ) : Prop :=
  ∀ (p : Program) (l : Launch) (e : Env) (R : Room) (s : State) (m : MethodId) (args : Array Value) (below : List Frame) (meth : Method) (c : Code) (H : Heap) (locs : List Loc) (cells slots : Nat) (la : Array Slot) (D : va_G) (cA : Nat → ClassId) (ad : Nat → Nat) (A : Nat → Prop),
    l.stackTraces = false → CallFix p m c cc nL s args TT own → meth.sig.returnType = ret → meth.locks = false → (∀ x ∈ c.exceptionTable.toList, False) → (fr ≤ R.frames ∧ lo ≤ R.locals ∧ mc ≤ R.cells ∧ ms ≤ R.slots) → cells + kc ≤ mc → slots + ks ≤ ms →
    (∀ q, s.heap.size ≤ q → A q) → BG ad A s s.heap → va_S A s.heap H locs → va_P D vwCl (mws cA ad n sh I J G) H → va_D A (mws cA ad n sh I J G) → va_K D vwCl (mtys cA) s → lv_has la nL (ls.map (mzp ad)) →
    W p l e R s m args below meth c H locs cells slots (vx_MQ below (mQ D cA ad n sh G A Q) (mX D cA ad n sh G A X) args s mc ms A) (F0 m pc la (st.map (mz ad)))
theorem mPc_blind {D : va_G} {cA : Nat → ClassId} {ad : Nat → Nat} {n sz : Nat} {sh : mS} {G : mG} {I : mI} {J : mJ} {args : List Value} : FrameBlind (mPc D cA ad n sz sh G I J args) := by
  intro a U g mk q
  obtain ⟨q0, q1, qP, qD, qK, qB⟩ := q
  exact ⟨q0, q1, qP, qD, va_K.moved (u := U) (U := U.calling g mk a) (Vm.Alike.refl U.vm) qK, BG.moved (u := U) (U := U.calling g mk a) (State.WarmedH.refl U) qB⟩
set_option maxHeartbeats 1000000 in
/-- from the body to the contract -/
theorem Sp.of {y : MethodName} {cc : ByteArray} {nL : Nat} {ret : Option FieldType} {fr lo mc ms : Nat} {args : List Value} {n : Nat} {sh : mS} {G : mG} {I : mI} {J : mJ} {Q : Option Value → mI → mJ → Prop} {X : String → mI → mJ → Prop} (hy : plainName y.cls = true) {ls : List (Nat × Value)}
    (hl : ∀ ad : Nat → Nat, lv_args 0 (args.map (mz ad)) = ls.map (mzp ad)) (hn : ∀ ad : Nat → Nat, (lg_sl (args.map (mz ad))).length ≤ nL)
    (h : Rc y.cls cc nL ret fr lo mc ms n sh G Q X mc ms 0 ls [] I J) : Sp y cc nL ret fr lo mc ms args n sh G I J Q X := by
  intro l D cA ad sz hfl
  refine vx_ofW (cc := cc) (maxL := nL) (ret := ret) hy rfl ?_
  intro p e s m args' below meth c s₁ B hml hxt hv
  obtain ⟨rfl, hsz, hP, hD, hK, hB⟩ := hv
  subst hsz
  have hts := atoms_spec (ws := Cond.code y cc nL ret :: TT) B.pre
  have hown : s.vm.findClass y.cls = some m.cls := findClass_of_methodNamed B.named
  have hA : ∀ q : Nat, s.heap.size ≤ q → mA ad n s.heap.size q := fun q hq => Or.inr hq
  have hD2 : va_D (mA ad n s.heap.size) (mws cA ad n sh I J G) := hD.weaken (fun k q hk _ => by
    obtain ⟨h1, h2⟩ := mws_inv hk
    exact Or.inl ⟨k, h1, by rw [h2]⟩)
  have hl0 := lv_entry (args.map (mz ad)) (n := nL) (hn ad)
  rw [lg_entry_eq]
  refine h p l e _ s m _ below meth c s.heap [] 0 0 _ D cA ad (mA ad n s.heap.size) hfl ⟨B.exec, B.bytes, hml, hown, fun w hw => hts w (List.mem_cons_of_mem _ hw)⟩ B.returns B.notSynchronized hxt ⟨Nat.le_refl _, Nat.le_refl _, Nat.le_refl _, Nat.le_refl _⟩ (by omega) (by omega) hA hB va_S.rf hP hD2 hK ?_
  rw [← hl ad]
  exact hl0

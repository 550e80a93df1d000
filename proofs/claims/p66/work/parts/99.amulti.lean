/-! an array of arrays of ints, made by one instruction -/
/-- rows of an array of arrays, made one by one -/
def mkU (h : Nat) (cI : ClassId) (b : Nat) : Nat → Nat → Cell → State → State
  | 0, _, _, U => U
  | r + 1, i, ce, U => mkU h cI b r (i + 1) (ce.setSlot i (.ref U.heap.size)) ((U.pushCell { cls := cI, slots := Array.replicate b (.int 0) }).setCell h (ce.setSlot i (.ref U.heap.size)))
theorem mkU_vm {h : Nat} {cI : ClassId} {b : Nat} : ∀ (r i : Nat) (ce : Cell) (U : State), (mkU h cI b r i ce U).vm = U.vm
  | 0, _, _, _ => rfl
  | r + 1, i, ce, U => (mkU_vm r (i + 1) _ _).trans rfl
theorem mkU_top {h : Nat} {cI : ClassId} {b : Nat} {f : JFrame} : ∀ (r i : Nat) (ce : Cell) (U : State), mkU h cI b r i ce (U.setTop f) = (mkU h cI b r i ce U).setTop f
  | 0, _, _, _ => rfl
  | r + 1, i, ce, U => by
    unfold mkU
    rw [State.heap_setTop, State.pushCell_setTop, State.setCell_setTop]
    exact mkU_top r (i + 1) _ _
theorem mk_step {e : Env} {E : CtlPost} {h a b : Nat} {cA cI cz : ClassId} {kA kI : Class} {Q : ForInStep PUnit → Pre} (hkk : kA.kind = Kind.array cI (.array .int)) (hkI : kI.kind = Kind.array cz .int) (hl : ¬ b > e.platform.arrayLengthLimit) (hbts : ¬ b * componentBytes .int > e.platform.maxHeapBytes) {bI : Int32} (hb : bI.toNatClampNeg = b) (hb0 : ¬ bI < 0)
    {i : Nat} {ce : Cell} {U : State} {d : Bool} {acts : List Action} (hA : U.vm.classes[cA]? = some kA) (hI : U.vm.classes[cI]? = some kI) (hc : U.heap[h]? = some ce) (hs : ce.slots.size = a) (hcl : ce.cls = cA) (hv : ce.vm = .none) (hi : i < a) (hcs : U.heap.size + 1 ≤ e.platform.maxCells) (hss : U.slotsUsed + b ≤ e.platform.maxSlots)
    (hq : ∀ (d : Bool) (acts : List Action), Q (ForInStep.yield PUnit.unit) d acts ((U.pushCell { cls := cI, slots := Array.replicate b (.int 0) }).setCell h (ce.setSlot i (.ref U.heap.size)))) :
    (do
        let x ← multianewarray.make cI [bI]
        writeLoc h i (Value.ref x)
        Pure.pure (ForInStep.yield PUnit.unit) : Sem (ForInStep PUnit)).wp Q E e d acts U := by
  have hh : h < U.heap.size := (Array.getElem?_eq_some_iff.mp hc).1
  simp [multianewarray.make, hb0, Jvm.W.theClass, hI, hkI]
  refine Jvm.W.newArray_of hI hkI (by rw [hb]; exact hl) (by rw [hb]; exact hbts) (by omega) (by rw [hb]; exact hss) rfl (fun acts' => ?_)
  simp [Jvm.W.writeLoc]
  refine ⟨ce, ?_, ?_, ?_, ?_, ?_⟩
  · show (U.heap.push _)[h]? = _
    rw [Array.getElem?_push, if_neg (by omega)]
    exact hc
  · rw [hv]; exact fun q => by cases q
  · omega
  · simp [State.fitsSlot, State.slotType?, hcl, hv, hA, hkk, fits]
  · rw [hb]
    exact hq _ _
theorem mkU_wp {e : Env} {E : CtlPost} {h a b : Nat} {cA cI cz : ClassId} {kA kI : Class} {Q : PUnit → Pre} (hkk : kA.kind = Kind.array cI (.array .int)) (hkI : kI.kind = Kind.array cz .int) (hl : ¬ b > e.platform.arrayLengthLimit) (hbts : ¬ b * componentBytes .int > e.platform.maxHeapBytes) {bI : Int32} (hb : bI.toNatClampNeg = b) (hb0 : ¬ bI < 0) :
    ∀ (r i : Nat) (ce : Cell) (U : State) (d : Bool) (acts : List Action), U.vm.classes[cA]? = some kA → U.vm.classes[cI]? = some kI → U.heap[h]? = some ce → ce.slots.size = a → ce.cls = cA → ce.vm = .none → i + r ≤ a → U.heap.size + r ≤ e.platform.maxCells → U.slotsUsed + r * b ≤ e.platform.maxSlots →
    (∀ (d : Bool) (acts : List Action), Q PUnit.unit d acts (mkU h cI b r i ce U)) →
    (forIn (List.range' i r) PUnit.unit fun i _ => do
        let x ← multianewarray.make cI [bI]
        writeLoc h i (Value.ref x)
        Pure.pure (ForInStep.yield PUnit.unit)).wp Q E e d acts U := by
  intro r
  induction r with
  | zero =>
    intro i ce U d acts hA hI hc hs hcl hv hi hcs hss hq
    simpa [mkU] using hq d acts
  | succ r ih =>
    intro i ce U d acts hA hI hc hs hcl hv hi hcs hss hq
    have hh : h < U.heap.size := (Array.getElem?_eq_some_iff.mp hc).1
    have hm : (r + 1) * b = r * b + b := Nat.succ_mul r b
    simp only [List.range'_succ, List.forIn_cons]
    show (Sem.bind _ _).wp _ _ _ _ _ _
    rw [Sem.wp_bind]
    refine mk_step hkk hkI hl hbts hb hb0 hA hI hc hs hcl hv (by omega) (by omega) (by omega) (fun d acts => ?_)
    refine ih (i + 1) (ce.setSlot i (.ref U.heap.size)) _ d acts hA hI ?_ (by simpa [Cell.setSlot] using hs) hcl hv (by omega) ?_ ?_ hq
    · show ((U.heap.push _).setIfInBounds h _)[h]? = _
      simp [Array.getElem?_setIfInBounds]
      omega
    · show ((U.heap.push _).setIfInBounds h _).size + r ≤ _
      simp
      omega
    · show U.slotsUsed + (Array.replicate b (Value.int 0)).size + r * b ≤ _
      simp
      omega
theorem mkU_stand {p : Program} {l : Launch} {e : Env} {R : Room} {s : State} {m : MethodId} {args : Array Value} {below : List Frame} {meth : Method} {c : Code} {h : Nat} {cI : ClassId} {b : Nat} :
    ∀ (r i : Nat) (ce : Cell) (U : State) (locs : List Jvm.Loc) (cells slots : Nat), U.heap[h]? = some ce → Stand p l e R s m args below meth c U locs cells slots →
      ∃ L, (∀ q ∈ L, q.base = h) ∧ Stand p l e R s m args below meth c (mkU h cI b r i ce U) (locs ++ L) (cells + r) (slots + r * b)
  | 0, i, ce, U, locs, cells, slots, _, X => ⟨[], fun _ h => absurd h List.not_mem_nil, by simpa [mkU] using X⟩
  | r + 1, i, ce, U, locs, cells, slots, hc, X => by
    have hh : h < U.heap.size := (Array.getElem?_eq_some_iff.mp hc).1
    have X1 := X.pushed { cls := cI, slots := Array.replicate b (.int 0) }
    have hc1 : (U.pushCell { cls := cI, slots := Array.replicate b (.int 0) }).heap[h]? = some ce := by
      show (U.heap.push _)[h]? = _
      rw [Array.getElem?_push, if_neg (by omega)]
      exact hc
    have X2 := X1.stored hc1 i (.ref U.heap.size)
    obtain ⟨L, hL, X3⟩ := mkU_stand (h := h) (cI := cI) (b := b) r (i + 1) (ce.setSlot i (.ref U.heap.size)) _ _ _ _ (by
      show ((U.heap.push _).setIfInBounds h _)[h]? = _
      simp [Array.getElem?_setIfInBounds]
      omega) X2
    refine ⟨[⟨h, i⟩] ++ L, fun q hq => ?_, ?_⟩
    · rcases List.mem_append.mp hq with hq | hq
      · rw [List.mem_singleton.mp hq]
      · exact hL q hq
    · have e1 : cells + 1 + r = cells + (r + 1) := by omega
      have e2 : slots + (Array.replicate b (Value.int 0)).size + r * b = slots + (r + 1) * b := by
        rw [Array.size_replicate, Nat.succ_mul]; omega
      rw [← e1, ← e2, ← List.append_assoc]
      exact X3
/-- what the heap holds then -/
theorem mkU_heap {h : Nat} {cI : ClassId} {b : Nat} : ∀ (r i : Nat) (ce : Cell) (U : State), U.heap[h]? = some ce → i + r ≤ ce.slots.size →
    (mkU h cI b r i ce U).heap.size = U.heap.size + r ∧ (∀ q, q < U.heap.size → q ≠ h → (mkU h cI b r i ce U).heap[q]? = U.heap[q]?) ∧ (∀ k, k < r → (mkU h cI b r i ce U).heap[U.heap.size + k]? = some { cls := cI, slots := Array.replicate b (.int 0) }) ∧
    ∃ Z : Array Value, (mkU h cI b r i ce U).heap[h]? = some { ce with slots := Z } ∧ Z.size = ce.slots.size ∧ (∀ k, k < r → Z[i + k]? = some (.ref (U.heap.size + k))) ∧ ∀ k, (k < i ∨ i + r ≤ k) → Z[k]? = ce.slots[k]?
  | 0, i, ce, U, hc, _ => ⟨rfl, fun _ _ _ => rfl, fun k hk => absurd hk (Nat.not_lt_zero k), ce.slots, hc, rfl, fun k hk => absurd hk (Nat.not_lt_zero k), fun _ _ => rfl⟩
  | r + 1, i, ce, U, hc, hi => by
    have hh : h < U.heap.size := (Array.getElem?_eq_some_iff.mp hc).1
    have hz : ((U.pushCell { cls := cI, slots := Array.replicate b (.int 0) }).setCell h (ce.setSlot i (.ref U.heap.size))).heap = (U.heap.push { cls := cI, slots := Array.replicate b (.int 0) }).setIfInBounds h (ce.setSlot i (.ref U.heap.size)) := rfl
    have hsz : ((U.pushCell { cls := cI, slots := Array.replicate b (.int 0) }).setCell h (ce.setSlot i (.ref U.heap.size))).heap.size = U.heap.size + 1 := by rw [hz]; simp
    have hch : ((U.pushCell { cls := cI, slots := Array.replicate b (.int 0) }).setCell h (ce.setSlot i (.ref U.heap.size))).heap[h]? = some (ce.setSlot i (.ref U.heap.size)) := by
      rw [hz]
      simp [Array.getElem?_setIfInBounds]
      omega
    have hcs : (ce.setSlot i (.ref U.heap.size)).slots.size = ce.slots.size := by simp [Cell.setSlot]
    obtain ⟨i1, i2, i3, ce', i4, i7, i8, i9⟩ := mkU_heap (h := h) (cI := cI) (b := b) r (i + 1) (ce.setSlot i (.ref U.heap.size)) ((U.pushCell { cls := cI, slots := Array.replicate b (.int 0) }).setCell h (ce.setSlot i (.ref U.heap.size))) hch (by rw [hcs]; omega)
    have hq : ∀ q, q ≠ h → ((U.pushCell { cls := cI, slots := Array.replicate b (.int 0) }).setCell h (ce.setSlot i (.ref U.heap.size))).heap[q]? = (U.heap.push { cls := cI, slots := Array.replicate b (.int 0) })[q]? := fun q hq => by
      rw [hz]
      simp [Array.getElem?_setIfInBounds, Ne.symm hq]
    rw [hsz] at i1 i2 i3 i8
    refine ⟨by show (mkU h cI b r (i + 1) _ _).heap.size = _; omega, fun q h1 h2 => ?_, fun k hk => ?_, ce', i4, i7.trans hcs, fun k hk => ?_, fun k hk => ?_⟩
    · refine (i2 q (by omega) h2).trans ((hq q h2).trans ?_)
      rw [Array.getElem?_push, if_neg (by omega)]
    · by_cases k0 : k = 0
      · subst k0
        refine (i2 _ (by omega) (by omega)).trans ((hq _ (by omega)).trans ?_)
        simp
      · have := i3 (k - 1) (by omega)
        rw [show U.heap.size + 1 + (k - 1) = U.heap.size + k by omega] at this
        exact this
    · by_cases k0 : k = 0
      · subst k0
        refine (i9 _ (by omega)).trans ?_
        rw [Nat.add_zero, Nat.add_zero]
        show (ce.slots.setIfInBounds i (.ref U.heap.size))[i]? = some _
        rw [Array.getElem?_setIfInBounds, if_pos rfl, if_pos (by omega)]
      · have := i8 (k - 1) (by omega)
        rw [show U.heap.size + 1 + (k - 1) = U.heap.size + k by omega, show i + 1 + (k - 1) = i + k by omega] at this
        exact this
    · refine (i9 k (by omega)).trans ?_
      have : k ≠ i := by omega
      simp [Cell.setSlot, Array.getElem?_setIfInBounds, Ne.symm this]
section MU2
variable {p : Program} {l : Launch} {e : Env} {R : Room} {s : State} {m : MethodId} {args : Array Value} {below : List Frame} {meth : Method} {c : Code} {H : Heap} {locs : List Jvm.Loc} {cells slots : Nat} {Q : State → Prop} {cc : ByteArray}
set_option maxHeartbeats 4000000 in
theorem W.multi2 (hexec : p.tables.exec = Jvm.exec) (hb : c.code = cc) {own : String} {index : Nat} (hown : s.vm.findClass own = some m.cls) (hlink : (Jvm.Cond.classLink own index "[[I").before args s = true)
    {cA cI cz : ClassId} {kA kI : Class} (hfA : s.vm.findClass "[[I" = some cA) (hkA : s.vm.classes[cA]? = some kA) (hkk : kA.kind = Kind.array cI (.array .int)) (hkI : s.vm.classes[cI]? = some kI) (hkkI : kI.kind = Kind.array cz .int)
    {pc : Nat} {ls : Array Slot} {rest : List Value} {aI bI : Int32} {a b : Nat} (ha : aI.toNatClampNeg = a) (hbN : bI.toNatClampNeg = b) (ha0 : ¬ aI < 0) (hb0 : ¬ bI < 0) (haz : 0 < a) (hal : a ≤ 1000) (hbl : b ≤ 1000)
    (hdg : decode cc pc = .ok (.multianewarray index 2, 4)) (hcells : cells + (a + 1) ≤ R.cells) (hslots : slots + (a + a * b) ≤ R.slots)
    (kk : ∀ (H' : Heap) (L : List Jvm.Loc), (∀ q ∈ L, q.base = H.size) → H'.size = H.size + 1 + a → (∀ q, q < H.size → H'[q]? = H[q]?) → (∀ k, k < a → H'[H.size + 1 + k]? = some { cls := cI, slots := Array.replicate b (.int 0) }) →
      (∃ Z : Array Value, H'[H.size]? = some { cls := cA, slots := Z, vm := .none } ∧ Z.size = a ∧ ∀ k, k < a → Z[k]? = some (.ref (H.size + 1 + k))) →
      W p l e R s m args below meth c H' (locs ++ L) (cells + (a + 1)) (slots + (a + a * b)) Q (F0 m (pc + 4) ls (.ref H.size :: rest))) : W p l e R s m args below meth c H locs cells slots Q (F0 m pc ls (.int bI :: .int aI :: rest)) := by
  intro T hT X
  subst hT
  have hpl : e.platform.magicAccessors = ({} : Platform).magicAccessors ∧ e.platform.arrayLengthLimit = ({} : Platform).arrayLengthLimit ∧ e.platform.maxHeapBytes = ({} : Platform).maxHeapBytes := by
    have h := X.admits.2.2.2.2.1
    rw [h]
    exact ⟨rfl, rfl, rfl⟩
  obtain ⟨c2, hf2, hcl⟩ := Cond.classLink_spec hown hlink e.platform hpl.1
  obtain rfl : c2 = cA := Option.some.inj (hf2.symm.trans hfA)
  obtain ⟨hg1, hg2, hg3⟩ := State.classEntry (e := e) X.warmed hcl
  obtain ⟨ha1, ht1⟩ := hg1.op (op := VmOp.resolveClass m.cls index) (by rw [VmOp.run.eq_14])
  generalize T.vm.noted m.cls index (Resolved.cls c2) = vm1 at hg2 ht1
  have X1 := X.noted hg2
  obtain ⟨kA', hA1, hA2, -⟩ := hg2.2.2 _ _ hkA
  obtain ⟨kI', hI1, hI2, -⟩ := hg2.2.2 _ _ hkI
  have hAk : kA'.kind = Kind.array cI (.array .int) := by rw [hA2]; exact hkk
  have hIk : kI'.kind = Kind.array cz .int := by rw [hI2]; exact hkkI
  have hsz : vm1.classes.size = T.vm.classes.size := hg2.2.1.trans X.warmed.2.1.symm
  have hland : ∀ S : State, S.vm = T.vm → (VmOp.resolveClass m.cls index).lands e S = MirrorsLaid.done (S.setVm vm1) := fun S hS => VmOp.lands_eq (by rw [hS]; exact ht1) (by rw [hS]; omega)
  -- the outer row, then the inner ones
  generalize hce : ({ cls := c2, slots := Array.replicate a .null, vm := .none } : Cell) = ce
  have X2 := X1.pushed ce
  have hces : ce.slots.size = a := by rw [← hce]; simp
  have hc2 : ((T.setVm vm1).pushCell ce).heap[T.heap.size]? = some ce := by
    show (T.heap.push ce)[T.heap.size]? = _
    simp
  obtain ⟨L, hL, X3⟩ := mkU_stand (h := T.heap.size) (cI := cI) (b := b) a 0 ce _ _ _ _ hc2 X2
  obtain ⟨u1, u2, u3, ce', u4, u7, u8, -⟩ := mkU_heap (h := T.heap.size) (cI := cI) (b := b) a 0 ce _ hc2 (by omega)
  have hp1 : ((T.setVm vm1).pushCell ce).heap.size = T.heap.size + 1 := by
    show (T.heap.push ce).size = _
    simp
  rw [hp1] at u1 u2 u3 u8
  generalize hU : mkU T.heap.size cI b a 0 ce ((T.setVm vm1).pushCell ce) = U at X3 u1 u2 u3 u4
  obtain ⟨t, st, qt⟩ := kk U.heap L hL u1 (fun q hq => by
      refine (u2 q (by omega) (by omega)).trans ?_
      show (T.heap.push ce)[q]? = _
      rw [Array.getElem?_push, if_neg (by omega)]) u3 ⟨ce', by rw [u4, ← hce], u7.trans hces, fun k hk => by
      have := u8 k hk
      rw [Nat.zero_add] at this
      exact this⟩ U rfl (by
      have e1 : cells + 1 + a = cells + (a + 1) := by omega
      have e2 : slots + ce.slots.size + a * b = slots + (a + a * b) := by omega
      rw [← e1, ← e2]
      exact X3)
  refine ⟨t, ?_, qt⟩
  have hcel := X.cellsAbove (n := a + 1) hcells
  have hslo := X.slotsAbove (n := a + a * b) hslots
  jvm_step X.here [X.here.top, hexec, hb, hdg, multianewarray.sem]
  refine ⟨_, hland _ rfl, ?_⟩
  rw [ha1]
  simp only [Jvm.W.popN]
  obtain ⟨f0, hf0⟩ := Option.isSome_iff_exists.mp X1.here.top
  refine ⟨F0 m pc ls (.int bI :: .int aI :: rest), State.topJava?_setTop _ hf0, [.int aI, .int bI], rest, rfl, rfl, ?_⟩
  have hcz : (aI == 0) = false := by
    cases q : aI == 0
    · rfl
    · have := eq_of_beq q
      rw [this] at ha
      have h0 : Int32.toNatClampNeg 0 = 0 := rfl
      omega
  simp only [List.mapM_cons, List.mapM_nil, pure_bind]
  rw [multianewarray.make.eq_2]
  simp [ha0, Jvm.W.theClass, hA1, hAk, hcz]
  refine Jvm.W.newArray_of (by simpa using hA1) hAk ?_ ?_ ?_ ?_ rfl (fun acts' => ?_)
  · rw [ha, hpl.2.1]
    show ¬ a > 2147483645
    omega
  · rw [ha, hpl.2.2]
    have hcb : componentBytes (.array .int) = 4 := by decide
    rw [hcb]
    show ¬ a * 4 > 536870912
    omega
  · show T.heap.size < _
    omega
  · show T.slotsUsed + aI.toNatClampNeg ≤ _
    rw [ha]
    have : a ≤ a + a * b := Nat.le_add_right _ _
    have := X.slotsAbove (n := a) (by omega)
    exact this
  · rw [State.heap_setTop, ha]
    show (Sem.bind _ _).wp _ _ _ _ _ _
    rw [Sem.wp_bind]
    rw [State.pushCell_setTop, hce]
    refine mkU_wp (h := T.heap.size) (b := b) (a := a) (cA := c2) (kA := kA') (kI := kI') (Q := _) hAk hIk ?_ ?_ hbN hb0 a 0 ce (((T.setVm vm1).pushCell ce).setTop { method := m, pc := pc, locals := ls, stack := rest, locked := none }) true acts' hA1 hI1 ?_ hces ?_ ?_ (by omega) ?_ ?_ (fun d acts => ?_)
    · rw [hpl.2.1]
      show ¬ b > 2147483645
      omega
    · rw [hpl.2.2]
      have hcb : componentBytes .int = 4 := by decide
      rw [hcb]
      show ¬ b * 4 > 536870912
      omega
    · rw [State.heap_setTop]; exact hc2
    · rw [← hce]
    · rw [← hce]
    · rw [State.heap_setTop, hp1]; omega
    · show T.slotsUsed + ce.slots.size + a * b ≤ _
      omega
    · rw [mkU_top, hU]
      show (Sem.pure _).wp _ _ _ _ _ _
      obtain ⟨f1, hf1⟩ := Option.isSome_iff_exists.mp X3.here.top
      simp [afterInstr, State.topJava?_setTop _ hf1, State.modifyTopJava_setTop]
      exact st
end MU2

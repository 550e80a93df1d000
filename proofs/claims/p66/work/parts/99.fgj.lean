/-! GROWING WORLDS: contracts of constructors, calls -/
def gPc (D : va_G) (cA : Nat → ClassId) (ad : Nat → Nat) (n sz : Nat) (sh : mS) (G : mG) (I : mI) (J : mJ) (args : List Value) : Array Value → State → Prop := fun v U => mPc D cA ad n sz sh G I J args v U ∧ AC cA U
def gQ (D : va_G) (cA : Nat → ClassId) (ad : Nat → Nat) (n n' : Nat) (sh : mS) (A : Nat → Prop) (Q : mG → mI → mJ → Prop) : Array Value → State → Outcome → State → Prop := fun _ st oc t =>
  (∃ (ad' : Nat → Nat) (G : mG) (I : mI) (J : mJ), oc = .returned none ∧ agr n ad ad' ∧ Q G I J ∧ Zo n' I J G ∧ mW D cA ad' n' sh G A I J t.heap t) ∧ va_F A st t
def gX : String → State → State → Prop := fun _ _ _ => False
/-- a constructor's contract: it makes the cells n, n + 1, ..., n' - 1 -/
def Sg (y : MethodName) (cc : ByteArray) (nL fr lo mc ms : Nat) (args : List Value) (n n' : Nat) (sh : mS) (G : mG) (I : mI) (J : mJ) (Q : mG → mI → mJ → Prop) : Prop :=
  ∀ (l : Launch) (D : va_G) (cA : Nat → ClassId) (ad : Nat → Nat) (sz : Nat), l.stackTraces = false → vx_Met l y (.code y cc nL none :: TT) { frames := fr, cells := mc, slots := ms, locals := lo } (gPc D cA ad n sz sh G I J args) (gQ D cA ad n n' sh (mA ad n sz) Q) gX mc ms (mA ad n sz)
theorem gPc_blind {D : va_G} {cA : Nat → ClassId} {ad : Nat → Nat} {n sz : Nat} {sh : mS} {G : mG} {I : mI} {J : mJ} {args : List Value} : FrameBlind (gPc D cA ad n sz sh G I J args) := by
  intro a U g mk q
  exact ⟨mPc_blind a U g mk q.1, AC.moved (u := U) (U := U.calling g mk a) (State.WarmedH.refl U) q.2⟩
/-- a constructor's frame -/
def gI (y : MethodName) : gCtx := fun _ _ _ _ _ meth c _ _ => meth.sig.returnType = none ∧ meth.name = y.name ∧ ∀ x ∈ c.exceptionTable.toList, False
def gO (n0 n' mc ms : Nat) (sh : mS) (Q : mG → mI → mJ → Prop) : gPost := fun D cA ad0 A below args s => vx_MQ below (gQ D cA ad0 n0 n' sh A Q) gX args s mc ms A
theorem name_of_named {s : State} {y : MethodName} {m : MethodId} {meth : Method} (h : s.methodNamed? y = some m) (hm : s.vm.method? m = some meth) : meth.name = y.name := by
  unfold State.methodNamed? at h
  obtain ⟨c, hc, h⟩ := Option.bind_eq_some_iff.mp h
  obtain ⟨k, hk, h⟩ := Option.bind_eq_some_iff.mp h
  obtain ⟨i, hi, h⟩ := Option.bind_eq_some_iff.mp h
  have h := Option.some.inj h
  subst h
  unfold Vm.method? at hm
  have hk2 : s.vm.classes[c]? = some k := hk
  rw [show s.vm.classes[({ cls := c, idx := i } : MethodId).cls]? = some k from hk2] at hm
  have hm : k.methods[i]? = some meth := hm
  unfold Class.findMethod at hi
  obtain ⟨hlt, hp, -⟩ := Array.findIdx?_eq_some_iff_getElem.mp hi
  rw [Array.getElem?_eq_getElem hlt] at hm
  have hm := Option.some.inj hm
  rw [hm] at hp
  exact eq_of_beq (Bool.and_eq_true_iff.mp hp).1
theorem Sg.of {y : MethodName} {cc : ByteArray} {nL : Nat} {fr lo mc ms : Nat} {args : List Value} {n n' : Nat} {sh : mS} {G : mG} {I : mI} {J : mJ} {Q : mG → mI → mJ → Prop} (hy : plainName y.cls = true) {ls : List (Nat × Value)}
    (hl : ∀ ad : Nat → Nat, lv_args 0 (args.map (mz ad)) = ls.map (mzp ad)) (hn : ∀ ad : Nat → Nat, (lg_sl (args.map (mz ad))).length ≤ nL)
    (h : Gj (gI y) (gO n n' mc ms sh Q) y.cls cc nL fr lo mc ms n n sh G mc ms 0 ls [] I J) : Sg y cc nL fr lo mc ms args n n' sh G I J Q := by
  intro l D cA ad sz hfl
  refine vx_ofW (cc := cc) (maxL := nL) (ret := none) hy rfl ?_
  intro p e s m args' below meth c s₁ B hml hxt hv
  obtain ⟨⟨rfl, hsz, hP, hD, hK, hB⟩, hC⟩ := hv
  subst hsz
  have hts := atoms_spec (ws := Cond.code y cc nL none :: TT) B.pre
  have hown : s.vm.findClass y.cls = some m.cls := findClass_of_methodNamed B.named
  have hA : ∀ q : Nat, s.heap.size ≤ q → mA ad n s.heap.size q := fun q hq => Or.inr hq
  have hD2 : va_D (mA ad n s.heap.size) (mws cA ad n sh I J G) := hD.weaken (fun k q hk _ => by
    obtain ⟨h1, h2⟩ := mws_inv hk
    exact Or.inl ⟨k, h1, by rw [h2]⟩)
  have hl0 := lv_entry (args.map (mz ad)) (n := nL) (hn ad)
  rw [lg_entry_eq]
  refine h p l e _ s m _ below meth c s.heap [] 0 0 _ D cA ad ad (mA ad n s.heap.size) hfl ⟨B.returns, name_of_named B.named B.method, hxt⟩ agr.rf ⟨B.exec, B.bytes, hml, hown, fun w hw => hts w (List.mem_cons_of_mem _ hw)⟩ B.notSynchronized ⟨Nat.le_refl _, Nat.le_refl _, Nat.le_refl _, Nat.le_refl _⟩ (by omega) (by omega) hA hB hC va_S.rf hP hD2 hK ?_
  rw [← hl ad]
  exact hl0
section GCALLS
variable {p : Program} {l : Launch} {e : Env} {R : Room} {s : State} {m : MethodId} {args : Array Value} {below : List Frame} {meth : Method} {c : Code} {H : Heap} {locs : List Jvm.Loc} {cells slots : Nat} {la : Array Slot} {D : va_G} {cA : Nat → ClassId} {ad0 ad : Nat → Nat} {A : Nat → Prop}
variable {Γ : gCtx} {Φ : gPost} {own : String} {cc : ByteArray} {nL pc b : Nat} {ls ls' : List (Nat × Value)} {st rest : List Value}
variable {fr lo mc ms n0 n n1 kc ks : Nat} {sh : mS} {G : mG} {I : mI} {J : mJ}
variable {y : MethodName} {cb : ByteArray} {nb : Nat} {rb : Option FieldType} {fr' lo' mc' ms' nA : Nat} {As As' : List Value} {Q' : mG → mI → mJ → Prop} {Qs : Option Value → mI → mJ → Prop}
theorem gc_after {st0 : List Value} (hrun : vx_Run p l e R s m args below meth c H locs cells slots mc' ms' (F0 m pc la st0) (rest.map (mz ad)) (gQ D cA ad n n1 sh (mA ad n H.size) Q' (As.map (mz ad)).toArray) gX (mA ad n H.size))
    (hfl : l.stackTraces = false) (hΓ : Γ p l s m args meth c ad0 A) (hag : agr n0 ad0 ad) (hn0 : n0 ≤ n) (S : CallFix p m c cc nL s args TT own) (hlk : meth.locks = false) (hR : fr ≤ R.frames ∧ lo ≤ R.locals ∧ mc ≤ R.cells ∧ ms ≤ R.slots) (hkc : cells + kc ≤ mc) (hks : slots + ks ≤ ms) (hmc : mc' ≤ kc) (hms : ms' ≤ ks)
    (hA : ∀ q, s.heap.size ≤ q → A q) (hB : BG ad A s s.heap) (hC : AC cA s) (hS : va_S A s.heap H locs) (hP : va_P D vwCl (mws cA ad n sh I J G) H) (hD : va_D A (mws cA ad n sh I J G)) (hK : va_K D vwCl (mtys cA) s) (hl : lv_has la nL (ls.map (mzp ad)))
    (hst : ∀ v ∈ rest, okV n v) (hls : ∀ q ∈ ls, okV n q.2)
    (kk : ∀ (G1 : mG) (I1 : mI) (J1 : mJ), Q' G1 I1 J1 → Zo n1 I1 J1 G1 → Gj Γ Φ own cc nL fr lo mc ms n0 n1 sh G1 (kc - mc') (ks - ms') (pc + 3) ls rest I1 J1) :
    W p l e R s m args below meth c H locs cells slots (Φ D cA ad0 A below args s) (F0 m pc la st0) := by
  have hsub := mA_le hD hS hA
  intro T hT X0
  rcases hrun T hT X0 with ⟨v, st₀, t, T', L, h0, X', hL, e1, e2, ⟨⟨ad', G1, I1, J1, hv, ha2, hq, hz, hP1, hD1, hK1⟩, hF⟩, stp⟩ | ⟨q, st₀, t, T', L, E, ce, h0, X', hL, e1, e2, hx, -⟩
  · cases hv
    obtain ⟨k1, k2, k3⟩ := vx_keep h0 e1 hS (fun q _ h => hsub q h) hsub hL hF
    have hal : s.vm.Alike t.vm := by rw [← e2]; exact X'.warmed.alike
    obtain ⟨t2, a1, b1⟩ := kk G1 I1 J1 hq hz p l e R s m args below meth c T'.heap (locs ++ L) (cells + mc') (slots + ms') la D cA ad0 ad' A hfl hΓ (hag.tr ha2 hn0) S hlk hR (by omega) (by omega) hA (hB.ad ha2) hC k3 (by rw [e1]; exact hP1) (hD1.weaken (fun _ q _ h => hsub q.1 h)) (va_K.moved hal.symm hK1) (by rw [lsm_agr ha2 hls]; exact hl) T' rfl X'
    refine ⟨t2, stp t2 ?_, b1⟩
    rw [map_agr ha2 hst] at a1
    exact a1
  · exact hx.elim
theorem gs_after {st0 : List Value} (hrun : vx_Run p l e R s m args below meth c H locs cells slots mc' ms' (F0 m pc la st0) (rest.map (mz ad)) (mQ D cA ad n sh G (mA ad n H.size) Qs (As.map (mz ad)).toArray) (mX D cA ad n sh G (mA ad n H.size) nX) (mA ad n H.size))
    (hfl : l.stackTraces = false) (hΓ : Γ p l s m args meth c ad0 A) (hag : agr n0 ad0 ad) (S : CallFix p m c cc nL s args TT own) (hlk : meth.locks = false) (hR : fr ≤ R.frames ∧ lo ≤ R.locals ∧ mc ≤ R.cells ∧ ms ≤ R.slots) (hkc : cells + kc ≤ mc) (hks : slots + ks ≤ ms) (hmc : mc' ≤ kc) (hms : ms' ≤ ks)
    (hA : ∀ q, s.heap.size ≤ q → A q) (hB : BG ad A s s.heap) (hC : AC cA s) (hS : va_S A s.heap H locs) (hP : va_P D vwCl (mws cA ad n sh I J G) H) (hD : va_D A (mws cA ad n sh I J G)) (hK : va_K D vwCl (mtys cA) s) (hl : lv_has la nL (ls.map (mzp ad)))
    (kk : ∀ (r : Option Value) (I1 : mI) (J1 : mJ), Qs r I1 J1 → Gj Γ Φ own cc nL fr lo mc ms n0 n sh G (kc - mc') (ks - ms') (pc + 3) ls (r.toList ++ rest) I1 J1) :
    W p l e R s m args below meth c H locs cells slots (Φ D cA ad0 A below args s) (F0 m pc la st0) := by
  have hsub := mA_le hD hS hA
  intro T hT X0
  rcases hrun T hT X0 with ⟨v, st₀, t, T', L, h0, X', hL, e1, e2, ⟨⟨r, I1, J1, hv, hq, hP1, hD1, hK1⟩, hF⟩, stp⟩ | ⟨q, st₀, t, T', L, E, ce, h0, X', hL, e1, e2, ⟨⟨I1, J1, hx, _⟩, _⟩, _⟩
  · cases hv
    obtain ⟨k1, k2, k3⟩ := vx_keep h0 e1 hS (fun q _ h => hsub q h) hsub hL hF
    have hal : s.vm.Alike t.vm := by rw [← e2]; exact X'.warmed.alike
    obtain ⟨t2, a1, b1⟩ := kk r I1 J1 hq p l e R s m args below meth c T'.heap (locs ++ L) (cells + mc') (slots + ms') la D cA ad0 ad A hfl hΓ hag S hlk hR (by omega) (by omega) hA hB hC k3 (by rw [e1]; exact hP1) (hD1.weaken (fun _ q _ h => hsub q.1 h)) (va_K.moved hal.symm hK1) hl T' rfl X'
    refine ⟨t2, stp t2 ?_, b1⟩
    have he : (Option.map (mz ad) r).toList ++ rest.map (mz ad) = (r.toList ++ rest).map (mz ad) := by cases r <;> simp
    rw [he]
    exact a1
  · exact hx.elim
theorem g_callI {ix ci N d : Nat} {C : String} {T : u_T} (hs : Sg y cb nb fr' lo' mc' ms' (.ref d :: As') n n1 sh G I J Q') (hn0 : n0 ≤ n) (hw : cw own ix y cb nb none nA) (hin : Cond.instanceMethod y ∈ TT) (hyn : y.name = "<init>") (hd : decode cc pc = .ok (.invokespecial ix, 3)) (hn : As'.length = nA) (hstk : st = As'.reverse ++ .ref d :: rest) (hcat : (rest.map fun v => v.category).sum ≤ 8) (hroom : fr' + 1 ≤ fr ∧ nb + 19 + lo' ≤ lo ∧ mc' ≤ kc ∧ ms' ≤ ks) (hst : ∀ v ∈ rest, okV n v) (hls : ∀ q ∈ ls, okV n q.2) (hb : pc + 3 = b)
    (kk : ∀ (G1 : mG) (I1 : mI) (J1 : mJ), Q' G1 I1 J1 → Zo n1 I1 J1 G1 → Gj Γ Φ own cc nL fr lo mc ms n0 n1 sh G1 (kc - mc') (ks - ms') b ls rest I1 J1) : Gj Γ Φ own cc nL fr lo mc ms n0 n sh G kc ks pc ls st I J := by
  intro p l e R s m args below meth c H locs cells slots la D cA ad0 ad A hfl hΓ hag S hlk hR hkc hks hA hB hC hS hP hD hK hl
  subst hb
  subst hstk
  obtain ⟨g1, g2, g3, g4⟩ := hroom
  have hrun := vx_runI (H := H) (locs := locs) (cells := cells) (slots := slots) (l := l) (e := e) (R := R) (below := below) (meth := meth) (b := ad d) (g := F0 m pc la ((As'.reverse ++ .ref d :: rest).map (mz ad))) (As := As'.map (mz ad)) (rest := rest.map (mz ad)) (n := nA) S (hs l D cA ad H.size hfl) ⟨cw_B (rm := { frames := fr', cells := mc', slots := ms', locals := lo' }) hw rfl S.2.2.2.2 ⟨Nat.le_trans g1 hR.1, by show 8 + (nb + 11) + lo' ≤ R.locals; omega⟩, hyn, S.2.2.2.2 _ hin⟩ ⟨gPc_blind, fun U hU hW => ⟨mPre (As := .ref d :: As') hS hP hD hK hB hA hU hW, hC.moved hW⟩⟩ rfl (by rw [List.length_map]; exact hn) hl.1 (by simp [mz]) (by simpa [JFrame.monitorRoom, Function.comp_def, mz_cat] using hcat) hd ⟨by omega, by omega⟩
  exact gc_after (As := .ref d :: As') hrun hfl hΓ hag hn0 S hlk hR hkc hks g3 g4 hA hB hC hS hP hD hK hl hst hls kk
theorem g_callV {ix ci N d : Nat} {C : String} {T : u_T} (hs : Sp y cb nb rb fr' lo' mc' ms' (.ref d :: As') n sh G I J Qs nX) (hw : cw own ix y cb nb rb nA) (hin : Cond.instanceMethod y ∈ TT) (hsel : Cond.selects C y y ∈ TT) (hcl : vwCl[ci]? = some (C, T, N)) (hid : d < n) (hsh : sh d = .inl (ci, N)) (hd : decode cc pc = .ok (.invokevirtual ix, 3)) (hn : As'.length = nA) (hstk : st = As'.reverse ++ .ref d :: rest) (hcat : (rest.map fun v => v.category).sum ≤ 8) (hroom : fr' + 1 ≤ fr ∧ nb + 19 + lo' ≤ lo ∧ mc' ≤ kc ∧ ms' ≤ ks) (hb : pc + 3 = b)
    (kk : ∀ (r : Option Value) (I1 : mI) (J1 : mJ), Qs r I1 J1 → Gj Γ Φ own cc nL fr lo mc ms n0 n sh G (kc - mc') (ks - ms') b ls (r.toList ++ rest) I1 J1) : Gj Γ Φ own cc nL fr lo mc ms n0 n sh G kc ks pc ls st I J := by
  intro p l e R s m args below meth c H locs cells slots la D cA ad0 ad A hfl hΓ hag S hlk hR hkc hks hA hB hC hS hP hD hK hl
  subst hb
  subst hstk
  obtain ⟨g1, g2, g3, g4⟩ := hroom
  have hrun := vx_runV (H := H) (locs := locs) (cells := cells) (slots := slots) (l := l) (e := e) (R := R) (below := below) (meth := meth) (C := C) (b := ad d) (g := F0 m pc la ((As'.reverse ++ .ref d :: rest).map (mz ad))) (As := As'.map (mz ad)) (rest := rest.map (mz ad)) (n := nA) S (hs l D cA ad H.size hfl) ⟨cw_B (rm := { frames := fr', cells := mc', slots := ms', locals := lo' }) hw rfl S.2.2.2.2 ⟨Nat.le_trans g1 hR.1, by show 8 + (nb + 11) + lo' ≤ R.locals; omega⟩, S.2.2.2.2 _ hin, S.2.2.2.2 _ hsel⟩ ⟨mPc_blind, va_recv hK hP (q0 := d) (ci := ci) hcl (by rw [mws_at hid, mcell_o hsh]), fun U hU hW => mPre (As := .ref d :: As') hS hP hD hK hB hA hU hW⟩ rfl (by rw [List.length_map]; exact hn) hl.1 (by simp [mz]) (by simpa [JFrame.monitorRoom, Function.comp_def, mz_cat] using hcat) hd ⟨by omega, by omega⟩
  exact gs_after (As := .ref d :: As') hrun hfl hΓ hag S hlk hR hkc hks g3 g4 hA hB hC hS hP hD hK hl kk
theorem g_callS {ix : Nat} (hs : Sp y cb nb rb fr' lo' mc' ms' As n sh G I J Qs nX) (hw : cw own ix y cb nb rb nA) (hst : Cond.static y ∈ TT) (hd : decode cc pc = .ok (.invokestatic ix, 3)) (hn : As.length = nA) (hstk : st = As.reverse ++ rest) (hcat : (rest.map fun v => v.category).sum ≤ 8) (hroom : fr' + 1 ≤ fr ∧ nb + 19 + lo' ≤ lo ∧ mc' ≤ kc ∧ ms' ≤ ks) (hb : pc + 3 = b)
    (kk : ∀ (r : Option Value) (I1 : mI) (J1 : mJ), Qs r I1 J1 → Gj Γ Φ own cc nL fr lo mc ms n0 n sh G (kc - mc') (ks - ms') b ls (r.toList ++ rest) I1 J1) : Gj Γ Φ own cc nL fr lo mc ms n0 n sh G kc ks pc ls st I J := by
  intro p l e R s m args below meth c H locs cells slots la D cA ad0 ad A hfl hΓ hag S hlk hR hkc hks hA hB hC hS hP hD hK hl
  subst hb
  subst hstk
  obtain ⟨g1, g2, g3, g4⟩ := hroom
  have hrun := vx_runS (H := H) (locs := locs) (cells := cells) (slots := slots) (l := l) (e := e) (R := R) (below := below) (meth := meth) (g := F0 m pc la ((As.reverse ++ rest).map (mz ad))) (As := As.map (mz ad)) (rest := rest.map (mz ad)) (n := nA) S (hs l D cA ad H.size hfl) ⟨cw_B (rm := { frames := fr', cells := mc', slots := ms', locals := lo' }) hw rfl S.2.2.2.2 ⟨Nat.le_trans g1 hR.1, by show 8 + (nb + 11) + lo' ≤ R.locals; omega⟩, S.2.2.2.2 _ hst⟩ ⟨mPc_blind, fun U hU hW => mPre hS hP hD hK hB hA hU hW⟩ rfl (by rw [List.length_map]; exact hn) hl.1 (by simp) (by simpa [JFrame.monitorRoom, Function.comp_def, mz_cat] using hcat) hd ⟨by omega, by omega⟩
  exact gs_after hrun hfl hΓ hag S hlk hR hkc hks g3 g4 hA hB hC hS hP hD hK hl kk
/-- what a call of a nest-mate needs of the tables -/
def cwN (own host : String) (ix : Nat) (y : MethodName) (cb : ByteArray) (nb : Nat) (rb : Option FieldType) (nA : Nat) : Prop :=
  Cond.code y cb nb rb ∈ TT ∧ Cond.methodLinkNest own ix y host ∈ nestW ∧ Cond.initialized y.cls ∈ TT ∧ (y.cls ≠ "java/lang/invoke/MethodHandle" ∧ y.cls ≠ "java/lang/invoke/VarHandle") ∧ (parseMethodDescriptor y.desc).map (fun d => d.parameters.length) = some nA
theorem g_callIN {host : String} {ix ci N d : Nat} {C : String} {T : u_T} (hs : Sg y cb nb fr' lo' mc' ms' (.ref d :: As') n n1 sh G I J Q') (hn0 : n0 ≤ n) (hw : cwN own host ix y cb nb none nA) (hin : Cond.instanceMethod y ∈ TT) (hyn : y.name = "<init>") (hd : decode cc pc = .ok (.invokespecial ix, 3)) (hn : As'.length = nA) (hstk : st = As'.reverse ++ .ref d :: rest) (hcat : (rest.map fun v => v.category).sum ≤ 8) (hroom : fr' + 1 ≤ fr ∧ nb + 19 + lo' ≤ lo ∧ mc' ≤ kc ∧ ms' ≤ ks) (hst : ∀ v ∈ rest, okV n v) (hls : ∀ q ∈ ls, okV n q.2) (hb : pc + 3 = b)
    (kk : ∀ (G1 : mG) (I1 : mI) (J1 : mJ), Q' G1 I1 J1 → Zo n1 I1 J1 G1 → Gj Γ Φ own cc nL fr lo mc ms n0 n1 sh G1 (kc - mc') (ks - ms') b ls rest I1 J1) : Gj Γ Φ own cc nL fr lo mc ms n0 n sh G kc ks pc ls st I J := by
  intro p l e R s m args below meth c H locs cells slots la D cA ad0 ad A hfl hΓ hag S hlk hR hkc hks hA hB hC hS hP hD hK hl
  subst hb
  subst hstk
  obtain ⟨g1, g2, g3, g4⟩ := hroom
  obtain ⟨w1, w2, w3, w4, w5⟩ := hw
  have hrun := vx_runIN (H := H) (locs := locs) (cells := cells) (slots := slots) (l := l) (e := e) (R := R) (below := below) (meth := meth) (host := host) (b := ad d) (g := F0 m pc la ((As'.reverse ++ .ref d :: rest).map (mz ad))) (As := As'.map (mz ad)) (rest := rest.map (mz ad)) (n := nA) S (hs l D cA ad H.size hfl) ⟨⟨⟨rfl, rfl, by show fr' + 1 ≤ R.frames; omega, by show 8 + (nb + 11) + lo' ≤ R.locals; omega, pay_in S.2.2.2.2 (code_in w1), List.mem_cons_self⟩, S.2.2.2.2 _ w1, S.2.2.2.2 _ w3, w4, fun sig h => by rw [h] at w5; exact (Option.some.inj w5).symm, hC.word w2⟩, hyn, S.2.2.2.2 _ hin⟩ ⟨gPc_blind, fun U hU hW => ⟨mPre (As := .ref d :: As') hS hP hD hK hB hA hU hW, hC.moved hW⟩⟩ rfl (by rw [List.length_map]; exact hn) hl.1 (by simp [mz]) (by simpa [JFrame.monitorRoom, Function.comp_def, mz_cat] using hcat) hd ⟨by omega, by omega⟩
  exact gc_after (As := .ref d :: As') hrun hfl hΓ hag hn0 S hlk hR hkc hks g3 g4 hA hB hC hS hP hD hK hl hst hls kk
theorem g_oinit {ix d : Nat} (h1 : Cond.methodLink own ix Lib.objectInit ∈ TT) (h2 : Cond.instanceMethod Lib.objectInit ∈ TT) (h3 : Cond.code Lib.objectInit { data := #[177] } 1 none ∈ TT) (hd : decode cc pc = .ok (.invokespecial ix, 3)) (hroom : 1 ≤ fr ∧ 12 + (rest.map fun v => v.category).sum ≤ lo) (hb : pc + 3 = b) (kk : Gj Γ Φ own cc nL fr lo mc ms n0 n sh G kc ks b ls rest I J) : Gj Γ Φ own cc nL fr lo mc ms n0 n sh G kc ks pc ls (.ref d :: rest) I J := by
  intro p l e R s m args below meth c H locs cells slots la D cA ad0 ad A hfl hΓ hag S hlk hR hkc hks hA hB hC hS hP hD hK hl
  subst hb
  refine W.objInit (rest := rest.map (mz ad)) S.1 S.2.1 S.2.2.2.1 (S.2.2.2.2 _ h1) (S.2.2.2.2 _ h2) (S.2.2.2.2 _ h3) rfl (hl.1.trans S.2.2.1.symm) rfl hd (Nat.le_trans hroom.1 hR.1) ?_ (kk p l e R s m args below meth c H locs cells slots la D cA ad0 ad A hfl hΓ hag S hlk hR hkc hks hA hB hC hS hP hD hK hl)
  have h := hroom.2
  have hm : (F0 m pc la ((Value.ref d :: rest).map (mz ad))).monitorRoom = 0 := rfl
  rw [hm]
  have : ((rest.map (mz ad)).map fun v => v.category).sum = (rest.map fun v => v.category).sum := by simp [Function.comp_def, mz_cat]
  rw [this]
  omega
theorem g_iret {Q : mG → mI → mJ → Prop} (hd : decode cc pc = .ok (.return_, 1)) (hq : Q G I J) (hz : Zo n I J G) : Gj (gI y) (gO n0 n mc ms sh Q) own cc nL fr lo mc ms n0 n sh G kc ks pc ls ([]) I J := by
  intro p l e R s m args below meth c H locs cells slots la D cA ad0 ad A hfl hΓ hag S hlk hR hkc hks hA hB hC hS hP hD hK hl
  refine W.widen (k := mc) (n := ms) (by omega) (by omega) (vx_ret ?_)
  exact W.vret S.1 S.2.1 hΓ.1 (fun t ht hW => ⟨⟨ad, G, I, J, rfl, hag, hq, hz, by rw [ht]; exact hP, hD, va_K.moved hW.alike hK⟩, hS.F ht⟩) hS.2.2 hd hlk
end GCALLS

/-! THE JDK'S TEXTS: contracts of methods that make cells and answer -/
def hQ (D : va_G) (cA : Nat → ClassId) (ad : Nat → Nat) (n n' : Nat) (sh : mS) (A : Nat → Prop) (Q : Option Value → mG → mI → mJ → Prop) : Array Value → State → Outcome → State → Prop := fun _ st oc t =>
  (∃ (r : Option Value) (ad' : Nat → Nat) (G : mG) (I : mI) (J : mJ), oc = .returned (r.map (mz ad')) ∧ agr n ad ad' ∧ Q r G I J ∧ Zo n' I J G ∧ mW D cA ad' n' sh G A I J t.heap t) ∧ va_F A st t
def Sm (y : MethodName) (cc : ByteArray) (nL : Nat) (ret : Option FieldType) (fr lo mc ms : Nat) (args : List Value) (n n' : Nat) (sh : mS) (G : mG) (I : mI) (J : mJ) (Q : Option Value → mG → mI → mJ → Prop) : Prop :=
  ∀ (l : Launch) (D : va_G) (cA : Nat → ClassId) (ad : Nat → Nat) (sz : Nat), l.stackTraces = false → Met l y (.code y cc nL ret :: TT) { frames := fr, cells := mc, slots := ms, locals := lo } (gPc D cA ad n sz sh G I J args) (hQ D cA ad n n' sh (mA ad n sz) Q) mc ms (mA ad n sz)
def hI (y : MethodName) (ret : Option FieldType) : gCtx := fun _ _ _ _ _ meth _ _ _ => meth.sig.returnType = ret ∧ meth.name = y.name
def hO (n0 n' mc ms : Nat) (sh : mS) (Q : Option Value → mG → mI → mJ → Prop) : gPost := fun D cA ad0 A below args s => MQ below (hQ D cA ad0 n0 n' sh A Q) args s mc ms A
theorem Sm.of {y : MethodName} {cc : ByteArray} {nL : Nat} {ret : Option FieldType} {fr lo mc ms : Nat} {args : List Value} {n n' : Nat} {sh : mS} {G : mG} {I : mI} {J : mJ} {Q : Option Value → mG → mI → mJ → Prop} (hy : plainName y.cls = true) {ls : List (Nat × Value)}
    (hl : ∀ ad : Nat → Nat, lv_args 0 (args.map (mz ad)) = ls.map (mzp ad)) (hn : ∀ ad : Nat → Nat, (lg_sl (args.map (mz ad))).length ≤ nL)
    (h : Gj (hI y ret) (hO n n' mc ms sh Q) y.cls cc nL fr lo mc ms n n sh G mc ms 0 ls [] I J) : Sm y cc nL ret fr lo mc ms args n n' sh G I J Q := by
  intro l D cA ad sz hfl
  refine Met.ofW (cc := cc) (maxL := nL) (ret := ret) hy rfl ?_
  intro p e s m args' below meth c s₁ B hml hv
  obtain ⟨⟨rfl, hsz, hP, hD, hK, hB⟩, hC⟩ := hv
  subst hsz
  have hts := atoms_spec (ws := Cond.code y cc nL ret :: TT) B.pre
  have hown : s.vm.findClass y.cls = some m.cls := findClass_of_methodNamed B.named
  have hA : ∀ q : Nat, s.heap.size ≤ q → mA ad n s.heap.size q := fun q hq => Or.inr hq
  have hD2 : va_D (mA ad n s.heap.size) (mws cA ad n sh I J G) := hD.weaken (fun k q hk _ => by
    obtain ⟨h1, h2⟩ := mws_inv hk
    exact Or.inl ⟨k, h1, by rw [h2]⟩)
  have hl0 := lv_entry (args.map (mz ad)) (n := nL) (hn ad)
  rw [lg_entry_eq]
  refine h p l e _ s m _ below meth c s.heap [] 0 0 _ D cA ad ad (mA ad n s.heap.size) hfl ⟨B.returns, name_of_named B.named B.method⟩ agr.rf ⟨B.exec, B.bytes, hml, hown, fun w hw => hts w (List.mem_cons_of_mem _ hw)⟩ B.notSynchronized ⟨Nat.le_refl _, Nat.le_refl _, Nat.le_refl _, Nat.le_refl _⟩ (by omega) (by omega) hA hB hC va_S.rf hP hD2 hK ?_
  rw [← hl ad]
  exact hl0
theorem sel_priv {C : String} {y : MethodName} {s : State} {args : Array Value} {n : Nat} (hy : y.cls ≠ "java/lang/invoke/MethodHandle" ∧ y.cls ≠ "java/lang/invoke/VarHandle")
    (hins : (Cond.instantiable C n).before args s = true) (hpriv : (Cond.privateMethod y).before args s = true) (hinst : (Cond.instanceMethod y).before args s = true) (hini : (Cond.initialized y.cls).before args s = true) : ∀ (hni : ∀ k, s.vm.classes[(s.methodNamed? y).elim 0 (fun m => m.cls)]? = some k → k.isInterface = false), (Cond.selects C y y).before args s = true := by
  intro hni
  obtain ⟨c, k, hc, hk, -, hniab, -, -⟩ := Cond.instantiable_spec hins
  obtain ⟨mk, methM, hnamed, hmethM, -, -⟩ := Cond.instanceMethod_spec hinst
  have hfound : s.methodFound? y.cls y.name y.desc = some mk := State.methodFound?_of_named hnamed hy
  have hsel : selectMethod {} s.vm c mk = .method mk := selectMethod_private hmethM (Cond.privateMethod_at hpriv mk methM hnamed hmethM)
  rw [hnamed] at hni
  simp only [Option.elim] at hni
  have hmk : ∃ k2, s.vm.classes[mk.cls]? = some k2 := by
    unfold Vm.method? at hmethM
    cases h : s.vm.classes[mk.cls]? with
    | none => simp [h] at hmethM
    | some k2 => exact ⟨k2, rfl⟩
  obtain ⟨k2, hk2⟩ := hmk
  simp only [Cond.before, Cond.holds, Cond.value, hc, hfound, hnamed, hsel, hk2]
  simp
  exact hni k2 hk2
section HCALLS
variable {p : Program} {l : Launch} {e : Env} {R : Room} {s : State} {m : MethodId} {args : Array Value} {below : List Frame} {meth : Method} {c : Code} {H : Heap} {locs : List Jvm.Loc} {cells slots : Nat} {la : Array Slot} {D : va_G} {cA : Nat → ClassId} {ad0 ad : Nat → Nat} {A : Nat → Prop}
variable {Γ : gCtx} {Φ : gPost} {own : String} {cc : ByteArray} {nL pc b : Nat} {ls ls' : List (Nat × Value)} {st rest : List Value}
variable {fr lo mc ms n0 n n1 kc ks kc' ks' : Nat} {sh : mS} {G : mG} {I : mI} {J : mJ}
variable {y : MethodName} {cb : ByteArray} {nb : Nat} {rb ret : Option FieldType} {fr' lo' mc' ms' nA : Nat} {As As' : List Value} {Q' : Option Value → mG → mI → mJ → Prop}
theorem h_after {st0 : List Value} (hrun : va_Run p l e R s m args below meth c H locs cells slots mc' ms' (F0 m pc la st0) (rest.map (mz ad)) (hQ D cA ad n n1 sh (mA ad n H.size) Q' (As.map (mz ad)).toArray) (mA ad n H.size))
    (hfl : l.stackTraces = false) (hΓ : Γ p l s m args meth c ad0 A) (hag : agr n0 ad0 ad) (hn0 : n0 ≤ n) (S : CallFix p m c cc nL s args TT own) (hlk : meth.locks = false) (hR : fr ≤ R.frames ∧ lo ≤ R.locals ∧ mc ≤ R.cells ∧ ms ≤ R.slots) (hkc : cells + kc ≤ mc) (hks : slots + ks ≤ ms) (hmc : kc' + mc' ≤ kc) (hms : ks' + ms' ≤ ks)
    (hA : ∀ q, s.heap.size ≤ q → A q) (hB : BG ad A s s.heap) (hC : AC cA s) (hS : va_S A s.heap H locs) (hP : va_P D vwCl (mws cA ad n sh I J G) H) (hD : va_D A (mws cA ad n sh I J G)) (hK : va_K D vwCl (mtys cA) s) (hl : lv_has la nL (ls.map (mzp ad)))
    (hst : ∀ v ∈ rest, okV n v) (hls : ∀ q ∈ ls, okV n q.2)
    (kk : ∀ (r : Option Value) (G1 : mG) (I1 : mI) (J1 : mJ), Q' r G1 I1 J1 → Zo n1 I1 J1 G1 → Gj Γ Φ own cc nL fr lo mc ms n0 n1 sh G1 kc' ks' (pc + 3) ls (r.toList ++ rest) I1 J1) :
    W p l e R s m args below meth c H locs cells slots (Φ D cA ad0 A below args s) (F0 m pc la st0) := by
  have hsub := mA_le hD hS hA
  intro T hT X0
  obtain ⟨v, st₀, t, T', L, h0, X', hL, e1, e2, ⟨⟨r, ad', G1, I1, J1, hv, ha2, hq, hz, hP1, hD1, hK1⟩, hF⟩, stp⟩ := hrun T hT X0
  cases hv
  obtain ⟨k1, k2, k3⟩ := vx_keep h0 e1 hS (fun q _ h => hsub q h) hsub hL hF
  have hal : s.vm.Alike t.vm := by rw [← e2]; exact X'.warmed.alike
  obtain ⟨t2, a1, b1⟩ := kk r G1 I1 J1 hq hz p l e R s m args below meth c T'.heap (locs ++ L) (cells + mc') (slots + ms') la D cA ad0 ad' A hfl hΓ (hag.tr ha2 hn0) S hlk hR (by omega) (by omega) hA (hB.ad ha2) hC k3 (by rw [e1]; exact hP1) (hD1.weaken (fun _ q _ h => hsub q.1 h)) (va_K.moved hal.symm hK1) (by rw [lsm_agr ha2 hls]; exact hl) T' rfl X'
  refine ⟨t2, stp t2 ?_, b1⟩
  have he : (Option.map (mz ad') r).toList ++ rest.map (mz ad) = (r.toList ++ rest).map (mz ad') := by
    rw [List.map_append, map_agr ha2 hst]
    cases r <;> rfl
  rw [he]
  exact a1
theorem h_callS {ix : Nat} (hs : Sm y cb nb rb fr' lo' mc' ms' As n n1 sh G I J Q') (hn0 : n0 ≤ n) (hw : cw own ix y cb nb rb nA) (hst : Cond.static y ∈ TT) (hd : decode cc pc = .ok (.invokestatic ix, 3)) (hn : As.length = nA) (hstk : st = As.reverse ++ rest) (hcat : (rest.map fun v => v.category).sum ≤ 8) (hroom : fr' + 1 ≤ fr ∧ nb + 19 + lo' ≤ lo) (hok : ∀ v ∈ rest, okV n v) (hls : ∀ q ∈ ls, okV n q.2) (hb : pc + 3 = b) (hmc : kc' + mc' ≤ kc) (hms : ks' + ms' ≤ ks)
    (kk : ∀ (r : Option Value) (G1 : mG) (I1 : mI) (J1 : mJ), Q' r G1 I1 J1 → Zo n1 I1 J1 G1 → Gj Γ Φ own cc nL fr lo mc ms n0 n1 sh G1 kc' ks' b ls (r.toList ++ rest) I1 J1) : Gj Γ Φ own cc nL fr lo mc ms n0 n sh G kc ks pc ls st I J := by
  intro p l e R s m args below meth c H locs cells slots la D cA ad0 ad A hfl hΓ hag S hlk hR hkc hks hA hB hC hS hP hD hK hl
  subst hb
  subst hstk
  have hrun := va_runS (H := H) (locs := locs) (cells := cells) (slots := slots) (l := l) (e := e) (R := R) (below := below) (meth := meth) (g := F0 m pc la ((As.reverse ++ rest).map (mz ad))) (As := As.map (mz ad)) (rest := rest.map (mz ad)) (n := nA) S (hs l D cA ad H.size hfl) ⟨cw_B (rm := { frames := fr', cells := mc', slots := ms', locals := lo' }) hw rfl S.2.2.2.2 ⟨Nat.le_trans hroom.1 hR.1, by show 8 + (nb + 11) + lo' ≤ R.locals; omega⟩, S.2.2.2.2 _ hst⟩ ⟨gPc_blind, fun U hU hW => ⟨mPre hS hP hD hK hB hA hU hW, hC.moved hW⟩⟩ rfl (by rw [List.length_map]; exact hn) hl.1 (by simp) (by simpa [JFrame.monitorRoom, Function.comp_def, mz_cat] using hcat) hd ⟨by omega, by omega⟩
  exact h_after hrun hfl hΓ hag hn0 S hlk hR hkc hks hmc hms hA hB hC hS hP hD hK hl hok hls kk
theorem h_callV {ix ci N d : Nat} {C : String} {T : u_T} (hs : Sm y cb nb rb fr' lo' mc' ms' (.ref d :: As') n n1 sh G I J Q') (hn0 : n0 ≤ n) (hw : cw own ix y cb nb rb nA) (hin : Cond.instanceMethod y ∈ TT) (hsel : ∀ {args : Array Value} {s : State} {cA : Nat → ClassId}, (∀ w ∈ TT, w.before args s = true) → AC cA s → (Cond.selects C y y).before args s = true) (hcl : vwCl[ci]? = some (C, T, N)) (hid : d < n) (hsh : sh d = .inl (ci, N)) (hd : decode cc pc = .ok (.invokevirtual ix, 3)) (hn : As'.length = nA) (hstk : st = As'.reverse ++ .ref d :: rest) (hcat : (rest.map fun v => v.category).sum ≤ 8) (hroom : fr' + 1 ≤ fr ∧ nb + 19 + lo' ≤ lo) (hok : ∀ v ∈ rest, okV n v) (hls : ∀ q ∈ ls, okV n q.2) (hb : pc + 3 = b) (hmc : kc' + mc' ≤ kc) (hms : ks' + ms' ≤ ks)
    (kk : ∀ (r : Option Value) (G1 : mG) (I1 : mI) (J1 : mJ), Q' r G1 I1 J1 → Zo n1 I1 J1 G1 → Gj Γ Φ own cc nL fr lo mc ms n0 n1 sh G1 kc' ks' b ls (r.toList ++ rest) I1 J1) : Gj Γ Φ own cc nL fr lo mc ms n0 n sh G kc ks pc ls st I J := by
  intro p l e R s m args below meth c H locs cells slots la D cA ad0 ad A hfl hΓ hag S hlk hR hkc hks hA hB hC hS hP hD hK hl
  subst hb
  subst hstk
  have hrun := va_runV (H := H) (locs := locs) (cells := cells) (slots := slots) (l := l) (e := e) (R := R) (below := below) (meth := meth) (C := C) (b := ad d) (g := F0 m pc la ((As'.reverse ++ .ref d :: rest).map (mz ad))) (As := As'.map (mz ad)) (rest := rest.map (mz ad)) (n := nA) S (hs l D cA ad H.size hfl) ⟨cw_B (rm := { frames := fr', cells := mc', slots := ms', locals := lo' }) hw rfl S.2.2.2.2 ⟨Nat.le_trans hroom.1 hR.1, by show 8 + (nb + 11) + lo' ≤ R.locals; omega⟩, S.2.2.2.2 _ hin, hsel S.2.2.2.2 hC⟩ ⟨gPc_blind, va_recv hK hP (q0 := d) (ci := ci) hcl (by rw [mws_at hid, mcell_o hsh]), fun U hU hW => ⟨mPre (As := .ref d :: As') hS hP hD hK hB hA hU hW, hC.moved hW⟩⟩ rfl (by rw [List.length_map]; exact hn) hl.1 (by simp [mz]) (by simpa [JFrame.monitorRoom, Function.comp_def, mz_cat] using hcat) hd ⟨by omega, by omega⟩
  exact h_after (As := .ref d :: As') hrun hfl hΓ hag hn0 S hlk hR hkc hks hmc hms hA hB hC hS hP hD hK hl hok hls kk
theorem h_callI {ix d : Nat} (hs : Sm y cb nb none fr' lo' mc' ms' (.ref d :: As') n n1 sh G I J Q') (hn0 : n0 ≤ n) (hw : cw own ix y cb nb none nA) (hin : Cond.instanceMethod y ∈ TT) (hyn : y.name = "<init>") (hd : decode cc pc = .ok (.invokespecial ix, 3)) (hn : As'.length = nA) (hstk : st = As'.reverse ++ .ref d :: rest) (hcat : (rest.map fun v => v.category).sum ≤ 8) (hroom : fr' + 1 ≤ fr ∧ nb + 19 + lo' ≤ lo) (hok : ∀ v ∈ rest, okV n v) (hls : ∀ q ∈ ls, okV n q.2) (hb : pc + 3 = b) (hmc : kc' + mc' ≤ kc) (hms : ks' + ms' ≤ ks)
    (kk : ∀ (r : Option Value) (G1 : mG) (I1 : mI) (J1 : mJ), Q' r G1 I1 J1 → Zo n1 I1 J1 G1 → Gj Γ Φ own cc nL fr lo mc ms n0 n1 sh G1 kc' ks' b ls (r.toList ++ rest) I1 J1) : Gj Γ Φ own cc nL fr lo mc ms n0 n sh G kc ks pc ls st I J := by
  intro p l e R s m args below meth c H locs cells slots la D cA ad0 ad A hfl hΓ hag S hlk hR hkc hks hA hB hC hS hP hD hK hl
  subst hb
  subst hstk
  have hrun := va_runI (H := H) (locs := locs) (cells := cells) (slots := slots) (l := l) (e := e) (R := R) (below := below) (meth := meth) (b := ad d) (g := F0 m pc la ((As'.reverse ++ .ref d :: rest).map (mz ad))) (As := As'.map (mz ad)) (rest := rest.map (mz ad)) (n := nA) S (hs l D cA ad H.size hfl) ⟨cw_B (rm := { frames := fr', cells := mc', slots := ms', locals := lo' }) hw rfl S.2.2.2.2 ⟨Nat.le_trans hroom.1 hR.1, by show 8 + (nb + 11) + lo' ≤ R.locals; omega⟩, hyn, S.2.2.2.2 _ hin⟩ ⟨gPc_blind, fun U hU hW => ⟨mPre (As := .ref d :: As') hS hP hD hK hB hA hU hW, hC.moved hW⟩⟩ rfl (by rw [List.length_map]; exact hn) hl.1 (by simp [mz]) (by simpa [JFrame.monitorRoom, Function.comp_def, mz_cat] using hcat) hd ⟨by omega, by omega⟩
  exact h_after (As := .ref d :: As') hrun hfl hΓ hag hn0 S hlk hR hkc hks hmc hms hA hB hC hS hP hD hK hl hok hls kk
/-- what a call of a method of the class above needs of the tables -/
def cwSU (own : String) (ix : Nat) (y : MethodName) (cb : ByteArray) (nb : Nat) (rb : Option FieldType) (nA : Nat) : Prop :=
  Cond.code y cb nb rb ∈ TT ∧ (∀ w ∈ va_wsSU own ix y [], w ∈ TT) ∧ y.name ≠ "<init>" ∧ (parseMethodDescriptor y.desc).map (fun d => d.parameters.length) = some nA
theorem h_callSU {ix ci N d : Nat} {C : String} {T : u_T} (hs : Sm y cb nb rb fr' lo' mc' ms' (.ref d :: As') n n1 sh G I J Q') (hn0 : n0 ≤ n) (hw : cwSU own ix y cb nb rb nA) (hcl : vwCl[ci]? = some (C, T, N)) (hid : d < n) (hsh : sh d = .inl (ci, N)) (hd : decode cc pc = .ok (.invokespecial ix, 3)) (hn : As'.length = nA) (hstk : st = As'.reverse ++ .ref d :: rest) (hcat : (rest.map fun v => v.category).sum ≤ 8) (hroom : fr' + 1 ≤ fr ∧ nb + 19 + lo' ≤ lo) (hok : ∀ v ∈ rest, okV n v) (hls : ∀ q ∈ ls, okV n q.2) (hb : pc + 3 = b) (hmc : kc' + mc' ≤ kc) (hms : ks' + ms' ≤ ks)
    (kk : ∀ (r : Option Value) (G1 : mG) (I1 : mI) (J1 : mJ), Q' r G1 I1 J1 → Zo n1 I1 J1 G1 → Gj Γ Φ own cc nL fr lo mc ms n0 n1 sh G1 kc' ks' b ls (r.toList ++ rest) I1 J1) : Gj Γ Φ own cc nL fr lo mc ms n0 n sh G kc ks pc ls st I J := by
  intro p l e R s m args below meth c H locs cells slots la D cA ad0 ad A hfl hΓ hag S hlk hR hkc hks hA hB hC hS hP hD hK hl
  subst hb
  subst hstk
  obtain ⟨w1, w2, w3, w4⟩ := hw
  have hat : ClassAt s C (D.1 ci) := (hK.1 ci _ hcl).2
  have hrun := va_runSU (H := H) (locs := locs) (cells := cells) (slots := slots) (l := l) (e := e) (R := R) (below := below) (meth := meth) (b := ad d) (g := F0 m pc la ((As'.reverse ++ .ref d :: rest).map (mz ad))) (As := As'.map (mz ad)) (rest := rest.map (mz ad)) (n := nA) hat S (hs l D cA ad H.size hfl) (va_cwSU (rm := { frames := fr', cells := mc', slots := ms', locals := lo' }) (ws := .code y cb nb rb :: TT) nA S.2.2.2.2 (fun w hw => (List.mem_append.mp hw).elim (fun h => TT_good _ (w2 w (List.mem_append_left _ h))) (fun h => code_in w1 w h)) rfl rfl rfl ⟨w3, w4⟩ ⟨Nat.le_trans hroom.1 hR.1, by show 8 + (nb + 11) + lo' ≤ R.locals; omega⟩) ⟨gPc_blind, va_recv hK hP (q0 := d) (ci := ci) hcl (by rw [mws_at hid, mcell_o hsh]), fun U hU hW => ⟨mPre (As := .ref d :: As') hS hP hD hK hB hA hU hW, hC.moved hW⟩⟩ rfl (by rw [List.length_map]; exact hn) hl.1 (by simp [mz]) (by simpa [JFrame.monitorRoom, Function.comp_def, mz_cat] using hcat) hd ⟨by omega, by omega⟩
  exact h_after (As := .ref d :: As') hrun hfl hΓ hag hn0 S hlk hR hkc hks hmc hms hA hB hC hS hP hD hK hl hok hls kk
theorem h_vret {Q : Option Value → mG → mI → mJ → Prop} (hd : decode cc pc = .ok (.return_, 1)) (hq : Q none G I J) (hz : Zo n I J G) : Gj (hI y none) (hO n0 n mc ms sh Q) own cc nL fr lo mc ms n0 n sh G kc ks pc ls ([]) I J := by
  intro p l e R s m args below meth c H locs cells slots la D cA ad0 ad A hfl hΓ hag S hlk hR hkc hks hA hB hC hS hP hD hK hl
  refine W.widen (k := mc) (n := ms) (by omega) (by omega) ?_
  exact W.vret S.1 S.2.1 hΓ.1 (fun t ht hW => ⟨⟨none, ad, G, I, J, rfl, hag, hq, hz, by rw [ht]; exact hP, hD, va_K.moved hW.alike hK⟩, hS.F ht⟩) hS.2.2 hd hlk
theorem h_aret {Q : Option Value → mG → mI → mJ → Prop} {a : Nat} {rt : FieldType} (hrt : (∃ n, rt = .object n) ∨ ∃ t, rt = .array t) (hd : decode cc pc = .ok (.areturn, 1)) (hq : Q (some (.ref a)) G I J) (hz : Zo n I J G) : Gj (hI y (some rt)) (hO n0 n mc ms sh Q) own cc nL fr lo mc ms n0 n sh G kc ks pc ls ([.ref a]) I J := by
  intro p l e R s m args below meth c H locs cells slots la D cA ad0 ad A hfl hΓ hag S hlk hR hkc hks hA hB hC hS hP hD hK hl
  refine W.widen (k := mc) (n := ms) (by omega) (by omega) ?_
  exact W.aret S.1 S.2.1 hΓ.1 hrt (Or.inr ⟨_, rfl⟩) (fun t ht hW => ⟨⟨some (.ref a), ad, G, I, J, rfl, hag, hq, hz, by rw [ht]; exact hP, hD, va_K.moved hW.alike hK⟩, hS.F ht⟩) hS.2.2 hd hlk
end HCALLS
theorem sel_of {C : String} {x y : MethodName} (h : Cond.selects C x y ∈ TT) : ∀ {args : Array Value} {s : State} {cA : Nat → ClassId}, (∀ w ∈ TT, w.before args s = true) → AC cA s → (Cond.selects C x y).before args s = true := fun hts _ => hts _ h
theorem sel_ac {C : String} {x y : MethodName} (h : Cond.selects C x y ∈ nestW) : ∀ {args : Array Value} {s : State} {cA : Nat → ClassId}, (∀ w ∈ TT, w.before args s = true) → AC cA s → (Cond.selects C x y).before args s = true := fun _ hC => hC.word h
theorem qin_J4s : Cond.instantiable RJ4 4 ∈ TT := TT_of (tb5 (List.mem_of_getElem? (i := 65) rfl)) rfl
theorem sel_asb {y : MethodName} (hc : y.cls = RJ5) (hi : Cond.instanceMethod y ∈ TT) (hn : Cond.initialized RJ5 ∈ TT) (hv : Cond.selects RJ4 yJ5_isLatin1_aae02 yJ5_isLatin1_aae02 ∈ TT) : ∀ {args : Array Value} {s : State}, (∀ w ∈ TT, w.before args s = true) → (Cond.privateMethod y).before args s = true → (Cond.selects RJ4 y y).before args s = true := by
  intro args s h hp
  obtain ⟨c2, r2, m2, q1, q2, q3, q4, kP, hkP, hkPi⟩ := Cond.selects_spec (h _ hv)
  refine sel_priv (n := 4) ⟨by rw [hc]; decide, by rw [hc]; decide⟩ (h _ qin_J4s) hp (h _ hi) (by rw [hc]; exact h _ hn) (fun k hk => ?_)
  obtain ⟨mk, methM, hnamed, hmethM, -, -⟩ := Cond.instanceMethod_spec (h _ hi)
  rw [hnamed] at hk
  have e1 := findClass_of_methodNamed hnamed
  have e2 := findClass_of_methodNamed q3
  rw [hc] at e1
  have e3 : mk.cls = m2.cls := Option.some.inj (e1.symm.trans e2)
  have hk2 : s.vm.classes[mk.cls]? = some k := hk
  rw [e3] at hk2
  cases hk2.symm.trans hkP
  exact hkPi

/-! THE LAW'S OWN METHODS THAT CATCH -/
def Sw (y : MethodName) (cc : ByteArray) (nL : Nat) (hh : List (Nat × Nat × Nat × Nat)) (fr lo mc ms : Nat) (args : List Value) (n : Nat) (sh : mS) (G : mG) (I : mI) (J : mJ) (Q : Option Value → mI → mJ → Prop) : Prop :=
  ∀ (l : Launch) (D : va_G) (cA : Nat → ClassId) (ad : Nat → Nat) (sz : Nat), l.stackTraces = false → vx_Met l y (.codeWith y cc nL (some .int) hh :: TT) { frames := fr, cells := mc, slots := ms, locals := lo } (gPc D cA ad n sz sh G I J args) (mQ D cA ad n sh G (mA ad n sz) Q) (mX D cA ad n sh G (mA ad n sz) nX) mc ms (mA ad n sz)
def wI (hh : List (Nat × Nat × Nat × Nat)) : gCtx := fun _ _ _ _ _ meth c _ _ => meth.sig.returnType = some .int ∧ c.exceptionTable.toList = tableOf hh
def wO (n mc ms : Nat) (sh : mS) (G : mG) (Q : Option Value → mI → mJ → Prop) : gPost := fun D cA ad0 A below args s => vx_MQ below (mQ D cA ad0 n sh G A Q) (mX D cA ad0 n sh G A nX) args s mc ms A
theorem Sw.of {y : MethodName} {cc : ByteArray} {nL : Nat} {hh : List (Nat × Nat × Nat × Nat)} {fr lo mc ms : Nat} {args : List Value} {n : Nat} {sh : mS} {G : mG} {I : mI} {J : mJ} {Q : Option Value → mI → mJ → Prop} (hy : plainName y.cls = true) {ls : List (Nat × Value)}
    (hl : ∀ ad : Nat → Nat, lv_args 0 (args.map (mz ad)) = ls.map (mzp ad)) (hn : ∀ ad : Nat → Nat, (lg_sl (args.map (mz ad))).length ≤ nL)
    (h : Gj (wI hh) (wO n mc ms sh G Q) y.cls cc nL fr lo mc ms 1000 n sh G mc ms 0 ls [] I J) : Sw y cc nL hh fr lo mc ms args n sh G I J Q := by
  intro l D cA ad sz hfl
  refine vx_ofWH (cc := cc) (maxL := nL) (ret := some .int) (hh := hh) hy rfl ?_
  intro p e s m args' below meth c s₁ B hml hv
  obtain ⟨⟨rfl, hsz, hP, hD, hK, hB⟩, hC⟩ := hv
  subst hsz
  have hts := atoms_spec (ws := Cond.codeWith y cc nL (some .int) hh :: TT) B.pre
  have hxt := vx_table (x := y) B (hts _ List.mem_cons_self)
  have hown : s.vm.findClass y.cls = some m.cls := findClass_of_methodNamed B.named
  have hA : ∀ q : Nat, s.heap.size ≤ q → mA ad n s.heap.size q := fun q hq => Or.inr hq
  have hD2 : va_D (mA ad n s.heap.size) (mws cA ad n sh I J G) := hD.weaken (fun k q hk _ => by
    obtain ⟨h1, h2⟩ := mws_inv hk
    exact Or.inl ⟨k, h1, by rw [h2]⟩)
  have hl0 := lv_entry (args.map (mz ad)) (n := nL) (hn ad)
  rw [lg_entry_eq]
  refine h p l e _ s m _ below meth c s.heap [] 0 0 _ D cA ad ad (mA ad n s.heap.size) hfl ⟨B.returns, hxt⟩ agr.rf ⟨B.exec, B.bytes, hml, hown, fun w hw => hts w (List.mem_cons_of_mem _ hw)⟩ B.notSynchronized ⟨Nat.le_refl _, Nat.le_refl _, Nat.le_refl _, Nat.le_refl _⟩ (by omega) (by omega) hA hB hC va_S.rf hP hD2 hK ?_
  rw [← hl ad]
  exact hl0
theorem BG.exw {ad : Nat → Nat} {A : Nat → Prop} {U : State} {H : Heap} (h : BG ad A U H) {w : Cond} (hw : w ∈ exW) {args : Array Value} : w.before args U = true := exW_moved (Vm.Alike.refl U.vm) hw (h.2.2.2.2.2.2.1 w hw)
def Ah (cc : ByteArray) (h i nx : Nat) : Prop := (∃ kf : Fin 4, decode cc h = .ok (.astore_n kf, 1) ∧ (kf : Nat) = i ∧ h + 1 = nx) ∨ (decode cc h = .ok (.astore i, 2) ∧ h + 2 = nx)
section WRAP
variable {Γ : gCtx} {Φ : gPost} {own : String} {cc : ByteArray} {nL pc b : Nat} {ls ls' : List (Nat × Value)} {st rest : List Value}
variable {fr lo mc ms n0 n kc ks : Nat} {sh : mS} {G : mG} {I : mI} {J : mJ}
variable {y : MethodName} {cb : ByteArray} {nb : Nat} {rb : Option FieldType} {fr' lo' mc' ms' nA : Nat} {As As' : List Value} {Qs : Option Value → mI → mJ → Prop}
/-- a handler begins: the thing thrown is kept in a local that nobody reads -/
theorem w_ast {p : Program} {l : Launch} {e : Env} {R : Room} {s : State} {m : MethodId} {args : Array Value} {below : List Frame} {meth : Method} {c : Code} {H : Heap} {locs : List Jvm.Loc} {cells slots : Nat} {la : Array Slot} {ad : Nat → Nat} {Q : State → Prop} {h i nx q : Nat}
    (S : CallFix p m c cc nL s args TT own) (ha : Ah cc h i nx) (hi : i < nL) (hls : ∀ q ∈ ls, q.1 < i ∧ ¬ (q.1 + 1 = i ∧ q.2.category = 2)) (hl : lv_has la nL (ls.map (mzp ad)))
    (kk : ∀ la', lv_has la' nL (ls.map (mzp ad)) → W p l e R s m args below meth c H locs cells slots Q (F0 m nx la' [])) : W p l e R s m args below meth c H locs cells slots Q (F0 m h la [.ref q]) := by
  have hf : (i, Value.ref q) :: List.filter (fun q => !q.fst == i && !(q.fst + 1 == i && q.snd.category == 2)) (ls.map (mzp ad)) = (i, Value.ref q) :: ls.map (mzp ad) := by
    congr 1
    refine List.filter_eq_self.mpr (fun x hx => ?_)
    obtain ⟨z, hz, rfl⟩ := List.mem_map.mp hx
    obtain ⟨z1, z2⟩ := hls z hz
    have e1 : (mzp ad z).1 = z.1 := rfl
    have e2 : (mzp ad z).2.category = z.2.category := mz_cat ad z.2
    rw [e1, e2]
    have n1 : (z.1 == i) = false := by simp; omega
    have n2 : (z.1 + 1 == i && z.2.category == 2) = false := by
      cases q : (z.1 + 1 == i && z.2.category == 2) with
      | false => rfl
      | true =>
        rw [Bool.and_eq_true] at q
        exact absurd ⟨eq_of_beq q.1, eq_of_beq q.2⟩ z2
    simp only [n1, n2]
    rfl
  have drop : ∀ la', lv_has la' nL ((i, Value.ref q) :: ls.map (mzp ad)) → lv_has la' nL (ls.map (mzp ad)) := fun la' h => ⟨h.1, h.2.1, fun q hq => h.2.2 q (List.mem_cons_of_mem _ hq)⟩
  rcases ha with ⟨kf, d1, d2, rfl⟩ | ⟨d1, rfl⟩
  · exact lv_astore_n S.1 S.2.1 d1 d2 hl hi hf (fun la' hl' => kk la' (drop la' hl'))
  · exact lv_astore S.1 S.2.1 d1 hl hi hf (fun la' hl' => kk la' (drop la' hl'))
theorem w_callV {hh tl : List (Nat × Nat × Nat × Nat)} {e1 h1 h2 i nx1 nx2 : Nat} {code : Int32} {ix ci N d : Nat} {C : String} {T : u_T} (hs : Sp y cb nb rb fr' lo' mc' ms' (.ref d :: As') n sh G I J Qs (eX code I J)) (hw : cw own ix y cb nb rb nA) (hin : Cond.instanceMethod y ∈ TT) (hsel : Cond.selects C y y ∈ TT) (hcl : vwCl[ci]? = some (C, T, N)) (hid : d < n) (hsh : sh d = .inl (ci, N)) (hd : decode cc pc = .ok (.invokevirtual ix, 3)) (hn : As'.length = nA) (hstk : st = As'.reverse ++ .ref d :: rest) (hcat : (rest.map fun v => v.category).sum ≤ 8) (hroom : fr' + 1 ≤ fr ∧ nb + 19 + lo' ≤ lo ∧ mc' ≤ kc ∧ ms' ≤ ks) (hb : pc + 3 = b)
    (hhh : hh = (0, e1, h1, 13) :: tl) (hpc : pc < e1) (hi : i < nL) (hls : ∀ q ∈ ls, q.1 < i ∧ ¬ (q.1 + 1 = i ∧ q.2.category = 2)) (hl13 : Cond.classLink own 13 bIA ∈ TT) (hl40 : Cond.classLink own 40 bIB ∈ TT)
    (k1 : code = 1 → Ah cc h1 i nx1 ∧ Gj (wI hh) Φ own cc nL fr lo mc ms n0 n sh G (kc - mc') (ks - ms') nx1 ls [] I J)
    (k2 : code = 2 → tl = [(0, e1, h2, 40)] ∧ Ah cc h2 i nx2 ∧ Gj (wI hh) Φ own cc nL fr lo mc ms n0 n sh G (kc - mc') (ks - ms') nx2 ls [] I J)
    (kk : ∀ (r : Option Value) (I1 : mI) (J1 : mJ), Qs r I1 J1 → Gj (wI hh) Φ own cc nL fr lo mc ms n0 n sh G (kc - mc') (ks - ms') b ls (r.toList ++ rest) I1 J1) : Gj (wI hh) Φ own cc nL fr lo mc ms n0 n sh G kc ks pc ls st I J := by
  intro p l e R s m args below meth c H locs cells slots la D cA ad0 ad A hfl hΓ hag S hlk hR hkc hks hA hB hC hS hP hD hK hl
  subst hb
  subst hstk
  obtain ⟨g1, g2, g3, g4⟩ := hroom
  have hrun := vx_runV (H := H) (locs := locs) (cells := cells) (slots := slots) (l := l) (e := e) (R := R) (below := below) (meth := meth) (C := C) (b := ad d) (g := F0 m pc la ((As'.reverse ++ .ref d :: rest).map (mz ad))) (As := As'.map (mz ad)) (rest := rest.map (mz ad)) (n := nA) S (hs l D cA ad H.size hfl) ⟨cw_B (rm := { frames := fr', cells := mc', slots := ms', locals := lo' }) hw rfl S.2.2.2.2 ⟨Nat.le_trans g1 hR.1, by show 8 + (nb + 11) + lo' ≤ R.locals; omega⟩, S.2.2.2.2 _ hin, S.2.2.2.2 _ hsel⟩ ⟨mPc_blind, va_recv hK hP (q0 := d) (ci := ci) hcl (by rw [mws_at hid, mcell_o hsh]), fun U hU hW => mPre (As := .ref d :: As') hS hP hD hK hB hA hU hW⟩ rfl (by rw [List.length_map]; exact hn) hl.1 (by simp [mz]) (by simpa [JFrame.monitorRoom, Function.comp_def, mz_cat] using hcat) hd ⟨by omega, by omega⟩
  have hsub := mA_le hD hS hA
  intro T hT X0
  rcases hrun T hT X0 with ⟨v, st₀, t, T', L, h0, X', hL, q1, q2, ⟨⟨r, I1, J1, hv, hq, hP1, hD1, hK1⟩, hF⟩, stp⟩ | ⟨q, st₀, t, T', L, E, ce, h0, X', hL, q1, q2, ⟨⟨I1, J1, ⟨hE, hI, hJ⟩, hP1, hD1, hK1⟩, hF⟩, hce, hcv, hcl2, stp⟩
  · cases hv
    obtain ⟨f1, f2, f3⟩ := vx_keep h0 q1 hS (fun q _ h => hsub q h) hsub hL hF
    have hal : s.vm.Alike t.vm := by rw [← q2]; exact X'.warmed.alike
    obtain ⟨t2, a1, b1⟩ := kk r I1 J1 hq p l e R s m args below meth c T'.heap (locs ++ L) (cells + mc') (slots + ms') la D cA ad0 ad A hfl hΓ hag S hlk hR (by omega) (by omega) hA hB hC f3 (by rw [q1]; exact hP1) (hD1.weaken (fun _ q _ h => hsub q.1 h)) (va_K.moved hal.symm hK1) hl T' rfl X'
    refine ⟨t2, stp t2 ?_, b1⟩
    have he : (Option.map (mz ad) r).toList ++ rest.map (mz ad) = (r.toList ++ rest).map (mz ad) := by cases r <;> simp
    rw [he]
    exact a1
  · subst hI
    subst hJ
    obtain ⟨f1, f2, f3⟩ := vx_keep h0 q1 hS (fun q _ h => hsub q h) hsub hL hF
    have hal : s.vm.Alike t.vm := by rw [← q2]; exact X'.warmed.alike
    have hK2 := va_K.moved hal.symm hK1
    have hP2 : va_P D vwCl (mws cA ad n sh I J G) T'.heap := by rw [q1]; exact hP1
    have hD2 := hD1.weaken (B := A) (fun _ q _ h => hsub q.1 h)
    have hce2 : T'.heap[q]? = some ce := by rw [q1]; exact hce
    rcases hE with ⟨rfl, hc⟩ | ⟨rfl, hc⟩
    · obtain ⟨ha, kg⟩ := k1 hc
      obtain ⟨t2, a1, b1⟩ := vx_catch (p := p) (l := l) (e := e) (R := R) (s := s) (m := m) (args := args) (below := below) (meth := meth) (c := c) (H := T'.heap) (locs := locs ++ L) (cells := cells + mc') (slots := slots + ms') (Q := Φ D cA ad0 A below args s) (pc := pc) (ls := la) (rest := rest.map (mz ad)) (own := own) (name := bIA) (E := bIA) (ce := ce) (q := q) S.2.2.2.1 [] { startPc := 0, endPc := e1, handlerPc := h1, catchType := 13 } (tableOf tl) (by rw [hΓ.2, hhh]; rfl) (fun z hz => absurd hz List.not_mem_nil) (by simp [covers]; exact hpc) (by show (13 : Nat) ≠ 0; decide) (S.2.2.2.2 _ hl13) (hB.exw (by simp [exW])) hce2 hcv hcl2
        (w_ast S ha hi hls hl (fun la' hl' => kg p l e R s m args below meth c T'.heap (locs ++ L) (cells + mc') (slots + ms') la' D cA ad0 ad A hfl hΓ hag S hlk hR (by omega) (by omega) hA hB hC f3 hP2 hD2 hK2 hl')) T' rfl X'
      exact ⟨t2, stp.trans a1, b1⟩
    · obtain ⟨htl, ha, kg⟩ := k2 hc
      obtain ⟨t2, a1, b1⟩ := vx_catch (p := p) (l := l) (e := e) (R := R) (s := s) (m := m) (args := args) (below := below) (meth := meth) (c := c) (H := T'.heap) (locs := locs ++ L) (cells := cells + mc') (slots := slots + ms') (Q := Φ D cA ad0 A below args s) (pc := pc) (ls := la) (rest := rest.map (mz ad)) (own := own) (name := bIB) (E := bIB) (ce := ce) (q := q) S.2.2.2.1 [{ startPc := 0, endPc := e1, handlerPc := h1, catchType := 13 }] { startPc := 0, endPc := e1, handlerPc := h2, catchType := 40 } [] (by rw [hΓ.2, hhh, htl]; rfl) (fun z hz => Or.inr (by
          rw [List.mem_singleton.mp hz]
          exact ⟨by show (13 : Nat) ≠ 0; decide, bIA, S.2.2.2.2 _ hl13, hB.2.2.2.2.2.2.2⟩)) (by simp [covers]; exact hpc) (by show (40 : Nat) ≠ 0; decide) (S.2.2.2.2 _ hl40) (hB.exw (by simp [exW])) hce2 hcv hcl2
        (w_ast S ha hi hls hl (fun la' hl' => kg p l e R s m args below meth c T'.heap (locs ++ L) (cells + mc') (slots + ms') la' D cA ad0 ad A hfl hΓ hag S hlk hR (by omega) (by omega) hA hB hC f3 hP2 hD2 hK2 hl')) T' rfl X'
      exact ⟨t2, stp.trans a1, b1⟩
theorem w_iret {hh : List (Nat × Nat × Nat × Nat)} {Q : Option Value → mI → mJ → Prop} {v : Int32} (hd : decode cc pc = .ok (.ireturn, 1)) (hq : Q (some (.int v)) I J) : Gj (wI hh) (wO n mc ms sh G Q) own cc nL fr lo mc ms 1000 n sh G kc ks pc ls [.int v] I J := by
  intro p l e R s m args below meth c H locs cells slots la D cA ad0 ad A hfl hΓ hag S hlk hR hkc hks hA hB hC hS hP hD hK hl
  have hae : ad = ad0 := funext fun k => hag k (by omega)
  subst hae
  refine W.widen (k := mc) (n := ms) (by omega) (by omega) (vx_ret ?_)
  exact W.zret S.1 S.2.1 hΓ.1 rfl (fun t ht hW => ⟨⟨some (.int v), I, J, rfl, hq, by rw [ht]; exact hP, hD, va_K.moved hW.alike hK⟩, hS.F ht⟩) hS.2.2 hd hlk
/-- what a call of such a method needs of the tables -/
def cwW (own : String) (ix : Nat) (y : MethodName) (cb : ByteArray) (nb : Nat) (hh : List (Nat × Nat × Nat × Nat)) (nA : Nat) : Prop :=
  Cond.codeWith y cb nb (some .int) hh ∈ TT ∧ Cond.methodLink own ix y ∈ TT ∧ Cond.initialized y.cls ∈ TT ∧ Cond.static y ∈ TT ∧ (y.cls ≠ "java/lang/invoke/MethodHandle" ∧ y.cls ≠ "java/lang/invoke/VarHandle") ∧ (parseMethodDescriptor y.desc).map (fun d => d.parameters.length) = some nA
theorem codeW_in {hh : List (Nat × Nat × Nat × Nat)} (h : Cond.codeWith y cb nb (some .int) hh ∈ TT) : GoodIn TT (.codeWith y cb nb (some .int) hh :: TT) := fun w hw => (List.mem_cons.mp hw).elim (fun e => by rw [e]; exact TT_good _ h) (fun h => TT_good _ h)
theorem g_callW {hh : List (Nat × Nat × Nat × Nat)} {ix : Nat} (hs : Sw y cb nb hh fr' lo' mc' ms' As n sh G I J Qs) (hw : cwW own ix y cb nb hh nA) (hd : decode cc pc = .ok (.invokestatic ix, 3)) (hn : As.length = nA) (hstk : st = As.reverse ++ rest) (hcat : (rest.map fun v => v.category).sum ≤ 8) (hroom : fr' + 1 ≤ fr ∧ nb + 19 + lo' ≤ lo ∧ mc' ≤ kc ∧ ms' ≤ ks) (hb : pc + 3 = b)
    (kk : ∀ (r : Option Value) (I1 : mI) (J1 : mJ), Qs r I1 J1 → Gj Γ Φ own cc nL fr lo mc ms n0 n sh G (kc - mc') (ks - ms') b ls (r.toList ++ rest) I1 J1) : Gj Γ Φ own cc nL fr lo mc ms n0 n sh G kc ks pc ls st I J := by
  intro p l e R s m args below meth c H locs cells slots la D cA ad0 ad A hfl hΓ hag S hlk hR hkc hks hA hB hC hS hP hD hK hl
  subst hb
  subst hstk
  obtain ⟨g1, g2, g3, g4⟩ := hroom
  obtain ⟨w1, w2, w3, w4, w5, w6⟩ := hw
  have hrun := vx_runSX (hh := hh) (H := H) (locs := locs) (cells := cells) (slots := slots) (l := l) (e := e) (R := R) (below := below) (meth := meth) (g := F0 m pc la ((As.reverse ++ rest).map (mz ad))) (As := As.map (mz ad)) (rest := rest.map (mz ad)) (n := nA) S (hs l D cA ad H.size hfl) ⟨⟨rfl, rfl, by show fr' + 1 ≤ R.frames; omega, by show 8 + (nb + 11) + lo' ≤ R.locals; omega, pay_in S.2.2.2.2 (codeW_in w1), List.mem_cons_self⟩, S.2.2.2.2 _ w1, S.2.2.2.2 _ w3, w5, fun sig h => by rw [h] at w6; exact (Option.some.inj w6).symm, S.2.2.2.2 _ w2, S.2.2.2.2 _ w4⟩ ⟨gPc_blind, fun U hU hW => ⟨mPre hS hP hD hK hB hA hU hW, hC.moved hW⟩⟩ rfl (by rw [List.length_map]; exact hn) hl.1 (by simp) (by simpa [JFrame.monitorRoom, Function.comp_def, mz_cat] using hcat) hd ⟨by omega, by omega⟩
  exact gs_after hrun hfl hΓ hag S hlk hR hkc hks g3 g4 hA hB hC hS hP hD hK hl kk
end WRAP

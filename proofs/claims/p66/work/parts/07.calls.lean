/-! CALLS over the small machine: the whole world goes into the callee's contract and comes back -/
theorem code_in {y : MethodName} {cc : ByteArray} {nL : Nat} {ret : Option FieldType} (h : Cond.code y cc nL ret ∈ TT) : GoodIn TT (.code y cc nL ret :: TT) := fun w hw => (List.mem_cons.mp hw).elim (fun e => by rw [e]; exact TT_good _ h) (fun h => TT_good _ h)
theorem mA_le {ad : Nat → Nat} {n : Nat} {cA : Nat → ClassId} {sh : mS} {I : mI} {J : mJ} {G : mG} {A : Nat → Prop} {H0 H : Heap} {locs : List Loc} (hD : va_D A (mws cA ad n sh I J G)) (hS : va_S A H0 H locs) (hA : ∀ q, H0.size ≤ q → A q) : ∀ q, mA ad n H.size q → A q := by
  intro q hq
  rcases hq with ⟨k, hk, rfl⟩ | hq
  · exact hD.2 k _ (mws_at hk)
  · exact hA q (Nat.le_trans hS.1 hq)
section CALLS
variable {p : Program} {l : Launch} {e : Env} {R : Room} {s : State} {m : MethodId} {args : Array Value} {below : List Frame} {meth : Method} {c : Code} {H : Heap} {locs : List Loc} {cells slots : Nat} {la : Array Slot} {D : va_G} {cA : Nat → ClassId} {ad : Nat → Nat} {A : Nat → Prop}
variable {own : String} {cc : ByteArray} {nL pc b : Nat} {ls ls' : List (Nat × Value)} {st rest : List Value}
variable {ret : Option FieldType} {fr lo mc ms n kc ks : Nat} {sh : mS} {G : mG} {Q : Option Value → mI → mJ → Prop} {X : String → mI → mJ → Prop} {I : mI} {J : mJ}
variable {y : MethodName} {cb : ByteArray} {nb : Nat} {rb : Option FieldType} {fr' lo' mc' ms' nA : Nat} {As : List Value} {Q' : Option Value → mI → mJ → Prop} {X' : String → mI → mJ → Prop}
theorem mPre {U : State} (hS : va_S A s.heap H locs) (hP : va_P D vwCl (mws cA ad n sh I J G) H) (hD : va_D A (mws cA ad n sh I J G)) (hK : va_K D vwCl (mtys cA) s) (hB : BG ad A s s.heap) (hA : ∀ q, s.heap.size ≤ q → A q) (hU : U.heap = H) (hW : s.WarmedH U.vm) : mPc D cA ad n H.size sh G I J As (As.map (mz ad)).toArray U := by
  refine ⟨rfl, by rw [hU], by rw [hU]; exact hP, hD.weaken (fun _ _ _ _ => trivial), va_K.moved hW.alike hK, ?_⟩
  rw [hU]
  exact ((hB.kept hS.2.1).moved hW).narrow (mA_le hD hS hA)
theorem rc_after {st0 : List Value} (hrun : vx_Run p l e R s m args below meth c H locs cells slots mc' ms' (F0 m pc la st0) (rest.map (mz ad)) (mQ D cA ad n sh G (mA ad n H.size) Q' (As.map (mz ad)).toArray) (mX D cA ad n sh G (mA ad n H.size) X') (mA ad n H.size))
    (hfl : l.stackTraces = false) (S : CallFix p m c cc nL s args TT own) (hr : meth.sig.returnType = ret) (hlk : meth.locks = false) (hxt : ∀ x ∈ c.exceptionTable.toList, False) (hR : fr ≤ R.frames ∧ lo ≤ R.locals ∧ mc ≤ R.cells ∧ ms ≤ R.slots) (hkc : cells + kc ≤ mc) (hks : slots + ks ≤ ms) (hmc : mc' ≤ kc) (hms : ms' ≤ ks)
    (hA : ∀ q, s.heap.size ≤ q → A q) (hB : BG ad A s s.heap) (hS : va_S A s.heap H locs) (hP : va_P D vwCl (mws cA ad n sh I J G) H) (hD : va_D A (mws cA ad n sh I J G)) (hK : va_K D vwCl (mtys cA) s) (hl : lv_has la nL (ls.map (mzp ad)))
    (kx : ∀ (E : String) (I1 : mI) (J1 : mJ), X' E I1 J1 → X E I1 J1)
    (kk : ∀ (r : Option Value) (I1 : mI) (J1 : mJ), Q' r I1 J1 → Rc own cc nL ret fr lo mc ms n sh G Q X (kc - mc') (ks - ms') (pc + 3) ls (r.toList ++ rest) I1 J1) :
    W p l e R s m args below meth c H locs cells slots (vx_MQ below (mQ D cA ad n sh G A Q) (mX D cA ad n sh G A X) args s mc ms A) (F0 m pc la st0) := by
  have hsub := mA_le hD hS hA
  intro T hT X0
  rcases hrun T hT X0 with ⟨v, st₀, t, T', L, h0, X', hL, e1, e2, ⟨⟨r, I1, J1, hv, hq, hP1, hD1, hK1⟩, hF⟩, stp⟩ | ⟨q, st₀, t, T', L, E, ce, h0, X', hL, e1, e2, ⟨⟨I1, J1, hx, hP1, hD1, hK1⟩, hF⟩, hce, hcv, hcl, stp⟩
  · cases hv
    obtain ⟨k1, k2, k3⟩ := vx_keep h0 e1 hS (fun q _ h => hsub q h) hsub hL hF
    have hal : s.vm.Alike t.vm := by rw [← e2]; exact X'.warmed.alike
    obtain ⟨t2, a1, b1⟩ := kk r I1 J1 hq p l e R s m args below meth c T'.heap (locs ++ L) (cells + mc') (slots + ms') la D cA ad A hfl S hr hlk hxt hR (by omega) (by omega) hA hB k3 (by rw [e1]; exact hP1) (hD1.weaken (fun _ q _ h => hsub q.1 h)) (va_K.moved hal.symm hK1) hl T' rfl X'
    refine ⟨t2, stp t2 ?_, b1⟩
    have he : (Option.map (mz ad) r).toList ++ rest.map (mz ad) = (r.toList ++ rest).map (mz ad) := by cases r <;> simp
    rw [he]
    exact a1
  · obtain ⟨k1, k2, k3⟩ := vx_keep h0 e1 hS (fun q _ h => hsub q h) hsub hL hF
    have hal : s.vm.Alike t.vm := by rw [← e2]; exact X'.warmed.alike
    have hK2 := va_K.moved hal.symm hK1
    obtain ⟨t2, a1, b1⟩ := vx_out (p := p) (l := l) (e := e) (R := R) (s := s) (m := m) (args := args) (below := below) (meth := meth) (c := c) (H := T'.heap) (locs := locs ++ L) (cells := cells + mc') (slots := slots + ms') (pc := pc) (ls := la) (rest := rest.map (mz ad)) (E := E) (ce := ce) (q := q) (mc := mc) (ms := ms) (free := A) (Qc := mQ D cA ad n sh G A Q) (XC := mX D cA ad n sh G A X)
      (fun x hx => (hxt x hx).elim) hlk (by rw [e1]; exact hce) hcv hcl (fun t' ht' hal' => ⟨⟨I1, J1, kx E I1 J1 hx, by rw [ht', e1]; exact hP1, hD1.weaken (fun _ q _ h => hsub q.1 h), va_K.moved hal' hK2⟩, k3.F ht'⟩) k3.2.2 (by omega) (by omega) T' rfl X'
    exact ⟨t2, stp.trans a1, b1⟩
/-- what a call needs of the tables -/
def cw (own : String) (ix : Nat) (y : MethodName) (cb : ByteArray) (nb : Nat) (rb : Option FieldType) (nA : Nat) : Prop :=
  Cond.code y cb nb rb ∈ TT ∧ Cond.methodLink own ix y ∈ TT ∧ Cond.initialized y.cls ∈ TT ∧ (y.cls ≠ "java/lang/invoke/MethodHandle" ∧ y.cls ≠ "java/lang/invoke/VarHandle" ∧ (parseMethodDescriptor y.desc).map (fun d => d.parameters.length) = some nA)
theorem cw_B {rm : Room} {ix : Nat} {wl : List Cond} (h : cw own ix y cb nb rb nA) (hw : wl = Cond.code y cb nb rb :: TT) (hts : ∀ w ∈ TT, w.before args s = true) (hR : rm.frames + 1 ≤ R.frames ∧ 8 + (nb + 11) + rm.locals ≤ R.locals) : CallB R s args own ix y cb nb rb wl rm rm.cells rm.slots nA := by
  obtain ⟨h1, h2, h3, h4⟩ := h
  subst hw
  exact callB_of nA hts (code_in h1) rfl rfl rfl (hts _ h3) (hts _ h2) h4 hR
theorem r_callS {ix : Nat} (hs : Sp y cb nb rb fr' lo' mc' ms' As n sh G I J Q' X') (hw : cw own ix y cb nb rb nA) (hst : Cond.static y ∈ TT) (hd : decode cc pc = .ok (.invokestatic ix, 3)) (hn : As.length = nA) (hstk : st = As.reverse ++ rest) (hcat : (rest.map fun v => v.category).sum ≤ 8) (hroom : fr' + 1 ≤ fr ∧ nb + 19 + lo' ≤ lo ∧ mc' ≤ kc ∧ ms' ≤ ks) (hb : pc + 3 = b)
    (kx : ∀ (E : String) (I1 : mI) (J1 : mJ), X' E I1 J1 → X E I1 J1)
    (kk : ∀ (r : Option Value) (I1 : mI) (J1 : mJ), Q' r I1 J1 → Rc own cc nL ret fr lo mc ms n sh G Q X (kc - mc') (ks - ms') b ls (r.toList ++ rest) I1 J1) : Rc own cc nL ret fr lo mc ms n sh G Q X kc ks pc ls st I J := by
  intro p l e R s m args below meth c H locs cells slots la D cA ad A hfl S hr hlk hxt hR hkc hks hA hB hS hP hD hK hl
  subst hb
  subst hstk
  obtain ⟨g1, g2, g3, g4⟩ := hroom
  have hrun := vx_runS (H := H) (locs := locs) (cells := cells) (slots := slots) (l := l) (e := e) (R := R) (below := below) (meth := meth) (g := F0 m pc la ((As.reverse ++ rest).map (mz ad))) (As := As.map (mz ad)) (rest := rest.map (mz ad)) (n := nA) S (hs l D cA ad H.size hfl) ⟨cw_B (rm := { frames := fr', cells := mc', slots := ms', locals := lo' }) hw rfl S.2.2.2.2 ⟨Nat.le_trans g1 hR.1, by show 8 + (nb + 11) + lo' ≤ R.locals; omega⟩, S.2.2.2.2 _ hst⟩ ⟨mPc_blind, fun U hU hW => mPre hS hP hD hK hB hA hU hW⟩ rfl (by rw [List.length_map]; exact hn) hl.1 (by simp) (by simpa [JFrame.monitorRoom, Function.comp_def, mz_cat] using hcat) hd ⟨by omega, by omega⟩
  exact rc_after hrun hfl S hr hlk hxt hR hkc hks g3 g4 hA hB hS hP hD hK hl kx kk
theorem r_callV {ix ci N d : Nat} {As' : List Value} {C : String} {T : u_T} (hs : Sp y cb nb rb fr' lo' mc' ms' (.ref d :: As') n sh G I J Q' X') (hw : cw own ix y cb nb rb nA) (hin : Cond.instanceMethod y ∈ TT) (hsel : Cond.selects C y y ∈ TT) (hcl : vwCl[ci]? = some (C, T, N)) (hid : d < n) (hsh : sh d = .inl (ci, N)) (hd : decode cc pc = .ok (.invokevirtual ix, 3)) (hn : As'.length = nA) (hstk : st = As'.reverse ++ .ref d :: rest) (hcat : (rest.map fun v => v.category).sum ≤ 8) (hroom : fr' + 1 ≤ fr ∧ nb + 19 + lo' ≤ lo ∧ mc' ≤ kc ∧ ms' ≤ ks) (hb : pc + 3 = b)
    (kx : ∀ (E : String) (I1 : mI) (J1 : mJ), X' E I1 J1 → X E I1 J1)
    (kk : ∀ (r : Option Value) (I1 : mI) (J1 : mJ), Q' r I1 J1 → Rc own cc nL ret fr lo mc ms n sh G Q X (kc - mc') (ks - ms') b ls (r.toList ++ rest) I1 J1) : Rc own cc nL ret fr lo mc ms n sh G Q X kc ks pc ls st I J := by
  intro p l e R s m args below meth c H locs cells slots la D cA ad A hfl S hr hlk hxt hR hkc hks hA hB hS hP hD hK hl
  subst hb
  subst hstk
  obtain ⟨g1, g2, g3, g4⟩ := hroom
  have hrun := vx_runV (H := H) (locs := locs) (cells := cells) (slots := slots) (l := l) (e := e) (R := R) (below := below) (meth := meth) (C := C) (b := ad d) (g := F0 m pc la ((As'.reverse ++ .ref d :: rest).map (mz ad))) (As := As'.map (mz ad)) (rest := rest.map (mz ad)) (n := nA) S (hs l D cA ad H.size hfl) ⟨cw_B (rm := { frames := fr', cells := mc', slots := ms', locals := lo' }) hw rfl S.2.2.2.2 ⟨Nat.le_trans g1 hR.1, by show 8 + (nb + 11) + lo' ≤ R.locals; omega⟩, S.2.2.2.2 _ hin, S.2.2.2.2 _ hsel⟩ ⟨mPc_blind, va_recv hK hP (q0 := d) (ci := ci) hcl (by rw [mws_at hid, mcell_o hsh]), fun U hU hW => mPre (As := .ref d :: As') hS hP hD hK hB hA hU hW⟩ rfl (by rw [List.length_map]; exact hn) hl.1 (by simp [mz]) (by simpa [JFrame.monitorRoom, Function.comp_def, mz_cat] using hcat) hd ⟨by omega, by omega⟩
  exact rc_after (As := .ref d :: As') hrun hfl S hr hlk hxt hR hkc hks g3 g4 hA hB hS hP hD hK hl kx kk
/-- Math.min, Math.max: rows of the kit -/
theorem r_mmin {ix : Nat} {x y v : Int32} (h1 : Cond.methodLink own ix Lib.Math.min.name ∈ TT) (h2 : Cond.static Lib.Math.min.name ∈ TT) (h3 : Cond.initialized "java/lang/Math" ∈ TT) (h4 : Cond.code Lib.Math.min.name Lib.Math.min.code 2 (some .int) ∈ TT) (hd : decode cc pc = .ok (.invokestatic ix, 3)) (hroom : 1 ≤ fr ∧ (st.map fun v => v.category).sum + 13 ≤ lo) (hv : (if y < x then y else x) = v) (hb : pc + 3 = b) (kk : Rc own cc nL ret fr lo mc ms n sh G Q X kc ks b ls (.int v :: st) I J) : Rc own cc nL ret fr lo mc ms n sh G Q X kc ks pc ls (.int y :: .int x :: st) I J := by
  intro p l e R s m args below meth c H locs cells slots la D cA ad A hfl S hr hlk hxt hR hkc hks hA hB hS hP hD hK hl
  subst hb
  subst hv
  exact va_mmin S.1 S.2.1 (S.2.2.1.trans hl.1.symm) S.2.2.2.1 (S.2.2.2.2 _ h1) (S.2.2.2.2 _ h2) (S.2.2.2.2 _ h3) (S.2.2.2.2 _ h4) (Nat.le_trans hroom.1 hR.1) (Nat.le_trans (by simpa [Function.comp_def, mz_cat] using hroom.2) hR.2.1) (by omega) (by omega) hd (kk p l e R s m args below meth c H locs cells slots la D cA ad A hfl S hr hlk hxt hR hkc hks hA hB hS hP hD hK hl)
theorem r_mmax {ix : Nat} {x y v : Int32} (h1 : Cond.methodLink own ix Lib.Math.max.name ∈ TT) (h2 : Cond.static Lib.Math.max.name ∈ TT) (h3 : Cond.initialized "java/lang/Math" ∈ TT) (h4 : Cond.code Lib.Math.max.name Lib.Math.max.code 2 (some .int) ∈ TT) (hd : decode cc pc = .ok (.invokestatic ix, 3)) (hroom : 1 ≤ fr ∧ (st.map fun v => v.category).sum + 13 ≤ lo) (hv : (if x < y then y else x) = v) (hb : pc + 3 = b) (kk : Rc own cc nL ret fr lo mc ms n sh G Q X kc ks b ls (.int v :: st) I J) : Rc own cc nL ret fr lo mc ms n sh G Q X kc ks pc ls (.int y :: .int x :: st) I J := by
  intro p l e R s m args below meth c H locs cells slots la D cA ad A hfl S hr hlk hxt hR hkc hks hA hB hS hP hD hK hl
  subst hb
  subst hv
  exact va_mmax S.1 S.2.1 (S.2.2.1.trans hl.1.symm) S.2.2.2.1 (S.2.2.2.2 _ h1) (S.2.2.2.2 _ h2) (S.2.2.2.2 _ h3) (S.2.2.2.2 _ h4) (Nat.le_trans hroom.1 hR.1) (Nat.le_trans (by simpa [Function.comp_def, mz_cat] using hroom.2) hR.2.1) (by omega) (by omega) hd (kk p l e R s m args below meth c H locs cells slots la D cA ad A hfl S hr hlk hxt hR hkc hks hA hB hS hP hD hK hl)
end CALLS

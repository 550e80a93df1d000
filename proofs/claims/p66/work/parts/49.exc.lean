/-! EXCEPTIONS: what throws one by new E("text") -/
abbrev bCh : List String := ["java/lang/RuntimeException", "java/lang/Exception"]
set_option maxRecDepth 10000 in
set_option maxHeartbeats 4000000 in
theorem atIA : ∀ w, w ∈ vx_atS "TwinBoot" 268 bIA bCh → w ∈ TT ∨ w ∈ exW := by
  intro w hw
  obtain ⟨hw, hn⟩ := List.mem_filter.mp hw
  simp only [Bundle.ownAtoms, Bundle.throwableAtoms, Bundle.throwableSAtoms, Bundle.chainSAtoms, Bundle.passSAtoms, List.cons_append, List.nil_append, List.append_assoc, List.mem_cons, List.not_mem_nil, or_false] at hw
  rcases hw with rfl | rfl | rfl | rfl | rfl | rfl | rfl | rfl | rfl | rfl | rfl | rfl | rfl | rfl | rfl | rfl | rfl | rfl | rfl | rfl | rfl | rfl | rfl | rfl | rfl | rfl | rfl | rfl | rfl | rfl | rfl | rfl | rfl | rfl | rfl | rfl | rfl | rfl | rfl | rfl | rfl | rfl | rfl | rfl | rfl | rfl | rfl | rfl | rfl | rfl | rfl | rfl | rfl | rfl | rfl | rfl | rfl
  · exact Or.inl (TT_of (tb1 (List.mem_of_getElem? (i := 20) rfl)) rfl)
  · exact Or.inl (TT_of (tb2 (List.mem_of_getElem? (i := 128) rfl)) rfl)
  · exact Or.inl (TT_of (tb2 (List.mem_of_getElem? (i := 137) rfl)) rfl)
  · exact Or.inl (TT_of (tb2 (List.mem_of_getElem? (i := 140) rfl)) rfl)
  · exact Or.inl (TT_of (tb2 (List.mem_of_getElem? (i := 143) rfl)) rfl)
  · exact Or.inl (TT_of (tb2 (List.mem_of_getElem? (i := 145) rfl)) rfl)
  · exact Or.inl (TT_of (tb2 (List.mem_of_getElem? (i := 129) rfl)) rfl)
  · exact Or.inl (TT_of (tb2 (List.mem_of_getElem? (i := 130) rfl)) rfl)
  · exact Or.inl (TT_of (tb1 (List.mem_of_getElem? (i := 31) rfl)) rfl)
  · exact Or.inl (TT_of (tb1 (List.mem_of_getElem? (i := 32) rfl)) rfl)
  · exact Or.inl (TT_of (tb2 (List.mem_of_getElem? (i := 131) rfl)) rfl)
  · exact Or.inl (TT_of (tb2 (List.mem_of_getElem? (i := 136) rfl)) rfl)
  · exact Or.inl (TT_of (tb2 (List.mem_of_getElem? (i := 141) rfl)) rfl)
  · exact Or.inl (TT_of (tb2 (List.mem_of_getElem? (i := 161) rfl)) rfl)
  · exact Or.inl (TT_of (tb2 (List.mem_of_getElem? (i := 118) rfl)) rfl)
  · exact Or.inl (TT_of (tb2 (List.mem_of_getElem? (i := 162) rfl)) rfl)
  · exact Or.inl (TT_of (tb2 (List.mem_of_getElem? (i := 120) rfl)) rfl)
  · exact Or.inl (TT_of (tb2 (List.mem_of_getElem? (i := 163) rfl)) rfl)
  · exact Or.inl (TT_of (tb2 (List.mem_of_getElem? (i := 122) rfl)) rfl)
  · exact Or.inl (TT_of (tb2 (List.mem_of_getElem? (i := 132) rfl)) rfl)
  · exact absurd hn (by decide +kernel)
  · exact Or.inl (TT_of (tb2 (List.mem_of_getElem? (i := 134) rfl)) rfl)
  · exact absurd hn (by decide +kernel)
  · exact Or.inl (TT_of (tb2 (List.mem_of_getElem? (i := 124) rfl)) rfl)
  · exact Or.inl (TT_of (tb2 (List.mem_of_getElem? (i := 157) rfl)) rfl)
  · exact Or.inl (TT_of (tb2 (List.mem_of_getElem? (i := 158) rfl)) rfl)
  · exact Or.inl (TT_of (tb2 (List.mem_of_getElem? (i := 160) rfl)) rfl)
  · exact Or.inl (TT_of (tb2 (List.mem_of_getElem? (i := 124) rfl)) rfl)
  · exact Or.inl (TT_of (tb2 (List.mem_of_getElem? (i := 148) rfl)) rfl)
  · exact Or.inl (TT_of (tb2 (List.mem_of_getElem? (i := 149) rfl)) rfl)
  · exact Or.inl (TT_of (tb2 (List.mem_of_getElem? (i := 150) rfl)) rfl)
  · exact Or.inl (TT_of (tb2 (List.mem_of_getElem? (i := 151) rfl)) rfl)
  · exact Or.inr (by simp [exW, bIA, bIB, Bundle.initS, Bundle.tN])
  · exact Or.inl (TT_of (tb2 (List.mem_of_getElem? (i := 151) rfl)) rfl)
  · exact Or.inl (TT_of (tb2 (List.mem_of_getElem? (i := 152) rfl)) rfl)
  · exact Or.inl (TT_of (tb2 (List.mem_of_getElem? (i := 153) rfl)) rfl)
  · exact Or.inl (TT_of (tb2 (List.mem_of_getElem? (i := 154) rfl)) rfl)
  · exact Or.inr (by simp [exW, bIA, bIB, Bundle.initS, Bundle.tN])
  · exact Or.inl (TT_of (tb2 (List.mem_of_getElem? (i := 154) rfl)) rfl)
  · exact Or.inl (TT_of (tb2 (List.mem_of_getElem? (i := 155) rfl)) rfl)
  · exact Or.inl (TT_of (tb2 (List.mem_of_getElem? (i := 156) rfl)) rfl)
  · exact Or.inl (TT_of (tb2 (List.mem_of_getElem? (i := 157) rfl)) rfl)
  · exact Or.inr (by simp [exW, bIA, bIB, Bundle.initS, Bundle.tN])
  · exact Or.inl (TT_of (tb2 (List.mem_of_getElem? (i := 147) rfl)) rfl)
  · exact Or.inl (TT_of (tb2 (List.mem_of_getElem? (i := 107) rfl)) rfl)
  · exact Or.inr (by simp [exW, bIA, bIB, Bundle.initS, Bundle.tN])
  · exact Or.inl (TT_of (tb2 (List.mem_of_getElem? (i := 115) rfl)) rfl)
  · exact Or.inl (TT_of (tb2 (List.mem_of_getElem? (i := 116) rfl)) rfl)
  · exact Or.inl (TT_of (tb2 (List.mem_of_getElem? (i := 117) rfl)) rfl)
  · exact Or.inl (TT_of (tb2 (List.mem_of_getElem? (i := 119) rfl)) rfl)
  · exact Or.inl (TT_of (tb2 (List.mem_of_getElem? (i := 121) rfl)) rfl)
  · exact Or.inl (TT_of (tb2 (List.mem_of_getElem? (i := 123) rfl)) rfl)
  · exact absurd hn (by decide +kernel)
  · exact absurd hn (by decide +kernel)
  · exact Or.inl (TT_of (tb2 (List.mem_of_getElem? (i := 127) rfl)) rfl)
  · exact Or.inl (TT_of (tb2 (List.mem_of_getElem? (i := 126) rfl)) rfl)
  · exact Or.inl (TT_of (tb2 (List.mem_of_getElem? (i := 125) rfl)) rfl)
set_option maxRecDepth 10000 in
set_option maxHeartbeats 4000000 in
theorem atIB : ∀ w, w ∈ vx_atS "TwinBoot" 275 bIB bCh → w ∈ TT ∨ w ∈ exW := by
  intro w hw
  obtain ⟨hw, hn⟩ := List.mem_filter.mp hw
  simp only [Bundle.ownAtoms, Bundle.throwableAtoms, Bundle.throwableSAtoms, Bundle.chainSAtoms, Bundle.passSAtoms, List.cons_append, List.nil_append, List.append_assoc, List.mem_cons, List.not_mem_nil, or_false] at hw
  rcases hw with rfl | rfl | rfl | rfl | rfl | rfl | rfl | rfl | rfl | rfl | rfl | rfl | rfl | rfl | rfl | rfl | rfl | rfl | rfl | rfl | rfl | rfl | rfl | rfl | rfl | rfl | rfl | rfl | rfl | rfl | rfl | rfl | rfl | rfl | rfl | rfl | rfl | rfl | rfl | rfl | rfl | rfl | rfl | rfl | rfl | rfl | rfl | rfl | rfl | rfl | rfl | rfl | rfl | rfl | rfl | rfl | rfl
  · exact Or.inl (TT_of (tb1 (List.mem_of_getElem? (i := 20) rfl)) rfl)
  · exact Or.inl (TT_of (tb2 (List.mem_of_getElem? (i := 128) rfl)) rfl)
  · exact Or.inl (TT_of (tb2 (List.mem_of_getElem? (i := 137) rfl)) rfl)
  · exact Or.inl (TT_of (tb2 (List.mem_of_getElem? (i := 140) rfl)) rfl)
  · exact Or.inl (TT_of (tb2 (List.mem_of_getElem? (i := 143) rfl)) rfl)
  · exact Or.inl (TT_of (tb2 (List.mem_of_getElem? (i := 145) rfl)) rfl)
  · exact Or.inl (TT_of (tb2 (List.mem_of_getElem? (i := 129) rfl)) rfl)
  · exact Or.inl (TT_of (tb2 (List.mem_of_getElem? (i := 130) rfl)) rfl)
  · exact Or.inl (TT_of (tb1 (List.mem_of_getElem? (i := 31) rfl)) rfl)
  · exact Or.inl (TT_of (tb1 (List.mem_of_getElem? (i := 32) rfl)) rfl)
  · exact Or.inl (TT_of (tb2 (List.mem_of_getElem? (i := 131) rfl)) rfl)
  · exact Or.inl (TT_of (tb2 (List.mem_of_getElem? (i := 136) rfl)) rfl)
  · exact Or.inl (TT_of (tb2 (List.mem_of_getElem? (i := 141) rfl)) rfl)
  · exact Or.inl (TT_of (tb2 (List.mem_of_getElem? (i := 161) rfl)) rfl)
  · exact Or.inl (TT_of (tb2 (List.mem_of_getElem? (i := 118) rfl)) rfl)
  · exact Or.inl (TT_of (tb2 (List.mem_of_getElem? (i := 162) rfl)) rfl)
  · exact Or.inl (TT_of (tb2 (List.mem_of_getElem? (i := 120) rfl)) rfl)
  · exact Or.inl (TT_of (tb2 (List.mem_of_getElem? (i := 163) rfl)) rfl)
  · exact Or.inl (TT_of (tb2 (List.mem_of_getElem? (i := 122) rfl)) rfl)
  · exact Or.inl (TT_of (tb2 (List.mem_of_getElem? (i := 132) rfl)) rfl)
  · exact absurd hn (by decide +kernel)
  · exact Or.inl (TT_of (tb2 (List.mem_of_getElem? (i := 134) rfl)) rfl)
  · exact absurd hn (by decide +kernel)
  · exact Or.inl (TT_of (tb2 (List.mem_of_getElem? (i := 124) rfl)) rfl)
  · exact Or.inl (TT_of (tb2 (List.mem_of_getElem? (i := 157) rfl)) rfl)
  · exact Or.inl (TT_of (tb2 (List.mem_of_getElem? (i := 158) rfl)) rfl)
  · exact Or.inl (TT_of (tb2 (List.mem_of_getElem? (i := 160) rfl)) rfl)
  · exact Or.inl (TT_of (tb2 (List.mem_of_getElem? (i := 124) rfl)) rfl)
  · exact Or.inl (TT_of (tb4 (List.mem_of_getElem? (i := 59) rfl)) rfl)
  · exact Or.inl (TT_of (tb4 (List.mem_of_getElem? (i := 60) rfl)) rfl)
  · exact Or.inl (TT_of (tb4 (List.mem_of_getElem? (i := 61) rfl)) rfl)
  · exact Or.inl (TT_of (tb2 (List.mem_of_getElem? (i := 151) rfl)) rfl)
  · exact Or.inr (by simp [exW, bIA, bIB, Bundle.initS, Bundle.tN])
  · exact Or.inl (TT_of (tb2 (List.mem_of_getElem? (i := 151) rfl)) rfl)
  · exact Or.inl (TT_of (tb2 (List.mem_of_getElem? (i := 152) rfl)) rfl)
  · exact Or.inl (TT_of (tb2 (List.mem_of_getElem? (i := 153) rfl)) rfl)
  · exact Or.inl (TT_of (tb2 (List.mem_of_getElem? (i := 154) rfl)) rfl)
  · exact Or.inr (by simp [exW, bIA, bIB, Bundle.initS, Bundle.tN])
  · exact Or.inl (TT_of (tb2 (List.mem_of_getElem? (i := 154) rfl)) rfl)
  · exact Or.inl (TT_of (tb2 (List.mem_of_getElem? (i := 155) rfl)) rfl)
  · exact Or.inl (TT_of (tb2 (List.mem_of_getElem? (i := 156) rfl)) rfl)
  · exact Or.inl (TT_of (tb2 (List.mem_of_getElem? (i := 157) rfl)) rfl)
  · exact Or.inr (by simp [exW, bIA, bIB, Bundle.initS, Bundle.tN])
  · exact Or.inl (TT_of (tb4 (List.mem_of_getElem? (i := 58) rfl)) rfl)
  · exact Or.inl (TT_of (tb4 (List.mem_of_getElem? (i := 49) rfl)) rfl)
  · exact Or.inr (by simp [exW, bIA, bIB, Bundle.initS, Bundle.tN])
  · exact Or.inl (TT_of (tb4 (List.mem_of_getElem? (i := 51) rfl)) rfl)
  · exact Or.inl (TT_of (tb2 (List.mem_of_getElem? (i := 139) rfl)) rfl)
  · exact Or.inl (TT_of (tb4 (List.mem_of_getElem? (i := 52) rfl)) rfl)
  · exact Or.inl (TT_of (tb4 (List.mem_of_getElem? (i := 53) rfl)) rfl)
  · exact Or.inl (TT_of (tb4 (List.mem_of_getElem? (i := 54) rfl)) rfl)
  · exact Or.inl (TT_of (tb4 (List.mem_of_getElem? (i := 55) rfl)) rfl)
  · exact absurd hn (by decide +kernel)
  · exact absurd hn (by decide +kernel)
  · exact Or.inl (TT_of (tb2 (List.mem_of_getElem? (i := 127) rfl)) rfl)
  · exact Or.inl (TT_of (tb2 (List.mem_of_getElem? (i := 126) rfl)) rfl)
  · exact Or.inl (TT_of (tb4 (List.mem_of_getElem? (i := 56) rfl)) rfl)
theorem va_Pup {D : va_G} {cl : List vw_C} {ws : va_W} {H H1 : Heap} (h : va_P D cl ws H) (hq : ∀ a : Nat, a < H.size → H1[a]? = H[a]?) : va_P D cl ws H1 := by
  have up : ∀ (a : Nat) (c : Cell), H[a]? = some c → H1[a]? = some c := fun a c e => by rw [hq a (Array.getElem?_eq_some_iff.mp e).1]; exact e
  intro k q hk
  have h1 := h k q hk
  obtain ⟨a, e⟩ := q
  cases e with
  | inl x => exact up _ _ h1
  | inr x =>
    obtain ⟨r, e1, cell, e2, e3⟩ := h1
    exact ⟨r, e1, cell, up _ _ e2, e3⟩
theorem vx_ot_TT {w : Cond} (h : w ∈ TT ∨ w ∈ exW) : vx_ot w = true := by
  unfold vx_ot
  rcases h with h | h
  · have hg : goodWord w = true := (List.mem_filter.mp h).2
    rw [hg, Bool.or_true]
  · simp only [exW, List.mem_cons, List.not_mem_nil, or_false] at h
    rcases h with rfl | rfl | rfl | rfl | rfl <;> rfl
theorem r_throwW {own : String} {cc : ByteArray} {nL pc : Nat} {ls : List (Nat × Value)} {st : List Value} {ret : Option FieldType} {fr lo mc ms n kc ks : Nat} {sh : mS} {G : mG} {Q : Option Value → mI → mJ → Prop} {X : String → mI → mJ → Prop} {I : mI} {J : mJ} {ik is ic i : Nat} {cls text : String} (hs : (own, is, text, i) ∈ bStr) (hk : Cond.classLink own ik cls ∈ TT) (hini : Cond.initialized cls ∈ TT) (hat : ∀ w, w ∈ vx_atS own ic cls bCh → w ∈ TT ∨ w ∈ exW) (hfit : Bundle.fit cls = true)
    (d0 : decode cc pc = .ok (.new ik, 3)) (d3 : decode cc (pc + 3) = .ok (.dup, 1)) (d4 : decode cc (pc + 4) = .ok (.ldc_w is, 3)) (d7 : decode cc (pc + 7) = .ok (.invokespecial ic, 3)) (d10 : decode cc (pc + 10) = .ok (.athrow, 1)) (hroom : 6 ≤ fr ∧ (st.map fun v => v.category).sum + 82 ≤ lo ∧ 1 ≤ kc ∧ 6 ≤ ks) (hX : X cls I J) : Rc own cc nL ret fr lo mc ms n sh G Q X kc ks pc ls st I J := by
  intro p l e R s m args below meth c H locs cells slots la D cA ad A hfl S hr hlk hxt hR hkc hks hA hB hS hP hD hK hl
  have hin : ∀ w, w ∈ TT ∨ w ∈ exW → w.before args s = true := fun w hw => hw.elim (fun h => S.2.2.2.2 w h) (fun h => exW_moved (Vm.Alike.refl s.vm) h (hB.2.2.2.2.2.2.1 w h))
  refine vx_throwSW (names := bCh) (sa := ad (1000 + i)) S.1 S.2.1 hfl S.2.2.2.1 hfit (by decide) (S.2.2.2.2 _ hk) (S.2.2.2.2 _ hini) (hB.2.2.2.2.2.1 _ hs) (fun w hw => hin w (hat w hw)) (fun w hw => ?_) hB.1 hB.2.1 hS (hl.1.trans S.2.2.1.symm) d0 d3 d4 d7 d10 (fun x hx => (hxt x hx).elim)
    (by have := hR.1; show 2 + 3 < R.frames; omega) (by have := hR.2.1; have e : ((st.map (mz ad)).map fun v => v.category).sum = (st.map fun v => v.category).sum := (by simp [Function.comp_def, mz_cat]); rw [e]; show _ + (13 * (2 + 1) + 43) ≤ R.locals; omega) (by have := hR.2.2.1; omega) (by have := hR.2.2.2; omega) hlk (fun t hal h1 h2 => ?_) hS.2.2 (by omega) (by omega)
  · rcases List.mem_cons.mp hw with rfl | hw
    · exact vx_ot_TT (Or.inl hk)
    · rcases List.mem_cons.mp hw with rfl | hw
      · exact vx_ot_TT (Or.inl hini)
      · exact vx_ot_TT (hat w hw)
  · exact ⟨⟨I, J, hX, va_Pup hP h2, hD, va_K.moved hal hK⟩, Nat.le_trans hS.1 h1, fun q hq hn => by rw [h2 q (Nat.lt_of_lt_of_le hq hS.1)]; exact hS.2.1 q hq hn⟩

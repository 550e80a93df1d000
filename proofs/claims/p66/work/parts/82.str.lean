/-! STRINGS: constants of the background, rows for their fields, bytes and calls -/
theorem fs_val : Cond.fieldLink RJ0 9 RJ0 "value" "[B" ∈ TT := TT_of (tb6 (List.mem_of_getElem? (i := 20) rfl)) rfl
theorem fs_cod : Cond.fieldLink RJ0 15 RJ0 "coder" "B" ∈ TT := TT_of (tb6 (List.mem_of_getElem? (i := 21) rfl)) rfl
theorem fs_cmp : Cond.fieldLink RJ0 38 RJ0 "COMPACT_STRINGS" "Z" ∈ TT := TT_of (tb2 (List.mem_of_getElem? (i := 194) rfl)) rfl
theorem fs_sio : Cond.fieldLink RJ0 1053 bSC bSN bSD ∈ TT := TT_of (tb2 (List.mem_of_getElem? (i := 210) rfl)) rfl
def bC (i j : Nat) : Int32 := (bByt.getD i []).getD j 0
theorem bL_le {i : Nat} (hi : i < 6) : bLen.getD i 0 < 1000000 := by
  have h : ∀ i : Nat, i < 6 → bLen.getD i 0 < 1000000 := by decide
  exact h i hi
theorem bL_5 {i : Nat} (hi : i < 6) : bLen.getD i 0 ≤ 5 := by
  have h : ∀ i : Nat, i < 6 → bLen.getD i 0 ≤ 5 := by decide
  exact h i hi
theorem bC_and {i j : Nat} (hi : i < 6) (hj : j < bLen.getD i 0) : bC i j &&& 255 = bC i j := by
  have h : ∀ i : Nat, i < 6 → ∀ j : Nat, j < 5 → bC i j &&& 255 = bC i j := by decide
  exact h i hi j (Nat.lt_of_lt_of_le hj (bL_5 hi))
theorem bC_c {i j : Nat} (hi : i < 6) (hj : j < bLen.getD i 0) : ((bC i j).toUInt32 % 65536).toInt32 = bC i j := by
  have h : ∀ i : Nat, i < 6 → ∀ j : Nat, j < 5 → ((bC i j).toUInt32 % 65536).toInt32 = bC i j := by decide
  exact h i hi j (Nat.lt_of_lt_of_le hj (bL_5 hi))
theorem bC_nar {i j : Nat} (hi : i < 6) (hj : j < bLen.getD i 0) : narrow .char (.int (bC i j)) = .int (bC i j) := by
  have h : ∀ i : Nat, i < 6 → ∀ j : Nat, j < 5 → narrow .char (.int (bC i j)) = .int (bC i j) := by decide
  exact h i hi j (Nat.lt_of_lt_of_le hj (bL_5 hi))
theorem sh_0 {x : Int32} : x >>> ((0 : Int32) &&& 31) = x := by
  rw [show (0 : Int32) &&& 31 = 0 by decide]
  exact Int32.shiftRight_zero
section STR
variable {own : String} {cc : ByteArray} {nL pc b : Nat} {ls ls' : List (Nat × Value)} {st rest : List Value}
variable {ret : Option FieldType} {fr lo mc ms n kc ks : Nat} {sh : mS} {G : mG} {Q : Option Value → mI → mJ → Prop} {X : String → mI → mJ → Prop} {I : mI} {J : mJ}
variable {y : MethodName} {cb : ByteArray} {nb : Nat} {rb : Option FieldType} {fr' lo' nA : Nat} {As As' : List Value}
theorem p_i2c {x v : Int32} (hd : decode cc pc = .ok (.i2c, 1)) (hv : (x.toUInt32 % 65536).toInt32 = v) (hb : pc + 1 = b) : Pst own cc nL pc ls (.int x :: st) b ls (.int v :: st) := by
  intro p l e R s m args below meth c H locs cells slots la ad Q S hl k
  subst hb
  exact lv_i2c S.1 S.2.1 hd hv (k la hl)
theorem r_sval {i : Nat} (hi : i < 6) (hd : decode cc pc = .ok (.getfield 9, 3)) (hb : pc + 3 = b) (kk : Rc RJ0 cc nL ret fr lo mc ms n sh G Q X kc ks b ls (.ref (1100 + i) :: st) I J) : Rc RJ0 cc nL ret fr lo mc ms n sh G Q X kc ks pc ls (.ref (1000 + i) :: st) I J := by
  intro p l e R s m args below meth c H locs cells slots la D cA ad A hfl S hr hlk hxt hR hkc hks hA hB hS hP hD hK hl
  subst hb
  exact vk_getf S.1 S.2.1 (hB.2.2.2.2.1.1 i hi).2.2.1 hS S.2.2.2.1 (S.2.2.2.2 _ fs_val) (fun _ h => h) hd (kk p l e R s m args below meth c H locs cells slots la D cA ad A hfl S hr hlk hxt hR hkc hks hA hB hS hP hD hK hl)
theorem r_scod {i : Nat} (hi : i < 6) (hd : decode cc pc = .ok (.getfield 15, 3)) (hb : pc + 3 = b) (kk : Rc RJ0 cc nL ret fr lo mc ms n sh G Q X kc ks b ls (.int 0 :: st) I J) : Rc RJ0 cc nL ret fr lo mc ms n sh G Q X kc ks pc ls (.ref (1000 + i) :: st) I J := by
  intro p l e R s m args below meth c H locs cells slots la D cA ad A hfl S hr hlk hxt hR hkc hks hA hB hS hP hD hK hl
  subst hb
  exact vk_getf S.1 S.2.1 (hB.2.2.2.2.1.1 i hi).2.1 hS S.2.2.2.1 (S.2.2.2.2 _ fs_cod) (fun _ h => h) hd (kk p l e R s m args below meth c H locs cells slots la D cA ad A hfl S hr hlk hxt hR hkc hks hA hB hS hP hD hK hl)
theorem r_slen {i : Nat} (hi : i < 6) (hd : decode cc pc = .ok (.arraylength, 1)) (hb : pc + 1 = b) (kk : Rc own cc nL ret fr lo mc ms n sh G Q X kc ks b ls (.int (nI (bLen.getD i 0)) :: st) I J) : Rc own cc nL ret fr lo mc ms n sh G Q X kc ks pc ls (.ref (1100 + i) :: st) I J := by
  intro p l e R s m args below meth c H locs cells slots la D cA ad A hfl S hr hlk hxt hR hkc hks hA hB hS hP hD hK hl
  subst hb
  exact va_tlen S.1 S.2.1 (hB.2.2.2.2.1.1 i hi).2.2.2 hS rfl hd (kk p l e R s m args below meth c H locs cells slots la D cA ad A hfl S hr hlk hxt hR hkc hks hA hB hS hP hD hK hl)
theorem r_sbld {i j : Nat} (hi : i < 6) (hj : j < bLen.getD i 0) (hd : decode cc pc = .ok (.baload, 1)) (hb : pc + 1 = b) (kk : Rc own cc nL ret fr lo mc ms n sh G Q X kc ks b ls (.int (bC i j) :: st) I J) : Rc own cc nL ret fr lo mc ms n sh G Q X kc ks pc ls (.int (nI j) :: .ref (1100 + i) :: st) I J := by
  intro p l e R s m args below meth c H locs cells slots la D cA ad A hfl S hr hlk hxt hR hkc hks hA hB hS hP hD hK hl
  subst hb
  have hl5 := bL_5 hi
  exact va_tb S.1 S.2.1 (hB.2.2.2.2.1.1 i hi).2.2.2 hS (vp_in_nI hj (by omega)) (v := .int (bC i j)) (by rw [nI_clamp (by omega)]; rfl) hd (kk p l e R s m args below meth c H locs cells slots la D cA ad A hfl S hr hlk hxt hR hkc hks hA hB hS hP hD hK hl)
theorem r_gcmp (hd : decode cc pc = .ok (.getstatic 38, 3)) (hb : pc + 3 = b) (kk : Rc RJ0 cc nL ret fr lo mc ms n sh G Q X kc ks b ls (.int 1 :: st) I J) : Rc RJ0 cc nL ret fr lo mc ms n sh G Q X kc ks pc ls st I J := by
  intro p l e R s m args below meth c H locs cells slots la D cA ad A hfl S hr hlk hxt hR hkc hks hA hB hS hP hD hK hl
  subst hb
  exact va_gets S.1 S.2.1 hB.2.2.1 hS S.2.2.2.1 (S.2.2.2.2 _ fs_cmp) (fun _ h => h) hd (kk p l e R s m args below meth c H locs cells slots la D cA ad A hfl S hr hlk hxt hR hkc hks hA hB hS hP hD hK hl)
theorem r_gsio (hd : decode cc pc = .ok (.getstatic 1053, 3)) (hb : pc + 3 = b) (k1 : Rc RJ0 cc nL ret fr lo mc ms n sh G Q X kc ks b ls (.null :: st) I J) (k2 : Rc RJ0 cc nL ret fr lo mc ms n sh G Q X kc ks b ls (.ref 1200 :: st) I J) : Rc RJ0 cc nL ret fr lo mc ms n sh G Q X kc ks pc ls st I J := by
  intro p l e R s m args below meth c H locs cells slots la D cA ad A hfl S hr hlk hxt hR hkc hks hA hB hS hP hD hK hl
  subst hb
  rcases hB.2.2.2.1 with hz | hz
  · exact va_gets S.1 S.2.1 hz hS S.2.2.2.1 (S.2.2.2.2 _ fs_sio) (fun _ h => h) hd (k1 p l e R s m args below meth c H locs cells slots la D cA ad A hfl S hr hlk hxt hR hkc hks hA hB hS hP hD hK hl)
  · exact va_gets S.1 S.2.1 hz hS S.2.2.2.1 (S.2.2.2.2 _ fs_sio) (fun _ h => h) hd (k2 p l e R s m args below meth c H locs cells slots la D cA ad A hfl S hr hlk hxt hR hkc hks hA hB hS hP hD hK hl)
theorem r_ldcS {tx : String} {ix i : Nat} (hq : (own, ix, tx, i) ∈ bStr) (hd : decode cc pc = .ok (.ldc ix, 2)) (hb : pc + 2 = b) (kk : Rc own cc nL ret fr lo mc ms n sh G Q X kc ks b ls (.ref (1000 + i) :: st) I J) : Rc own cc nL ret fr lo mc ms n sh G Q X kc ks pc ls st I J := by
  intro p l e R s m args below meth c H locs cells slots la D cA ad A hfl S hr hlk hxt hR hkc hks hA hB hS hP hD hK hl
  subst hb
  exact va_ldcS S.1 S.2.1 S.2.2.2.1 (hB.2.2.2.2.2.1 _ hq) hd (kk p l e R s m args below meth c H locs cells slots la D cA ad A hfl S hr hlk hxt hR hkc hks hA hB hS hP hD hK hl)
theorem r_iVS {ix i : Nat} {P : Int32 → mI → mJ → Prop} (hs : Sp y cb nb rb fr' lo' 0 0 (.ref (1000 + i) :: As') n sh G I J (Qi P) nX) (hi : i < 6) (hw : cw own ix y cb nb rb nA) (hin : Cond.instanceMethod y ∈ TT) (hsel : Cond.selects RJ0 y y ∈ TT) (hd : decode cc pc = .ok (.invokevirtual ix, 3)) (hn : As'.length = nA) (hstk : st = As'.reverse ++ .ref (1000 + i) :: rest) (hcat : (rest.map fun v => v.category).sum ≤ 8) (hroom : fr' + 1 ≤ fr ∧ nb + 19 + lo' ≤ lo) (hb : pc + 3 = b)
    (kk : ∀ (v : Int32) (I1 : mI) (J1 : mJ), P v I1 J1 → Rc own cc nL ret fr lo mc ms n sh G Q X kc ks b ls (.int v :: rest) I1 J1) : Rc own cc nL ret fr lo mc ms n sh G Q X kc ks pc ls st I J := by
  intro p l e R s m args below meth c H locs cells slots la D cA ad A hfl S hr hlk hxt hR hkc hks hA hB hS hP hD hK hl
  subst hb
  subst hstk
  obtain ⟨g1, g2⟩ := hroom
  have hrun := vx_runV (H := H) (locs := locs) (cells := cells) (slots := slots) (l := l) (e := e) (R := R) (below := below) (meth := meth) (C := RJ0) (b := ad (1000 + i)) (g := F0 m pc la ((As'.reverse ++ .ref (1000 + i) :: rest).map (mz ad))) (As := As'.map (mz ad)) (rest := rest.map (mz ad)) (n := nA) S (hs l D cA ad H.size hfl) ⟨cw_B (rm := { frames := fr', cells := 0, slots := 0, locals := lo' }) hw rfl S.2.2.2.2 ⟨Nat.le_trans g1 hR.1, by show 8 + (nb + 11) + lo' ≤ R.locals; omega⟩, S.2.2.2.2 _ hin, S.2.2.2.2 _ hsel⟩ ⟨mPc_blind, vk_recv (adK := fun k => ad (1000 + k)) (i := i) hB.2.2.2.2.1 hi hS, fun U hU hW => mPre (As := .ref (1000 + i) :: As') hS hP hD hK hB hA hU hW⟩ rfl (by rw [List.length_map]; exact hn) hl.1 (by simp [mz]) (by simpa [JFrame.monitorRoom, Function.comp_def, mz_cat] using hcat) hd ⟨by omega, by omega⟩
  exact rc_after (As := .ref (1000 + i) :: As') hrun hfl S hr hlk hxt hR hkc hks (Nat.zero_le _) (Nat.zero_le _) hA hB hS hP hD hK hl (fun _ _ _ h => h.elim) (fun r I1 J1 h => by
    obtain ⟨v, rfl, hP⟩ := h
    exact kk v I1 J1 hP)
end STR

/-! further rows: switches, the length of a row, copies of rows -/
theorem q_ac_n : Cond.native arraycopyName ∈ TT := TT_of (tb2 (List.mem_of_getElem? (i := 63) rfl)) rfl
theorem q_ac_s : Cond.static arraycopyName ∈ TT := TT_of (tb2 (List.mem_of_getElem? (i := 62) rfl)) rfl
/-- the first n of row a stand in row b -/
def cpy (I : mI) (a b n : Nat) : mI := fun c j => if c = b ∧ j < n then I a j else I c j
theorem cpy_in {I : mI} {a b n j : Nat} (h : j < n) : cpy I a b n b j = I a j := if_pos ⟨rfl, h⟩
theorem cpy_off {I : mI} {a b n c : Nat} (h : c ≠ b) : cpy I a b n c = I c := funext fun _ => if_neg (fun q => h q.1)
theorem cpy_out {I : mI} {a b n c j : Nat} (h : n ≤ j) : cpy I a b n c j = I c j := if_neg (fun q => by omega)
section ROWS3
variable {own : String} {cc : ByteArray} {nL pc b : Nat} {ls ls' : List (Nat × Value)} {st : List Value}
variable {ret : Option FieldType} {fr lo mc ms n kc ks : Nat} {sh : mS} {G : mG} {Q : Option Value → mI → mJ → Prop} {X : String → mI → mJ → Prop} {I : mI} {J : mJ}
theorem p_tabOut {dflt lo hi : Int} {offs : Array Int} {len : Nat} {x : Int32} (hd : decode cc pc = .ok (.tableswitch dflt lo hi offs, len)) (h : x.toInt < lo ∨ hi < x.toInt) (hb : (pc : Int) + dflt = (b : Int)) : Pst own cc nL pc ls (.int x :: st) b ls st := by
  intro p l e R s m args below meth c H locs cells slots la ad Q S hl k
  exact lv_tableOut S.1 S.2.1 hd h hb (k la hl)
theorem p_tabIn {dflt lo hi : Int} {offs : Array Int} {len : Nat} {x : Int32} {off : Int} (hd : decode cc pc = .ok (.tableswitch dflt lo hi offs, len)) (h1 : ¬ x.toInt < lo) (h2 : ¬ hi < x.toInt) (ho : offs[(x.toInt - lo).toNat]? = some off) (hb : (pc : Int) + off = (b : Int)) : Pst own cc nL pc ls (.int x :: st) b ls st := by
  intro p l e R s m args below meth c H locs cells slots la ad Q S hl k
  exact lv_tableIn S.1 S.2.1 hd h1 h2 ho hb (k la hl)
theorem r_alenI {id len : Nat} (hid : id < n) (hsh : sh id = .inr (0, len)) (hd : decode cc pc = .ok (.arraylength, 1)) (hb : pc + 1 = b) (kk : Rc own cc nL ret fr lo mc ms n sh G Q X kc ks b ls (.int (nI len) :: st) I J) : Rc own cc nL ret fr lo mc ms n sh G Q X kc ks pc ls (.ref id :: st) I J := by
  intro p l e R s m args below meth c H locs cells slots la D cA ad A hfl S hr hlk hxt hR hkc hks hA hB hS hP hD hK hl
  subst hb
  exact va_alen (v := nI len) (x := (len, .inl (I id))) S.1 S.2.1 hK hP id 0 (by rw [mws_at hid, mcell_ia hsh]) rfl rfl hd (kk p l e R s m args below meth c H locs cells slots la D cA ad A hfl S hr hlk hxt hR hkc hks hA hB hS hP hD hK hl)
theorem mws_same {cA : Nat → ClassId} {ad : Nat → Nat} {I : mI} {J : mJ} {i : Nat} {e : va_E} (h : mcell cA ad I J G i (sh i) = e) : (mws cA ad n sh I J G).set i (ad i, e) = mws cA ad n sh I J G := mws_set h (fun _ _ => ⟨rfl, rfl⟩)
theorem r_copy {ix id0 id1 len0 len1 N : Nat} (hlk0 : Cond.methodLink own ix arraycopyName ∈ TT) (hin0 : Cond.initialized "java/lang/System" ∈ TT) (h0 : id0 < n) (s0 : sh id0 = .inr (0, len0)) (h1 : id1 < n) (s1 : sh id1 = .inr (0, len1)) (hN : N ≤ len0 ∧ N ≤ len1 ∧ N < 2 ^ 31) {nv z0 z1 : Int32} (hnv : nv = nI N) (hz0 : z0 = 0) (hz1 : z1 = 0)
    (hroom : 1 ≤ fr ∧ (st.map fun v => v.category).sum + (nativeFrameWords "java/lang/System" "arraycopy" 5 + 11) ≤ lo) (hd : decode cc pc = .ok (.invokestatic ix, 3)) (hb : pc + 3 = b)
    (kk : Rc own cc nL ret fr lo mc ms n sh G Q X kc ks b ls st (cpy I id0 id1 N) J) : Rc own cc nL ret fr lo mc ms n sh G Q X kc ks pc ls (.int nv :: .int z1 :: .ref id1 :: .int z0 :: .ref id0 :: st) I J := by
  intro p l e R s m args below meth c H locs cells slots la D cA ad A hfl S hr hlk hxt hR hkc hks hA hB hS hP hD hK hl
  subst hb
  subst hnv
  subst hz0
  subst hz1
  have e0 : (0 : Int32).toNatClampNeg = 0 := by decide
  have eN : (nI N).toNatClampNeg = N := nI_clamp hN.2.2
  refine va_copyi (cc := cc) (own := own) (index := ix) S.1 S.2.1 (S.2.2.1.trans hl.1.symm) S.2.2.2.1 (S.2.2.2.2 _ hlk0) (S.2.2.2.2 _ q_ac_n) (S.2.2.2.2 _ q_ac_s) (S.2.2.2.2 _ hin0) hK hP hD hS id0 id1 0 0 (by rw [mws_at h0, mcell_ia s0]) (by rw [mws_at h1, mcell_ia s1]) rfl rfl rfl (by decide) (by decide) (Int32.not_lt.mpr (Int32.le_iff_toInt_le.mpr (by rw [nI_toInt hN.2.2]; exact Int.natCast_nonneg N))) (by rw [e0, eN]; omega) (by rw [e0, eN]; omega) (fun _ _ => rfl) (Nat.le_trans hroom.1 hR.1) (Nat.le_trans (by simpa [Function.comp_def, mz_cat] using hroom.2) hR.2.1) hd (fun H locs hP hD hS => ?_)
  rw [e0, eN] at hP hD
  have eqw : (mws cA ad n sh I J G).set id1 (ad id1, .inl (cA 0, len1, .inl (va_cpy (I id0) (I id1) 0 0 N))) = mws cA ad n sh (cpy I id0 id1 N) J G :=
    mws_set (by rw [mcell_ia s1]; congr 4; funext q; simp [cpy, va_cpy]) (fun c hc => ⟨cpy_off hc, rfl⟩)
  rw [eqw] at hP hD
  exact kk p l e R s m args below meth c H locs cells slots la D cA ad A hfl S hr hlk hxt hR hkc hks hA hB hS hP hD hK hl
end ROWS3

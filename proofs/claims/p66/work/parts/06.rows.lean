/-! ROWS: an instruction each, over Rc -/
def Pst (own : String) (cc : ByteArray) (nL pc : Nat) (ls : List (Nat × Value)) (st : List Value) (pc' : Nat) (ls' : List (Nat × Value)) (st' : List Value) : Prop :=
  ∀ (p : Program) (l : Launch) (e : Env) (R : Room) (s : State) (m : MethodId) (args : Array Value) (below : List Frame) (meth : Method) (c : Code) (H : Heap) (locs : List Loc) (cells slots : Nat) (la : Array Slot) (ad : Nat → Nat) (Q : State → Prop),
    CallFix p m c cc nL s args TT own → lv_has la nL (ls.map (mzp ad)) →
    (∀ la' : Array Slot, lv_has la' nL (ls'.map (mzp ad)) → W p l e R s m args below meth c H locs cells slots Q (F0 m pc' la' (st'.map (mz ad)))) →
    W p l e R s m args below meth c H locs cells slots Q (F0 m pc la (st.map (mz ad)))
theorem lvm {la : Array Slot} {nL : Nat} {ls : List (Nat × Value)} {ad : Nat → Nat} (h : lv_has la nL (ls.map (mzp ad))) (j : Nat) {i : Nat} {v : Value} (hj : ls[j]? = some (i, v)) : la[i]? = some (.val (mz ad v)) :=
  lv_at h j (by rw [List.getElem?_map, hj]; rfl)
theorem lvf (ad : Nat → Nat) (ls : List (Nat × Value)) (i : Nat) : (ls.map (mzp ad)).filter (fun q => !(q.1 == i) && !(q.1 + 1 == i && q.2.category == 2)) = (ls.filter (fun q => !(q.1 == i) && !(q.1 + 1 == i && q.2.category == 2))).map (mzp ad) := by
  rw [List.filter_map]
  congr 1
  apply List.filter_congr
  intro q _
  simp [Function.comp_def, mzp, mz_cat]
theorem lvf2 (ad : Nat → Nat) (ls : List (Nat × Value)) (i : Nat) : (ls.map (mzp ad)).filter (fun q => !(q.1 == i) && (!(q.1 == i + 1) && !(q.1 + 1 == i && q.2.category == 2))) = (ls.filter (fun q => !(q.1 == i) && (!(q.1 == i + 1) && !(q.1 + 1 == i && q.2.category == 2)))).map (mzp ad) := by
  rw [List.filter_map]
  congr 1
  apply List.filter_congr
  intro q _
  simp [Function.comp_def, mzp, mz_cat]
section ROWS
variable {own : String} {cc : ByteArray} {nL pc b : Nat} {ls ls' : List (Nat × Value)} {st : List Value}
variable {ret : Option FieldType} {fr lo mc ms n kc ks : Nat} {sh : mS} {G : mG} {Q : Option Value → mI → mJ → Prop} {X : String → mI → mJ → Prop} {I : mI} {J : mJ}
theorem rc_p {st' : List Value} (h : Pst own cc nL pc ls st b ls' st') (k : Rc own cc nL ret fr lo mc ms n sh G Q X kc ks b ls' st' I J) : Rc own cc nL ret fr lo mc ms n sh G Q X kc ks pc ls st I J := by
  intro p l e R s m args below meth c H locs cells slots la D cA ad A hfl S hr hlk hxt hR hkc hks hA hB hS hP hD hK hl
  exact h p l e R s m args below meth c H locs cells slots la ad _ S hl (fun la' hl' => k p l e R s m args below meth c H locs cells slots la' D cA ad A hfl S hr hlk hxt hR hkc hks hA hB hS hP hD hK hl')
/-- fewer listed locals, in another order -/
theorem rc_sub (is : List Nat) (h : lv_pick ls is = ls') (k : Rc own cc nL ret fr lo mc ms n sh G Q X kc ks pc ls' st I J) : Rc own cc nL ret fr lo mc ms n sh G Q X kc ks pc ls st I J := by
  intro p l e R s m args below meth c H locs cells slots la D cA ad A hfl S hr hlk hxt hR hkc hks hA hB hS hP hD hK hl
  refine k p l e R s m args below meth c H locs cells slots la D cA ad A hfl S hr hlk hxt hR hkc hks hA hB hS hP hD hK (lv_sub hl is ?_)
  rw [← h]
  simp [lv_pick, List.map_filterMap]
theorem rc_weak {kc' ks' : Nat} (h1 : kc' ≤ kc) (h2 : ks' ≤ ks) (k : Rc own cc nL ret fr lo mc ms n sh G Q X kc' ks' pc ls st I J) : Rc own cc nL ret fr lo mc ms n sh G Q X kc ks pc ls st I J := by
  intro p l e R s m args below meth c H locs cells slots la D cA ad A hfl S hr hlk hxt hR hkc hks hA hB hS hP hD hK hl
  exact k p l e R s m args below meth c H locs cells slots la D cA ad A hfl S hr hlk hxt hR (by omega) (by omega) hA hB hS hP hD hK hl

theorem p_iconst {z : Int} {v : Int32} (hd : decode cc pc = .ok (.iconst z, 1)) (hv : Int32.ofInt z = v) (hb : pc + 1 = b) : Pst own cc nL pc ls (st) b ls (.int v :: st) := by
  intro p l e R s m args below meth c H locs cells slots la ad Q S hl k
  subst hb
  exact lv_iconst S.1 S.2.1 hd hv (k la hl)
theorem p_bipush {z : Int} {v : Int32} (hd : decode cc pc = .ok (.bipush z, 2)) (hv : (Int8.ofInt z).toInt32 = v) (hb : pc + 2 = b) : Pst own cc nL pc ls (st) b ls (.int v :: st) := by
  intro p l e R s m args below meth c H locs cells slots la ad Q S hl k
  subst hb
  exact lv_bipush S.1 S.2.1 hd hv (k la hl)
theorem p_sipush {z : Int} {v : Int32} (hd : decode cc pc = .ok (.sipush z, 3)) (hv : (Int16.ofInt z).toInt32 = v) (hb : pc + 3 = b) : Pst own cc nL pc ls (st) b ls (.int v :: st) := by
  intro p l e R s m args below meth c H locs cells slots la ad Q S hl k
  subst hb
  exact lv_sipush S.1 S.2.1 hd hv (k la hl)
theorem p_ldc {ix : Nat} {v : Int32} (hq : Cond.constant own ix v ∈ TT) (hd : decode cc pc = .ok (.ldc ix, 2)) (hb : pc + 2 = b) : Pst own cc nL pc ls (st) b ls (.int v :: st) := by
  intro p l e R s m args below meth c H locs cells slots la ad Q S hl k
  subst hb
  exact lv_ldc S.1 S.2.1 S.2.2.2.1 (S.2.2.2.2 _ hq) hd (k la hl)
theorem p_ldcw {ix : Nat} {v : Int32} (hq : Cond.constant own ix v ∈ TT) (hd : decode cc pc = .ok (.ldc_w ix, 3)) (hb : pc + 3 = b) : Pst own cc nL pc ls (st) b ls (.int v :: st) := by
  intro p l e R s m args below meth c H locs cells slots la ad Q S hl k
  subst hb
  exact lv_ldcw S.1 S.2.1 S.2.2.2.1 (S.2.2.2.2 _ hq) hd (k la hl)
theorem p_ldc2 {ix : Nat} {v : Int64} (hq : Cond.constantLong own ix v ∈ TT) (hd : decode cc pc = .ok (.ldc2_w ix, 3)) (hb : pc + 3 = b) : Pst own cc nL pc ls (st) b ls (.long v :: st) := by
  intro p l e R s m args below meth c H locs cells slots la ad Q S hl k
  subst hb
  exact lv_ldc2 S.1 S.2.1 S.2.2.2.1 (S.2.2.2.2 _ hq) hd (k la hl)
theorem p_lconst {z : Fin 2} {v : Int64} (hd : decode cc pc = .ok (.lconst z, 1)) (hv : Int64.ofNat (z : Nat) = v) (hb : pc + 1 = b) : Pst own cc nL pc ls (st) b ls (.long v :: st) := by
  intro p l e R s m args below meth c H locs cells slots la ad Q S hl k
  subst hb
  exact lv_lconst S.1 S.2.1 hd hv (k la hl)
theorem p_iload_n {z : Fin 4} {i : Nat} {x : Int32} (j : Nat) (hd : decode cc pc = .ok (.iload_n z, 1)) (hi : (z : Nat) = i) (hj : ls[j]? = some (i, .int x)) (hb : pc + 1 = b) : Pst own cc nL pc ls (st) b ls (.int x :: st) := by
  intro p l e R s m args below meth c H locs cells slots la ad Q S hl k
  subst hb
  exact lv_iload_n S.1 S.2.1 hd hi (lvm hl j hj) (k la hl)
theorem p_iload {i : Nat} {x : Int32} (j : Nat) (hd : decode cc pc = .ok (.iload i, 2)) (hj : ls[j]? = some (i, .int x)) (hb : pc + 2 = b) : Pst own cc nL pc ls (st) b ls (.int x :: st) := by
  intro p l e R s m args below meth c H locs cells slots la ad Q S hl k
  subst hb
  exact lv_iload S.1 S.2.1 hd (lvm hl j hj) (k la hl)
theorem p_aload_n {z : Fin 4} {i : Nat} {x : Nat} (j : Nat) (hd : decode cc pc = .ok (.aload_n z, 1)) (hi : (z : Nat) = i) (hj : ls[j]? = some (i, .ref x)) (hb : pc + 1 = b) : Pst own cc nL pc ls (st) b ls (.ref x :: st) := by
  intro p l e R s m args below meth c H locs cells slots la ad Q S hl k
  subst hb
  exact lv_aload_n S.1 S.2.1 hd hi (lvm hl j hj) (k la hl)
theorem p_aload {i : Nat} {x : Nat} (j : Nat) (hd : decode cc pc = .ok (.aload i, 2)) (hj : ls[j]? = some (i, .ref x)) (hb : pc + 2 = b) : Pst own cc nL pc ls (st) b ls (.ref x :: st) := by
  intro p l e R s m args below meth c H locs cells slots la ad Q S hl k
  subst hb
  exact lv_aload S.1 S.2.1 hd (lvm hl j hj) (k la hl)
theorem p_lload_n {z : Fin 4} {i : Nat} {x : Int64} (j : Nat) (hd : decode cc pc = .ok (.lload_n z, 1)) (hi : (z : Nat) = i) (hj : ls[j]? = some (i, .long x)) (hb : pc + 1 = b) : Pst own cc nL pc ls (st) b ls (.long x :: st) := by
  intro p l e R s m args below meth c H locs cells slots la ad Q S hl k
  subst hb
  exact lv_lload_n S.1 S.2.1 hd hi (lvm hl j hj) (k la hl)
theorem p_lload {i : Nat} {x : Int64} (j : Nat) (hd : decode cc pc = .ok (.lload i, 2)) (hj : ls[j]? = some (i, .long x)) (hb : pc + 2 = b) : Pst own cc nL pc ls (st) b ls (.long x :: st) := by
  intro p l e R s m args below meth c H locs cells slots la ad Q S hl k
  subst hb
  exact lv_lload S.1 S.2.1 hd (lvm hl j hj) (k la hl)
theorem p_iadd {x y v : Int32} (hd : decode cc pc = .ok (.iadd, 1)) (hv : x + y = v) (hb : pc + 1 = b) : Pst own cc nL pc ls (.int y :: .int x :: st) b ls (.int v :: st) := by
  intro p l e R s m args below meth c H locs cells slots la ad Q S hl k
  subst hb
  exact by subst hv; exact lv_iadd S.1 S.2.1 hd (k la hl)
theorem p_isub {x y v : Int32} (hd : decode cc pc = .ok (.isub, 1)) (hv : x - y = v) (hb : pc + 1 = b) : Pst own cc nL pc ls (.int y :: .int x :: st) b ls (.int v :: st) := by
  intro p l e R s m args below meth c H locs cells slots la ad Q S hl k
  subst hb
  exact by subst hv; exact lv_isub S.1 S.2.1 hd (k la hl)
theorem p_imul {x y v : Int32} (hd : decode cc pc = .ok (.imul, 1)) (hv : x * y = v) (hb : pc + 1 = b) : Pst own cc nL pc ls (.int y :: .int x :: st) b ls (.int v :: st) := by
  intro p l e R s m args below meth c H locs cells slots la ad Q S hl k
  subst hb
  exact by subst hv; exact lv_imul S.1 S.2.1 hd (k la hl)
theorem p_iand {x y v : Int32} (hd : decode cc pc = .ok (.iand, 1)) (hv : x &&& y = v) (hb : pc + 1 = b) : Pst own cc nL pc ls (.int y :: .int x :: st) b ls (.int v :: st) := by
  intro p l e R s m args below meth c H locs cells slots la ad Q S hl k
  subst hb
  exact by subst hv; exact lv_iand S.1 S.2.1 hd (k la hl)
theorem p_ior {x y v : Int32} (hd : decode cc pc = .ok (.ior, 1)) (hv : x ||| y = v) (hb : pc + 1 = b) : Pst own cc nL pc ls (.int y :: .int x :: st) b ls (.int v :: st) := by
  intro p l e R s m args below meth c H locs cells slots la ad Q S hl k
  subst hb
  exact by subst hv; exact lv_ior S.1 S.2.1 hd (k la hl)
theorem p_ixor {x y v : Int32} (hd : decode cc pc = .ok (.ixor, 1)) (hv : x ^^^ y = v) (hb : pc + 1 = b) : Pst own cc nL pc ls (.int y :: .int x :: st) b ls (.int v :: st) := by
  intro p l e R s m args below meth c H locs cells slots la ad Q S hl k
  subst hb
  exact by subst hv; exact lv_ixor S.1 S.2.1 hd (k la hl)
theorem p_ishl {x y v : Int32} (hd : decode cc pc = .ok (.ishl, 1)) (hv : x <<< (y &&& 31) = v) (hb : pc + 1 = b) : Pst own cc nL pc ls (.int y :: .int x :: st) b ls (.int v :: st) := by
  intro p l e R s m args below meth c H locs cells slots la ad Q S hl k
  subst hb
  exact by subst hv; exact lv_ishl S.1 S.2.1 hd (k la hl)
theorem p_ishr {x y v : Int32} (hd : decode cc pc = .ok (.ishr, 1)) (hv : x >>> (y &&& 31) = v) (hb : pc + 1 = b) : Pst own cc nL pc ls (.int y :: .int x :: st) b ls (.int v :: st) := by
  intro p l e R s m args below meth c H locs cells slots la ad Q S hl k
  subst hb
  exact by subst hv; exact lv_ishr S.1 S.2.1 hd (k la hl)
theorem p_idiv {x y v : Int32} (hd : decode cc pc = .ok (.idiv, 1)) (hne : ¬ y = 0) (hv : x / y = v) (hb : pc + 1 = b) : Pst own cc nL pc ls (.int y :: .int x :: st) b ls (.int v :: st) := by
  intro p l e R s m args below meth c H locs cells slots la ad Q S hl k
  subst hb
  exact by subst hv; exact lv_idiv S.1 S.2.1 hd hne (k la hl)
theorem p_irem {x y v : Int32} (hd : decode cc pc = .ok (.irem, 1)) (hne : ¬ y = 0) (hv : x - x / y * y = v) (hb : pc + 1 = b) : Pst own cc nL pc ls (.int y :: .int x :: st) b ls (.int v :: st) := by
  intro p l e R s m args below meth c H locs cells slots la ad Q S hl k
  subst hb
  exact by subst hv; exact lv_irem S.1 S.2.1 hd hne (k la hl)
theorem p_ladd {x y v : Int64} (hd : decode cc pc = .ok (.ladd, 1)) (hv : x + y = v) (hb : pc + 1 = b) : Pst own cc nL pc ls (.long y :: .long x :: st) b ls (.long v :: st) := by
  intro p l e R s m args below meth c H locs cells slots la ad Q S hl k
  subst hb
  exact by subst hv; exact lv_ladd S.1 S.2.1 hd (k la hl)
theorem p_lsub {x y v : Int64} (hd : decode cc pc = .ok (.lsub, 1)) (hv : x - y = v) (hb : pc + 1 = b) : Pst own cc nL pc ls (.long y :: .long x :: st) b ls (.long v :: st) := by
  intro p l e R s m args below meth c H locs cells slots la ad Q S hl k
  subst hb
  exact by subst hv; exact lv_lsub S.1 S.2.1 hd (k la hl)
theorem p_lmul {x y v : Int64} (hd : decode cc pc = .ok (.lmul, 1)) (hv : x * y = v) (hb : pc + 1 = b) : Pst own cc nL pc ls (.long y :: .long x :: st) b ls (.long v :: st) := by
  intro p l e R s m args below meth c H locs cells slots la ad Q S hl k
  subst hb
  exact by subst hv; exact lv_lmul S.1 S.2.1 hd (k la hl)
theorem p_land {x y v : Int64} (hd : decode cc pc = .ok (.land, 1)) (hv : x &&& y = v) (hb : pc + 1 = b) : Pst own cc nL pc ls (.long y :: .long x :: st) b ls (.long v :: st) := by
  intro p l e R s m args below meth c H locs cells slots la ad Q S hl k
  subst hb
  exact by subst hv; exact lv_land S.1 S.2.1 hd (k la hl)
theorem p_lor {x y v : Int64} (hd : decode cc pc = .ok (.lor, 1)) (hv : x ||| y = v) (hb : pc + 1 = b) : Pst own cc nL pc ls (.long y :: .long x :: st) b ls (.long v :: st) := by
  intro p l e R s m args below meth c H locs cells slots la ad Q S hl k
  subst hb
  exact by subst hv; exact lv_lor S.1 S.2.1 hd (k la hl)
theorem p_lushr {x v : Int64} {y : Int32} (hd : decode cc pc = .ok (.lushr, 1)) (hv : (x.toUInt64 >>> (y.toInt64.toUInt64 &&& Int64.toUInt64 63)).toInt64 = v) (hb : pc + 1 = b) : Pst own cc nL pc ls (.int y :: .long x :: st) b ls (.long v :: st) := by
  intro p l e R s m args below meth c H locs cells slots la ad Q S hl k
  subst hb
  exact lv_lushr S.1 S.2.1 hd hv (k la hl)
theorem p_lshl {x v : Int64} {y : Int32} (hd : decode cc pc = .ok (.lshl, 1)) (hv : x <<< (y.toInt64 &&& 63) = v) (hb : pc + 1 = b) : Pst own cc nL pc ls (.int y :: .long x :: st) b ls (.long v :: st) := by
  intro p l e R s m args below meth c H locs cells slots la ad Q S hl k
  subst hb
  exact lv_lshl S.1 S.2.1 hd hv (k la hl)
theorem p_lcmp {x y : Int64} (hd : decode cc pc = .ok (.lcmp, 1)) (hb : pc + 1 = b) : Pst own cc nL pc ls (.long y :: .long x :: st) b ls (.int (lg_cmp x y) :: st) := by
  intro p l e R s m args below meth c H locs cells slots la ad Q S hl k
  subst hb
  exact W.lcmp S.1 S.2.1 hd (k la hl)
theorem p_i2l {x : Int32} {v : Int64} (hd : decode cc pc = .ok (.i2l, 1)) (hv : x.toInt64 = v) (hb : pc + 1 = b) : Pst own cc nL pc ls (.int x :: st) b ls (.long v :: st) := by
  intro p l e R s m args below meth c H locs cells slots la ad Q S hl k
  subst hb
  exact lv_i2l S.1 S.2.1 hd hv (k la hl)
theorem p_l2i {x : Int64} {v : Int32} (hd : decode cc pc = .ok (.l2i, 1)) (hv : x.toInt32 = v) (hb : pc + 1 = b) : Pst own cc nL pc ls (.long x :: st) b ls (.int v :: st) := by
  intro p l e R s m args below meth c H locs cells slots la ad Q S hl k
  subst hb
  exact lv_l2i S.1 S.2.1 hd hv (k la hl)
theorem p_i2b {x v : Int32} (hd : decode cc pc = .ok (.i2b, 1)) (hv : x.toInt8.toInt32 = v) (hb : pc + 1 = b) : Pst own cc nL pc ls (.int x :: st) b ls (.int v :: st) := by
  intro p l e R s m args below meth c H locs cells slots la ad Q S hl k
  subst hb
  exact lv_i2b S.1 S.2.1 hd hv (k la hl)
theorem p_dup {v : Value} (hd : decode cc pc = .ok (.dup, 1)) (hc : v.category = 1) (hb : pc + 1 = b) : Pst own cc nL pc ls (v :: st) b ls (v :: v :: st) := by
  intro p l e R s m args below meth c H locs cells slots la ad Q S hl k
  subst hb
  exact lv_dup S.1 S.2.1 hd (by rw [mz_cat]; exact hc) (k la hl)
theorem p_pop {v : Value} (hd : decode cc pc = .ok (.pop, 1)) (hc : v.category = 1) (hb : pc + 1 = b) : Pst own cc nL pc ls (v :: st) b ls (st) := by
  intro p l e R s m args below meth c H locs cells slots la ad Q S hl k
  subst hb
  exact lv_pop S.1 S.2.1 hd (by rw [mz_cat]; exact hc) (k la hl)
theorem p_dup2 {v w : Value} (hd : decode cc pc = .ok (.dup2, 1)) (hc : v.category = 1) (hc2 : w.category = 1) (hb : pc + 1 = b) : Pst own cc nL pc ls (v :: w :: st) b ls (v :: w :: v :: w :: st) := by
  intro p l e R s m args below meth c H locs cells slots la ad Q S hl k
  subst hb
  exact lv_dup2_11 S.1 S.2.1 hd (by rw [mz_cat]; exact hc) (by rw [mz_cat]; exact hc2) (k la hl)
theorem p_goto {off : Int} (hd : decode cc pc = .ok (.goto off, 3)) (hb : (pc : Int) + off = (b : Int)) : Pst own cc nL pc ls st b ls st := by
  intro p l e R s m args below meth c H locs cells slots la ad Q S hl k
  exact lv_goto S.1 S.2.1 hd hb (k la hl)
theorem p_istore_n {z : Fin 4} {i : Nat} {x : Int32} (hd : decode cc pc = .ok (.istore_n z, 1)) (hi : (z : Nat) = i) (hn : i < nL) (hv : (i, Value.int x) :: ls.filter (fun q => !(q.1 == i) && !(q.1 + 1 == i && q.2.category == 2)) = ls') (hb : pc + 1 = b) : Pst own cc nL pc ls (.int x :: st) b ls' st := by
  intro p l e R s m args below meth c H locs cells slots la ad Q S hl k
  subst hb
  subst hv
  exact lv_istore_n S.1 S.2.1 hd hi hl hn (by rw [lvf]; rfl) (fun la' hl' => k la' hl')
theorem p_istore {i : Nat} {x : Int32} (hd : decode cc pc = .ok (.istore i, 2)) (hn : i < nL) (hv : (i, Value.int x) :: ls.filter (fun q => !(q.1 == i) && !(q.1 + 1 == i && q.2.category == 2)) = ls') (hb : pc + 2 = b) : Pst own cc nL pc ls (.int x :: st) b ls' st := by
  intro p l e R s m args below meth c H locs cells slots la ad Q S hl k
  subst hb
  subst hv
  exact lv_istore S.1 S.2.1 hd hl hn (by rw [lvf]; rfl) (fun la' hl' => k la' hl')
theorem p_astore_n {z : Fin 4} {i : Nat} {x : Nat} (hd : decode cc pc = .ok (.astore_n z, 1)) (hi : (z : Nat) = i) (hn : i < nL) (hv : (i, Value.ref x) :: ls.filter (fun q => !(q.1 == i) && !(q.1 + 1 == i && q.2.category == 2)) = ls') (hb : pc + 1 = b) : Pst own cc nL pc ls (.ref x :: st) b ls' st := by
  intro p l e R s m args below meth c H locs cells slots la ad Q S hl k
  subst hb
  subst hv
  exact lv_astore_n S.1 S.2.1 hd hi hl hn (by rw [lvf]; rfl) (fun la' hl' => k la' hl')
theorem p_astore {i : Nat} {x : Nat} (hd : decode cc pc = .ok (.astore i, 2)) (hn : i < nL) (hv : (i, Value.ref x) :: ls.filter (fun q => !(q.1 == i) && !(q.1 + 1 == i && q.2.category == 2)) = ls') (hb : pc + 2 = b) : Pst own cc nL pc ls (.ref x :: st) b ls' st := by
  intro p l e R s m args below meth c H locs cells slots la ad Q S hl k
  subst hb
  subst hv
  exact lv_astore S.1 S.2.1 hd hl hn (by rw [lvf]; rfl) (fun la' hl' => k la' hl')
theorem p_lstore_n {z : Fin 4} {i : Nat} {x : Int64} (hd : decode cc pc = .ok (.lstore_n z, 1)) (hi : (z : Nat) = i) (hn : i + 1 < nL) (hv : (i, Value.long x) :: ls.filter (fun q => !(q.1 == i) && (!(q.1 == i + 1) && !(q.1 + 1 == i && q.2.category == 2))) = ls') (hb : pc + 1 = b) : Pst own cc nL pc ls (.long x :: st) b ls' st := by
  intro p l e R s m args below meth c H locs cells slots la ad Q S hl k
  subst hb
  subst hv
  exact lv_lstore_n S.1 S.2.1 hd hi hl hn (by rw [lvf2]; rfl) (fun la' hl' => k la' hl')
theorem p_lstore {i : Nat} {x : Int64} (hd : decode cc pc = .ok (.lstore i, 2)) (hn : i + 1 < nL) (hv : (i, Value.long x) :: ls.filter (fun q => !(q.1 == i) && (!(q.1 == i + 1) && !(q.1 + 1 == i && q.2.category == 2))) = ls') (hb : pc + 2 = b) : Pst own cc nL pc ls (.long x :: st) b ls' st := by
  intro p l e R s m args below meth c H locs cells slots la ad Q S hl k
  subst hb
  subst hv
  exact lv_lstore S.1 S.2.1 hd hl hn (by rw [lvf2]; rfl) (fun la' hl' => k la' hl')
theorem p_iinc {i j : Nat} {z : Int} {x v : Int32} (hd : decode cc pc = .ok (.iinc i z, 3)) (hj : ls[j]? = some (i, .int x)) (hx : x + Int32.ofInt z = v) (hn : i < nL) (hv : (i, Value.int v) :: ls.filter (fun q => !(q.1 == i) && !(q.1 + 1 == i && q.2.category == 2)) = ls') (hb : pc + 3 = b) : Pst own cc nL pc ls st b ls' st := by
  intro p l e R s m args below meth c H locs cells slots la ad Q S hl k
  subst hb
  subst hv
  exact lv_iinc S.1 S.2.1 hd hl (k := j) (by rw [List.getElem?_map, hj]; rfl) hx hn (by rw [lvf]; rfl) (fun la' hl' => k la' hl')
theorem r_icmp_eq {x y : Int32} {off : Int} (hd : decode cc pc = .ok (.if_icmp .eq off, 3)) (ht : (pc : Int) + off = (b : Int)) {b2 : Nat} (hb : pc + 3 = b2) (kt : x = y → Rc own cc nL ret fr lo mc ms n sh G Q X kc ks b ls (st) I J) (kf : ¬ x = y → Rc own cc nL ret fr lo mc ms n sh G Q X kc ks b2 ls (st) I J) : Rc own cc nL ret fr lo mc ms n sh G Q X kc ks pc ls (.int y :: .int x :: st) I J := by
  intro p l e R s m args below meth c H locs cells slots la D cA ad A hfl S hr hlk hxt hR hkc hks hA hB hS hP hD hK hl
  subst hb
  exact lv_icmp_eq S.1 S.2.1 hd ht (fun h => kt h p l e R s m args below meth c H locs cells slots la D cA ad A hfl S hr hlk hxt hR hkc hks hA hB hS hP hD hK hl) (fun h => kf h p l e R s m args below meth c H locs cells slots la D cA ad A hfl S hr hlk hxt hR hkc hks hA hB hS hP hD hK hl)
theorem r_if_eq {x : Int32} {off : Int} (hd : decode cc pc = .ok (.ifCond .eq off, 3)) (ht : (pc : Int) + off = (b : Int)) {b2 : Nat} (hb : pc + 3 = b2) (kt : x = 0 → Rc own cc nL ret fr lo mc ms n sh G Q X kc ks b ls (st) I J) (kf : ¬ x = 0 → Rc own cc nL ret fr lo mc ms n sh G Q X kc ks b2 ls (st) I J) : Rc own cc nL ret fr lo mc ms n sh G Q X kc ks pc ls (.int x :: st) I J := by
  intro p l e R s m args below meth c H locs cells slots la D cA ad A hfl S hr hlk hxt hR hkc hks hA hB hS hP hD hK hl
  subst hb
  exact lv_if_eq S.1 S.2.1 hd ht (fun h => kt h p l e R s m args below meth c H locs cells slots la D cA ad A hfl S hr hlk hxt hR hkc hks hA hB hS hP hD hK hl) (fun h => kf h p l e R s m args below meth c H locs cells slots la D cA ad A hfl S hr hlk hxt hR hkc hks hA hB hS hP hD hK hl)
theorem r_icmp_ne {x y : Int32} {off : Int} (hd : decode cc pc = .ok (.if_icmp .ne off, 3)) (ht : (pc : Int) + off = (b : Int)) {b2 : Nat} (hb : pc + 3 = b2) (kt : ¬ x = y → Rc own cc nL ret fr lo mc ms n sh G Q X kc ks b ls (st) I J) (kf : x = y → Rc own cc nL ret fr lo mc ms n sh G Q X kc ks b2 ls (st) I J) : Rc own cc nL ret fr lo mc ms n sh G Q X kc ks pc ls (.int y :: .int x :: st) I J := by
  intro p l e R s m args below meth c H locs cells slots la D cA ad A hfl S hr hlk hxt hR hkc hks hA hB hS hP hD hK hl
  subst hb
  exact lv_icmp_ne S.1 S.2.1 hd ht (fun h => kt h p l e R s m args below meth c H locs cells slots la D cA ad A hfl S hr hlk hxt hR hkc hks hA hB hS hP hD hK hl) (fun h => kf h p l e R s m args below meth c H locs cells slots la D cA ad A hfl S hr hlk hxt hR hkc hks hA hB hS hP hD hK hl)
theorem r_if_ne {x : Int32} {off : Int} (hd : decode cc pc = .ok (.ifCond .ne off, 3)) (ht : (pc : Int) + off = (b : Int)) {b2 : Nat} (hb : pc + 3 = b2) (kt : ¬ x = 0 → Rc own cc nL ret fr lo mc ms n sh G Q X kc ks b ls (st) I J) (kf : x = 0 → Rc own cc nL ret fr lo mc ms n sh G Q X kc ks b2 ls (st) I J) : Rc own cc nL ret fr lo mc ms n sh G Q X kc ks pc ls (.int x :: st) I J := by
  intro p l e R s m args below meth c H locs cells slots la D cA ad A hfl S hr hlk hxt hR hkc hks hA hB hS hP hD hK hl
  subst hb
  exact lv_if_ne S.1 S.2.1 hd ht (fun h => kt h p l e R s m args below meth c H locs cells slots la D cA ad A hfl S hr hlk hxt hR hkc hks hA hB hS hP hD hK hl) (fun h => kf h p l e R s m args below meth c H locs cells slots la D cA ad A hfl S hr hlk hxt hR hkc hks hA hB hS hP hD hK hl)
theorem r_icmp_lt {x y : Int32} {off : Int} (hd : decode cc pc = .ok (.if_icmp .lt off, 3)) (ht : (pc : Int) + off = (b : Int)) {b2 : Nat} (hb : pc + 3 = b2) (kt : x < y → Rc own cc nL ret fr lo mc ms n sh G Q X kc ks b ls (st) I J) (kf : ¬ x < y → Rc own cc nL ret fr lo mc ms n sh G Q X kc ks b2 ls (st) I J) : Rc own cc nL ret fr lo mc ms n sh G Q X kc ks pc ls (.int y :: .int x :: st) I J := by
  intro p l e R s m args below meth c H locs cells slots la D cA ad A hfl S hr hlk hxt hR hkc hks hA hB hS hP hD hK hl
  subst hb
  exact lv_icmp_lt S.1 S.2.1 hd ht (fun h => kt h p l e R s m args below meth c H locs cells slots la D cA ad A hfl S hr hlk hxt hR hkc hks hA hB hS hP hD hK hl) (fun h => kf h p l e R s m args below meth c H locs cells slots la D cA ad A hfl S hr hlk hxt hR hkc hks hA hB hS hP hD hK hl)
theorem r_if_lt {x : Int32} {off : Int} (hd : decode cc pc = .ok (.ifCond .lt off, 3)) (ht : (pc : Int) + off = (b : Int)) {b2 : Nat} (hb : pc + 3 = b2) (kt : x < 0 → Rc own cc nL ret fr lo mc ms n sh G Q X kc ks b ls (st) I J) (kf : ¬ x < 0 → Rc own cc nL ret fr lo mc ms n sh G Q X kc ks b2 ls (st) I J) : Rc own cc nL ret fr lo mc ms n sh G Q X kc ks pc ls (.int x :: st) I J := by
  intro p l e R s m args below meth c H locs cells slots la D cA ad A hfl S hr hlk hxt hR hkc hks hA hB hS hP hD hK hl
  subst hb
  exact lv_if_lt S.1 S.2.1 hd ht (fun h => kt h p l e R s m args below meth c H locs cells slots la D cA ad A hfl S hr hlk hxt hR hkc hks hA hB hS hP hD hK hl) (fun h => kf h p l e R s m args below meth c H locs cells slots la D cA ad A hfl S hr hlk hxt hR hkc hks hA hB hS hP hD hK hl)
theorem r_icmp_ge {x y : Int32} {off : Int} (hd : decode cc pc = .ok (.if_icmp .ge off, 3)) (ht : (pc : Int) + off = (b : Int)) {b2 : Nat} (hb : pc + 3 = b2) (kt : y ≤ x → Rc own cc nL ret fr lo mc ms n sh G Q X kc ks b ls (st) I J) (kf : ¬ y ≤ x → Rc own cc nL ret fr lo mc ms n sh G Q X kc ks b2 ls (st) I J) : Rc own cc nL ret fr lo mc ms n sh G Q X kc ks pc ls (.int y :: .int x :: st) I J := by
  intro p l e R s m args below meth c H locs cells slots la D cA ad A hfl S hr hlk hxt hR hkc hks hA hB hS hP hD hK hl
  subst hb
  exact lv_icmp_ge S.1 S.2.1 hd ht (fun h => kt h p l e R s m args below meth c H locs cells slots la D cA ad A hfl S hr hlk hxt hR hkc hks hA hB hS hP hD hK hl) (fun h => kf h p l e R s m args below meth c H locs cells slots la D cA ad A hfl S hr hlk hxt hR hkc hks hA hB hS hP hD hK hl)
theorem r_if_ge {x : Int32} {off : Int} (hd : decode cc pc = .ok (.ifCond .ge off, 3)) (ht : (pc : Int) + off = (b : Int)) {b2 : Nat} (hb : pc + 3 = b2) (kt : 0 ≤ x → Rc own cc nL ret fr lo mc ms n sh G Q X kc ks b ls (st) I J) (kf : ¬ 0 ≤ x → Rc own cc nL ret fr lo mc ms n sh G Q X kc ks b2 ls (st) I J) : Rc own cc nL ret fr lo mc ms n sh G Q X kc ks pc ls (.int x :: st) I J := by
  intro p l e R s m args below meth c H locs cells slots la D cA ad A hfl S hr hlk hxt hR hkc hks hA hB hS hP hD hK hl
  subst hb
  exact lv_if_ge S.1 S.2.1 hd ht (fun h => kt h p l e R s m args below meth c H locs cells slots la D cA ad A hfl S hr hlk hxt hR hkc hks hA hB hS hP hD hK hl) (fun h => kf h p l e R s m args below meth c H locs cells slots la D cA ad A hfl S hr hlk hxt hR hkc hks hA hB hS hP hD hK hl)
theorem r_icmp_gt {x y : Int32} {off : Int} (hd : decode cc pc = .ok (.if_icmp .gt off, 3)) (ht : (pc : Int) + off = (b : Int)) {b2 : Nat} (hb : pc + 3 = b2) (kt : y < x → Rc own cc nL ret fr lo mc ms n sh G Q X kc ks b ls (st) I J) (kf : ¬ y < x → Rc own cc nL ret fr lo mc ms n sh G Q X kc ks b2 ls (st) I J) : Rc own cc nL ret fr lo mc ms n sh G Q X kc ks pc ls (.int y :: .int x :: st) I J := by
  intro p l e R s m args below meth c H locs cells slots la D cA ad A hfl S hr hlk hxt hR hkc hks hA hB hS hP hD hK hl
  subst hb
  exact lv_icmp_gt S.1 S.2.1 hd ht (fun h => kt h p l e R s m args below meth c H locs cells slots la D cA ad A hfl S hr hlk hxt hR hkc hks hA hB hS hP hD hK hl) (fun h => kf h p l e R s m args below meth c H locs cells slots la D cA ad A hfl S hr hlk hxt hR hkc hks hA hB hS hP hD hK hl)
theorem r_if_gt {x : Int32} {off : Int} (hd : decode cc pc = .ok (.ifCond .gt off, 3)) (ht : (pc : Int) + off = (b : Int)) {b2 : Nat} (hb : pc + 3 = b2) (kt : 0 < x → Rc own cc nL ret fr lo mc ms n sh G Q X kc ks b ls (st) I J) (kf : ¬ 0 < x → Rc own cc nL ret fr lo mc ms n sh G Q X kc ks b2 ls (st) I J) : Rc own cc nL ret fr lo mc ms n sh G Q X kc ks pc ls (.int x :: st) I J := by
  intro p l e R s m args below meth c H locs cells slots la D cA ad A hfl S hr hlk hxt hR hkc hks hA hB hS hP hD hK hl
  subst hb
  exact lv_if_gt S.1 S.2.1 hd ht (fun h => kt h p l e R s m args below meth c H locs cells slots la D cA ad A hfl S hr hlk hxt hR hkc hks hA hB hS hP hD hK hl) (fun h => kf h p l e R s m args below meth c H locs cells slots la D cA ad A hfl S hr hlk hxt hR hkc hks hA hB hS hP hD hK hl)
theorem r_icmp_le {x y : Int32} {off : Int} (hd : decode cc pc = .ok (.if_icmp .le off, 3)) (ht : (pc : Int) + off = (b : Int)) {b2 : Nat} (hb : pc + 3 = b2) (kt : x ≤ y → Rc own cc nL ret fr lo mc ms n sh G Q X kc ks b ls (st) I J) (kf : ¬ x ≤ y → Rc own cc nL ret fr lo mc ms n sh G Q X kc ks b2 ls (st) I J) : Rc own cc nL ret fr lo mc ms n sh G Q X kc ks pc ls (.int y :: .int x :: st) I J := by
  intro p l e R s m args below meth c H locs cells slots la D cA ad A hfl S hr hlk hxt hR hkc hks hA hB hS hP hD hK hl
  subst hb
  exact lv_icmp_le S.1 S.2.1 hd ht (fun h => kt h p l e R s m args below meth c H locs cells slots la D cA ad A hfl S hr hlk hxt hR hkc hks hA hB hS hP hD hK hl) (fun h => kf h p l e R s m args below meth c H locs cells slots la D cA ad A hfl S hr hlk hxt hR hkc hks hA hB hS hP hD hK hl)
theorem r_if_le {x : Int32} {off : Int} (hd : decode cc pc = .ok (.ifCond .le off, 3)) (ht : (pc : Int) + off = (b : Int)) {b2 : Nat} (hb : pc + 3 = b2) (kt : x ≤ 0 → Rc own cc nL ret fr lo mc ms n sh G Q X kc ks b ls (st) I J) (kf : ¬ x ≤ 0 → Rc own cc nL ret fr lo mc ms n sh G Q X kc ks b2 ls (st) I J) : Rc own cc nL ret fr lo mc ms n sh G Q X kc ks pc ls (.int x :: st) I J := by
  intro p l e R s m args below meth c H locs cells slots la D cA ad A hfl S hr hlk hxt hR hkc hks hA hB hS hP hD hK hl
  subst hb
  exact lv_if_le S.1 S.2.1 hd ht (fun h => kt h p l e R s m args below meth c H locs cells slots la D cA ad A hfl S hr hlk hxt hR hkc hks hA hB hS hP hD hK hl) (fun h => kf h p l e R s m args below meth c H locs cells slots la D cA ad A hfl S hr hlk hxt hR hkc hks hA hB hS hP hD hK hl)
theorem r_val {x y : Int32} (h : x = y) (k : Rc own cc nL ret fr lo mc ms n sh G Q X kc ks pc ls (.int y :: st) I J) : Rc own cc nL ret fr lo mc ms n sh G Q X kc ks pc ls (.int x :: st) I J := by rw [h]; exact k
theorem r_mem {I2 : mI} (h : I = I2) (k : Rc own cc nL ret fr lo mc ms n sh G Q X kc ks pc ls (st) I2 J) : Rc own cc nL ret fr lo mc ms n sh G Q X kc ks pc ls (st) I J := by rw [h]; exact k
/-- a field by its place in the pool: the class, the field -/
def fl (own : String) (ix ci k : Nat) (C : String) (T : u_T) (N : Nat) : Prop := vwCl[ci]? = some (C, T, N) ∧ k < N ∧ Cond.fieldLink own ix C (T k).2.1 (T k).2.2.1 ∈ TT ∧ (∀ w ∈ u_ws C T N, w ∈ TT) ∧ (T k).1 = C
/-- .. that may be written by any method -/
def fw (ci k : Nat) (T : u_T) (N : Nat) : Prop := (∀ k, k < N → parseFieldDescriptor (T k).2.2.1 = some (mty ci k)) ∧ (∀ a, a < N → ∀ b, b < N → a ≠ b → (T a).2.1 ≠ (T b).2.1) ∧ (T k).2.2.2 = false
theorem mcell_o {cA : Nat → ClassId} {ad : Nat → Nat} {I : mI} {J : mJ} {G : mG} {id ci N : Nat} {x : (Nat × Nat) ⊕ (Nat × Nat)} (h : x = .inl (ci, N)) : mcell cA ad I J G id x = .inr (ci, (List.range N).map (mf ad I G ci id)) := by subst h; rfl
theorem mfs_at {ad : Nat → Nat} {I : mI} {G : mG} {ci id N k : Nat} (h : k < N) : ((List.range N).map (mf ad I G ci id))[k]? = some (mf ad I G ci id k) := by simp [h]
theorem r_geti {ix ci k id N : Nat} {C : String} {T : u_T} {v : Int32} (f : fl own ix ci k C T N) (hm : mr ci k = false) (hid : id < n) (hsh : sh id = .inl (ci, N)) (hd : decode cc pc = .ok (.getfield ix, 3)) (hv : I id k = v) (hb : pc + 3 = b) (kk : Rc own cc nL ret fr lo mc ms n sh G Q X kc ks b ls (.int v :: st) I J) : Rc own cc nL ret fr lo mc ms n sh G Q X kc ks pc ls (.ref id :: st) I J := by
  intro p l e R s m args below meth c H locs cells slots la D cA ad A hfl S hr hlk hxt hR hkc hks hA hB hS hP hD hK hl
  subst hb
  subst hv
  obtain ⟨f1, f2, f3, f4, f5⟩ := f
  refine va_get S.1 S.2.1 S.2.2.2.2 f4 S.2.2.2.1 hK hP id (by rw [mws_at hid, mcell_o hsh]) f1 k f2 (S.2.2.2.2 _ f3) (fun x h => by rw [← f5]; exact h) (mfs_at f2) hd ?_
  rw [show mf ad I G ci id k = mz ad (.int (I id k)) by simp [mf, hm, mz]]
  exact kk p l e R s m args below meth c H locs cells slots la D cA ad A hfl S hr hlk hxt hR hkc hks hA hB hS hP hD hK hl
theorem r_geta {ix ci k id N id2 : Nat} {C : String} {T : u_T} (f : fl own ix ci k C T N) (hm : mr ci k = true) (hid : id < n) (hsh : sh id = .inl (ci, N)) (hd : decode cc pc = .ok (.getfield ix, 3)) (hg : G id k = some id2) (hb : pc + 3 = b) (kk : Rc own cc nL ret fr lo mc ms n sh G Q X kc ks b ls (.ref id2 :: st) I J) : Rc own cc nL ret fr lo mc ms n sh G Q X kc ks pc ls (.ref id :: st) I J := by
  intro p l e R s m args below meth c H locs cells slots la D cA ad A hfl S hr hlk hxt hR hkc hks hA hB hS hP hD hK hl
  subst hb
  obtain ⟨f1, f2, f3, f4, f5⟩ := f
  refine va_get S.1 S.2.1 S.2.2.2.2 f4 S.2.2.2.1 hK hP id (by rw [mws_at hid, mcell_o hsh]) f1 k f2 (S.2.2.2.2 _ f3) (fun x h => by rw [← f5]; exact h) (mfs_at f2) hd ?_
  rw [show mf ad I G ci id k = mz ad (.ref id2) by simp [mf, hm, mz, hg, va_rf]]
  exact kk p l e R s m args below meth c H locs cells slots la D cA ad A hfl S hr hlk hxt hR hkc hks hA hB hS hP hD hK hl
theorem mfs_set {ad : Nat → Nat} {I : mI} {G : mG} {ci id N k : Nat} {v : Int32} (hm : mr ci k = false) : ((List.range N).map (mf ad I G ci id)).set k (.int v) = (List.range N).map (mf ad (up2 I id k v) G ci id) := by
  apply List.ext_getElem?
  intro j
  by_cases hj : j = k
  · subst hj
    by_cases h : j < N
    · rw [List.getElem?_set_self (by simpa using h), mfs_at h]
      simp [mf, hm, up2]
    · rw [List.getElem?_eq_none (by simp; omega), List.getElem?_eq_none (by simp; omega)]
  · rw [List.getElem?_set_ne (Ne.symm hj)]
    by_cases h : j < N
    · rw [mfs_at h, mfs_at h]
      simp [mf, up2, hj]
    · rw [List.getElem?_eq_none (by simp; omega), List.getElem?_eq_none (by simp; omega)]
theorem r_puti {ix ci k id N : Nat} {C : String} {T : u_T} {v : Int32} (f : fl own ix ci k C T N) (w : fw ci k T N) (hm : mr ci k = false) (hid : id < n) (hsh : sh id = .inl (ci, N)) (hn : narrow (mty ci k) (.int v) = .int v) (hfit : fits (mty ci k) (.int v) = true) (hd : decode cc pc = .ok (.putfield ix, 3)) (hb : pc + 3 = b) (kk : Rc own cc nL ret fr lo mc ms n sh G Q X kc ks b ls (st) (up2 I id k v) J) : Rc own cc nL ret fr lo mc ms n sh G Q X kc ks pc ls (.int v :: .ref id :: st) I J := by
  intro p l e R s m args below meth c H locs cells slots la D cA ad A hfl S hr hlk hxt hR hkc hks hA hB hS hP hD hK hl
  subst hb
  obtain ⟨f1, f2, f3, f4, f5⟩ := f
  obtain ⟨w1, w2, w3⟩ := w
  refine va_put (ty := mty ci k) (v := .int v) S.1 S.2.1 S.2.2.2.2 f4 (mty ci) w1 w2 S.2.2.2.1 hK hP hD hS id (by rw [mws_at hid, mcell_o hsh]) f1 k f2 (S.2.2.2.2 _ f3) (fun x h => by rw [← f5]; exact h) w3 (w1 k f2) hn hfit (by simpa using f2) hd (fun H locs hP hD hS => ?_)
  have eqw : (mws cA ad n sh I J G).set id (ad id, .inr (ci, ((List.range N).map (mf ad I G ci id)).set k (.int v))) = mws cA ad n sh (up2 I id k v) J G := by
    rw [mfs_set hm]
    exact mws_set (mcell_o hsh) (fun b hb => ⟨funext fun j => up2_a hb, rfl⟩)
  rw [eqw] at hP hD
  exact kk p l e R s m args below meth c H locs cells slots la D cA ad A hfl S hr hlk hxt hR hkc hks hA hB hS hP hD hK hl
theorem mcell_ia {cA : Nat → ClassId} {ad : Nat → Nat} {I : mI} {J : mJ} {G : mG} {id len : Nat} {x : (Nat × Nat) ⊕ (Nat × Nat)} (h : x = .inr (0, len)) : mcell cA ad I J G id x = .inl (cA 0, len, .inl (I id)) := by subst h; rfl
theorem r_iald {id len j : Nat} {i v : Int32} (hid : id < n) (hsh : sh id = .inr (0, len)) (hd : decode cc pc = .ok (.iaload, 1)) (hi : i = nI j) (hj : j < len ∧ len < 2 ^ 31) (hv : I id j = v) (hb : pc + 1 = b) (kk : Rc own cc nL ret fr lo mc ms n sh G Q X kc ks b ls (.int v :: st) I J) : Rc own cc nL ret fr lo mc ms n sh G Q X kc ks pc ls (.int i :: .ref id :: st) I J := by
  intro p l e R s m args below meth c H locs cells slots la D cA ad A hfl S hr hlk hxt hR hkc hks hA hB hS hP hD hK hl
  subst hb
  subst hv
  subst hi
  refine va_iald S.1 S.2.1 hK hP id 0 (by rw [mws_at hid, mcell_ia hsh]) rfl (vp_in_nI hj.1 hj.2) hd ?_
  rw [nI_clamp (Nat.lt_trans hj.1 hj.2)]
  exact kk p l e R s m args below meth c H locs cells slots la D cA ad A hfl S hr hlk hxt hR hkc hks hA hB hS hP hD hK hl
theorem r_iast {id len j : Nat} {i v : Int32} (hid : id < n) (hsh : sh id = .inr (0, len)) (hd : decode cc pc = .ok (.iastore, 1)) (hi : i = nI j) (hj : j < len ∧ len < 2 ^ 31) (hb : pc + 1 = b) (kk : Rc own cc nL ret fr lo mc ms n sh G Q X kc ks b ls (st) (up2 I id j v) J) : Rc own cc nL ret fr lo mc ms n sh G Q X kc ks pc ls (.int v :: .int i :: .ref id :: st) I J := by
  intro p l e R s m args below meth c H locs cells slots la D cA ad A hfl S hr hlk hxt hR hkc hks hA hB hS hP hD hK hl
  subst hb
  subst hi
  refine va_iast S.1 S.2.1 hK hP hD hS id 0 (by rw [mws_at hid, mcell_ia hsh]) rfl (vp_in_nI hj.1 hj.2) hd (fun H locs hP hD hS => ?_)
  rw [nI_clamp (Nat.lt_trans hj.1 hj.2)] at hP hD
  have eqw : (mws cA ad n sh I J G).set id (ad id, .inl (cA 0, len, .inl (upd (I id) j v))) = mws cA ad n sh (up2 I id j v) J G :=
    mws_set (by rw [mcell_ia hsh]; congr 4; funext q; simp [up2, upd]) (fun b hb => ⟨funext fun j => up2_a hb, rfl⟩)
  rw [eqw] at hP hD
  exact kk p l e R s m args below meth c H locs cells slots la D cA ad A hfl S hr hlk hxt hR hkc hks hA hB hS hP hD hK hl
theorem mcell_ba {cA : Nat → ClassId} {ad : Nat → Nat} {I : mI} {J : mJ} {G : mG} {id len : Nat} {x : (Nat × Nat) ⊕ (Nat × Nat)} (h : x = .inr (1, len)) : mcell cA ad I J G id x = .inl (cA 1, len, .inl (I id)) := by subst h; rfl
theorem r_bald {id len j : Nat} {i v : Int32} (hid : id < n) (hsh : sh id = .inr (1, len)) (hd : decode cc pc = .ok (.baload, 1)) (hi : i = nI j) (hj : j < len ∧ len < 2 ^ 31) (hv : I id j = v) (hb : pc + 1 = b) (kk : Rc own cc nL ret fr lo mc ms n sh G Q X kc ks b ls (.int v :: st) I J) : Rc own cc nL ret fr lo mc ms n sh G Q X kc ks pc ls (.int i :: .ref id :: st) I J := by
  intro p l e R s m args below meth c H locs cells slots la D cA ad A hfl S hr hlk hxt hR hkc hks hA hB hS hP hD hK hl
  subst hb
  subst hv
  subst hi
  refine va_bald S.1 S.2.1 hK hP id 1 (by rw [mws_at hid, mcell_ba hsh]) rfl (vp_in_nI hj.1 hj.2) hd ?_
  rw [nI_clamp (Nat.lt_trans hj.1 hj.2)]
  exact kk p l e R s m args below meth c H locs cells slots la D cA ad A hfl S hr hlk hxt hR hkc hks hA hB hS hP hD hK hl
theorem r_bast {id len j : Nat} {i v : Int32} (hid : id < n) (hsh : sh id = .inr (1, len)) (hd : decode cc pc = .ok (.bastore, 1)) (hi : i = nI j) (hj : j < len ∧ len < 2 ^ 31) (hb : pc + 1 = b) (kk : Rc own cc nL ret fr lo mc ms n sh G Q X kc ks b ls (st) (up2 I id j (vp_nar .byte v)) J) : Rc own cc nL ret fr lo mc ms n sh G Q X kc ks pc ls (.int v :: .int i :: .ref id :: st) I J := by
  intro p l e R s m args below meth c H locs cells slots la D cA ad A hfl S hr hlk hxt hR hkc hks hA hB hS hP hD hK hl
  subst hb
  subst hi
  refine va_bast S.1 S.2.1 hK hP hD hS id 1 (by rw [mws_at hid, mcell_ba hsh]) rfl (vp_in_nI hj.1 hj.2) hd (fun H locs hP hD hS => ?_)
  rw [nI_clamp (Nat.lt_trans hj.1 hj.2)] at hP hD
  have eqw : (mws cA ad n sh I J G).set id (ad id, .inl (cA 1, len, .inl (upd (I id) j (vp_nar .byte v)))) = mws cA ad n sh (up2 I id j (vp_nar .byte v)) J G :=
    mws_set (by rw [mcell_ba hsh]; congr 4; funext q; simp [up2, upd]) (fun b hb => ⟨funext fun j => up2_a hb, rfl⟩)
  rw [eqw] at hP hD
  exact kk p l e R s m args below meth c H locs cells slots la D cA ad A hfl S hr hlk hxt hR hkc hks hA hB hS hP hD hK hl
theorem mcell_za {cA : Nat → ClassId} {ad : Nat → Nat} {I : mI} {J : mJ} {G : mG} {id len : Nat} {x : (Nat × Nat) ⊕ (Nat × Nat)} (h : x = .inr (2, len)) : mcell cA ad I J G id x = .inl (cA 2, len, .inl (I id)) := by subst h; rfl
theorem r_zald {id len j : Nat} {i v : Int32} (hid : id < n) (hsh : sh id = .inr (2, len)) (hd : decode cc pc = .ok (.baload, 1)) (hi : i = nI j) (hj : j < len ∧ len < 2 ^ 31) (hv : I id j = v) (hb : pc + 1 = b) (kk : Rc own cc nL ret fr lo mc ms n sh G Q X kc ks b ls (.int v :: st) I J) : Rc own cc nL ret fr lo mc ms n sh G Q X kc ks pc ls (.int i :: .ref id :: st) I J := by
  intro p l e R s m args below meth c H locs cells slots la D cA ad A hfl S hr hlk hxt hR hkc hks hA hB hS hP hD hK hl
  subst hb
  subst hv
  subst hi
  refine va_zald S.1 S.2.1 hK hP id 2 (by rw [mws_at hid, mcell_za hsh]) rfl (vp_in_nI hj.1 hj.2) hd ?_
  rw [nI_clamp (Nat.lt_trans hj.1 hj.2)]
  exact kk p l e R s m args below meth c H locs cells slots la D cA ad A hfl S hr hlk hxt hR hkc hks hA hB hS hP hD hK hl
theorem r_zast {id len j : Nat} {i v : Int32} (hid : id < n) (hsh : sh id = .inr (2, len)) (hd : decode cc pc = .ok (.bastore, 1)) (hi : i = nI j) (hj : j < len ∧ len < 2 ^ 31) (hb : pc + 1 = b) (kk : Rc own cc nL ret fr lo mc ms n sh G Q X kc ks b ls (st) (up2 I id j (vp_nar .boolean v)) J) : Rc own cc nL ret fr lo mc ms n sh G Q X kc ks pc ls (.int v :: .int i :: .ref id :: st) I J := by
  intro p l e R s m args below meth c H locs cells slots la D cA ad A hfl S hr hlk hxt hR hkc hks hA hB hS hP hD hK hl
  subst hb
  subst hi
  refine va_zast S.1 S.2.1 hK hP hD hS id 2 (by rw [mws_at hid, mcell_za hsh]) rfl (vp_in_nI hj.1 hj.2) hd (fun H locs hP hD hS => ?_)
  rw [nI_clamp (Nat.lt_trans hj.1 hj.2)] at hP hD
  have eqw : (mws cA ad n sh I J G).set id (ad id, .inl (cA 2, len, .inl (upd (I id) j (vp_nar .boolean v)))) = mws cA ad n sh (up2 I id j (vp_nar .boolean v)) J G :=
    mws_set (by rw [mcell_za hsh]; congr 4; funext q; simp [up2, upd]) (fun b hb => ⟨funext fun j => up2_a hb, rfl⟩)
  rw [eqw] at hP hD
  exact kk p l e R s m args below meth c H locs cells slots la D cA ad A hfl S hr hlk hxt hR hkc hks hA hB hS hP hD hK hl
theorem va_alda {p : Program} {l : Launch} {e : Env} {R : Room} {s : State} {m : MethodId} {args : Array Value} {below : List Frame} {meth : Method} {c : Code} {H : Heap} {locs : List Loc} {cells slots : Nat} {Q : State → Prop} {ls : Array Slot} {rest : List Value} {D : va_G} {cl : List vw_C} {a : Nat} {tys : List (ClassId × FieldType)} {ws : va_W} {ty : FieldType}
    (hexec : p.tables.exec = Jvm.exec) (hb : c.code = cc) (hty : ty = .array .int ∨ ∃ C, ty = .object C) (hK : va_K D cl tys s) (hP : va_P D cl ws H) (q0 t0 : Nat) {cA : ClassId} {n : Nat} {f : Nat → Option Nat} (ha : ws[q0]? = some (a, .inl (cA, n, .inr (.inr (.inr (.inr f)))))) (ht : tys[t0]? = some (cA, ty)) {i : Int32} (hin : vp_in i n) (hdg : decode cc pc = .ok (.aaload, 1))
    (kk : W p l e R s m args below meth c H locs cells slots Q (F0 m (pc + 1) ls (va_rf (f i.toNatClampNeg) :: rest))) : W p l e R s m args below meth c H locs cells slots Q (F0 m pc ls (.int i :: .ref a :: rest)) := by
  have hlt : i.toNatClampNeg < n := Nat.not_le.mp fun q => hin (Or.inr q)
  rcases hty with rfl | ⟨C, rfl⟩
  · exact W.aald (v := va_rf (f i.toNatClampNeg)) (ty := .array .int) hexec hb (hP q0 _ ha) ((hK.2 t0 _ ht).1 n (fun j => va_rf (f j))) rfl (fun q => by cases q) (by show ¬ (i < 0 ∨ (arrV _ _ _).slots.size ≤ _); rw [arrV_size]; exact hin) (by show (arrV _ _ _).slots[_]? = _; rw [arrV_read _ _ hlt]) rfl rfl hdg kk
  · exact W.aald (v := va_rf (f i.toNatClampNeg)) (ty := .object C) hexec hb (hP q0 _ ha) ((hK.2 t0 _ ht).1 n (fun j => va_rf (f j))) rfl (fun q => by cases q) (by show ¬ (i < 0 ∨ (arrV _ _ _).slots.size ≤ _); rw [arrV_size]; exact hin) (by show (arrV _ _ _).slots[_]? = _; rw [arrV_read _ _ hlt]) rfl rfl hdg kk
theorem r_aald {id len j t id2 : Nat} {i : Int32} (hid : id < n) (hsh : sh id = .inr (t, len)) (ht : t = 4 ∨ t = 5) (hd : decode cc pc = .ok (.aaload, 1)) (hi : i = nI j) (hj : j < len ∧ len < 2 ^ 31) (hg : G id j = some id2) (hb : pc + 1 = b) (kk : Rc own cc nL ret fr lo mc ms n sh G Q X kc ks b ls (.ref id2 :: st) I J) : Rc own cc nL ret fr lo mc ms n sh G Q X kc ks pc ls (.int i :: .ref id :: st) I J := by
  intro p l e R s m args below meth c H locs cells slots la D cA ad A hfl S hr hlk hxt hR hkc hks hA hB hS hP hD hK hl
  subst hb
  subst hi
  rcases ht with rfl | rfl
  · refine va_alda (ty := .array .int) S.1 S.2.1 (Or.inl rfl) hK hP id 4 (f := fun k => (G id k).map ad) (by rw [mws_at hid]; rw [hsh]; rfl) rfl (vp_in_nI hj.1 hj.2) hd ?_
    rw [nI_clamp (Nat.lt_trans hj.1 hj.2), hg]
    exact kk p l e R s m args below meth c H locs cells slots la D cA ad A hfl S hr hlk hxt hR hkc hks hA hB hS hP hD hK hl
  · refine va_alda (ty := .object "TwinBoot$Device") S.1 S.2.1 (Or.inr ⟨_, rfl⟩) hK hP id 5 (f := fun k => (G id k).map ad) (by rw [mws_at hid]; rw [hsh]; rfl) rfl (vp_in_nI hj.1 hj.2) hd ?_
    rw [nI_clamp (Nat.lt_trans hj.1 hj.2), hg]
    exact kk p l e R s m args below meth c H locs cells slots la D cA ad A hfl S hr hlk hxt hR hkc hks hA hB hS hP hD hK hl
theorem r_iret {v : Int32} {ty : FieldType} (hd : decode cc pc = .ok (.ireturn, 1)) (hret : ret = some ty) (hn : narrow ty (.int v) = .int v) (hq : Q (some (.int v)) I J) : Rc own cc nL ret fr lo mc ms n sh G Q X kc ks pc ls (.int v :: []) I J := by
  intro p l e R s m args below meth c H locs cells slots la D cA ad A hfl S hr hlk hxt hR hkc hks hA hB hS hP hD hK hl
  refine W.widen (k := mc) (n := ms) (by omega) (by omega) (vx_ret ?_)
  exact W.zret S.1 S.2.1 (hr.trans hret) hn (fun t ht hW => ⟨⟨some (.int v), I, J, rfl, hq, by rw [ht]; exact hP, hD, va_K.moved hW.alike hK⟩, hS.F ht⟩) hS.2.2 hd hlk
theorem r_vret (hd : decode cc pc = .ok (.return_, 1)) (hret : ret = none) (hq : Q none I J) : Rc own cc nL ret fr lo mc ms n sh G Q X kc ks pc ls ([]) I J := by
  intro p l e R s m args below meth c H locs cells slots la D cA ad A hfl S hr hlk hxt hR hkc hks hA hB hS hP hD hK hl
  refine W.widen (k := mc) (n := ms) (by omega) (by omega) (vx_ret ?_)
  exact W.vret S.1 S.2.1 (hr.trans hret) (fun t ht hW => ⟨⟨none, I, J, rfl, hq, by rw [ht]; exact hP, hD, va_K.moved hW.alike hK⟩, hS.F ht⟩) hS.2.2 hd hlk
theorem r_aret {id : Nat} {ty : FieldType} (hd : decode cc pc = .ok (.areturn, 1)) (hret : ret = some ty) (hrt : (∃ z, ty = .object z) ∨ ∃ t, ty = .array t) (hq : Q (some (.ref id)) I J) : Rc own cc nL ret fr lo mc ms n sh G Q X kc ks pc ls (.ref id :: []) I J := by
  intro p l e R s m args below meth c H locs cells slots la D cA ad A hfl S hr hlk hxt hR hkc hks hA hB hS hP hD hK hl
  refine W.widen (k := mc) (n := ms) (by omega) (by omega) (vx_ret ?_)
  exact W.aret S.1 S.2.1 (hr.trans hret) hrt (Or.inr ⟨_, rfl⟩) (fun t ht hW => ⟨⟨some (.ref id), I, J, rfl, hq, by rw [ht]; exact hP, hD, va_K.moved hW.alike hK⟩, hS.F ht⟩) hS.2.2 hd hlk
end ROWS

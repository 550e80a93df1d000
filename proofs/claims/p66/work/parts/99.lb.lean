/-! THE JDK'S TEXTS: rows -/
/-- a field that the class above declares -/
def fl2 (own : String) (ix ci k : Nat) (C : String) (T : u_T) (N : Nat) : Prop := vwCl[ci]? = some (C, T, N) ∧ k < N ∧ Cond.fieldLink own ix (T k).1 (T k).2.1 (T k).2.2.1 ∈ TT ∧ (∀ w ∈ u_ws C T N, w ∈ TT)
def cW (i : Nat) : Nat := cLen.getD i 0
def cB (i j : Nat) : Int32 := (cByt.getD i []).getD j 0
theorem cW_le {i : Nat} (hi : i < 4) : cW i ≤ 20 := by
  have h : ∀ i : Nat, i < 4 → cW i ≤ 20 := by decide
  exact h i hi
theorem cB_fit {i j : Nat} (hi : i < 4) (hj : j < cW i) : fits .byte (.int (cB i j)) = true := by
  have h : ∀ i : Nat, i < 4 → ∀ j : Nat, j < 20 → fits .byte (.int (cB i j)) = true := by decide +kernel
  exact h i hi j (Nat.lt_of_lt_of_le hj (cW_le hi))
/-- n of row a, from sp on, stand in row b from dp on -/
def cpf (I : mI) (f : Nat → Int32) (b sp dp n : Nat) : mI := fun c j => if c = b then va_cpy f (I b) sp dp n j else I c j
theorem cpf_off {I : mI} {f : Nat → Int32} {b sp dp n c : Nat} (h : c ≠ b) : cpf I f b sp dp n c = I c := funext fun _ => if_neg h
theorem cpf_at {I : mI} {f : Nat → Int32} {b sp dp n j : Nat} : cpf I f b sp dp n b j = va_cpy f (I b) sp dp n j := if_pos rfl
section VCT
variable {p : Program} {l : Launch} {e : Env} {R : Room} {s : State} {m : MethodId} {args : Array Value} {below : List Frame} {meth : Method} {c : Code} {H : Heap} {locs : List Jvm.Loc} {cells slots : Nat} {Q : State → Prop}
variable {cc : ByteArray} {pc : Nat} {ls : Array Slot} {rest : List Value} {D : va_G} {cl : List vw_C} {A : Nat → Prop} {a : Nat} {tys : List (ClassId × FieldType)} {ws : va_W} {H0 : Heap}
/-- System.arraycopy of bytes, from a row of the background -/
theorem va_copyT {cc : ByteArray} (hexec : p.tables.exec = Jvm.exec) (hb : c.code = cc) (hml : c.maxLocals = ls.size) {own : String} {index : Nat} (hown : s.vm.findClass own = some m.cls) (hlink : (Cond.methodLink own index arraycopyName).before args s = true) (hnat : (Cond.native arraycopyName).before args s = true) (hstat : (Cond.static arraycopyName).before args s = true) (hini : (Cond.initialized "java/lang/System").before args s = true)
    (hK : va_K D cl tys s) (hP : va_P D cl ws H) (hD : va_D A ws) (hS : va_S A s.heap H locs) {b0 n0 : Nat} {f : Nat → Int32} (hX : va_T .byte b0 n0 (fun j => .int (f j)) A s s.heap) (q1 t1 : Nat) {c1 : ClassId} {n1 : Nat} {g : Nat → Int32} (ha1 : ws[q1]? = some (a, .inl (c1, n1, .inl g))) (ht1 : tys[t1]? = some (c1, .byte))
    {sp dp n : Int32} (h1 : ¬ sp < 0) (h2 : ¬ dp < 0) (h3 : ¬ n < 0) (h4 : sp.toNatClampNeg + n.toNatClampNeg ≤ n0) (h5 : dp.toNatClampNeg + n.toNatClampNeg ≤ n1) (hfit : ∀ i, i < n.toNatClampNeg → fits .byte (.int (f (sp.toNatClampNeg + i))) = true)
    (hframes : 1 ≤ R.frames) (hlocals : (rest.map fun v => v.category).sum + (nativeFrameWords "java/lang/System" "arraycopy" 5 + 11) ≤ R.locals) (hdg : decode cc pc = .ok (.invokestatic index, 3))
    (kk : ∀ (H1 : Heap) (locs1 : List Jvm.Loc), va_P D cl (ws.set q1 (a, .inl (c1, n1, .inl (va_cpy f g sp.toNatClampNeg dp.toNatClampNeg n.toNatClampNeg)))) H1 → va_D A (ws.set q1 (a, .inl (c1, n1, .inl (va_cpy f g sp.toNatClampNeg dp.toNatClampNeg n.toNatClampNeg)))) → va_S A s.heap H1 locs1 → W p l e R s m args below meth c H1 locs1 cells slots Q (F0 m (pc + 3) ls rest)) : W p l e R s m args below meth c H locs cells slots Q (F0 m pc ls (.int n :: .int dp :: .ref a :: .int sp :: .ref b0 :: rest)) := by
  have nn : ∀ z : Int32, ¬ z < 0 → z.toInt = (z.toNatClampNeg : Int) := by
    intro z hz
    have hz0 : (0 : Int) ≤ z.toInt := by
      have := Int32.not_lt.mp hz
      simpa using Int32.le_iff_toInt_le.mp this
    show z.toInt = ((z.toInt.toNat : Nat) : Int)
    omega
  intro T hT X
  obtain ⟨scr, hs1, hs2, hs3, hs4, hs4b, hs5, hbA⟩ := hX
  have hbl : b0 < s.heap.size := (Array.getElem?_eq_some_iff.mp hs1).1
  have hc0 : H[b0]? = some scr := by rw [hS.2.1 b0 hbl hbA]; exact hs1
  have hc1 : H[a]? = some (vp_cell c1 (n1, .inl g)) := hP q1 _ ha1
  obtain ⟨hs6, k0, hk0, cm0, hkk0⟩ := hs2
  obtain ⟨-, k1, hk1, cm1, hkk1⟩ := (hK.2 t1 _ ht1).1 n1 (fun j => .int (g j))
  obtain ⟨vm', X', step⟩ := X.arraycopy hexec hown hlink hnat hstat hini (src := b0) (dst := a) (cs := scr) (cd := vp_cell c1 (n1, .inl g)) (srcPos := sp) (destPos := dp) (n := n) (by rw [hT]; exact hc0) (by rw [hT]; exact hc1)
    hs6 (fun _ h => by cases h) hs3 (fun h => by cases h) hk0 hk1 hkk0 hkk1 (by simp [refKind]) h1 h2 h3
    (by rw [nn sp h1, nn n h3]; omega)
    (by rw [nn dp h2, nn n h3]; show ¬ _ > ((arrV c1 n1 (fun j => .int (g j))).slots.size : Int); rw [arrV_size]; omega)
    (fun vm₁ _ i hi => by
      have e : scr.slots.getD (sp.toNatClampNeg + i) .null = .int (f (sp.toNatClampNeg + i)) := by
        rw [Array.getD_eq_getD_getElem?, hs5 _ (by omega)]
        rfl
      refine ⟨?_, ?_⟩
      · rw [e]
        exact hfit i hi
      · rw [e]
        exact trivial)
    (g := F0 m pc ls (.int n :: .int dp :: .ref a :: .int sp :: .ref b0 :: rest)) rfl (by rw [hml]) (rest := rest) rfl (by rw [hb]; exact hdg) hframes (by show 2 * 0 + _ + _ ≤ _; omega)
  have e1 : copied scr (vp_cell c1 (n1, .inl g)) sp dp n = vp_cell c1 (n1, .inl (va_cpy f g sp.toNatClampNeg dp.toNatClampNeg n.toNatClampNeg)) := va_copiedX (fun z => .int z) scr c1 f g hs5 h4
  rw [e1] at X' step
  have hl : a < H.size := (Array.getElem?_eq_some_iff.mp hc1).1
  have hheap : ((T.setVm vm').setCell a (vp_cell c1 (n1, .inl (va_cpy f g sp.toNatClampNeg dp.toNatClampNeg n.toNatClampNeg)))).heap = H.setIfInBounds a (vp_cell c1 (n1, .inl (va_cpy f g sp.toNatClampNeg dp.toNatClampNeg n.toNatClampNeg))) := by rw [← hT]; rfl
  have oq : ∀ q : Nat, q ≠ a → (H.setIfInBounds a (vp_cell c1 (n1, .inl (va_cpy f g sp.toNatClampNeg dp.toNatClampNeg n.toNatClampNeg))))[q]? = H[q]? := fun q hq => by simp [Array.getElem?_setIfInBounds, Ne.symm hq]
  obtain ⟨t, a1, b1⟩ := kk _ _ (hP.set hD ha1 (show (H.setIfInBounds a _)[a]? = some _ by simp [Array.getElem?_setIfInBounds, hl]) oq) (hD.set ha1) ⟨by simp; exact hS.1, fun q g1 g2 => by
      rw [oq q (fun e => g2 (by rw [e]; exact hD.2 q1 _ ha1))]
      exact hS.2.1 q g1 g2, fun q hq => by
      rcases List.mem_append.mp hq with h | h
      · exact hS.2.2 q h
      · obtain ⟨z, -, hz⟩ := List.mem_map.mp h
        rw [← hz]
        exact hD.2 q1 _ ha1⟩ _ hheap X'
  exact ⟨t, step t a1, b1⟩
end VCT
section HROWS
variable {Γ : gCtx} {Φ : gPost} {own : String} {cc : ByteArray} {nL pc b : Nat} {ls ls' : List (Nat × Value)} {st rest : List Value}
variable {fr lo mc ms n0 n n1 kc ks kc' ks' : Nat} {sh : mS} {G : mG} {I : mI} {J : mJ}
variable {y : MethodName} {cb : ByteArray} {nb : Nat} {rb ret : Option FieldType} {fr' lo' mc' ms' nA : Nat} {As As' : List Value} {Q' : Option Value → mG → mI → mJ → Prop}
theorem g_geti2 {ix ci k id N : Nat} {C : String} {T : u_T} {v : Int32} (f : fl2 own ix ci k C T N) (hm : mr ci k = false) (hid : id < n) (hsh : sh id = .inl (ci, N)) (hd : decode cc pc = .ok (.getfield ix, 3)) (hv : I id k = v) (hb : pc + 3 = b) (kk : Gj Γ Φ own cc nL fr lo mc ms n0 n sh G kc ks b ls (.int v :: st) I J) : Gj Γ Φ own cc nL fr lo mc ms n0 n sh G kc ks pc ls (.ref id :: st) I J := by
  intro p l e R s m args below meth c H locs cells slots la D cA ad0 ad A hfl hΓ hag S hlk hR hkc hks hA hB hC hS hP hD hK hl
  subst hb
  subst hv
  obtain ⟨f1, f2, f3, f4⟩ := f
  refine va_get S.1 S.2.1 S.2.2.2.2 f4 S.2.2.2.1 hK hP id (by rw [mws_at hid, mcell_o hsh]) f1 k f2 (S.2.2.2.2 _ f3) (fun _ h => h) (mfs_at f2) hd ?_
  rw [show mf ad I G ci id k = mz ad (.int (I id k)) by simp [mf, hm, mz]]
  exact kk p l e R s m args below meth c H locs cells slots la D cA ad0 ad A hfl hΓ hag S hlk hR hkc hks hA hB hC hS hP hD hK hl
theorem g_geta2 {ix ci k id N id2 : Nat} {C : String} {T : u_T} (f : fl2 own ix ci k C T N) (hm : mr ci k = true) (hid : id < n) (hsh : sh id = .inl (ci, N)) (hd : decode cc pc = .ok (.getfield ix, 3)) (hg : G id k = some id2) (hb : pc + 3 = b) (kk : Gj Γ Φ own cc nL fr lo mc ms n0 n sh G kc ks b ls (.ref id2 :: st) I J) : Gj Γ Φ own cc nL fr lo mc ms n0 n sh G kc ks pc ls (.ref id :: st) I J := by
  intro p l e R s m args below meth c H locs cells slots la D cA ad0 ad A hfl hΓ hag S hlk hR hkc hks hA hB hC hS hP hD hK hl
  subst hb
  obtain ⟨f1, f2, f3, f4⟩ := f
  refine va_get S.1 S.2.1 S.2.2.2.2 f4 S.2.2.2.1 hK hP id (by rw [mws_at hid, mcell_o hsh]) f1 k f2 (S.2.2.2.2 _ f3) (fun _ h => h) (mfs_at f2) hd ?_
  rw [show mf ad I G ci id k = mz ad (.ref id2) by simp [mf, hm, mz, hg, va_rf]]
  exact kk p l e R s m args below meth c H locs cells slots la D cA ad0 ad A hfl hΓ hag S hlk hR hkc hks hA hB hC hS hP hD hK hl
theorem g_puti2 {ix ci k id N : Nat} {C : String} {T : u_T} {v : Int32} (f : fl2 own ix ci k C T N) (w : fw ci k T N) (hm : mr ci k = false) (hid : id < n) (hsh : sh id = .inl (ci, N)) (hn : narrow (mty ci k) (.int v) = .int v) (hfit : fits (mty ci k) (.int v) = true) (hd : decode cc pc = .ok (.putfield ix, 3)) (hb : pc + 3 = b) (kk : Gj Γ Φ own cc nL fr lo mc ms n0 n sh G kc ks b ls st (up2 I id k v) J) : Gj Γ Φ own cc nL fr lo mc ms n0 n sh G kc ks pc ls (.int v :: .ref id :: st) I J := by
  intro p l e R s m args below meth c H locs cells slots la D cA ad0 ad A hfl hΓ hag S hlk hR hkc hks hA hB hC hS hP hD hK hl
  subst hb
  obtain ⟨f1, f2, f3, f4⟩ := f
  obtain ⟨w1, w2, w3⟩ := w
  refine va_put (ty := mty ci k) (v := .int v) S.1 S.2.1 S.2.2.2.2 f4 (mty ci) w1 w2 S.2.2.2.1 hK hP hD hS id (by rw [mws_at hid, mcell_o hsh]) f1 k f2 (S.2.2.2.2 _ f3) (fun _ h => h) w3 (w1 k f2) hn hfit (by simpa using f2) hd (fun H locs hP hD hS => ?_)
  have eqw : (mws cA ad n sh I J G).set id (ad id, .inr (ci, ((List.range N).map (mf ad I G ci id)).set k (.int v))) = mws cA ad n sh (up2 I id k v) J G := by
    rw [mfs_set hm]
    exact mws_set (mcell_o hsh) (fun b hb => ⟨funext fun j => up2_a hb, rfl⟩)
  rw [eqw] at hP hD
  exact kk p l e R s m args below meth c H locs cells slots la D cA ad0 ad A hfl hΓ hag S hlk hR hkc hks hA hB hC hS hP hD hK hl
theorem g_putR2 {ix ci k id N : Nat} {C : String} {T : u_T} {id2 : Nat} (f : fl2 own ix ci k C T N) (w : fw ci k T N) (hm : mr ci k = true) (hid : id < n) (hsh : sh id = .inl (ci, N)) (hn : ∀ a, narrow (mty ci k) (.ref a) = .ref a) (hfit : ∀ a, fits (mty ci k) (.ref a) = true) (hd : decode cc pc = .ok (.putfield ix, 3)) (hb : pc + 3 = b) (kk : Gj Γ Φ own cc nL fr lo mc ms n0 n sh (upG G id k id2) kc ks b ls st I J) : Gj Γ Φ own cc nL fr lo mc ms n0 n sh G kc ks pc ls (.ref id2 :: .ref id :: st) I J := by
  intro p l e R s m args below meth c H locs cells slots la D cA ad0 ad A hfl hΓ hag S hlk hR hkc hks hA hB hC hS hP hD hK hl
  subst hb
  obtain ⟨f1, f2, f3, f4⟩ := f
  obtain ⟨w1, w2, w3⟩ := w
  refine va_put (ty := mty ci k) (v := .ref (ad id2)) S.1 S.2.1 S.2.2.2.2 f4 (mty ci) w1 w2 S.2.2.2.1 hK hP hD hS id (by rw [mws_at hid, mcell_o hsh]) f1 k f2 (S.2.2.2.2 _ f3) (fun _ h => h) w3 (w1 k f2) (hn _) (hfit _) (by simpa using f2) hd (fun H locs hP hD hS => ?_)
  have eqw : (mws cA ad n sh I J G).set id (ad id, .inr (ci, ((List.range N).map (mf ad I G ci id)).set k (.ref (ad id2)))) = mws cA ad n sh I J (upG G id k id2) := by
    rw [mfs_setG hm]
    exact mws_setG (mcell_o hsh) (fun b hb => upG_off hb)
  rw [eqw] at hP hD
  exact kk p l e R s m args below meth c H locs cells slots la D cA ad0 ad A hfl hΓ hag S hlk hR hkc hks hA hB hC hS hP hD hK hl
theorem g_putiF {ix ci k id N : Nat} {C : String} {T : u_T} {v : Int32} (hg : ∀ p l s m args meth c ad0 A, Γ p l s m args meth c ad0 A → meth.name = "<init>") (f : fl2 own ix ci k C T N) (w : (∀ k, k < N → parseFieldDescriptor (T k).2.2.1 = some (mty ci k)) ∧ (∀ a, a < N → ∀ b, b < N → a ≠ b → (T a).2.1 ≠ (T b).2.1) ∧ (T k).2.2.2 = true ∧ (T k).1 = own) (hm : mr ci k = false) (hid : id < n) (hsh : sh id = .inl (ci, N)) (hn : narrow (mty ci k) (.int v) = .int v) (hfit : fits (mty ci k) (.int v) = true) (hd : decode cc pc = .ok (.putfield ix, 3)) (hb : pc + 3 = b) (kk : Gj Γ Φ own cc nL fr lo mc ms n0 n sh G kc ks b ls st (up2 I id k v) J) : Gj Γ Φ own cc nL fr lo mc ms n0 n sh G kc ks pc ls (.int v :: .ref id :: st) I J := by
  intro p l e R s m args below meth c H locs cells slots la D cA ad0 ad A hfl hΓ hag S hlk hR hkc hks hA hB hC hS hP hD hK hl
  subst hb
  obtain ⟨f1, f2, f3, f4⟩ := f
  obtain ⟨w1, w2, w3, w4⟩ := w
  refine va_putF (ty := mty ci k) (v := .int v) S.1 S.2.1 S.2.2.2.2 f4 (mty ci) w1 w2 S.2.2.2.1 hK hP hD hS id (by rw [mws_at hid, mcell_o hsh]) f1 k f2 (S.2.2.2.2 _ f3) (fun _ h => h) w3 (hg _ _ _ _ _ _ _ _ _ hΓ) w4 (w1 k f2) hn hfit (by simpa using f2) hd (fun H locs hP hD hS => ?_)
  have eqw : (mws cA ad n sh I J G).set id (ad id, .inr (ci, ((List.range N).map (mf ad I G ci id)).set k (.int v))) = mws cA ad n sh (up2 I id k v) J G := by
    rw [mfs_set hm]
    exact mws_set (mcell_o hsh) (fun b hb => ⟨funext fun j => up2_a hb, rfl⟩)
  rw [eqw] at hP hD
  exact kk p l e R s m args below meth c H locs cells slots la D cA ad0 ad A hfl hΓ hag S hlk hR hkc hks hA hB hC hS hP hD hK hl
theorem g_putRF {ix ci k id N : Nat} {C : String} {T : u_T} {id2 : Nat} (hg : ∀ p l s m args meth c ad0 A, Γ p l s m args meth c ad0 A → meth.name = "<init>") (f : fl2 own ix ci k C T N) (w : (∀ k, k < N → parseFieldDescriptor (T k).2.2.1 = some (mty ci k)) ∧ (∀ a, a < N → ∀ b, b < N → a ≠ b → (T a).2.1 ≠ (T b).2.1) ∧ (T k).2.2.2 = true ∧ (T k).1 = own) (hm : mr ci k = true) (hid : id < n) (hsh : sh id = .inl (ci, N)) (hn : ∀ a, narrow (mty ci k) (.ref a) = .ref a) (hfit : ∀ a, fits (mty ci k) (.ref a) = true) (hd : decode cc pc = .ok (.putfield ix, 3)) (hb : pc + 3 = b) (kk : Gj Γ Φ own cc nL fr lo mc ms n0 n sh (upG G id k id2) kc ks b ls st I J) : Gj Γ Φ own cc nL fr lo mc ms n0 n sh G kc ks pc ls (.ref id2 :: .ref id :: st) I J := by
  intro p l e R s m args below meth c H locs cells slots la D cA ad0 ad A hfl hΓ hag S hlk hR hkc hks hA hB hC hS hP hD hK hl
  subst hb
  obtain ⟨f1, f2, f3, f4⟩ := f
  obtain ⟨w1, w2, w3, w4⟩ := w
  refine va_putF (ty := mty ci k) (v := .ref (ad id2)) S.1 S.2.1 S.2.2.2.2 f4 (mty ci) w1 w2 S.2.2.2.1 hK hP hD hS id (by rw [mws_at hid, mcell_o hsh]) f1 k f2 (S.2.2.2.2 _ f3) (fun _ h => h) w3 (hg _ _ _ _ _ _ _ _ _ hΓ) w4 (w1 k f2) (hn _) (hfit _) (by simpa using f2) hd (fun H locs hP hD hS => ?_)
  have eqw : (mws cA ad n sh I J G).set id (ad id, .inr (ci, ((List.range N).map (mf ad I G ci id)).set k (.ref (ad id2)))) = mws cA ad n sh I J (upG G id k id2) := by
    rw [mfs_setG hm]
    exact mws_setG (mcell_o hsh) (fun b hb => upG_off hb)
  rw [eqw] at hP hD
  exact kk p l e R s m args below meth c H locs cells slots la D cA ad0 ad A hfl hΓ hag S hlk hR hkc hks hA hB hC hS hP hD hK hl
theorem g_bald {id len j : Nat} {i v : Int32} (hid : id < n) (hsh : sh id = .inr (1, len)) (hd : decode cc pc = .ok (.baload, 1)) (hi : i = nI j) (hj : j < len ∧ len < 2 ^ 31) (hv : I id j = v) (hb : pc + 1 = b) (kk : Gj Γ Φ own cc nL fr lo mc ms n0 n sh G kc ks b ls (.int v :: st) I J) : Gj Γ Φ own cc nL fr lo mc ms n0 n sh G kc ks pc ls (.int i :: .ref id :: st) I J := by
  intro p l e R s m args below meth c H locs cells slots la D cA ad0 ad A hfl hΓ hag S hlk hR hkc hks hA hB hC hS hP hD hK hl
  subst hb
  subst hv
  subst hi
  refine va_bald S.1 S.2.1 hK hP id 1 (by rw [mws_at hid, mcell_ba hsh]) rfl (vp_in_nI hj.1 hj.2) hd ?_
  rw [nI_clamp (Nat.lt_trans hj.1 hj.2)]
  exact kk p l e R s m args below meth c H locs cells slots la D cA ad0 ad A hfl hΓ hag S hlk hR hkc hks hA hB hC hS hP hD hK hl
theorem g_bast {id len j : Nat} {i v : Int32} (hid : id < n) (hsh : sh id = .inr (1, len)) (hd : decode cc pc = .ok (.bastore, 1)) (hi : i = nI j) (hj : j < len ∧ len < 2 ^ 31) (hnb : vp_nar .byte v = v) (hb : pc + 1 = b) (kk : Gj Γ Φ own cc nL fr lo mc ms n0 n sh G kc ks b ls st (up2 I id j v) J) : Gj Γ Φ own cc nL fr lo mc ms n0 n sh G kc ks pc ls (.int v :: .int i :: .ref id :: st) I J := by
  intro p l e R s m args below meth c H locs cells slots la D cA ad0 ad A hfl hΓ hag S hlk hR hkc hks hA hB hC hS hP hD hK hl
  subst hb
  subst hi
  refine va_bast S.1 S.2.1 hK hP hD hS id 1 (by rw [mws_at hid, mcell_ba hsh]) rfl (vp_in_nI hj.1 hj.2) hd (fun H locs hP hD hS => ?_)
  rw [nI_clamp (Nat.lt_trans hj.1 hj.2), hnb] at hP hD
  have eqw : (mws cA ad n sh I J G).set id (ad id, .inl (cA 1, len, .inl (upd (I id) j v))) = mws cA ad n sh (up2 I id j v) J G :=
    mws_set (by rw [mcell_ba hsh]; congr 4; funext q; simp [up2, upd]) (fun b hb => ⟨funext fun j => up2_a hb, rfl⟩)
  rw [eqw] at hP hD
  exact kk p l e R s m args below meth c H locs cells slots la D cA ad0 ad A hfl hΓ hag S hlk hR hkc hks hA hB hC hS hP hD hK hl
theorem g_balen {id len : Nat} (hid : id < n) (hsh : sh id = .inr (1, len)) (hd : decode cc pc = .ok (.arraylength, 1)) (hb : pc + 1 = b) (kk : Gj Γ Φ own cc nL fr lo mc ms n0 n sh G kc ks b ls (.int (nI len) :: st) I J) : Gj Γ Φ own cc nL fr lo mc ms n0 n sh G kc ks pc ls (.ref id :: st) I J := by
  intro p l e R s m args below meth c H locs cells slots la D cA ad0 ad A hfl hΓ hag S hlk hR hkc hks hA hB hC hS hP hD hK hl
  subst hb
  exact va_alen (v := nI len) (x := (len, .inl (I id))) S.1 S.2.1 hK hP id 1 (by rw [mws_at hid, mcell_ba hsh]) rfl rfl hd (kk p l e R s m args below meth c H locs cells slots la D cA ad0 ad A hfl hΓ hag S hlk hR hkc hks hA hB hC hS hP hD hK hl)
theorem g_gcmp {ix : Nat} (hf : Cond.fieldLink own ix RJ0 "COMPACT_STRINGS" "Z" ∈ TT) (hd : decode cc pc = .ok (.getstatic ix, 3)) (hb : pc + 3 = b) (kk : Gj Γ Φ own cc nL fr lo mc ms n0 n sh G kc ks b ls (.int 1 :: st) I J) : Gj Γ Φ own cc nL fr lo mc ms n0 n sh G kc ks pc ls st I J := by
  intro p l e R s m args below meth c H locs cells slots la D cA ad0 ad A hfl hΓ hag S hlk hR hkc hks hA hB hC hS hP hD hK hl
  subst hb
  exact va_gets S.1 S.2.1 hB.2.2.1 hS S.2.2.2.1 (S.2.2.2.2 _ hf) (fun _ h => h) hd (kk p l e R s m args below meth c H locs cells slots la D cA ad0 ad A hfl hΓ hag S hlk hR hkc hks hA hB hC hS hP hD hK hl)
theorem g_gdig1 {ix : Nat} (hf : Cond.fieldLink own ix RJ6 "DigitOnes" "[B" ∈ TT) (hd : decode cc pc = .ok (.getstatic ix, 3)) (hb : pc + 3 = b) (kk : Gj Γ Φ own cc nL fr lo mc ms n0 n sh G kc ks b ls (.ref 1201 :: st) I J) : Gj Γ Φ own cc nL fr lo mc ms n0 n sh G kc ks pc ls st I J := by
  intro p l e R s m args below meth c H locs cells slots la D cA ad0 ad A hfl hΓ hag S hlk hR hkc hks hA hB hC hS hP hD hK hl
  subst hb
  exact va_gets S.1 S.2.1 hB.2.2.2.2.2.2.2.2.2.1 hS S.2.2.2.1 (S.2.2.2.2 _ hf) (fun _ h => h) hd (kk p l e R s m args below meth c H locs cells slots la D cA ad0 ad A hfl hΓ hag S hlk hR hkc hks hA hB hC hS hP hD hK hl)
theorem g_ddig1 {j : Nat} {i : Int32} (hi : i = nI j) (hj : j < 100) (hd : decode cc pc = .ok (.baload, 1)) (hb : pc + 1 = b) (kk : Gj Γ Φ own cc nL fr lo mc ms n0 n sh G kc ks b ls (.int (nI (48 + j % 10)) :: st) I J) : Gj Γ Φ own cc nL fr lo mc ms n0 n sh G kc ks pc ls (.int i :: .ref 1201 :: st) I J := by
  intro p l e R s m args below meth c H locs cells slots la D cA ad0 ad A hfl hΓ hag S hlk hR hkc hks hA hB hC hS hP hD hK hl
  subst hb
  subst hi
  exact va_tb S.1 S.2.1 hB.2.2.2.2.2.2.2.2.2.2.1 hS (vp_in_nI hj (by decide)) (v := .int (nI (48 + j % 10))) (by rw [nI_clamp (by omega)]) hd (kk p l e R s m args below meth c H locs cells slots la D cA ad0 ad A hfl hΓ hag S hlk hR hkc hks hA hB hC hS hP hD hK hl)
theorem g_gdig10 {ix : Nat} (hf : Cond.fieldLink own ix RJ6 "DigitTens" "[B" ∈ TT) (hd : decode cc pc = .ok (.getstatic ix, 3)) (hb : pc + 3 = b) (kk : Gj Γ Φ own cc nL fr lo mc ms n0 n sh G kc ks b ls (.ref 1202 :: st) I J) : Gj Γ Φ own cc nL fr lo mc ms n0 n sh G kc ks pc ls st I J := by
  intro p l e R s m args below meth c H locs cells slots la D cA ad0 ad A hfl hΓ hag S hlk hR hkc hks hA hB hC hS hP hD hK hl
  subst hb
  exact va_gets S.1 S.2.1 hB.2.2.2.2.2.2.2.2.2.2.2.1 hS S.2.2.2.1 (S.2.2.2.2 _ hf) (fun _ h => h) hd (kk p l e R s m args below meth c H locs cells slots la D cA ad0 ad A hfl hΓ hag S hlk hR hkc hks hA hB hC hS hP hD hK hl)
theorem g_ddig10 {j : Nat} {i : Int32} (hi : i = nI j) (hj : j < 100) (hd : decode cc pc = .ok (.baload, 1)) (hb : pc + 1 = b) (kk : Gj Γ Φ own cc nL fr lo mc ms n0 n sh G kc ks b ls (.int (nI (48 + j / 10)) :: st) I J) : Gj Γ Φ own cc nL fr lo mc ms n0 n sh G kc ks pc ls (.int i :: .ref 1202 :: st) I J := by
  intro p l e R s m args below meth c H locs cells slots la D cA ad0 ad A hfl hΓ hag S hlk hR hkc hks hA hB hC hS hP hD hK hl
  subst hb
  subst hi
  exact va_tb S.1 S.2.1 hB.2.2.2.2.2.2.2.2.2.2.2.2.1 hS (vp_in_nI hj (by decide)) (v := .int (nI (48 + j / 10))) (by rw [nI_clamp (by omega)]) hd (kk p l e R s m args below meth c H locs cells slots la D cA ad0 ad A hfl hΓ hag S hlk hR hkc hks hA hB hC hS hP hD hK hl)
theorem g_cval {i : Nat} (hi : i < 4) (hf : Cond.fieldLink own 9 RJ0 "value" "[B" ∈ TT) (hd : decode cc pc = .ok (.getfield 9, 3)) (hb : pc + 3 = b) (kk : Gj Γ Φ own cc nL fr lo mc ms n0 n sh G kc ks b ls (.ref (1110 + i) :: st) I J) : Gj Γ Φ own cc nL fr lo mc ms n0 n sh G kc ks pc ls (.ref (1010 + i) :: st) I J := by
  intro p l e R s m args below meth c H locs cells slots la D cA ad0 ad A hfl hΓ hag S hlk hR hkc hks hA hB hC hS hP hD hK hl
  subst hb
  exact vk_getf S.1 S.2.1 (hB.2.2.2.2.2.2.2.2.1.1 i hi).2.2.1 hS S.2.2.2.1 (S.2.2.2.2 _ hf) (fun _ h => h) hd (kk p l e R s m args below meth c H locs cells slots la D cA ad0 ad A hfl hΓ hag S hlk hR hkc hks hA hB hC hS hP hD hK hl)
theorem g_ccod {i : Nat} (hi : i < 4) (hf : Cond.fieldLink own 15 RJ0 "coder" "B" ∈ TT) (hd : decode cc pc = .ok (.getfield 15, 3)) (hb : pc + 3 = b) (kk : Gj Γ Φ own cc nL fr lo mc ms n0 n sh G kc ks b ls (.int 0 :: st) I J) : Gj Γ Φ own cc nL fr lo mc ms n0 n sh G kc ks pc ls (.ref (1010 + i) :: st) I J := by
  intro p l e R s m args below meth c H locs cells slots la D cA ad0 ad A hfl hΓ hag S hlk hR hkc hks hA hB hC hS hP hD hK hl
  subst hb
  exact vk_getf S.1 S.2.1 (hB.2.2.2.2.2.2.2.2.1.1 i hi).2.1 hS S.2.2.2.1 (S.2.2.2.2 _ hf) (fun _ h => h) hd (kk p l e R s m args below meth c H locs cells slots la D cA ad0 ad A hfl hΓ hag S hlk hR hkc hks hA hB hC hS hP hD hK hl)
theorem g_clen {i : Nat} (hi : i < 4) (hd : decode cc pc = .ok (.arraylength, 1)) (hb : pc + 1 = b) (kk : Gj Γ Φ own cc nL fr lo mc ms n0 n sh G kc ks b ls (.int (nI (cW i)) :: st) I J) : Gj Γ Φ own cc nL fr lo mc ms n0 n sh G kc ks pc ls (.ref (1110 + i) :: st) I J := by
  intro p l e R s m args below meth c H locs cells slots la D cA ad0 ad A hfl hΓ hag S hlk hR hkc hks hA hB hC hS hP hD hK hl
  subst hb
  exact va_tlen S.1 S.2.1 (hB.2.2.2.2.2.2.2.2.1.1 i hi).2.2.2 hS rfl hd (kk p l e R s m args below meth c H locs cells slots la D cA ad0 ad A hfl hΓ hag S hlk hR hkc hks hA hB hC hS hP hD hK hl)
theorem g_ldcS {tx : String} {ix i : Nat} (hq : (own, ix, tx, i) ∈ bStr) (hd : decode cc pc = .ok (.ldc ix, 2)) (hb : pc + 2 = b) (kk : Gj Γ Φ own cc nL fr lo mc ms n0 n sh G kc ks b ls (.ref (1000 + i) :: st) I J) : Gj Γ Φ own cc nL fr lo mc ms n0 n sh G kc ks pc ls st I J := by
  intro p l e R s m args below meth c H locs cells slots la D cA ad0 ad A hfl hΓ hag S hlk hR hkc hks hA hB hC hS hP hD hK hl
  subst hb
  exact va_ldcS S.1 S.2.1 S.2.2.2.1 (hB.2.2.2.2.2.1 _ hq) hd (kk p l e R s m args below meth c H locs cells slots la D cA ad0 ad A hfl hΓ hag S hlk hR hkc hks hA hB hC hS hP hD hK hl)
theorem g_copy {ix id0 id1 len0 len1 sp dp N : Nat} {nv z0 z1 : Int32} (hlk0 : Cond.methodLink own ix arraycopyName ∈ TT) (hin0 : Cond.initialized "java/lang/System" ∈ TT) (h0 : id0 < n) (s0 : sh id0 = .inr (1, len0)) (h1 : id1 < n) (s1 : sh id1 = .inr (1, len1)) (hN : sp + N ≤ len0 ∧ dp + N ≤ len1 ∧ len0 < 2 ^ 31 ∧ len1 < 2 ^ 31) (hfit : ∀ j, j < N → fits .byte (.int (I id0 (sp + j))) = true) (hnv : nv = nI N) (hz0 : z0 = nI sp) (hz1 : z1 = nI dp) (hroom : 1 ≤ fr ∧ (st.map fun v => v.category).sum + (nativeFrameWords "java/lang/System" "arraycopy" 5 + 11) ≤ lo) (hd : decode cc pc = .ok (.invokestatic ix, 3)) (hb : pc + 3 = b) (kk : Gj Γ Φ own cc nL fr lo mc ms n0 n sh G kc ks b ls st (cpf I (I id0) id1 sp dp N) J) : Gj Γ Φ own cc nL fr lo mc ms n0 n sh G kc ks pc ls (.int nv :: .int z1 :: .ref id1 :: .int z0 :: .ref id0 :: st) I J := by
  intro p l e R s m args below meth c H locs cells slots la D cA ad0 ad A hfl hΓ hag S hlk hR hkc hks hA hB hC hS hP hD hK hl
  subst hb
  subst hnv
  subst hz0
  subst hz1
  have eN : (nI N).toNatClampNeg = N := nI_clamp (by omega)
  have es : (nI sp).toNatClampNeg = sp := nI_clamp (by omega)
  have ed : (nI dp).toNatClampNeg = dp := nI_clamp (by omega)
  refine va_copyi (cc := cc) (own := own) (index := ix) S.1 S.2.1 (S.2.2.1.trans hl.1.symm) S.2.2.2.1 (S.2.2.2.2 _ hlk0) (S.2.2.2.2 _ q_ac_n) (S.2.2.2.2 _ q_ac_s) (S.2.2.2.2 _ hin0) hK hP hD hS id0 id1 1 1 (by rw [mws_at h0, mcell_ba s0]) (by rw [mws_at h1, mcell_ba s1]) rfl rfl rfl (nI_npos (by omega)) (nI_npos (by omega)) (nI_npos (by omega)) (by rw [es, eN]; omega) (by rw [ed, eN]; omega) (by rw [es, eN]; exact hfit) (Nat.le_trans hroom.1 hR.1) (Nat.le_trans (by simpa [Function.comp_def, mz_cat] using hroom.2) hR.2.1) hd (fun H locs hP hD hS => ?_)
  rw [es, ed, eN] at hP hD
  have eqw : (mws cA ad n sh I J G).set id1 (ad id1, .inl (cA 1, len1, .inl (va_cpy (I id0) (I id1) sp dp N))) = mws cA ad n sh (cpf I (I id0) id1 sp dp N) J G :=
    mws_set (by rw [mcell_ba s1]; congr 4; funext q; exact cpf_at) (fun c hc => ⟨cpf_off hc, rfl⟩)
  rw [eqw] at hP hD
  exact kk p l e R s m args below meth c H locs cells slots la D cA ad0 ad A hfl hΓ hag S hlk hR hkc hks hA hB hC hS hP hD hK hl
theorem g_copyC {ix i id1 len1 dp : Nat} {nv z1 : Int32} (hlk0 : Cond.methodLink own ix arraycopyName ∈ TT) (hin0 : Cond.initialized "java/lang/System" ∈ TT) (hi : i < 4) (h1 : id1 < n) (s1 : sh id1 = .inr (1, len1)) (hN : dp + cW i ≤ len1 ∧ len1 < 2 ^ 31) (hnv : nv = nI (cW i)) (hz1 : z1 = nI dp) (hroom : 1 ≤ fr ∧ (st.map fun v => v.category).sum + (nativeFrameWords "java/lang/System" "arraycopy" 5 + 11) ≤ lo) (hd : decode cc pc = .ok (.invokestatic ix, 3)) (hb : pc + 3 = b) (kk : Gj Γ Φ own cc nL fr lo mc ms n0 n sh G kc ks b ls st (cpf I (cB i) id1 0 dp (cW i)) J) : Gj Γ Φ own cc nL fr lo mc ms n0 n sh G kc ks pc ls (.int nv :: .int z1 :: .ref id1 :: .int 0 :: .ref (1110 + i) :: st) I J := by
  intro p l e R s m args below meth c H locs cells slots la D cA ad0 ad A hfl hΓ hag S hlk hR hkc hks hA hB hC hS hP hD hK hl
  subst hb
  subst hnv
  subst hz1
  have eN : (nI (cW i)).toNatClampNeg = cW i := nI_clamp (by omega)
  have es : (0 : Int32).toNatClampNeg = 0 := by decide
  have ed : (nI dp).toNatClampNeg = dp := nI_clamp (by omega)
  refine va_copyT (cc := cc) (own := own) (index := ix) (sp := 0) (dp := nI dp) (n := nI (cW i)) S.1 S.2.1 (S.2.2.1.trans hl.1.symm) S.2.2.2.1 (S.2.2.2.2 _ hlk0) (S.2.2.2.2 _ q_ac_n) (S.2.2.2.2 _ q_ac_s) (S.2.2.2.2 _ hin0) hK hP hD hS (f := cB i) (hB.2.2.2.2.2.2.2.2.1.1 i hi).2.2.2 id1 1 (by rw [mws_at h1, mcell_ba s1]) rfl (by decide) (nI_npos (by omega)) (nI_npos (by omega)) (by rw [es, eN, Nat.zero_add]; exact Nat.le_refl _) (by rw [ed, eN]; omega) (by rw [es, eN]; exact fun j hj => cB_fit hi (by rw [Nat.zero_add]; exact hj)) (Nat.le_trans hroom.1 hR.1) (Nat.le_trans (by simpa [Function.comp_def, mz_cat] using hroom.2) hR.2.1) hd (fun H locs hP hD hS => ?_)
  rw [es, ed, eN] at hP hD
  have eqw : (mws cA ad n sh I J G).set id1 (ad id1, .inl (cA 1, len1, .inl (va_cpy (cB i) (I id1) 0 dp (cW i)))) = mws cA ad n sh (cpf I (cB i) id1 0 dp (cW i)) J G :=
    mws_set (by rw [mcell_ba s1]; congr 4; funext q; exact cpf_at) (fun c hc => ⟨cpf_off hc, rfl⟩)
  rw [eqw] at hP hD
  exact kk p l e R s m args below meth c H locs cells slots la D cA ad0 ad A hfl hΓ hag S hlk hR hkc hks hA hB hC hS hP hD hK hl
theorem g_mmin {ix : Nat} {x y v : Int32} (h1 : Cond.methodLink own ix Lib.Math.min.name ∈ TT) (hd : decode cc pc = .ok (.invokestatic ix, 3)) (hroom : 1 ≤ fr ∧ (st.map fun v => v.category).sum + 13 ≤ lo) (hv : (if y < x then y else x) = v) (hb : pc + 3 = b) (kk : Gj Γ Φ own cc nL fr lo mc ms n0 n sh G kc ks b ls (.int v :: st) I J) : Gj Γ Φ own cc nL fr lo mc ms n0 n sh G kc ks pc ls (.int y :: .int x :: st) I J := by
  intro p l e R s m args below meth c H locs cells slots la D cA ad0 ad A hfl hΓ hag S hlk hR hkc hks hA hB hC hS hP hD hK hl
  subst hb
  subst hv
  exact va_mmin S.1 S.2.1 (S.2.2.1.trans hl.1.symm) S.2.2.2.1 (S.2.2.2.2 _ h1) (S.2.2.2.2 _ qmin_s) (S.2.2.2.2 _ qmath_n) (S.2.2.2.2 _ qmin_c) (Nat.le_trans hroom.1 hR.1) (Nat.le_trans (by simpa [Function.comp_def, mz_cat] using hroom.2) hR.2.1) (by omega) (by omega) hd (kk p l e R s m args below meth c H locs cells slots la D cA ad0 ad A hfl hΓ hag S hlk hR hkc hks hA hB hC hS hP hD hK hl)
theorem g_mmax {ix : Nat} {x y v : Int32} (h1 : Cond.methodLink own ix Lib.Math.max.name ∈ TT) (hd : decode cc pc = .ok (.invokestatic ix, 3)) (hroom : 1 ≤ fr ∧ (st.map fun v => v.category).sum + 13 ≤ lo) (hv : (if x < y then y else x) = v) (hb : pc + 3 = b) (kk : Gj Γ Φ own cc nL fr lo mc ms n0 n sh G kc ks b ls (.int v :: st) I J) : Gj Γ Φ own cc nL fr lo mc ms n0 n sh G kc ks pc ls (.int y :: .int x :: st) I J := by
  intro p l e R s m args below meth c H locs cells slots la D cA ad0 ad A hfl hΓ hag S hlk hR hkc hks hA hB hC hS hP hD hK hl
  subst hb
  subst hv
  exact va_mmax S.1 S.2.1 (S.2.2.1.trans hl.1.symm) S.2.2.2.1 (S.2.2.2.2 _ h1) (S.2.2.2.2 _ qmax_s) (S.2.2.2.2 _ qmath_n) (S.2.2.2.2 _ qmax_c) (Nat.le_trans hroom.1 hR.1) (Nat.le_trans (by simpa [Function.comp_def, mz_cat] using hroom.2) hR.2.1) (by omega) (by omega) hd (kk p l e R s m args below meth c H locs cells slots la D cA ad0 ad A hfl hΓ hag S hlk hR hkc hks hA hB hC hS hP hD hK hl)
theorem h_iret {Q : Option Value → mG → mI → mJ → Prop} {v : Int32} {rt : FieldType} (hn : narrow rt (.int v) = .int v) (hd : decode cc pc = .ok (.ireturn, 1)) (hq : Q (some (.int v)) G I J) (hz : Zo n I J G)  : Gj (hI y (some rt)) (hO n0 n mc ms sh Q) own cc nL fr lo mc ms n0 n sh G kc ks pc ls ([.int v]) I J := by
  intro p l e R s m args below meth c H locs cells slots la D cA ad0 ad A hfl hΓ hag S hlk hR hkc hks hA hB hC hS hP hD hK hl
  refine W.widen (k := mc) (n := ms) (by omega) (by omega) ?_
  exact W.zret S.1 S.2.1 hΓ.1 hn (fun t ht hW => ⟨⟨some (.int v), ad, G, I, J, rfl, hag, hq, hz, by rw [ht]; exact hP, hD, va_K.moved hW.alike hK⟩, hS.F ht⟩) hS.2.2 hd hlk
theorem h_callC {ix i : Nat} (hs : Sm y cb nb rb fr' lo' mc' ms' (.ref (1010 + i) :: As') n n1 sh G I J Q') (hi : i < 4) (hn0 : n0 ≤ n) (hw : cw own ix y cb nb rb nA) (hin : Cond.instanceMethod y ∈ TT) (hsel : Cond.selects RJ0 y y ∈ TT) (hd : decode cc pc = .ok (.invokevirtual ix, 3)) (hn : As'.length = nA) (hstk : st = As'.reverse ++ .ref (1010 + i) :: rest) (hcat : (rest.map fun v => v.category).sum ≤ 8) (hroom : fr' + 1 ≤ fr ∧ nb + 19 + lo' ≤ lo) (hok : ∀ v ∈ rest, okV n v) (hls : ∀ q ∈ ls, okV n q.2) (hb : pc + 3 = b) (hmc : kc' + mc' ≤ kc) (hms : ks' + ms' ≤ ks) 
    (kk : ∀ (r : Option Value) (G1 : mG) (I1 : mI) (J1 : mJ), Q' r G1 I1 J1 → Zo n1 I1 J1 G1 → Gj Γ Φ own cc nL fr lo mc ms n0 n1 sh G1 kc' ks' b ls (r.toList ++ rest) I1 J1) : Gj Γ Φ own cc nL fr lo mc ms n0 n sh G kc ks pc ls st I J := by
  intro p l e R s m args below meth c H locs cells slots la D cA ad0 ad A hfl hΓ hag S hlk hR hkc hks hA hB hC hS hP hD hK hl
  subst hb
  subst hstk
  have hrun := va_runV (H := H) (locs := locs) (cells := cells) (slots := slots) (l := l) (e := e) (R := R) (below := below) (meth := meth) (C := RJ0) (b := ad (1010 + i)) (g := F0 m pc la ((As'.reverse ++ .ref (1010 + i) :: rest).map (mz ad))) (As := As'.map (mz ad)) (rest := rest.map (mz ad)) (n := nA) S (hs l D cA ad H.size hfl) ⟨cw_B (rm := { frames := fr', cells := mc', slots := ms', locals := lo' }) hw rfl S.2.2.2.2 ⟨Nat.le_trans hroom.1 hR.1, by show 8 + (nb + 11) + lo' ≤ R.locals; omega⟩, S.2.2.2.2 _ hin, S.2.2.2.2 _ hsel⟩ ⟨gPc_blind, vk_recv (adK := fun k => ad (1010 + k)) (i := i) hB.2.2.2.2.2.2.2.2.1 hi hS, fun U hU hW => ⟨mPre (As := .ref (1010 + i) :: As') hS hP hD hK hB hA hU hW, hC.moved hW⟩⟩ rfl (by rw [List.length_map]; exact hn) hl.1 (by simp [mz]) (by simpa [JFrame.monitorRoom, Function.comp_def, mz_cat] using hcat) hd ⟨by omega, by omega⟩
  exact h_after (As := .ref (1010 + i) :: As') hrun hfl hΓ hag hn0 S hlk hR hkc hks hmc hms hA hB hC hS hP hD hK hl hok hls kk
end HROWS

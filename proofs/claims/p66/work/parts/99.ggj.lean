/-! GROWING WORLDS: words of what is made; rows of devices; references stored -/
theorem ql2_X6_7 : Cond.classLink RX6 7 RX5 ∈ TT := TT_of (tb1 (List.mem_of_getElem? (i := 33) rfl)) rfl
theorem ql2_X5_15 : Cond.classLink RX5 15 RX4 ∈ TT := TT_of (tb1 (List.mem_of_getElem? (i := 39) rfl)) rfl
theorem ql2_X4_9 : Cond.classLink RX4 9 "[[I" ∈ TT := TT_of (tb1 (List.mem_of_getElem? (i := 45) rfl)) rfl
theorem ql2_X6_10 : Cond.classLink RX6 10 RX0 ∈ TT := TT_of (tb1 (List.mem_of_getElem? (i := 129) rfl)) rfl
theorem ql2_X0_9 : Cond.classLink RX0 9 RX1 ∈ TT := TT_of (tb1 (List.mem_of_getElem? (i := 135) rfl)) rfl
theorem ql2_X1_9 : Cond.classLink RX1 9 "[[I" ∈ TT := TT_of (tb1 (List.mem_of_getElem? (i := 141) rfl)) rfl
theorem ql2_X0_18 : Cond.classLink RX0 18 RX3 ∈ TT := TT_of (tb1 (List.mem_of_getElem? (i := 184) rfl)) rfl
theorem ql2_X0_25 : Cond.classLink RX0 25 RX2 ∈ TT := TT_of (tb1 (List.mem_of_getElem? (i := 207) rfl)) rfl
theorem ql2_J7_311 : Cond.classLink RJ7 311 "[B" ∈ TT := TT_of (tb5 (List.mem_of_getElem? (i := 131) rfl)) rfl
theorem ql2_J4_18 : Cond.classLink RJ4 18 RJ0 ∈ TT := TT_of (tb5 (List.mem_of_getElem? (i := 218) rfl)) rfl
theorem ql2_X6_264 : Cond.classLink RX6 264 "java/lang/IllegalArgumentException" ∈ TT := TT_of (tb2 (List.mem_of_getElem? (i := 106) rfl)) rfl
theorem ql2_X6_271 : Cond.classLink RX6 271 "java/lang/IndexOutOfBoundsException" ∈ TT := TT_of (tb4 (List.mem_of_getElem? (i := 48) rfl)) rfl
theorem qin_X6 : Cond.instantiable RX6 6 ∈ TT := TT_of (tb1 (List.mem_of_getElem? (i := 26) rfl)) rfl
theorem qin_X5 : Cond.instantiable RX5 8 ∈ TT := TT_of (tb1 (List.mem_of_getElem? (i := 34) rfl)) rfl
theorem qin_X4 : Cond.instantiable RX4 9 ∈ TT := TT_of (tb1 (List.mem_of_getElem? (i := 40) rfl)) rfl
theorem qin_X0 : Cond.instantiable RX0 9 ∈ TT := TT_of (tb1 (List.mem_of_getElem? (i := 130) rfl)) rfl
theorem qin_X1 : Cond.instantiable RX1 9 ∈ TT := TT_of (tb1 (List.mem_of_getElem? (i := 136) rfl)) rfl
theorem qin_X3 : Cond.instantiable RX3 5 ∈ TT := TT_of (tb1 (List.mem_of_getElem? (i := 185) rfl)) rfl
theorem qin_X2 : Cond.instantiable RX2 10 ∈ TT := TT_of (tb1 (List.mem_of_getElem? (i := 208) rfl)) rfl
theorem qac_byte : Cond.arrayClass FieldType.byte ∈ TT := TT_of (tb1 (List.mem_of_getElem? (i := 100) rfl)) rfl
theorem qac_int : Cond.arrayClass FieldType.int ∈ TT := TT_of (tb1 (List.mem_of_getElem? (i := 101) rfl)) rfl
theorem qac_boolean : Cond.arrayClass FieldType.boolean ∈ TT := TT_of (tb2 (List.mem_of_getElem? (i := 97) rfl)) rfl
theorem qao_dev : Cond.arrayOver (FieldType.object RX0) ∈ nestW := List.mem_of_getElem? (i := 5) rfl
theorem cwN_X6_9 : cwN RX6 RX6 9 yX5_init cX5_init 1 none 0 := ⟨qc_X5_init, List.mem_of_getElem? (i := 0) rfl, qn_TwinBoot_Text, by decide +kernel⟩
theorem cwN_X6_12 : cwN RX6 RX6 12 yX0_init cX0_init 1 none 0 := ⟨qc_X0_init, List.mem_of_getElem? (i := 1) rfl, qn_TwinBoot_Device, by decide +kernel⟩
theorem cwN_X0_11 : cwN RX0 RX6 11 yX1_init cX1_init 1 none 0 := ⟨qc_X1_init, List.mem_of_getElem? (i := 2) rfl, qn_TwinBoot_Flash, by decide +kernel⟩
theorem cwN_X0_20 : cwN RX0 RX6 20 yX3_init cX3_init 1 none 0 := ⟨qc_X3_init, List.mem_of_getElem? (i := 3) rfl, qn_TwinBoot_Log, by decide +kernel⟩
theorem cwN_X0_27 : cwN RX0 RX6 27 yX2_init cX2_init 1 none 0 := ⟨qc_X2_init, List.mem_of_getElem? (i := 4) rfl, qn_TwinBoot_Ledger, by decide +kernel⟩
theorem qi_obj : Cond.instanceMethod Lib.objectInit ∈ TT := TT_of (tb1 (List.mem_of_getElem? (i := 31) rfl)) rfl
theorem qc_obj : Cond.code Lib.objectInit { data := #[177] } 1 none ∈ TT := TT_of (tb1 (List.mem_of_getElem? (i := 32) rfl)) rfl

theorem fwF_w {ci k : Nat} {T : u_T} {N : Nat} {own : String} (h1 : ∀ k, k < N → parseFieldDescriptor (T k).2.2.1 = some (mty ci k)) (h2 : ∀ a, a < N → ∀ b, b < N → a ≠ b → (T a).2.1 ≠ (T b).2.1) (h3 : (T k).2.2.2 = true) (h4 : (T k).1 = own) : (∀ k, k < N → parseFieldDescriptor (T k).2.2.1 = some (mty ci k)) ∧ (∀ a, a < N → ∀ b, b < N → a ≠ b → (T a).2.1 ≠ (T b).2.1) ∧ (T k).2.2.2 = true ∧ (T k).1 = own := ⟨h1, h2, h3, h4⟩
theorem mfs_setG {ad : Nat → Nat} {I : mI} {G : mG} {ci id N k x : Nat} (hm : mr ci k = true) : ((List.range N).map (mf ad I G ci id)).set k (.ref (ad x)) = (List.range N).map (mf ad I (upG G id k x) ci id) := by
  apply List.ext_getElem?
  intro j
  by_cases hj : j = k
  · subst hj
    by_cases h : j < N
    · rw [List.getElem?_set_self (by simpa using h), mfs_at h]
      simp [mf, hm, upG_s, va_rf]
    · rw [List.getElem?_eq_none (by simp; omega), List.getElem?_eq_none (by simp; omega)]
  · rw [List.getElem?_set_ne (Ne.symm hj)]
    by_cases h : j < N
    · rw [mfs_at h, mfs_at h]
      have : upG G id k x id j = G id j := upG_n (by omega)
      simp [mf, this]
    · rw [List.getElem?_eq_none (by simp; omega), List.getElem?_eq_none (by simp; omega)]
/-- one cell changes: the world with the other references -/
theorem mws_setG {cA : Nat → ClassId} {ad : Nat → Nat} {n : Nat} {sh : mS} {I : mI} {J : mJ} {G G' : mG} {id : Nat} {e : va_E} (he : mcell cA ad I J G' id (sh id) = e) (ho : ∀ b, b ≠ id → G' b = G b) : (mws cA ad n sh I J G).set id (ad id, e) = mws cA ad n sh I J G' := by
  apply List.ext_getElem?
  intro k
  by_cases hk : k = id
  · subst hk
    by_cases h : k < n
    · rw [List.getElem?_set_self (by simpa [mws] using h), mws_at h, he]
    · rw [List.getElem?_eq_none (by simp [mws]; omega), List.getElem?_eq_none (by simp [mws]; omega)]
  · rw [List.getElem?_set_ne (Ne.symm hk)]
    by_cases h : k < n
    · rw [mws_at h, mws_at h]
      have h1 := ho k hk
      have : mcell cA ad I J G' k (sh k) = mcell cA ad I J G k (sh k) := by
        unfold mcell
        split <;> simp [mf, h1]
      rw [this]
    · rw [List.getElem?_eq_none (by simp [mws]; omega), List.getElem?_eq_none (by simp [mws]; omega)]
theorem upG_off {G : mG} {a k x b : Nat} (h : b ≠ a) : upG G a k x b = G b := funext fun j => upG_n (fun q => h q.1)
section GREFS
variable {Γ : gCtx} {Φ : gPost} {own : String} {cc : ByteArray} {nL pc b : Nat} {ls ls' : List (Nat × Value)} {st : List Value}
variable {fr lo mc ms n0 n kc ks kc' ks' : Nat} {sh : mS} {G : mG} {I : mI} {J : mJ}
theorem g_putR {ix ci k id id2 N : Nat} {C : String} {T : u_T} (hg : ∀ p l s m args meth c ad0 A, Γ p l s m args meth c ad0 A → meth.name = "<init>") (f : fl own ix ci k C T N) (w : (∀ k, k < N → parseFieldDescriptor (T k).2.2.1 = some (mty ci k)) ∧ (∀ a, a < N → ∀ b, b < N → a ≠ b → (T a).2.1 ≠ (T b).2.1) ∧ (T k).2.2.2 = true ∧ (T k).1 = own) (hm : mr ci k = true) (hid : id < n) (hsh : sh id = .inl (ci, N)) (hn : ∀ a, narrow (mty ci k) (.ref a) = .ref a) (hfit : ∀ a, fits (mty ci k) (.ref a) = true) (hd : decode cc pc = .ok (.putfield ix, 3)) (hb : pc + 3 = b) (kk : Gj Γ Φ own cc nL fr lo mc ms n0 n sh (upG G id k id2) kc ks b ls st I J) : Gj Γ Φ own cc nL fr lo mc ms n0 n sh G kc ks pc ls (.ref id2 :: .ref id :: st) I J := by
  intro p l e R s m args below meth c H locs cells slots la D cA ad0 ad A hfl hΓ hag S hlk hR hkc hks hA hB hC hS hP hD hK hl
  subst hb
  obtain ⟨f1, f2, f3, f4, f5⟩ := f
  obtain ⟨w1, w2, w3, w4⟩ := w
  refine va_putF (ty := mty ci k) (v := .ref (ad id2)) S.1 S.2.1 S.2.2.2.2 f4 (mty ci) w1 w2 S.2.2.2.1 hK hP hD hS id (by rw [mws_at hid, mcell_o hsh]) f1 k f2 (S.2.2.2.2 _ f3) (fun x h => by rw [← f5]; exact h) w3 (hg _ _ _ _ _ _ _ _ _ hΓ) w4 (w1 k f2) (hn _) (hfit _) (by simpa using f2) hd (fun H locs hP hD hS => ?_)
  have eqw : (mws cA ad n sh I J G).set id (ad id, .inr (ci, ((List.range N).map (mf ad I G ci id)).set k (.ref (ad id2)))) = mws cA ad n sh I J (upG G id k id2) := by
    rw [mfs_setG hm]
    exact mws_setG (mcell_o hsh) (fun b hb => upG_off hb)
  rw [eqw] at hP hD
  exact kk p l e R s m args below meth c H locs cells slots la D cA ad0 ad A hfl hΓ hag S hlk hR hkc hks hA hB hC hS hP hD hK hl
theorem g_anew {ix a : Nat} (hz : Zo n I J G) (hn : n + 1 ≤ 1000) (hn0 : n0 ≤ n) (hsh : sh n = .inr (5, a)) (ha : a ≤ 1000) (h1 : Cond.classLink own ix "TwinBoot$Device" ∈ TT)
    (hst : ∀ v ∈ st, okV n v) (hls : ∀ q ∈ ls, okV n q.2) (hkc : kc' + 1 ≤ kc) (hks : ks' + a ≤ ks) (hd : decode cc pc = .ok (.anewarray ix, 3)) (hb : pc + 3 = b) (kk : Gj Γ Φ own cc nL fr lo mc ms n0 (n + 1) sh G kc' ks' b ls (.ref n :: st) I J) : Gj Γ Φ own cc nL fr lo mc ms n0 n sh G kc ks pc ls (.int (nI a) :: st) I J := by
  intro p l e R s m args below meth c H locs cells slots la D cA ad0 ad A hfl hΓ hag S hlk hR hkc2 hks2 hA hB hC hS hP hD hK hl
  subst hb
  have hcl : (nI a).toNatClampNeg = a := nI_clamp (by omega)
  refine W.anew S.1 S.2.1 S.2.2.2.1 (S.2.2.2.2 _ h1) (hC.word qao_dev) (n := nI a) (rest := st.map (mz ad)) rfl hd rfl (nI_npos (by omega)) (by omega) (by omega) (by omega) (fun cX kA comp e5 _ _ _ => ?_)
  rw [hcl]
  have hcX : cX = cA 5 := Option.some.inj (e5.symm.trans hC.2.2.2.2.2.1)
  subst hcX
  obtain ⟨z1, z2, z3⟩ := hz.1 n (Nat.le_refl _) (by omega)
  have hat : va_at D vwCl (H.size + 0, mcell cA (adN ad n 1 H.size) I J G (n + 0) (sh (n + 0))) (H.push { cls := cA 5, slots := Array.replicate a .null }) := by
    show va_at D vwCl (H.size, mcell cA (adN ad n 1 H.size) I J G n (sh n)) _
    rw [hsh]
    show (H.push _)[H.size]? = some (vp_cell (cA 5) (a, .inr (.inr (.inr (.inr (fun k => (G n k).map (adN ad n 1 H.size)))))))
    have e0 : (fun k => (G n k).map (adN ad n 1 H.size)) = fun _ => none := funext fun k => by rw [z3 k]; rfl
    rw [e0, vp_cell_q]
    simp
    exact arrV_new _ _ _
  obtain ⟨hP, hD, hS⟩ := growN (L := []) (cnt := 1) (e := fun i => mcell cA (adN ad n 1 H.size) I J G (n + i) (sh (n + i))) hP hD hS hA (H' := H.push { cls := cA 5, slots := Array.replicate a .null }) (by simp) (fun q hq => by rw [Array.getElem?_push, if_neg (by omega)]) (fun i hi => by
    obtain rfl : i = 0 := by omega
    exact hat) (fun _ h => absurd h List.not_mem_nil)
  rw [List.append_nil] at hS
  have ha2 : agr n ad (adN ad n 1 H.size) := adN_agr hn
  rw [mws_newN hz hn (fun _ _ => rfl) (fun _ _ => rfl)] at hP hD
  have k := kk p l e R s m args below meth c _ locs (cells + 1) (slots + a) la D cA ad0 (adN ad n 1 H.size) A hfl hΓ (hag.tr ha2 hn0) S hlk hR (by omega) (by omega) hA (hB.ad ha2) hC hS hP hD hK (by rw [lsm_agr ha2 hls]; exact hl)
  have e : (Value.ref n :: st).map (mz (adN ad n 1 H.size)) = .ref H.size :: st.map (mz ad) := by
    rw [List.map_cons, map_agr ha2 hst]
    show Value.ref (adN ad n 1 H.size (n + 0)) :: _ = _
    rw [adN_at (by decide)]
    rfl
  rw [e] at k
  exact k
theorem g_aast {id id2 len j : Nat} (hid : id < n) (hsh : sh id = .inr (5, len)) (hid2 : id2 < n) (hsh2 : sh id2 = .inl (3, 9)) (hd : decode cc pc = .ok (.aastore, 1)) (hj : j < len ∧ len < 2 ^ 31) (hb : pc + 1 = b) (kk : Gj Γ Φ own cc nL fr lo mc ms n0 n sh (upG G id j id2) kc ks b ls st I J) : Gj Γ Φ own cc nL fr lo mc ms n0 n sh G kc ks pc ls (.ref id2 :: .int (nI j) :: .ref id :: st) I J := by
  intro p l e R s m args below meth c H locs cells slots la D cA ad0 ad A hfl hΓ hag S hlk hR hkc hks hA hB hC hS hP hD hK hl
  subst hb
  refine va_astq (r := (RX0, TX0, 9)) (f := fun k => (G id k).map ad) S.1 S.2.1 hK hP hD hS id 5 id2 3 (by rw [mws_at hid, hsh]; rfl) rfl (by rw [mws_at hid2, mcell_o hsh2]) rfl (vp_in_nI hj.1 hj.2) hd (fun H locs hP hD hS => ?_)
  rw [nI_clamp (Nat.lt_trans hj.1 hj.2)] at hP hD
  have eqw : (mws cA ad n sh I J G).set id (ad id, .inl (cA 5, len, .inr (.inr (.inr (.inr (va_up (fun k => (G id k).map ad) j (some (ad id2)))))))) = mws cA ad n sh I J (upG G id j id2) :=
    mws_setG (by
      rw [hsh]
      show (_ : va_E) = _
      have : (fun k => (upG G id j id2 id k).map ad) = va_up (fun k => (G id k).map ad) j (some (ad id2)) := funext fun k => by
        by_cases hk : k = j
        · subst hk; rw [upG_s]; simp [va_up]
        · rw [upG_n (by omega)]; simp [va_up, hk]
      rw [← this]
      rfl) (fun b hb => upG_off hb)
  rw [eqw] at hP hD
  exact kk p l e R s m args below meth c H locs cells slots la D cA ad0 ad A hfl hΓ hag S hlk hR hkc hks hA hB hC hS hP hD hK hl
end GREFS

/-! GROWING WORLDS: rows of ints, rows of rows, references -/
def adN (ad : Nat → Nat) (n cnt h : Nat) : Nat → Nat := fun k => if n ≤ k ∧ k < n + cnt then h + (k - n) else ad k
theorem adN_agr {ad : Nat → Nat} {n cnt h : Nat} (hn : n + cnt ≤ 1000) : agr n ad (adN ad n cnt h) := fun k hk => if_neg (by omega)
theorem adN_at {ad : Nat → Nat} {n cnt h i : Nat} (hi : i < cnt) : adN ad n cnt h (n + i) = h + i := (if_pos (by omega)).trans (by omega)
theorem mws_newN {n cnt h : Nat} {cA : Nat → ClassId} {ad : Nat → Nat} {sh : mS} {I : mI} {J : mJ} {G G' : mG} {e : Nat → va_E} (hz : Zo n I J G) (hn : n + cnt ≤ 1000) (hG : ∀ id, id < n → G' id = G id) (he : ∀ i, i < cnt → mcell cA (adN ad n cnt h) I J G' (n + i) (sh (n + i)) = e i) : mws cA ad n sh I J G ++ (List.range cnt).map (fun i => (h + i, e i)) = mws cA (adN ad n cnt h) (n + cnt) sh I J G' := by
  have hag : agr n ad (adN ad n cnt h) := adN_agr hn
  unfold mws
  rw [List.range_add, List.map_append, List.map_map]
  congr 1
  · refine List.map_congr_left (fun id hid => ?_)
    have h1 := List.mem_range.mp hid
    rw [mcell_agr (G := G') hag (fun k x e => by rw [hG id h1] at e; exact hz.2 id k x e), hag id (Or.inl h1)]
    have eg : mcell cA ad I J G' id (sh id) = mcell cA ad I J G id (sh id) := by
      unfold mcell
      split <;> simp [mf, hG id h1]
    rw [eg]
  · refine List.map_congr_left (fun i hi => ?_)
    have h1 := List.mem_range.mp hi
    show (h + i, e i) = (adN ad n cnt h (n + i), mcell cA (adN ad n cnt h) I J G' (n + i) (sh (n + i)))
    rw [adN_at h1, he i h1]
theorem growN {D : va_G} {cl : List vw_C} {A : Nat → Prop} {ws : va_W} {H0 H H' : Heap} {locs L : List Jvm.Loc} {cnt : Nat} {e : Nat → va_E} (hP : va_P D cl ws H) (hD : va_D A ws) (hS : va_S A H0 H locs) (hA : ∀ q, H0.size ≤ q → A q) (hsz : H'.size = H.size + cnt) (ho : ∀ q, q < H.size → H'[q]? = H[q]?) (he : ∀ i, i < cnt → va_at D cl (H.size + i, e i) H') (hL : ∀ q ∈ L, q.base = H.size) :
    va_P D cl (ws ++ (List.range cnt).map (fun i => (H.size + i, e i))) H' ∧ va_D A (ws ++ (List.range cnt).map (fun i => (H.size + i, e i))) ∧ va_S A H0 H' (locs ++ L) := by
  have hlt : ∀ (k : Nat) (x : Nat × va_E), ws[k]? = some x → x.1 < H.size := fun k x hx => (hP k x hx).lt
  have hnew : ∀ (k : Nat) (x : Nat × va_E), (ws ++ (List.range cnt).map (fun i => (H.size + i, e i)))[k]? = some x → (k < ws.length ∧ ws[k]? = some x) ∨ (ws.length ≤ k ∧ k - ws.length < cnt ∧ x = (H.size + (k - ws.length), e (k - ws.length))) := fun k x hx => by
    by_cases hl : k < ws.length
    · rw [List.getElem?_append_left hl] at hx
      exact Or.inl ⟨hl, hx⟩
    · rw [List.getElem?_append_right (by omega)] at hx
      have hk : k - ws.length < cnt := by
        have := (List.getElem?_eq_some_iff.mp hx).1
        simpa using this
      rw [List.getElem?_map, List.getElem?_range hk] at hx
      exact Or.inr ⟨by omega, hk, (Option.some.inj hx).symm⟩
  refine ⟨fun k x hx => ?_, ⟨fun i j p q hi hj hpq => ?_, fun k x hx => ?_⟩, ?_⟩
  · rcases hnew k x hx with ⟨_, h⟩ | ⟨_, h2, rfl⟩
    · exact (va_P.kept hP (fun k q hq => ho q.1 (hlt k q hq))) k x h
    · exact he _ h2
  · rcases hnew i p hi with ⟨_, h⟩ | ⟨h1, h2, rfl⟩
    · rcases hnew j q hj with ⟨_, g⟩ | ⟨g1, g2, rfl⟩
      · exact hD.1 i j p q h g hpq
      · have := hlt i p h
        have hpq : p.1 = H.size + (j - ws.length) := hpq
        omega
    · rcases hnew j q hj with ⟨_, g⟩ | ⟨g1, g2, rfl⟩
      · have := hlt j q g
        have hpq : H.size + (i - ws.length) = q.1 := hpq
        omega
      · have hpq : H.size + (i - ws.length) = H.size + (j - ws.length) := hpq
        omega
  · rcases hnew k x hx with ⟨_, h⟩ | ⟨_, h2, rfl⟩
    · exact hD.2 k x h
    · exact hA _ (by have := hS.1; show H0.size ≤ H.size + _; omega)
  · refine ⟨by have := hS.1; omega, fun x h1 h2 => (ho x (Nat.lt_of_lt_of_le h1 hS.1)).trans (hS.2.1 x h1 h2), fun q hq => ?_⟩
    rcases List.mem_append.mp hq with h | h
    · exact hS.2.2 q h
    · rw [hL q h]
      exact hA _ hS.1
section GNEW2
variable {Γ : gCtx} {Φ : gPost} {own : String} {cc : ByteArray} {nL pc b : Nat} {ls ls' : List (Nat × Value)} {st : List Value}
variable {fr lo mc ms n0 n kc ks kc' ks' : Nat} {sh : mS} {G : mG} {I : mI} {J : mJ}
theorem g_newi {atype : ArrayType} {t len : Nat} (hz : Zo n I J G) (hn : n + 1 ≤ 1000) (hn0 : n0 ≤ n) (hsh : sh n = .inr (t, len)) (hlen : len ≤ 1000) (ht : (t = 0 ∧ newarray.typeOf atype = .int) ∨ (t = 1 ∧ newarray.typeOf atype = .byte) ∨ (t = 2 ∧ newarray.typeOf atype = .boolean)) (h1 : Cond.arrayClass (newarray.typeOf atype) ∈ TT)
    (hst : ∀ v ∈ st, okV n v) (hls : ∀ q ∈ ls, okV n q.2) (hkc : kc' + 1 ≤ kc) (hks : ks' + len ≤ ks) (hd : decode cc pc = .ok (.newarray atype, 2)) (hb : pc + 2 = b) (kk : Gj Γ Φ own cc nL fr lo mc ms n0 (n + 1) sh G kc' ks' b ls (.ref n :: st) I J) : Gj Γ Φ own cc nL fr lo mc ms n0 n sh G kc ks pc ls (.int (nI len) :: st) I J := by
  intro p l e R s m args below meth c H locs cells slots la D cA ad0 ad A hfl hΓ hag S hlk hR hkc2 hks2 hA hB hC hS hP hD hK hl
  subst hb
  have hcl : (nI len).toNatClampNeg = len := nI_clamp (by omega)
  have hcb : componentBytes (newarray.typeOf atype) ≤ 8 := by rcases ht with ⟨_, h⟩ | ⟨_, h⟩ | ⟨_, h⟩ <;> rw [h] <;> decide
  have hby : len * componentBytes (newarray.typeOf atype) ≤ 536870912 := Nat.le_trans (Nat.mul_le_mul hlen hcb) (by decide)
  refine va_newaK S.1 S.2.1 (S.2.2.2.2 _ h1) rfl hd rfl (nI_npos (by omega)) hcl hby (by omega) (by omega) (h := H.size) rfl (fun H' cX e1 e2 e3 e4 e5 => ?_)
  obtain ⟨z1, z2, z3⟩ := hz.1 n (Nat.le_refl _) (by omega)
  have hI0 : I n = fun _ => 0 := funext z1
  have hJ0 : J n = fun _ => 0 := funext z2
  have hcX : cX = cA t := by
    rcases ht with ⟨rfl, h⟩ | ⟨rfl, h⟩ | ⟨rfl, h⟩ <;> rw [h] at e5
    · exact Option.some.inj (e5.symm.trans hC.1)
    · exact Option.some.inj (e5.symm.trans hC.2.1)
    · exact Option.some.inj (e5.symm.trans hC.2.2.1)
  subst hcX
  have hat : va_at D vwCl (H.size + 0, mcell cA (adN ad n 1 H.size) I J G (n + 0) (sh (n + 0))) H' := by
    show va_at D vwCl (H.size, mcell cA (adN ad n 1 H.size) I J G n (sh n)) H'
    rw [hsh]
    rcases ht with ⟨rfl, h⟩ | ⟨rfl, h⟩ | ⟨rfl, h⟩
    · show H'[H.size]? = some (vp_cell (cA 0) (len, .inl (I n)))
      rw [e1, h, hI0]; rfl
    · show H'[H.size]? = some (vp_cell (cA 1) (len, .inl (I n)))
      rw [e1, h, hI0]; rfl
    · show H'[H.size]? = some (vp_cell (cA 2) (len, .inl (I n)))
      rw [e1, h, hI0]; rfl
  obtain ⟨hP, hD, hS⟩ := growN (L := []) (cnt := 1) (e := fun i => mcell cA (adN ad n 1 H.size) I J G (n + i) (sh (n + i))) hP hD hS hA e2 e3 (fun i hi => by
    obtain rfl : i = 0 := by omega
    exact hat) (fun _ h => absurd h List.not_mem_nil)
  rw [List.append_nil] at hS
  have ha2 : agr n ad (adN ad n 1 H.size) := adN_agr hn
  rw [mws_newN hz hn (fun _ _ => rfl) (fun _ _ => rfl)] at hP hD
  have k := kk p l e R s m args below meth c H' locs (cells + 1) (slots + len) la D cA ad0 (adN ad n 1 H.size) A hfl hΓ (hag.tr ha2 hn0) S hlk hR (by omega) (by omega) hA (hB.ad ha2) hC hS hP hD hK (by rw [lsm_agr ha2 hls]; exact hl)
  have e : (Value.ref n :: st).map (mz (adN ad n 1 H.size)) = .ref H.size :: st.map (mz ad) := by
    rw [List.map_cons, map_agr ha2 hst]
    show Value.ref (adN ad n 1 H.size (n + 0)) :: _ = _
    rw [adN_at (by decide)]
    rfl
  rw [e] at k
  exact k
end GNEW2

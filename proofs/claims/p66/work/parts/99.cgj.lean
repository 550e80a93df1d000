/-! GROWING WORLDS: what is made, constructors' contracts -/
def adu (ad : Nat → Nat) (n q : Nat) : Nat → Nat := fun k => if k = n then q else ad k
theorem adu_agr {ad : Nat → Nat} {n q : Nat} (h : n < 1000) : agr n ad (adu ad n q) := fun k hk => if_neg (by omega)
/-- nothing stands beyond n, and nothing points there -/
def Zo (n : Nat) (I : mI) (J : mJ) (G : mG) : Prop := (∀ id, n ≤ id → id < 1000 → (∀ k, I id k = 0) ∧ (∀ k, J id k = 0) ∧ ∀ k, G id k = none) ∧ ∀ id k x, G id k = some x → x < n
theorem Zo.up {n : Nat} {I : mI} {J : mJ} {G : mG} (h : Zo n I J G) {m : Nat} (hm : n ≤ m) : Zo m I J G := ⟨fun id h1 h2 => h.1 id (by omega) h2, fun id k x e => by have := h.2 id k x e; omega⟩
def okV (n : Nat) (v : Value) : Prop := match v with
  | .ref k => k < n ∨ 1000 ≤ k
  | _ => True
theorem mz_agr {n : Nat} {ad ad' : Nat → Nat} (h : agr n ad ad') {v : Value} (hv : okV n v) : mz ad' v = mz ad v := by
  cases v <;> first | rfl | (show Value.ref _ = Value.ref _; rw [h _ hv])
theorem map_agr {n : Nat} {ad ad' : Nat → Nat} (h : agr n ad ad') {vs : List Value} (hv : ∀ v ∈ vs, okV n v) : vs.map (mz ad') = vs.map (mz ad) := List.map_congr_left (fun v hm => mz_agr h (hv v hm))
theorem lsm_agr {n : Nat} {ad ad' : Nat → Nat} (h : agr n ad ad') {ls : List (Nat × Value)} (hv : ∀ q ∈ ls, okV n q.2) : ls.map (mzp ad') = ls.map (mzp ad) := List.map_congr_left (fun q hm => by unfold mzp; rw [mz_agr h (hv q hm)])
theorem BG.ad {n : Nat} {ad ad' : Nat → Nat} {A : Nat → Prop} {U : State} {H : Heap} (hB : BG ad A U H) (h : agr n ad ad') : BG ad' A U H := by
  have e0 : ad' 1200 = ad 1200 := h _ (Or.inr (by decide))
  have e1 : (fun i => ad' (1000 + i)) = fun i => ad (1000 + i) := funext fun i => h _ (by omega)
  have e2 : (fun i => ad' (1100 + i)) = fun i => ad (1100 + i) := funext fun i => h _ (by omega)
  have e3 : ∀ i, ad' (1000 + i) = ad (1000 + i) := fun i => h _ (by omega)
  have hX : BX ad' A U H := by
    have f1 : (fun i => ad' (1010 + i)) = fun i => ad (1010 + i) := funext fun i => h _ (by omega)
    have f2 : (fun i => ad' (1110 + i)) = fun i => ad (1110 + i) := funext fun i => h _ (by omega)
    have f3 : ad' 1201 = ad 1201 := h _ (Or.inr (by decide))
    have f4 : ad' 1202 = ad 1202 := h _ (Or.inr (by decide))
    have f5 : ad' 1300 = ad 1300 := h _ (Or.inr (by decide))
    have hx := hB.2.2.2.2.2.2.2.2
    unfold BX at hx ⊢
    rw [f1, f2, f3, f4, f5]
    exact hx
  unfold BG at hB ⊢
  rw [e0, e1, e2]
  exact ⟨hB.1, hB.2.1, hB.2.2.1, hB.2.2.2.1, hB.2.2.2.2.1, fun q hq => by rw [e3]; exact hB.2.2.2.2.2.1 q hq, hB.2.2.2.2.2.2.1, hB.2.2.2.2.2.2.2.1, hX⟩
theorem mcell_agr {n : Nat} {cA : Nat → ClassId} {ad ad' : Nat → Nat} {I : mI} {J : mJ} {G : mG} {id : Nat} (h : agr n ad ad') (hG : ∀ k x, G id k = some x → x < n) (x : (Nat × Nat) ⊕ (Nat × Nat)) : mcell cA ad' I J G id x = mcell cA ad I J G id x := by
  have e : ∀ k, (G id k).map ad' = (G id k).map ad := fun k => by
    cases q : G id k with
    | none => rfl
    | some y => show some _ = some _; rw [h y (Or.inl (hG k y q))]
  unfold mcell
  split <;> simp [mf, e]
theorem mws_new {n : Nat} {cA : Nat → ClassId} {ad : Nat → Nat} {sh : mS} {I : mI} {J : mJ} {G : mG} {q : Nat} {e : va_E} (hz : Zo n I J G) (hn : n < 1000) (he : mcell cA (adu ad n q) I J G n (sh n) = e) : mws cA ad n sh I J G ++ [(q, e)] = mws cA (adu ad n q) (n + 1) sh I J G := by
  have hag : agr n ad (adu ad n q) := adu_agr hn
  unfold mws
  rw [List.range_succ, List.map_append]
  congr 1
  · refine List.map_congr_left (fun id hid => ?_)
    have h1 := List.mem_range.mp hid
    rw [mcell_agr hag (fun k x e => hz.2 id k x e), hag id (Or.inl h1)]
  · show [(q, e)] = [(adu ad n q n, mcell cA (adu ad n q) I J G n (sh n))]
    rw [he, show adu ad n q n = q from if_pos rfl]
section GNEW
variable {Γ : gCtx} {Φ : gPost} {own : String} {cc : ByteArray} {nL pc b : Nat} {ls ls' : List (Nat × Value)} {st : List Value}
variable {fr lo mc ms n0 n kc ks kc' ks' : Nat} {sh : mS} {G : mG} {I : mI} {J : mJ}
theorem g_new {ix ci N : Nat} {C : String} {T : u_T} (hz : Zo n I J G) (hn : n < 1000) (hn0 : n0 ≤ n) (hsh : sh n = .inl (ci, N)) (hcl : vwCl[ci]? = some (C, T, N)) (hws : ∀ w ∈ u_ws C T N, w ∈ TT) (hty : ∀ k, k < N → parseFieldDescriptor (T k).2.2.1 = some (mty ci k)) (h1 : Cond.classLink own ix C ∈ TT) (h2 : Cond.instantiable C N ∈ TT) (h3 : Cond.initialized C ∈ TT) (hdv : ∀ j, j < N → defaultValue (mty ci j) = if mr ci j = true then .null else .int 0)
    (hst : ∀ v ∈ st, okV n v) (hls : ∀ q ∈ ls, okV n q.2) (hkc : kc' + 1 ≤ kc) (hks : ks' + N ≤ ks) (hd : decode cc pc = .ok (.new ix, 3)) (hb : pc + 3 = b) (kk : Gj Γ Φ own cc nL fr lo mc ms n0 (n + 1) sh G kc' ks' b ls (.ref n :: st) I J) : Gj Γ Φ own cc nL fr lo mc ms n0 n sh G kc ks pc ls st I J := by
  intro p l e R s m args below meth c H locs cells slots la D cA ad0 ad A hfl hΓ hag S hlk hR hkc2 hks2 hA hB hC hS hP hD hK hl
  subst hb
  refine va_new (fs := (List.range N).map (fun j => if mr ci j = true then .null else .int 0)) S.1 S.2.1 S.2.2.2.2 hws (mty ci) hty S.2.2.2.1 (S.2.2.2.2 _ h1) (S.2.2.2.2 _ h2) (S.2.2.2.2 _ h3) hK hP hD hS hA hcl (fun j hj => by rw [hdv j hj]; simp [vp_V, hj]) (by omega) (by omega) hd (fun q H1 hP hD hS => ?_)
  have ha2 : agr n ad (adu ad n q) := adu_agr hn
  have eqw : mws cA ad n sh I J G ++ [(q, .inr (ci, (List.range N).map (fun j => if mr ci j = true then .null else .int 0)))] = mws cA (adu ad n q) (n + 1) sh I J G := mws_new hz hn (by
    rw [mcell_o hsh]
    obtain ⟨z1, -, z3⟩ := hz.1 n (Nat.le_refl _) hn
    simp [mf, z1, z3, va_rf])
  rw [eqw] at hP hD
  have k := kk p l e R s m args below meth c H1 locs (cells + 1) (slots + N) la D cA ad0 (adu ad n q) A hfl hΓ (hag.tr ha2 hn0) S hlk hR (by omega) (by omega) hA (hB.ad ha2) hC hS hP hD hK (by rw [lsm_agr ha2 hls]; exact hl)
  have e : (Value.ref n :: st).map (mz (adu ad n q)) = .ref q :: st.map (mz ad) := by
    rw [List.map_cons, map_agr ha2 hst]
    show Value.ref (adu ad n q n) :: _ = _
    rw [show adu ad n q n = q from if_pos rfl]
  rw [e] at k
  exact k
end GNEW

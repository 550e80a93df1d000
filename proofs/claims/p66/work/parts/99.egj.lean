/-! GROWING WORLDS: rows of rows, references stored -/
def upG (G : mG) (a k x : Nat) : mG := fun b j => if b = a ∧ j = k then some x else G b j
theorem upG_s {G : mG} {a k x : Nat} : upG G a k x a k = some x := if_pos ⟨rfl, rfl⟩
theorem upG_n {G : mG} {a k x b j : Nat} (h : ¬ (b = a ∧ j = k)) : upG G a k x b j = G b j := if_neg h
def muG (G : mG) (n a : Nat) : mG := fun b j => if b = n ∧ j < a then some (n + 1 + j) else G b j
theorem muG_s {G : mG} {n a j : Nat} (h : j < a) : muG G n a n j = some (n + 1 + j) := if_pos ⟨rfl, h⟩
theorem muG_o {G : mG} {n a b j : Nat} (h : b ≠ n) : muG G n a b j = G b j := if_neg (fun q => h q.1)
theorem Zo.mu {n a : Nat} {I : mI} {J : mJ} {G : mG} (h : Zo n I J G) : Zo (n + (a + 1)) I J (muG G n a) := by
  refine ⟨fun id h1 h2 => ?_, fun id k x e => ?_⟩
  · obtain ⟨z1, z2, z3⟩ := h.1 id (by omega) h2
    exact ⟨z1, z2, fun k => (muG_o (by omega)).trans (z3 k)⟩
  · unfold muG at e
    split at e
    · have := Option.some.inj e; omega
    · have := h.2 id k x e; omega
theorem Zo.ug {n a k x : Nat} {I : mI} {J : mJ} {G : mG} (h : Zo n I J G) (ha : a < n) (hx : x < n) : Zo n I J (upG G a k x) := by
  refine ⟨fun id h1 h2 => ?_, fun id j y e => ?_⟩
  · obtain ⟨z1, z2, z3⟩ := h.1 id h1 h2
    exact ⟨z1, z2, fun j => (upG_n (by omega)).trans (z3 j)⟩
  · unfold upG at e
    split at e
    · have := Option.some.inj e; omega
    · exact h.2 id j y e
theorem Zo.ui {n a k : Nat} {v : Int32} {I : mI} {J : mJ} {G : mG} (h : Zo n I J G) (ha : a < n) : Zo n (up2 I a k v) J G := ⟨fun id h1 h2 => by
  obtain ⟨z1, z2, z3⟩ := h.1 id h1 h2
  exact ⟨fun j => (up2_a (by omega)).trans (z1 j), z2, z3⟩, h.2⟩
theorem Zo.of {n : Nat} {I I' : mI} {J : mJ} {G : mG} (h : Zo n I J G) (hI : ∀ id, n ≤ id → I' id = I id) : Zo n I' J G := ⟨fun id h1 h2 => by
  obtain ⟨z1, z2, z3⟩ := h.1 id h1 h2
  exact ⟨fun j => (congrFun (hI id h1) j).trans (z1 j), z2, z3⟩, h.2⟩
section GNEW3
variable {Γ : gCtx} {Φ : gPost} {own : String} {cc : ByteArray} {nL pc b : Nat} {ls ls' : List (Nat × Value)} {st : List Value}
variable {fr lo mc ms n0 n kc ks kc' ks' : Nat} {sh : mS} {G : mG} {I : mI} {J : mJ}
theorem g_multi {ix a w : Nat} (hz : Zo n I J G) (hn : n + (a + 1) ≤ 1000) (hn0 : n0 ≤ n) (hsh : sh n = .inr (4, a)) (hsr : ∀ k, k < a → sh (n + 1 + k) = .inr (0, w)) (ha0 : 0 < a) (ha : a ≤ 1000) (hw : w ≤ 1000) (h1 : Cond.classLink own ix "[[I" ∈ TT)
    (hst : ∀ v ∈ st, okV n v) (hls : ∀ q ∈ ls, okV n q.2) (hkc : kc' + (a + 1) ≤ kc) (hks : ks' + (a + a * w) ≤ ks) (hd : decode cc pc = .ok (.multianewarray ix 2, 4)) (hb : pc + 4 = b) (kk : Gj Γ Φ own cc nL fr lo mc ms n0 (n + (a + 1)) sh (muG G n a) kc' ks' b ls (.ref n :: st) I J) : Gj Γ Φ own cc nL fr lo mc ms n0 n sh G kc ks pc ls (.int (nI w) :: .int (nI a) :: st) I J := by
  intro p l e R s m args below meth c H locs cells slots la D cA ad0 ad A hfl hΓ hag S hlk hR hkc2 hks2 hA hB hC hS hP hD hK hl
  subst hb
  obtain ⟨k0, k1, k2, k3, k4, k5, ⟨kA, a1, a2⟩, ⟨kI, cz, b1, b2⟩, -⟩ := id hC
  refine W.multi2 S.1 S.2.1 S.2.2.2.1 (S.2.2.2.2 _ h1) k4 a1 a2 b1 b2 (nI_clamp (by omega)) (nI_clamp (by omega)) (nI_npos (by omega)) (nI_npos (by omega)) ha0 ha hw hd (by omega) (by omega) (fun H' L hL e2 e3 e4 e5 => ?_)
  obtain ⟨Z, c1, c4, c5⟩ := e5
  have hag2 : agr n ad (adN ad n (a + 1) H.size) := adN_agr hn
  have hgm : ∀ j, j < a → (muG G n a n j).map (adN ad n (a + 1) H.size) = some (H.size + 1 + j) := fun j hj => by
    rw [muG_s hj]
    show some (adN ad n (a + 1) H.size (n + 1 + j)) = _
    rw [Nat.add_assoc, adN_at (by omega), Nat.add_assoc]
  have hat : ∀ i, i < a + 1 → va_at D vwCl (H.size + i, mcell cA (adN ad n (a + 1) H.size) I J (muG G n a) (n + i) (sh (n + i))) H' := fun i hi => by
    by_cases i0 : i = 0
    · subst i0
      show va_at D vwCl (H.size, mcell cA (adN ad n (a + 1) H.size) I J (muG G n a) n (sh n)) H'
      rw [hsh]
      show H'[H.size]? = some (vp_cell (cA 4) (a, .inr (.inr (.inr (.inr (fun k => (muG G n a n k).map (adN ad n (a + 1) H.size)))))))
      rw [c1]
      congr 1
      have es : Z = (arrV (cA 4) a (fun k => va_rf ((muG G n a n k).map (adN ad n (a + 1) H.size)))).slots := by
        apply Array.ext_getElem?
        intro k
        by_cases hk : k < a
        · rw [c5 k hk, arrV_read _ _ hk, hgm k hk]
          rfl
        · rw [Array.getElem?_eq_none (by omega), Array.getElem?_eq_none (by rw [arrV_size]; omega)]
      rw [vp_cell_q, es]
      rfl
    · obtain ⟨j, rfl⟩ : ∃ j, i = j + 1 := ⟨i - 1, by omega⟩
      have hs := hsr j (by omega)
      rw [show n + (j + 1) = n + 1 + j by omega, hs]
      show H'[H.size + (j + 1)]? = some (vp_cell (cA 0) (w, .inl (I (n + 1 + j))))
      rw [show H.size + (j + 1) = H.size + 1 + j by omega, e4 j (by omega)]
      have hI0 : I (n + 1 + j) = fun _ => 0 := funext (hz.1 _ (by omega) (by omega)).1
      rw [hI0]
      congr 1
      exact arrV_new _ _ _
  obtain ⟨hP, hD, hS⟩ := growN (cnt := a + 1) (e := fun i => mcell cA (adN ad n (a + 1) H.size) I J (muG G n a) (n + i) (sh (n + i))) hP hD hS hA (by omega) e3 hat hL
  rw [mws_newN (G' := muG G n a) hz hn (fun id hid => funext fun j => muG_o (by omega)) (fun _ _ => rfl)] at hP hD
  have k := kk p l e R s m args below meth c H' (locs ++ L) (cells + (a + 1)) (slots + (a + a * w)) la D cA ad0 (adN ad n (a + 1) H.size) A hfl hΓ (hag.tr hag2 hn0) S hlk hR (by omega) (by omega) hA (hB.ad hag2) hC hS hP hD hK (by rw [lsm_agr hag2 hls]; exact hl)
  have e : (Value.ref n :: st).map (mz (adN ad n (a + 1) H.size)) = .ref H.size :: st.map (mz ad) := by
    rw [List.map_cons, map_agr hag2 hst]
    show Value.ref (adN ad n (a + 1) H.size (n + 0)) :: _ = _
    rw [adN_at (by omega)]
    rfl
  rw [e] at k
  exact k
end GNEW3

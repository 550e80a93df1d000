/-! THE LAW'S TEXT, as it grows -/
def lawT (t v w l : Nat) : tT := fun j =>
  if j < 20 then lt0 j else if j = 20 then 48 + t else if j < 30 then lt1 (j - 21) else if j < 30 + dg v then 48 + v / dgp (dg v - 1 - (j - 30)) % 10
  else if j < 33 + dg v then lt2 (j - (30 + dg v)) else if j < 33 + dg v + dg w then 48 + w / dgp (dg w - 1 - (j - (33 + dg v))) % 10
  else if j < 46 + dg v + dg w then lt3 (j - (33 + dg v + dg w)) else if j = 46 + dg v + dg w then 48 + l else 0
section LT
variable {t v w l t' v' w' j : Nat}
theorem lT0 (h : j < 20) : lawT t v w l j = lt0 j := if_pos h
theorem lTt : lawT t v w l 20 = 48 + t := rfl
theorem lT1 (h : j < 9) : lawT t v w l (21 + j) = lt1 j := by
  unfold lawT
  rw [if_neg (by omega), if_neg (by omega), if_pos (by omega), Nat.add_sub_cancel_left]
theorem lTv (h : j < dg v) : lawT t v w l (30 + j) = 48 + v / dgp (dg v - 1 - j) % 10 := by
  unfold lawT
  rw [if_neg (by omega), if_neg (by omega), if_neg (by omega), if_pos (by omega), Nat.add_sub_cancel_left]
theorem lT2 (h : j < 3) : lawT t v w l (30 + dg v + j) = lt2 j := by
  unfold lawT
  rw [if_neg (by omega), if_neg (by omega), if_neg (by omega), if_neg (by omega), if_pos (by omega), Nat.add_sub_cancel_left]
theorem lTw (h : j < dg w) : lawT t v w l (33 + dg v + j) = 48 + w / dgp (dg w - 1 - j) % 10 := by
  unfold lawT
  rw [if_neg (by omega), if_neg (by omega), if_neg (by omega), if_neg (by omega), if_neg (by omega), if_pos (by omega), Nat.add_sub_cancel_left]
theorem lT3 (h : j < 13) : lawT t v w l (33 + dg v + dg w + j) = lt3 j := by
  unfold lawT
  rw [if_neg (by omega), if_neg (by omega), if_neg (by omega), if_neg (by omega), if_neg (by omega), if_neg (by omega), if_pos (by omega), Nat.add_sub_cancel_left]
theorem lTl : lawT t v w l (46 + dg v + dg w) = 48 + l := by
  unfold lawT
  rw [if_neg (by omega), if_neg (by omega), if_neg (by omega), if_neg (by omega), if_neg (by omega), if_neg (by omega), if_neg (by omega), if_pos rfl]
theorem lTz (h : 47 + dg v + dg w ≤ j) : lawT t v w l j = 0 := by
  unfold lawT
  rw [if_neg (by omega), if_neg (by omega), if_neg (by omega), if_neg (by omega), if_neg (by omega), if_neg (by omega), if_neg (by omega), if_neg (by omega)]
theorem lTa1 (h : j < 20) : lawT t v w l j = lawT t' v' w' l j := (lT0 h).trans (lT0 h).symm
theorem lTa2 (h : j < 30) : lawT t v w l j = lawT t v' w' l j := by
  rcases (by omega : j < 20 ∨ j = 20 ∨ 21 ≤ j) with g | g | g
  · exact lTa1 g
  · rw [g]; rfl
  · have h1 := lT1 (t := t) (v := v) (w := w) (l := l) (j := j - 21) (by omega)
    have h2 := lT1 (t := t) (v := v') (w := w') (l := l) (j := j - 21) (by omega)
    rw [show 21 + (j - 21) = j by omega] at h1 h2
    rw [h1, h2]
theorem lTa3 (h : j < 33 + dg v) : lawT t v w l j = lawT t v w' l j := by
  rcases (by omega : j < 30 ∨ (30 ≤ j ∧ j < 30 + dg v) ∨ 30 + dg v ≤ j) with g | g | g
  · exact lTa2 g
  · have h1 := lTv (t := t) (v := v) (w := w) (l := l) (j := j - 30) (by omega)
    have h2 := lTv (t := t) (v := v) (w := w') (l := l) (j := j - 30) (by omega)
    rw [show 30 + (j - 30) = j by omega] at h1 h2
    rw [h1, h2]
  · have h1 := lT2 (t := t) (v := v) (w := w) (l := l) (j := j - (30 + dg v)) (by omega)
    have h2 := lT2 (t := t) (v := v) (w := w') (l := l) (j := j - (30 + dg v)) (by omega)
    rw [show 30 + dg v + (j - (30 + dg v)) = j by omega] at h1 h2
    rw [h1, h2]
theorem lT_ok (ht : 1 ≤ t ∧ t ≤ 3) (hv : 1 ≤ v ∧ v ≤ 255) (hw : w < 65536) (hl : l ≤ 9) : LTx (lawT t v w l) (47 + dg v + dg w) t v w l :=
  ⟨fun _ h => lT0 h, lTt, fun _ h => lT1 h, fun _ h => lTv h, fun _ h => lT2 h, fun _ h => lTw h, fun _ h => lT3 h, lTl, fun _ h => lTz h, rfl, ht, hv, hw, hl⟩
theorem lT_asc (ht : t ≤ 3) (hl : l ≤ 9) : Asc (lawT t v w l) (47 + dg v + dg w) := by
  intro k hk
  have a0 : ∀ j, j < 20 → 0 < lt0 j ∧ lt0 j < 128 := by decide
  have a1 : ∀ j, j < 9 → 0 < lt1 j ∧ lt1 j < 128 := by decide
  have a2 : ∀ j, j < 3 → 0 < lt2 j ∧ lt2 j < 128 := by decide
  have a3 : ∀ j, j < 13 → 0 < lt3 j ∧ lt3 j < 128 := by decide
  unfold lawT
  split
  · exact a0 k (by assumption)
  · split
    · omega
    · split
      · exact a1 _ (by omega)
      · split
        · have := Nat.mod_lt (v / dgp (dg v - 1 - (k - 30))) (show 0 < 10 by decide)
          omega
        · split
          · exact a2 _ (by omega)
          · split
            · have := Nat.mod_lt (w / dgp (dg w - 1 - (k - (33 + dg v)))) (show 0 < 10 by decide)
              omega
            · split
              · exact a3 _ (by omega)
              · split <;> omega
theorem cB_0 (h : j < cW 0) : cB 0 j = nI (lt0 j) := by
  have q : ∀ j : Nat, j < 20 → cB 0 j = nI (lt0 j) := by decide
  exact q j h
theorem cB_1 (h : j < cW 1) : cB 1 j = nI (lt1 j) := by
  have q : ∀ j : Nat, j < 9 → cB 1 j = nI (lt1 j) := by decide
  exact q j h
theorem cB_2 (h : j < cW 2) : cB 2 j = nI (lt2 j) := by
  have q : ∀ j : Nat, j < 3 → cB 2 j = nI (lt2 j) := by decide
  exact q j h
theorem cB_3 (h : j < cW 3) : cB 3 j = nI (lt3 j) := by
  have q : ∀ j : Nat, j < 13 → cB 3 j = nI (lt3 j) := by decide
  exact q j h
end LT
/-- the builder x has the first cnt letters of T in its row a of cap cells -/
abbrev SBd (G : mG) (I : mI) (x a cap cnt : Nat) (T : tT) : Prop := (I x 1 = 0) ∧ (G x 0 = some a) ∧ (I x 3 = nI cnt) ∧ (cnt ≤ cap) ∧ (∀ j, j < cnt → I a j = nI (T j)) ∧ (∀ j, j < cap → fits .byte (.int (I a j)) = true)
theorem SBd.co {G : mG} {I : mI} {x a cap cnt : Nat} {T : tT} (h : SBd G I x a cap cnt T) : I x 1 = 0 := h.1
theorem SBd.va {G : mG} {I : mI} {x a cap cnt : Nat} {T : tT} (h : SBd G I x a cap cnt T) : G x 0 = some a := h.2.1
theorem SBd.ct {G : mG} {I : mI} {x a cap cnt : Nat} {T : tT} (h : SBd G I x a cap cnt T) : I x 3 = nI cnt := h.2.2.1
theorem SBd.le {G : mG} {I : mI} {x a cap cnt : Nat} {T : tT} (h : SBd G I x a cap cnt T) : cnt ≤ cap := h.2.2.2.1
theorem SBd.rw {G : mG} {I : mI} {x a cap cnt : Nat} {T : tT} (h : SBd G I x a cap cnt T) : ∀ j, j < cnt → I a j = nI (T j) := h.2.2.2.2.1
theorem SBd.ft {G : mG} {I : mI} {x a cap cnt : Nat} {T : tT} (h : SBd G I x a cap cnt T) : ∀ j, j < cap → fits .byte (.int (I a j)) = true := h.2.2.2.2.2
theorem SBd.tx {G : mG} {I : mI} {x a cap cnt : Nat} {T T' : tT} (h : SBd G I x a cap cnt T) (e : ∀ j, j < cnt → T j = T' j) : SBd G I x a cap cnt T' :=
  ⟨h.co, h.va, h.ct, h.le, fun j hj => by rw [← e j hj]; exact h.rw j hj, h.ft⟩
section SB
variable {G : mG} {I : mI} {x a n cap m cnt i : Nat} {T : tT}
theorem fits_0 : fits .byte (.int 0) = true := by decide
theorem sb_new (hz : ∀ j, I a j = 0) (h3 : I x 3 = 0) (hxa : x ≠ a) : SBd (upG G x 0 a) (up2 I x 1 0) x a cap 0 T :=
  ⟨up2_s, upG_s, (up2_k (by decide)).trans h3, Nat.zero_le _, fun j hj => absurd hj (Nat.not_lt_zero j), fun j _ => by rw [up2_a (Ne.symm hxa), hz]; exact fits_0⟩
theorem sb_grow (h : SBd G I x a cap cnt T) (hz : ∀ j, I n j = 0) (hxn : x ≠ n) (hcm : cap ≤ m) : SBd (upG G x 0 n) (cpf I (I a) n 0 0 cap) x n m cnt T := by
  refine ⟨by rw [cpf_off hxn]; exact h.co, upG_s, by rw [cpf_off hxn]; exact h.ct, Nat.le_trans h.le hcm, fun j hj => ?_, fun j hj => ?_⟩
  · rw [cpf_at]
    unfold va_cpy
    have := h.le
    rw [if_pos (by omega), Nat.sub_zero, Nat.zero_add]
    exact h.rw j hj
  · rw [cpf_at]
    unfold va_cpy
    split
    · rw [Nat.sub_zero, Nat.zero_add]; exact h.ft j (by omega)
    · rw [hz]; exact fits_0
theorem sb_con (h : SBd G I x a cap cnt T) (hi : i < 4) (hxa : x ≠ a) (hq : cnt + cW i ≤ cap) (hT : ∀ j, j < cW i → cB i j = nI (T (cnt + j))) : SBd G (up2 (cpf I (cB i) a 0 cnt (cW i)) x 3 (nI (cnt + cW i))) x a cap (cnt + cW i) T := by
  refine ⟨by rw [up2_n (by omega), cpf_off hxa]; exact h.co, h.va, up2_s, hq, fun j hj => ?_, fun j hj => ?_⟩
  · rw [up2_a (Ne.symm hxa), cpf_at]
    unfold va_cpy
    split
    · rw [Nat.zero_add, hT _ (by omega), show cnt + (j - cnt) = j by omega]
    · exact h.rw j (by omega)
  · rw [up2_a (Ne.symm hxa), cpf_at]
    unfold va_cpy
    split
    · rw [Nat.zero_add]; exact cB_fit hi (by omega)
    · exact h.ft j hj
theorem sb_num {I2 : mI} {v : Nat} (h : SBd G I x a cap cnt T) (hxa : x ≠ a) (hq : cnt + dg v ≤ cap) (hD : DgW I I2 a cnt v) (hT : ∀ k, k < dg v → T (cnt + k) = 48 + v / dgp (dg v - 1 - k) % 10) : SBd G (up2 I2 x 3 (nI (cnt + dg v))) x a cap (cnt + dg v) T := by
  obtain ⟨d1, d2, d3⟩ := hD
  refine ⟨by rw [up2_n (by omega), d1 x hxa]; exact h.co, h.va, up2_s, hq, fun j hj => ?_, fun j hj => ?_⟩
  · rw [up2_a (Ne.symm hxa)]
    by_cases c : j < cnt
    · rw [d2 j (Or.inl c)]; exact h.rw j c
    · have e := d3 (j - cnt) (by omega)
      have e2 := hT (j - cnt) (by omega)
      rw [show cnt + (j - cnt) = j by omega] at e e2
      rw [e, e2]
      rfl
  · rw [up2_a (Ne.symm hxa)]
    by_cases c : j < cnt
    · rw [d2 j (Or.inl c)]; exact h.ft j hj
    · by_cases c2 : j < cnt + dg v
      · have e := d3 (j - cnt) (by omega)
        rw [show cnt + (j - cnt) = j by omega] at e
        rw [e]; exact dgt_f _ _
      · rw [d2 j (Or.inr (by omega))]; exact h.ft j hj
end SB
/-- shapes of cells that are not there yet may be told anew -/
theorem gc_sh {Γ : gCtx} {Φ : gPost} {own : String} {cc : ByteArray} {nL fr lo mc ms n0 n kc ks pc : Nat} {sh sh' : mS} {G : mG} {ls : List (Nat × Value)} {st : List Value} {I : mI} {J : mJ} (h : ∀ k, k < n → sh k = sh' k) (kk : Gj Γ Φ own cc nL fr lo mc ms n0 n sh' G kc ks pc ls st I J) : Gj Γ Φ own cc nL fr lo mc ms n0 n sh G kc ks pc ls st I J := by
  intro p l e R s m args below meth c H locs cells slots la D cA ad0 ad A hfl hΓ hag S hlk hR hkc hks hA hB hC hS hP hD hK hl
  have e : mws cA ad n sh I J G = mws cA ad n sh' I J G := by
    unfold mws
    refine List.map_congr_left (fun k hk => ?_)
    rw [h k (List.mem_range.mp hk)]
  rw [e] at hP hD
  exact kk p l _ R s m args below meth c H locs cells slots la D cA ad0 ad A hfl hΓ hag S hlk hR hkc hks hA hB hC hS hP hD hK hl
theorem eX_0 {code : Int32} {I : mI} {J : mJ} (hc : code = 0) : eX code I J = nX := by
  funext E I' J'
  refine propext ⟨fun h => ?_, fun h => h.elim⟩
  exact False.elim (h.1.elim (fun q => absurd (hc.symm.trans q.2) (by decide)) (fun q => absurd (hc.symm.trans q.2) (by decide)))

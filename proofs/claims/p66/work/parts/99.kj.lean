/-! THE LAW: a number of the script -/
theorem rem_int (x : Int32) : (x - x / 100000 * 100000).toInt = x.toInt.tmod 100000 := by
  have h1 := x.le_toInt
  have h2 := x.toInt_lt
  have e := Int.mul_tdiv_add_tmod x.toInt 100000
  have e1 : ((100000 : Int32)).toInt = 100000 := by decide
  have b1 : 0 ≤ x.toInt → 0 ≤ x.toInt.tmod 100000 := fun h => Int.tmod_nonneg _ h
  have b2 : x.toInt.tmod 100000 < 100000 := Int.tmod_lt_of_pos _ (by decide)
  have b3 : x.toInt ≤ 0 → x.toInt.tmod 100000 ≤ 0 := fun h => by
    have := Int.tmod_nonneg (a := -x.toInt) 100000 (by omega)
    rw [Int.neg_tmod] at this
    omega
  have b4 : -100000 < x.toInt.tmod 100000 := by
    have := Int.tmod_lt_of_pos (-x.toInt) (b := 100000) (by decide)
    rw [Int.neg_tmod] at this
    omega
  rw [Int32.toInt_sub, Int32.toInt_mul, Int32.toInt_div_of_ne_right _ _ (by decide), e1]
  rw [Int.bmod_eq_of_le (n := x.toInt.tdiv 100000 * 100000) (by omega) (by omega)]
  rw [Int.bmod_eq_of_le (by omega) (by omega)]
  omega
theorem abs_rem (x : Int32) : ∃ q : Nat, q < 100000 ∧ (if 0 ≤ x - x / 100000 * 100000 then x - x / 100000 * 100000 else 0 - (x - x / 100000 * 100000)) = nI q := by
  have e := rem_int x
  have b2 : x.toInt.tmod 100000 < 100000 := Int.tmod_lt_of_pos _ (by decide)
  have b4 : -100000 < x.toInt.tmod 100000 := by
    have := Int.tmod_lt_of_pos (-x.toInt) (b := 100000) (by decide)
    rw [Int.neg_tmod] at this
    omega
  have e0 : (0 : Int32).toInt = 0 := by decide
  generalize x - x / 100000 * 100000 = y at e ⊢
  by_cases h : 0 ≤ y
  · rw [if_pos h]
    have := Int32.le_iff_toInt_le.mp h
    refine ⟨y.toInt.toNat, by omega, Int32.toInt_inj.mp ?_⟩
    rw [nI_toInt (by omega)]
    omega
  · rw [if_neg h]
    have := Int32.lt_iff_toInt_lt.mp (Int32.not_le.mp h)
    refine ⟨(-y.toInt).toNat, by omega, Int32.toInt_inj.mp ?_⟩
    rw [nI_toInt (by omega), Int32.toInt_sub, e0, Int.bmod_eq_of_le (by omega) (by omega)]
    omega
theorem qabs_s : Cond.static Lib.Math.abs.name ∈ TT := qs_J9_abs_0f7a4
theorem qabs_c : Cond.code Lib.Math.abs.name Lib.Math.abs.code 1 (some .int) ∈ TT := qc_J9_abs_0f7a4
section LCELL
variable {own : String} {cc : ByteArray} {nL pc b : Nat} {ls ls' : List (Nat × Value)} {st rest : List Value}
variable {ret : Option FieldType} {fr lo mc ms n kc ks : Nat} {sh : mS} {G : mG} {Q : Option Value → mI → mJ → Prop} {X : String → mI → mJ → Prop} {I : mI} {J : mJ}
theorem r_mabs {ix : Nat} {x v : Int32} (h1 : Cond.methodLink own ix Lib.Math.abs.name ∈ TT) (h2 : Cond.static Lib.Math.abs.name ∈ TT) (h3 : Cond.initialized "java/lang/Math" ∈ TT) (h4 : Cond.code Lib.Math.abs.name Lib.Math.abs.code 1 (some .int) ∈ TT) (hd : decode cc pc = .ok (.invokestatic ix, 3)) (hroom : 1 ≤ fr ∧ (st.map fun v => v.category).sum + 13 ≤ lo) (hv : (if 0 ≤ x then x else 0 - x) = v) (hb : pc + 3 = b) (kk : Rc own cc nL ret fr lo mc ms n sh G Q X kc ks b ls (.int v :: st) I J) : Rc own cc nL ret fr lo mc ms n sh G Q X kc ks pc ls (.int x :: st) I J := by
  intro p l e R s m args below meth c H locs cells slots la D cA ad A hfl S hr hlk hxt hR hkc hks hA hB hS hP hD hK hl
  subst hb
  subst hv
  exact va_mabs S.1 S.2.1 (S.2.2.1.trans hl.1.symm) S.2.2.2.1 (S.2.2.2.2 _ h1) (S.2.2.2.2 _ h2) (S.2.2.2.2 _ h3) (S.2.2.2.2 _ h4) (Nat.le_trans hroom.1 hR.1) (Nat.le_trans (by simpa [Function.comp_def, mz_cat] using hroom.2) hR.2.1) (by omega) (by omega) hd (kk p l e R s m args below meth c H locs cells slots la D cA ad A hfl S hr hlk hxt hR hkc hks hA hB hS hP hD hK hl)
end LCELL
theorem s_L_cell {n : Nat} {sh : mS} {G : mG} {I : mI} {J : mJ} {i : Nat} (hi : i < 1000) : Sp yL_cell cL_cell 2 (some FieldType.int) 1 48 0 0 [.ref 1300, .int (nI i)] n sh G I J (Qi (fun r_ I_ J_ => (∃ q : Nat, q < 100000 ∧ r_ = nI q) ∧ I = I_ ∧ J = J_)) nX := by
  refine Sp.of (by decide) (ls := [(0, .ref 1300), (1, .int (nI i))]) (fun _ => rfl) (fun _ => Nat.le_of_ble_eq_true rfl) ?_
  refine r_script hi rfl (dk_at ktL_cell_0 0 rfl) (dk_at ktL_cell_0 1 rfl) (dk_at ktL_cell_0 2 rfl) (dk_at ktL_cell_0 5 rfl) (dk_at ktL_cell_0 6 rfl) (dk_at ktL_cell_0 7 rfl) (dk_at ktL_cell_0 8 rfl) (dk_at ktL_cell_0 9 rfl) (dk_at ktL_cell_0 10 rfl) ?_ (fun x => ?_)
  · refine rc_p (p_iconst (v := 0) (dk_at ktL_cell_0 3 rfl) (by decide) (b := 6) rfl) ?_
    refine rc_p (p_goto (b := 21) (dk_at ktL_cell_0 4 rfl) (by decide)) ?_
    exact r_iret (dk_at ktL_cell_0 14 rfl) rfl rfl ⟨_, rfl, ⟨0, by decide, rfl⟩, rfl, rfl⟩
  · refine rc_p (p_ldc (v := 100000) qk_TwinBootLaw_7 (dk_at ktL_cell_0 11 rfl) (b := 17) rfl) ?_
    refine rc_p (p_irem (v := (x - x / 100000 * 100000)) (dk_at ktL_cell_0 12 rfl) (by decide) rfl (b := 18) rfl) ?_
    obtain ⟨q, hq, e⟩ := abs_rem x
    refine r_mabs (v := nI q) qm_L_8 qabs_s qmath_n qabs_c (dk_at ktL_cell_0 13 rfl) ⟨by decide, Nat.le_of_ble_eq_true rfl⟩ e (b := 21) rfl ?_
    exact r_iret (dk_at ktL_cell_0 14 rfl) rfl rfl ⟨_, rfl, ⟨q, hq, rfl⟩, rfl, rfl⟩

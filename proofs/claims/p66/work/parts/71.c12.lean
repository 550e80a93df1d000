/-! THE CLASS: its calls, bits, loops over words -/
theorem p_iushr {own : String} {cc : ByteArray} {nL pc b : Nat} {ls : List (Nat × Value)} {st : List Value} {x y v : Int32} (hd : decode cc pc = .ok (.iushr, 1)) (hv : (x.toUInt32 >>> (y.toUInt32 &&& Int32.toUInt32 31)).toInt32 = v) (hb : pc + 1 = b) : Pst own cc nL pc ls (.int y :: .int x :: st) b ls (.int v :: st) := by
  intro p l e R s m args below meth c H locs cells slots la ad Q S hl k
  subst hb
  exact lv_iushr S.1 S.2.1 hd hv (k la hl)
set_option maxRecDepth 4000 in
set_option maxHeartbeats 4000000 in
theorem s_J6_bitCount_0f7a4 {n : Nat} {sh : mS} {G : mG} {I : mI} {J : mJ} (x : Int32) : Sp yJ6_bitCount_0f7a4 cJ6_bitCount_0f7a4 1 (some FieldType.int) 1 48 0 0 [.int x] n sh G I J (Qi (fun r_ I_ J_ => bcI x = r_ ∧ I = I_ ∧ J = J_)) nX := by
  refine Sp.of (by decide) (ls := [(0, .int x)]) (fun _ => rfl) (fun _ => Nat.le_of_ble_eq_true rfl) ?_
  refine rc_p (p_iload_n 0 (dk_at ktJ6_bitCount_0f7a4_0 0 rfl) rfl rfl (b := 1) rfl) ?_
  refine rc_p (p_iload_n 0 (dk_at ktJ6_bitCount_0f7a4_0 1 rfl) rfl rfl (b := 2) rfl) ?_
  refine rc_p (p_iconst (v := 1) (dk_at ktJ6_bitCount_0f7a4_0 2 rfl) (by decide) (b := 3) rfl) ?_
  refine rc_p (p_iushr (v := (x.toUInt32 >>> ((1 : Int32).toUInt32 &&& Int32.toUInt32 31)).toInt32) (dk_at ktJ6_bitCount_0f7a4_0 3 rfl) rfl (b := 4) rfl) ?_
  refine rc_p (p_ldcw (v := 1431655765) qk_java_lang_Integer_265 (dk_at ktJ6_bitCount_0f7a4_0 4 rfl) (b := 7) rfl) ?_
  refine rc_p (p_iand (v := ((x.toUInt32 >>> ((1 : Int32).toUInt32 &&& Int32.toUInt32 31)).toInt32 &&& 1431655765)) (dk_at ktJ6_bitCount_0f7a4_0 5 rfl) rfl (b := 8) rfl) ?_
  refine rc_p (p_isub (v := (x - ((x.toUInt32 >>> ((1 : Int32).toUInt32 &&& Int32.toUInt32 31)).toInt32 &&& 1431655765))) (dk_at ktJ6_bitCount_0f7a4_0 6 rfl) rfl (b := 9) rfl) ?_
  refine rc_p (p_istore_n (ls' := [(0, .int (x - ((x.toUInt32 >>> ((1 : Int32).toUInt32 &&& Int32.toUInt32 31)).toInt32 &&& 1431655765)))]) (dk_at ktJ6_bitCount_0f7a4_0 7 rfl) rfl (by decide) rfl (b := 10) rfl) ?_
  refine rc_p (p_iload_n 0 (dk_at ktJ6_bitCount_0f7a4_0 8 rfl) rfl rfl (b := 11) rfl) ?_
  refine rc_p (p_ldcw (v := 858993459) qk_java_lang_Integer_266 (dk_at ktJ6_bitCount_0f7a4_0 9 rfl) (b := 14) rfl) ?_
  refine rc_p (p_iand (v := ((x - ((x.toUInt32 >>> ((1 : Int32).toUInt32 &&& Int32.toUInt32 31)).toInt32 &&& 1431655765)) &&& 858993459)) (dk_at ktJ6_bitCount_0f7a4_0 10 rfl) rfl (b := 15) rfl) ?_
  refine rc_p (p_iload_n 0 (dk_at ktJ6_bitCount_0f7a4_0 11 rfl) rfl rfl (b := 16) rfl) ?_
  refine rc_p (p_iconst (v := 2) (dk_at ktJ6_bitCount_0f7a4_0 12 rfl) (by decide) (b := 17) rfl) ?_
  refine rc_p (p_iushr (v := ((x - ((x.toUInt32 >>> ((1 : Int32).toUInt32 &&& Int32.toUInt32 31)).toInt32 &&& 1431655765)).toUInt32 >>> ((2 : Int32).toUInt32 &&& Int32.toUInt32 31)).toInt32) (dk_at ktJ6_bitCount_0f7a4_0 13 rfl) rfl (b := 18) rfl) ?_
  refine rc_p (p_ldcw (v := 858993459) qk_java_lang_Integer_266 (dk_at ktJ6_bitCount_0f7a4_0 14 rfl) (b := 21) rfl) ?_
  refine rc_p (p_iand (v := (((x - ((x.toUInt32 >>> ((1 : Int32).toUInt32 &&& Int32.toUInt32 31)).toInt32 &&& 1431655765)).toUInt32 >>> ((2 : Int32).toUInt32 &&& Int32.toUInt32 31)).toInt32 &&& 858993459)) (dk_at ktJ6_bitCount_0f7a4_0 15 rfl) rfl (b := 22) rfl) ?_
  refine rc_p (p_iadd (v := (((x - ((x.toUInt32 >>> ((1 : Int32).toUInt32 &&& Int32.toUInt32 31)).toInt32 &&& 1431655765)) &&& 858993459) + (((x - ((x.toUInt32 >>> ((1 : Int32).toUInt32 &&& Int32.toUInt32 31)).toInt32 &&& 1431655765)).toUInt32 >>> ((2 : Int32).toUInt32 &&& Int32.toUInt32 31)).toInt32 &&& 858993459))) (dk_at ktJ6_bitCount_0f7a4_0 16 rfl) rfl (b := 23) rfl) ?_
  refine rc_p (p_istore_n (ls' := [(0, .int (((x - ((x.toUInt32 >>> ((1 : Int32).toUInt32 &&& Int32.toUInt32 31)).toInt32 &&& 1431655765)) &&& 858993459) + (((x - ((x.toUInt32 >>> ((1 : Int32).toUInt32 &&& Int32.toUInt32 31)).toInt32 &&& 1431655765)).toUInt32 >>> ((2 : Int32).toUInt32 &&& Int32.toUInt32 31)).toInt32 &&& 858993459)))]) (dk_at ktJ6_bitCount_0f7a4_0 17 rfl) rfl (by decide) rfl (b := 24) rfl) ?_
  refine rc_p (p_iload_n 0 (dk_at ktJ6_bitCount_0f7a4_0 18 rfl) rfl rfl (b := 25) rfl) ?_
  refine rc_p (p_iload_n 0 (dk_at ktJ6_bitCount_0f7a4_0 19 rfl) rfl rfl (b := 26) rfl) ?_
  refine rc_p (p_iconst (v := 4) (dk_at ktJ6_bitCount_0f7a4_0 20 rfl) (by decide) (b := 27) rfl) ?_
  refine rc_p (p_iushr (v := ((((x - ((x.toUInt32 >>> ((1 : Int32).toUInt32 &&& Int32.toUInt32 31)).toInt32 &&& 1431655765)) &&& 858993459) + (((x - ((x.toUInt32 >>> ((1 : Int32).toUInt32 &&& Int32.toUInt32 31)).toInt32 &&& 1431655765)).toUInt32 >>> ((2 : Int32).toUInt32 &&& Int32.toUInt32 31)).toInt32 &&& 858993459)).toUInt32 >>> ((4 : Int32).toUInt32 &&& Int32.toUInt32 31)).toInt32) (dk_at ktJ6_bitCount_0f7a4_0 21 rfl) rfl (b := 28) rfl) ?_
  refine rc_p (p_iadd (v := ((((x - ((x.toUInt32 >>> ((1 : Int32).toUInt32 &&& Int32.toUInt32 31)).toInt32 &&& 1431655765)) &&& 858993459) + (((x - ((x.toUInt32 >>> ((1 : Int32).toUInt32 &&& Int32.toUInt32 31)).toInt32 &&& 1431655765)).toUInt32 >>> ((2 : Int32).toUInt32 &&& Int32.toUInt32 31)).toInt32 &&& 858993459)) + ((((x - ((x.toUInt32 >>> ((1 : Int32).toUInt32 &&& Int32.toUInt32 31)).toInt32 &&& 1431655765)) &&& 858993459) + (((x - ((x.toUInt32 >>> ((1 : Int32).toUInt32 &&& Int32.toUInt32 31)).toInt32 &&& 1431655765)).toUInt32 >>> ((2 : Int32).toUInt32 &&& Int32.toUInt32 31)).toInt32 &&& 858993459)).toUInt32 >>> ((4 : Int32).toUInt32 &&& Int32.toUInt32 31)).toInt32)) (dk_at ktJ6_bitCount_0f7a4_0 22 rfl) rfl (b := 29) rfl) ?_
  refine rc_p (p_ldcw (v := 252645135) qk_java_lang_Integer_267 (dk_at ktJ6_bitCount_0f7a4_0 23 rfl) (b := 32) rfl) ?_
  refine rc_p (p_iand (v := (((((x - ((x.toUInt32 >>> ((1 : Int32).toUInt32 &&& Int32.toUInt32 31)).toInt32 &&& 1431655765)) &&& 858993459) + (((x - ((x.toUInt32 >>> ((1 : Int32).toUInt32 &&& Int32.toUInt32 31)).toInt32 &&& 1431655765)).toUInt32 >>> ((2 : Int32).toUInt32 &&& Int32.toUInt32 31)).toInt32 &&& 858993459)) + ((((x - ((x.toUInt32 >>> ((1 : Int32).toUInt32 &&& Int32.toUInt32 31)).toInt32 &&& 1431655765)) &&& 858993459) + (((x - ((x.toUInt32 >>> ((1 : Int32).toUInt32 &&& Int32.toUInt32 31)).toInt32 &&& 1431655765)).toUInt32 >>> ((2 : Int32).toUInt32 &&& Int32.toUInt32 31)).toInt32 &&& 858993459)).toUInt32 >>> ((4 : Int32).toUInt32 &&& Int32.toUInt32 31)).toInt32) &&& 252645135)) (dk_at ktJ6_bitCount_0f7a4_0 24 rfl) rfl (b := 33) rfl) ?_
  refine rc_p (p_istore_n (ls' := [(0, .int (((((x - ((x.toUInt32 >>> ((1 : Int32).toUInt32 &&& Int32.toUInt32 31)).toInt32 &&& 1431655765)) &&& 858993459) + (((x - ((x.toUInt32 >>> ((1 : Int32).toUInt32 &&& Int32.toUInt32 31)).toInt32 &&& 1431655765)).toUInt32 >>> ((2 : Int32).toUInt32 &&& Int32.toUInt32 31)).toInt32 &&& 858993459)) + ((((x - ((x.toUInt32 >>> ((1 : Int32).toUInt32 &&& Int32.toUInt32 31)).toInt32 &&& 1431655765)) &&& 858993459) + (((x - ((x.toUInt32 >>> ((1 : Int32).toUInt32 &&& Int32.toUInt32 31)).toInt32 &&& 1431655765)).toUInt32 >>> ((2 : Int32).toUInt32 &&& Int32.toUInt32 31)).toInt32 &&& 858993459)).toUInt32 >>> ((4 : Int32).toUInt32 &&& Int32.toUInt32 31)).toInt32) &&& 252645135))]) (dk_at ktJ6_bitCount_0f7a4_0 25 rfl) rfl (by decide) rfl (b := 34) rfl) ?_
  refine rc_p (p_iload_n 0 (dk_at ktJ6_bitCount_0f7a4_0 26 rfl) rfl rfl (b := 35) rfl) ?_
  refine rc_p (p_iload_n 0 (dk_at ktJ6_bitCount_0f7a4_0 27 rfl) rfl rfl (b := 36) rfl) ?_
  refine rc_p (p_bipush (v := 8) (dk_at ktJ6_bitCount_0f7a4_0 28 rfl) (by decide) (b := 38) rfl) ?_
  refine rc_p (p_iushr (v := ((((((x - ((x.toUInt32 >>> ((1 : Int32).toUInt32 &&& Int32.toUInt32 31)).toInt32 &&& 1431655765)) &&& 858993459) + (((x - ((x.toUInt32 >>> ((1 : Int32).toUInt32 &&& Int32.toUInt32 31)).toInt32 &&& 1431655765)).toUInt32 >>> ((2 : Int32).toUInt32 &&& Int32.toUInt32 31)).toInt32 &&& 858993459)) + ((((x - ((x.toUInt32 >>> ((1 : Int32).toUInt32 &&& Int32.toUInt32 31)).toInt32 &&& 1431655765)) &&& 858993459) + (((x - ((x.toUInt32 >>> ((1 : Int32).toUInt32 &&& Int32.toUInt32 31)).toInt32 &&& 1431655765)).toUInt32 >>> ((2 : Int32).toUInt32 &&& Int32.toUInt32 31)).toInt32 &&& 858993459)).toUInt32 >>> ((4 : Int32).toUInt32 &&& Int32.toUInt32 31)).toInt32) &&& 252645135).toUInt32 >>> ((8 : Int32).toUInt32 &&& Int32.toUInt32 31)).toInt32) (dk_at ktJ6_bitCount_0f7a4_0 29 rfl) rfl (b := 39) rfl) ?_
  refine rc_p (p_iadd (v := ((((((x - ((x.toUInt32 >>> ((1 : Int32).toUInt32 &&& Int32.toUInt32 31)).toInt32 &&& 1431655765)) &&& 858993459) + (((x - ((x.toUInt32 >>> ((1 : Int32).toUInt32 &&& Int32.toUInt32 31)).toInt32 &&& 1431655765)).toUInt32 >>> ((2 : Int32).toUInt32 &&& Int32.toUInt32 31)).toInt32 &&& 858993459)) + ((((x - ((x.toUInt32 >>> ((1 : Int32).toUInt32 &&& Int32.toUInt32 31)).toInt32 &&& 1431655765)) &&& 858993459) + (((x - ((x.toUInt32 >>> ((1 : Int32).toUInt32 &&& Int32.toUInt32 31)).toInt32 &&& 1431655765)).toUInt32 >>> ((2 : Int32).toUInt32 &&& Int32.toUInt32 31)).toInt32 &&& 858993459)).toUInt32 >>> ((4 : Int32).toUInt32 &&& Int32.toUInt32 31)).toInt32) &&& 252645135) + ((((((x - ((x.toUInt32 >>> ((1 : Int32).toUInt32 &&& Int32.toUInt32 31)).toInt32 &&& 1431655765)) &&& 858993459) + (((x - ((x.toUInt32 >>> ((1 : Int32).toUInt32 &&& Int32.toUInt32 31)).toInt32 &&& 1431655765)).toUInt32 >>> ((2 : Int32).toUInt32 &&& Int32.toUInt32 31)).toInt32 &&& 858993459)) + ((((x - ((x.toUInt32 >>> ((1 : Int32).toUInt32 &&& Int32.toUInt32 31)).toInt32 &&& 1431655765)) &&& 858993459) + (((x - ((x.toUInt32 >>> ((1 : Int32).toUInt32 &&& Int32.toUInt32 31)).toInt32 &&& 1431655765)).toUInt32 >>> ((2 : Int32).toUInt32 &&& Int32.toUInt32 31)).toInt32 &&& 858993459)).toUInt32 >>> ((4 : Int32).toUInt32 &&& Int32.toUInt32 31)).toInt32) &&& 252645135).toUInt32 >>> ((8 : Int32).toUInt32 &&& Int32.toUInt32 31)).toInt32)) (dk_at ktJ6_bitCount_0f7a4_0 30 rfl) rfl (b := 40) rfl) ?_
  refine rc_p (p_istore_n (ls' := [(0, .int ((((((x - ((x.toUInt32 >>> ((1 : Int32).toUInt32 &&& Int32.toUInt32 31)).toInt32 &&& 1431655765)) &&& 858993459) + (((x - ((x.toUInt32 >>> ((1 : Int32).toUInt32 &&& Int32.toUInt32 31)).toInt32 &&& 1431655765)).toUInt32 >>> ((2 : Int32).toUInt32 &&& Int32.toUInt32 31)).toInt32 &&& 858993459)) + ((((x - ((x.toUInt32 >>> ((1 : Int32).toUInt32 &&& Int32.toUInt32 31)).toInt32 &&& 1431655765)) &&& 858993459) + (((x - ((x.toUInt32 >>> ((1 : Int32).toUInt32 &&& Int32.toUInt32 31)).toInt32 &&& 1431655765)).toUInt32 >>> ((2 : Int32).toUInt32 &&& Int32.toUInt32 31)).toInt32 &&& 858993459)).toUInt32 >>> ((4 : Int32).toUInt32 &&& Int32.toUInt32 31)).toInt32) &&& 252645135) + ((((((x - ((x.toUInt32 >>> ((1 : Int32).toUInt32 &&& Int32.toUInt32 31)).toInt32 &&& 1431655765)) &&& 858993459) + (((x - ((x.toUInt32 >>> ((1 : Int32).toUInt32 &&& Int32.toUInt32 31)).toInt32 &&& 1431655765)).toUInt32 >>> ((2 : Int32).toUInt32 &&& Int32.toUInt32 31)).toInt32 &&& 858993459)) + ((((x - ((x.toUInt32 >>> ((1 : Int32).toUInt32 &&& Int32.toUInt32 31)).toInt32 &&& 1431655765)) &&& 858993459) + (((x - ((x.toUInt32 >>> ((1 : Int32).toUInt32 &&& Int32.toUInt32 31)).toInt32 &&& 1431655765)).toUInt32 >>> ((2 : Int32).toUInt32 &&& Int32.toUInt32 31)).toInt32 &&& 858993459)).toUInt32 >>> ((4 : Int32).toUInt32 &&& Int32.toUInt32 31)).toInt32) &&& 252645135).toUInt32 >>> ((8 : Int32).toUInt32 &&& Int32.toUInt32 31)).toInt32))]) (dk_at ktJ6_bitCount_0f7a4_0 31 rfl) rfl (by decide) rfl (b := 41) rfl) ?_
  refine rc_p (p_iload_n 0 (dk_at ktJ6_bitCount_0f7a4_0 32 rfl) rfl rfl (b := 42) rfl) ?_
  refine rc_p (p_iload_n 0 (dk_at ktJ6_bitCount_0f7a4_0 33 rfl) rfl rfl (b := 43) rfl) ?_
  refine rc_p (p_bipush (v := 16) (dk_at ktJ6_bitCount_0f7a4_0 34 rfl) (by decide) (b := 45) rfl) ?_
  refine rc_p (p_iushr (v := (((((((x - ((x.toUInt32 >>> ((1 : Int32).toUInt32 &&& Int32.toUInt32 31)).toInt32 &&& 1431655765)) &&& 858993459) + (((x - ((x.toUInt32 >>> ((1 : Int32).toUInt32 &&& Int32.toUInt32 31)).toInt32 &&& 1431655765)).toUInt32 >>> ((2 : Int32).toUInt32 &&& Int32.toUInt32 31)).toInt32 &&& 858993459)) + ((((x - ((x.toUInt32 >>> ((1 : Int32).toUInt32 &&& Int32.toUInt32 31)).toInt32 &&& 1431655765)) &&& 858993459) + (((x - ((x.toUInt32 >>> ((1 : Int32).toUInt32 &&& Int32.toUInt32 31)).toInt32 &&& 1431655765)).toUInt32 >>> ((2 : Int32).toUInt32 &&& Int32.toUInt32 31)).toInt32 &&& 858993459)).toUInt32 >>> ((4 : Int32).toUInt32 &&& Int32.toUInt32 31)).toInt32) &&& 252645135) + ((((((x - ((x.toUInt32 >>> ((1 : Int32).toUInt32 &&& Int32.toUInt32 31)).toInt32 &&& 1431655765)) &&& 858993459) + (((x - ((x.toUInt32 >>> ((1 : Int32).toUInt32 &&& Int32.toUInt32 31)).toInt32 &&& 1431655765)).toUInt32 >>> ((2 : Int32).toUInt32 &&& Int32.toUInt32 31)).toInt32 &&& 858993459)) + ((((x - ((x.toUInt32 >>> ((1 : Int32).toUInt32 &&& Int32.toUInt32 31)).toInt32 &&& 1431655765)) &&& 858993459) + (((x - ((x.toUInt32 >>> ((1 : Int32).toUInt32 &&& Int32.toUInt32 31)).toInt32 &&& 1431655765)).toUInt32 >>> ((2 : Int32).toUInt32 &&& Int32.toUInt32 31)).toInt32 &&& 858993459)).toUInt32 >>> ((4 : Int32).toUInt32 &&& Int32.toUInt32 31)).toInt32) &&& 252645135).toUInt32 >>> ((8 : Int32).toUInt32 &&& Int32.toUInt32 31)).toInt32).toUInt32 >>> ((16 : Int32).toUInt32 &&& Int32.toUInt32 31)).toInt32) (dk_at ktJ6_bitCount_0f7a4_0 35 rfl) rfl (b := 46) rfl) ?_
  refine rc_p (p_iadd (v := (((((((x - ((x.toUInt32 >>> ((1 : Int32).toUInt32 &&& Int32.toUInt32 31)).toInt32 &&& 1431655765)) &&& 858993459) + (((x - ((x.toUInt32 >>> ((1 : Int32).toUInt32 &&& Int32.toUInt32 31)).toInt32 &&& 1431655765)).toUInt32 >>> ((2 : Int32).toUInt32 &&& Int32.toUInt32 31)).toInt32 &&& 858993459)) + ((((x - ((x.toUInt32 >>> ((1 : Int32).toUInt32 &&& Int32.toUInt32 31)).toInt32 &&& 1431655765)) &&& 858993459) + (((x - ((x.toUInt32 >>> ((1 : Int32).toUInt32 &&& Int32.toUInt32 31)).toInt32 &&& 1431655765)).toUInt32 >>> ((2 : Int32).toUInt32 &&& Int32.toUInt32 31)).toInt32 &&& 858993459)).toUInt32 >>> ((4 : Int32).toUInt32 &&& Int32.toUInt32 31)).toInt32) &&& 252645135) + ((((((x - ((x.toUInt32 >>> ((1 : Int32).toUInt32 &&& Int32.toUInt32 31)).toInt32 &&& 1431655765)) &&& 858993459) + (((x - ((x.toUInt32 >>> ((1 : Int32).toUInt32 &&& Int32.toUInt32 31)).toInt32 &&& 1431655765)).toUInt32 >>> ((2 : Int32).toUInt32 &&& Int32.toUInt32 31)).toInt32 &&& 858993459)) + ((((x - ((x.toUInt32 >>> ((1 : Int32).toUInt32 &&& Int32.toUInt32 31)).toInt32 &&& 1431655765)) &&& 858993459) + (((x - ((x.toUInt32 >>> ((1 : Int32).toUInt32 &&& Int32.toUInt32 31)).toInt32 &&& 1431655765)).toUInt32 >>> ((2 : Int32).toUInt32 &&& Int32.toUInt32 31)).toInt32 &&& 858993459)).toUInt32 >>> ((4 : Int32).toUInt32 &&& Int32.toUInt32 31)).toInt32) &&& 252645135).toUInt32 >>> ((8 : Int32).toUInt32 &&& Int32.toUInt32 31)).toInt32) + (((((((x - ((x.toUInt32 >>> ((1 : Int32).toUInt32 &&& Int32.toUInt32 31)).toInt32 &&& 1431655765)) &&& 858993459) + (((x - ((x.toUInt32 >>> ((1 : Int32).toUInt32 &&& Int32.toUInt32 31)).toInt32 &&& 1431655765)).toUInt32 >>> ((2 : Int32).toUInt32 &&& Int32.toUInt32 31)).toInt32 &&& 858993459)) + ((((x - ((x.toUInt32 >>> ((1 : Int32).toUInt32 &&& Int32.toUInt32 31)).toInt32 &&& 1431655765)) &&& 858993459) + (((x - ((x.toUInt32 >>> ((1 : Int32).toUInt32 &&& Int32.toUInt32 31)).toInt32 &&& 1431655765)).toUInt32 >>> ((2 : Int32).toUInt32 &&& Int32.toUInt32 31)).toInt32 &&& 858993459)).toUInt32 >>> ((4 : Int32).toUInt32 &&& Int32.toUInt32 31)).toInt32) &&& 252645135) + ((((((x - ((x.toUInt32 >>> ((1 : Int32).toUInt32 &&& Int32.toUInt32 31)).toInt32 &&& 1431655765)) &&& 858993459) + (((x - ((x.toUInt32 >>> ((1 : Int32).toUInt32 &&& Int32.toUInt32 31)).toInt32 &&& 1431655765)).toUInt32 >>> ((2 : Int32).toUInt32 &&& Int32.toUInt32 31)).toInt32 &&& 858993459)) + ((((x - ((x.toUInt32 >>> ((1 : Int32).toUInt32 &&& Int32.toUInt32 31)).toInt32 &&& 1431655765)) &&& 858993459) + (((x - ((x.toUInt32 >>> ((1 : Int32).toUInt32 &&& Int32.toUInt32 31)).toInt32 &&& 1431655765)).toUInt32 >>> ((2 : Int32).toUInt32 &&& Int32.toUInt32 31)).toInt32 &&& 858993459)).toUInt32 >>> ((4 : Int32).toUInt32 &&& Int32.toUInt32 31)).toInt32) &&& 252645135).toUInt32 >>> ((8 : Int32).toUInt32 &&& Int32.toUInt32 31)).toInt32).toUInt32 >>> ((16 : Int32).toUInt32 &&& Int32.toUInt32 31)).toInt32)) (dk_at ktJ6_bitCount_0f7a4_0 36 rfl) rfl (b := 47) rfl) ?_
  refine rc_p (p_istore_n (ls' := [(0, .int (((((((x - ((x.toUInt32 >>> ((1 : Int32).toUInt32 &&& Int32.toUInt32 31)).toInt32 &&& 1431655765)) &&& 858993459) + (((x - ((x.toUInt32 >>> ((1 : Int32).toUInt32 &&& Int32.toUInt32 31)).toInt32 &&& 1431655765)).toUInt32 >>> ((2 : Int32).toUInt32 &&& Int32.toUInt32 31)).toInt32 &&& 858993459)) + ((((x - ((x.toUInt32 >>> ((1 : Int32).toUInt32 &&& Int32.toUInt32 31)).toInt32 &&& 1431655765)) &&& 858993459) + (((x - ((x.toUInt32 >>> ((1 : Int32).toUInt32 &&& Int32.toUInt32 31)).toInt32 &&& 1431655765)).toUInt32 >>> ((2 : Int32).toUInt32 &&& Int32.toUInt32 31)).toInt32 &&& 858993459)).toUInt32 >>> ((4 : Int32).toUInt32 &&& Int32.toUInt32 31)).toInt32) &&& 252645135) + ((((((x - ((x.toUInt32 >>> ((1 : Int32).toUInt32 &&& Int32.toUInt32 31)).toInt32 &&& 1431655765)) &&& 858993459) + (((x - ((x.toUInt32 >>> ((1 : Int32).toUInt32 &&& Int32.toUInt32 31)).toInt32 &&& 1431655765)).toUInt32 >>> ((2 : Int32).toUInt32 &&& Int32.toUInt32 31)).toInt32 &&& 858993459)) + ((((x - ((x.toUInt32 >>> ((1 : Int32).toUInt32 &&& Int32.toUInt32 31)).toInt32 &&& 1431655765)) &&& 858993459) + (((x - ((x.toUInt32 >>> ((1 : Int32).toUInt32 &&& Int32.toUInt32 31)).toInt32 &&& 1431655765)).toUInt32 >>> ((2 : Int32).toUInt32 &&& Int32.toUInt32 31)).toInt32 &&& 858993459)).toUInt32 >>> ((4 : Int32).toUInt32 &&& Int32.toUInt32 31)).toInt32) &&& 252645135).toUInt32 >>> ((8 : Int32).toUInt32 &&& Int32.toUInt32 31)).toInt32) + (((((((x - ((x.toUInt32 >>> ((1 : Int32).toUInt32 &&& Int32.toUInt32 31)).toInt32 &&& 1431655765)) &&& 858993459) + (((x - ((x.toUInt32 >>> ((1 : Int32).toUInt32 &&& Int32.toUInt32 31)).toInt32 &&& 1431655765)).toUInt32 >>> ((2 : Int32).toUInt32 &&& Int32.toUInt32 31)).toInt32 &&& 858993459)) + ((((x - ((x.toUInt32 >>> ((1 : Int32).toUInt32 &&& Int32.toUInt32 31)).toInt32 &&& 1431655765)) &&& 858993459) + (((x - ((x.toUInt32 >>> ((1 : Int32).toUInt32 &&& Int32.toUInt32 31)).toInt32 &&& 1431655765)).toUInt32 >>> ((2 : Int32).toUInt32 &&& Int32.toUInt32 31)).toInt32 &&& 858993459)).toUInt32 >>> ((4 : Int32).toUInt32 &&& Int32.toUInt32 31)).toInt32) &&& 252645135) + ((((((x - ((x.toUInt32 >>> ((1 : Int32).toUInt32 &&& Int32.toUInt32 31)).toInt32 &&& 1431655765)) &&& 858993459) + (((x - ((x.toUInt32 >>> ((1 : Int32).toUInt32 &&& Int32.toUInt32 31)).toInt32 &&& 1431655765)).toUInt32 >>> ((2 : Int32).toUInt32 &&& Int32.toUInt32 31)).toInt32 &&& 858993459)) + ((((x - ((x.toUInt32 >>> ((1 : Int32).toUInt32 &&& Int32.toUInt32 31)).toInt32 &&& 1431655765)) &&& 858993459) + (((x - ((x.toUInt32 >>> ((1 : Int32).toUInt32 &&& Int32.toUInt32 31)).toInt32 &&& 1431655765)).toUInt32 >>> ((2 : Int32).toUInt32 &&& Int32.toUInt32 31)).toInt32 &&& 858993459)).toUInt32 >>> ((4 : Int32).toUInt32 &&& Int32.toUInt32 31)).toInt32) &&& 252645135).toUInt32 >>> ((8 : Int32).toUInt32 &&& Int32.toUInt32 31)).toInt32).toUInt32 >>> ((16 : Int32).toUInt32 &&& Int32.toUInt32 31)).toInt32))]) (dk_at ktJ6_bitCount_0f7a4_0 37 rfl) rfl (by decide) rfl (b := 48) rfl) ?_
  refine rc_p (p_iload_n 0 (dk_at ktJ6_bitCount_0f7a4_0 38 rfl) rfl rfl (b := 49) rfl) ?_
  refine rc_p (p_bipush (v := 63) (dk_at ktJ6_bitCount_0f7a4_0 39 rfl) (by decide) (b := 51) rfl) ?_
  refine rc_p (p_iand (v := ((((((((x - ((x.toUInt32 >>> ((1 : Int32).toUInt32 &&& Int32.toUInt32 31)).toInt32 &&& 1431655765)) &&& 858993459) + (((x - ((x.toUInt32 >>> ((1 : Int32).toUInt32 &&& Int32.toUInt32 31)).toInt32 &&& 1431655765)).toUInt32 >>> ((2 : Int32).toUInt32 &&& Int32.toUInt32 31)).toInt32 &&& 858993459)) + ((((x - ((x.toUInt32 >>> ((1 : Int32).toUInt32 &&& Int32.toUInt32 31)).toInt32 &&& 1431655765)) &&& 858993459) + (((x - ((x.toUInt32 >>> ((1 : Int32).toUInt32 &&& Int32.toUInt32 31)).toInt32 &&& 1431655765)).toUInt32 >>> ((2 : Int32).toUInt32 &&& Int32.toUInt32 31)).toInt32 &&& 858993459)).toUInt32 >>> ((4 : Int32).toUInt32 &&& Int32.toUInt32 31)).toInt32) &&& 252645135) + ((((((x - ((x.toUInt32 >>> ((1 : Int32).toUInt32 &&& Int32.toUInt32 31)).toInt32 &&& 1431655765)) &&& 858993459) + (((x - ((x.toUInt32 >>> ((1 : Int32).toUInt32 &&& Int32.toUInt32 31)).toInt32 &&& 1431655765)).toUInt32 >>> ((2 : Int32).toUInt32 &&& Int32.toUInt32 31)).toInt32 &&& 858993459)) + ((((x - ((x.toUInt32 >>> ((1 : Int32).toUInt32 &&& Int32.toUInt32 31)).toInt32 &&& 1431655765)) &&& 858993459) + (((x - ((x.toUInt32 >>> ((1 : Int32).toUInt32 &&& Int32.toUInt32 31)).toInt32 &&& 1431655765)).toUInt32 >>> ((2 : Int32).toUInt32 &&& Int32.toUInt32 31)).toInt32 &&& 858993459)).toUInt32 >>> ((4 : Int32).toUInt32 &&& Int32.toUInt32 31)).toInt32) &&& 252645135).toUInt32 >>> ((8 : Int32).toUInt32 &&& Int32.toUInt32 31)).toInt32) + (((((((x - ((x.toUInt32 >>> ((1 : Int32).toUInt32 &&& Int32.toUInt32 31)).toInt32 &&& 1431655765)) &&& 858993459) + (((x - ((x.toUInt32 >>> ((1 : Int32).toUInt32 &&& Int32.toUInt32 31)).toInt32 &&& 1431655765)).toUInt32 >>> ((2 : Int32).toUInt32 &&& Int32.toUInt32 31)).toInt32 &&& 858993459)) + ((((x - ((x.toUInt32 >>> ((1 : Int32).toUInt32 &&& Int32.toUInt32 31)).toInt32 &&& 1431655765)) &&& 858993459) + (((x - ((x.toUInt32 >>> ((1 : Int32).toUInt32 &&& Int32.toUInt32 31)).toInt32 &&& 1431655765)).toUInt32 >>> ((2 : Int32).toUInt32 &&& Int32.toUInt32 31)).toInt32 &&& 858993459)).toUInt32 >>> ((4 : Int32).toUInt32 &&& Int32.toUInt32 31)).toInt32) &&& 252645135) + ((((((x - ((x.toUInt32 >>> ((1 : Int32).toUInt32 &&& Int32.toUInt32 31)).toInt32 &&& 1431655765)) &&& 858993459) + (((x - ((x.toUInt32 >>> ((1 : Int32).toUInt32 &&& Int32.toUInt32 31)).toInt32 &&& 1431655765)).toUInt32 >>> ((2 : Int32).toUInt32 &&& Int32.toUInt32 31)).toInt32 &&& 858993459)) + ((((x - ((x.toUInt32 >>> ((1 : Int32).toUInt32 &&& Int32.toUInt32 31)).toInt32 &&& 1431655765)) &&& 858993459) + (((x - ((x.toUInt32 >>> ((1 : Int32).toUInt32 &&& Int32.toUInt32 31)).toInt32 &&& 1431655765)).toUInt32 >>> ((2 : Int32).toUInt32 &&& Int32.toUInt32 31)).toInt32 &&& 858993459)).toUInt32 >>> ((4 : Int32).toUInt32 &&& Int32.toUInt32 31)).toInt32) &&& 252645135).toUInt32 >>> ((8 : Int32).toUInt32 &&& Int32.toUInt32 31)).toInt32).toUInt32 >>> ((16 : Int32).toUInt32 &&& Int32.toUInt32 31)).toInt32) &&& 63)) (dk_at ktJ6_bitCount_0f7a4_0 40 rfl) rfl (b := 52) rfl) ?_
  refine r_iret (dk_at ktJ6_bitCount_0f7a4_0 41 rfl) rfl rfl ⟨_, rfl, ?_⟩
  exact ⟨rfl, rfl, rfl⟩
set_option maxRecDepth 4000 in
set_option maxHeartbeats 4000000 in
theorem s_X1_loseBits_s {n : Nat} {sh : mS} {G : mG} {I : mI} {J : mJ} {d : Nat} {σ : sT} {T N : Nat} (hd : DevG n sh G d) (hR : RelD d I σ T N) (hI : Inv σ) (s i : Nat) (hs : s < 2) (hi : i < 64) (k : Int32) : Sp yX1_loseBits cX1_loseBits 5 (some FieldType.int) 2 96 0 0 [.ref (d + 1), .int (nI s), .int (nI i), .int k] n sh G I J (Qi (fun r_ I_ J_ => a_dam σ (83 + 64 * s + i) k = r_ ∧ J = J_ ∧ RelD d I_ (t_dam σ (83 + 64 * s + i) k) T N ∧ FD d [3, 4, 5, 6] I I_)) nX := by
  refine Sp.of (by decide) (ls := [(0, .ref (d + 1)), (1, .int (nI s)), (2, .int (nI i)), (3, .int k)]) (fun _ => rfl) (fun _ => Nat.le_of_ble_eq_true rfl) ?_
  refine rc_p (p_aload_n 0 (dk_at ktX1_loseBits_0 0 rfl) rfl rfl (b := 1) rfl) ?_
  refine r_geta fl_X1_11 rfl (hd.lt 1 (by decide)) hd.s1 (dk_at ktX1_loseBits_0 1 rfl) hd.g1_0 (b := 4) rfl ?_
  refine rc_p (p_iload_n 1 (dk_at ktX1_loseBits_0 2 rfl) rfl rfl (b := 5) rfl) ?_
  refine r_aald (j := s) (id2 := (d + 3 + s)) (hd.lt 2 (by decide)) hd.s2 (by decide) (dk_at ktX1_loseBits_0 3 rfl) rfl ⟨by omega, by decide⟩ (hd.gc (by omega)) (b := 6) rfl ?_
  refine rc_p (p_iload_n 2 (dk_at ktX1_loseBits_0 4 rfl) rfl rfl (b := 7) rfl) ?_
  refine r_iald (j := i) (by have := hd.1; omega) (hd.sc (by omega)) (dk_at ktX1_loseBits_0 5 rfl) rfl ⟨by omega, by decide⟩ (v := (σ (83 + 64 * s + i))) (hR.at3 (q := 3) (r := s) (k := i) (a := 83 + 64 * s + i) (lc_s (by omega) (by omega))) (b := 8) rfl ?_
  refine rc_p (p_iload_n 3 (dk_at ktX1_loseBits_0 6 rfl) rfl rfl (b := 9) rfl) ?_
  refine rc_p (p_iand (v := ((σ (83 + 64 * s + i)) &&& k)) (dk_at ktX1_loseBits_0 7 rfl) rfl (b := 10) rfl) ?_
  refine r_iS (As := [.int ((σ (83 + 64 * s + i)) &&& k)]) (rest := []) (s_J6_bitCount_0f7a4 ((σ (83 + 64 * s + i)) &&& k)) cw_X1_84 qs_J6_bitCount_0f7a4 (dk_at ktX1_loseBits_0 8 rfl) rfl rfl (Nat.le_of_ble_eq_true rfl) (by decide) (b := 13) rfl (fun v4 I1 J2 q3 => ?_)
  obtain ⟨rfl, rfl, rfl⟩ := q3
  refine r_val (bc_ones (wd_and (hI.2.2.2.1 _ (by omega) (by omega)))) ?_
  refine rc_p (p_istore (ls' := [(4, .int (onesI ((σ (83 + 64 * s + i)) &&& k) 16)), (0, .ref (d + 1)), (1, .int (nI s)), (2, .int (nI i)), (3, .int k)]) (dk_at ktX1_loseBits_0 9 rfl) (by decide) rfl (b := 15) rfl) ?_
  refine rc_p (p_aload_n 1 (dk_at ktX1_loseBits_0 10 rfl) rfl rfl (b := 16) rfl) ?_
  refine r_geta fl_X1_11 rfl (hd.lt 1 (by decide)) hd.s1 (dk_at ktX1_loseBits_0 11 rfl) hd.g1_0 (b := 19) rfl ?_
  refine rc_p (p_iload_n 2 (dk_at ktX1_loseBits_0 12 rfl) rfl rfl (b := 20) rfl) ?_
  refine r_aald (j := s) (id2 := (d + 3 + s)) (hd.lt 2 (by decide)) hd.s2 (by decide) (dk_at ktX1_loseBits_0 13 rfl) rfl ⟨by omega, by decide⟩ (hd.gc (by omega)) (b := 21) rfl ?_
  refine rc_p (p_iload_n 3 (dk_at ktX1_loseBits_0 14 rfl) rfl rfl (b := 22) rfl) ?_
  refine rc_p (p_dup2 (dk_at ktX1_loseBits_0 15 rfl) rfl rfl (b := 23) rfl) ?_
  refine r_iald (j := i) (by have := hd.1; omega) (hd.sc (by omega)) (dk_at ktX1_loseBits_0 16 rfl) rfl ⟨by omega, by decide⟩ (v := (σ (83 + 64 * s + i))) (hR.at3 (q := 3) (r := s) (k := i) (a := 83 + 64 * s + i) (lc_s (by omega) (by omega))) (b := 24) rfl ?_
  refine rc_p (p_iload_n 4 (dk_at ktX1_loseBits_0 17 rfl) rfl rfl (b := 25) rfl) ?_
  refine rc_p (p_iconst (v := (-1)) (dk_at ktX1_loseBits_0 18 rfl) (by decide) (b := 26) rfl) ?_
  refine rc_p (p_ixor (v := (k ^^^ (-1))) (dk_at ktX1_loseBits_0 19 rfl) rfl (b := 27) rfl) ?_
  refine rc_p (p_iand (v := ((σ (83 + 64 * s + i)) &&& (k ^^^ (-1)))) (dk_at ktX1_loseBits_0 20 rfl) rfl (b := 28) rfl) ?_
  refine r_iast (j := i) (by have := hd.1; omega) (hd.sc (by omega)) (dk_at ktX1_loseBits_0 21 rfl) rfl ⟨by omega, by decide⟩ (b := 29) rfl ?_
  refine rc_p (p_iload 0 (dk_at ktX1_loseBits_0 22 rfl) rfl (b := 31) rfl) ?_
  refine r_iret (dk_at ktX1_loseBits_0 23 rfl) rfl rfl ⟨_, rfl, ?_⟩
  exact ⟨rfl, rfl, (hR.set3 (q := 3) (r := s) (k := i) (a := 83 + 64 * s + i) (lc_s (by omega) (by omega)) (by omega) (by omega) (by omega)), (FD.upr FD.rf (by simp <;> omega))⟩
set_option maxRecDepth 4000 in
set_option maxHeartbeats 4000000 in
theorem s_X1_loseBits_j {n : Nat} {sh : mS} {G : mG} {I : mI} {J : mJ} {d : Nat} {σ : sT} {T N : Nat} (hd : DevG n sh G d) (hR : RelD d I σ T N) (hI : Inv σ) (s i : Nat) (hs : s < 2) (hi : i < 32) (k : Int32) : Sp yX1_loseBits cX1_loseBits 5 (some FieldType.int) 2 96 0 0 [.ref (d + 1), .int (nI (2 + s)), .int (nI i), .int k] n sh G I J (Qi (fun r_ I_ J_ => a_dam σ (211 + 32 * s + i) k = r_ ∧ J = J_ ∧ RelD d I_ (t_dam σ (211 + 32 * s + i) k) T N ∧ FD d [3, 4, 5, 6] I I_)) nX := by
  refine Sp.of (by decide) (ls := [(0, .ref (d + 1)), (1, .int (nI (2 + s))), (2, .int (nI i)), (3, .int k)]) (fun _ => rfl) (fun _ => Nat.le_of_ble_eq_true rfl) ?_
  refine rc_p (p_aload_n 0 (dk_at ktX1_loseBits_0 0 rfl) rfl rfl (b := 1) rfl) ?_
  refine r_geta fl_X1_11 rfl (hd.lt 1 (by decide)) hd.s1 (dk_at ktX1_loseBits_0 1 rfl) hd.g1_0 (b := 4) rfl ?_
  refine rc_p (p_iload_n 1 (dk_at ktX1_loseBits_0 2 rfl) rfl rfl (b := 5) rfl) ?_
  refine r_aald (j := 2 + s) (id2 := (d + 3 + (2 + s))) (hd.lt 2 (by decide)) hd.s2 (by decide) (dk_at ktX1_loseBits_0 3 rfl) rfl ⟨by omega, by decide⟩ (hd.gc (by omega)) (b := 6) rfl ?_
  refine rc_p (p_iload_n 2 (dk_at ktX1_loseBits_0 4 rfl) rfl rfl (b := 7) rfl) ?_
  refine r_iald (j := i) (by have := hd.1; omega) (hd.sc (by omega)) (dk_at ktX1_loseBits_0 5 rfl) rfl ⟨by omega, by decide⟩ (v := (σ (211 + 32 * s + i))) (hR.at3 (q := 3) (r := (2 + s)) (k := i) (a := 211 + 32 * s + i) (lc_j (by omega) (by omega))) (b := 8) rfl ?_
  refine rc_p (p_iload_n 3 (dk_at ktX1_loseBits_0 6 rfl) rfl rfl (b := 9) rfl) ?_
  refine rc_p (p_iand (v := ((σ (211 + 32 * s + i)) &&& k)) (dk_at ktX1_loseBits_0 7 rfl) rfl (b := 10) rfl) ?_
  refine r_iS (As := [.int ((σ (211 + 32 * s + i)) &&& k)]) (rest := []) (s_J6_bitCount_0f7a4 ((σ (211 + 32 * s + i)) &&& k)) cw_X1_84 qs_J6_bitCount_0f7a4 (dk_at ktX1_loseBits_0 8 rfl) rfl rfl (Nat.le_of_ble_eq_true rfl) (by decide) (b := 13) rfl (fun v4 I1 J2 q3 => ?_)
  obtain ⟨rfl, rfl, rfl⟩ := q3
  refine r_val (bc_ones (wd_and (hI.2.2.2.1 _ (by omega) (by omega)))) ?_
  refine rc_p (p_istore (ls' := [(4, .int (onesI ((σ (211 + 32 * s + i)) &&& k) 16)), (0, .ref (d + 1)), (1, .int (nI (2 + s))), (2, .int (nI i)), (3, .int k)]) (dk_at ktX1_loseBits_0 9 rfl) (by decide) rfl (b := 15) rfl) ?_
  refine rc_p (p_aload_n 1 (dk_at ktX1_loseBits_0 10 rfl) rfl rfl (b := 16) rfl) ?_
  refine r_geta fl_X1_11 rfl (hd.lt 1 (by decide)) hd.s1 (dk_at ktX1_loseBits_0 11 rfl) hd.g1_0 (b := 19) rfl ?_
  refine rc_p (p_iload_n 2 (dk_at ktX1_loseBits_0 12 rfl) rfl rfl (b := 20) rfl) ?_
  refine r_aald (j := 2 + s) (id2 := (d + 3 + (2 + s))) (hd.lt 2 (by decide)) hd.s2 (by decide) (dk_at ktX1_loseBits_0 13 rfl) rfl ⟨by omega, by decide⟩ (hd.gc (by omega)) (b := 21) rfl ?_
  refine rc_p (p_iload_n 3 (dk_at ktX1_loseBits_0 14 rfl) rfl rfl (b := 22) rfl) ?_
  refine rc_p (p_dup2 (dk_at ktX1_loseBits_0 15 rfl) rfl rfl (b := 23) rfl) ?_
  refine r_iald (j := i) (by have := hd.1; omega) (hd.sc (by omega)) (dk_at ktX1_loseBits_0 16 rfl) rfl ⟨by omega, by decide⟩ (v := (σ (211 + 32 * s + i))) (hR.at3 (q := 3) (r := (2 + s)) (k := i) (a := 211 + 32 * s + i) (lc_j (by omega) (by omega))) (b := 24) rfl ?_
  refine rc_p (p_iload_n 4 (dk_at ktX1_loseBits_0 17 rfl) rfl rfl (b := 25) rfl) ?_
  refine rc_p (p_iconst (v := (-1)) (dk_at ktX1_loseBits_0 18 rfl) (by decide) (b := 26) rfl) ?_
  refine rc_p (p_ixor (v := (k ^^^ (-1))) (dk_at ktX1_loseBits_0 19 rfl) rfl (b := 27) rfl) ?_
  refine rc_p (p_iand (v := ((σ (211 + 32 * s + i)) &&& (k ^^^ (-1)))) (dk_at ktX1_loseBits_0 20 rfl) rfl (b := 28) rfl) ?_
  refine r_iast (j := i) (by have := hd.1; omega) (hd.sc (by omega)) (dk_at ktX1_loseBits_0 21 rfl) rfl ⟨by omega, by decide⟩ (b := 29) rfl ?_
  refine rc_p (p_iload 0 (dk_at ktX1_loseBits_0 22 rfl) rfl (b := 31) rfl) ?_
  refine r_iret (dk_at ktX1_loseBits_0 23 rfl) rfl rfl ⟨_, rfl, ?_⟩
  exact ⟨rfl, rfl, (hR.set3 (q := 3) (r := (2 + s)) (k := i) (a := 211 + 32 * s + i) (lc_j (by omega) (by omega)) (by omega) (by omega) (by omega)), (FD.upr FD.rf (by simp <;> omega))⟩
set_option maxRecDepth 4000 in
set_option maxHeartbeats 4000000 in
theorem s_X6_damage {n : Nat} {sh : mS} {G : mG} {I : mI} {J : mJ} {bx bt d be bf bg b0 b1 bv : Nat} {σ : sT} {T N : Nat} (hB : BootH n sh G bx bt d be bf bg b0 b1 bv) (hR : RelD d I σ T N) (hI : Inv σ) (s i k : Int32) : Sp yX6_damage cX6_damage 4 (some FieldType.int) 8 330 3 18 [.ref bx, .int s, .int i, .int k] n sh G I J (Qi (fun r_ I_ J_ => cDam s i k (nW σ) = 0 ∧ a_dam σ (83 + 64 * tn s + tn i) k = r_ ∧ J = J_ ∧ RelN d I_ (t_dams σ s i k) (T + 0) ∧ FB d bg I I_)) (eX (cDam s i k (nW σ)) I J) := by
  have hd := hB.hD
  have hord := hB.ord
  have hb := hI.bd
  have hNs := hR.2.2.2.1
  have hN61 := hR.2.2.2.2.1
  have hTm := hR.2.2.2.2.2
  refine Sp.of (by decide) (ls := [(0, .ref bx), (1, .int s), (2, .int i), (3, .int k)]) (fun _ => rfl) (fun _ => Nat.le_of_ble_eq_true rfl) ?_
  refine rc_p (p_iload_n 1 (dk_at ktX6_damage_0 0 rfl) rfl rfl (b := 1) rfl) ?_
  refine r_vSX (As := [.int s]) (rest := []) (s_X6_requireSlot s) cw_X6_134 qs_X6_requireSlot (dk_at ktX6_damage_0 1 rfl) rfl rfl (Nat.le_of_ble_eq_true rfl) (by decide) (b := 4) rfl (fun _ _ _ h => ⟨Or.inl ⟨h.1, cDam_1 (Or.inl h.2.1)⟩, h.2.2⟩) (fun I1 J2 hq3 => ?_)
  obtain ⟨ok4, rfl, rfl⟩ := hq3
  obtain ⟨q, hq, rfl⟩ := sl_ok ok4
  refine rc_p (p_iload_n 3 (dk_at ktX6_damage_0 2 rfl) rfl rfl (b := 5) rfl) ?_
  refine rc_p (p_iconst (v := 0) (dk_at ktX6_damage_0 3 rfl) (by decide) (b := 6) rfl) ?_
  refine rc_p (p_ldc (v := 65535) qk_TwinBoot_70 (dk_at ktX6_damage_0 4 rfl) (b := 8) rfl) ?_
  refine r_vSX (As := [.int k, .int 0, .int 65535]) (rest := []) (s_X6_requireRange k 0 65535) cw_X6_71 qs_X6_requireRange (dk_at ktX6_damage_0 5 rfl) rfl rfl (Nat.le_of_ble_eq_true rfl) (by decide) (b := 11) rfl (fun _ _ _ h => ⟨Or.inl ⟨h.1, cDam_1 (Or.inr h.2.1)⟩, h.2.2⟩) (fun I5 J6 hq7 => ?_)
  obtain ⟨ok8, rfl, rfl⟩ := hq7
  refine rc_p (p_iload_n 2 (dk_at ktX6_damage_0 6 rfl) rfl rfl (b := 12) rfl) ?_
  refine rc_p (p_aload_n 0 (dk_at ktX6_damage_0 7 rfl) rfl rfl (b := 13) rfl) ?_
  refine r_geta fl_X6_27 rfl hB.l0 hB.s0 (dk_at ktX6_damage_0 8 rfl) hB.g0_1 (b := 16) rfl ?_
  refine r_geta fl_X6_57 rfl hd.l0 hd.s0 (dk_at ktX6_damage_0 9 rfl) hd.g0_0 (b := 19) rfl ?_
  refine r_geti fl_X6_86 rfl (hd.lt 1 (by decide)) hd.s1 (dk_at ktX6_damage_0 10 rfl) (v := (nI (nW σ))) ((hR.1 1 2 0 lc_1_2).trans (hI).w0) (b := 22) rfl ?_
  refine r_vSX (As := [.int i, .int (nI (nW σ))]) (rest := []) (s_X6_requireIndex i (nW σ)) cw_X6_149 qs_X6_requireIndex (dk_at ktX6_damage_0 11 rfl) rfl rfl (Nat.le_of_ble_eq_true rfl) (by decide) (b := 25) rfl (fun _ _ _ h => ⟨Or.inr ⟨h.1, cDam_2 ok4 ok8 h.2.1⟩, h.2.2⟩) (fun I9 J10 hq11 => ?_)
  obtain ⟨ok12, rfl, rfl⟩ := hq11
  obtain ⟨j, hj, rfl⟩ := in_ok (by omega) ok12
  refine rc_p (p_aload_n 0 (dk_at ktX6_damage_0 12 rfl) rfl rfl (b := 26) rfl) ?_
  refine r_geta fl_X6_27 rfl hB.l0 hB.s0 (dk_at ktX6_damage_0 13 rfl) hB.g0_1 (b := 29) rfl ?_
  refine r_geta fl_X6_57 rfl hd.l0 hd.s0 (dk_at ktX6_damage_0 14 rfl) hd.g0_0 (b := 32) rfl ?_
  refine rc_p (p_iload_n 1 (dk_at ktX6_damage_0 15 rfl) rfl rfl (b := 33) rfl) ?_
  refine rc_p (p_iload_n 2 (dk_at ktX6_damage_0 16 rfl) rfl rfl (b := 34) rfl) ?_
  refine rc_p (p_iload_n 3 (dk_at ktX6_damage_0 17 rfl) rfl rfl (b := 35) rfl) ?_
  refine r_iV (As' := [.int (nI q), .int (nI j), .int k]) (rest := []) (s_X1_loseBits_s hd (σ := σ) hR hI q j (by omega) (by omega) k) cw_X6_181 qi_X1_loseBits qv_X1_loseBits rfl (hd.lt 1 (by decide)) hd.s1 (dk_at ktX6_damage_0 18 rfl) rfl rfl (Nat.le_of_ble_eq_true rfl) (by decide) (b := 38) rfl (fun v16 I13 J14 q15 => ?_)
  obtain ⟨rfl, rfl, hR17, hF18⟩ := q15
  refine r_iret (dk_at ktX6_damage_0 19 rfl) rfl rfl ⟨_, rfl, ?_⟩
  have hcd : cDam (nI q) (nI j) k (nW σ) = 0 := cDam_ok ok4 ok8 ok12
  have hst : t_dams σ (nI q) (nI j) k = t_dam σ (83 + 64 * q + j) k := (if_pos hcd).trans (by rw [tn_nI (by omega), tn_nI (by omega)])
  refine ⟨hcd, ?_, rfl, (by rw [hst]; exact RelN.of hR17 (by omega)), (FD.fb (os := [0, 1, 2, 3, 4, 5, 6, 7, 8, 9, 10, 11, 12, 13, 14, 15, 16, 17, 18]) (FD.tr FD.rf (hF18.mo (by simp <;> omega))) (by simp <;> omega) (by omega))⟩
  rw [tn_nI (by omega), tn_nI (by omega)]
set_option maxRecDepth 4000 in
set_option maxHeartbeats 4000000 in
theorem s_X6_damageJournal {n : Nat} {sh : mS} {G : mG} {I : mI} {J : mJ} {bx bt d be bf bg b0 b1 bv : Nat} {σ : sT} {T N : Nat} (hB : BootH n sh G bx bt d be bf bg b0 b1 bv) (hR : RelD d I σ T N) (hI : Inv σ) (s i k : Int32) : Sp yX6_damageJournal cX6_damageJournal 4 (some FieldType.int) 8 330 3 18 [.ref bx, .int s, .int i, .int k] n sh G I J (Qi (fun r_ I_ J_ => cDam s i k (nJ σ) = 0 ∧ a_dam σ (211 + 32 * tn s + tn i) k = r_ ∧ J = J_ ∧ RelN d I_ (t_damj σ s i k) (T + 0) ∧ FB d bg I I_)) (eX (cDam s i k (nJ σ)) I J) := by
  have hd := hB.hD
  have hord := hB.ord
  have hb := hI.bd
  have hNs := hR.2.2.2.1
  have hN61 := hR.2.2.2.2.1
  have hTm := hR.2.2.2.2.2
  refine Sp.of (by decide) (ls := [(0, .ref bx), (1, .int s), (2, .int i), (3, .int k)]) (fun _ => rfl) (fun _ => Nat.le_of_ble_eq_true rfl) ?_
  refine rc_p (p_iload_n 1 (dk_at ktX6_damageJournal_0 0 rfl) rfl rfl (b := 1) rfl) ?_
  refine r_vSX (As := [.int s]) (rest := []) (s_X6_requireSlot s) cw_X6_134 qs_X6_requireSlot (dk_at ktX6_damageJournal_0 1 rfl) rfl rfl (Nat.le_of_ble_eq_true rfl) (by decide) (b := 4) rfl (fun _ _ _ h => ⟨Or.inl ⟨h.1, cDam_1 (Or.inl h.2.1)⟩, h.2.2⟩) (fun I1 J2 hq3 => ?_)
  obtain ⟨ok4, rfl, rfl⟩ := hq3
  obtain ⟨q, hq, rfl⟩ := sl_ok ok4
  refine rc_p (p_iload_n 3 (dk_at ktX6_damageJournal_0 2 rfl) rfl rfl (b := 5) rfl) ?_
  refine rc_p (p_iconst (v := 0) (dk_at ktX6_damageJournal_0 3 rfl) (by decide) (b := 6) rfl) ?_
  refine rc_p (p_ldc (v := 65535) qk_TwinBoot_70 (dk_at ktX6_damageJournal_0 4 rfl) (b := 8) rfl) ?_
  refine r_vSX (As := [.int k, .int 0, .int 65535]) (rest := []) (s_X6_requireRange k 0 65535) cw_X6_71 qs_X6_requireRange (dk_at ktX6_damageJournal_0 5 rfl) rfl rfl (Nat.le_of_ble_eq_true rfl) (by decide) (b := 11) rfl (fun _ _ _ h => ⟨Or.inl ⟨h.1, cDam_1 (Or.inr h.2.1)⟩, h.2.2⟩) (fun I5 J6 hq7 => ?_)
  obtain ⟨ok8, rfl, rfl⟩ := hq7
  refine rc_p (p_iload_n 2 (dk_at ktX6_damageJournal_0 6 rfl) rfl rfl (b := 12) rfl) ?_
  refine rc_p (p_aload_n 0 (dk_at ktX6_damageJournal_0 7 rfl) rfl rfl (b := 13) rfl) ?_
  refine r_geta fl_X6_27 rfl hB.l0 hB.s0 (dk_at ktX6_damageJournal_0 8 rfl) hB.g0_1 (b := 16) rfl ?_
  refine r_geta fl_X6_57 rfl hd.l0 hd.s0 (dk_at ktX6_damageJournal_0 9 rfl) hd.g0_0 (b := 19) rfl ?_
  refine r_geti fl_X6_92 rfl (hd.lt 1 (by decide)) hd.s1 (dk_at ktX6_damageJournal_0 10 rfl) (v := (nI (nJ σ))) ((hR.1 1 5 2 lc_1_5).trans (hI).w2) (b := 22) rfl ?_
  refine r_vSX (As := [.int i, .int (nI (nJ σ))]) (rest := []) (s_X6_requireIndex i (nJ σ)) cw_X6_149 qs_X6_requireIndex (dk_at ktX6_damageJournal_0 11 rfl) rfl rfl (Nat.le_of_ble_eq_true rfl) (by decide) (b := 25) rfl (fun _ _ _ h => ⟨Or.inr ⟨h.1, cDam_2 ok4 ok8 h.2.1⟩, h.2.2⟩) (fun I9 J10 hq11 => ?_)
  obtain ⟨ok12, rfl, rfl⟩ := hq11
  obtain ⟨j, hj, rfl⟩ := in_ok (by omega) ok12
  refine rc_p (p_aload_n 0 (dk_at ktX6_damageJournal_0 12 rfl) rfl rfl (b := 26) rfl) ?_
  refine r_geta fl_X6_27 rfl hB.l0 hB.s0 (dk_at ktX6_damageJournal_0 13 rfl) hB.g0_1 (b := 29) rfl ?_
  refine r_geta fl_X6_57 rfl hd.l0 hd.s0 (dk_at ktX6_damageJournal_0 14 rfl) hd.g0_0 (b := 32) rfl ?_
  refine rc_p (p_iconst (v := 2) (dk_at ktX6_damageJournal_0 15 rfl) (by decide) (b := 33) rfl) ?_
  refine rc_p (p_iload_n 1 (dk_at ktX6_damageJournal_0 16 rfl) rfl rfl (b := 34) rfl) ?_
  refine rc_p (p_iadd (v := (nI (2 + q))) (dk_at ktX6_damageJournal_0 17 rfl) (nI_add 2 q) (b := 35) rfl) ?_
  refine rc_p (p_iload_n 2 (dk_at ktX6_damageJournal_0 18 rfl) rfl rfl (b := 36) rfl) ?_
  refine rc_p (p_iload_n 3 (dk_at ktX6_damageJournal_0 19 rfl) rfl rfl (b := 37) rfl) ?_
  refine r_iV (As' := [.int (nI (2 + q)), .int (nI j), .int k]) (rest := []) (s_X1_loseBits_j hd (σ := σ) hR hI q j (by omega) (by omega) k) cw_X6_181 qi_X1_loseBits qv_X1_loseBits rfl (hd.lt 1 (by decide)) hd.s1 (dk_at ktX6_damageJournal_0 20 rfl) rfl rfl (Nat.le_of_ble_eq_true rfl) (by decide) (b := 40) rfl (fun v16 I13 J14 q15 => ?_)
  obtain ⟨rfl, rfl, hR17, hF18⟩ := q15
  refine r_iret (dk_at ktX6_damageJournal_0 21 rfl) rfl rfl ⟨_, rfl, ?_⟩
  have hcd : cDam (nI q) (nI j) k (nJ σ) = 0 := cDam_ok ok4 ok8 ok12
  have hst : t_damj σ (nI q) (nI j) k = t_dam σ (211 + 32 * q + j) k := (if_pos hcd).trans (by rw [tn_nI (by omega), tn_nI (by omega)])
  refine ⟨hcd, ?_, rfl, (by rw [hst]; exact RelN.of hR17 (by omega)), (FD.fb (os := [0, 1, 2, 3, 4, 5, 6, 7, 8, 9, 10, 11, 12, 13, 14, 15, 16, 17, 18]) (FD.tr FD.rf (hF18.mo (by simp <;> omega))) (by simp <;> omega) (by omega))⟩
  rw [tn_nI (by omega), tn_nI (by omega)]
set_option maxRecDepth 4000 in
set_option maxHeartbeats 4000000 in
theorem s_X6_eventCount {n : Nat} {sh : mS} {G : mG} {I : mI} {J : mJ} {bx bt d be bf bg b0 b1 bv : Nat} {σ : sT} {T N : Nat} (hB : BootH n sh G bx bt d be bf bg b0 b1 bv) (hR : RelD d I σ T N) (hI : Inv σ) (e : Int32) : Sp yX6_eventCount cX6_eventCount 2 (some FieldType.int) 7 310 1 6 [.ref bx, .int e] n sh G I J (Qi (fun r_ I_ J_ => cIn e 0 7 = 0 ∧ σ (11 + tn e) = r_ ∧ J = J_ ∧ RelN d I_ (σ) (T + 0) ∧ FB d bg I I_)) (eX (cIn e 0 7) I J) := by
  have hd := hB.hD
  have hord := hB.ord
  have hb := hI.bd
  have hNs := hR.2.2.2.1
  have hN61 := hR.2.2.2.2.1
  have hTm := hR.2.2.2.2.2
  refine Sp.of (by decide) (ls := [(0, .ref bx), (1, .int e)]) (fun _ => rfl) (fun _ => Nat.le_of_ble_eq_true rfl) ?_
  refine rc_p (p_iload_n 1 (dk_at ktX6_eventCount_0 0 rfl) rfl rfl (b := 1) rfl) ?_
  refine rc_p (p_iconst (v := 0) (dk_at ktX6_eventCount_0 1 rfl) (by decide) (b := 2) rfl) ?_
  refine rc_p (p_bipush (v := 7) (dk_at ktX6_eventCount_0 2 rfl) (by decide) (b := 4) rfl) ?_
  refine r_vSX (As := [.int e, .int 0, .int 7]) (rest := []) (s_X6_requireRange e 0 7) cw_X6_71 qs_X6_requireRange (dk_at ktX6_eventCount_0 3 rfl) rfl rfl (Nat.le_of_ble_eq_true rfl) (by decide) (b := 7) rfl (fun _ _ _ h => ⟨Or.inl ⟨h.1, cIn_f h.2.1⟩, h.2.2⟩) (fun I1 J2 hq3 => ?_)
  obtain ⟨ok4, rfl, rfl⟩ := hq3
  obtain ⟨j, _, hj, rfl⟩ := rg_ok (a := 0) (b := 7) (by decide) (by decide) ok4
  refine rc_p (p_aload_n 0 (dk_at ktX6_eventCount_0 4 rfl) rfl rfl (b := 8) rfl) ?_
  refine r_geta fl_X6_27 rfl hB.l0 hB.s0 (dk_at ktX6_eventCount_0 5 rfl) hB.g0_1 (b := 11) rfl ?_
  refine r_geta fl_X6_250 rfl hd.l0 hd.s0 (dk_at ktX6_eventCount_0 6 rfl) hd.g0_1 (b := 14) rfl ?_
  refine r_geta fl_X6_261 rfl (hd.lt 11 (by decide)) hd.s11 (dk_at ktX6_eventCount_0 7 rfl) hd.g11_3 (b := 17) rfl ?_
  refine rc_p (p_iload_n 1 (dk_at ktX6_eventCount_0 8 rfl) rfl rfl (b := 18) rfl) ?_
  refine r_iald (j := j) (hd.lt 15 (by decide)) hd.s15 (dk_at ktX6_eventCount_0 9 rfl) rfl ⟨by omega, by decide⟩ (v := (σ (11 + j))) (hR.1 15 j (11 + j) (lc_c (by omega))) (b := 19) rfl ?_
  refine r_iret (dk_at ktX6_eventCount_0 10 rfl) rfl rfl ⟨_, rfl, ?_⟩
  refine ⟨cIn_t ok4, ?_, rfl, RelN.of hR (by omega), FB.rf⟩
  rw [tn_nI (by omega)]
set_option maxRecDepth 4000 in
set_option maxHeartbeats 4000000 in
theorem s_X2_part {n : Nat} {sh : mS} {G : mG} {I : mI} {J : mJ} {d : Nat} {σ : sT} {T N : Nat} (hd : DevG n sh G d) (hR : RelD d I σ T N) (hI : Inv σ) (hL : LedR d I σ) (w : Nat) (hw : w < 5) : Sp yX2_part cX2_part 2 (some FieldType.int) 1 48 0 0 [.ref (d + 16), .int (nI w)] n sh G I J (Qi (fun r_ I_ J_ => told σ w = r_ ∧ I = I_ ∧ J = J_)) nX := by
  rcases (by omega : w = 0 ∨ w = 1 ∨ w = 2 ∨ w = 3 ∨ w = 4) with rfl | rfl | rfl | rfl | rfl
  · refine Sp.of (by decide) (ls := [(0, .ref (d + 16)), (1, .int 0)]) (fun _ => rfl) (fun _ => Nat.le_of_ble_eq_true rfl) ?_
    refine rc_p (p_iload_n 1 (dk_at ktX2_part_0 0 rfl) rfl rfl (b := 1) rfl) ?_
    refine rc_p (p_tabIn (b := 32) (dk_at ktX2_part_0 1 rfl) (by decide) (by decide) rfl (by decide)) ?_
    refine rc_p (p_aload_n 0 (dk_at ktX2_part_0 2 rfl) rfl rfl (b := 33) rfl) ?_
    refine r_geti fl_X2_44 rfl (hd.lt 16 (by decide)) hd.s16 (dk_at ktX2_part_0 3 rfl) (v := (told σ 0)) (hL.2.2.2 0 (by decide)) (b := 36) rfl ?_
    refine r_iret (dk_at ktX2_part_0 4 rfl) rfl rfl ⟨_, rfl, ?_⟩
    exact ⟨rfl, rfl, rfl⟩
  · refine Sp.of (by decide) (ls := [(0, .ref (d + 16)), (1, .int 1)]) (fun _ => rfl) (fun _ => Nat.le_of_ble_eq_true rfl) ?_
    refine rc_p (p_iload_n 1 (dk_at ktX2_part_0 0 rfl) rfl rfl (b := 1) rfl) ?_
    refine rc_p (p_tabIn (b := 37) (dk_at ktX2_part_0 1 rfl) (by decide) (by decide) rfl (by decide)) ?_
    refine rc_p (p_aload_n 0 (dk_at ktX2_part_0 5 rfl) rfl rfl (b := 38) rfl) ?_
    refine r_geti fl_X2_47 rfl (hd.lt 16 (by decide)) hd.s16 (dk_at ktX2_part_0 6 rfl) (v := (told σ 1)) (hL.2.2.2 1 (by decide)) (b := 41) rfl ?_
    refine r_iret (dk_at ktX2_part_0 7 rfl) rfl rfl ⟨_, rfl, ?_⟩
    exact ⟨rfl, rfl, rfl⟩
  · refine Sp.of (by decide) (ls := [(0, .ref (d + 16)), (1, .int 2)]) (fun _ => rfl) (fun _ => Nat.le_of_ble_eq_true rfl) ?_
    refine rc_p (p_iload_n 1 (dk_at ktX2_part_0 0 rfl) rfl rfl (b := 1) rfl) ?_
    refine rc_p (p_tabIn (b := 42) (dk_at ktX2_part_0 1 rfl) (by decide) (by decide) rfl (by decide)) ?_
    refine rc_p (p_aload_n 0 (dk_at ktX2_part_0 8 rfl) rfl rfl (b := 43) rfl) ?_
    refine r_geti fl_X2_50 rfl (hd.lt 16 (by decide)) hd.s16 (dk_at ktX2_part_0 9 rfl) (v := (told σ 2)) (hL.2.2.2 2 (by decide)) (b := 46) rfl ?_
    refine r_iret (dk_at ktX2_part_0 10 rfl) rfl rfl ⟨_, rfl, ?_⟩
    exact ⟨rfl, rfl, rfl⟩
  · refine Sp.of (by decide) (ls := [(0, .ref (d + 16)), (1, .int 3)]) (fun _ => rfl) (fun _ => Nat.le_of_ble_eq_true rfl) ?_
    refine rc_p (p_iload_n 1 (dk_at ktX2_part_0 0 rfl) rfl rfl (b := 1) rfl) ?_
    refine rc_p (p_tabIn (b := 47) (dk_at ktX2_part_0 1 rfl) (by decide) (by decide) rfl (by decide)) ?_
    refine rc_p (p_aload_n 0 (dk_at ktX2_part_0 11 rfl) rfl rfl (b := 48) rfl) ?_
    refine r_geti fl_X2_53 rfl (hd.lt 16 (by decide)) hd.s16 (dk_at ktX2_part_0 12 rfl) (v := (told σ 3)) (hL.2.2.2 3 (by decide)) (b := 51) rfl ?_
    refine r_iret (dk_at ktX2_part_0 13 rfl) rfl rfl ⟨_, rfl, ?_⟩
    exact ⟨rfl, rfl, rfl⟩
  · refine Sp.of (by decide) (ls := [(0, .ref (d + 16)), (1, .int 4)]) (fun _ => rfl) (fun _ => Nat.le_of_ble_eq_true rfl) ?_
    refine rc_p (p_iload_n 1 (dk_at ktX2_part_0 0 rfl) rfl rfl (b := 1) rfl) ?_
    refine rc_p (p_tabOut (b := 52) (dk_at ktX2_part_0 1 rfl) (by decide) (by decide)) ?_
    refine rc_p (p_aload_n 0 (dk_at ktX2_part_0 14 rfl) rfl rfl (b := 53) rfl) ?_
    refine r_geti fl_X2_56 rfl (hd.lt 16 (by decide)) hd.s16 (dk_at ktX2_part_0 15 rfl) (v := (told σ 4)) (hL.2.2.2 4 (by decide)) (b := 56) rfl ?_
    refine r_iret (dk_at ktX2_part_0 16 rfl) rfl rfl ⟨_, rfl, ?_⟩
    exact ⟨rfl, rfl, rfl⟩
set_option maxRecDepth 4000 in
set_option maxHeartbeats 4000000 in
theorem s_X6_told {n : Nat} {sh : mS} {G : mG} {I : mI} {J : mJ} {bx bt d be bf bg b0 b1 bv : Nat} {σ : sT} {T N : Nat} (hB : BootH n sh G bx bt d be bf bg b0 b1 bv) (hR : RelD d I σ T N) (hI : Inv σ) (w : Int32) : Sp yX6_told cX6_told 2 (some FieldType.int) 7 310 1 6 [.ref bx, .int w] n sh G I J (Qi (fun r_ I_ J_ => cIn w 0 4 = 0 ∧ told σ (tn w) = r_ ∧ J = J_ ∧ RelN d I_ (σ) (T + 0) ∧ FB d bg I I_)) (eX (cIn w 0 4) I J) := by
  have hd := hB.hD
  have hord := hB.ord
  have hb := hI.bd
  have hNs := hR.2.2.2.1
  have hN61 := hR.2.2.2.2.1
  have hTm := hR.2.2.2.2.2
  refine Sp.of (by decide) (ls := [(0, .ref bx), (1, .int w)]) (fun _ => rfl) (fun _ => Nat.le_of_ble_eq_true rfl) ?_
  refine rc_p (p_iload_n 1 (dk_at ktX6_told_0 0 rfl) rfl rfl (b := 1) rfl) ?_
  refine rc_p (p_iconst (v := 0) (dk_at ktX6_told_0 1 rfl) (by decide) (b := 2) rfl) ?_
  refine rc_p (p_iconst (v := 4) (dk_at ktX6_told_0 2 rfl) (by decide) (b := 3) rfl) ?_
  refine r_vSX (As := [.int w, .int 0, .int 4]) (rest := []) (s_X6_requireRange w 0 4) cw_X6_71 qs_X6_requireRange (dk_at ktX6_told_0 3 rfl) rfl rfl (Nat.le_of_ble_eq_true rfl) (by decide) (b := 6) rfl (fun _ _ _ h => ⟨Or.inl ⟨h.1, cIn_f h.2.1⟩, h.2.2⟩) (fun I1 J2 hq3 => ?_)
  obtain ⟨ok4, rfl, rfl⟩ := hq3
  obtain ⟨j, _, hj, rfl⟩ := rg_ok (a := 0) (b := 4) (by decide) (by decide) ok4
  refine rc_p (p_aload_n 0 (dk_at ktX6_told_0 4 rfl) rfl rfl (b := 7) rfl) ?_
  refine r_rV (As' := []) (rest := []) (s_X6_readLedger hB (σ := σ) hR hI) cw_X6_162 qi_X6_readLedger qv_X6_readLedger rfl hB.l0 hB.s0 (dk_at ktX6_told_0 5 rfl) rfl rfl (Nat.le_of_ble_eq_true rfl) (by decide) (b := 10) rfl (fun v8 I5 J6 q7 => ?_)
  obtain ⟨rfl, rfl, hR9, hL11, hF10⟩ := q7
  refine rc_p (p_iload_n 1 (dk_at ktX6_told_0 6 rfl) rfl rfl (b := 11) rfl) ?_
  refine r_iV (As' := [.int (nI j)]) (rest := []) (s_X2_part hd (σ := σ) hR9 hI hL11 j (by omega)) cw_X6_210 qi_X2_part qv_X2_part rfl (hd.lt 16 (by decide)) hd.s16 (dk_at ktX6_told_0 7 rfl) rfl rfl (Nat.le_of_ble_eq_true rfl) (by decide) (b := 14) rfl (fun v15 I12 J13 q14 => ?_)
  obtain ⟨rfl, rfl, rfl⟩ := q14
  refine r_iret (dk_at ktX6_told_0 8 rfl) rfl rfl ⟨_, rfl, ?_⟩
  refine ⟨cIn_t ok4, ?_, rfl, RelN.of hR9 (by omega), (FD.fb (os := [0, 1, 2, 3, 4, 5, 6, 7, 8, 9, 10, 11, 12, 13, 14, 15, 16, 17, 18]) (FD.tr FD.rf (hF10.mo (by simp <;> omega))) (by simp <;> omega) (by omega))⟩
  rw [tn_nI (by omega)]

/-! THE LAW: what its entry gives -/
theorem TT_all {args : Array Value} {s : State} (h : ∀ w ∈ lw_tbl, w.before args s = true) : ∀ w ∈ TT, w.before args s = true := fun w hw => h w (List.mem_filter.mp hw).1
theorem cls_of {args : Array Value} {s : State} (h : ∀ w ∈ TT, w.before args s = true) : ∃ D : va_G, ∀ (c : Nat) (q : vw_C), vwCl[c]? = some q → u_Kn s q.1 q.2.1 q.2.2 (D.1 c) (D.2 c) := by
  have h0 : ∀ c : Nat, ∃ p : ClassId × (Nat → Nat), ∀ q : vw_C, vwCl[c]? = some q → u_Kn s q.1 q.2.1 q.2.2 p.1 p.2 := by
    intro c
    match c with
    | 0 =>
      obtain ⟨a, b, hk⟩ := u_known (C := RJ0) (T := TJ0) (N := 4) h lay_J0 (h _ qin_J0s)
      exact ⟨(a, b), fun q hq => by cases hq; exact hk⟩
    | 1 =>
      obtain ⟨a, b, hk⟩ := u_known (C := RJ4) (T := TJ4) (N := 4) h lay_J4 (h _ qin_J4s)
      exact ⟨(a, b), fun q hq => by cases hq; exact hk⟩
    | 2 =>
      obtain ⟨a, b, hk⟩ := u_known (C := RJ0) (T := TJ0) (N := 4) h lay_J0 (h _ qin_J0s)
      exact ⟨(a, b), fun q hq => by cases hq; exact hk⟩
    | 3 =>
      obtain ⟨a, b, hk⟩ := u_known (C := RX0) (T := TX0) (N := 9) h lay_X0 (h _ qin_X0)
      exact ⟨(a, b), fun q hq => by cases hq; exact hk⟩
    | 4 =>
      obtain ⟨a, b, hk⟩ := u_known (C := RX1) (T := TX1) (N := 9) h lay_X1 (h _ qin_X1)
      exact ⟨(a, b), fun q hq => by cases hq; exact hk⟩
    | 5 =>
      obtain ⟨a, b, hk⟩ := u_known (C := RX2) (T := TX2) (N := 10) h lay_X2 (h _ qin_X2)
      exact ⟨(a, b), fun q hq => by cases hq; exact hk⟩
    | 6 =>
      obtain ⟨a, b, hk⟩ := u_known (C := RX3) (T := TX3) (N := 5) h lay_X3 (h _ qin_X3)
      exact ⟨(a, b), fun q hq => by cases hq; exact hk⟩
    | 7 =>
      obtain ⟨a, b, hk⟩ := u_known (C := RX4) (T := TX4) (N := 9) h lay_X4 (h _ qin_X4)
      exact ⟨(a, b), fun q hq => by cases hq; exact hk⟩
    | 8 =>
      obtain ⟨a, b, hk⟩ := u_known (C := RX5) (T := TX5) (N := 8) h lay_X5 (h _ qin_X5)
      exact ⟨(a, b), fun q hq => by cases hq; exact hk⟩
    | 9 =>
      obtain ⟨a, b, hk⟩ := u_known (C := RX6) (T := TX6) (N := 6) h lay_X6 (h _ qin_X6)
      exact ⟨(a, b), fun q hq => by cases hq; exact hk⟩
    | k + 10 => exact ⟨(0, fun _ => 0), fun q hq => by simp [vwCl] at hq⟩
  obtain ⟨f, hf⟩ := Classical.axiomOfChoice h0
  exact ⟨(fun c => (f c).1, fun c => (f c).2), fun c q hq => hf c q hq⟩
theorem over_rows {args : Array Value} {s : State} {t : FieldType} (h : (Cond.arrayOver (.array t)).before args s = true) : ∃ comp c k, s.vm.findClass (FieldType.array t).toString = some comp ∧ s.vm.classes[c]? = some k ∧ k.kind = Kind.array comp (.array t) ∧ s.vm.findClass ("[" ++ (FieldType.array t).toString) = some c := by
  have h1 : (Cond.arrayOver (.array t)).value args s none s [] = some true := eq_of_beq h
  simp only [Cond.value] at h1
  cases hc : s.vm.findClass (FieldType.array t).toString with
  | none => rw [hc] at h1; simp at h1
  | some comp =>
    rw [hc] at h1
    simp only [Option.bind_some, Option.bind_eq_some_iff, Option.map_eq_some_iff] at h1
    obtain ⟨c, hi, k, hk, hb⟩ := h1
    obtain ⟨hlt, hp, -⟩ := Array.findIdx?_eq_some_iff_getElem.mp hi
    rw [(Array.getElem?_eq_some_iff.mp hk).2] at hp
    cases hq : k.kind with
    | array c2 t2 =>
      rw [hq] at hb hp
      simp at hb hp
      exact ⟨comp, c, k, rfl, hk, by rw [hq, hp, hb.1], hb.2⟩
    | _ => rw [hq] at hb; simp at hb
theorem ArrOf_k {s : State} {c comp : ClassId} {k : Class} {ty : FieldType} (hk : s.vm.classes[c]? = some k) (hh : k.kind = .array comp ty) : ArrOfT s c ty := fun _ _ => ⟨(fun k h => by cases h), k, hk, comp, hh⟩
theorem ac_of {args : Array Value} {s : State} (h : ∀ w ∈ lw_tbl, w.before args s = true) : ∃ cA : Nat → ClassId, AC cA s ∧ ∀ (k : Nat) (q : ClassId × FieldType), (mtys cA)[k]? = some q → ArrOfT s q.1 q.2 ∧ va_RA s q.1 q.2 := by
  have hT := TT_all h
  obtain ⟨c0, k0, p0, a0, b0, d0⟩ := Cond.arrayClass_spec (hT _ qac_int)
  obtain ⟨c1, k1, p1, a1, b1, d1⟩ := Cond.arrayClass_spec (hT _ qac_byte)
  obtain ⟨c2, k2, p2, a2, b2, d2⟩ := Cond.arrayClass_spec (hT _ qac_boolean)
  have o4 : (Cond.arrayOver (.array .int)).before args s = true := h _ (List.mem_append_right _ (tb1 (List.mem_of_getElem? (i := 46) rfl)))
  have o5 : (Cond.arrayOver (.object RX0)).before args s = true := h _ (List.mem_append_right _ (tb2 (List.mem_of_getElem? (i := 77) rfl)))
  obtain ⟨p4, c4, k4, e4, b4, d4, a4⟩ := over_rows o4
  obtain ⟨p5, c5, k5, e5, -, b5, d5, a5⟩ := Cond.arrayOver_spec o5
  have n0 : s.vm.findClass "[I" = some c0 := va_nm_int (s := s) a0
  have n1 : s.vm.findClass "[B" = some c1 := va_nm_byte (s := s) a1
  have n2 : s.vm.findClass "[Z" = some c2 := va_nm_boolean (s := s) a2
  have s4 : "[" ++ (FieldType.array .int).toString = "[[I" := by decide
  have s4' : (FieldType.array .int).toString = "[I" := by decide
  have s5 : "[" ++ (FieldType.object RX0).toString = "[LTwinBoot$Device;" := by decide
  have n4 : s.vm.findClass "[[I" = some c4 := by rw [← s4]; exact a4
  have n5 : s.vm.findClass "[LTwinBoot$Device;" = some c5 := by rw [← s5]; exact a5
  have hp : p4 = c0 := by
    rw [s4'] at e4
    exact Option.some.inj (e4.symm.trans n0)
  subst hp
  refine ⟨fun k => match k with | 0 => p4 | 1 => c1 | 2 => c2 | 3 => p4 | 4 => c4 | _ => c5, ⟨n0, n1, n2, rfl, n4, n5, ⟨k4, b4, d4⟩, ⟨k0, p0, b0, d0⟩, fun w hw => ?_⟩, fun k q hq => ?_⟩
  · refine nestW_moved (A := args) (State.WarmedH.refl s) hw ?_
    simp only [nestW, List.mem_cons, List.not_mem_nil, or_false] at hw
    rcases hw with rfl | rfl | rfl | rfl | rfl | rfl | rfl | rfl | rfl | rfl
    · exact h _ (List.mem_append_right _ (tb1 (List.mem_of_getElem? (i := 35) rfl)))
    · exact h _ (List.mem_append_right _ (tb1 (List.mem_of_getElem? (i := 131) rfl)))
    · exact h _ (List.mem_append_right _ (tb1 (List.mem_of_getElem? (i := 137) rfl)))
    · exact h _ (List.mem_append_right _ (tb1 (List.mem_of_getElem? (i := 186) rfl)))
    · exact h _ (List.mem_append_right _ (tb1 (List.mem_of_getElem? (i := 209) rfl)))
    · exact o5
    · exact sel_asb rfl qi_J5_ensureCapacityInternal_d00df qn_java_lang_AbstractStringBuilder qv_J5_isLatin1_aae02 hT (h _ (List.mem_append_right _ tp_J5_ensureCapacityInternal_d00df))
    · exact sel_asb rfl qi_J5_newCapacity_0f7a4 qn_java_lang_AbstractStringBuilder qv_J5_isLatin1_aae02 hT (h _ (List.mem_append_right _ tp_J5_newCapacity_0f7a4))
    · exact sel_asb rfl qi_J5_putStringAt_47b60 qn_java_lang_AbstractStringBuilder qv_J5_isLatin1_aae02 hT (h _ (List.mem_append_right _ tp_J5_putStringAt_47b60))
    · exact sel_asb rfl qi_J5_inflateIfNeededFor_a7421 qn_java_lang_AbstractStringBuilder qv_J5_isLatin1_aae02 hT (h _ (List.mem_append_right _ tp_J5_inflateIfNeededFor_a7421))
  · match k, hq with
    | 0, hq => cases hq; exact ⟨ArrOf_k b0 d0, a0⟩
    | 1, hq => cases hq; exact ⟨ArrOf_k b1 d1, a1⟩
    | 2, hq => cases hq; exact ⟨ArrOf_k b2 d2, a2⟩
    | 3, hq => cases hq; exact ⟨ArrOf_k b0 d0, a0⟩
    | 4, hq => cases hq; exact ⟨ArrOf_k b4 d4, a4⟩
    | 5, hq => cases hq; exact ⟨ArrOf_k b5 d5, k5, p5, b5, d5, e5, a5⟩
    | k + 6, hq => simp [mtys] at hq
def tmK (i : Nat) : Term := Term.string "TwinBoot$Text" ([88, 106, 111, 119, 123, 127].getD i 0)
set_option maxRecDepth 20000 in
set_option maxHeartbeats 4000000 in
theorem str_of {args : Array Value} {s : State} (hg : ∀ c ∈ flatC narrow_1, c.before args s = true) : ∃ adK adV : Nat → Nat, vk_S 6 bLen bByt adK adV (fun q => s.heap.size ≤ q) s s.heap ∧ ∀ i : Nat, i < 6 → (tmK i).eval args s none [] s = some (.ref (adK i)) := by
  refine vk_Sof (tm := tmK) (fun i hi => ?_) (fun i hi => ?_) (fun i hi => ?_) (fun i hi => ?_) (fun i hi => ?_) (fun i hi j hj => ?_) (fun i j hi hj hij => ?_) (fun a ha q => absurd ha (Nat.not_lt.mpr q))
  · rcases (by omega : i = 0 ∨ i = 1 ∨ i = 2 ∨ i = 3 ∨ i = 4 ∨ i = 5) with rfl | rfl | rfl | rfl | rfl | rfl <;> decide
  · rcases (by omega : i = 0 ∨ i = 1 ∨ i = 2 ∨ i = 3 ∨ i = 4 ∨ i = 5) with rfl | rfl | rfl | rfl | rfl | rfl
    · exact (hg _ (List.mem_of_getElem? (i := 243) (by decide +kernel)))
    · exact (hg _ (List.mem_of_getElem? (i := 253) (by decide +kernel)))
    · exact (hg _ (List.mem_of_getElem? (i := 264) (by decide +kernel)))
    · exact (hg _ (List.mem_of_getElem? (i := 276) (by decide +kernel)))
    · exact (hg _ (List.mem_of_getElem? (i := 288) (by decide +kernel)))
    · exact (hg _ (List.mem_of_getElem? (i := 302) (by decide +kernel)))
  · rcases (by omega : i = 0 ∨ i = 1 ∨ i = 2 ∨ i = 3 ∨ i = 4 ∨ i = 5) with rfl | rfl | rfl | rfl | rfl | rfl
    · exact (hg _ (List.mem_of_getElem? (i := 244) (by decide +kernel)))
    · exact (hg _ (List.mem_of_getElem? (i := 254) (by decide +kernel)))
    · exact (hg _ (List.mem_of_getElem? (i := 265) (by decide +kernel)))
    · exact (hg _ (List.mem_of_getElem? (i := 277) (by decide +kernel)))
    · exact (hg _ (List.mem_of_getElem? (i := 289) (by decide +kernel)))
    · exact (hg _ (List.mem_of_getElem? (i := 303) (by decide +kernel)))
  · rcases (by omega : i = 0 ∨ i = 1 ∨ i = 2 ∨ i = 3 ∨ i = 4 ∨ i = 5) with rfl | rfl | rfl | rfl | rfl | rfl
    · exact (hg _ (List.mem_of_getElem? (i := 245) (by decide +kernel)))
    · exact (hg _ (List.mem_of_getElem? (i := 255) (by decide +kernel)))
    · exact (hg _ (List.mem_of_getElem? (i := 266) (by decide +kernel)))
    · exact (hg _ (List.mem_of_getElem? (i := 278) (by decide +kernel)))
    · exact (hg _ (List.mem_of_getElem? (i := 290) (by decide +kernel)))
    · exact (hg _ (List.mem_of_getElem? (i := 304) (by decide +kernel)))
  · rcases (by omega : i = 0 ∨ i = 1 ∨ i = 2 ∨ i = 3 ∨ i = 4 ∨ i = 5) with rfl | rfl | rfl | rfl | rfl | rfl
    · exact (hg _ (List.mem_of_getElem? (i := 246) (by decide +kernel)))
    · exact (hg _ (List.mem_of_getElem? (i := 256) (by decide +kernel)))
    · exact (hg _ (List.mem_of_getElem? (i := 267) (by decide +kernel)))
    · exact (hg _ (List.mem_of_getElem? (i := 279) (by decide +kernel)))
    · exact (hg _ (List.mem_of_getElem? (i := 291) (by decide +kernel)))
    · exact (hg _ (List.mem_of_getElem? (i := 305) (by decide +kernel)))
  · rcases (by omega : i = 0 ∨ i = 1 ∨ i = 2 ∨ i = 3 ∨ i = 4 ∨ i = 5) with rfl | rfl | rfl | rfl | rfl | rfl
    · have hj : j < 5 := hj
      rcases (by omega : j = 0 ∨ j = 1 ∨ j = 2 ∨ j = 3 ∨ j = 4) with rfl | rfl | rfl | rfl | rfl
      · exact (hg _ (List.mem_of_getElem? (i := 247) (by decide +kernel)))
      · exact (hg _ (List.mem_of_getElem? (i := 248) (by decide +kernel)))
      · exact (hg _ (List.mem_of_getElem? (i := 249) (by decide +kernel)))
      · exact (hg _ (List.mem_of_getElem? (i := 250) (by decide +kernel)))
      · exact (hg _ (List.mem_of_getElem? (i := 251) (by decide +kernel)))
    · have hj : j < 5 := hj
      rcases (by omega : j = 0 ∨ j = 1 ∨ j = 2 ∨ j = 3 ∨ j = 4) with rfl | rfl | rfl | rfl | rfl
      · exact (hg _ (List.mem_of_getElem? (i := 257) (by decide +kernel)))
      · exact (hg _ (List.mem_of_getElem? (i := 258) (by decide +kernel)))
      · exact (hg _ (List.mem_of_getElem? (i := 259) (by decide +kernel)))
      · exact (hg _ (List.mem_of_getElem? (i := 260) (by decide +kernel)))
      · exact (hg _ (List.mem_of_getElem? (i := 261) (by decide +kernel)))
    · have hj : j < 5 := hj
      rcases (by omega : j = 0 ∨ j = 1 ∨ j = 2 ∨ j = 3 ∨ j = 4) with rfl | rfl | rfl | rfl | rfl
      · exact (hg _ (List.mem_of_getElem? (i := 268) (by decide +kernel)))
      · exact (hg _ (List.mem_of_getElem? (i := 269) (by decide +kernel)))
      · exact (hg _ (List.mem_of_getElem? (i := 270) (by decide +kernel)))
      · exact (hg _ (List.mem_of_getElem? (i := 271) (by decide +kernel)))
      · exact (hg _ (List.mem_of_getElem? (i := 272) (by decide +kernel)))
    · have hj : j < 4 := hj
      rcases (by omega : j = 0 ∨ j = 1 ∨ j = 2 ∨ j = 3) with rfl | rfl | rfl | rfl
      · exact (hg _ (List.mem_of_getElem? (i := 280) (by decide +kernel)))
      · exact (hg _ (List.mem_of_getElem? (i := 281) (by decide +kernel)))
      · exact (hg _ (List.mem_of_getElem? (i := 282) (by decide +kernel)))
      · exact (hg _ (List.mem_of_getElem? (i := 283) (by decide +kernel)))
    · have hj : j < 5 := hj
      rcases (by omega : j = 0 ∨ j = 1 ∨ j = 2 ∨ j = 3 ∨ j = 4) with rfl | rfl | rfl | rfl | rfl
      · exact (hg _ (List.mem_of_getElem? (i := 292) (by decide +kernel)))
      · exact (hg _ (List.mem_of_getElem? (i := 293) (by decide +kernel)))
      · exact (hg _ (List.mem_of_getElem? (i := 294) (by decide +kernel)))
      · exact (hg _ (List.mem_of_getElem? (i := 295) (by decide +kernel)))
      · exact (hg _ (List.mem_of_getElem? (i := 296) (by decide +kernel)))
    · have hj : j < 4 := hj
      rcases (by omega : j = 0 ∨ j = 1 ∨ j = 2 ∨ j = 3) with rfl | rfl | rfl | rfl
      · exact (hg _ (List.mem_of_getElem? (i := 306) (by decide +kernel)))
      · exact (hg _ (List.mem_of_getElem? (i := 307) (by decide +kernel)))
      · exact (hg _ (List.mem_of_getElem? (i := 308) (by decide +kernel)))
      · exact (hg _ (List.mem_of_getElem? (i := 309) (by decide +kernel)))
  · rcases (by omega : i = 0 ∨ i = 1 ∨ i = 2 ∨ i = 3 ∨ i = 4 ∨ i = 5) with rfl | rfl | rfl | rfl | rfl | rfl
    · rcases (by omega : j = 0 ∨ j = 1 ∨ j = 2 ∨ j = 3 ∨ j = 4 ∨ j = 5) with rfl | rfl | rfl | rfl | rfl | rfl
      · exact absurd rfl hij
      · exact Or.inl (hg _ (List.mem_of_getElem? (i := 263) (by decide +kernel)))
      · exact Or.inl (hg _ (List.mem_of_getElem? (i := 274) (by decide +kernel)))
      · exact Or.inl (hg _ (List.mem_of_getElem? (i := 285) (by decide +kernel)))
      · exact Or.inl (hg _ (List.mem_of_getElem? (i := 298) (by decide +kernel)))
      · exact Or.inl (hg _ (List.mem_of_getElem? (i := 311) (by decide +kernel)))
    · rcases (by omega : j = 0 ∨ j = 1 ∨ j = 2 ∨ j = 3 ∨ j = 4 ∨ j = 5) with rfl | rfl | rfl | rfl | rfl | rfl
      · exact Or.inr (hg _ (List.mem_of_getElem? (i := 263) (by decide +kernel)))
      · exact absurd rfl hij
      · exact Or.inl (hg _ (List.mem_of_getElem? (i := 275) (by decide +kernel)))
      · exact Or.inl (hg _ (List.mem_of_getElem? (i := 286) (by decide +kernel)))
      · exact Or.inl (hg _ (List.mem_of_getElem? (i := 299) (by decide +kernel)))
      · exact Or.inl (hg _ (List.mem_of_getElem? (i := 312) (by decide +kernel)))
    · rcases (by omega : j = 0 ∨ j = 1 ∨ j = 2 ∨ j = 3 ∨ j = 4 ∨ j = 5) with rfl | rfl | rfl | rfl | rfl | rfl
      · exact Or.inr (hg _ (List.mem_of_getElem? (i := 274) (by decide +kernel)))
      · exact Or.inr (hg _ (List.mem_of_getElem? (i := 275) (by decide +kernel)))
      · exact absurd rfl hij
      · exact Or.inl (hg _ (List.mem_of_getElem? (i := 287) (by decide +kernel)))
      · exact Or.inl (hg _ (List.mem_of_getElem? (i := 300) (by decide +kernel)))
      · exact Or.inl (hg _ (List.mem_of_getElem? (i := 313) (by decide +kernel)))
    · rcases (by omega : j = 0 ∨ j = 1 ∨ j = 2 ∨ j = 3 ∨ j = 4 ∨ j = 5) with rfl | rfl | rfl | rfl | rfl | rfl
      · exact Or.inr (hg _ (List.mem_of_getElem? (i := 285) (by decide +kernel)))
      · exact Or.inr (hg _ (List.mem_of_getElem? (i := 286) (by decide +kernel)))
      · exact Or.inr (hg _ (List.mem_of_getElem? (i := 287) (by decide +kernel)))
      · exact absurd rfl hij
      · exact Or.inl (hg _ (List.mem_of_getElem? (i := 301) (by decide +kernel)))
      · exact Or.inl (hg _ (List.mem_of_getElem? (i := 314) (by decide +kernel)))
    · rcases (by omega : j = 0 ∨ j = 1 ∨ j = 2 ∨ j = 3 ∨ j = 4 ∨ j = 5) with rfl | rfl | rfl | rfl | rfl | rfl
      · exact Or.inr (hg _ (List.mem_of_getElem? (i := 298) (by decide +kernel)))
      · exact Or.inr (hg _ (List.mem_of_getElem? (i := 299) (by decide +kernel)))
      · exact Or.inr (hg _ (List.mem_of_getElem? (i := 300) (by decide +kernel)))
      · exact Or.inr (hg _ (List.mem_of_getElem? (i := 301) (by decide +kernel)))
      · exact absurd rfl hij
      · exact Or.inl (hg _ (List.mem_of_getElem? (i := 315) (by decide +kernel)))
    · rcases (by omega : j = 0 ∨ j = 1 ∨ j = 2 ∨ j = 3 ∨ j = 4 ∨ j = 5) with rfl | rfl | rfl | rfl | rfl | rfl
      · exact Or.inr (hg _ (List.mem_of_getElem? (i := 311) (by decide +kernel)))
      · exact Or.inr (hg _ (List.mem_of_getElem? (i := 312) (by decide +kernel)))
      · exact Or.inr (hg _ (List.mem_of_getElem? (i := 313) (by decide +kernel)))
      · exact Or.inr (hg _ (List.mem_of_getElem? (i := 314) (by decide +kernel)))
      · exact Or.inr (hg _ (List.mem_of_getElem? (i := 315) (by decide +kernel)))
      · exact absurd rfl hij
def tmL (i : Nat) : Term := Term.string "TwinBootLaw" ([211, 219, 221, 223].getD i 0)
set_option maxRecDepth 20000 in
set_option maxHeartbeats 4000000 in
theorem str_of2 {args : Array Value} {s : State} (hg : ∀ c ∈ flatC narrow_1, c.before args s = true) : ∃ adK adV : Nat → Nat, vk_S 4 cLen cByt adK adV (fun q => s.heap.size ≤ q) s s.heap ∧ ∀ i : Nat, i < 4 → (tmL i).eval args s none [] s = some (.ref (adK i)) := by
  refine vk_Sof (tm := tmL) (fun i hi => ?_) (fun i hi => ?_) (fun i hi => ?_) (fun i hi => ?_) (fun i hi => ?_) (fun i hi j hj => ?_) (fun i j hi hj hij => ?_) (fun a ha q => absurd ha (Nat.not_lt.mpr q))
  · rcases (by omega : i = 0 ∨ i = 1 ∨ i = 2 ∨ i = 3) with rfl | rfl | rfl | rfl <;> decide
  · rcases (by omega : i = 0 ∨ i = 1 ∨ i = 2 ∨ i = 3) with rfl | rfl | rfl | rfl
    · exact (hg _ (List.mem_of_getElem? (i := 349) (by decide +kernel)))
    · exact (hg _ (List.mem_of_getElem? (i := 381) (by decide +kernel)))
    · exact (hg _ (List.mem_of_getElem? (i := 403) (by decide +kernel)))
    · exact (hg _ (List.mem_of_getElem? (i := 420) (by decide +kernel)))
  · rcases (by omega : i = 0 ∨ i = 1 ∨ i = 2 ∨ i = 3) with rfl | rfl | rfl | rfl
    · exact (hg _ (List.mem_of_getElem? (i := 350) (by decide +kernel)))
    · exact (hg _ (List.mem_of_getElem? (i := 382) (by decide +kernel)))
    · exact (hg _ (List.mem_of_getElem? (i := 404) (by decide +kernel)))
    · exact (hg _ (List.mem_of_getElem? (i := 421) (by decide +kernel)))
  · rcases (by omega : i = 0 ∨ i = 1 ∨ i = 2 ∨ i = 3) with rfl | rfl | rfl | rfl
    · exact (hg _ (List.mem_of_getElem? (i := 351) (by decide +kernel)))
    · exact (hg _ (List.mem_of_getElem? (i := 383) (by decide +kernel)))
    · exact (hg _ (List.mem_of_getElem? (i := 405) (by decide +kernel)))
    · exact (hg _ (List.mem_of_getElem? (i := 422) (by decide +kernel)))
  · rcases (by omega : i = 0 ∨ i = 1 ∨ i = 2 ∨ i = 3) with rfl | rfl | rfl | rfl
    · exact (hg _ (List.mem_of_getElem? (i := 352) (by decide +kernel)))
    · exact (hg _ (List.mem_of_getElem? (i := 384) (by decide +kernel)))
    · exact (hg _ (List.mem_of_getElem? (i := 406) (by decide +kernel)))
    · exact (hg _ (List.mem_of_getElem? (i := 423) (by decide +kernel)))
  · rcases (by omega : i = 0 ∨ i = 1 ∨ i = 2 ∨ i = 3) with rfl | rfl | rfl | rfl
    · have hj : j < 20 := hj
      rcases (by omega : j = 0 ∨ j = 1 ∨ j = 2 ∨ j = 3 ∨ j = 4 ∨ j = 5 ∨ j = 6 ∨ j = 7 ∨ j = 8 ∨ j = 9 ∨ j = 10 ∨ j = 11 ∨ j = 12 ∨ j = 13 ∨ j = 14 ∨ j = 15 ∨ j = 16 ∨ j = 17 ∨ j = 18 ∨ j = 19) with rfl | rfl | rfl | rfl | rfl | rfl | rfl | rfl | rfl | rfl | rfl | rfl | rfl | rfl | rfl | rfl | rfl | rfl | rfl | rfl
      · exact (hg _ (List.mem_of_getElem? (i := 353) (by decide +kernel)))
      · exact (hg _ (List.mem_of_getElem? (i := 354) (by decide +kernel)))
      · exact (hg _ (List.mem_of_getElem? (i := 355) (by decide +kernel)))
      · exact (hg _ (List.mem_of_getElem? (i := 356) (by decide +kernel)))
      · exact (hg _ (List.mem_of_getElem? (i := 357) (by decide +kernel)))
      · exact (hg _ (List.mem_of_getElem? (i := 358) (by decide +kernel)))
      · exact (hg _ (List.mem_of_getElem? (i := 359) (by decide +kernel)))
      · exact (hg _ (List.mem_of_getElem? (i := 360) (by decide +kernel)))
      · exact (hg _ (List.mem_of_getElem? (i := 361) (by decide +kernel)))
      · exact (hg _ (List.mem_of_getElem? (i := 362) (by decide +kernel)))
      · exact (hg _ (List.mem_of_getElem? (i := 363) (by decide +kernel)))
      · exact (hg _ (List.mem_of_getElem? (i := 364) (by decide +kernel)))
      · exact (hg _ (List.mem_of_getElem? (i := 365) (by decide +kernel)))
      · exact (hg _ (List.mem_of_getElem? (i := 366) (by decide +kernel)))
      · exact (hg _ (List.mem_of_getElem? (i := 367) (by decide +kernel)))
      · exact (hg _ (List.mem_of_getElem? (i := 368) (by decide +kernel)))
      · exact (hg _ (List.mem_of_getElem? (i := 369) (by decide +kernel)))
      · exact (hg _ (List.mem_of_getElem? (i := 370) (by decide +kernel)))
      · exact (hg _ (List.mem_of_getElem? (i := 371) (by decide +kernel)))
      · exact (hg _ (List.mem_of_getElem? (i := 372) (by decide +kernel)))
    · have hj : j < 9 := hj
      rcases (by omega : j = 0 ∨ j = 1 ∨ j = 2 ∨ j = 3 ∨ j = 4 ∨ j = 5 ∨ j = 6 ∨ j = 7 ∨ j = 8) with rfl | rfl | rfl | rfl | rfl | rfl | rfl | rfl | rfl
      · exact (hg _ (List.mem_of_getElem? (i := 385) (by decide +kernel)))
      · exact (hg _ (List.mem_of_getElem? (i := 386) (by decide +kernel)))
      · exact (hg _ (List.mem_of_getElem? (i := 387) (by decide +kernel)))
      · exact (hg _ (List.mem_of_getElem? (i := 388) (by decide +kernel)))
      · exact (hg _ (List.mem_of_getElem? (i := 389) (by decide +kernel)))
      · exact (hg _ (List.mem_of_getElem? (i := 390) (by decide +kernel)))
      · exact (hg _ (List.mem_of_getElem? (i := 391) (by decide +kernel)))
      · exact (hg _ (List.mem_of_getElem? (i := 392) (by decide +kernel)))
      · exact (hg _ (List.mem_of_getElem? (i := 393) (by decide +kernel)))
    · have hj : j < 3 := hj
      rcases (by omega : j = 0 ∨ j = 1 ∨ j = 2) with rfl | rfl | rfl
      · exact (hg _ (List.mem_of_getElem? (i := 407) (by decide +kernel)))
      · exact (hg _ (List.mem_of_getElem? (i := 408) (by decide +kernel)))
      · exact (hg _ (List.mem_of_getElem? (i := 409) (by decide +kernel)))
    · have hj : j < 13 := hj
      rcases (by omega : j = 0 ∨ j = 1 ∨ j = 2 ∨ j = 3 ∨ j = 4 ∨ j = 5 ∨ j = 6 ∨ j = 7 ∨ j = 8 ∨ j = 9 ∨ j = 10 ∨ j = 11 ∨ j = 12) with rfl | rfl | rfl | rfl | rfl | rfl | rfl | rfl | rfl | rfl | rfl | rfl | rfl
      · exact (hg _ (List.mem_of_getElem? (i := 424) (by decide +kernel)))
      · exact (hg _ (List.mem_of_getElem? (i := 425) (by decide +kernel)))
      · exact (hg _ (List.mem_of_getElem? (i := 426) (by decide +kernel)))
      · exact (hg _ (List.mem_of_getElem? (i := 427) (by decide +kernel)))
      · exact (hg _ (List.mem_of_getElem? (i := 428) (by decide +kernel)))
      · exact (hg _ (List.mem_of_getElem? (i := 429) (by decide +kernel)))
      · exact (hg _ (List.mem_of_getElem? (i := 430) (by decide +kernel)))
      · exact (hg _ (List.mem_of_getElem? (i := 431) (by decide +kernel)))
      · exact (hg _ (List.mem_of_getElem? (i := 432) (by decide +kernel)))
      · exact (hg _ (List.mem_of_getElem? (i := 433) (by decide +kernel)))
      · exact (hg _ (List.mem_of_getElem? (i := 434) (by decide +kernel)))
      · exact (hg _ (List.mem_of_getElem? (i := 435) (by decide +kernel)))
      · exact (hg _ (List.mem_of_getElem? (i := 436) (by decide +kernel)))
  · rcases (by omega : i = 0 ∨ i = 1 ∨ i = 2 ∨ i = 3) with rfl | rfl | rfl | rfl
    · rcases (by omega : j = 0 ∨ j = 1 ∨ j = 2 ∨ j = 3) with rfl | rfl | rfl | rfl
      · exact absurd rfl hij
      · exact Or.inl (hg _ (List.mem_of_getElem? (i := 402) (by decide +kernel)))
      · exact Or.inl (hg _ (List.mem_of_getElem? (i := 418) (by decide +kernel)))
      · exact Or.inl (hg _ (List.mem_of_getElem? (i := 445) (by decide +kernel)))
    · rcases (by omega : j = 0 ∨ j = 1 ∨ j = 2 ∨ j = 3) with rfl | rfl | rfl | rfl
      · exact Or.inr (hg _ (List.mem_of_getElem? (i := 402) (by decide +kernel)))
      · exact absurd rfl hij
      · exact Or.inl (hg _ (List.mem_of_getElem? (i := 419) (by decide +kernel)))
      · exact Or.inl (hg _ (List.mem_of_getElem? (i := 446) (by decide +kernel)))
    · rcases (by omega : j = 0 ∨ j = 1 ∨ j = 2 ∨ j = 3) with rfl | rfl | rfl | rfl
      · exact Or.inr (hg _ (List.mem_of_getElem? (i := 418) (by decide +kernel)))
      · exact Or.inr (hg _ (List.mem_of_getElem? (i := 419) (by decide +kernel)))
      · exact absurd rfl hij
      · exact Or.inl (hg _ (List.mem_of_getElem? (i := 447) (by decide +kernel)))
    · rcases (by omega : j = 0 ∨ j = 1 ∨ j = 2 ∨ j = 3) with rfl | rfl | rfl | rfl
      · exact Or.inr (hg _ (List.mem_of_getElem? (i := 445) (by decide +kernel)))
      · exact Or.inr (hg _ (List.mem_of_getElem? (i := 446) (by decide +kernel)))
      · exact Or.inr (hg _ (List.mem_of_getElem? (i := 447) (by decide +kernel)))
      · exact absurd rfl hij
theorem dig_1 : ∀ j : Nat, j < 100 → (flatC narrow_1)[12 + j]? = some (Cond.eq (.elem (.static "java/lang/Integer" "DigitOnes" "[B") (.int (Int32.ofNat j))) (.int (nI (48 + j % 10)))) := by decide +kernel
theorem dig_10 : ∀ j : Nat, j < 100 → (flatC narrow_1)[115 + j]? = some (Cond.eq (.elem (.static "java/lang/Integer" "DigitTens" "[B") (.int (Int32.ofNat j))) (.int (nI (48 + j / 10)))) := by decide +kernel
def adE (b t d1 d10 a6 a7 : Nat) (K V K2 V2 : Nat → Nat) : Nat → Nat := fun k =>
  if k = 1300 then b else if k = 1200 then t else if k = 1201 then d1 else if k = 1202 then d10 else if k = 1006 then a6 else if k = 1007 then a7
  else if 1110 ≤ k then V2 (k - 1110) else if 1100 ≤ k then V (k - 1100) else if 1010 ≤ k then K2 (k - 1010) else K (k - 1000)
section ADE
variable {b t d1 d10 a6 a7 : Nat} {K V K2 V2 : Nat → Nat}
theorem adE_K {i : Nat} (h : i < 6) : adE b t d1 d10 a6 a7 K V K2 V2 (1000 + i) = K i := by
  unfold adE
  rw [if_neg (by omega), if_neg (by omega), if_neg (by omega), if_neg (by omega), if_neg (by omega), if_neg (by omega), if_neg (by omega), if_neg (by omega), if_neg (by omega), Nat.add_sub_cancel_left]
theorem adE_V {i : Nat} (h : i < 6) : adE b t d1 d10 a6 a7 K V K2 V2 (1100 + i) = V i := by
  unfold adE
  rw [if_neg (by omega), if_neg (by omega), if_neg (by omega), if_neg (by omega), if_neg (by omega), if_neg (by omega), if_neg (by omega), if_pos (by omega), Nat.add_sub_cancel_left]
theorem adE_K2 {i : Nat} (h : i < 4) : adE b t d1 d10 a6 a7 K V K2 V2 (1010 + i) = K2 i := by
  unfold adE
  rw [if_neg (by omega), if_neg (by omega), if_neg (by omega), if_neg (by omega), if_neg (by omega), if_neg (by omega), if_neg (by omega), if_neg (by omega), if_pos (by omega), Nat.add_sub_cancel_left]
theorem adE_V2 {i : Nat} (h : i < 4) : adE b t d1 d10 a6 a7 K V K2 V2 (1110 + i) = V2 i := by
  unfold adE
  rw [if_neg (by omega), if_neg (by omega), if_neg (by omega), if_neg (by omega), if_neg (by omega), if_neg (by omega), if_pos (by omega), Nat.add_sub_cancel_left]
end ADE
set_option maxRecDepth 20000 in
set_option maxHeartbeats 4000000 in
theorem bg_of {args : Array Value} {s : State} {b L : Nat} {xs : Nat → Int32} (h : ∀ w ∈ lw_tbl, w.before args s = true) (hg : ∀ c ∈ flatC narrow_1, c.before args s = true) (hL : L ≤ 260) (hX : va_X b L xs s s.heap) (hbl : b < s.heap.size) : ∃ ad : Nat → Nat, ad 1300 = b ∧ BG ad (fun q => s.heap.size ≤ q) s s.heap := by
  have hT := TT_all h
  have hA : ∀ a : Nat, a < s.heap.size → ¬ s.heap.size ≤ a := fun a ha q => absurd ha (Nat.not_lt.mpr q)
  obtain ⟨adK, adV, hS, hK⟩ := str_of hg
  obtain ⟨adK2, adV2, hS2, hK2⟩ := str_of2 hg
  obtain ⟨a6, -, -, -, e6, -⟩ := Cond.exactly_spec (hg (Cond.exactly (Term.string "TwinBoot" 266) "java/lang/String") (List.mem_of_getElem? (i := 215) (by decide +kernel)))
  obtain ⟨a7, -, -, -, e7, -⟩ := Cond.exactly_spec (hg (Cond.exactly (Term.string "TwinBoot" 273) "java/lang/String") (List.mem_of_getElem? (i := 316) (by decide +kernel)))
  obtain ⟨d1, t1, hd1⟩ := va_Tof (tm := .static "java/lang/Integer" "DigitOnes" "[B") (ty := .byte) (N := 100) (f := fun j => .int (nI (48 + j % 10))) (A := fun q => s.heap.size ≤ q) (by decide) (hg _ (List.mem_of_getElem? (i := 10) (by decide +kernel))) (va_eqt (hg _ (List.mem_of_getElem? (i := 11) (by decide +kernel)))) (fun j hj => va_eqt (hg _ (List.mem_of_getElem? (dig_1 j hj)))) hA
  obtain ⟨d10, t10, hd10⟩ := va_Tof (tm := .static "java/lang/Integer" "DigitTens" "[B") (ty := .byte) (N := 100) (f := fun j => .int (nI (48 + j / 10))) (A := fun q => s.heap.size ≤ q) (by decide) (hg _ (List.mem_of_getElem? (i := 113) (by decide +kernel))) (va_eqt (hg _ (List.mem_of_getElem? (i := 114) (by decide +kernel)))) (fun j hj => va_eqt (hg _ (List.mem_of_getElem? (dig_10 j hj)))) hA
  have z1 : va_Z bSC bSN bSD .null (fun q => s.heap.size ≤ q) s s.heap ∨ ∃ t : Nat, va_Z bSC bSN bSD (.ref t) (fun q => s.heap.size ≤ q) s s.heap := va_Zqof (h _ (List.mem_append_right _ (tb2 (List.mem_of_getElem? (i := 211) rfl)))) (hT _ qn_jdk_internal_util_Preconditions) (hg _ (List.mem_of_getElem? (i := 5) (by decide +kernel))) hA
  have z2 : ∃ t : Nat, va_Z bSC bSN bSD .null (fun q => s.heap.size ≤ q) s s.heap ∨ va_Z bSC bSN bSD (.ref t) (fun q => s.heap.size ≤ q) s s.heap := by
    rcases z1 with z | ⟨t, z⟩
    · exact ⟨0, Or.inl z⟩
    · exact ⟨t, Or.inr z⟩
  obtain ⟨t, z2⟩ := z2
  refine ⟨adE b t d1 d10 a6 a7 adK adV adK2 adV2, rfl, ?_⟩
  refine ⟨vx_Zqof (h _ (List.mem_append_right _ (tb2 (List.mem_of_getElem? (i := 133) rfl)))) (hT _ qn_java_lang_Throwable) (hg _ (List.mem_of_getElem? (i := 2) (by decide +kernel))) hA, vx_Zqof (h _ (List.mem_append_right _ (tb2 (List.mem_of_getElem? (i := 135) rfl)))) (hT _ qn_java_lang_Throwable) (hg _ (List.mem_of_getElem? (i := 3) (by decide +kernel))) hA, va_Zof (h _ (List.mem_append_right _ (tb2 (List.mem_of_getElem? (i := 195) rfl)))) (hT _ qn_java_lang_String) (va_eqt (hg _ (List.mem_of_getElem? (i := 4) (by decide +kernel)))) hA, z2, ⟨fun i hi => ?_, fun i j hi hj e => ?_⟩, fun q hq => ?_, fun w hw => ?_, trivial, ⟨fun i hi => ?_, fun i j hi hj e => ?_⟩, va_Zof (h _ (List.mem_append_right _ (tb5 (List.mem_of_getElem? (i := 203) rfl)))) (hT _ qn_java_lang_Integer) t1 hA, hd1, va_Zof (h _ (List.mem_append_right _ (tb5 (List.mem_of_getElem? (i := 205) rfl)))) (hT _ qn_java_lang_Integer) t10 hA, hd10, L, xs, hL, ?_⟩
  · have q := hS.1 i hi
    rw [← adE_K (b := b) (t := t) (d1 := d1) (d10 := d10) (a6 := a6) (a7 := a7) (K := adK) (V := adV) (K2 := adK2) (V2 := adV2) hi, ← adE_V (b := b) (t := t) (d1 := d1) (d10 := d10) (a6 := a6) (a7 := a7) (K := adK) (V := adV) (K2 := adK2) (V2 := adV2) hi] at q
    exact q
  · exact hS.2 i j hi hj ((adE_K hi).symm.trans (Eq.trans e (adE_K hj)))
  · simp only [bStr, List.mem_cons, List.not_mem_nil, or_false] at hq
    rcases hq with rfl | rfl | rfl | rfl | rfl | rfl | rfl | rfl | rfl | rfl | rfl | rfl
    · exact vk_R.of (h _ (List.mem_append_right _ (tb3 (List.mem_of_getElem? (i := 24) rfl)))) ((hK 0 (by decide)).trans (congrArg (fun q => some (Value.ref q)) (adE_K (by decide)).symm))
    · exact vk_R.of (h _ (List.mem_append_right _ (tb3 (List.mem_of_getElem? (i := 59) rfl)))) ((hK 1 (by decide)).trans (congrArg (fun q => some (Value.ref q)) (adE_K (by decide)).symm))
    · exact vk_R.of (h _ (List.mem_append_right _ (tb3 (List.mem_of_getElem? (i := 72) rfl)))) ((hK 2 (by decide)).trans (congrArg (fun q => some (Value.ref q)) (adE_K (by decide)).symm))
    · exact vk_R.of (h _ (List.mem_append_right _ (tb3 (List.mem_of_getElem? (i := 77) rfl)))) ((hK 3 (by decide)).trans (congrArg (fun q => some (Value.ref q)) (adE_K (by decide)).symm))
    · exact vk_R.of (h _ (List.mem_append_right _ (tb3 (List.mem_of_getElem? (i := 78) rfl)))) ((hK 4 (by decide)).trans (congrArg (fun q => some (Value.ref q)) (adE_K (by decide)).symm))
    · exact vk_R.of (h _ (List.mem_append_right _ (tb3 (List.mem_of_getElem? (i := 79) rfl)))) ((hK 5 (by decide)).trans (congrArg (fun q => some (Value.ref q)) (adE_K (by decide)).symm))
    · exact vk_R.of (h _ (List.mem_append_right _ (tb2 (List.mem_of_getElem? (i := 146) rfl)))) e6
    · exact vk_R.of (h _ (List.mem_append_right _ (tb4 (List.mem_of_getElem? (i := 57) rfl)))) e7
    · exact vk_R.of (h _ (List.mem_append_right _ (tb6 (List.mem_of_getElem? (i := 31) rfl)))) ((hK2 0 (by decide)).trans (congrArg (fun q => some (Value.ref q)) (adE_K2 (by decide)).symm))
    · exact vk_R.of (h _ (List.mem_append_right _ (tb6 (List.mem_of_getElem? (i := 32) rfl)))) ((hK2 1 (by decide)).trans (congrArg (fun q => some (Value.ref q)) (adE_K2 (by decide)).symm))
    · exact vk_R.of (h _ (List.mem_append_right _ (tb6 (List.mem_of_getElem? (i := 33) rfl)))) ((hK2 2 (by decide)).trans (congrArg (fun q => some (Value.ref q)) (adE_K2 (by decide)).symm))
    · exact vk_R.of (h _ (List.mem_append_right _ (tb6 (List.mem_of_getElem? (i := 34) rfl)))) ((hK2 3 (by decide)).trans (congrArg (fun q => some (Value.ref q)) (adE_K2 (by decide)).symm))
  · refine exW_moved (A := args) (Vm.Alike.refl s.vm) hw ?_
    simp only [exW, List.mem_cons, List.not_mem_nil, or_false] at hw
    rcases hw with rfl | rfl | rfl | rfl | rfl
    · exact h _ (List.mem_append_right _ (tb2 (List.mem_of_getElem? (i := 110) rfl)))
    · exact h _ (List.mem_append_right _ (tb2 (List.mem_of_getElem? (i := 112) rfl)))
    · exact h _ (List.mem_append_right _ (tb2 (List.mem_of_getElem? (i := 114) rfl)))
    · exact h _ (List.mem_append_right _ (tb2 (List.mem_of_getElem? (i := 108) rfl)))
    · exact h _ (List.mem_append_right _ (tb4 (List.mem_of_getElem? (i := 50) rfl)))
  · have q := hS2.1 i hi
    rw [← adE_K2 (b := b) (t := t) (d1 := d1) (d10 := d10) (a6 := a6) (a7 := a7) (K := adK) (V := adV) (K2 := adK2) (V2 := adV2) hi, ← adE_V2 (b := b) (t := t) (d1 := d1) (d10 := d10) (a6 := a6) (a7 := a7) (K := adK) (V := adV) (K2 := adK2) (V2 := adV2) hi] at q
    exact q
  · exact hS2.2 i j hi hj ((adE_K2 hi).symm.trans (Eq.trans e (adE_K2 hj)))
  · obtain ⟨scr, h1, h2, h3, h4, h5⟩ := hX
    exact ⟨scr, h1, h2, h3, by omega, by rw [h4], h5, hA b hbl⟩

/-! THE LAW: what its entry gives -/
theorem tbOVI : Cond.arrayOver (FieldType.array FieldType.int) ∈ tables_1 := tb1 (List.mem_of_getElem? (i := 48) rfl)
theorem tbOVD : Cond.arrayOver (FieldType.object RX0) ∈ tables_1 := tb2 (List.mem_of_getElem? (i := 80) rfl)
theorem tbN0 : Cond.methodLinkNest RX6 9 yX5_init RX6 ∈ tables_1 := tb1 (List.mem_of_getElem? (i := 37) rfl)
theorem tbN1 : Cond.methodLinkNest RX6 12 yX0_init RX6 ∈ tables_1 := tb1 (List.mem_of_getElem? (i := 134) rfl)
theorem tbN2 : Cond.methodLinkNest RX0 11 yX1_init RX6 ∈ tables_1 := tb1 (List.mem_of_getElem? (i := 140) rfl)
theorem tbN3 : Cond.methodLinkNest RX0 20 yX3_init RX6 ∈ tables_1 := tb1 (List.mem_of_getElem? (i := 189) rfl)
theorem tbN4 : Cond.methodLinkNest RX0 27 yX2_init RX6 ∈ tables_1 := tb1 (List.mem_of_getElem? (i := 212) rfl)
theorem lay_J0 : ∀ w ∈ u_ws RJ0 TJ0 4, w ∈ TT := by
  intro w hw
  obtain ⟨k, hk, rfl⟩ := List.mem_map.mp hw
  have hk := List.mem_range.mp hk
  match k, hk with
  | 0, _ => exact TT_of (tb4 (List.mem_of_getElem? (i := 107) rfl)) rfl
  | 1, _ => exact TT_of (tb4 (List.mem_of_getElem? (i := 109) rfl)) rfl
  | 2, _ => exact TT_of (tb4 (List.mem_of_getElem? (i := 111) rfl)) rfl
  | 3, _ => exact TT_of (tb4 (List.mem_of_getElem? (i := 113) rfl)) rfl
theorem qin_J0 : Cond.instantiable RJ0 4 ∈ TT := TT_of (tb4 (List.mem_of_getElem? (i := 38) rfl)) rfl
theorem lay_J4 : ∀ w ∈ u_ws RJ4 TJ4 4, w ∈ TT := by
  intro w hw
  obtain ⟨k, hk, rfl⟩ := List.mem_map.mp hw
  have hk := List.mem_range.mp hk
  match k, hk with
  | 0, _ => exact TT_of (tb3 (List.mem_of_getElem? (i := 141) rfl)) rfl
  | 1, _ => exact TT_of (tb3 (List.mem_of_getElem? (i := 143) rfl)) rfl
  | 2, _ => exact TT_of (tb3 (List.mem_of_getElem? (i := 145) rfl)) rfl
  | 3, _ => exact TT_of (tb3 (List.mem_of_getElem? (i := 147) rfl)) rfl
theorem qin_J4 : Cond.instantiable RJ4 4 ∈ TT := TT_of (tb3 (List.mem_of_getElem? (i := 121) rfl)) rfl
theorem lay_Jx00060 : ∀ w ∈ u_ws RJx00060 TJx00060 6, w ∈ TT := by
  intro w hw
  obtain ⟨k, hk, rfl⟩ := List.mem_map.mp hw
  have hk := List.mem_range.mp hk
  match k, hk with
  | 0, _ => exact TT_of (tb4 (List.mem_of_getElem? (i := 122) rfl)) rfl
  | 1, _ => exact TT_of (tb4 (List.mem_of_getElem? (i := 123) rfl)) rfl
  | 2, _ => exact TT_of (tb4 (List.mem_of_getElem? (i := 124) rfl)) rfl
  | 3, _ => exact TT_of (tb4 (List.mem_of_getElem? (i := 125) rfl)) rfl
  | 4, _ => exact TT_of (tb4 (List.mem_of_getElem? (i := 126) rfl)) rfl
  | 5, _ => exact TT_of (tb4 (List.mem_of_getElem? (i := 140) rfl)) rfl
theorem qin_Jx00060 : Cond.instantiable RJx00060 6 ∈ TT := TT_of (tb4 (List.mem_of_getElem? (i := 117) rfl)) rfl
theorem TT_all {args : Array Value} {s : State} (h : ∀ w ∈ lw_tbl, w.before args s = true) : ∀ w ∈ TT, w.before args s = true := fun w hw => h w (List.mem_filter.mp hw).1
theorem cls_of {args : Array Value} {s : State} (h : ∀ w ∈ TT, w.before args s = true) : ∃ D : va_G, ∀ (c : Nat) (q : vw_C), vwCl[c]? = some q → u_Kn s q.1 q.2.1 q.2.2 (D.1 c) (D.2 c) := by
  have h0 : ∀ c : Nat, ∃ p : ClassId × (Nat → Nat), ∀ q : vw_C, vwCl[c]? = some q → u_Kn s q.1 q.2.1 q.2.2 p.1 p.2 := by
    intro c
    match c with
    | 0 =>
      obtain ⟨a, b, hk⟩ := u_known (C := RJ0) (T := TJ0) (N := 4) h lay_J0 (h _ qin_J0)
      exact ⟨(a, b), fun q hq => by cases hq; exact hk⟩
    | 1 =>
      obtain ⟨a, b, hk⟩ := u_known (C := RJ4) (T := TJ4) (N := 4) h lay_J4 (h _ qin_J4)
      exact ⟨(a, b), fun q hq => by cases hq; exact hk⟩
    | 2 =>
      obtain ⟨a, b, hk⟩ := u_known (C := RJx00060) (T := TJx00060) (N := 6) h lay_Jx00060 (h _ qin_Jx00060)
      exact ⟨(a, b), fun q hq => by cases hq; exact hk⟩
    | 3 =>
      obtain ⟨a, b, hk⟩ := u_known (C := RX0) (T := TX0) (N := 9) h lay_X0 (h _ qin_X0)
      exact ⟨(a, b), fun q hq => by cases hq; exact hk⟩
    | 4 =>
      obtain ⟨a, b, hk⟩ := u_known (C := RX1) (T := TX1) (N := 9) h lay_X1 (h _ qin_X1)
      exact ⟨(a, b), fun q hq => by cases hq; exact hk⟩
    | 5 =>
      obtain ⟨a, b, hk⟩ := u_known (C := RX2) (T := TX2) (N := 10) h lay_X2 (h _ qin_X2)
      exact ⟨(a, b), fun q hq => by cases hq; exact hk⟩
    | 6 =>
      obtain ⟨a, b, hk⟩ := u_known (C := RX3) (T := TX3) (N := 5) h lay_X3 (h _ qin_X3)
      exact ⟨(a, b), fun q hq => by cases hq; exact hk⟩
    | 7 =>
      obtain ⟨a, b, hk⟩ := u_known (C := RX4) (T := TX4) (N := 9) h lay_X4 (h _ qin_X4)
      exact ⟨(a, b), fun q hq => by cases hq; exact hk⟩
    | 8 =>
      obtain ⟨a, b, hk⟩ := u_known (C := RX5) (T := TX5) (N := 8) h lay_X5 (h _ qin_X5)
      exact ⟨(a, b), fun q hq => by cases hq; exact hk⟩
    | 9 =>
      obtain ⟨a, b, hk⟩ := u_known (C := RX6) (T := TX6) (N := 6) h lay_X6 (h _ qin_X6)
      exact ⟨(a, b), fun q hq => by cases hq; exact hk⟩
    | 10 =>
      obtain ⟨a, b, hk⟩ := u_known (C := RX7) (T := TX7) (N := 28) h lay_X7 (h _ qin_X7)
      exact ⟨(a, b), fun q hq => by cases hq; exact hk⟩
    | k + 11 => exact ⟨(0, fun _ => 0), fun q hq => by simp [vwCl] at hq⟩
  obtain ⟨f, hf⟩ := Classical.axiomOfChoice h0
  exact ⟨(fun c => (f c).1, fun c => (f c).2), fun c q hq => hf c q hq⟩
theorem over_rows {args : Array Value} {s : State} {t : FieldType} (h : (Cond.arrayOver (.array t)).before args s = true) : ∃ comp c k, s.vm.findClass (FieldType.array t).toString = some comp ∧ s.vm.classes[c]? = some k ∧ k.kind = Kind.array comp (.array t) ∧ s.vm.findClass ("[" ++ (FieldType.array t).toString) = some c := by
  have h1 : (Cond.arrayOver (.array t)).value args s none s [] = some true := eq_of_beq h
  simp only [Cond.value] at h1
  cases hc : s.vm.findClass (FieldType.array t).toString with
  | none => rw [hc] at h1; simp at h1
  | some comp =>
    rw [hc] at h1
    simp only [Option.bind_some, Option.bind_eq_some_iff, Option.map_eq_some_iff] at h1
    obtain ⟨c, hi, k, hk, hb⟩ := h1
    obtain ⟨hlt, hp, -⟩ := Array.findIdx?_eq_some_iff_getElem.mp hi
    rw [(Array.getElem?_eq_some_iff.mp hk).2] at hp
    cases hq : k.kind with
    | array c2 t2 =>
      rw [hq] at hb hp
      simp at hb hp
      exact ⟨comp, c, k, rfl, hk, by rw [hq, hp, hb.1], hb.2⟩
    | _ => rw [hq] at hb; simp at hb
theorem ArrOf_k {s : State} {c comp : ClassId} {k : Class} {ty : FieldType} (hk : s.vm.classes[c]? = some k) (hh : k.kind = .array comp ty) : ArrOfT s c ty := fun _ _ => ⟨(fun k h => by cases h), k, hk, comp, hh⟩
theorem ac_of {args : Array Value} {s : State} (h : ∀ w ∈ lw_tbl, w.before args s = true) : ∃ cA : Nat → ClassId, AC cA s ∧ ∀ (k : Nat) (q : ClassId × FieldType), (mtys cA)[k]? = some q → ArrOfT s q.1 q.2 ∧ va_RA s q.1 q.2 := by
  have hT := TT_all h
  obtain ⟨c0, k0, p0, a0, b0, d0⟩ := Cond.arrayClass_spec (hT _ qac_int)
  obtain ⟨c1, k1, p1, a1, b1, d1⟩ := Cond.arrayClass_spec (hT _ qac_byte)
  obtain ⟨c2, k2, p2, a2, b2, d2⟩ := Cond.arrayClass_spec (hT _ qac_boolean)
  obtain ⟨c3, k3, p3, a3, b3, d3⟩ := Cond.arrayClass_spec (hT _ qac_long)
  have o4 : (Cond.arrayOver (.array .int)).before args s = true := h _ (List.mem_append_right _ (tbOVI))
  have o5 : (Cond.arrayOver (.object RX0)).before args s = true := h _ (List.mem_append_right _ (tbOVD))
  obtain ⟨p4, c4, k4, e4, b4, d4, a4⟩ := over_rows o4
  obtain ⟨p5, c5, k5, e5, -, b5, d5, a5⟩ := Cond.arrayOver_spec o5
  have n0 : s.vm.findClass "[I" = some c0 := va_nm_int (s := s) a0
  have n1 : s.vm.findClass "[B" = some c1 := va_nm_byte (s := s) a1
  have n2 : s.vm.findClass "[Z" = some c2 := va_nm_boolean (s := s) a2
  have n3 : s.vm.findClass "[J" = some c3 := va_nm_long (s := s) a3
  have s4 : "[" ++ (FieldType.array .int).toString = "[[I" := by decide
  have s4' : (FieldType.array .int).toString = "[I" := by decide
  have s5 : "[" ++ (FieldType.object RX0).toString = "[LTwinBoot$Device;" := by decide
  have n4 : s.vm.findClass "[[I" = some c4 := by rw [← s4]; exact a4
  have n5 : s.vm.findClass "[LTwinBoot$Device;" = some c5 := by rw [← s5]; exact a5
  have hp : p4 = c0 := by
    rw [s4'] at e4
    exact Option.some.inj (e4.symm.trans n0)
  subst hp
  refine ⟨fun k => match k with | 0 => p4 | 1 => c1 | 2 => c2 | 3 => c3 | 4 => c4 | _ => c5, ⟨n0, n1, n2, n3, n4, n5, ⟨k4, b4, d4⟩, ⟨k0, p0, b0, d0⟩, fun w hw => ?_⟩, fun k q hq => ?_⟩
  · refine nestW_moved (A := args) (State.WarmedH.refl s) hw ?_
    simp only [nestW, List.mem_cons, List.not_mem_nil, or_false] at hw
    rcases hw with rfl | rfl | rfl | rfl | rfl | rfl
    · exact h _ (List.mem_append_right _ tbN0)
    · exact h _ (List.mem_append_right _ tbN1)
    · exact h _ (List.mem_append_right _ tbN2)
    · exact h _ (List.mem_append_right _ tbN3)
    · exact h _ (List.mem_append_right _ tbN4)
    · exact o5
  · match k, hq with
    | 0, hq => cases hq; exact ⟨ArrOf_k b0 d0, a0⟩
    | 1, hq => cases hq; exact ⟨ArrOf_k b1 d1, a1⟩
    | 2, hq => cases hq; exact ⟨ArrOf_k b2 d2, a2⟩
    | 3, hq => cases hq; exact ⟨ArrOf_k b3 d3, a3⟩
    | 4, hq => cases hq; exact ⟨ArrOf_k b4 d4, a4⟩
    | 5, hq => cases hq; exact ⟨ArrOf_k b5 d5, k5, p5, b5, d5, e5, a5⟩
    | k + 6, hq => simp [mtys] at hq
def tmK (i : Nat) : Term := Term.string "TwinBoot$Text" ([88, 106, 111, 119, 123, 127].getD i 0)
set_option maxRecDepth 20000 in
set_option maxHeartbeats 4000000 in
theorem str_of {args : Array Value} {s : State} (hg : ∀ c ∈ flatC narrow_1, c.before args s = true) : ∃ adK adV : Nat → Nat, vk_S 6 bLen bByt adK adV (fun q => s.heap.size ≤ q) s s.heap ∧ ∀ i : Nat, i < 6 → (tmK i).eval args s none [] s = some (.ref (adK i)) := by
  refine vk_Sof (tm := tmK) (fun i hi => ?_) (fun i hi => ?_) (fun i hi => ?_) (fun i hi => ?_) (fun i hi => ?_) (fun i hi j hj => ?_) (fun i j hi hj hij => ?_) (fun a ha q => absurd ha (Nat.not_lt.mpr q))
  · rcases (by omega : i = 0 ∨ i = 1 ∨ i = 2 ∨ i = 3 ∨ i = 4 ∨ i = 5) with rfl | rfl | rfl | rfl | rfl | rfl <;> decide
  · rcases (by omega : i = 0 ∨ i = 1 ∨ i = 2 ∨ i = 3 ∨ i = 4 ∨ i = 5) with rfl | rfl | rfl | rfl | rfl | rfl <;> exact hg _ (by decide +kernel)
  · rcases (by omega : i = 0 ∨ i = 1 ∨ i = 2 ∨ i = 3 ∨ i = 4 ∨ i = 5) with rfl | rfl | rfl | rfl | rfl | rfl <;> exact hg _ (by decide +kernel)
  · rcases (by omega : i = 0 ∨ i = 1 ∨ i = 2 ∨ i = 3 ∨ i = 4 ∨ i = 5) with rfl | rfl | rfl | rfl | rfl | rfl <;> exact hg _ (by decide +kernel)
  · rcases (by omega : i = 0 ∨ i = 1 ∨ i = 2 ∨ i = 3 ∨ i = 4 ∨ i = 5) with rfl | rfl | rfl | rfl | rfl | rfl <;> exact hg _ (by decide +kernel)
  · rcases (by omega : i = 0 ∨ i = 1 ∨ i = 2 ∨ i = 3 ∨ i = 4 ∨ i = 5) with rfl | rfl | rfl | rfl | rfl | rfl
    · have hj : j < 5 := hj
      rcases (by omega : j = 0 ∨ j = 1 ∨ j = 2 ∨ j = 3 ∨ j = 4) with rfl | rfl | rfl | rfl | rfl <;> exact hg _ (by decide +kernel)
    · have hj : j < 5 := hj
      rcases (by omega : j = 0 ∨ j = 1 ∨ j = 2 ∨ j = 3 ∨ j = 4) with rfl | rfl | rfl | rfl | rfl <;> exact hg _ (by decide +kernel)
    · have hj : j < 5 := hj
      rcases (by omega : j = 0 ∨ j = 1 ∨ j = 2 ∨ j = 3 ∨ j = 4) with rfl | rfl | rfl | rfl | rfl <;> exact hg _ (by decide +kernel)
    · have hj : j < 4 := hj
      rcases (by omega : j = 0 ∨ j = 1 ∨ j = 2 ∨ j = 3) with rfl | rfl | rfl | rfl <;> exact hg _ (by decide +kernel)
    · have hj : j < 5 := hj
      rcases (by omega : j = 0 ∨ j = 1 ∨ j = 2 ∨ j = 3 ∨ j = 4) with rfl | rfl | rfl | rfl | rfl <;> exact hg _ (by decide +kernel)
    · have hj : j < 4 := hj
      rcases (by omega : j = 0 ∨ j = 1 ∨ j = 2 ∨ j = 3) with rfl | rfl | rfl | rfl <;> exact hg _ (by decide +kernel)
  · rcases (by omega : i = 0 ∨ i = 1 ∨ i = 2 ∨ i = 3 ∨ i = 4 ∨ i = 5) with rfl | rfl | rfl | rfl | rfl | rfl
    · rcases (by omega : j = 0 ∨ j = 1 ∨ j = 2 ∨ j = 3 ∨ j = 4 ∨ j = 5) with rfl | rfl | rfl | rfl | rfl | rfl
      · exact absurd rfl hij
      · exact Or.inl (hg _ (by decide +kernel))
      · exact Or.inl (hg _ (by decide +kernel))
      · exact Or.inl (hg _ (by decide +kernel))
      · exact Or.inl (hg _ (by decide +kernel))
      · exact Or.inl (hg _ (by decide +kernel))
    · rcases (by omega : j = 0 ∨ j = 1 ∨ j = 2 ∨ j = 3 ∨ j = 4 ∨ j = 5) with rfl | rfl | rfl | rfl | rfl | rfl
      · exact Or.inr (hg _ (by decide +kernel))
      · exact absurd rfl hij
      · exact Or.inl (hg _ (by decide +kernel))
      · exact Or.inl (hg _ (by decide +kernel))
      · exact Or.inl (hg _ (by decide +kernel))
      · exact Or.inl (hg _ (by decide +kernel))
    · rcases (by omega : j = 0 ∨ j = 1 ∨ j = 2 ∨ j = 3 ∨ j = 4 ∨ j = 5) with rfl | rfl | rfl | rfl | rfl | rfl
      · exact Or.inr (hg _ (by decide +kernel))
      · exact Or.inr (hg _ (by decide +kernel))
      · exact absurd rfl hij
      · exact Or.inl (hg _ (by decide +kernel))
      · exact Or.inl (hg _ (by decide +kernel))
      · exact Or.inl (hg _ (by decide +kernel))
    · rcases (by omega : j = 0 ∨ j = 1 ∨ j = 2 ∨ j = 3 ∨ j = 4 ∨ j = 5) with rfl | rfl | rfl | rfl | rfl | rfl
      · exact Or.inr (hg _ (by decide +kernel))
      · exact Or.inr (hg _ (by decide +kernel))
      · exact Or.inr (hg _ (by decide +kernel))
      · exact absurd rfl hij
      · exact Or.inl (hg _ (by decide +kernel))
      · exact Or.inl (hg _ (by decide +kernel))
    · rcases (by omega : j = 0 ∨ j = 1 ∨ j = 2 ∨ j = 3 ∨ j = 4 ∨ j = 5) with rfl | rfl | rfl | rfl | rfl | rfl
      · exact Or.inr (hg _ (by decide +kernel))
      · exact Or.inr (hg _ (by decide +kernel))
      · exact Or.inr (hg _ (by decide +kernel))
      · exact Or.inr (hg _ (by decide +kernel))
      · exact absurd rfl hij
      · exact Or.inl (hg _ (by decide +kernel))
    · rcases (by omega : j = 0 ∨ j = 1 ∨ j = 2 ∨ j = 3 ∨ j = 4 ∨ j = 5) with rfl | rfl | rfl | rfl | rfl | rfl
      · exact Or.inr (hg _ (by decide +kernel))
      · exact Or.inr (hg _ (by decide +kernel))
      · exact Or.inr (hg _ (by decide +kernel))
      · exact Or.inr (hg _ (by decide +kernel))
      · exact Or.inr (hg _ (by decide +kernel))
      · exact absurd rfl hij
set_option maxRecDepth 20000 in
set_option maxHeartbeats 4000000 in
theorem bg_of {args : Array Value} {s : State} {b : Nat} (h : ∀ w ∈ lw_tbl, w.before args s = true) (hg : ∀ c ∈ flatC narrow_1, c.before args s = true) : ∃ ad : Nat → Nat, ad 1300 = b ∧ BG ad (fun q => s.heap.size ≤ q) s s.heap := by
  have hT := TT_all h
  have hA : ∀ a : Nat, a < s.heap.size → ¬ s.heap.size ≤ a := fun a ha q => absurd ha (Nat.not_lt.mpr q)
  obtain ⟨adK, adV, hS, hK⟩ := str_of hg
  obtain ⟨a6, -, -, -, e6, -⟩ := Cond.exactly_spec (hg (Cond.exactly (Term.string "TwinBoot" 266) "java/lang/String") (by decide +kernel))
  obtain ⟨a7, -, -, -, e7, -⟩ := Cond.exactly_spec (hg (Cond.exactly (Term.string "TwinBoot" 273) "java/lang/String") (by decide +kernel))
  have z1 : va_Z bSC bSN bSD .null (fun q => s.heap.size ≤ q) s s.heap ∨ ∃ t : Nat, va_Z bSC bSN bSD (.ref t) (fun q => s.heap.size ≤ q) s s.heap := va_Zqof (h _ (List.mem_append_right _ (tb2 (List.mem_of_getElem? (i := 161) rfl)))) (hT _ qn_jdk_internal_util_Preconditions) (hg _ (by decide +kernel)) hA
  have z2 : ∃ t : Nat, va_Z bSC bSN bSD .null (fun q => s.heap.size ≤ q) s s.heap ∨ va_Z bSC bSN bSD (.ref t) (fun q => s.heap.size ≤ q) s s.heap := by
    rcases z1 with z | ⟨t, z⟩
    · exact ⟨0, Or.inl z⟩
    · exact ⟨t, Or.inr z⟩
  obtain ⟨t, z2⟩ := z2
  refine ⟨fun k => if k = 1300 then b else if k = 1200 then t else if k = 1006 then a6 else if k = 1007 then a7 else if 1100 ≤ k then adV (k - 1100) else adK (k - 1000), rfl, ?_⟩
  have hk1 : ∀ i, i < 6 → (if 1000 + i = 1300 then b else if 1000 + i = 1200 then t else if 1000 + i = 1006 then a6 else if 1000 + i = 1007 then a7 else if 1100 ≤ 1000 + i then adV (1000 + i - 1100) else adK (1000 + i - 1000)) = adK i := fun i hi => by
    rw [if_neg (by omega), if_neg (by omega), if_neg (by omega), if_neg (by omega), if_neg (by omega), Nat.add_sub_cancel_left]
  have hv1 : ∀ i, i < 6 → (if 1100 + i = 1300 then b else if 1100 + i = 1200 then t else if 1100 + i = 1006 then a6 else if 1100 + i = 1007 then a7 else if 1100 ≤ 1100 + i then adV (1100 + i - 1100) else adK (1100 + i - 1000)) = adV i := fun i hi => by
    rw [if_neg (by omega), if_neg (by omega), if_neg (by omega), if_neg (by omega), if_pos (by omega), Nat.add_sub_cancel_left]
  refine ⟨vx_Zqof (h _ (List.mem_append_right _ (tb3 (List.mem_of_getElem? (i := 106) rfl)))) (hT _ qn_java_lang_Throwable) (hg _ (by decide +kernel)) hA, vx_Zqof (h _ (List.mem_append_right _ (tb3 (List.mem_of_getElem? (i := 108) rfl)))) (hT _ qn_java_lang_Throwable) (hg _ (by decide +kernel)) hA, va_Zof (h _ (List.mem_append_right _ (tb2 (List.mem_of_getElem? (i := 145) rfl)))) (hT _ qn_java_lang_String) (va_eqt (hg _ (by decide +kernel))) hA, z2, ⟨fun i hi => ?_, fun i j hi hj e => ?_⟩, fun q hq => ?_, fun w hw => ?_, va_Nc.of (hg (Cond.not (Cond.castable bIB bIA)) (by decide +kernel))⟩
  · have q := hS.1 i hi
    rw [← hk1 i hi, ← hv1 i hi] at q
    exact q
  · have e : (if 1000 + i = 1300 then b else _) = (if 1000 + j = 1300 then b else _) := e
    rw [hk1 i hi, hk1 j hj] at e
    exact hS.2 i j hi hj e
  · simp only [bStr, List.mem_cons, List.not_mem_nil, or_false] at hq
    rcases hq with rfl | rfl | rfl | rfl | rfl | rfl | rfl | rfl | rfl | rfl | rfl | rfl | rfl | rfl
    · exact vk_R.of (h _ (List.mem_append_right _ (tb2 (List.mem_of_getElem? (i := 131) rfl)))) ((hK 0 (by decide)).trans (congrArg (fun q => some (Value.ref q)) (hk1 0 (by decide)).symm))
    · exact vk_R.of (h _ (List.mem_append_right _ (tb2 (List.mem_of_getElem? (i := 212) rfl)))) ((hK 1 (by decide)).trans (congrArg (fun q => some (Value.ref q)) (hk1 1 (by decide)).symm))
    · exact vk_R.of (h _ (List.mem_append_right _ (tb2 (List.mem_of_getElem? (i := 225) rfl)))) ((hK 2 (by decide)).trans (congrArg (fun q => some (Value.ref q)) (hk1 2 (by decide)).symm))
    · exact vk_R.of (h _ (List.mem_append_right _ (tb2 (List.mem_of_getElem? (i := 230) rfl)))) ((hK 3 (by decide)).trans (congrArg (fun q => some (Value.ref q)) (hk1 3 (by decide)).symm))
    · exact vk_R.of (h _ (List.mem_append_right _ (tb2 (List.mem_of_getElem? (i := 231) rfl)))) ((hK 4 (by decide)).trans (congrArg (fun q => some (Value.ref q)) (hk1 4 (by decide)).symm))
    · exact vk_R.of (h _ (List.mem_append_right _ (tb2 (List.mem_of_getElem? (i := 232) rfl)))) ((hK 5 (by decide)).trans (congrArg (fun q => some (Value.ref q)) (hk1 5 (by decide)).symm))
    · exact vk_R.of (h _ (List.mem_append_right _ (tb7 (List.mem_of_getElem? (i := 91) rfl)))) ((va_eqR (t := tmK 0) (hg _ (by decide +kernel)) (hK 0 (by decide))).trans (congrArg (fun q => some (Value.ref q)) (hk1 0 (by decide)).symm))
    · exact vk_R.of (h _ (List.mem_append_right _ (tb7 (List.mem_of_getElem? (i := 142) rfl)))) ((va_eqR (t := tmK 1) (hg _ (by decide +kernel)) (hK 1 (by decide))).trans (congrArg (fun q => some (Value.ref q)) (hk1 1 (by decide)).symm))
    · exact vk_R.of (h _ (List.mem_append_right _ (tb7 (List.mem_of_getElem? (i := 155) rfl)))) ((va_eqR (t := tmK 2) (hg _ (by decide +kernel)) (hK 2 (by decide))).trans (congrArg (fun q => some (Value.ref q)) (hk1 2 (by decide)).symm))
    · exact vk_R.of (h _ (List.mem_append_right _ (tb7 (List.mem_of_getElem? (i := 156) rfl)))) ((va_eqR (t := tmK 3) (hg _ (by decide +kernel)) (hK 3 (by decide))).trans (congrArg (fun q => some (Value.ref q)) (hk1 3 (by decide)).symm))
    · exact vk_R.of (h _ (List.mem_append_right _ (tb7 (List.mem_of_getElem? (i := 157) rfl)))) ((va_eqR (t := tmK 4) (hg _ (by decide +kernel)) (hK 4 (by decide))).trans (congrArg (fun q => some (Value.ref q)) (hk1 4 (by decide)).symm))
    · exact vk_R.of (h _ (List.mem_append_right _ (tb7 (List.mem_of_getElem? (i := 158) rfl)))) ((va_eqR (t := tmK 5) (hg _ (by decide +kernel)) (hK 5 (by decide))).trans (congrArg (fun q => some (Value.ref q)) (hk1 5 (by decide)).symm))
    · exact vk_R.of (h _ (List.mem_append_right _ (tb5 (List.mem_of_getElem? (i := 116) rfl)))) e6
    · exact vk_R.of (h _ (List.mem_append_right _ (tb5 (List.mem_of_getElem? (i := 203) rfl)))) e7
  · refine exW_moved (A := args) (Vm.Alike.refl s.vm) hw ?_
    simp only [exW, List.mem_cons, List.not_mem_nil, or_false] at hw
    rcases hw with rfl | rfl | rfl | rfl | rfl
    · exact h _ (by decide +kernel)
    · exact h _ (by decide +kernel)
    · exact h _ (by decide +kernel)
    · exact h _ (by decide +kernel)
    · exact h _ (by decide +kernel)

/-! FRAMES IN WHICH THE WORLD MAY GROW: constructors and the law's own -/
def agr (n0 : Nat) (ad ad' : Nat → Nat) : Prop := ∀ k, k < n0 ∨ 1000 ≤ k → ad' k = ad k
theorem agr.rf {n0 : Nat} {ad : Nat → Nat} : agr n0 ad ad := fun _ _ => rfl
theorem agr.tr {n0 n1 : Nat} {ad ad1 ad2 : Nat → Nat} (h : agr n0 ad ad1) (h2 : agr n1 ad1 ad2) (hn : n0 ≤ n1) : agr n0 ad ad2 := fun k hk => (h2 k (by omega)).trans (h k hk)
/-- words that the machine's own changes keep, though no table of words says so -/
def nestW : List Cond := [.methodLinkNest RX6 9 yX5_init RX6, .methodLinkNest RX6 12 yX0_init RX6, .methodLinkNest RX0 11 yX1_init RX6, .methodLinkNest RX0 20 yX3_init RX6, .methodLinkNest RX0 27 yX2_init RX6, .arrayOver (.object RX0), .selects RJ4 yJ5_ensureCapacityInternal_d00df yJ5_ensureCapacityInternal_d00df, .selects RJ4 yJ5_newCapacity_0f7a4 yJ5_newCapacity_0f7a4, .selects RJ4 yJ5_putStringAt_47b60 yJ5_putStringAt_47b60, .selects RJ4 yJ5_inflateIfNeededFor_a7421 yJ5_inflateIfNeededFor_a7421]
theorem sel_moved {A A' : Array Value} {u U : State} {C : String} {x y : MethodName} (hg : goodWord (.selects C x y) = true) (hw : u.WarmedH U.vm) (h : (Cond.selects C x y).before A u = true) : (Cond.selects C x y).before A' U = true :=
  pay_in (big := [.selects C x y]) (ws := [.selects C x y]) (fun w hm => by rw [List.mem_singleton.mp hm]; exact h) (fun w hm => ⟨hm, good_of_word (by rw [List.mem_singleton.mp hm]; exact hg)⟩) _ List.mem_cons_self A' U hw
theorem nestW_moved {A A' : Array Value} {u U : State} (hw : u.WarmedH U.vm) {w : Cond} (hm : w ∈ nestW) (h : w.before A u = true) : w.before A' U = true := by
  simp only [nestW, List.mem_cons, List.not_mem_nil, or_false] at hm
  have go : ∀ {cls host : String} {x : MethodName} {index : Nat}, (Cond.methodLinkNest cls index x host).before A u = true → (Cond.methodLinkNest cls index x host).before A' U = true := fun {cls host x index} h => by
    have h1 := Cond.methodLinkNest_warmed hw h
    rw [Cond.onTables_vm (A' := A') (U' := U) U.vm (Cond.methodLinkNest cls index x host) rfl] at h1
    exact h1
  rcases hm with rfl | rfl | rfl | rfl | rfl | rfl | rfl | rfl | rfl | rfl
  · exact go h
  · exact go h
  · exact go h
  · exact go h
  · exact go h
  · exact Cond.arrayOver_alike hw.alike h
  · exact sel_moved rfl hw h
  · exact sel_moved rfl hw h
  · exact sel_moved rfl hw h
  · exact sel_moved rfl hw h
/-- the classes of rows, by their names -/
def AC (cA : Nat → ClassId) (U : State) : Prop := U.vm.findClass "[I" = some (cA 0) ∧ U.vm.findClass "[B" = some (cA 1) ∧ U.vm.findClass "[Z" = some (cA 2) ∧ cA 3 = cA 0 ∧ U.vm.findClass "[[I" = some (cA 4) ∧ U.vm.findClass "[LTwinBoot$Device;" = some (cA 5) ∧ (∃ kA, U.vm.classes[cA 4]? = some kA ∧ kA.kind = Kind.array (cA 0) (.array .int)) ∧ (∃ kI cz, U.vm.classes[cA 0]? = some kI ∧ kI.kind = Kind.array cz .int) ∧ ∀ w, w ∈ nestW → w.before #[] U = true
theorem AC.moved {cA : Nat → ClassId} {u U : State} (hw : u.WarmedH U.vm) (h : AC cA u) : AC cA U := by
  obtain ⟨h0, h1, h2, h3, h4, h5, ⟨kA, a1, a2⟩, ⟨kI, cz, b1, b2⟩, h8⟩ := h
  have hvm := hw.alike
  obtain ⟨k', hk', he⟩ := hvm.2.2 _ _ a1
  obtain ⟨k2, hk2, he2⟩ := hvm.2.2 _ _ b1
  refine ⟨by rw [hvm.findClass]; exact h0, by rw [hvm.findClass]; exact h1, by rw [hvm.findClass]; exact h2, h3, by rw [hvm.findClass]; exact h4, by rw [hvm.findClass]; exact h5, ⟨k', hk', by rw [he]; exact a2⟩, ⟨k2, cz, hk2, by rw [he2]; exact b2⟩, fun w hm => nestW_moved hw hm (h8 w hm)⟩
theorem AC.word {cA : Nat → ClassId} {U : State} (h : AC cA U) {w : Cond} (hm : w ∈ nestW) {args : Array Value} : w.before args U = true := nestW_moved (State.WarmedH.refl U) hm (h.2.2.2.2.2.2.2.2 w hm)
abbrev gCtx : Type := Program → Launch → State → MethodId → Array Value → Method → Code → (Nat → Nat) → (Nat → Prop) → Prop
abbrev gPost : Type := va_G → (Nat → ClassId) → (Nat → Nat) → (Nat → Prop) → List Frame → Array Value → State → State → Prop
def Gj (Γ : gCtx) (Φ : gPost) (own : String) (cc : ByteArray) (nL fr lo mc ms n0 n : Nat) (sh : mS) (G : mG) (kc ks pc : Nat) (ls : List (Nat × Value)) (st : List Value) (I : mI) (J : mJ) : Prop :=
  ∀ (p : Program) (l : Launch) (e : Env) (R : Room) (s : State) (m : MethodId) (args : Array Value) (below : List Frame) (meth : Method) (c : Code) (H : Heap) (locs : List Jvm.Loc) (cells slots : Nat) (la : Array Slot) (D : va_G) (cA : Nat → ClassId) (ad0 ad : Nat → Nat) (A : Nat → Prop),
    l.stackTraces = false → Γ p l s m args meth c ad0 A → agr n0 ad0 ad → CallFix p m c cc nL s args TT own → meth.locks = false → (fr ≤ R.frames ∧ lo ≤ R.locals ∧ mc ≤ R.cells ∧ ms ≤ R.slots) → cells + kc ≤ mc → slots + ks ≤ ms →
    (∀ q, s.heap.size ≤ q → A q) → BG ad A s s.heap → AC cA s → va_S A s.heap H locs → va_P D vwCl (mws cA ad n sh I J G) H → va_D A (mws cA ad n sh I J G) → va_K D vwCl (mtys cA) s → lv_has la nL (ls.map (mzp ad)) →
    W p l e R s m args below meth c H locs cells slots (Φ D cA ad0 A below args s) (F0 m pc la (st.map (mz ad)))
section GROWS
variable {Γ : gCtx} {Φ : gPost} {own : String} {cc : ByteArray} {nL pc b : Nat} {ls ls' : List (Nat × Value)} {st : List Value}
variable {fr lo mc ms n0 n kc ks : Nat} {sh : mS} {G : mG} {I : mI} {J : mJ}
theorem gc_p {st' : List Value} (h : Pst own cc nL pc ls st b ls' st') (k : Gj Γ Φ own cc nL fr lo mc ms n0 n sh G kc ks b ls' st' I J) : Gj Γ Φ own cc nL fr lo mc ms n0 n sh G kc ks pc ls st I J := by
  intro p l e R s m args below meth c H locs cells slots la D cA ad0 ad A hfl hΓ hag S hlk hR hkc hks hA hB hC hS hP hD hK hl
  exact h p l e R s m args below meth c H locs cells slots la ad _ S hl (fun la' hl' => k p l e R s m args below meth c H locs cells slots la' D cA ad0 ad A hfl hΓ hag S hlk hR hkc hks hA hB hC hS hP hD hK hl')
theorem gc_sub (is : List Nat) (h : lv_pick ls is = ls') (k : Gj Γ Φ own cc nL fr lo mc ms n0 n sh G kc ks pc ls' st I J) : Gj Γ Φ own cc nL fr lo mc ms n0 n sh G kc ks pc ls st I J := by
  intro p l e R s m args below meth c H locs cells slots la D cA ad0 ad A hfl hΓ hag S hlk hR hkc hks hA hB hC hS hP hD hK hl
  refine k p l e R s m args below meth c H locs cells slots la D cA ad0 ad A hfl hΓ hag S hlk hR hkc hks hA hB hC hS hP hD hK (lv_sub hl is ?_)
  rw [← h]
  simp [lv_pick, List.map_filterMap]
theorem gc_weak {kc' ks' : Nat} (h1 : kc' ≤ kc) (h2 : ks' ≤ ks) (k : Gj Γ Φ own cc nL fr lo mc ms n0 n sh G kc' ks' pc ls st I J) : Gj Γ Φ own cc nL fr lo mc ms n0 n sh G kc ks pc ls st I J := by
  intro p l e R s m args below meth c H locs cells slots la D cA ad0 ad A hfl hΓ hag S hlk hR hkc hks hA hB hC hS hP hD hK hl
  exact k p l e R s m args below meth c H locs cells slots la D cA ad0 ad A hfl hΓ hag S hlk hR (by omega) (by omega) hA hB hC hS hP hD hK hl

theorem g_icmp_eq {x y : Int32} {off : Int} (hd : decode cc pc = .ok (.if_icmp .eq off, 3)) (ht : (pc : Int) + off = (b : Int)) {b2 : Nat} (hb : pc + 3 = b2) (kt : x = y → Gj Γ Φ own cc nL fr lo mc ms n0 n sh G kc ks b ls (st) I J) (kf : ¬ x = y → Gj Γ Φ own cc nL fr lo mc ms n0 n sh G kc ks b2 ls (st) I J) : Gj Γ Φ own cc nL fr lo mc ms n0 n sh G kc ks pc ls (.int y :: .int x :: st) I J := by
  intro p l e R s m args below meth c H locs cells slots la D cA ad0 ad A hfl hΓ hag S hlk hR hkc hks hA hB hC hS hP hD hK hl
  subst hb
  exact lv_icmp_eq S.1 S.2.1 hd ht (fun h => kt h p l e R s m args below meth c H locs cells slots la D cA ad0 ad A hfl hΓ hag S hlk hR hkc hks hA hB hC hS hP hD hK hl) (fun h => kf h p l e R s m args below meth c H locs cells slots la D cA ad0 ad A hfl hΓ hag S hlk hR hkc hks hA hB hC hS hP hD hK hl)
theorem g_if_eq {x : Int32} {off : Int} (hd : decode cc pc = .ok (.ifCond .eq off, 3)) (ht : (pc : Int) + off = (b : Int)) {b2 : Nat} (hb : pc + 3 = b2) (kt : x = 0 → Gj Γ Φ own cc nL fr lo mc ms n0 n sh G kc ks b ls (st) I J) (kf : ¬ x = 0 → Gj Γ Φ own cc nL fr lo mc ms n0 n sh G kc ks b2 ls (st) I J) : Gj Γ Φ own cc nL fr lo mc ms n0 n sh G kc ks pc ls (.int x :: st) I J := by
  intro p l e R s m args below meth c H locs cells slots la D cA ad0 ad A hfl hΓ hag S hlk hR hkc hks hA hB hC hS hP hD hK hl
  subst hb
  exact lv_if_eq S.1 S.2.1 hd ht (fun h => kt h p l e R s m args below meth c H locs cells slots la D cA ad0 ad A hfl hΓ hag S hlk hR hkc hks hA hB hC hS hP hD hK hl) (fun h => kf h p l e R s m args below meth c H locs cells slots la D cA ad0 ad A hfl hΓ hag S hlk hR hkc hks hA hB hC hS hP hD hK hl)
theorem g_icmp_ne {x y : Int32} {off : Int} (hd : decode cc pc = .ok (.if_icmp .ne off, 3)) (ht : (pc : Int) + off = (b : Int)) {b2 : Nat} (hb : pc + 3 = b2) (kt : ¬ x = y → Gj Γ Φ own cc nL fr lo mc ms n0 n sh G kc ks b ls (st) I J) (kf : x = y → Gj Γ Φ own cc nL fr lo mc ms n0 n sh G kc ks b2 ls (st) I J) : Gj Γ Φ own cc nL fr lo mc ms n0 n sh G kc ks pc ls (.int y :: .int x :: st) I J := by
  intro p l e R s m args below meth c H locs cells slots la D cA ad0 ad A hfl hΓ hag S hlk hR hkc hks hA hB hC hS hP hD hK hl
  subst hb
  exact lv_icmp_ne S.1 S.2.1 hd ht (fun h => kt h p l e R s m args below meth c H locs cells slots la D cA ad0 ad A hfl hΓ hag S hlk hR hkc hks hA hB hC hS hP hD hK hl) (fun h => kf h p l e R s m args below meth c H locs cells slots la D cA ad0 ad A hfl hΓ hag S hlk hR hkc hks hA hB hC hS hP hD hK hl)
theorem g_if_ne {x : Int32} {off : Int} (hd : decode cc pc = .ok (.ifCond .ne off, 3)) (ht : (pc : Int) + off = (b : Int)) {b2 : Nat} (hb : pc + 3 = b2) (kt : ¬ x = 0 → Gj Γ Φ own cc nL fr lo mc ms n0 n sh G kc ks b ls (st) I J) (kf : x = 0 → Gj Γ Φ own cc nL fr lo mc ms n0 n sh G kc ks b2 ls (st) I J) : Gj Γ Φ own cc nL fr lo mc ms n0 n sh G kc ks pc ls (.int x :: st) I J := by
  intro p l e R s m args below meth c H locs cells slots la D cA ad0 ad A hfl hΓ hag S hlk hR hkc hks hA hB hC hS hP hD hK hl
  subst hb
  exact lv_if_ne S.1 S.2.1 hd ht (fun h => kt h p l e R s m args below meth c H locs cells slots la D cA ad0 ad A hfl hΓ hag S hlk hR hkc hks hA hB hC hS hP hD hK hl) (fun h => kf h p l e R s m args below meth c H locs cells slots la D cA ad0 ad A hfl hΓ hag S hlk hR hkc hks hA hB hC hS hP hD hK hl)
theorem g_icmp_lt {x y : Int32} {off : Int} (hd : decode cc pc = .ok (.if_icmp .lt off, 3)) (ht : (pc : Int) + off = (b : Int)) {b2 : Nat} (hb : pc + 3 = b2) (kt : x < y → Gj Γ Φ own cc nL fr lo mc ms n0 n sh G kc ks b ls (st) I J) (kf : ¬ x < y → Gj Γ Φ own cc nL fr lo mc ms n0 n sh G kc ks b2 ls (st) I J) : Gj Γ Φ own cc nL fr lo mc ms n0 n sh G kc ks pc ls (.int y :: .int x :: st) I J := by
  intro p l e R s m args below meth c H locs cells slots la D cA ad0 ad A hfl hΓ hag S hlk hR hkc hks hA hB hC hS hP hD hK hl
  subst hb
  exact lv_icmp_lt S.1 S.2.1 hd ht (fun h => kt h p l e R s m args below meth c H locs cells slots la D cA ad0 ad A hfl hΓ hag S hlk hR hkc hks hA hB hC hS hP hD hK hl) (fun h => kf h p l e R s m args below meth c H locs cells slots la D cA ad0 ad A hfl hΓ hag S hlk hR hkc hks hA hB hC hS hP hD hK hl)
theorem g_if_lt {x : Int32} {off : Int} (hd : decode cc pc = .ok (.ifCond .lt off, 3)) (ht : (pc : Int) + off = (b : Int)) {b2 : Nat} (hb : pc + 3 = b2) (kt : x < 0 → Gj Γ Φ own cc nL fr lo mc ms n0 n sh G kc ks b ls (st) I J) (kf : ¬ x < 0 → Gj Γ Φ own cc nL fr lo mc ms n0 n sh G kc ks b2 ls (st) I J) : Gj Γ Φ own cc nL fr lo mc ms n0 n sh G kc ks pc ls (.int x :: st) I J := by
  intro p l e R s m args below meth c H locs cells slots la D cA ad0 ad A hfl hΓ hag S hlk hR hkc hks hA hB hC hS hP hD hK hl
  subst hb
  exact lv_if_lt S.1 S.2.1 hd ht (fun h => kt h p l e R s m args below meth c H locs cells slots la D cA ad0 ad A hfl hΓ hag S hlk hR hkc hks hA hB hC hS hP hD hK hl) (fun h => kf h p l e R s m args below meth c H locs cells slots la D cA ad0 ad A hfl hΓ hag S hlk hR hkc hks hA hB hC hS hP hD hK hl)
theorem g_icmp_ge {x y : Int32} {off : Int} (hd : decode cc pc = .ok (.if_icmp .ge off, 3)) (ht : (pc : Int) + off = (b : Int)) {b2 : Nat} (hb : pc + 3 = b2) (kt : y ≤ x → Gj Γ Φ own cc nL fr lo mc ms n0 n sh G kc ks b ls (st) I J) (kf : ¬ y ≤ x → Gj Γ Φ own cc nL fr lo mc ms n0 n sh G kc ks b2 ls (st) I J) : Gj Γ Φ own cc nL fr lo mc ms n0 n sh G kc ks pc ls (.int y :: .int x :: st) I J := by
  intro p l e R s m args below meth c H locs cells slots la D cA ad0 ad A hfl hΓ hag S hlk hR hkc hks hA hB hC hS hP hD hK hl
  subst hb
  exact lv_icmp_ge S.1 S.2.1 hd ht (fun h => kt h p l e R s m args below meth c H locs cells slots la D cA ad0 ad A hfl hΓ hag S hlk hR hkc hks hA hB hC hS hP hD hK hl) (fun h => kf h p l e R s m args below meth c H locs cells slots la D cA ad0 ad A hfl hΓ hag S hlk hR hkc hks hA hB hC hS hP hD hK hl)
theorem g_if_ge {x : Int32} {off : Int} (hd : decode cc pc = .ok (.ifCond .ge off, 3)) (ht : (pc : Int) + off = (b : Int)) {b2 : Nat} (hb : pc + 3 = b2) (kt : 0 ≤ x → Gj Γ Φ own cc nL fr lo mc ms n0 n sh G kc ks b ls (st) I J) (kf : ¬ 0 ≤ x → Gj Γ Φ own cc nL fr lo mc ms n0 n sh G kc ks b2 ls (st) I J) : Gj Γ Φ own cc nL fr lo mc ms n0 n sh G kc ks pc ls (.int x :: st) I J := by
  intro p l e R s m args below meth c H locs cells slots la D cA ad0 ad A hfl hΓ hag S hlk hR hkc hks hA hB hC hS hP hD hK hl
  subst hb
  exact lv_if_ge S.1 S.2.1 hd ht (fun h => kt h p l e R s m args below meth c H locs cells slots la D cA ad0 ad A hfl hΓ hag S hlk hR hkc hks hA hB hC hS hP hD hK hl) (fun h => kf h p l e R s m args below meth c H locs cells slots la D cA ad0 ad A hfl hΓ hag S hlk hR hkc hks hA hB hC hS hP hD hK hl)
theorem g_icmp_gt {x y : Int32} {off : Int} (hd : decode cc pc = .ok (.if_icmp .gt off, 3)) (ht : (pc : Int) + off = (b : Int)) {b2 : Nat} (hb : pc + 3 = b2) (kt : y < x → Gj Γ Φ own cc nL fr lo mc ms n0 n sh G kc ks b ls (st) I J) (kf : ¬ y < x → Gj Γ Φ own cc nL fr lo mc ms n0 n sh G kc ks b2 ls (st) I J) : Gj Γ Φ own cc nL fr lo mc ms n0 n sh G kc ks pc ls (.int y :: .int x :: st) I J := by
  intro p l e R s m args below meth c H locs cells slots la D cA ad0 ad A hfl hΓ hag S hlk hR hkc hks hA hB hC hS hP hD hK hl
  subst hb
  exact lv_icmp_gt S.1 S.2.1 hd ht (fun h => kt h p l e R s m args below meth c H locs cells slots la D cA ad0 ad A hfl hΓ hag S hlk hR hkc hks hA hB hC hS hP hD hK hl) (fun h => kf h p l e R s m args below meth c H locs cells slots la D cA ad0 ad A hfl hΓ hag S hlk hR hkc hks hA hB hC hS hP hD hK hl)
theorem g_if_gt {x : Int32} {off : Int} (hd : decode cc pc = .ok (.ifCond .gt off, 3)) (ht : (pc : Int) + off = (b : Int)) {b2 : Nat} (hb : pc + 3 = b2) (kt : 0 < x → Gj Γ Φ own cc nL fr lo mc ms n0 n sh G kc ks b ls (st) I J) (kf : ¬ 0 < x → Gj Γ Φ own cc nL fr lo mc ms n0 n sh G kc ks b2 ls (st) I J) : Gj Γ Φ own cc nL fr lo mc ms n0 n sh G kc ks pc ls (.int x :: st) I J := by
  intro p l e R s m args below meth c H locs cells slots la D cA ad0 ad A hfl hΓ hag S hlk hR hkc hks hA hB hC hS hP hD hK hl
  subst hb
  exact lv_if_gt S.1 S.2.1 hd ht (fun h => kt h p l e R s m args below meth c H locs cells slots la D cA ad0 ad A hfl hΓ hag S hlk hR hkc hks hA hB hC hS hP hD hK hl) (fun h => kf h p l e R s m args below meth c H locs cells slots la D cA ad0 ad A hfl hΓ hag S hlk hR hkc hks hA hB hC hS hP hD hK hl)
theorem g_icmp_le {x y : Int32} {off : Int} (hd : decode cc pc = .ok (.if_icmp .le off, 3)) (ht : (pc : Int) + off = (b : Int)) {b2 : Nat} (hb : pc + 3 = b2) (kt : x ≤ y → Gj Γ Φ own cc nL fr lo mc ms n0 n sh G kc ks b ls (st) I J) (kf : ¬ x ≤ y → Gj Γ Φ own cc nL fr lo mc ms n0 n sh G kc ks b2 ls (st) I J) : Gj Γ Φ own cc nL fr lo mc ms n0 n sh G kc ks pc ls (.int y :: .int x :: st) I J := by
  intro p l e R s m args below meth c H locs cells slots la D cA ad0 ad A hfl hΓ hag S hlk hR hkc hks hA hB hC hS hP hD hK hl
  subst hb
  exact lv_icmp_le S.1 S.2.1 hd ht (fun h => kt h p l e R s m args below meth c H locs cells slots la D cA ad0 ad A hfl hΓ hag S hlk hR hkc hks hA hB hC hS hP hD hK hl) (fun h => kf h p l e R s m args below meth c H locs cells slots la D cA ad0 ad A hfl hΓ hag S hlk hR hkc hks hA hB hC hS hP hD hK hl)
theorem g_if_le {x : Int32} {off : Int} (hd : decode cc pc = .ok (.ifCond .le off, 3)) (ht : (pc : Int) + off = (b : Int)) {b2 : Nat} (hb : pc + 3 = b2) (kt : x ≤ 0 → Gj Γ Φ own cc nL fr lo mc ms n0 n sh G kc ks b ls (st) I J) (kf : ¬ x ≤ 0 → Gj Γ Φ own cc nL fr lo mc ms n0 n sh G kc ks b2 ls (st) I J) : Gj Γ Φ own cc nL fr lo mc ms n0 n sh G kc ks pc ls (.int x :: st) I J := by
  intro p l e R s m args below meth c H locs cells slots la D cA ad0 ad A hfl hΓ hag S hlk hR hkc hks hA hB hC hS hP hD hK hl
  subst hb
  exact lv_if_le S.1 S.2.1 hd ht (fun h => kt h p l e R s m args below meth c H locs cells slots la D cA ad0 ad A hfl hΓ hag S hlk hR hkc hks hA hB hC hS hP hD hK hl) (fun h => kf h p l e R s m args below meth c H locs cells slots la D cA ad0 ad A hfl hΓ hag S hlk hR hkc hks hA hB hC hS hP hD hK hl)
theorem g_val {x y : Int32} (h : x = y) (k : Gj Γ Φ own cc nL fr lo mc ms n0 n sh G kc ks pc ls (.int y :: st) I J) : Gj Γ Φ own cc nL fr lo mc ms n0 n sh G kc ks pc ls (.int x :: st) I J := by rw [h]; exact k
theorem g_mem {I2 : mI} (h : I = I2) (k : Gj Γ Φ own cc nL fr lo mc ms n0 n sh G kc ks pc ls (st) I2 J) : Gj Γ Φ own cc nL fr lo mc ms n0 n sh G kc ks pc ls (st) I J := by rw [h]; exact k
theorem g_geti {ix ci k id N : Nat} {C : String} {T : u_T} {v : Int32} (f : fl own ix ci k C T N) (hm : mr ci k = false) (hid : id < n) (hsh : sh id = .inl (ci, N)) (hd : decode cc pc = .ok (.getfield ix, 3)) (hv : I id k = v) (hb : pc + 3 = b) (kk : Gj Γ Φ own cc nL fr lo mc ms n0 n sh G kc ks b ls (.int v :: st) I J) : Gj Γ Φ own cc nL fr lo mc ms n0 n sh G kc ks pc ls (.ref id :: st) I J := by
  intro p l e R s m args below meth c H locs cells slots la D cA ad0 ad A hfl hΓ hag S hlk hR hkc hks hA hB hC hS hP hD hK hl
  subst hb
  subst hv
  obtain ⟨f1, f2, f3, f4, f5⟩ := f
  refine va_get S.1 S.2.1 S.2.2.2.2 f4 S.2.2.2.1 hK hP id (by rw [mws_at hid, mcell_o hsh]) f1 k f2 (S.2.2.2.2 _ f3) (fun x h => by rw [← f5]; exact h) (mfs_at f2) hd ?_
  rw [show mf ad I G ci id k = mz ad (.int (I id k)) by simp [mf, hm, mz]]
  exact kk p l e R s m args below meth c H locs cells slots la D cA ad0 ad A hfl hΓ hag S hlk hR hkc hks hA hB hC hS hP hD hK hl
theorem g_geta {ix ci k id N id2 : Nat} {C : String} {T : u_T} (f : fl own ix ci k C T N) (hm : mr ci k = true) (hid : id < n) (hsh : sh id = .inl (ci, N)) (hd : decode cc pc = .ok (.getfield ix, 3)) (hg : G id k = some id2) (hb : pc + 3 = b) (kk : Gj Γ Φ own cc nL fr lo mc ms n0 n sh G kc ks b ls (.ref id2 :: st) I J) : Gj Γ Φ own cc nL fr lo mc ms n0 n sh G kc ks pc ls (.ref id :: st) I J := by
  intro p l e R s m args below meth c H locs cells slots la D cA ad0 ad A hfl hΓ hag S hlk hR hkc hks hA hB hC hS hP hD hK hl
  subst hb
  obtain ⟨f1, f2, f3, f4, f5⟩ := f
  refine va_get S.1 S.2.1 S.2.2.2.2 f4 S.2.2.2.1 hK hP id (by rw [mws_at hid, mcell_o hsh]) f1 k f2 (S.2.2.2.2 _ f3) (fun x h => by rw [← f5]; exact h) (mfs_at f2) hd ?_
  rw [show mf ad I G ci id k = mz ad (.ref id2) by simp [mf, hm, mz, hg, va_rf]]
  exact kk p l e R s m args below meth c H locs cells slots la D cA ad0 ad A hfl hΓ hag S hlk hR hkc hks hA hB hC hS hP hD hK hl
theorem g_puti {ix ci k id N : Nat} {C : String} {T : u_T} {v : Int32} (f : fl own ix ci k C T N) (w : fw ci k T N) (hm : mr ci k = false) (hid : id < n) (hsh : sh id = .inl (ci, N)) (hn : narrow (mty ci k) (.int v) = .int v) (hfit : fits (mty ci k) (.int v) = true) (hd : decode cc pc = .ok (.putfield ix, 3)) (hb : pc + 3 = b) (kk : Gj Γ Φ own cc nL fr lo mc ms n0 n sh G kc ks b ls (st) (up2 I id k v) J) : Gj Γ Φ own cc nL fr lo mc ms n0 n sh G kc ks pc ls (.int v :: .ref id :: st) I J := by
  intro p l e R s m args below meth c H locs cells slots la D cA ad0 ad A hfl hΓ hag S hlk hR hkc hks hA hB hC hS hP hD hK hl
  subst hb
  obtain ⟨f1, f2, f3, f4, f5⟩ := f
  obtain ⟨w1, w2, w3⟩ := w
  refine va_put (ty := mty ci k) (v := .int v) S.1 S.2.1 S.2.2.2.2 f4 (mty ci) w1 w2 S.2.2.2.1 hK hP hD hS id (by rw [mws_at hid, mcell_o hsh]) f1 k f2 (S.2.2.2.2 _ f3) (fun x h => by rw [← f5]; exact h) w3 (w1 k f2) hn hfit (by simpa using f2) hd (fun H locs hP hD hS => ?_)
  have eqw : (mws cA ad n sh I J G).set id (ad id, .inr (ci, ((List.range N).map (mf ad I G ci id)).set k (.int v))) = mws cA ad n sh (up2 I id k v) J G := by
    rw [mfs_set hm]
    exact mws_set (mcell_o hsh) (fun b hb => ⟨funext fun j => up2_a hb, rfl⟩)
  rw [eqw] at hP hD
  exact kk p l e R s m args below meth c H locs cells slots la D cA ad0 ad A hfl hΓ hag S hlk hR hkc hks hA hB hC hS hP hD hK hl
theorem g_iald {id len j : Nat} {i v : Int32} (hid : id < n) (hsh : sh id = .inr (0, len)) (hd : decode cc pc = .ok (.iaload, 1)) (hi : i = nI j) (hj : j < len ∧ len < 2 ^ 31) (hv : I id j = v) (hb : pc + 1 = b) (kk : Gj Γ Φ own cc nL fr lo mc ms n0 n sh G kc ks b ls (.int v :: st) I J) : Gj Γ Φ own cc nL fr lo mc ms n0 n sh G kc ks pc ls (.int i :: .ref id :: st) I J := by
  intro p l e R s m args below meth c H locs cells slots la D cA ad0 ad A hfl hΓ hag S hlk hR hkc hks hA hB hC hS hP hD hK hl
  subst hb
  subst hv
  subst hi
  refine va_iald S.1 S.2.1 hK hP id 0 (by rw [mws_at hid, mcell_ia hsh]) rfl (vp_in_nI hj.1 hj.2) hd ?_
  rw [nI_clamp (Nat.lt_trans hj.1 hj.2)]
  exact kk p l e R s m args below meth c H locs cells slots la D cA ad0 ad A hfl hΓ hag S hlk hR hkc hks hA hB hC hS hP hD hK hl
theorem g_iast {id len j : Nat} {i v : Int32} (hid : id < n) (hsh : sh id = .inr (0, len)) (hd : decode cc pc = .ok (.iastore, 1)) (hi : i = nI j) (hj : j < len ∧ len < 2 ^ 31) (hb : pc + 1 = b) (kk : Gj Γ Φ own cc nL fr lo mc ms n0 n sh G kc ks b ls (st) (up2 I id j v) J) : Gj Γ Φ own cc nL fr lo mc ms n0 n sh G kc ks pc ls (.int v :: .int i :: .ref id :: st) I J := by
  intro p l e R s m args below meth c H locs cells slots la D cA ad0 ad A hfl hΓ hag S hlk hR hkc hks hA hB hC hS hP hD hK hl
  subst hb
  subst hi
  refine va_iast S.1 S.2.1 hK hP hD hS id 0 (by rw [mws_at hid, mcell_ia hsh]) rfl (vp_in_nI hj.1 hj.2) hd (fun H locs hP hD hS => ?_)
  rw [nI_clamp (Nat.lt_trans hj.1 hj.2)] at hP hD
  have eqw : (mws cA ad n sh I J G).set id (ad id, .inl (cA 0, len, .inl (upd (I id) j v))) = mws cA ad n sh (up2 I id j v) J G :=
    mws_set (by rw [mcell_ia hsh]; congr 4; funext q; simp [up2, upd]) (fun b hb => ⟨funext fun j => up2_a hb, rfl⟩)
  rw [eqw] at hP hD
  exact kk p l e R s m args below meth c H locs cells slots la D cA ad0 ad A hfl hΓ hag S hlk hR hkc hks hA hB hC hS hP hD hK hl
end GROWS

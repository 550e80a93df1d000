theorem flatC_and {a b : Cond} {c : Cond} (h : c ∈ flatC b) : c ∈ flatC (a.and b) := by
  show c ∈ flatC a ++ flatC b
  exact List.mem_append_right _ h
set_option maxHeartbeats 1000000 in
theorem whole_start {p : Program} {e : Env} {s : State} {m : MethodId} {below : List Frame} {meth : Method} {c : Code} (l : Launch) (hflags : l.flags = flags0) {b L : Nat} {xs : Nat → Int32} (hL : L ≤ 260) (C0 : lw_At p s m meth c b L xs) : W p l e room_1 s m #[Value.ref b] below meth c s.heap [] 0 0 (lw_Z below #[Value.ref b] s) (entryFrame m ([Value.ref b] : List Value).toArray 4) := by
  obtain ⟨hx, hb, hr, hml, hown, hts, hX, hbl, hlocks, hgv⟩ := id C0
  have hT := TT_all hts
  have hg : ∀ c ∈ flatC narrow_1, c.before #[Value.ref b] s = true := fun c hc => flat_of_before _ hgv c (flatC_and hc)
  obtain ⟨ad, rfl, hB⟩ := bg_of (b := b) hts hg hL hX hbl
  obtain ⟨D, hD⟩ := cls_of hT
  obtain ⟨cA, hC, hA⟩ := ac_of hts
  have hfl : l.stackTraces = false := by
    unfold Launch.stackTraces
    rw [hflags]
    decide
  have hl := lv_entry ([.ref (ad 1300)]) (n := 4) (Nat.le_of_ble_eq_true rfl)
  rw [lg_entry_eq]
  generalize (lg_sl ([.ref (ad 1300)]) ++ List.replicate (4 - (lg_sl ([.ref (ad 1300)])).length) Slot.unset).toArray = la at hl ⊢
  have hl : lv_has la 4 ([(0, .ref 1300)].map (mzp ad)) := hl
  have hz : Zo 0 (fun _ _ => (0 : Int32)) (fun _ _ => (0 : Int64)) (fun _ _ => (none : Option Nat)) := ⟨fun _ _ _ => ⟨fun _ => rfl, fun _ => rfl, fun _ => rfl⟩, fun _ _ _ e => by cases e⟩
  exact law_begins hz p l e room_1 s m #[.ref (ad 1300)] below meth c s.heap [] 0 0 la D cA ad ad (fun q => s.heap.size ≤ q) hfl ⟨hr, rfl, fun _ => Iff.rfl⟩ agr.rf ⟨hx, hb, hml, hown, hT⟩ hlocks ⟨by decide, by decide, by decide, by decide⟩ (by decide) (by decide) (fun _ h => h) hB hC va_S.rf (fun k q h => by simp [mws] at h) ⟨fun i j p q h => by simp [mws] at h, fun k q h => by simp [mws] at h⟩ ⟨hD, hA⟩ hl

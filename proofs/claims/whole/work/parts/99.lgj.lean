/-! THE LAW'S OWN FRAME: the script, the end, what both sides share between two calls -/
def gL (L : Nat) (xs : Nat → Int32) : gCtx := fun _ _ s _ args meth _ ad0 A => meth.sig.returnType = ret ∧ args = #[.ref (ad0 1300)] ∧ va_X (ad0 1300) L xs s s.heap ∧ ad0 1300 < s.heap.size ∧ ∀ q, A q ↔ s.heap.size ≤ q
def gZ : gPost := fun _ _ _ _ below args s => lw_Z below args s
theorem lw_retR {p : Program} {l : Launch} {e : Env} {R : Room} {s : State} {m : MethodId} {args : Array Value} {below : List Frame} {meth : Method} {c : Code} {cc : ByteArray} (hx : p.tables.exec = Jvm.exec) (hb : c.code = cc) (hr : meth.sig.returnType = ret) (hlocks : meth.locks = false) {pc : Nat} {H : Heap} {ls : Array Slot} (hdg : decode cc pc = .ok (.ireturn, 1)) : W p l e R s m args below meth c H [] 601024 7293034 (lw_Z below args s) (F0 m pc ls [.int 1]) := by
  intro T hT X
  obtain ⟨fs, hret, hrun, hended, hW, hframe⟩ := X.leave (v := some (.int 1)) (hlocks := hlocks) (fun h => by rw [hr] at h; cases h)
  have hmeth' : T.vm.method? m = some meth := X.method'
  refine ⟨T.setFrames fs, ?_, .returned (some (.int 1)), hrun, hended, rfl, ⟨_, rfl⟩, hW, hframe⟩
  jvm_step X.here [X.here.top, hx, hb, hdg, hmeth', hr, ret, narrow_b1]
  (try refine ⟨rfl, ?_⟩); (try refine ⟨rfl, ?_⟩)
  first | (intro acts; rw [hret _ acts rfl rfl rfl]) | rw [hret _ _ rfl rfl rfl]
  exact Steps.refl _
section LAWF
variable {own : String} {cc : ByteArray} {nL pc b : Nat} {ls ls' : List (Nat × Value)} {st : List Value}
variable {fr lo n0 n kc ks : Nat} {sh : mS} {G : mG} {I : mI} {J : mJ} {L : Nat} {xs : Nat → Int32} {mc ms : Nat} {Φ : gPost}
theorem g_sld {j : Nat} {i : Int32} (hd : decode cc pc = .ok (.iaload, 1)) (hi : i = nI j) (hj : j < L ∧ L < 2 ^ 31) (hb : pc + 1 = b) (kk : Gj (gL L xs) Φ own cc nL fr lo mc ms n0 n sh G kc ks b ls (.int (xs j) :: st) I J) : Gj (gL L xs) Φ own cc nL fr lo mc ms n0 n sh G kc ks pc ls (.int i :: .ref 1300 :: st) I J := by
  intro p l e R s m args below meth c H locs cells slots la D cA ad0 ad A hfl hΓ hag S hlk hR hkc hks hA hB hC hS hP hD hK hl
  subst hb
  subst hi
  have he : ad 1300 = ad0 1300 := hag 1300 (Or.inr (by decide))
  have kk2 := kk p l e R s m args below meth c H locs cells slots la D cA ad0 ad A hfl hΓ hag S hlk hR hkc hks hA hB hC hS hP hD hK hl
  show W p l e R s m args below meth c H locs cells slots _ (F0 m pc la (.int (nI j) :: .ref (ad 1300) :: st.map (mz ad)))
  rw [he]
  refine va_sld S.1 S.2.1 hΓ.2.2.1 hΓ.2.2.2.1 (fun q => absurd ((hΓ.2.2.2.2 _).mp q) (Nat.not_le.mpr hΓ.2.2.2.1)) hS (vp_in_nI hj.1 hj.2) hd ?_
  rw [nI_clamp (Nat.lt_trans hj.1 hj.2)]
  exact kk2
theorem g_slen (hd : decode cc pc = .ok (.arraylength, 1)) (hb : pc + 1 = b) (kk : Gj (gL L xs) Φ own cc nL fr lo mc ms n0 n sh G kc ks b ls (.int (nI L) :: st) I J) : Gj (gL L xs) Φ own cc nL fr lo mc ms n0 n sh G kc ks pc ls (.ref 1300 :: st) I J := by
  intro p l e R s m args below meth c H locs cells slots la D cA ad0 ad A hfl hΓ hag S hlk hR hkc hks hA hB hC hS hP hD hK hl
  subst hb
  have he : ad 1300 = ad0 1300 := hag 1300 (Or.inr (by decide))
  have kk2 := kk p l e R s m args below meth c H locs cells slots la D cA ad0 ad A hfl hΓ hag S hlk hR hkc hks hA hB hC hS hP hD hK hl
  show W p l e R s m args below meth c H locs cells slots _ (F0 m pc la (.ref (ad 1300) :: st.map (mz ad)))
  rw [he]
  exact va_slen S.1 S.2.1 hΓ.2.2.1 hΓ.2.2.2.1 (fun q => absurd ((hΓ.2.2.2.2 _).mp q) (Nat.not_le.mpr hΓ.2.2.2.1)) hS hd kk2
theorem g_lend (hd : decode cc pc = .ok (.ireturn, 1)) : Gj (gL L xs) gZ own cc nL fr lo 601024 7293034 n0 n sh G kc ks pc ls [.int 1] I J := by
  intro p l e R s m args below meth c H locs cells slots la D cA ad0 ad A hfl hΓ hag S hlk hR hkc hks hA hB hC hS hP hD hK hl
  refine va_forget (fun q hq => (hΓ.2.2.2.2 _).mp (hS.2.2 q hq)) ?_
  refine W.widen (k := 601024) (n := 7293034) (by omega) (by omega) ?_
  exact lw_retR S.1 S.2.1 hΓ.1 hlk hd
end LAWF
theorem s_X7_thrown {n : Nat} {sh : mS} {G : mG} {I : mI} {J : mJ} {m : Nat} (hm : ModG n sh G m) : Sp yX7_thrown cX7_thrown 1 (some FieldType.int) 1 48 0 0 [.ref m] n sh G I J (Qi (fun r_ I_ J_ => I m 6 = r_ ∧ I = I_ ∧ J = J_)) nX := by
  refine Sp.of (by decide) (ls := [(0, .ref m)]) (fun _ => rfl) (fun _ => Nat.le_of_ble_eq_true rfl) ?_
  refine rc_p (p_aload_n 0 (dk_at ktX7_thrown_0 0 rfl) rfl rfl (b := 1) rfl) ?_
  refine r_geti fl_X7_46 rfl hm.l0 hm.s0 (dk_at ktX7_thrown_0 1 rfl) (v := I m 6) rfl (b := 4) rfl ?_
  exact r_iret (dk_at ktX7_thrown_0 2 rfl) rfl rfl ⟨_, rfl, rfl, rfl, rfl⟩
/-- between two calls: both sides at one state σ, one text (T, nn), the same two snapshots -/
def LSt (B : Nat) (I : mI) (σ : sT) (T : tT) (nn : Nat) (sn : Nat → Option sT) : Prop := Inv σ ∧ RelW (I (104 + 1)) σ ∧ RelN 7 I σ B ∧ TR 104 I T nn ∧ TC 1 I T nn ∧ SnR 104 I sn ∧ SnD 103 65 84 I sn B ∧ (∀ k τ, k < 2 → sn k = some τ → Inv τ) ∧ I 104 15 = I 1 6
theorem LSt.go {B B' : Nat} {I I2 : mI} {σ σ' : sT} {T : tT} {nn : Nat} {sn : Nat → Option sT} (h : LSt B I σ T nn sn) (hB : B ≤ B') (hN : RelN 7 I2 σ' B') (hR : RelW (I2 (104 + 1)) σ') (hI : Inv σ') (ho : ∀ b, b = 1 ∨ b = 2 ∨ (65 ≤ b ∧ b < 104) ∨ (108 ≤ b ∧ b < 112) → I2 b = I b) (h1 : I2 104 10 = I 104 10) (h2 : I2 104 15 = I 104 15) : LSt B' I2 σ' T nn sn := by
  obtain ⟨-, -, -, hTR, hTC, hSR, hSD, hSI, hle⟩ := h
  refine ⟨hI, hR, hN, ⟨hTR.1, h1.trans hTR.2.1, fun k hk => ?_⟩, ⟨hTC.1, (congrFun (ho 1 (by omega)) 2).trans hTC.2.1, fun k hk => ?_⟩, hSR.of (ho _ (by omega)) (ho _ (by omega)) (ho _ (by omega)), hSD.of hB (ho _ (by omega)) (fun b _ _ => ho b (by omega)) (fun b _ _ => ho b (by omega)), hSI, h2.trans (hle.trans (congrFun (ho 1 (by omega)) 6).symm)⟩
  · exact (congrFun (ho (104 + 7) (by omega)) k).trans (hTR.2.2 k hk)
  · exact (congrFun (ho (1 + 1) (by omega)) k).trans (hTC.2.2 k hk)
abbrev mF : List Nat := [6, 18, 19, 20, 21, 22, 23, 24, 26, 27]
theorem LSt.st {B B' : Nat} {I I1 I2 : mI} {σ σ' : sT} {T : tT} {nn : Nat} {sn : Nat → Option sT} (h : LSt B I σ T nn sn) (hB : B ≤ B') (hN : RelN 7 I1 σ' B') (hF : FB 7 64 I I1) (hR : RelW (I2 (104 + 1)) σ') (hG : FF 104 [1, 2, 8] mF I1 I2) (hI : Inv σ') : LSt B' I2 σ' T nn sn := by
  have g : ∀ b, b ≠ 104 → b ≠ 105 → b ≠ 106 → b ≠ 112 → I2 b = I1 b := fun b h0 h1 h2 h8 => hG.1 b h0 (fun o ho => by simp at ho; omega)
  refine h.go hB (hN.fr (fun b _ _ => g b (by omega) (by omega) (by omega) (by omega))) hR hI (fun b hb => (g b (by omega) (by omega) (by omega) (by omega)).trans (hF b (by omega))) ?_ ?_
  · exact (hG.2 10 (by simp)).trans (congrFun (hF 104 (by omega)) 10)
  · exact (hG.2 15 (by simp)).trans (congrFun (hF 104 (by omega)) 15)
/-- what a wrapped call leaves: its code, and the answer in the row -/
theorem WQ.std {code ans : Int32} {e T0 o : Nat} {σ σ' : sT} {I I2 : mI} {J J2 : mJ} {fz : Int32 → Int64} {k : Int32} (h : (k = 0 ∧ ∃ r J1, (code = 0 ∧ ans = r ∧ J = J1 ∧ RelN 7 I2 σ' (T0 + e) ∧ FB 7 64 I I2) ∧ J2 = up2 J1 o 0 (fz r)) ∨ (k = code ∧ ¬ code = 0 ∧ I = I2 ∧ J = J2)) (h0 : RelN 7 I σ T0) (hs : ¬ code = 0 → σ' = σ) : k = code ∧ RelN 7 I2 σ' (T0 + e) ∧ FB 7 64 I I2 ∧ (code = 0 → J2 o 0 = fz ans) := by
  rcases h with ⟨rfl, r, J1, ⟨rfl, rfl, rfl, hN, hF⟩, rfl⟩ | ⟨rfl, hc, rfl, rfl⟩
  · exact ⟨rfl, hN, hF, fun _ => up2_s⟩
  · exact ⟨rfl, by rw [hs hc]; exact h0.le (by omega), FB.rf, fun q => absurd q hc⟩
theorem WQ.prd {code ans : Int32} {T0 o : Nat} {σ : sT} {I I2 : mI} {J J2 : mJ} {fz : Int32 → Int64} {k : Int32} (h : (k = 0 ∧ ∃ r J1, (code = 0 ∧ ans = r ∧ J = J1 ∧ FB 26 64 I I2) ∧ J2 = up2 J1 o 0 (fz r)) ∨ (k = code ∧ ¬ code = 0 ∧ I = I2 ∧ J = J2)) (h0 : RelN 7 I σ T0) : k = code ∧ RelN 7 I2 σ (T0 + 0) ∧ FB 7 64 I I2 ∧ (code = 0 → J2 o 0 = fz ans) := by
  rcases h with ⟨rfl, r, J1, ⟨rfl, rfl, rfl, hF⟩, rfl⟩ | ⟨rfl, hc, rfl, rfl⟩
  · exact ⟨rfl, h0.fr (fun b _ _ => hF b (by omega)), hF.mo (by omega) (by omega), fun _ => up2_s⟩
  · exact ⟨rfl, h0, FB.rf, fun q => absurd q hc⟩
/-- the states stay right -/
theorem wd_in {w : Int32} (h : inI w 0 65535 = true) : wd w := by
  unfold inI at h
  rw [Bool.and_eq_true] at h
  have h1 := Int32.le_iff_toInt_le.mp (of_decide_eq_true h.1)
  have h2 := Int32.le_iff_toInt_le.mp (of_decide_eq_true h.2)
  have e1 : (0 : Int32).toInt = 0 := rfl
  have e2 : (65535 : Int32).toInt = 65535 := rfl
  rw [e1] at h1
  rw [e2] at h2
  refine ⟨w.toInt.toNat, by omega, ?_⟩
  apply Int32.toInt_inj.mp
  rw [nI_toInt (by omega)]
  omega
theorem Inv.stg {σ : sT} {w : Int32} (h : Inv σ) : Inv (t_stage σ w) := by
  unfold t_stage
  split
  · next c =>
    split
    · exact h
    · next c2 =>
      have hb := h.bd
      have h2 : Inv (upd σ (19 + nS σ) w) := h.cell (by omega) (wd_in c)
      have hw : nW (upd σ (19 + nS σ) w) = nW σ := by unfold nW; rw [upd_n (by omega)]
      exact h2.z4 (by rw [hw]; omega)
  · exact h
theorem Inv.clr {σ : sT} (h : Inv σ) : Inv (upd σ 4 0) := h.z4 (k := 0) (by have := h.bd; omega)
theorem Inv.pow {σ : sT} {p : Int32} (h : Inv σ) : Inv (t_power σ p) := by
  unfold t_power
  split
  · next c =>
    refine h.p6 ?_
    unfold inI at c
    rw [Bool.and_eq_true] at c
    exact Int32.le_iff_toInt_le.mp (of_decide_eq_true c.1)
  · exact h
theorem Inv.tup {σ : sT} {v : Int32} {thr : Bool} (h : Inv σ) : Inv (t_upd v thr σ) := by
  unfold t_upd
  split
  · exact h.upda
  · exact h
theorem tn_01 {s : Int32} (h : inI s 0 1 = true) : tn s < 2 := by
  unfold inI at h
  rw [Bool.and_eq_true] at h
  have h1 := Int32.le_iff_toInt_le.mp (of_decide_eq_true h.1)
  have h2 := Int32.le_iff_toInt_le.mp (of_decide_eq_true h.2)
  have e1 : (0 : Int32).toInt = 0 := rfl
  have e2 : (1 : Int32).toInt = 1 := rfl
  rw [e1] at h1
  rw [e2] at h2
  have : s = nI s.toInt.toNat := by
    apply Int32.toInt_inj.mp
    rw [nI_toInt (by omega)]
    omega
  rw [this, tn_nI (by omega)]
  omega
theorem Inv.trc {σ : sT} {s v : Int32} (h : Inv σ) : Inv (t_rcv s v σ) := by
  unfold t_rcv
  split
  · next c =>
    refine h.rcv ?_
    unfold cRcv at c
    split at c
    · next c2 => exact tn_01 c2.1
    · exact absurd c (by decide)
  · exact h
theorem Inv.dam {σ : sT} {a : Nat} {k : Int32} (h : Inv σ) (h1 : 19 ≤ a) (h2 : a < 275) : Inv (t_dam σ a k) := h.cell h1 (wd_and (h.2.2.2.1 a h1 h2))
theorem tn_inb {i : Int32} {n : Nat} (hn : n < 2 ^ 31) (h : inb i n = true) : tn i < n := by
  unfold inb at h
  rw [Bool.and_eq_true] at h
  have h1 := Int32.le_iff_toInt_le.mp (of_decide_eq_true h.1)
  have h2 := Int32.lt_iff_toInt_lt.mp (of_decide_eq_true h.2)
  have e1 : (0 : Int32).toInt = 0 := rfl
  rw [e1] at h1
  rw [nI_toInt hn] at h2
  have : i = nI i.toInt.toNat := by
    apply Int32.toInt_inj.mp
    rw [nI_toInt (by omega)]
    omega
  rw [this, tn_nI (by omega)]
  omega
theorem Inv.dms {σ : sT} {s i k : Int32} (h : Inv σ) : Inv (t_dams σ s i k) := by
  unfold t_dams
  split
  · next c =>
    unfold cDam at c
    split at c
    · next c2 =>
      split at c
      · next c3 =>
        have := h.bd
        have := tn_01 c2.1
        have := tn_inb (by omega) c3
        exact h.dam (by omega) (by omega)
      · exact absurd c (by decide)
    · exact absurd c (by decide)
  · exact h
theorem Inv.dmj {σ : sT} {s i k : Int32} (h : Inv σ) : Inv (t_damj σ s i k) := by
  unfold t_damj
  split
  · next c =>
    unfold cDam at c
    split at c
    · next c2 =>
      split at c
      · next c3 =>
        have := h.bd
        have := tn_01 c2.1
        have := tn_inb (by omega) c3
        exact h.dam (by omega) (by omega)
      · exact absurd c (by decide)
    · exact absurd c (by decide)
  · exact h
theorem cIn_2 {v a b : Int32} : ¬ cIn v a b = 2 := by unfold cIn; split <;> decide
theorem cRcv_2 {a b : Int32} : ¬ cRcv a b = 2 := by unfold cRcv; split <;> decide
theorem cSac_2 {a b : Int32} : ¬ cSac a b = 2 := by unfold cSac; split <;> decide
theorem cTwo_2 {a b c : Int32} : ¬ cTwo a b c = 2 := by unfold cTwo; split <;> decide
theorem cTac_2 {a b c : Int32} : ¬ cTac a b c = 2 := by unfold cTac; split <;> decide
theorem cIn_no {v a b : Int32} (h : ¬ cIn v a b = 0) : ¬ inI v a b = true := fun q => h (by unfold cIn; rw [if_pos q])
theorem stg_no {σ : sT} {w : Int32} (h : ¬ cIn w 0 65535 = 0) : t_stage σ w = σ := if_neg (cIn_no h)
theorem pow_no {σ : sT} {p : Int32} (h : ¬ cIn p (-1) 100000 = 0) : t_power σ p = σ := if_neg (cIn_no h)
theorem upd_no {σ : sT} {v : Int32} {thr : Bool} (h : ¬ cIn v 1 255 = 0) : t_upd v thr σ = σ := if_neg (cIn_no h)

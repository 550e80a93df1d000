/-! THE LAW: what it knows of the class between two calls, rows for its calls -/
/-- the states stay right -/
theorem wd_in {w : Int32} (h : inI w 0 65535 = true) : wd w := by
  unfold inI at h
  rw [Bool.and_eq_true] at h
  have h1 := Int32.le_iff_toInt_le.mp (of_decide_eq_true h.1)
  have h2 := Int32.le_iff_toInt_le.mp (of_decide_eq_true h.2)
  have e1 : (0 : Int32).toInt = 0 := rfl
  have e2 : (65535 : Int32).toInt = 65535 := rfl
  rw [e1] at h1
  rw [e2] at h2
  refine ⟨w.toInt.toNat, by omega, ?_⟩
  apply Int32.toInt_inj.mp
  rw [nI_toInt (by omega)]
  omega
theorem Inv.stg {σ : sT} {w : Int32} (h : Inv σ) : Inv (t_stage σ w) := by
  unfold t_stage
  split
  · next c =>
    split
    · exact h
    · next c2 =>
      have hb := h.bd
      have h2 : Inv (upd σ (19 + nS σ) w) := h.cell (by omega) (wd_in c)
      have hw : nW (upd σ (19 + nS σ) w) = nW σ := by unfold nW; rw [upd_n (by omega)]
      exact h2.z4 (by rw [hw]; omega)
  · exact h
theorem Inv.clr {σ : sT} (h : Inv σ) : Inv (upd σ 4 0) := h.z4 (k := 0) (by have := h.bd; omega)
theorem Inv.pow {σ : sT} {p : Int32} (h : Inv σ) : Inv (t_power σ p) := by
  unfold t_power
  split
  · next c =>
    refine h.p6 ?_
    unfold inI at c
    rw [Bool.and_eq_true] at c
    exact Int32.le_iff_toInt_le.mp (of_decide_eq_true c.1)
  · exact h
theorem Inv.tup {σ : sT} {v : Int32} {thr : Bool} (h : Inv σ) : Inv (t_upd v thr σ) := by
  unfold t_upd
  split
  · exact h.upda
  · exact h
theorem tn_01 {s : Int32} (h : inI s 0 1 = true) : tn s < 2 := by
  unfold inI at h
  rw [Bool.and_eq_true] at h
  have h1 := Int32.le_iff_toInt_le.mp (of_decide_eq_true h.1)
  have h2 := Int32.le_iff_toInt_le.mp (of_decide_eq_true h.2)
  have e1 : (0 : Int32).toInt = 0 := rfl
  have e2 : (1 : Int32).toInt = 1 := rfl
  rw [e1] at h1
  rw [e2] at h2
  have : s = nI s.toInt.toNat := by
    apply Int32.toInt_inj.mp
    rw [nI_toInt (by omega)]
    omega
  rw [this, tn_nI (by omega)]
  omega
theorem Inv.trc {σ : sT} {s v : Int32} (h : Inv σ) : Inv (t_rcv s v σ) := by
  unfold t_rcv
  split
  · next c =>
    refine h.rcv ?_
    unfold cRcv at c
    split at c
    · next c2 => exact tn_01 c2.1
    · exact absurd c (by decide)
  · exact h
theorem Inv.dam {σ : sT} {a : Nat} {k : Int32} (h : Inv σ) (h1 : 19 ≤ a) (h2 : a < 275) : Inv (t_dam σ a k) := h.cell h1 (wd_and (h.2.2.2.1 a h1 h2))
theorem tn_inb {i : Int32} {n : Nat} (hn : n < 2 ^ 31) (h : inb i n = true) : tn i < n := by
  unfold inb at h
  rw [Bool.and_eq_true] at h
  have h1 := Int32.le_iff_toInt_le.mp (of_decide_eq_true h.1)
  have h2 := Int32.lt_iff_toInt_lt.mp (of_decide_eq_true h.2)
  have e1 : (0 : Int32).toInt = 0 := rfl
  rw [e1] at h1
  rw [nI_toInt hn] at h2
  have : i = nI i.toInt.toNat := by
    apply Int32.toInt_inj.mp
    rw [nI_toInt (by omega)]
    omega
  rw [this, tn_nI (by omega)]
  omega
theorem Inv.dms {σ : sT} {s i k : Int32} (h : Inv σ) : Inv (t_dams σ s i k) := by
  unfold t_dams
  split
  · next c =>
    unfold cDam at c
    split at c
    · next c2 =>
      split at c
      · next c3 =>
        have := h.bd
        have := tn_01 c2.1
        have := tn_inb (by omega) c3
        exact h.dam (by omega) (by omega)
      · exact absurd c (by decide)
    · exact absurd c (by decide)
  · exact h
theorem Inv.dmj {σ : sT} {s i k : Int32} (h : Inv σ) : Inv (t_damj σ s i k) := by
  unfold t_damj
  split
  · next c =>
    unfold cDam at c
    split at c
    · next c2 =>
      split at c
      · next c3 =>
        have := h.bd
        have := tn_01 c2.1
        have := tn_inb (by omega) c3
        exact h.dam (by omega) (by omega)
      · exact absurd c (by decide)
    · exact absurd c (by decide)
  · exact h
abbrev Bt (n : Nat) (sh : mS) (G : mG) : Prop := BootH n sh G 0 1 7 26 45 64 65 84 103
def LwR (B : Nat) (I : mI) (σ : sT) (sn : Nat → Option sT) : Prop := RelN 7 I σ B ∧ SnD 103 65 84 I sn B
theorem LwR.le {B B' : Nat} {I : mI} {σ : sT} {sn : Nat → Option sT} (h : LwR B I σ sn) (hb : B ≤ B') : LwR B' I σ sn := ⟨h.1.le hb, h.2.of hb rfl (fun _ _ _ => rfl) (fun _ _ _ => rfl)⟩
theorem LwR.go {B B' : Nat} {I I1 : mI} {σ σ' : sT} {sn : Nat → Option sT} (h : LwR B I σ sn) (hN : RelN 7 I1 σ' B') (hF : FB 7 64 I I1) (hb : B ≤ B') : LwR B' I1 σ' sn := ⟨hN, h.2.of hb (hF _ (by omega)) (fun b _ _ => hF b (by omega)) (fun b _ _ => hF b (by omega))⟩
theorem LwR.prd {B : Nat} {I I1 : mI} {σ : sT} {sn : Nat → Option sT} (h : LwR B I σ sn) (hF : FB 26 64 I I1) : LwR B I1 σ sn := ⟨h.1.fr (fun b _ _ => hF b (by omega)), h.2.of (Nat.le_refl _) (hF _ (by omega)) (fun b _ _ => hF b (by omega)) (fun b _ _ => hF b (by omega))⟩
section LROWS
variable {own : String} {cc : ByteArray} {nL pc b : Nat} {ls ls' : List (Nat × Value)} {st rest : List Value}
variable {ret : Option FieldType} {fr lo mc ms n kc ks kc' ks' : Nat} {sh : mS} {G : mG} {Q : Option Value → mI → mJ → Prop} {X : String → mI → mJ → Prop} {I : mI} {J : mJ}
variable {y : MethodName} {cb : ByteArray} {nb : Nat} {rb : Option FieldType} {fr' lo' mc' ms' nA ix : Nat} {As' : List Value}
variable {B : Nat} {σ : sT} {sn : Nat → Option sT}
theorem q_plain {ans : Int32} {σ' : sT} {e : Nat} (hs : ∀ T N, T ≤ B → RelD 7 I σ T N → Sp y cb nb rb fr' lo' 0 0 (.ref 0 :: As') n sh G I J (Qi (fun r_ I_ J_ => ans = r_ ∧ J = J_ ∧ RelN 7 I_ σ' (T + e) ∧ FB 7 64 I I_)) nX) (hL : LwR B I σ sn) (hB : Bt n sh G) (hw : cw own ix y cb nb rb nA) (hin : Cond.instanceMethod y ∈ TT) (hsel : Cond.selects RX6 y y ∈ TT) (hd : decode cc pc = .ok (.invokevirtual ix, 3)) (hn : As'.length = nA) (hstk : st = As'.reverse ++ .ref 0 :: rest) (hcat : (rest.map fun v => v.category).sum ≤ 8) (hroom : fr' + 1 ≤ fr ∧ nb + 19 + lo' ≤ lo) (hb : pc + 3 = b)
    (kk : ∀ I1, LwR (B + e) I1 σ' sn → Rc own cc nL ret fr lo mc ms n sh G Q X kc ks b ls (.int ans :: rest) I1 J) : Rc own cc nL ret fr lo mc ms n sh G Q X kc ks pc ls st I J := by
  obtain ⟨T, N, hT, hR⟩ := hL.1
  refine r_callV (hs T N hT hR) hw hin hsel (ci := 9) (N := 6) (C := RX6) (T := TX6) rfl hB.l0 hB.s0 hd hn hstk hcat ⟨hroom.1, hroom.2, Nat.zero_le _, Nat.zero_le _⟩ hb (fun _ _ _ h => h.elim) (fun r I1 J1 h => ?_)
  obtain ⟨v, rfl, rfl, rfl, hN, hF⟩ := h
  exact kk I1 (hL.go (hN.le (by omega)) hF (by omega))
theorem q_code {ans code : Int32} {σ' : sT} {e : Nat} (hs : ∀ T N, T ≤ B → RelD 7 I σ T N → Sp y cb nb rb fr' lo' mc' ms' (.ref 0 :: As') n sh G I J (Qi (fun r_ I_ J_ => code = 0 ∧ ans = r_ ∧ J = J_ ∧ RelN 7 I_ σ' (T + e) ∧ FB 7 64 I I_)) (eX code I J)) (hL : LwR B I σ sn) (hc : code = 0) (hB : Bt n sh G) (hw : cw own ix y cb nb rb nA) (hin : Cond.instanceMethod y ∈ TT) (hsel : Cond.selects RX6 y y ∈ TT) (hd : decode cc pc = .ok (.invokevirtual ix, 3)) (hn : As'.length = nA) (hstk : st = As'.reverse ++ .ref 0 :: rest) (hcat : (rest.map fun v => v.category).sum ≤ 8) (hroom : fr' + 1 ≤ fr ∧ nb + 19 + lo' ≤ lo) (hb : pc + 3 = b) (h1 : kc' + mc' ≤ kc) (h2 : ks' + ms' ≤ ks)
    (kk : ∀ I1, LwR (B + e) I1 σ' sn → Rc own cc nL ret fr lo mc ms n sh G Q X kc' ks' b ls (.int ans :: rest) I1 J) : Rc own cc nL ret fr lo mc ms n sh G Q X kc ks pc ls st I J := by
  obtain ⟨T, N, hT, hR⟩ := hL.1
  refine r_callV (hs T N hT hR) hw hin hsel (ci := 9) (N := 6) (C := RX6) (T := TX6) rfl hB.l0 hB.s0 hd hn hstk hcat ⟨hroom.1, hroom.2, by omega, by omega⟩ hb (fun _ _ _ h => False.elim (h.1.elim (fun q => absurd (hc.symm.trans q.2) (by decide)) (fun q => absurd (hc.symm.trans q.2) (by decide)))) (fun r I1 J1 h => ?_)
  obtain ⟨v, rfl, -, rfl, rfl, hN, hF⟩ := h
  exact rc_weak (by omega) (by omega) (kk I1 (hL.go (hN.le (by omega)) hF (by omega)))
theorem q_prd {ans : Int32} (hs : ∀ T N, T ≤ B → RelD 7 I σ T N → Sp y cb nb rb fr' lo' 0 0 (.ref 0 :: As') n sh G I J (Qi (fun r_ I_ J_ => ans = r_ ∧ J = J_ ∧ FB 26 64 I I_)) nX) (hL : LwR B I σ sn) (hB : Bt n sh G) (hw : cw own ix y cb nb rb nA) (hin : Cond.instanceMethod y ∈ TT) (hsel : Cond.selects RX6 y y ∈ TT) (hd : decode cc pc = .ok (.invokevirtual ix, 3)) (hn : As'.length = nA) (hstk : st = As'.reverse ++ .ref 0 :: rest) (hcat : (rest.map fun v => v.category).sum ≤ 8) (hroom : fr' + 1 ≤ fr ∧ nb + 19 + lo' ≤ lo) (hb : pc + 3 = b)
    (kk : ∀ I1, LwR B I1 σ sn → Rc own cc nL ret fr lo mc ms n sh G Q X kc ks b ls (.int ans :: rest) I1 J) : Rc own cc nL ret fr lo mc ms n sh G Q X kc ks pc ls st I J := by
  obtain ⟨T, N, hT, hR⟩ := hL.1
  refine r_callV (hs T N hT hR) hw hin hsel (ci := 9) (N := 6) (C := RX6) (T := TX6) rfl hB.l0 hB.s0 hd hn hstk hcat ⟨hroom.1, hroom.2, Nat.zero_le _, Nat.zero_le _⟩ hb (fun _ _ _ h => h.elim) (fun r I1 J1 h => ?_)
  obtain ⟨v, rfl, rfl, rfl, hF⟩ := h
  exact kk I1 (hL.prd hF)
theorem q_prc {ans code : Int32} (hs : ∀ T N, T ≤ B → RelD 7 I σ T N → Sp y cb nb rb fr' lo' mc' ms' (.ref 0 :: As') n sh G I J (Qi (fun r_ I_ J_ => code = 0 ∧ ans = r_ ∧ J = J_ ∧ FB 26 64 I I_)) (eX code I J)) (hL : LwR B I σ sn) (hc : code = 0) (hB : Bt n sh G) (hw : cw own ix y cb nb rb nA) (hin : Cond.instanceMethod y ∈ TT) (hsel : Cond.selects RX6 y y ∈ TT) (hd : decode cc pc = .ok (.invokevirtual ix, 3)) (hn : As'.length = nA) (hstk : st = As'.reverse ++ .ref 0 :: rest) (hcat : (rest.map fun v => v.category).sum ≤ 8) (hroom : fr' + 1 ≤ fr ∧ nb + 19 + lo' ≤ lo) (hb : pc + 3 = b) (h1 : kc' + mc' ≤ kc) (h2 : ks' + ms' ≤ ks)
    (kk : ∀ I1, LwR B I1 σ sn → Rc own cc nL ret fr lo mc ms n sh G Q X kc' ks' b ls (.int ans :: rest) I1 J) : Rc own cc nL ret fr lo mc ms n sh G Q X kc ks pc ls st I J := by
  obtain ⟨T, N, hT, hR⟩ := hL.1
  refine r_callV (hs T N hT hR) hw hin hsel (ci := 9) (N := 6) (C := RX6) (T := TX6) rfl hB.l0 hB.s0 hd hn hstk hcat ⟨hroom.1, hroom.2, by omega, by omega⟩ hb (fun _ _ _ h => False.elim (h.1.elim (fun q => absurd (hc.symm.trans q.2) (by decide)) (fun q => absurd (hc.symm.trans q.2) (by decide)))) (fun r I1 J1 h => ?_)
  obtain ⟨v, rfl, -, rfl, rfl, hF⟩ := h
  exact rc_weak (by omega) (by omega) (kk I1 (hL.prd hF))
theorem q_sav {ans code s : Int32} (hs : ∀ T N, T ≤ B → RelD 7 I σ T N → Sp y cb nb rb fr' lo' mc' ms' (.ref 0 :: As') n sh G I J (Qi (fun r_ I_ J_ => code = 0 ∧ ans = r_ ∧ J = J_ ∧ RelN 7 I_ σ T ∧ SnD 103 65 84 I_ (svS s σ sn) B ∧ FB 65 104 I I_)) (eX code I J)) (hL : LwR B I σ sn) (hc : code = 0) (hB : Bt n sh G) (hw : cw own ix y cb nb rb nA) (hin : Cond.instanceMethod y ∈ TT) (hsel : Cond.selects RX6 y y ∈ TT) (hd : decode cc pc = .ok (.invokevirtual ix, 3)) (hn : As'.length = nA) (hstk : st = As'.reverse ++ .ref 0 :: rest) (hcat : (rest.map fun v => v.category).sum ≤ 8) (hroom : fr' + 1 ≤ fr ∧ nb + 19 + lo' ≤ lo) (hb : pc + 3 = b) (h1 : kc' + mc' ≤ kc) (h2 : ks' + ms' ≤ ks)
    (kk : ∀ I1, LwR B I1 σ (svS s σ sn) → Rc own cc nL ret fr lo mc ms n sh G Q X kc' ks' b ls (.int ans :: rest) I1 J) : Rc own cc nL ret fr lo mc ms n sh G Q X kc ks pc ls st I J := by
  obtain ⟨T, N, hT, hR⟩ := hL.1
  refine r_callV (hs T N hT hR) hw hin hsel (ci := 9) (N := 6) (C := RX6) (T := TX6) rfl hB.l0 hB.s0 hd hn hstk hcat ⟨hroom.1, hroom.2, by omega, by omega⟩ hb (fun _ _ _ h => False.elim (h.1.elim (fun q => absurd (hc.symm.trans q.2) (by decide)) (fun q => absurd (hc.symm.trans q.2) (by decide)))) (fun r I1 J1 h => ?_)
  obtain ⟨v, rfl, -, rfl, rfl, hN, hS, hF⟩ := h
  exact rc_weak (by omega) (by omega) (kk I1 ⟨hN.le hT, hS⟩)
theorem q_res {ans code s : Int32} (hs : ∀ T N, T ≤ B → RelD 7 I σ T N → Sp y cb nb rb fr' lo' mc' ms' (.ref 0 :: As') n sh G I J (Qi (fun r_ I_ J_ => code = 0 ∧ ans = r_ ∧ J = J_ ∧ RelN 7 I_ (rsT s σ sn) B ∧ FB 7 64 I I_)) (eX code I J)) (hL : LwR B I σ sn) (hc : code = 0) (hB : Bt n sh G) (hw : cw own ix y cb nb rb nA) (hin : Cond.instanceMethod y ∈ TT) (hsel : Cond.selects RX6 y y ∈ TT) (hd : decode cc pc = .ok (.invokevirtual ix, 3)) (hn : As'.length = nA) (hstk : st = As'.reverse ++ .ref 0 :: rest) (hcat : (rest.map fun v => v.category).sum ≤ 8) (hroom : fr' + 1 ≤ fr ∧ nb + 19 + lo' ≤ lo) (hb : pc + 3 = b) (h1 : kc' + mc' ≤ kc) (h2 : ks' + ms' ≤ ks)
    (kk : ∀ I1, LwR B I1 (rsT s σ sn) sn → Rc own cc nL ret fr lo mc ms n sh G Q X kc' ks' b ls (.int ans :: rest) I1 J) : Rc own cc nL ret fr lo mc ms n sh G Q X kc ks pc ls st I J := by
  obtain ⟨T, N, hT, hR⟩ := hL.1
  refine r_callV (hs T N hT hR) hw hin hsel (ci := 9) (N := 6) (C := RX6) (T := TX6) rfl hB.l0 hB.s0 hd hn hstk hcat ⟨hroom.1, hroom.2, by omega, by omega⟩ hb (fun _ _ _ h => False.elim (h.1.elim (fun q => absurd (hc.symm.trans q.2) (by decide)) (fun q => absurd (hc.symm.trans q.2) (by decide)))) (fun r I1 J1 h => ?_)
  obtain ⟨v, rfl, -, rfl, rfl, hN, hF⟩ := h
  exact rc_weak (by omega) (by omega) (kk I1 (hL.go hN hF (Nat.le_refl _)))
theorem r_lV {A : Nat} {P : Int64 → mI → mJ → Prop} (hs : Sp y cb nb rb fr' lo' mc' ms' As' n sh G I J (fun r I_ J_ => ∃ v : Int64, r = some (.long v) ∧ P v I_ J_) nX) (hw : cw own ix y cb nb rb nA) (hst : Cond.static y ∈ TT) (hd : decode cc pc = .ok (.invokestatic ix, 3)) (hn : As'.length = nA) (hstk : st = As'.reverse ++ rest) (hcat : (rest.map fun v => v.category).sum ≤ 8) (hroom : fr' + 1 ≤ fr ∧ nb + 19 + lo' ≤ lo) (hb : pc + 3 = b) (h1 : kc' + mc' ≤ kc) (h2 : ks' + ms' ≤ ks)
    (kk : ∀ v I1 J1, P v I1 J1 → Rc own cc nL ret fr lo mc ms n sh G Q X kc' ks' b ls (.long v :: rest) I1 J1) : Rc own cc nL ret fr lo mc ms n sh G Q X kc ks pc ls st I J :=
  r_callS hs hw hst hd hn hstk hcat ⟨hroom.1, hroom.2, by omega, by omega⟩ hb (fun _ _ _ h => h.elim) (fun r I1 J1 h => by
    obtain ⟨v, rfl, hP⟩ := h
    exact rc_weak (by omega) (by omega) (kk v I1 J1 hP))
theorem r_iSB {P : Int32 → mI → mJ → Prop} (hs : Sp y cb nb rb fr' lo' mc' ms' As' n sh G I J (Qi P) nX) (hw : cw own ix y cb nb rb nA) (hst : Cond.static y ∈ TT) (hd : decode cc pc = .ok (.invokestatic ix, 3)) (hn : As'.length = nA) (hstk : st = As'.reverse ++ rest) (hcat : (rest.map fun v => v.category).sum ≤ 8) (hroom : fr' + 1 ≤ fr ∧ nb + 19 + lo' ≤ lo) (hb : pc + 3 = b) (h1 : kc' + mc' ≤ kc) (h2 : ks' + ms' ≤ ks)
    (kk : ∀ v I1 J1, P v I1 J1 → Rc own cc nL ret fr lo mc ms n sh G Q X kc' ks' b ls (.int v :: rest) I1 J1) : Rc own cc nL ret fr lo mc ms n sh G Q X kc ks pc ls st I J :=
  r_callS hs hw hst hd hn hstk hcat ⟨hroom.1, hroom.2, by omega, by omega⟩ hb (fun _ _ _ h => h.elim) (fun r I1 J1 h => by
    obtain ⟨v, rfl, hP⟩ := h
    exact rc_weak (by omega) (by omega) (kk v I1 J1 hP))
/-- the script: its length, or one of its ints -/
theorem r_script {j : Nat} (hj : j < 1000) (hls : ls = [(0, .ref 1300), (1, .int (nI j))]) (d0 : decode cc 0 = .ok (.aload_n 0, 1)) (d1 : decode cc 1 = .ok (.arraylength, 1)) (d2 : decode cc 2 = .ok (.ifCond .ne 7, 3)) (d9 : decode cc 9 = .ok (.aload_n 0, 1)) (d10 : decode cc 10 = .ok (.iload_n 1, 1)) (d11 : decode cc 11 = .ok (.aload_n 0, 1)) (d12 : decode cc 12 = .ok (.arraylength, 1)) (d13 : decode cc 13 = .ok (.irem, 1)) (d14 : decode cc 14 = .ok (.iaload, 1))
    (k1 : Rc own cc nL ret fr lo mc ms n sh G Q X kc ks 5 ls [] I J) (k2 : ∀ x, Rc own cc nL ret fr lo mc ms n sh G Q X kc ks 15 ls [.int x] I J) : Rc own cc nL ret fr lo mc ms n sh G Q X kc ks 0 ls [] I J := by
  intro p l e R s m args below meth c H locs cells slots la D cA ad A hfl S hr hlk hxt hR hkc hks hA hB hS hP hD hK hl
  obtain ⟨L, xs, hL, hT⟩ := hB.2.2.2.2.2.2.2.2.2.2.2.2.2
  have hk1 := k1 p l e R s m args below meth c H locs cells slots la D cA ad A hfl S hr hlk hxt hR hkc hks hA hB hS hP hD hK hl
  have hk2 := fun x => k2 x p l e R s m args below meth c H locs cells slots la D cA ad A hfl S hr hlk hxt hR hkc hks hA hB hS hP hD hK hl
  subst hls
  have l0 : la[0]? = some (.val (.ref (ad 1300))) := lv_at hl 0 rfl
  have l1 : la[1]? = some (.val (.int (nI j))) := lv_at hl 1 rfl
  refine lv_aload_n S.1 S.2.1 d0 (i := 0) rfl l0 ?_
  refine va_tlen S.1 S.2.1 hT hS (v := nI L) rfl d1 ?_
  refine lv_if_ne S.1 S.2.1 (tgt := 9) d2 (by decide) (fun q => ?_) (fun q => hk1)
  have hL0 : 0 < L := by
    rcases Nat.eq_zero_or_pos L with g | g
    · exact absurd (by rw [g]; rfl) q
    · exact g
  refine lv_aload_n S.1 S.2.1 d9 (i := 0) rfl l0 ?_
  refine lv_iload_n S.1 S.2.1 d10 (i := 1) rfl l1 ?_
  refine lv_aload_n S.1 S.2.1 d11 (i := 0) rfl l0 ?_
  refine va_tlen S.1 S.2.1 hT hS (v := nI L) rfl d12 ?_
  refine lv_irem S.1 S.2.1 d13 (nI_ne0 hL0 (by omega)) ?_
  rw [pk_rem (by omega) hL0 (by omega)]
  have hm : j % L < L := Nat.mod_lt _ hL0
  refine va_ti S.1 S.2.1 hT hS (i := nI (j % L)) (vp_in_nI hm (by omega)) (v := .int (xs (j % L))) (by rw [nI_clamp (by omega)]) d14 ?_
  exact hk2 _
end LROWS

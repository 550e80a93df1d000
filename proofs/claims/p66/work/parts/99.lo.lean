/-! THE LAW'S OWN FRAME, and its body -/
def gLw : gCtx := fun _ _ s _ args meth _ ad0 A => meth.sig.returnType = ret ∧ args = #[.ref (ad0 1300)] ∧ ∀ q, A q ↔ s.heap.size ≤ q
def gZ : gPost := fun _ _ _ _ below args s => lw_Z below args s
theorem lw_retR {p : Program} {l : Launch} {e : Env} {R : Room} {s : State} {m : MethodId} {args : Array Value} {below : List Frame} {meth : Method} {c : Code} {cc : ByteArray} (hx : p.tables.exec = Jvm.exec) (hb : c.code = cc) (hr : meth.sig.returnType = ret) (hlocks : meth.locks = false) {pc : Nat} {H : Heap} {ls : Array Slot} (hdg : decode cc pc = .ok (.ireturn, 1)) : W p l e R s m args below meth c H [] 600130 7301080 (lw_Z below args s) (F0 m pc ls [.int 1]) := by
  intro T hT X
  obtain ⟨fs, hret, hrun, hended, hW, hframe⟩ := X.leave (v := some (.int 1)) (hlocks := hlocks) (fun h => by rw [hr] at h; cases h)
  have hmeth' : T.vm.method? m = some meth := X.method'
  refine ⟨T.setFrames fs, ?_, .returned (some (.int 1)), hrun, hended, rfl, ⟨_, rfl⟩, hW, hframe⟩
  jvm_step X.here [X.here.top, hx, hb, hdg, hmeth', hr, ret, narrow_b1]
  (try refine ⟨rfl, ?_⟩); (try refine ⟨rfl, ?_⟩)
  first | (intro acts; rw [hret _ acts rfl rfl rfl]) | rw [hret _ _ rfl rfl rfl]
  exact Steps.refl _
theorem g_lend {own : String} {cc : ByteArray} {nL pc : Nat} {ls : List (Nat × Value)} {fr lo n0 n kc ks : Nat} {sh : mS} {G : mG} {I : mI} {J : mJ} (hd : decode cc pc = .ok (.ireturn, 1)) : Gj gLw gZ own cc nL fr lo 600130 7301080 n0 n sh G kc ks pc ls [.int 1] I J := by
  intro p l e R s m args below meth c H locs cells slots la D cA ad0 ad A hfl hΓ hag S hlk hR hkc hks hA hB hC hS hP hD hK hl
  refine va_forget (fun q hq => (hΓ.2.2 _).mp (hS.2.2 q hq)) ?_
  refine W.widen (k := 600130) (n := 7301080) (by omega) (by omega) ?_
  exact lw_retR S.1 S.2.1 hΓ.1 hlk hd
theorem RefA.up {n n' a t len : Nat} {sh : mS} (h : RefA n sh a t len) (hn : n ≤ n') : RefA n' sh a t len := ⟨Nat.lt_of_lt_of_le h.1 hn, h.2⟩
theorem Bt.up {n n' : Nat} {sh : mS} {G G' : mG} (h : Bt n sh G) (hn : n ≤ n') (hG : ∀ b, b < 104 → G' b = G b) : Bt n' sh G' := by
  obtain ⟨b1, b2, b3, b4, b5, b6, b7, b8, b9, ⟨r1, r2, r3, r4, r5, r6, r7, r8⟩, b10⟩ := h
  exact ⟨⟨by omega, b1.2⟩, b2.mono hn (fun id _ h => hG id (by omega)), b3.mono hn (fun id _ h => hG id (by omega)), b4.mono hn (fun id _ h => hG id (by omega)), b5.mono hn (fun id _ h => hG id (by omega)), b6.up hn, b7.mono hn (fun id _ h => hG id (by omega)), b8.mono hn (fun id _ h => hG id (by omega)), b9.up hn, ⟨by rw [hG 0 (by omega)]; exact r1, by rw [hG 0 (by omega)]; exact r2, by rw [hG 0 (by omega)]; exact r3, by rw [hG 0 (by omega)]; exact r4, by rw [hG 0 (by omega)]; exact r5, by rw [hG 0 (by omega)]; exact r6, by rw [hG 64 (by omega)]; exact r7, by rw [hG 64 (by omega)]; exact r8⟩, b10⟩

set_option maxRecDepth 8000 in
set_option maxHeartbeats 4000000 in
theorem law_tail {n : Nat} {sh : mS} {G : mG} {I : mI} {J : mJ} (hB : Bt n sh G) {B : Nat} {σ : sT} {sn : Nat → Option sT} (hL : LwR B I σ sn) (hS : St B σ) (hBb : B + 200 < 1000000) : Gj gLw gZ RL cL_law 4 11 424 600130 7301080 0 n sh G 1600 9600 165 [(0, .ref 1300), (1, .ref 0)] [] I J := by
  obtain ⟨T0, hT0, hLG⟩ := hS.2.2.1
  refine gc_p (p_aload_n 1 (dk_at ktL_law_1 34 rfl) rfl rfl (b := 166) rfl) ?_
  refine g_callS (As := [.ref 0]) (rest := []) (s_L_isTold hB hL hS.1 hS.2.1 hLG (by omega) (E := B) (by omega) hS.2.2.2) cwL_isTold qs_L_isTold (dk_at ktL_law_1 35 rfl) rfl rfl (Nat.le_of_ble_eq_true rfl) ⟨by decide, by decide, by first | decide | omega, by first | decide | omega⟩ (b := 169) rfl (fun rr0 I0_ J0_ hq0 => ?_)
  obtain ⟨v_, rfl, rfl, rfl, hL1⟩ := hq0
  refine g_if_eq (dk_at ktL_law_1 36 rfl) (b := 218) (by decide) (b2 := 172) rfl (fun c169 => ?_) (fun c169 => ?_)
  · first | exact absurd c169 (by decide) | exact absurd (by decide) c169
  · skip
    refine gc_p (p_aload_n 1 (dk_at ktL_law_1 37 rfl) rfl rfl (b := 173) rfl) ?_
    refine g_callS (As := [.ref 0]) (rest := []) (s_L_boots hB hL1 hS.1 hS.2.1 (by omega)) cwL_boots qs_L_boots (dk_at ktL_law_1 38 rfl) rfl rfl (Nat.le_of_ble_eq_true rfl) ⟨by decide, by decide, by first | decide | omega, by first | decide | omega⟩ (b := 176) rfl (fun rr1 I1_ J1_ hq1 => ?_)
    obtain ⟨v_, rfl, rfl, rfl, sn1, hL2⟩ := hq1
    refine g_if_eq (dk_at ktL_law_1 39 rfl) (b := 218) (by decide) (b2 := 179) rfl (fun c176 => ?_) (fun c176 => ?_)
    · first | exact absurd c176 (by decide) | exact absurd (by decide) c176
    · skip
      refine gc_p (p_aload_n 1 (dk_at ktL_law_1 40 rfl) rfl rfl (b := 180) rfl) ?_
      refine gc_p (p_iconst (v := 1) (dk_at ktL_law_1 41 rfl) (by decide) (b := 181) rfl) ?_
      refine gc_p (p_aload_n 0 (dk_at ktL_law_1 42 rfl) rfl rfl (b := 182) rfl) ?_
      refine gc_p (p_bipush (v := 8) (dk_at ktL_law_1 43 rfl) (by decide) (b := 184) rfl) ?_
      refine g_callS (As := [.ref 1300, .int 8]) (rest := [.int 1, .ref 0]) (s_L_cell (i := 8) (by omega)) cwL_cell qs_L_cell (dk_at ktL_law_1 44 rfl) rfl rfl (Nat.le_of_ble_eq_true rfl) ⟨by decide, by decide, by first | decide | omega, by first | decide | omega⟩ (b := 187) rfl (fun rr2 I2_ J2_ hq2 => ?_)
      obtain ⟨v_, rfl, ⟨x8, hx8, rfl⟩, rfl, rfl⟩ := hq2
      refine gc_p (p_sipush (v := 255) (dk_at ktL_law_1 45 rfl) (by decide) (b := 190) rfl) ?_
      refine gc_p (p_irem (v := (nI (x8 % 255))) (dk_at ktL_law_1 46 rfl) (by decide) (pk_rem (a := x8) (d := 255) (by omega) (by decide) (by decide)) (b := 191) rfl) ?_
      refine gc_p (p_iadd (v := (nI (1 + (x8 % 255)))) (dk_at ktL_law_1 47 rfl) (nI_add 1 (x8 % 255)) (b := 192) rfl) ?_
      refine gc_p (p_aload_n 0 (dk_at ktL_law_1 48 rfl) rfl rfl (b := 193) rfl) ?_
      refine gc_p (p_bipush (v := 9) (dk_at ktL_law_1 49 rfl) (by decide) (b := 195) rfl) ?_
      refine g_callS (As := [.ref 1300, .int 9]) (rest := [.int (nI (1 + (x8 % 255))), .ref 0]) (s_L_cell (i := 9) (by omega)) cwL_cell qs_L_cell (dk_at ktL_law_1 50 rfl) rfl rfl (Nat.le_of_ble_eq_true rfl) ⟨by decide, by decide, by first | decide | omega, by first | decide | omega⟩ (b := 198) rfl (fun rr3 I3_ J3_ hq3 => ?_)
      obtain ⟨v_, rfl, ⟨x9, hx9, rfl⟩, rfl, rfl⟩ := hq3
      refine gc_p (p_bipush (v := 24) (dk_at ktL_law_1 51 rfl) (by decide) (b := 200) rfl) ?_
      refine gc_p (p_irem (v := (nI (x9 % 24))) (dk_at ktL_law_1 52 rfl) (by decide) (pk_rem (a := x9) (d := 24) (by omega) (by decide) (by decide)) (b := 201) rfl) ?_
      refine g_callS (As := [.ref 0, .int (nI (1 + (x8 % 255))), .int (nI (x9 % 24))]) (rest := []) (s_L_updates hB hL2 hS.1 hS.2.1 (v := 1 + (x8 % 255)) (k := x9 % 24) (by omega) (by omega) (by omega) (by omega)) cwL_updates qs_L_updates (dk_at ktL_law_1 53 rfl) rfl rfl (Nat.le_of_ble_eq_true rfl) ⟨by decide, by decide, by first | decide | omega, by first | decide | omega⟩ (b := 204) rfl (fun rr4 I4_ J4_ hq4 => ?_)
      obtain ⟨v_, rfl, rfl, rfl, sn2, hL3⟩ := hq4
      refine g_if_eq (dk_at ktL_law_1 54 rfl) (b := 218) (by decide) (b2 := 207) rfl (fun c204 => ?_) (fun c204 => ?_)
      · first | exact absurd c204 (by decide) | exact absurd (by decide) c204
      · skip
        refine gc_p (p_aload_n 1 (dk_at ktL_law_1 55 rfl) rfl rfl (b := 208) rfl) ?_
        refine g_callS (As := [.ref 0]) (rest := []) (s_L_isTold hB hL3 hS.1 hS.2.1 hLG (by omega) (E := B) (by omega) hS.2.2.2) cwL_isTold qs_L_isTold (dk_at ktL_law_1 56 rfl) rfl rfl (Nat.le_of_ble_eq_true rfl) ⟨by decide, by decide, by first | decide | omega, by first | decide | omega⟩ (b := 211) rfl (fun rr5 I5_ J5_ hq5 => ?_)
        obtain ⟨v_, rfl, rfl, rfl, hL4⟩ := hq5
        refine g_if_eq (dk_at ktL_law_1 57 rfl) (b := 218) (by decide) (b2 := 214) rfl (fun c211 => ?_) (fun c211 => ?_)
        · first | exact absurd c211 (by decide) | exact absurd (by decide) c211
        · skip
          refine gc_p (p_iconst (v := 1) (dk_at ktL_law_1 58 rfl) (by decide) (b := 215) rfl) ?_
          refine gc_p (p_goto (b := 219) (dk_at ktL_law_1 59 rfl) (by decide)) ?_
          exact g_lend (dk_at ktL_law_2 1 rfl)
set_option maxRecDepth 8000 in
set_option maxHeartbeats 4000000 in
theorem law_steps {n : Nat} {sh : mS} {G : mG} {J : mJ} (hB : Bt n sh G) {sn : Nat → Option sT} : ∀ (t i : Nat) (I : mI) (σ : sT), i + t = 22 → LwR (75 + 25 * i) I σ sn → St (75 + 25 * i) σ → Gj gLw gZ RL cL_law 4 11 424 600130 7301080 0 n sh G (1600 + 10 * t) (9600 + 60 * t) 142 [(0, .ref 1300), (1, .ref 0), (3, .int (nI i))] [] I J := by
  intro t
  induction t with
  | zero =>
    intro i I σ hi hL hS
    refine gc_p (p_iload_n 2 (dk_at ktL_law_1 21 rfl) rfl rfl (b := 143) rfl) ?_
    refine gc_p (p_bipush (v := 22) (dk_at ktL_law_1 22 rfl) (by decide) (b := 145) rfl) ?_
    refine g_icmp_ge (dk_at ktL_law_1 23 rfl) (b := 165) (by decide) (b2 := 148) rfl (fun c145 => ?_) (fun c145 => ?_)
    · have c145 : 22 ≤ i := (nI_leI (a := 22) (b := i) (by omega) (by omega)).mp c145
      refine gc_sub [0, 1] (ls' := [(0, .ref 1300), (1, .ref 0)]) rfl ?_
      exact law_tail hB hL hS (by omega)
    · have c145 : ¬ 22 ≤ i := fun h => c145 ((nI_leI (a := 22) (b := i) (by omega) (by omega)).mpr h)
      exfalso; omega
  | succ t ih =>
    intro i I σ hi hL hS
    refine gc_p (p_iload_n 2 (dk_at ktL_law_1 21 rfl) rfl rfl (b := 143) rfl) ?_
    refine gc_p (p_bipush (v := 22) (dk_at ktL_law_1 22 rfl) (by decide) (b := 145) rfl) ?_
    refine g_icmp_ge (dk_at ktL_law_1 23 rfl) (b := 165) (by decide) (b2 := 148) rfl (fun c145 => ?_) (fun c145 => ?_)
    · have c145 : 22 ≤ i := (nI_leI (a := 22) (b := i) (by omega) (by omega)).mp c145
      exfalso; omega
    · have c145 : ¬ 22 ≤ i := fun h => c145 ((nI_leI (a := 22) (b := i) (by omega) (by omega)).mpr h)
      refine gc_p (p_aload_n 1 (dk_at ktL_law_1 24 rfl) rfl rfl (b := 149) rfl) ?_
      refine gc_p (p_aload_n 0 (dk_at ktL_law_1 25 rfl) rfl rfl (b := 150) rfl) ?_
      refine gc_p (p_bipush (v := 10) (dk_at ktL_law_1 26 rfl) (by decide) (b := 152) rfl) ?_
      refine gc_p (p_iconst (v := 3) (dk_at ktL_law_1 27 rfl) (by decide) (b := 153) rfl) ?_
      refine gc_p (p_iload_n 2 (dk_at ktL_law_1 28 rfl) rfl rfl (b := 154) rfl) ?_
      refine gc_p (p_imul (v := (nI (3 * i))) (dk_at ktL_law_1 29 rfl) (pk_mul 3 i) (b := 155) rfl) ?_
      refine gc_p (p_iadd (v := (nI (10 + (3 * i)))) (dk_at ktL_law_1 30 rfl) (nI_add 10 (3 * i)) (b := 156) rfl) ?_
      refine g_callS (As := [.ref 0, .ref 1300, .int (nI (10 + (3 * i)))]) (rest := []) (s_L_step hB hL hS (by omega) (i := 10 + 3 * i) (by omega)) cwL_step qs_L_step (dk_at ktL_law_1 31 rfl) rfl rfl (Nat.le_of_ble_eq_true rfl) ⟨by decide, by decide, by first | decide | omega, by first | decide | omega⟩ (b := 159) rfl (fun rr0 I0_ J0_ hq0 => ?_)
      obtain ⟨rfl, rfl, τ, hL2, hS2⟩ := hq0
      refine gc_p (p_iinc (j := 2) (v := (nI (i + 1))) (ls' := [(3, .int (nI (i + 1))), (0, .ref 1300), (1, .ref 0)]) (dk_at ktL_law_1 32 rfl) rfl (nI_add i 1) (by decide) rfl (b := 162) rfl) ?_
      refine gc_p (p_goto (b := 142) (dk_at ktL_law_1 33 rfl) (by decide)) ?_
      refine gc_sub [1, 2, 0] (ls' := [(0, .ref 1300), (1, .ref 0), (3, .int (nI (i + 1)))]) rfl ?_
      refine gc_weak (kc' := 1600 + 10 * t) (ks' := 9600 + 60 * t) (by omega) (by omega) ?_
      exact ih (i + 1) _ τ (by omega) (hL2.le (by omega)) (hS2.le (by omega))
set_option maxRecDepth 8000 in
set_option maxHeartbeats 4000000 in
theorem law_stages {n : Nat} {sh : mS} {G : mG} {J : mJ} (hB : Bt n sh G) {sn : Nat → Option sT} : ∀ (t i : Nat) (I : mI) (σ : sT), i + t = 3 → LwR (25 * i) I σ sn → St (25 * i) σ → Gj gLw gZ RL cL_law 4 11 424 600130 7301080 0 n sh G (1820 + 10 * t) (10920 + 60 * t) 114 [(0, .ref 1300), (1, .ref 0), (3, .int (nI i))] [] I J := by
  intro t
  induction t with
  | zero =>
    intro i I σ hi hL hS
    refine gc_p (p_iload_n 2 (dk_at ktL_law_1 4 rfl) rfl rfl (b := 115) rfl) ?_
    refine gc_p (p_iconst (v := 3) (dk_at ktL_law_1 5 rfl) (by decide) (b := 116) rfl) ?_
    refine g_icmp_ge (dk_at ktL_law_1 6 rfl) (b := 140) (by decide) (b2 := 119) rfl (fun c116 => ?_) (fun c116 => ?_)
    · have c116 : 3 ≤ i := (nI_leI (a := 3) (b := i) (by omega) (by omega)).mp c116
      refine gc_sub [0, 1] (ls' := [(0, .ref 1300), (1, .ref 0)]) rfl ?_
      refine gc_p (p_iconst (v := 0) (dk_at ktL_law_1 19 rfl) (by decide) (b := 141) rfl) ?_
      refine gc_p (p_istore_n (ls' := [(3, .int (nI 0)), (0, .ref 1300), (1, .ref 0)]) (dk_at ktL_law_1 20 rfl) rfl (by decide) rfl (b := 142) rfl) ?_
      refine gc_sub [1, 2, 0] (ls' := [(0, .ref 1300), (1, .ref 0), (3, .int (nI 0))]) rfl ?_
      have hi3 : i = 3 := by omega
      subst hi3
      exact gc_weak (by decide) (by decide) (law_steps hB 22 0 I σ rfl hL hS)
    · have c116 : ¬ 3 ≤ i := fun h => c116 ((nI_leI (a := 3) (b := i) (by omega) (by omega)).mpr h)
      exfalso; omega
  | succ t ih =>
    intro i I σ hi hL hS
    refine gc_p (p_iload_n 2 (dk_at ktL_law_1 4 rfl) rfl rfl (b := 115) rfl) ?_
    refine gc_p (p_iconst (v := 3) (dk_at ktL_law_1 5 rfl) (by decide) (b := 116) rfl) ?_
    refine g_icmp_ge (dk_at ktL_law_1 6 rfl) (b := 140) (by decide) (b2 := 119) rfl (fun c116 => ?_) (fun c116 => ?_)
    · have c116 : 3 ≤ i := (nI_leI (a := 3) (b := i) (by omega) (by omega)).mp c116
      exfalso; omega
    · have c116 : ¬ 3 ≤ i := fun h => c116 ((nI_leI (a := 3) (b := i) (by omega) (by omega)).mpr h)
      refine gc_p (p_aload_n 1 (dk_at ktL_law_1 7 rfl) rfl rfl (b := 120) rfl) ?_
      refine gc_p (p_aload_n 0 (dk_at ktL_law_1 8 rfl) rfl rfl (b := 121) rfl) ?_
      refine gc_p (p_iconst (v := 5) (dk_at ktL_law_1 9 rfl) (by decide) (b := 122) rfl) ?_
      refine gc_p (p_iload_n 2 (dk_at ktL_law_1 10 rfl) rfl rfl (b := 123) rfl) ?_
      refine gc_p (p_iadd (v := (nI (5 + i))) (dk_at ktL_law_1 11 rfl) (nI_add 5 i) (b := 124) rfl) ?_
      refine g_callS (As := [.ref 1300, .int (nI (5 + i))]) (rest := [.ref 0]) (s_L_cell (i := 5 + i) (by omega)) cwL_cell qs_L_cell (dk_at ktL_law_1 12 rfl) rfl rfl (Nat.le_of_ble_eq_true rfl) ⟨by decide, by decide, by first | decide | omega, by first | decide | omega⟩ (b := 127) rfl (fun rr0 I0_ J0_ hq0 => ?_)
      obtain ⟨v_, rfl, ⟨xc, hxc, rfl⟩, rfl, rfl⟩ := hq0
      refine gc_p (p_ldc (v := 65536) qk_TwinBootLaw_75 (dk_at ktL_law_1 13 rfl) (b := 129) rfl) ?_
      refine gc_p (p_irem (v := (nI (xc % 65536))) (dk_at ktL_law_1 14 rfl) (by decide) (pk_rem (a := xc) (d := 65536) (by omega) (by decide) (by decide)) (b := 130) rfl) ?_
      obtain ⟨Ts, Ns, hTs, hRs⟩ := hL.1
      have hcs : cIn (nI (xc % 65536)) 0 65535 = 0 := cIn_t (rg_t (a := 0) (b := 65535) (by omega) (by omega) (by decide))
      have hsg := s_X6_stage (n := n) (sh := sh) (G := G) (J := J) hB hRs hS.1 (nI (xc % 65536))
      rw [eX_0 hcs] at hsg
      refine g_callV (As' := [.int (nI (xc % 65536))]) (rest := []) hsg cw_L_76 qi_X6_stage qv_X6_stage rfl hB.l0 hB.s0 (dk_at ktL_law_1 15 rfl) rfl rfl (Nat.le_of_ble_eq_true rfl) ⟨by decide, by decide, by first | decide | omega, by first | decide | omega⟩ (b := 133) rfl (fun rr1 I1_ J1_ hq1 => ?_)
      obtain ⟨v9, rfl, -, -, rfl, hN, hF⟩ := hq1
      have hL2 : LwR (25 * (i + 1)) I1_ (t_stage σ (nI (xc % 65536))) sn := hL.go (hN.le (by omega)) hF (by omega)
      have hS2 : St (25 * (i + 1)) (t_stage σ (nI (xc % 65536))) := hS.stg.le (by omega)
      refine gc_p (p_pop (dk_at ktL_law_1 16 rfl) rfl (b := 134) rfl) ?_
      refine gc_p (p_iinc (j := 2) (v := (nI (i + 1))) (ls' := [(3, .int (nI (i + 1))), (0, .ref 1300), (1, .ref 0)]) (dk_at ktL_law_1 17 rfl) rfl (nI_add i 1) (by decide) rfl (b := 137) rfl) ?_
      refine gc_p (p_goto (b := 114) (dk_at ktL_law_1 18 rfl) (by decide)) ?_
      refine gc_sub [1, 2, 0] (ls' := [(0, .ref 1300), (1, .ref 0), (3, .int (nI (i + 1)))]) rfl ?_
      refine gc_weak (kc' := 1820 + 10 * t) (ks' := 10920 + 60 * t) (by omega) (by omega) ?_
      exact ih (i + 1) _ _ (by omega) hL2 hS2

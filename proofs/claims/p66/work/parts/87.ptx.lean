/-! what a text that is right tells -/
theorem st_row {s : PSt} {k v : Nat} : (s.st k v).row = upd s.row k (nI v) := rfl
theorem poG_st {p : Nat} {s : PSt} : (poG p s).st = s := rfl
def GR (r : sT) : Prop := (r 3 = 1 ∨ r 3 = 2 ∨ r 3 = 3) ∧ (∃ v, v ≤ 1000 ∧ r 5 = nI v) ∧ (∀ k, 4 ≤ k → k < 83 → k ≠ 5 → r k = row0 k) ∧ (∀ k, 83 ≤ k → k < 211 → wd (r k)) ∧ (∀ k, 211 ≤ k → k < 275 → r k = 65535) ∧ ∀ k, 275 ≤ k → k < 309 → r k = 0
def GW (r : sT) : Prop := ∃ W P J, r 0 = nI W ∧ 8 ≤ W ∧ W ≤ 64 ∧ r 1 = nI P ∧ 4 ≤ P ∧ P ≤ 16 ∧ W % P = 0 ∧ r 2 = nI J ∧ 12 ≤ J ∧ J ≤ 32
def GX (S : PSt) : Prop := GR S.row ∧ S.fl ≤ 255 ∧ (S.gd = -1 ∨ S.gd = 0 ∨ S.gd = 1) ∧ S.gv < 64
def GS (S : PSt) : Prop := GW S.row ∧ GX S
theorem row0_at {k : Nat} {v : Int32} (h : row0 k = v) : row0 k = v := h
theorem GR_0 : GR row0 := by
  refine ⟨Or.inr (Or.inr rfl), ⟨0, by decide, rfl⟩, fun _ _ _ _ => rfl, fun k h1 h2 => ?_, fun k h1 h2 => if_pos (by omega), fun k h1 h2 => ?_⟩
  · rw [show row0 k = 65535 from if_pos (by omega)]; exact wd_0
  · unfold row0
    rw [if_neg (by omega), if_neg (by omega), if_neg (by omega), if_neg (by omega)]
theorem GX_0 : GX S0 := ⟨GR_0, by decide, Or.inl rfl, by decide⟩
theorem GR.im {r : sT} {k : Nat} {v : Int32} (h : GR r) (h1 : 83 ≤ k) (h2 : k < 211) (hv : wd v) : GR (upd r k v) := by
  refine ⟨?_, ?_, fun j a b c => ?_, fun j a b => ?_, fun j a b => ?_, fun j a b => ?_⟩
  · rw [upd_n (by omega)]; exact h.1
  · rw [upd_n (by omega)]; exact h.2.1
  · rw [upd_n (by omega)]; exact h.2.2.1 j a b c
  · by_cases e : j = k
    · subst e; rw [upd_s]; exact hv
    · rw [upd_n e]; exact h.2.2.2.1 j a b
  · rw [upd_n (by omega)]; exact h.2.2.2.2.1 j a b
  · rw [upd_n (by omega)]; exact h.2.2.2.2.2 j a b
theorem GW.up {r : sT} {k : Nat} {v : Int32} (h : GW r) (h1 : 3 ≤ k) : GW (upd r k v) := by
  unfold GW
  rw [upd_n (by omega), upd_n (by omega), upd_n (by omega)]
  exact h
theorem GR.st {r : sT} {k : Nat} {v : Int32} (h : GR r) (h3 : k < 3) : GR (upd r k v) := by
  refine ⟨?_, ?_, fun j a b c => ?_, fun j a b => ?_, fun j a b => ?_, fun j a b => ?_⟩
  · rw [upd_n (by omega)]; exact h.1
  · rw [upd_n (by omega)]; exact h.2.1
  · rw [upd_n (by omega)]; exact h.2.2.1 j a b c
  · rw [upd_n (by omega)]; exact h.2.2.2.1 j a b
  · rw [upd_n (by omega)]; exact h.2.2.2.2.1 j a b
  · rw [upd_n (by omega)]; exact h.2.2.2.2.2 j a b
theorem GR.s3 {r : sT} {v : Nat} (h : GR r) (h1 : 1 ≤ v) (h2 : v ≤ 3) : GR (upd r 3 (nI v)) := by
  refine ⟨?_, ?_, fun j a b c => ?_, fun j a b => ?_, fun j a b => ?_, fun j a b => ?_⟩
  · rw [upd_s]
    rcases (by omega : v = 1 ∨ v = 2 ∨ v = 3) with rfl | rfl | rfl
    · exact Or.inl rfl
    · exact Or.inr (Or.inl rfl)
    · exact Or.inr (Or.inr rfl)
  · rw [upd_n (by omega)]; exact h.2.1
  · rw [upd_n (by omega)]; exact h.2.2.1 j a b c
  · rw [upd_n (by omega)]; exact h.2.2.2.1 j a b
  · rw [upd_n (by omega)]; exact h.2.2.2.2.1 j a b
  · rw [upd_n (by omega)]; exact h.2.2.2.2.2 j a b
theorem GR.s5 {r : sT} {v : Nat} (h : GR r) (h2 : v ≤ 1000) : GR (upd r 5 (nI v)) := by
  refine ⟨?_, ⟨v, h2, upd_s⟩, fun j a b c => ?_, fun j a b => ?_, fun j a b => ?_, fun j a b => ?_⟩
  · rw [upd_n (by omega)]; exact h.1
  · rw [upd_n c]; exact h.2.2.1 j a b c
  · rw [upd_n (by omega)]; exact h.2.2.2.1 j a b
  · rw [upd_n (by omega)]; exact h.2.2.2.2.1 j a b
  · rw [upd_n (by omega)]; exact h.2.2.2.2.2 j a b
theorem imgE_ok {r : sT} {s c v : Nat} (h : GR r) (hs : s < 2) (hv : v < 256) (e : r (83 + 64 * s) = nI v) (hc : c ≤ 61) : GR (imgE r s c) := by
  unfold imgE
  refine GR.im (GR.im h (by omega) (by omega) ⟨c, by omega, rfl⟩) (by omega) (by omega) ?_
  rw [e]
  exact sumF_wd hv hc (fun j hj => by rw [upd_n (by omega)]; exact h.2.2.2.1 _ (by omega) (by omega))
theorem imgE_W {r : sT} {s c : Nat} (h : GW r) : GW (imgE r s c) := (h.up (by omega)).up (by omega)
theorem poB_k {k a : Nat} {S : PSt} (hk : ¬ k = 0) : ¬ (poB k a S).k = 0 := hk
theorem imgF_ok {T : tT} {n W s v : Nat} {S : PSt} (hW : W ≤ 64) (hs : s < 2) (hv : v < 256) : ∀ (t c p : Nat) (r : sT), p ≤ n → c + 3 ≤ W → GR r → GW r → r (83 + 64 * s) = nI v → (imgF T n W s S t c p r).k = 0 → p ≤ (imgF T n W s S t c p r).p ∧ (imgF T n W s S t c p r).p ≤ n ∧ GR (imgF T n W s S t c p r).st.row ∧ GW (imgF T n W s S t c p r).st.row ∧ (imgF T n W s S t c p r).st.fl = S.fl ∧ (imgF T n W s S t c p r).st.gd = S.gd ∧ (imgF T n W s S t c p r).st.gv = S.gv
  | 0, c, p, r, _, _, _, _, _, h => absurd h (poB_k (by decide))
  | t + 1, c, p, r, hp, hc, hG, hWr, e, h => by
    have h1 := txSk_le (T := T) hp
    have h2 := txDe_le (T := T) h1.2
    have h3 := txSk_le (T := T) h2.2
    by_cases hw : c + 3 = W
    · rw [imgF_w hw] at h
      exact absurd h (poB_k (by decide))
    · by_cases hk : txK T n (txSk T n p) 0 65535 = 0
      · have hin := txK_in hk
        have hG2 : GR (upd r (86 + 64 * s + c) (nI (txVa T n (txSk T n p)))) := hG.im (by omega) (by omega) ⟨_, by omega, rfl⟩
        have hW2 : GW (upd r (86 + 64 * s + c) (nI (txVa T n (txSk T n p)))) := hWr.up (by omega)
        have e2 : upd r (86 + 64 * s + c) (nI (txVa T n (txSk T n p))) (83 + 64 * s) = nI v := (upd_n (by omega)).trans e
        rw [imgF_s hw hk] at h ⊢
        cases hd : txD T (txSk T n (txDe T n (txSk T n p)))
        · rw [imgH_e (Nat.succ_ne_zero c) hd] at h ⊢
          exact ⟨by show p ≤ txSk T n _; omega, h3.2, imgE_ok hG2 hs hv e2 (by omega), imgE_W hW2, rfl, rfl, rfl⟩
        · rw [imgH_d (Nat.succ_ne_zero c) hd] at h ⊢
          have ih := imgF_ok hW hs hv t (c + 1) (txSk T n (txDe T n (txSk T n p))) _ h3.2 (by omega) hG2 hW2 e2 h
          exact ⟨Nat.le_trans (by omega) ih.1, ih.2⟩
      · rw [imgF_k hw hk] at h
        exact absurd h (poB_k hk)
theorem numO_0 {T : tT} {n e lo hi : Nat} {f : Nat → PSt} {s : PSt} (h : (numO T n e lo hi f s).k = 0) : txK T n (txSk T n e) lo hi = 0 ∧ numO T n e lo hi f s = poG (txDe T n (txSk T n e)) (f (txVa T n (txSk T n e))) := by
  by_cases hk : txK T n (txSk T n e) lo hi = 0
  · exact ⟨hk, if_pos hk⟩
  · have e1 : numO T n e lo hi f s = poB (txK T n (txSk T n e) lo hi) (txSk T n e) s := if_neg hk
    rw [e1] at h
    exact absurd h (poB_k hk)
theorem onceO_0 {w b : Nat} {s : PSt} {o : PO} (h : (onceO w b s o).k = 0) : s.gv.testBit b = false ∧ onceO w b s o = o := by
  cases q : s.gv.testBit b
  · exact ⟨rfl, if_neg (by rw [q]; decide)⟩
  · have e1 : onceO w b s o = poB 4 w s := if_pos q
    rw [e1] at h
    exact absurd h (poB_k (by decide))
theorem GX.cl {S : PSt} {b : Nat} (h : GX S) (hb : b < 6) (h0 : S.gv.testBit b = false) : GX (S.cl b) := ⟨h.1, h.2.1, h.2.2.1, (gv_o h.2.2.2 hb h0).2⟩
theorem once_num {T : tT} {n e w b lo hi : Nat} {f : Nat → PSt} {S : PSt} {P : PSt → Prop} (he : e ≤ n) (h : (onceO w b S (numO T n e lo hi f S)).k = 0) (hf : ∀ v, S.gv.testBit b = false → lo ≤ v → v ≤ hi → P (f v)) : e ≤ (onceO w b S (numO T n e lo hi f S)).p ∧ (onceO w b S (numO T n e lo hi f S)).p ≤ n ∧ P (onceO w b S (numO T n e lo hi f S)).st := by
  obtain ⟨h0, e1⟩ := onceO_0 h
  rw [e1] at h ⊢
  obtain ⟨hk, e2⟩ := numO_0 h
  rw [e2]
  have hin := txK_in hk
  have h1 := txSk_le (T := T) he
  have h2 := txDe_le (T := T) h1.2
  exact ⟨by show e ≤ txDe T n _; omega, h2.2, hf _ h0 hin.2.1 hin.2.2⟩
theorem GW.W {r : sT} (h : GW r) : r 0 = nI (tn (r 0)) ∧ 8 ≤ tn (r 0) ∧ tn (r 0) ≤ 64 := by
  obtain ⟨W, P, J, e, h1, h2, _⟩ := h
  rw [e, tn_nI (by omega)]
  exact ⟨rfl, h1, h2⟩
theorem image_ok {T : tT} {n e : Nat} {S : PSt} (he : e ≤ n) (hG : GS S) (h : (imageO T n e (tn (S.row 0)) S).k = 0) : e ≤ (imageO T n e (tn (S.row 0)) S).p ∧ (imageO T n e (tn (S.row 0)) S).p ≤ n ∧ GS (imageO T n e (tn (S.row 0)) S).st := by
  have h1 := txSk_le (T := T) he
  have h2 := txDe_le (T := T) h1.2
  have h3 := txSk_le (T := T) h2.2
  have h4 := txDe_le (T := T) h3.2
  unfold imageO at h ⊢
  by_cases hk : txK T n (txSk T n e) 0 1 = 0
  · rw [if_pos hk] at h ⊢
    obtain ⟨h0, e1⟩ := onceO_0 h
    rw [e1] at h ⊢
    have hin := txK_in hk
    by_cases hk2 : txK T n (txSk T n (txDe T n (txSk T n e))) 1 255 = 0
    · rw [if_pos hk2] at h ⊢
      have hin2 := txK_in hk2
      have hw := hG.1.W
      have ih := imgF_ok (T := T) (n := n) (S := S.cl (3 + txVa T n (txSk T n e))) (s := txVa T n (txSk T n e)) (v := txVa T n (txSk T n (txDe T n (txSk T n e)))) hw.2.2 (by omega) (by omega) 62 0 (txDe T n (txSk T n (txDe T n (txSk T n e)))) (upd S.row (83 + 64 * txVa T n (txSk T n e)) (nI (txVa T n (txSk T n (txDe T n (txSk T n e)))))) h4.2 (by omega) (hG.2.1.im (by omega) (by omega) ⟨_, by omega, rfl⟩) (hG.1.up (by omega)) upd_s h
      obtain ⟨i1, i2, i3, i4, i5, i6, i7⟩ := ih
      have hX := hG.2.cl (b := 3 + txVa T n (txSk T n e)) (by omega) h0
      exact ⟨by omega, i2, i4, i3, by rw [i5]; exact hX.2.1, by rw [i6]; exact hX.2.2.1, by rw [i7]; exact hX.2.2.2⟩
    · rw [if_neg hk2] at h
      exact absurd h (poB_k hk2)
  · rw [if_neg hk] at h
    exact absurd h (poB_k hk)
theorem stmt_ok {T : tT} {n p : Nat} {S : PSt} (hp : p ≤ n) (hG : GS S) (h : (stmtO T n p S).k = 0) : p ≤ (stmtO T n p S).p ∧ (stmtO T n p S).p ≤ n ∧ GS (stmtO T n p S).st := by
  have h1 := txSk_le (T := T) hp
  have h2 := txWe_le (T := T) h1.2
  have key : ∀ o : PO, stmtO T n p S = o → (o.k = 0 → txWe T n (txSk T n p) ≤ o.p ∧ o.p ≤ n ∧ GS o.st) → p ≤ (stmtO T n p S).p ∧ (stmtO T n p S).p ≤ n ∧ GS (stmtO T n p S).st := fun o e q => by
    rw [e] at h ⊢
    have := q h
    exact ⟨by omega, this.2⟩
  by_cases c1 : isW T (txSk T n p) (txWe T n (txSk T n p)) 1 = true
  · exact key _ (if_pos c1) (fun q => image_ok h2.2 hG q)
  · by_cases c2 : isW T (txSk T n p) (txWe T n (txSk T n p)) 2 = true
    · exact key _ ((if_neg c1).trans (if_pos c2)) (fun q => once_num h2.2 q (fun v h0 a b => ⟨hG.1.up (by decide), hG.2.1.s3 a b, hG.2.2.1, hG.2.2.2.1, (gv_o hG.2.2.2.2 (by decide) h0).2⟩))
    · by_cases c3 : isW T (txSk T n p) (txWe T n (txSk T n p)) 3 = true
      · exact key _ ((if_neg c1).trans ((if_neg c2).trans (if_pos c3))) (fun q => once_num h2.2 q (fun v h0 a b => ⟨hG.1.up (by decide), hG.2.1.s5 b, hG.2.2.1, hG.2.2.2.1, (gv_o hG.2.2.2.2 (by decide) h0).2⟩))
      · by_cases c4 : isW T (txSk T n p) (txWe T n (txSk T n p)) 4 = true
        · exact key _ ((if_neg c1).trans ((if_neg c2).trans ((if_neg c3).trans (if_pos c4)))) (fun q => once_num h2.2 q (fun v h0 a b => ⟨hG.1, hG.2.1, b, hG.2.2.2.1, (gv_o hG.2.2.2.2 (by decide) h0).2⟩))
        · by_cases c5 : isW T (txSk T n p) (txWe T n (txSk T n p)) 5 = true
          · exact key _ ((if_neg c1).trans ((if_neg c2).trans ((if_neg c3).trans ((if_neg c4).trans (if_pos c5))))) (fun q => once_num h2.2 q (fun v h0 a b => ⟨hG.1, hG.2.1, hG.2.2.1, Or.inr (by
              rcases (by omega : v = 0 ∨ v = 1) with rfl | rfl
              · exact Or.inl rfl
              · exact Or.inr rfl), (gv_o hG.2.2.2.2 (by decide) h0).2⟩))
          · exact key _ ((if_neg c1).trans ((if_neg c2).trans ((if_neg c3).trans ((if_neg c4).trans (if_neg c5))))) (fun q => absurd q (poB_k (by decide)))
theorem flash_ok {T : tT} {n p : Nat} {S : PSt} (hp : p ≤ n) (hG : GX S) (h : (flashO T n p S).k = 0) : (flashO T n p S).p ≤ n ∧ GS (flashO T n p S).st := by
  have h1 := txSk_le (T := T) hp
  have h2 := txWe_le (T := T) h1.2
  have h3 := txSk_le (T := T) h2.2
  have h4 := txDe_le (T := T) h3.2
  have h5 := txSk_le (T := T) h4.2
  have h6 := txDe_le (T := T) h5.2
  have h7 := txSk_le (T := T) h6.2
  have h8 := txDe_le (T := T) h7.2
  unfold flashO flashW at h ⊢
  split at h
  · rename_i c1
    rw [if_pos c1]
    split at h
    · rename_i c2
      rw [if_pos c2]
      split at h
      · rename_i c3
        rw [if_pos c3]
        split at h
        · rename_i c4
          rw [if_pos c4]
          obtain ⟨k3, e3⟩ := numO_0 h
          rw [e3]
          have i1 := txK_in c2
          have i2 := txK_in c3
          have i3 := txK_in k3
          refine ⟨h8.2, ⟨_, _, _, ?_, i1.2.1, i1.2.2, ?_, i2.2.1, i2.2.2, c4, ?_, i3.2.1, i3.2.2⟩, ((hG.1.st (by decide)).st (by decide)).st (by decide), hG.2⟩
          · rw [poG_st, st_row, st_row, st_row, upd_n (by decide), upd_n (by decide), upd_s]
          · rw [poG_st, st_row, st_row, upd_n (by decide), upd_s]
          · rw [poG_st, st_row, upd_s]
        · exact absurd h (poB_k (by decide))
      · rename_i c3
        exact absurd h (poB_k c3)
    · rename_i c2
      exact absurd h (poB_k c2)
  · exact absurd h (poB_k (by decide))
theorem allF_s {T : tT} {n t p : Nat} {S : PSt} (h : T (txSk T n p) = 59) (hk : (stmtO T n (txSk T n p + 1) S).k = 0) : allF T n (t + 1) p S = allF T n t (stmtO T n (txSk T n p + 1) S).p (stmtO T n (txSk T n p + 1) S).st := (if_pos h).trans (if_pos hk)
theorem allF_k {T : tT} {n t p : Nat} {S : PSt} (h : T (txSk T n p) = 59) (hk : ¬ (stmtO T n (txSk T n p + 1) S).k = 0) : allF T n (t + 1) p S = stmtO T n (txSk T n p + 1) S := (if_pos h).trans (if_neg hk)
theorem allF_0 {T : tT} {n t p : Nat} {S : PSt} (h : T (txSk T n p) = 0) : allF T n (t + 1) p S = poG (txSk T n p) S := (if_neg (by omega)).trans (if_pos h)
theorem allF_n {T : tT} {n t p : Nat} {S : PSt} (h : ¬ T (txSk T n p) = 59) (h0 : ¬ T (txSk T n p) = 0) : allF T n (t + 1) p S = poB 1 (txSk T n p) S := (if_neg h).trans (if_neg h0)
theorem all_ok {T : tT} {n : Nat} (hT : TxOk T n) : ∀ (t p : Nat) (S : PSt), p ≤ n → GS S → (allF T n t p S).k = 0 → GS (allF T n t p S).st
  | 0, p, S, _, _, h => absurd h (poB_k (by decide))
  | t + 1, p, S, hp, hG, h => by
    have h1 := txSk_le (T := T) hp
    by_cases c1 : T (txSk T n p) = 59
    · have hl : txSk T n p < n := Nat.lt_of_not_le (fun q => by rw [hT.2.2 _ q] at c1; omega)
      by_cases c2 : (stmtO T n (txSk T n p + 1) S).k = 0
      · rw [allF_s c1 c2] at h ⊢
        have hs := stmt_ok (show txSk T n p + 1 ≤ n by omega) hG c2
        exact all_ok hT t _ _ hs.2.1 hs.2.2 h
      · rw [allF_k c1 c2] at h
        exact absurd h c2
    · by_cases c2 : T (txSk T n p) = 0
      · rw [allF_0 c2]; exact hG
      · rw [allF_n c1 c2] at h
        exact absurd h (poB_k (by decide))
theorem parse_ok {T : tT} {n : Nat} (hT : TxOk T n) (h : (parseO T n).k = 0) : GS (parseO T n).st := by
  unfold parseO at h ⊢
  by_cases c : (flashO T n 0 S0).k = 0
  · rw [if_pos c] at h ⊢
    have hf := flash_ok (Nat.zero_le n) GX_0 c
    exact all_ok hT _ _ _ hf.1 hf.2 h
  · rw [if_neg c] at h
    exact absurd h c
theorem wordI_wd {k v : Nat} (hk : k < 8) (hv : v < 256) : wd (wordI (nI k) (nI v)) := by
  have h : ∀ k : Nat, k < 8 → ∀ v : Nat, v < 256 → tn (wordI (nI k) (nI v)) < 65536 ∧ wordI (nI k) (nI v) = nI (tn (wordI (nI k) (nI v))) := by decide +kernel
  exact ⟨_, h k hk v hv⟩
theorem newS_inv {S : PSt} (h : GS S) : Inv (newS S) := by
  obtain ⟨⟨W, P, J, e0, w1, w2, e1, p1, p2, hm, e2, j1, j2⟩, ⟨g3, ⟨v, hv, g5⟩, gk, gi, gj, gw⟩, hf, hg, _⟩ := h
  have low : ∀ k, k < 211 → newS S k = S.row k := fun k hk => by
    unfold newS
    rw [if_neg (by omega), if_neg (by omega), if_neg (by omega), if_pos (by omega)]
  have a4 : newS S 4 = 0 := (low 4 (by decide)).trans (gk 4 (by decide) (by decide) (by decide))
  have a6 : newS S 6 = -1 := (low 6 (by decide)).trans (gk 6 (by decide) (by decide) (by decide))
  have a7 : newS S 7 = 0 := (low 7 (by decide)).trans (gk 7 (by decide) (by decide) (by decide))
  have a8 : newS S 8 = -1 := (low 8 (by decide)).trans (gk 8 (by decide) (by decide) (by decide))
  have a10 : newS S 10 = 0 := (low 10 (by decide)).trans (gk 10 (by decide) (by decide) (by decide))
  have nw : nW (newS S) = W := by unfold nW; rw [low 0 (by decide), e0, tn_nI (by omega)]
  have np : nP (newS S) = P := by unfold nP; rw [low 1 (by decide), e1, tn_nI (by omega)]
  have nj : nJ (newS S) = J := by unfold nJ; rw [low 2 (by decide), e2, tn_nI (by omega)]
  have ns : nS (newS S) = 0 := by unfold nS; rw [a4]; rfl
  have nl : nL (newS S) = 0 := by unfold nL; rw [a10]; rfl
  have hgw : ∀ x : Int32, x = S.gd → ¬ x = -1 → wd (wordI 2 x) := fun x q q2 => by
    subst q
    rcases hg with q | q | q
    · exact absurd q q2
    · rw [q]; exact wordI_wd (k := 2) (v := 0) (by decide) (by decide)
    · rw [q]; exact wordI_wd (k := 2) (v := 1) (by decide) (by decide)
  refine ⟨⟨?_, by omega, by omega, ?_, by omega, by omega, by rw [nw, np]; exact hm, ?_, by omega, by omega, ?_, by omega⟩, ⟨?_, by omega⟩, Or.inl ⟨a7, a8⟩, fun k k1 k2 => ?_, ?_⟩
  · rw [nw, low 0 (by decide)]; exact e0
  · rw [np, low 1 (by decide)]; exact e1
  · rw [nj, low 2 (by decide)]; exact e2
  · rw [ns]; exact a4
  · rw [nl]; exact a10
  · by_cases q : k < 211
    · rw [low k q]
      by_cases q2 : k < 83
      · rw [gk k (by omega) q2 (by omega)]
        have e : row0 k = 0 := by
          unfold row0
          rw [if_neg (by omega), if_neg (by omega), if_neg (by omega), if_neg (by omega)]
        rw [e]; exact ⟨0, by decide, rfl⟩
      · exact gi k (by omega) q
    · unfold newS
      split
      · exact ⟨24582, by decide, rfl⟩
      · split
        · split
          · exact wordI_wd (k := 1) (v := S.fl) (by decide) (by omega)
          · split
            · rw [gj 212 (by decide) (by decide)]; exact wd_0
            · rename_i q3; exact hgw _ rfl q3
        · split
          · split
            · rename_i q3; exact hgw _ rfl q3.2
            · rw [gj 213 (by decide) (by decide)]; exact wd_0
          · rw [if_pos (by omega), gj k (by omega) k2]; exact wd_0
  · refine ⟨?_, ?_, ?_⟩
    · rw [low 3 (by decide)]; exact g3
    · rw [a6]; decide
    · rw [low 5 (by decide), g5, nI_toInt (by omega)]; omega
theorem newS_rel {S : PSt} {w : sT} (h : GS S) (e : ∀ k, k < 309 → w k = newS S k) : RelW w (newS S) := by
  refine ⟨e, fun r c hr _ => ?_⟩
  have nl : nL (newS S) = 0 := by
    have a10 : newS S 10 = 0 := by
      show (if (10 : Nat) = 211 then _ else if (10 : Nat) = 212 then _ else if (10 : Nat) = 213 then _ else if (10 : Nat) < 309 then S.row 10 else 0) = 0
      rw [if_neg (by decide), if_neg (by decide), if_neg (by decide), if_pos (by decide)]
      exact h.2.1.2.2.1 10 (by decide) (by decide) (by decide)
    unfold nL
    rw [a10]
    rfl
  omega
theorem imgC_w {T : tT} {n W s c p : Nat} {S : PSt} {r : sT} (hc : c < 62) (h : c + 3 = W) : imgF T n W s S (62 - c) c p r = poB 1 p S := by
  rw [show 62 - c = (62 - (c + 1)) + 1 by omega]
  exact imgF_w h
theorem imgC_k {T : tT} {n W s c p : Nat} {S : PSt} {r : sT} (hc : c < 62) (h : ¬ c + 3 = W) (hk : ¬ txK T n (txSk T n p) 0 65535 = 0) : imgF T n W s S (62 - c) c p r = poB (txK T n (txSk T n p) 0 65535) (txSk T n p) S := by
  rw [show 62 - c = (62 - (c + 1)) + 1 by omega]
  exact imgF_k h hk
theorem imgC_s {T : tT} {n W s c p : Nat} {S : PSt} {r : sT} (hc : c < 62) (h : ¬ c + 3 = W) (hk : txK T n (txSk T n p) 0 65535 = 0) : imgF T n W s S (62 - c) c p r = imgH T n W s S (62 - (c + 1)) (c + 1) (txDe T n (txSk T n p)) (upd r (86 + 64 * s + c) (nI (txVa T n (txSk T n p)))) := by
  rw [show 62 - c = (62 - (c + 1)) + 1 by omega]
  exact imgF_s h hk

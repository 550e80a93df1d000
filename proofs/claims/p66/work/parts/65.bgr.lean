/-! THE CLASS'S OWN OBJECT: what it points at, what its calls leave alone -/
def RefA (n : Nat) (sh : mS) (a t len : Nat) : Prop := a < n ∧ sh a = .inr (t, len)
theorem RefA.l0 {n : Nat} {sh : mS} {a t len : Nat} (h : RefA n sh a t len) : a < n := h.1
theorem RefA.s0 {n : Nat} {sh : mS} {a t len : Nat} (h : RefA n sh a t len) : sh a = .inr (t, len) := h.2
def BootH (n : Nat) (sh : mS) (G : mG) (bx bt d be bf bg b0 b1 bv : Nat) : Prop := (bx < n ∧ sh bx = .inl (9, 6)) ∧ TxtG n sh G bt ∧ DevG n sh G d ∧ DevG n sh G be ∧ DevG n sh G bf ∧ RefA n sh bg 5 2 ∧ DevG n sh G b0 ∧ DevG n sh G b1 ∧ RefA n sh bv 2 2 ∧ (G bx 0 = some bt ∧ G bx 1 = some d ∧ G bx 2 = some be ∧ G bx 3 = some bf ∧ G bx 4 = some bg ∧ G bx 5 = some bv ∧ G bg 0 = some b0 ∧ G bg 1 = some b1) ∧ (bx < bt ∧ bt + 6 ≤ d ∧ d + 19 ≤ be ∧ be + 19 ≤ bf ∧ bf + 19 ≤ bg ∧ bg < b0 ∧ b0 + 19 ≤ b1 ∧ b1 + 19 ≤ bv)
section BH
variable {n : Nat} {sh : mS} {G : mG} {bx bt d be bf bg b0 b1 bv : Nat}
theorem BootH.l0 (h : BootH n sh G bx bt d be bf bg b0 b1 bv) : bx < n := h.1.1
theorem BootH.s0 (h : BootH n sh G bx bt d be bf bg b0 b1 bv) : sh bx = .inl (9, 6) := h.1.2
theorem BootH.hX (h : BootH n sh G bx bt d be bf bg b0 b1 bv) : TxtG n sh G bt := h.2.1
theorem BootH.hD (h : BootH n sh G bx bt d be bf bg b0 b1 bv) : DevG n sh G d := h.2.2.1
theorem BootH.hT (h : BootH n sh G bx bt d be bf bg b0 b1 bv) : DevG n sh G be := h.2.2.2.1
theorem BootH.hA (h : BootH n sh G bx bt d be bf bg b0 b1 bv) : DevG n sh G bf := h.2.2.2.2.1
theorem BootH.hg (h : BootH n sh G bx bt d be bf bg b0 b1 bv) : RefA n sh bg 5 2 := h.2.2.2.2.2.1
theorem BootH.h0 (h : BootH n sh G bx bt d be bf bg b0 b1 bv) : DevG n sh G b0 := h.2.2.2.2.2.2.1
theorem BootH.h1 (h : BootH n sh G bx bt d be bf bg b0 b1 bv) : DevG n sh G b1 := h.2.2.2.2.2.2.2.1
theorem BootH.hv (h : BootH n sh G bx bt d be bf bg b0 b1 bv) : RefA n sh bv 2 2 := h.2.2.2.2.2.2.2.2.1
theorem BootH.g0_0 (h : BootH n sh G bx bt d be bf bg b0 b1 bv) : G bx 0 = some bt := h.2.2.2.2.2.2.2.2.2.1.1
theorem BootH.g0_1 (h : BootH n sh G bx bt d be bf bg b0 b1 bv) : G bx 1 = some d := h.2.2.2.2.2.2.2.2.2.1.2.1
theorem BootH.g0_2 (h : BootH n sh G bx bt d be bf bg b0 b1 bv) : G bx 2 = some be := h.2.2.2.2.2.2.2.2.2.1.2.2.1
theorem BootH.g0_3 (h : BootH n sh G bx bt d be bf bg b0 b1 bv) : G bx 3 = some bf := h.2.2.2.2.2.2.2.2.2.1.2.2.2.1
theorem BootH.g0_4 (h : BootH n sh G bx bt d be bf bg b0 b1 bv) : G bx 4 = some bg := h.2.2.2.2.2.2.2.2.2.1.2.2.2.2.1
theorem BootH.g0_5 (h : BootH n sh G bx bt d be bf bg b0 b1 bv) : G bx 5 = some bv := h.2.2.2.2.2.2.2.2.2.1.2.2.2.2.2.1
theorem BootH.gg_0 (h : BootH n sh G bx bt d be bf bg b0 b1 bv) : G bg 0 = some b0 := h.2.2.2.2.2.2.2.2.2.1.2.2.2.2.2.2.1
theorem BootH.gg_1 (h : BootH n sh G bx bt d be bf bg b0 b1 bv) : G bg 1 = some b1 := h.2.2.2.2.2.2.2.2.2.1.2.2.2.2.2.2.2
theorem BootH.ord (h : BootH n sh G bx bt d be bf bg b0 b1 bv) : bx < bt ∧ bt + 6 ≤ d ∧ d + 19 ≤ be ∧ be + 19 ≤ bf ∧ bf + 19 ≤ bg ∧ bg < b0 ∧ b0 + 19 ≤ b1 ∧ b1 + 19 ≤ bv := h.2.2.2.2.2.2.2.2.2.2
end BH
/-- nothing but cells from d on, below g, may differ -/
def FB (d g : Nat) (I I' : mI) : Prop := ∀ b, b < d ∨ g ≤ b → I' b = I b
theorem FB.rf {d g : Nat} {I : mI} : FB d g I I := fun _ _ => rfl
theorem FB.tr {d g : Nat} {I I1 I2 : mI} (h : FB d g I I1) (h2 : FB d g I1 I2) : FB d g I I2 := fun b hb => (h2 b hb).trans (h b hb)
theorem FB.mo {d g d' g' : Nat} {I I1 : mI} (h : FB d g I I1) (h1 : d' ≤ d) (h2 : g ≤ g') : FB d' g' I I1 := fun b hb => h b (by omega)
theorem FD.fb {d g : Nat} {os : List Nat} {I I' : mI} (h : FD d os I I') (ho : ∀ o, o ∈ os → o < 19) (hg : d + 19 ≤ g) : FB d g I I' := fun b hb => h b (fun o h1 => by have := ho o h1; omega)
/-- a device and a bound of its events -/
def RelN (d : Nat) (I : mI) (σ : sT) (B : Nat) : Prop := ∃ T N, T ≤ B ∧ RelD d I σ T N
theorem RelN.of {d : Nat} {I : mI} {σ : sT} {T N B : Nat} (h : RelD d I σ T N) (hb : T ≤ B) : RelN d I σ B := ⟨T, N, hb, h⟩
theorem LedR.gen {d : Nat} {I : mI} {σ : sT} (h : LedR d I σ) : I (d + 16) 1 = a_gen σ := by
  by_cases e : activeI σ = -1
  · rw [(h.2.1 e).1, a_gen, if_pos e]
  · obtain ⟨p, hp, ep⟩ := act_n rfl e
    rw [(h.2.2.1 p hp ep).1, a_gen_y hp ep]
theorem LedR.cnt {d : Nat} {I : mI} {σ : sT} (h : LedR d I σ) : I (d + 16) 3 = a_cnt σ := by
  by_cases e : activeI σ = -1
  · rw [(h.2.1 e).2.2.1, a_cnt, if_pos e]
  · obtain ⟨p, hp, ep⟩ := act_n rfl e
    rw [(h.2.2.1 p hp ep).2.2.1, a_cnt, if_neg e, ep, tn_nI (by omega)]
theorem LedR.spl {d : Nat} {I : mI} {σ : sT} (h : LedR d I σ) : I (d + 16) 4 = a_spl σ := by
  by_cases e : activeI σ = -1
  · rw [(h.2.1 e).2.2.2, a_spl, if_pos e]
  · obtain ⟨p, hp, ep⟩ := act_n rfl e
    rw [(h.2.2.1 p hp ep).2.2.2, a_spl, if_neg e, ep, tn_nI (by omega)]
theorem min40 {T : Nat} (h : T < 2 ^ 31) : (if (40 : Int32) < nI T then 40 else nI T) = nI (min T 40) := by
  rw [show (40 : Int32) = nI 40 from rfl]
  by_cases q : 40 < T
  · rw [if_pos ((nI_ltI (a := 40) (by decide) h).mpr q), Nat.min_eq_right (by omega)]
  · rw [if_neg (fun g => q ((nI_ltI (a := 40) (by decide) h).mp g)), Nat.min_eq_left (by omega)]
theorem inb_lt {i : Int32} {k : Nat} (h : inb i k = false) (h1 : ¬ i < 0) (h2 : i < nI k) : False := by
  rcases inb_no h with q | q
  · exact h1 q
  · exact Int32.not_lt.mpr q h2

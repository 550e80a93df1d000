/-! CALLS that may throw; the class's checks of its arguments -/
section R4
variable {own : String} {cc : ByteArray} {nL pc b : Nat} {ls ls' : List (Nat × Value)} {st rest : List Value}
variable {ret : Option FieldType} {fr lo mc ms n kc ks : Nat} {sh : mS} {G : mG} {Q : Option Value → mI → mJ → Prop} {X : String → mI → mJ → Prop} {I : mI} {J : mJ}
variable {y : MethodName} {cb : ByteArray} {nb : Nat} {rb : Option FieldType} {fr' lo' mc' ms' nA : Nat} {As As' : List Value} {X' : String → mI → mJ → Prop}
theorem r_vSX {ix : Nat} {P : mI → mJ → Prop} (hs : Sp y cb nb rb fr' lo' mc' ms' As n sh G I J (Qv P) X') (hw : cw own ix y cb nb rb nA) (hst : Cond.static y ∈ TT) (hd : decode cc pc = .ok (.invokestatic ix, 3)) (hn : As.length = nA) (hstk : st = As.reverse ++ rest) (hcat : (rest.map fun v => v.category).sum ≤ 8) (hroom : fr' + 1 ≤ fr ∧ nb + 19 + lo' ≤ lo ∧ mc' ≤ kc ∧ ms' ≤ ks) (hb : pc + 3 = b)
    (kx : ∀ (E : String) (I1 : mI) (J1 : mJ), X' E I1 J1 → X E I1 J1)
    (kk : ∀ (I1 : mI) (J1 : mJ), P I1 J1 → Rc own cc nL ret fr lo mc ms n sh G Q X (kc - mc') (ks - ms') b ls rest I1 J1) : Rc own cc nL ret fr lo mc ms n sh G Q X kc ks pc ls st I J :=
  r_callS hs hw hst hd hn hstk hcat hroom hb kx (fun r I1 J1 h => by
    obtain ⟨rfl, hP⟩ := h
    exact kk I1 J1 hP)
theorem r_iVX {ix ci N d : Nat} {C : String} {T : u_T} {P : Int32 → mI → mJ → Prop} (hs : Sp y cb nb rb fr' lo' mc' ms' (.ref d :: As') n sh G I J (Qi P) X') (hw : cw own ix y cb nb rb nA) (hin : Cond.instanceMethod y ∈ TT) (hsel : Cond.selects C y y ∈ TT) (hcl : vwCl[ci]? = some (C, T, N)) (hid : d < n) (hsh : sh d = .inl (ci, N)) (hd : decode cc pc = .ok (.invokevirtual ix, 3)) (hn : As'.length = nA) (hstk : st = As'.reverse ++ .ref d :: rest) (hcat : (rest.map fun v => v.category).sum ≤ 8) (hroom : fr' + 1 ≤ fr ∧ nb + 19 + lo' ≤ lo ∧ mc' ≤ kc ∧ ms' ≤ ks) (hb : pc + 3 = b)
    (kx : ∀ (E : String) (I1 : mI) (J1 : mJ), X' E I1 J1 → X E I1 J1)
    (kk : ∀ (v : Int32) (I1 : mI) (J1 : mJ), P v I1 J1 → Rc own cc nL ret fr lo mc ms n sh G Q X (kc - mc') (ks - ms') b ls (.int v :: rest) I1 J1) : Rc own cc nL ret fr lo mc ms n sh G Q X kc ks pc ls st I J :=
  r_callV hs hw hin hsel hcl hid hsh hd hn hstk hcat hroom hb kx (fun r I1 J1 h => by
    obtain ⟨v, rfl, hP⟩ := h
    exact kk v I1 J1 hP)
end R4
def xR (ok : Bool) (E0 : String) (I : mI) (J : mJ) : String → mI → mJ → Prop := fun E I_ J_ => E = E0 ∧ ok = false ∧ I = I_ ∧ J = J_
def eX (code : Int32) (I : mI) (J : mJ) : String → mI → mJ → Prop := fun E I_ J_ => ((E = bIA ∧ code = 1) ∨ (E = bIB ∧ code = 2)) ∧ I = I_ ∧ J = J_
theorem q_cIA : Cond.classLink "TwinBoot" 264 bIA ∈ TT := TT_of (tb2 (List.mem_of_getElem? (i := 106) rfl)) rfl
theorem q_cIB : Cond.classLink "TwinBoot" 271 bIB ∈ TT := TT_of (tb4 (List.mem_of_getElem? (i := 48) rfl)) rfl
theorem bS6 : ("TwinBoot", 266, "a number is out of range", 6) ∈ bStr := by simp [bStr]
theorem bS7 : ("TwinBoot", 273, "there is no such place", 7) ∈ bStr := by simp [bStr]
/-- a device's cells copied to another -/
theorem LogD.cp {o d : Nat} {I I' : mI} {σ : sT} {T : Nat} (h : LogD o I σ T) (h4 : I' (d + 11) 4 = I (o + 11) 4) (hl : ∀ q k, q < 3 → k < 40 → I' (d + 12 + q) k = I (o + 12 + q) k) : LogD d I' σ T :=
  ⟨h4.trans h.1, h.2.1, fun r c hr hc => (hl c _ hc (Nat.mod_lt _ (by decide))).trans (h.2.2 r c hr hc)⟩
theorem RelD.cp {o d : Nat} {I I' : mI} {σ : sT} {T N : Nat} (h : RelD o I σ T N) (hc : ∀ q k a, Loc N q k a → I' (d + q) k = I (o + q) k) (h4 : I' (d + 1) 4 = I (o + 1) 4) (h5 : I' (d + 11) 4 = I (o + 11) 4) (hl : ∀ q k, q < 3 → k < 40 → I' (d + 12 + q) k = I (o + 12 + q) k) : RelD d I' σ T N :=
  ⟨fun q k a hq => (hc q k a hq).trans (h.1 q k a hq), h4.trans h.2.1, h.2.2.1.cp h5 hl, h.2.2.2⟩
theorem RelD.fr {d : Nat} {I I' : mI} {σ : sT} {T N : Nat} (h : RelD d I σ T N) (hf : ∀ b, d ≤ b → b < d + 19 → I' b = I b) : RelD d I' σ T N :=
  h.cp (fun q k a hq => by rw [hf (d + q) (by omega) (by have := hq.bd h.2.2.2.2.1; omega)]) (by rw [hf (d + 1) (by omega) (by omega)]) (by rw [hf (d + 11) (by omega) (by omega)]) (fun q k hq _ => by rw [hf (d + 12 + q) (by omega) (by omega)])

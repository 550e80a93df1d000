/-! calls that make nothing and throw nothing, by what they answer -/
def nX : String → mI → mJ → Prop := fun _ _ _ => False
def Qi (P : Int32 → mI → mJ → Prop) : Option Value → mI → mJ → Prop := fun r I J => ∃ v : Int32, r = some (.int v) ∧ P v I J
def Qv (P : mI → mJ → Prop) : Option Value → mI → mJ → Prop := fun r I J => r = none ∧ P I J
def Qr (P : Nat → mI → mJ → Prop) : Option Value → mI → mJ → Prop := fun r I J => ∃ a : Nat, r = some (.ref a) ∧ P a I J
def bi (b : Bool) : Int32 := if b then 1 else 0
theorem bi_t {b : Bool} (h : ¬ bi b = 0) : b = true := by cases b <;> simp_all [bi]
theorem bi_f {b : Bool} (h : bi b = 0) : b = false := by cases b <;> simp_all [bi]
theorem bi_nar (b : Bool) : narrow .boolean (.int (bi b)) = .int (bi b) := by cases b <;> decide
section R2
variable {own : String} {cc : ByteArray} {nL pc b : Nat} {ls ls' : List (Nat × Value)} {st rest : List Value}
variable {ret : Option FieldType} {fr lo mc ms n kc ks : Nat} {sh : mS} {G : mG} {Q : Option Value → mI → mJ → Prop} {X : String → mI → mJ → Prop} {I : mI} {J : mJ}
variable {y : MethodName} {cb : ByteArray} {nb : Nat} {rb : Option FieldType} {fr' lo' nA : Nat} {As As' : List Value}
theorem r_iS {ix : Nat} {P : Int32 → mI → mJ → Prop} (hs : Sp y cb nb rb fr' lo' 0 0 As n sh G I J (Qi P) nX) (hw : cw own ix y cb nb rb nA) (hst : Cond.static y ∈ TT) (hd : decode cc pc = .ok (.invokestatic ix, 3)) (hn : As.length = nA) (hstk : st = As.reverse ++ rest) (hcat : (rest.map fun v => v.category).sum ≤ 8) (hroom : fr' + 1 ≤ fr ∧ nb + 19 + lo' ≤ lo) (hb : pc + 3 = b)
    (kk : ∀ (v : Int32) (I1 : mI) (J1 : mJ), P v I1 J1 → Rc own cc nL ret fr lo mc ms n sh G Q X kc ks b ls (.int v :: rest) I1 J1) : Rc own cc nL ret fr lo mc ms n sh G Q X kc ks pc ls st I J :=
  r_callS hs hw hst hd hn hstk hcat ⟨hroom.1, hroom.2, Nat.zero_le _, Nat.zero_le _⟩ hb (fun _ _ _ h => h.elim) (fun r I1 J1 h => by
    obtain ⟨v, rfl, hP⟩ := h
    exact kk v I1 J1 hP)
theorem r_vS {ix : Nat} {P : mI → mJ → Prop} (hs : Sp y cb nb rb fr' lo' 0 0 As n sh G I J (Qv P) nX) (hw : cw own ix y cb nb rb nA) (hst : Cond.static y ∈ TT) (hd : decode cc pc = .ok (.invokestatic ix, 3)) (hn : As.length = nA) (hstk : st = As.reverse ++ rest) (hcat : (rest.map fun v => v.category).sum ≤ 8) (hroom : fr' + 1 ≤ fr ∧ nb + 19 + lo' ≤ lo) (hb : pc + 3 = b)
    (kk : ∀ (I1 : mI) (J1 : mJ), P I1 J1 → Rc own cc nL ret fr lo mc ms n sh G Q X kc ks b ls rest I1 J1) : Rc own cc nL ret fr lo mc ms n sh G Q X kc ks pc ls st I J :=
  r_callS hs hw hst hd hn hstk hcat ⟨hroom.1, hroom.2, Nat.zero_le _, Nat.zero_le _⟩ hb (fun _ _ _ h => h.elim) (fun r I1 J1 h => by
    obtain ⟨rfl, hP⟩ := h
    exact kk I1 J1 hP)
theorem r_iV {ix ci N d : Nat} {C : String} {T : u_T} {P : Int32 → mI → mJ → Prop} (hs : Sp y cb nb rb fr' lo' 0 0 (.ref d :: As') n sh G I J (Qi P) nX) (hw : cw own ix y cb nb rb nA) (hin : Cond.instanceMethod y ∈ TT) (hsel : Cond.selects C y y ∈ TT) (hcl : vwCl[ci]? = some (C, T, N)) (hid : d < n) (hsh : sh d = .inl (ci, N)) (hd : decode cc pc = .ok (.invokevirtual ix, 3)) (hn : As'.length = nA) (hstk : st = As'.reverse ++ .ref d :: rest) (hcat : (rest.map fun v => v.category).sum ≤ 8) (hroom : fr' + 1 ≤ fr ∧ nb + 19 + lo' ≤ lo) (hb : pc + 3 = b)
    (kk : ∀ (v : Int32) (I1 : mI) (J1 : mJ), P v I1 J1 → Rc own cc nL ret fr lo mc ms n sh G Q X kc ks b ls (.int v :: rest) I1 J1) : Rc own cc nL ret fr lo mc ms n sh G Q X kc ks pc ls st I J :=
  r_callV hs hw hin hsel hcl hid hsh hd hn hstk hcat ⟨hroom.1, hroom.2, Nat.zero_le _, Nat.zero_le _⟩ hb (fun _ _ _ h => h.elim) (fun r I1 J1 h => by
    obtain ⟨v, rfl, hP⟩ := h
    exact kk v I1 J1 hP)
theorem r_vV {ix ci N d : Nat} {C : String} {T : u_T} {P : mI → mJ → Prop} (hs : Sp y cb nb rb fr' lo' 0 0 (.ref d :: As') n sh G I J (Qv P) nX) (hw : cw own ix y cb nb rb nA) (hin : Cond.instanceMethod y ∈ TT) (hsel : Cond.selects C y y ∈ TT) (hcl : vwCl[ci]? = some (C, T, N)) (hid : d < n) (hsh : sh d = .inl (ci, N)) (hd : decode cc pc = .ok (.invokevirtual ix, 3)) (hn : As'.length = nA) (hstk : st = As'.reverse ++ .ref d :: rest) (hcat : (rest.map fun v => v.category).sum ≤ 8) (hroom : fr' + 1 ≤ fr ∧ nb + 19 + lo' ≤ lo) (hb : pc + 3 = b)
    (kk : ∀ (I1 : mI) (J1 : mJ), P I1 J1 → Rc own cc nL ret fr lo mc ms n sh G Q X kc ks b ls rest I1 J1) : Rc own cc nL ret fr lo mc ms n sh G Q X kc ks pc ls st I J :=
  r_callV hs hw hin hsel hcl hid hsh hd hn hstk hcat ⟨hroom.1, hroom.2, Nat.zero_le _, Nat.zero_le _⟩ hb (fun _ _ _ h => h.elim) (fun r I1 J1 h => by
    obtain ⟨rfl, hP⟩ := h
    exact kk I1 J1 hP)
theorem r_rV {ix ci N d : Nat} {C : String} {T : u_T} {P : Nat → mI → mJ → Prop} (hs : Sp y cb nb rb fr' lo' 0 0 (.ref d :: As') n sh G I J (Qr P) nX) (hw : cw own ix y cb nb rb nA) (hin : Cond.instanceMethod y ∈ TT) (hsel : Cond.selects C y y ∈ TT) (hcl : vwCl[ci]? = some (C, T, N)) (hid : d < n) (hsh : sh d = .inl (ci, N)) (hd : decode cc pc = .ok (.invokevirtual ix, 3)) (hn : As'.length = nA) (hstk : st = As'.reverse ++ .ref d :: rest) (hcat : (rest.map fun v => v.category).sum ≤ 8) (hroom : fr' + 1 ≤ fr ∧ nb + 19 + lo' ≤ lo) (hb : pc + 3 = b)
    (kk : ∀ (a : Nat) (I1 : mI) (J1 : mJ), P a I1 J1 → Rc own cc nL ret fr lo mc ms n sh G Q X kc ks b ls (.ref a :: rest) I1 J1) : Rc own cc nL ret fr lo mc ms n sh G Q X kc ks pc ls st I J :=
  r_callV hs hw hin hsel hcl hid hsh hd hn hstk hcat ⟨hroom.1, hroom.2, Nat.zero_le _, Nat.zero_le _⟩ hb (fun _ _ _ h => h.elim) (fun r I1 J1 h => by
    obtain ⟨v, rfl, hP⟩ := h
    exact kk v I1 J1 hP)
/-- a stored row of the memory -/
theorem up2_row (I : mI) (a k : Nat) (v : Int32) : (up2 I a k v) a = upd (I a) k v := by
  funext j
  simp [up2, upd]
theorem up2_off {I : mI} {a k c : Nat} {v : Int32} (h : c ≠ a) : (up2 I a k v) c = I c := funext fun _ => up2_a h
end R2

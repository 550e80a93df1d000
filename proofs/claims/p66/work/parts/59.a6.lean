/-! THE REFERENCE: its calls, predictions -/
theorem FF.cp {m o : Nat} {bs l : List Nat} {I I1 : mI} (h : ∀ c, c ≠ m + o → I1 c = I c) (h0 : 0 < o) (ho : o ∈ bs) : FF m bs l I I1 := ⟨fun c _ hc => h c (hc o ho), fun j _ => congrFun (h m (by omega)) j⟩

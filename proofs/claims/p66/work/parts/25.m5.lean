/-! THE REFERENCE: moving the journal, appending a record -/
theorem rcS_2 {τ : sT} : rcS τ 2 = rc4 τ := rfl

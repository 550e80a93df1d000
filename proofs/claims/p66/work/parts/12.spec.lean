/-! WHAT THE DEVICE DOES, in numbers: one state, a row σ of numbers at the reference's places (0 to 308), the log as a history behind 1000, its length at 500 -/
abbrev sT : Type := Nat → Int32
def tn (x : Int32) : Nat := x.toNatClampNeg
theorem tn_nI {a : Nat} (h : a < 2 ^ 31) : tn (nI a) = a := nI_clamp h
def inJ (a b c : Int64) : Bool := decide (b ≤ a) && decide (a ≤ c)
def inI (a b c : Int32) : Bool := decide (b ≤ a) && decide (a ≤ c)
theorem inJ_I (a b c : Int32) : inJ a.toInt64 b.toInt64 c.toInt64 = inI a b c := by simp [inJ, inI, Int32.le_iff_toInt_le, Int64.le_iff_toInt_le, Int32.toInt_toInt64]
def wordI (kind value : Int32) : Int32 := 4096 * kind + 16 * value + (kind + value / 16 + value % 16) % 16
def kindI (x : Int32) : Int32 := x / 4096
def valI (x : Int32) : Int32 := x / 16 % 256
def rightI (x : Int32) : Bool := inI (kindI x) 1 6 && (decide (wordI (kindI x) (valI x) = x) && (!(inI (kindI x) 2 5) || decide (valI x ≤ 1)))

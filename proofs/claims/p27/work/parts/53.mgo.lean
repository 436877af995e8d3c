/-- slot s: its bytes below its size are bytes -/
def okS (bf sz : Nat → Int) (s : Int) : Prop := ∀ j : Int, 0 ≤ j → j < sz s.toNat → 0 ≤ bf (256 * s + j).toNat ∧ bf (256 * s + j).toNat ≤ 255

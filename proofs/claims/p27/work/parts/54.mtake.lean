theorem tk_A {bf : Nat → Int} {s u v : Int} {q : Nat} (hs : 0 ≤ s) (hu : 0 ≤ u ∧ u < 256) (hq : (q : Int) < 256 * s ∨ 256 * s + 256 ≤ q) : va_up bf (256 * s + u).toNat v q = bf q := up_ne (by omega)

theorem up_ne {α : Type} {f : Nat → α} {i j : Nat} {v : α} (h : j ≠ i) : va_up f i v j = f j := if_neg h
theorem up_eq {α : Type} {f : Nat → α} {i : Nat} {v : α} : va_up f i v i = v := if_pos rfl
/-- slot 12: its bytes below its size are bytes -/
def ok12 (bf sz : Nat → Int) : Prop := ∀ j : Nat, (j : Int) < sz 12 → 0 ≤ bf (3072 + j) ∧ bf (3072 + j) ≤ 255
theorem add_A {bf bf1 : Nat → Int} {s v : Int} (e : bf1 = va_up bf (3072 + s).toNat v) (h : 0 ≤ s) : ∀ q : Nat, q < 3072 → bf1 q = bf q := by
  intro q hq
  rw [e]
  exact up_ne (by omega)
theorem add_C {sz sz1 : Nat → Int} {v : Int} (e : sz1 = va_up sz 12 v) : ∀ t : Nat, t ≠ 12 → sz1 t = sz t := by
  intro t ht
  rw [e]
  exact up_ne ht

def okV (bf : Nat → Int) (u : Int) : Prop := ∀ q : Int, 0 ≤ q → q < u → 0 ≤ bf (3072 + q).toNat ∧ bf (3072 + q).toNat ≤ 255
def okW (bf : Nat → Int) (u : Int) : Prop := ∀ q : Int, 0 ≤ q → q < u → -26 ≤ bf (3072 + q).toNat ∧ bf (3072 + q).toNat ≤ 255
theorem okV_0 {bf : Nat → Int} : okV bf 0 := fun q h0 h1 => by omega
theorem okW_0 {bf : Nat → Int} : okW bf 0 := fun q h0 h1 => by omega
theorem okV_s {bf : Nat → Int} {u v : Int} (hu : 0 ≤ u) (hv : 0 ≤ v ∧ v ≤ 255) (H : okV bf u) : okV (va_up bf (3072 + u).toNat v) (u + 1) := by
  intro q h0 h1
  by_cases e : q = u
  · subst e
    rw [up_eq]
    exact hv
  · rw [up_ne (by omega)]
    exact H q h0 (by omega)
theorem okV_k {bf : Nat → Int} {u : Int} (hv : 0 ≤ bf (3072 + u).toNat ∧ bf (3072 + u).toNat ≤ 255) (H : okV bf u) : okV bf (u + 1) := by
  intro q h0 h1
  by_cases e : q = u
  · subst e
    exact hv
  · exact H q h0 (by omega)
theorem okW_u {bf : Nat → Int} {u v w : Int} (hu : 0 ≤ u) (hv : -26 ≤ v ∧ v ≤ 255) (H : okW bf w) : okW (va_up bf (3072 + u).toNat v) w := by
  intro q h0 h1
  by_cases e : q = u
  · subst e
    rw [up_eq]
    exact hv
  · rw [up_ne (by omega)]
    exact H q h0 h1
theorem add_W {bf bf1 sz sz1 : Nat → Int} {v : Int} (e : bf1 = va_up bf (3072 + sz 12).toNat v) (e2 : sz1 = va_up sz 12 (sz 12 + 1)) (h : 0 ≤ sz 12) (hv : -26 ≤ v ∧ v ≤ 255) (H : okW bf (sz 12)) : okW bf1 (sz1 12) := by
  rw [e2, up_eq, e]
  intro q h0 h1
  by_cases e : q = sz 12
  · subst e
    rw [up_eq]
    exact hv
  · rw [up_ne (by omega)]
    exact H q h0 (by omega)
theorem add_Z {sz sz1 : Nat → Int} (e2 : sz1 = va_up sz 12 (sz 12 + 1)) : sz1 12 = sz 12 + 1 := by rw [e2, up_eq]
theorem okV_12 {bf sz : Nat → Int} (H : okV bf (sz 12)) : ok12 bf sz := by
  intro j hj
  have := H (j : Int) (by omega) hj
  have e : (3072 + (j : Int)).toNat = 3072 + j := by omega
  rw [e] at this
  exact this
theorem rs_A {bf : Nat → Int} {u v : Int} {q : Nat} (hu : 0 ≤ u) (hq : q < 3072) : va_up bf (3072 + u).toNat v q = bf q := up_ne (by omega)

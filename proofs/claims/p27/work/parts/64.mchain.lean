/-- the n-th of a chain -/
def itB (g : Nat → Int) (t : Int) : Nat → Int
  | 0 => t
  | n + 1 => g (itB g t n).toNat
theorem itB_s {g : Nat → Int} {t n c : Int} (hn : 0 ≤ n) (h0 : 0 ≤ c) (h1 : c ≤ t) (hC : itB g t n.toNat = c) (hI : ∀ m : Nat, (m : Int) < n → 0 ≤ itB g t m ∧ itB g t m ≤ t) : ∀ m : Nat, (m : Int) < n + 1 → 0 ≤ itB g t m ∧ itB g t m ≤ t := by
  intro m hm
  by_cases e : (m : Int) = n
  · have : m = n.toNat := by omega
    rw [this, hC]
    exact ⟨h0, h1⟩
  · exact hI m (by omega)
theorem itB_n {g : Nat → Int} {t n c : Int} (hn : 0 ≤ n) (hC : itB g t n.toNat = c) : itB g t (n + 1).toNat = g c.toNat := by
  have : (n + 1).toNat = n.toNat + 1 := by omega
  rw [this]
  show g (itB g t n.toNat).toNat = g c.toNat
  rw [hC]

/-! what rebuilt, stale, sealed, least, chain say, from the tools' data (behind B10, C3, 64: itB) -/
section SPEC
variable (xn : Nat → Int) (X : Nat → Int → Int) (V C : Nat → Nat → Int)
end SPEC
section SPECL
variable {xn : Nat → Int} {X : Nat → Int → Int} {V C : Nat → Nat → Int}
end SPECL
/-- r tools are in the chain of t -/
def isLen (g : Nat → Int) (t r : Int) : Prop := 1 ≤ r ∧ (∀ m : Nat, (m : Int) < r → 0 ≤ itB g t m) ∧ itB g t r.toNat = -9
theorem isLen_un {g : Nat → Int} {t r r' : Int} (h : isLen g t r) (h' : isLen g t r') : r = r' := by
  obtain ⟨a, b, c⟩ := h
  obtain ⟨a', b', c'⟩ := h'
  by_cases q : r < r'
  · have := b' r.toNat (by omega)
    omega
  · by_cases q2 : r' < r
    · have := b r'.toNat (by omega)
      omega
    · omega
/-- chains of the same builders -/
theorem itB_cg {g g' : Nat → Int} {n t : Int} (hg : ∀ j : Nat, (j : Int) < n → g j = g' j) (hb : ∀ j : Nat, (j : Int) < n → g j = -9 ∨ (0 ≤ g j ∧ g j < n)) (ht : 0 ≤ t ∧ t < n) : ∀ m : Nat, (∀ i : Nat, i < m → 0 ≤ itB g t i) → itB g t m = itB g' t m ∧ (itB g t m = -9 ∨ (0 ≤ itB g t m ∧ itB g t m < n))
  | 0, _ => ⟨rfl, Or.inr ht⟩
  | m + 1, H => by
    have ih := itB_cg hg hb ht m (fun i hi => H i (by omega))
    have h0 := H m (by omega)
    have e : (itB g t m).toNat < n.toNat ∧ 0 ≤ itB g t m ∧ itB g t m < n := by
      rcases ih.2 with q | q <;> omega
    refine ⟨?_, ?_⟩
    · show g (itB g t m).toNat = g' (itB g' t m).toNat
      rw [← ih.1]
      exact hg _ (by omega)
    · show g (itB g t m).toNat = -9 ∨ (0 ≤ g (itB g t m).toNat ∧ g (itB g t m).toNat < n)
      exact hb _ (by omega)

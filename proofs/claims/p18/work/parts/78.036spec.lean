/-! what rebuilt, stale, sealed, least, chain say, from the tools' data (behind B10, C3, 64: itB) -/
section SPEC
variable (xn : Nat → Int) (X : Nat → Int → Int) (V C : Nat → Nat → Int)
/-- the builder's run on the tool's text -/
noncomputable def bRun (t : Nat) : Int × MS := run0 (xn (V 2 t).toNat) (X (V 2 t).toNat) (V 0 (V 3 t).toNat) (C (V 3 t).toNat)
/-- what comes when the tool is made again: 0 if something comes; its length; its bytes -/
noncomputable def gtA (t : Nat) : Int × Int × (Nat → Int) := if V 1 t = 2 then (@ite Int (bldOk (bRun xn X V C t)) (Classical.propDecidable _) 0 1, msC (bRun xn X V C t).2, msO (bRun xn X V C t).2) else if V 1 t = 0 then (if (prsE (xn (V 2 t).toNat) (X (V 2 t).toNat)).1 = -9 then 0 else 1, (prsE (xn (V 2 t).toNat) (X (V 2 t).toNat)).2.1, (prsE (xn (V 2 t).toNat) (X (V 2 t).toNat)).2.2.1) else (if (namE (xn (V 2 t).toNat) (X (V 2 t).toNat)).1 = -9 then 0 else 1, (namE (xn (V 2 t).toNat) (X (V 2 t).toNat)).2.1, (namE (xn (V 2 t).toNat) (X (V 2 t).toNat)).2.2.1)
/-- made again alike -/
def rbz (t : Nat) : Prop := (gtA xn X V C t).1 = 0 ∧ ulk (V 0 t) (C t) (gtA xn X V C t).2.1 (gtA xn X V C t).2.2 = 0
end SPEC
section SPECL
variable {xn : Nat → Int} {X : Nat → Int → Int} {V C : Nat → Nat → Int}
end SPECL
/-- r tools are in the chain of t -/
def isLen (g : Nat → Int) (t r : Int) : Prop := 1 ≤ r ∧ (∀ m : Nat, (m : Int) < r → 0 ≤ itB g t m) ∧ itB g t r.toNat = -9
theorem isLen_un {g : Nat → Int} {t r r' : Int} (h : isLen g t r) (h' : isLen g t r') : r = r' := by
  obtain ⟨a, b, c⟩ := h
  obtain ⟨a', b', c'⟩ := h'
  by_cases q : r < r'
  · have := b' r.toNat (by omega)
    omega
  · by_cases q2 : r' < r
    · have := b r'.toNat (by omega)
      omega
    · omega
/-- chains of the same builders -/
theorem itB_cg {g g' : Nat → Int} {n t : Int} (hg : ∀ j : Nat, (j : Int) < n → g j = g' j) (hb : ∀ j : Nat, (j : Int) < n → g j = -9 ∨ (0 ≤ g j ∧ g j < n)) (ht : 0 ≤ t ∧ t < n) : ∀ m : Nat, (∀ i : Nat, i < m → 0 ≤ itB g t i) → itB g t m = itB g' t m ∧ (itB g t m = -9 ∨ (0 ≤ itB g t m ∧ itB g t m < n))
  | 0, _ => ⟨rfl, Or.inr ht⟩
  | m + 1, H => by
    have ih := itB_cg hg hb ht m (fun i hi => H i (by omega))
    have h0 := H m (by omega)
    have e : (itB g t m).toNat < n.toNat ∧ 0 ≤ itB g t m ∧ itB g t m < n := by
      rcases ih.2 with q | q <;> omega
    refine ⟨?_, ?_⟩
    · show g (itB g t m).toNat = g' (itB g' t m).toNat
      rw [← ih.1]
      exact hg _ (by omega)
    · show g (itB g t m).toNat = -9 ∨ (0 ≤ g (itB g t m).toNat ∧ g (itB g t m).toNat < n)
      exact hb _ (by omega)

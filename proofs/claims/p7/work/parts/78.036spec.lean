/-! what rebuilt, stale, sealed, least, chain say, from the tools' data (behind B10, C3, 64: itB) -/
section SPEC
variable (xn : Nat → Int) (X : Nat → Int → Int) (V C : Nat → Nat → Int)
/-- the builder's run on the tool's text -/
noncomputable def bRun (t : Nat) : Int × MS := run0 (xn (V 2 t).toNat) (X (V 2 t).toNat) (V 0 (V 3 t).toNat) (C (V 3 t).toNat)
/-- what comes when the tool is made again: 0 if something comes; its length; its bytes -/
noncomputable def gtA (t : Nat) : Int × Int × (Nat → Int) := if V 1 t = 2 then (@ite Int (bldOk (bRun xn X V C t)) (Classical.propDecidable _) 0 1, msC (bRun xn X V C t).2, msO (bRun xn X V C t).2) else if V 1 t = 0 then (if (prsE (xn (V 2 t).toNat) (X (V 2 t).toNat)).1 = -9 then 0 else 1, (prsE (xn (V 2 t).toNat) (X (V 2 t).toNat)).2.1, (prsE (xn (V 2 t).toNat) (X (V 2 t).toNat)).2.2.1) else (if (namE (xn (V 2 t).toNat) (X (V 2 t).toNat)).1 = -9 then 0 else 1, (namE (xn (V 2 t).toNat) (X (V 2 t).toNat)).2.1, (namE (xn (V 2 t).toNat) (X (V 2 t).toNat)).2.2.1)
/-- made again alike -/
def rbz (t : Nat) : Prop := (gtA xn X V C t).1 = 0 ∧ ulk (V 0 t) (C t) (gtA xn X V C t).2.1 (gtA xn X V C t).2.2 = 0
/-- the stale ones of the first n tools, as a set's number -/
noncomputable def stS : Nat → Nat
  | 0 => 0
  | n + 1 => @ite Nat ((V 1 n = 2 ∧ stS n / 2 ^ (V 3 n).toNat % 2 = 1) ∨ ¬ rbz xn X V C n) (Classical.propDecidable _) (stS n + 2 ^ n) (stS n)
end SPEC
section SPECL
variable {xn : Nat → Int} {X : Nat → Int → Int} {V C : Nat → Nat → Int}
theorem stS_y {n : Nat} (h : (V 1 n = 2 ∧ stS xn X V C n / 2 ^ (V 3 n).toNat % 2 = 1) ∨ ¬ rbz xn X V C n) : stS xn X V C (n + 1) = stS xn X V C n + 2 ^ n := by
  rw [stS]
  exact if_pos h
theorem stS_n {n : Nat} (h : ¬ ((V 1 n = 2 ∧ stS xn X V C n / 2 ^ (V 3 n).toNat % 2 = 1) ∨ ¬ rbz xn X V C n)) : stS xn X V C (n + 1) = stS xn X V C n := by
  rw [stS]
  exact if_neg h
theorem stS_lt (n : Nat) : stS xn X V C n < 2 ^ n := by
  induction n with
  | zero => simp [stS]
  | succ n ih =>
    have e : 2 ^ (n + 1) = 2 ^ n * 2 := Nat.pow_succ 2 n
    by_cases h : (V 1 n = 2 ∧ stS xn X V C n / 2 ^ (V 3 n).toNat % 2 = 1) ∨ ¬ rbz xn X V C n
    · rw [stS_y h]; omega
    · rw [stS_n h]; omega
end SPECL
/-- r tools are in the chain of t -/
def isLen (g : Nat → Int) (t r : Int) : Prop := 1 ≤ r ∧ (∀ m : Nat, (m : Int) < r → 0 ≤ itB g t m) ∧ itB g t r.toNat = -9
theorem isLen_un {g : Nat → Int} {t r r' : Int} (h : isLen g t r) (h' : isLen g t r') : r = r' := by
  obtain ⟨a, b, c⟩ := h
  obtain ⟨a', b', c'⟩ := h'
  by_cases q : r < r'
  · have := b' r.toNat (by omega)
    omega
  · by_cases q2 : r' < r
    · have := b r'.toNat (by omega)
      omega
    · omega
/-- chains of the same builders -/
theorem itB_cg {g g' : Nat → Int} {n t : Int} (hg : ∀ j : Nat, (j : Int) < n → g j = g' j) (hb : ∀ j : Nat, (j : Int) < n → g j = -9 ∨ (0 ≤ g j ∧ g j < n)) (ht : 0 ≤ t ∧ t < n) : ∀ m : Nat, (∀ i : Nat, i < m → 0 ≤ itB g t i) → itB g t m = itB g' t m ∧ (itB g t m = -9 ∨ (0 ≤ itB g t m ∧ itB g t m < n))
  | 0, _ => ⟨rfl, Or.inr ht⟩
  | m + 1, H => by
    have ih := itB_cg hg hb ht m (fun i hi => H i (by omega))
    have h0 := H m (by omega)
    have e : (itB g t m).toNat < n.toNat ∧ 0 ≤ itB g t m ∧ itB g t m < n := by
      rcases ih.2 with q | q <;> omega
    refine ⟨?_, ?_⟩
    · show g (itB g t m).toNat = g' (itB g' t m).toNat
      rw [← ih.1]
      exact hg _ (by omega)
    · show g (itB g t m).toNat = -9 ∨ (0 ≤ g (itB g t m).toNat ∧ g (itB g t m).toNat < n)
      exact hb _ (by omega)

/-! numbers in a range -/
def oki (lo hi : Int) (g : Nat → Int) : Prop := ∀ j, lo ≤ g j ∧ g j ≤ hi
theorem oki_up {lo hi : Int} {g : Nat → Int} (h : oki lo hi g) (i : Nat) {v : Int} (hv : lo ≤ v ∧ v ≤ hi) : oki lo hi (va_up g i v) := by
  intro j
  unfold va_up
  split
  · exact hv
  · exact h j
/-- a place, or -9 -/
def okn (g : Nat → Int) : Prop := ∀ j, g j = -9 ∨ (0 ≤ g j ∧ g j ≤ 255)
theorem okn_up {g : Nat → Int} (h : okn g) (i : Nat) {v : Int} (hv : v = -9 ∨ (0 ≤ v ∧ v ≤ 255)) : okn (va_up g i v) := by
  intro j
  unfold va_up
  split
  · exact hv
  · exact h j
section RR
variable {l : Launch} {y : MD} {pc : Nat} {L : ML} {S : List Value} {h : MH} {Q : Option Value → MH → Prop}
theorem g_iastFj {a N : Nat} {i v : Int} {g : Nat → Int} (j n : Nat) (d : decode y.2.1 pc = .ok (.iastore, 1)) (ha : h[a]? = some (.inl (0, N, .inl (zA g)))) (h0 : 0 ≤ i) (h1 : i < N) (hN : N < 2147483648) (hj : i.toNat = j) (hn : pc + 1 = n) (kk : ∀ (h1 : MH), Sm [a] h h1 → h1[a]? = some (.inl (0, N, .inl (zA (va_up g j v)))) → Go l y n L S h1 Q) : Go l y pc L (.int (iZ v) :: .int (iZ i) :: .ref a :: S) h Q := by
  subst hj
  exact g_iastF n d ha h0 h1 hN hn kk
end RR

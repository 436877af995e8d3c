/-! bits of a set of twelve -/
set_option maxRecDepth 100000 in
theorem orB_all : ∀ i : Nat, i < 12 → ∀ x : Nat, x < 64 → ∀ y : Nat, y < 64 → 64 * x + y < 2 ^ i → (iZ ((64 * x + y : Nat) : Int) ||| iZ (((2 ^ i : Nat)) : Int)) = iZ (((64 * x + y + 2 ^ i : Nat)) : Int) := by decide +kernel
set_option maxRecDepth 100000 in
theorem shB_all : ∀ k : Nat, k < 12 → ∀ x : Nat, x < 64 → ∀ y : Nat, y < 64 → ((iZ ((64 * x + y : Nat) : Int) >>> (iZ (k : Int) &&& 31)) &&& iZ 1) = iZ ((((64 * x + y) / 2 ^ k % 2 : Nat)) : Int) := by decide +kernel
theorem orB {i b : Nat} (hi : i < 12) (hb : b < 2 ^ i) : (iZ (b : Int) ||| iZ ((2 ^ i : Nat) : Int)) = iZ ((b + 2 ^ i : Nat) : Int) := by
  have h4 : 2 ^ i ≤ 2 ^ 11 := Nat.pow_le_pow_right (by decide) (by omega)
  have := orB_all i hi (b / 64) (by omega) (b % 64) (by omega) (by omega)
  rwa [show 64 * (b / 64) + b % 64 = b by omega] at this
theorem shB {k b : Nat} (hk : k < 12) (hb : b < 4096) : ((iZ (b : Int) >>> (iZ (k : Int) &&& 31)) &&& iZ 1) = iZ ((b / 2 ^ k % 2 : Nat) : Int) := by
  have := shB_all k hk (b / 64) (by omega) (b % 64) (by omega)
  rwa [show 64 * (b / 64) + b % 64 = b by omega] at this
/-- the set of the places of P below n -/
noncomputable def bset (P : Nat → Prop) : Nat → Nat
  | 0 => 0
  | n + 1 => @ite Nat (P n) (Classical.propDecidable _) (bset P n + 2 ^ n) (bset P n)
section BSET
variable {P P' : Nat → Prop}
theorem bset_y {n : Nat} (h : P n) : bset P (n + 1) = bset P n + 2 ^ n := by
  rw [bset]
  exact if_pos h
theorem bset_n {n : Nat} (h : ¬ P n) : bset P (n + 1) = bset P n := by
  rw [bset]
  exact if_neg h
theorem bset_lt (n : Nat) : bset P n < 2 ^ n := by
  induction n with
  | zero => simp [bset]
  | succ n ih =>
    have e : 2 ^ (n + 1) = 2 ^ n * 2 := Nat.pow_succ 2 n
    by_cases h : P n
    · rw [bset_y h]; omega
    · rw [bset_n h]; omega
theorem bset_bit (n k : Nat) (hk : k < n) : bset P n / 2 ^ k % 2 = 1 ↔ P k := by
  induction n with
  | zero => omega
  | succ n ih =>
    have lt := bset_lt (P := P) n
    by_cases e : k = n
    · subst e
      have p : 0 < 2 ^ k := Nat.two_pow_pos k
      by_cases h : P k
      · rw [bset_y h, Nat.add_div_right _ p, Nat.div_eq_of_lt lt]
        simp [h]
      · rw [bset_n h, Nat.div_eq_of_lt lt]
        simp [h]
    · by_cases h : P n
      · obtain ⟨d, hd⟩ : ∃ d : Nat, n = k + 1 + d := ⟨n - (k + 1), by omega⟩
        have e2 : 2 ^ n = 2 ^ k * (2 * 2 ^ d) := by
          rw [hd, Nat.pow_add, Nat.pow_succ]
          rw [Nat.mul_assoc]
        rw [bset_y h, e2, Nat.add_mul_div_left _ _ (Nat.two_pow_pos k), Nat.add_mul_mod_self_left]
        exact ih (by omega)
      · rw [bset_n h]
        exact ih (by omega)
end BSET

/-! gaps between what a text says; texts of digit pairs -/
def gpf (tn : Int) (tf : Int → Int) : Nat → Int → Int → Int
  | 0, _, _ => tn
  | k + 1, r, i => if i < tn then (if tf i = 10 then gpf tn tf k 0 (i + 1) else if tf i = 35 then gpf tn tf k 1 (i + 1) else if r = 0 ∧ tf i ≠ 32 then i else gpf tn tf k r (i + 1)) else tn
def gapE (tn : Int) (tf : Int → Int) (r i : Int) : Int := gpf tn tf (tn - i).toNat r i
section GAP
variable {tn : Int} {tf : Int → Int}
theorem gap_end {r i : Int} (h : tn ≤ i) : gapE tn tf r i = tn := by
  unfold gapE
  rw [show (tn - i).toNat = 0 by omega, gpf]
theorem gap_s {r i : Int} (h : i < tn) : gapE tn tf r i = if tf i = 10 then gapE tn tf 0 (i + 1) else if tf i = 35 then gapE tn tf 1 (i + 1) else if r = 0 ∧ tf i ≠ 32 then i else gapE tn tf r (i + 1) := by
  unfold gapE
  rw [show (tn - i).toNat = (tn - (i + 1)).toNat + 1 by omega, gpf, if_pos h]
theorem gap_10 {r i : Int} (h : i < tn) (c : tf i = 10) : gapE tn tf r i = gapE tn tf 0 (i + 1) := by rw [gap_s h, if_pos c]
theorem gap_35 {r i : Int} (h : i < tn) (c : tf i = 35) : gapE tn tf r i = gapE tn tf 1 (i + 1) := by rw [gap_s h, if_neg (by omega), if_pos c]
theorem gap_st {i : Int} (h : i < tn) (c : tf i ≠ 10) (c2 : tf i ≠ 35) (c3 : tf i ≠ 32) : gapE tn tf 0 i = i := by rw [gap_s h, if_neg c, if_neg c2, if_pos ⟨rfl, c3⟩]
theorem gap_on {r i : Int} (h : i < tn) (c : tf i ≠ 10) (c2 : tf i ≠ 35) (c3 : ¬ (r = 0 ∧ tf i ≠ 32)) : gapE tn tf r i = gapE tn tf r (i + 1) := by rw [gap_s h, if_neg c, if_neg c2, if_neg c3]
theorem gap_r1 {i : Int} (h : i < tn) (c : tf i ≠ 10) : gapE tn tf 1 i = gapE tn tf 1 (i + 1) := by
  by_cases c2 : tf i = 35
  · exact gap_35 h c2
  · exact gap_on h c c2 (fun z => absurd z.1 (by decide))
theorem gap_01 {i : Int} (h : tn ≤ i ∨ tf i = 10) : gapE tn tf 1 i = gapE tn tf 0 i := by
  by_cases q : i < tn
  · have c : tf i = 10 := by omega
    rw [gap_10 q c, gap_10 q c]
  · rw [gap_end (by omega), gap_end (by omega)]
theorem gap_le (n : Nat) : ∀ (r i : Int), (tn - i).toNat = n → i ≤ tn → i ≤ gapE tn tf r i ∧ gapE tn tf r i ≤ tn := by
  induction n with
  | zero =>
    intro r i h1 h2
    rw [gap_end (by omega)]
    omega
  | succ n ih =>
    intro r i h1 h2
    have a0 := ih 0 (i + 1) (by omega) (by omega)
    have a1 := ih 1 (i + 1) (by omega) (by omega)
    have a2 := ih r (i + 1) (by omega) (by omega)
    rw [gap_s (by omega)]
    split
    · omega
    · split
      · omega
      · split
        · omega
        · omega
theorem gap_rg {r i : Int} (h : i ≤ tn) : i ≤ gapE tn tf r i ∧ gapE tn tf r i ≤ tn := gap_le _ r i rfl h
/-- gaps of texts that are the same -/
theorem gap_cg {tf' : Int → Int} (h : ∀ j : Int, 0 ≤ j → j < tn → tf j = tf' j) (n : Nat) : ∀ (r i : Int), (tn - i).toNat = n → 0 ≤ i → gapE tn tf r i = gapE tn tf' r i := by
  induction n with
  | zero =>
    intro r i h1 h2
    rw [gap_end (by omega), gap_end (by omega)]
  | succ n ih =>
    intro r i h1 h2
    rw [gap_s (tf := tf) (r := r) (i := i) (by omega), gap_s (tf := tf') (r := r) (i := i) (by omega), h i h2 (by omega), ih 0 (i + 1) (by omega) (by omega), ih 1 (i + 1) (by omega) (by omega), ih r (i + 1) (by omega) (by omega)]
end GAP
def dgt (c : Int) : Int := if 48 ≤ c ∧ c ≤ 57 then c - 48 else if 97 ≤ c ∧ c ≤ 102 then c - 87 else -9
def agr (u : Int) (f g : Nat → Int) : Prop := ∀ j : Nat, (j : Int) < u → f j = g j
theorem agr_up {u v : Int} {f g : Nat → Int} (h0 : 0 ≤ u) (h : agr u f g) : agr (u + 1) (va_up f u.toNat v) (va_up g u.toNat v) := by
  intro j hj
  unfold va_up
  split
  · rfl
  · exact h j (by omega)
theorem agr_0 {f g : Nat → Int} : agr 0 f g := fun j hj => by omega
abbrev PR : Type := Int × Int × (Nat → Int) × (Nat → Int)
def prs (tn : Int) (tf : Int → Int) : Nat → Int → Int → (Nat → Int) → (Nat → Int) → PR
  | 0, _, z, b, l => (-9, z, b, l)
  | k + 1, at', z, b, l => if at' < tn then (if dgt (tf at') = -9 then (at', z, b, l) else if tn ≤ at' + 1 ∨ dgt (tf (at' + 1)) = -9 then (at' + 1, z, b, l) else prs tn tf k (gapE tn tf 0 (at' + 2)) (z + 1) (va_up b z.toNat (16 * dgt (tf at') + dgt (tf (at' + 1)))) (va_up l z.toNat at')) else (if z = 0 then tn else -9, z, b, l)
def prsE (tn : Int) (tf : Int → Int) : PR := prs tn tf 201 (gapE tn tf 0 0) 0 (fun _ => 0) (fun _ => 0)
section PRS
variable {tn : Int} {tf : Int → Int} {k : Nat} {p z : Int} {b l : Nat → Int}
theorem prs_end (h : tn ≤ p) : prs tn tf (k + 1) p z b l = (if z = 0 then tn else -9, z, b, l) := by rw [prs, if_neg (by omega)]
theorem prs_a (h : p < tn) (h1 : dgt (tf p) = -9) : prs tn tf (k + 1) p z b l = (p, z, b, l) := by rw [prs, if_pos h, if_pos h1]
theorem prs_b (h : p < tn) (h1 : dgt (tf p) ≠ -9) (h2 : tn ≤ p + 1 ∨ dgt (tf (p + 1)) = -9) : prs tn tf (k + 1) p z b l = (p + 1, z, b, l) := by rw [prs, if_pos h, if_neg h1, if_pos h2]
theorem prs_c (h : p + 1 < tn) (h1 : dgt (tf p) ≠ -9) (h2 : dgt (tf (p + 1)) ≠ -9) : prs tn tf (k + 1) p z b l = prs tn tf k (gapE tn tf 0 (p + 2)) (z + 1) (va_up b z.toNat (16 * dgt (tf p) + dgt (tf (p + 1)))) (va_up l z.toNat p) := by rw [prs, if_pos (by omega), if_neg h1, if_neg (by omega)]
theorem dgt_rg (c : Int) : dgt c = -9 ∨ (0 ≤ dgt c ∧ dgt c ≤ 15) := by
  unfold dgt
  split
  · right; omega
  · split
    · right; omega
    · left; rfl
end PRS
theorem prs_cg {tn : Int} {tf tf' : Int → Int} (h : ∀ j : Int, 0 ≤ j → j < tn → tf j = tf' j) : ∀ (k : Nat) (p z : Int) (b l : Nat → Int), 0 ≤ p → prs tn tf k p z b l = prs tn tf' k p z b l := by
  intro k
  induction k with
  | zero => intro p z b l hp; rfl
  | succ k ih =>
    intro p z b l hp
    by_cases h1 : p < tn
    · have e1 := h p hp h1
      by_cases h2 : dgt (tf p) = -9
      · rw [prs_a h1 h2, prs_a h1 (by rw [← e1]; exact h2)]
      · by_cases h3 : tn ≤ p + 1
        · rw [prs_b h1 h2 (Or.inl h3), prs_b h1 (by rw [← e1]; exact h2) (Or.inl h3)]
        · have e2 := h (p + 1) (by omega) (by omega)
          by_cases h4 : dgt (tf (p + 1)) = -9
          · rw [prs_b h1 h2 (Or.inr h4), prs_b h1 (by rw [← e1]; exact h2) (Or.inr (by rw [← e2]; exact h4))]
          · rw [prs_c (by omega) h2 h4, prs_c (by omega) (by rw [← e1]; exact h2) (by rw [← e2]; exact h4), e1, e2, gap_cg h _ 0 (p + 2) rfl (by omega)]
            exact ih _ _ _ _ (by have := gap_rg (tn := tn) (tf := tf') (r := 0) (i := p + 2) (by omega); omega)
    · rw [prs_end (by omega), prs_end (by omega)]
theorem prsE_cg {tn : Int} {tf tf' : Int → Int} (h0 : 0 ≤ tn) (h : ∀ j : Int, 0 ≤ j → j < tn → tf j = tf' j) : prsE tn tf = prsE tn tf' := by
  unfold prsE
  rw [gap_cg h _ 0 0 rfl (by omega)]
  exact prs_cg h _ _ _ _ _ (by have := gap_rg (tn := tn) (tf := tf') (r := 0) (i := 0) h0; omega)
def prR (RES : PR) (r n : Int) (f g : Nat → Int) : Prop := RES.1 = r ∧ RES.2.1 = n ∧ agr n f RES.2.2.1 ∧ agr n g RES.2.2.2
def prI (RES : PR) (tn : Int) (tf : Int → Int) (k : Nat) (p z : Int) (f g : Nat → Int) : Prop := ∃ b l : Nat → Int, prs tn tf k p z b l = RES ∧ agr z f b ∧ agr z g l
section PRI
variable {RES : PR} {tn : Int} {tf : Int → Int} {k : Nat} {p z : Int} {f g : Nat → Int}
theorem prI_end (H : prI RES tn tf (k + 1) p z f g) (h : tn ≤ p) : prR RES (if z = 0 then tn else -9) z f g := by
  obtain ⟨b, l, h1, h2, h3⟩ := H
  rw [prs_end h] at h1
  subst h1
  exact ⟨rfl, rfl, h2, h3⟩
theorem prI_a (H : prI RES tn tf (k + 1) p z f g) (h : p < tn) (h1 : dgt (tf p) = -9) : prR RES p z f g := by
  obtain ⟨b, l, e1, h2, h3⟩ := H
  rw [prs_a h h1] at e1
  subst e1
  exact ⟨rfl, rfl, h2, h3⟩
theorem prI_b (H : prI RES tn tf (k + 1) p z f g) (h : p < tn) (h1 : dgt (tf p) ≠ -9) (h2 : tn ≤ p + 1 ∨ dgt (tf (p + 1)) = -9) : prR RES (p + 1) z f g := by
  obtain ⟨b, l, e1, e2, e3⟩ := H
  rw [prs_b h h1 h2] at e1
  subst e1
  exact ⟨rfl, rfl, e2, e3⟩
theorem prI_c (H : prI RES tn tf (k + 1) p z f g) (hz : 0 ≤ z) (h : p + 1 < tn) (h1 : dgt (tf p) ≠ -9) (h2 : dgt (tf (p + 1)) ≠ -9) : prI RES tn tf k (gapE tn tf 0 (p + 2)) (z + 1) (va_up f z.toNat (16 * dgt (tf p) + dgt (tf (p + 1)))) (va_up g z.toNat p) := by
  obtain ⟨b, l, e1, e2, e3⟩ := H
  rw [prs_c h h1 h2] at e1
  exact ⟨_, _, e1, agr_up hz e2, agr_up hz e3⟩
theorem prI_k {k' : Nat} (e : k = k') (H : prI RES tn tf k p z f g) : prI RES tn tf k' p z f g := by
  subst e
  exact H
theorem prI_0 : prI (prsE tn tf) tn tf 201 (gapE tn tf 0 0) 0 f g := ⟨_, _, rfl, agr_0, agr_0⟩
end PRI
/-- slot 12 -/
def sl12 (bf : Nat → Int) : Nat → Int := fun j => bf (3072 + j)
theorem sl12_up {bf : Nat → Int} {z v : Int} (h : 0 ≤ z) : sl12 (va_up bf (3072 + z).toNat v) = va_up (sl12 bf) z.toNat v := by
  funext j
  unfold sl12 va_up
  by_cases q : j = z.toNat
  · rw [if_pos (by omega), if_pos q]
  · rw [if_neg (by omega), if_neg q]
def psI (mo RES tn : Int) (tf : Int → Int) (pa : Int) : Prop := (mo = 1 ∧ gapE tn tf 0 pa = RES) ∨ (mo = 0 ∧ pa = RES)
section PSI
variable {mo RES tn pa : Int} {tf : Int → Int}
theorem psI_1 (h : psI mo RES tn tf pa) (hm : mo = 1) : gapE tn tf 0 pa = RES := by
  rcases h with h | h
  · exact h.2
  · omega
theorem psI_0 (h : psI mo RES tn tf pa) (hm : mo = 0) : pa = RES := by
  rcases h with h | h
  · omega
  · exact h.2
end PSI
def prJ (RES : PR) (tn : Int) (tf : Int → Int) (p z : Int) (f g : Nat → Int) : Prop := ∃ k : Nat, 201 ≤ (k : Int) + p ∧ prI RES tn tf k p z f g
section PRJ
variable {RES : PR} {tn : Int} {tf : Int → Int} {p z : Int} {f g : Nat → Int}
theorem prJ_end (H : prJ RES tn tf p z f g) (hp : p ≤ 200) (h : tn ≤ p) : prR RES (if z = 0 then tn else -9) z f g := by
  obtain ⟨k, h1, h2⟩ := H
  exact prI_end (prI_k (show k = k - 1 + 1 by omega) h2) h
theorem prJ_a (H : prJ RES tn tf p z f g) (hp : p ≤ 200) (h : p < tn) (h1 : dgt (tf p) = -9) : prR RES p z f g := by
  obtain ⟨k, h2, h3⟩ := H
  exact prI_a (prI_k (show k = k - 1 + 1 by omega) h3) h h1
theorem prJ_b (H : prJ RES tn tf p z f g) (hp : p ≤ 200) (h : p < tn) (h1 : dgt (tf p) ≠ -9) (h2 : tn ≤ p + 1 ∨ dgt (tf (p + 1)) = -9) : prR RES (p + 1) z f g := by
  obtain ⟨k, h3, h4⟩ := H
  exact prI_b (prI_k (show k = k - 1 + 1 by omega) h4) h h1 h2
theorem prJ_c (H : prJ RES tn tf p z f g) (hp : p ≤ 200) (hz : 0 ≤ z) (h : p + 1 < tn) (h1 : dgt (tf p) ≠ -9) (h2 : dgt (tf (p + 1)) ≠ -9) : prJ RES tn tf (gapE tn tf 0 (p + 2)) (z + 1) (va_up f z.toNat (16 * dgt (tf p) + dgt (tf (p + 1)))) (va_up g z.toNat p) := by
  obtain ⟨k, h3, h4⟩ := H
  have q := gap_rg (tn := tn) (tf := tf) (r := 0) (i := p + 2) (by omega)
  exact ⟨k - 1, by omega, prI_c (prI_k (show k = k - 1 + 1 by omega) h4) hz h h1 h2⟩
theorem prJ_0 (h : 0 ≤ tn) : prJ (prsE tn tf) tn tf (gapE tn tf 0 0) 0 f g := ⟨201, by have := gap_rg (tn := tn) (tf := tf) (r := 0) (i := 0) h; omega, prI_0⟩
end PRJ

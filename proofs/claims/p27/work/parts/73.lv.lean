/-! the fewest builds, level by level -/
def cn (u k : Int32) : Prop := (u &&& (k ^^^ iZ (-1))).toInt = 0
def hasO (en : Nat) (g : Nat → Int) (n : Int) (U : Nat → Int32) (k : Int32) : Prop := ∃ o : Nat, o < en ∧ g o = n ∧ cn (U o) k
noncomputable def lv (en : Nat) (U K : Nat → Int32) (t : Nat) : Nat → Nat → Int
  | 0, e => if e = t then 0 else -9
  | n + 1, e => @ite Int (lv en U K t n e = -9 ∧ hasO en (lv en U K t n) n U (K e)) (Classical.propDecidable _) (n + 1) (lv en U K t n e)
def Kf (g : Nat → Int) (a wd : Int) : Nat → Int32 := fun e => iZ (g e) ||| iZ (if (e : Int) = a then wd else 0)
section LV
variable {en : Nat} {U K : Nat → Int32} {t : Nat}
theorem lv_pos {n e : Nat} (h : lv en U K t n e = -9) (ho : hasO en (lv en U K t n) n U (K e)) : lv en U K t (n + 1) e = n + 1 := by
  rw [lv]
  exact if_pos ⟨h, ho⟩
theorem lv_neg {n e : Nat} (h : ¬ (lv en U K t n e = -9 ∧ hasO en (lv en U K t n) n U (K e))) : lv en U K t (n + 1) e = lv en U K t n e := by
  rw [lv]
  exact if_neg h
theorem lv_q (n e : Nat) : lv en U K t (n + 1) e = lv en U K t n e ∨ (lv en U K t n e = -9 ∧ lv en U K t (n + 1) e = n + 1 ∧ hasO en (lv en U K t n) n U (K e)) := by
  by_cases h : lv en U K t n e = -9 ∧ hasO en (lv en U K t n) n U (K e)
  · exact Or.inr ⟨h.1, lv_pos h.1 h.2, h.2⟩
  · exact Or.inl (lv_neg h)
theorem lv_rg (n e : Nat) : lv en U K t n e = -9 ∨ (0 ≤ lv en U K t n e ∧ lv en U K t n e ≤ n) := by
  induction n with
  | zero =>
    unfold lv
    split
    · right; omega
    · left; rfl
  | succ n ih =>
    rcases lv_q (en := en) (U := U) (K := K) (t := t) n e with h | h
    · rw [h]; omega
    · rw [h.2.1]; right; omega
theorem lv_st {n e : Nat} (h : lv en U K t n e ≠ -9) : lv en U K t (n + 1) e = lv en U K t n e := lv_neg (fun z => h z.1)
/-- one that has builds left builds one that has one less -/
theorem lv_dn (n e : Nat) (h : 0 < lv en U K t n e) : hasO en (lv en U K t n) (lv en U K t n e - 1) U (K e) := by
  induction n with
  | zero =>
    unfold lv at h
    split at h <;> omega
  | succ n ih =>
    rcases lv_q (en := en) (U := U) (K := K) (t := t) n e with q | q
    · rw [q] at h ⊢
      obtain ⟨o, h1, h2, h3⟩ := ih h
      exact ⟨o, h1, by rw [lv_st (by omega)]; exact h2, h3⟩
    · obtain ⟨o, h1, h2, h3⟩ := q.2.2
      refine ⟨o, h1, ?_, h3⟩
      rw [lv_st (by omega), h2, q.2.1]
      omega
theorem lv_eqm (m j : Nat) : lv en U K t (m + 1) j = m ↔ lv en U K t m j = m := by
  rcases lv_q (en := en) (U := U) (K := K) (t := t) m j with h | h
  · rw [h]
  · rw [h.1, h.2.1]
    constructor <;> intro <;> omega
end LV
theorem exS {P : Nat → Prop} {o : Int} (h : 0 ≤ o) : (∃ j : Nat, (j : Int) < o + 1 ∧ P j) ↔ (∃ j : Nat, (j : Int) < o ∧ P j) ∨ P o.toNat := by
  constructor
  · rintro ⟨j, h1, h2⟩
    by_cases e : (j : Int) = o
    · right
      rw [show o.toNat = j by omega]
      exact h2
    · exact Or.inl ⟨j, by omega, h2⟩
  · rintro (⟨j, h1, h2⟩ | h2)
    · exact ⟨j, by omega, h2⟩
    · exact ⟨o.toNat, by omega, h2⟩
theorem mid_c {en n e c v : Int} {g : Nat → Int} {U K : Nat → Int32} {t : Nat} (h1 : 1 ≤ n) (he : 0 ≤ e) (he2 : e < en) (hA : ∀ j : Nat, (j : Int) < e → g j = lv en.toNat U K t n.toNat j) (hB : ∀ j : Nat, e ≤ j → (j : Int) < en → g j = lv en.toNat U K t (n.toNat - 1) j) (hE : c = 1 ↔ ∃ j : Nat, (j : Int) < en ∧ g j = n - 1 ∧ cn (U j) (K e.toNat)) (hv : (g e.toNat = -9 ∧ c = 1 ∧ v = n) ∨ (¬ (g e.toNat = -9 ∧ c = 1) ∧ v = g e.toNat)) : v = lv en.toNat U K t n.toNat e.toNat := by
  obtain ⟨m, hm⟩ : ∃ m : Nat, n = (m : Int) + 1 := ⟨n.toNat - 1, by omega⟩
  subst hm
  have e1 : ((m : Int) + 1).toNat = m + 1 := by omega
  rw [e1] at hA hB ⊢
  have e2 : m + 1 - 1 = m := by omega
  rw [e2] at hB
  have e3 : (m : Int) + 1 - 1 = m := by omega
  rw [e3] at hE
  have hge := hB e.toNat (by omega) (by omega)
  have hq : (∃ j : Nat, (j : Int) < en ∧ g j = m ∧ cn (U j) (K e.toNat)) ↔ hasO en.toNat (lv en.toNat U K t m) m U (K e.toNat) := by
    constructor
    · rintro ⟨j, a, b, d⟩
      refine ⟨j, by omega, ?_, d⟩
      by_cases hj : (j : Int) < e
      · rw [hA j hj] at b
        exact (lv_eqm m j).mp b
      · rw [hB j (by omega) a] at b
        exact b
    · rintro ⟨j, a, b, d⟩
      refine ⟨j, by omega, ?_, d⟩
      by_cases hj : (j : Int) < e
      · rw [hA j hj]
        exact (lv_eqm m j).mpr b
      · rw [hB j (by omega) (by omega)]
        exact b
  rw [hq] at hE
  rcases hv with ⟨a, b, d⟩ | ⟨a, d⟩
  · rw [d, lv_pos (by rw [← hge]; exact a) (hE.mp b)]
  · rw [d, hge]
    refine (lv_neg (fun z => a ⟨by rw [hge]; exact z.1, hE.mpr z.2⟩)).symm
theorem upA {e v : Int} {g f : Nat → Int} (he : 0 ≤ e) (hA : ∀ j : Nat, (j : Int) < e → g j = f j) (hv : v = f e.toNat) : ∀ j : Nat, (j : Int) < e + 1 → va_up g e.toNat v j = f j := by
  intro j hj
  by_cases q : (j : Int) = e
  · rw [show j = e.toNat by omega, up_eq, hv]
  · rw [up_ne (by omega)]
    exact hA j (by omega)
theorem upB {e v en : Int} {g f : Nat → Int} (he : 0 ≤ e) (hB : ∀ j : Nat, e ≤ j → (j : Int) < en → g j = f j) : ∀ j : Nat, e + 1 ≤ j → (j : Int) < en → va_up g e.toNat v j = f j := by
  intro j h1 h2
  rw [up_ne (by omega)]
  exact hB j (by omega) h2

/-! both sides between calls -/
theorem R9.mo {h h1 : MH} {tr : Int64} {ty tx : Nat → Int32} {w : Nat → Int} {B : Nat → Nat → Int} (M : Mo h h1) (H : R9 h tr ty tx w B) : R9 h1 tr ty tx w B := by
  obtain ⟨F50, ⟨F51, F52, F53, F54, F55, F56, F57, F58, F59, F60, F61, F62, F63, F64, F65, F66, F67, F68, F69, F70⟩, hw, hB, hT⟩ := H
  have g : ∀ (q : Nat) (x : va_E), 50 ≤ q → q ≤ 70 → h[q]? = some x → h1[q]? = some x := fun q x a b c => (M q a b).trans c
  exact ⟨g _ _ (by decide) (by decide) F50, ⟨g _ _ (by decide) (by decide) F51, g _ _ (by decide) (by decide) F52, g _ _ (by decide) (by decide) F53, g _ _ (by decide) (by decide) F54, g _ _ (by decide) (by decide) F55, g _ _ (by decide) (by decide) F56, g _ _ (by decide) (by decide) F57, g _ _ (by decide) (by decide) F58, g _ _ (by decide) (by decide) F59, g _ _ (by decide) (by decide) F60, g _ _ (by decide) (by decide) F61, g _ _ (by decide) (by decide) F62, g _ _ (by decide) (by decide) F63, g _ _ (by decide) (by decide) F64, g _ _ (by decide) (by decide) F65, g _ _ (by decide) (by decide) F66, g _ _ (by decide) (by decide) F67, g _ _ (by decide) (by decide) F68, g _ _ (by decide) (by decide) F69, g _ _ (by decide) (by decide) F70⟩, hw, hB, hT⟩
theorem SM_in {q : Nat} (h : q ∈ [50, 51, 52, 53, 54, 55, 56, 57, 58, 59, 60, 61, 62, 63, 64, 65, 66, 67, 68, 69, 70]) : 50 ≤ q ∧ q ≤ 70 := by
  simp only [List.mem_cons, List.not_mem_nil, or_false] at h
  omega
theorem SM_in8 {q : Nat} (h : q ∈ [50, 54, 55, 56, 61, 62, 63, 64]) : 50 ≤ q ∧ q ≤ 70 := by
  simp only [List.mem_cons, List.not_mem_nil, or_false] at h
  omega
theorem IX.r9 {h h1 : MH} {A : List Nat} {tn : Int} {tf : Nat → Int} {xn : Nat → Int} {xf : Nat → Nat → Int} {en : Int} {tc : Nat} (H : IX h tn tf xn xf en tc) (s : Sm A h h1) (hA : ∀ q, q ∈ A → 50 ≤ q ∧ q ≤ 70) : IX h1 tn tf xn xf en tc := by
  obtain ⟨a, b, c, d, e, g⟩ := H
  have ni : ∀ q, (q < 50 ∨ 70 < q) → q ∉ A := fun q hq z => by have := hA q z; omega
  refine ⟨?_, b.sm s (fun q hq => by have := hA q hq; omega), c.sm s (fun q hq => by have := hA q hq; omega), d.sm s (fun q hq => by have := hA q hq; omega), s.1.trans e, by rw [s.2.1]; exact g⟩
  obtain ⟨⟨tr, f0⟩, f3, f4, h5, hT, hL⟩ := a
  exact ⟨⟨tr, s.get (ni _ (by omega)) f0⟩, s.get (ni _ (by omega)) f3, s.get (ni _ (by omega)) f4, h5, fun j hj => (hT j hj).sm s (fun q z => by have := hA q z; omega), fun j hj => (hL j hj).sm s (fun q z => by have := hA q z; omega)⟩
theorem IX.bd {h : MH} {tn : Int} {tf : Nat → Int} {xn : Nat → Int} {xf : Nat → Nat → Int} {en : Int} {tc : Nat} (H : IX h tn tf xn xf en tc) : h.length ≤ 600000 ∧ msz h ≤ 7302250 := by
  obtain ⟨a, b, c, d, e, g⟩ := H
  have := a.2.2.2.1
  omega
/-- what both sides hold is the same: texts, what is typed, the number of editions -/
def Rel (tn : Int) (tf : Nat → Int) (xn : Nat → Int) (xf : Nat → Nat → Int) (en : Int) (ty tx : Nat → Int32) (w : Nat → Int) (B : Nat → Nat → Int) : Prop := w 2 = tn ∧ w 35 = en ∧ (∀ i : Nat, i < 8 → B 53 i = xn i) ∧ (∀ j : Nat, (j : Int) < tn → (ty j).toInt % 256 = tf j) ∧ ∀ i : Nat, i < 8 → ∀ j : Nat, (j : Int) < xn i → (tx (200 * i + j)).toInt % 256 = xf i j
def LI (h : MH) : Prop := ∃ (tn : Int) (tf : Nat → Int) (xn : Nat → Int) (xf : Nat → Nat → Int) (en : Int) (tc : Nat) (tr : Int64) (ty tx : Nat → Int32) (w : Nat → Int) (B : Nat → Nat → Int), IX h tn tf xn xf en tc ∧ R9 h tr ty tx w B ∧ Rel tn tf xn xf en ty tx w B
section REL
variable {tn tn1 : Int} {tf tf1 : Nat → Int} {xn xn1 : Nat → Int} {xf xf1 : Nat → Nat → Int} {en en1 : Int} {ty ty1 tx tx1 : Nat → Int32} {w w1 : Nat → Int} {B B1 : Nat → Nat → Int}
theorem Rel.aA (a : AgA w B w1 B1) (h : Rel tn tf xn xf en ty tx w B) : Rel tn tf xn xf en ty tx w1 B1 := by
  obtain ⟨h1, h2, h3, h4, h5⟩ := h
  exact ⟨a.1.trans h1, a.2.1.trans h2, fun i hi => by rw [a.2.2.1]; exact h3 i hi, h4, h5⟩
theorem rel_type {n r r1 : Int} {v : Int64} (h : Rel tn tf xn xf en ty tx w B)
    (c1 : 1 ≤ n ∧ n ≤ 8 ∧ tn + n ≤ 200 → r = tn + n ∧ tn1 = tn + n ∧ tf1 = tyb v n tn tf) (c2 : 1 ≤ n ∧ n ≤ 8 ∧ 200 < tn + n → r = -3 ∧ tn1 = tn ∧ tf1 = tf) (c3 : ¬ (1 ≤ n ∧ n ≤ 8) → r = -1 ∧ tn1 = tn ∧ tf1 = tf)
    (d1 : 1 ≤ n ∧ n ≤ 8 ∧ w 2 + n ≤ 200 → r1 = w 2 + n ∧ w1 = va_up w 2 (w 2 + n) ∧ (∀ j : Nat, (j : Int) < w 2 → ty1 j = ty j) ∧ ∀ j : Nat, w 2 ≤ j → (j : Int) < w 2 + n → (ty1 j).toInt % 256 = bt v (w 2 + n - 1 - j)) (d2 : 1 ≤ n ∧ n ≤ 8 ∧ 200 < w 2 + n → r1 = -3 ∧ w1 = w ∧ ty1 = ty) (d3 : ¬ (1 ≤ n ∧ n ≤ 8) → r1 = -1 ∧ w1 = w ∧ ty1 = ty) :
    r = r1 ∧ Rel tn1 tf1 xn xf en ty1 tx w1 B := by
  obtain ⟨h1, h2, h3, h4, h5⟩ := h
  subst h1
  by_cases q : 1 ≤ n ∧ n ≤ 8
  · by_cases q2 : w 2 + n ≤ 200
    · obtain ⟨a1, a2, a3⟩ := c1 ⟨q.1, q.2, q2⟩
      obtain ⟨b1, b2, b3, b4⟩ := d1 ⟨q.1, q.2, q2⟩
      subst a1
      subst a2
      subst a3
      subst b1
      subst b2
      refine ⟨rfl, rfl, h2, h3, fun j hj => ?_, h5⟩
      unfold tyb
      by_cases z : w 2 ≤ (j : Int)
      · rw [if_pos ⟨z, hj⟩]
        exact b4 j z hj
      · rw [if_neg (fun y => z y.1), b3 j (by omega)]
        exact h4 j (by omega)
    · obtain ⟨a1, a2, a3⟩ := c2 ⟨q.1, q.2, by omega⟩
      obtain ⟨b1, b2, b3⟩ := d2 ⟨q.1, q.2, by omega⟩
      subst a1
      subst a2
      subst a3
      subst b1
      subst b2
      subst b3
      exact ⟨rfl, rfl, h2, h3, h4, h5⟩
  · obtain ⟨a1, a2, a3⟩ := c3 q
    obtain ⟨b1, b2, b3⟩ := d3 q
    subst a1
    subst a2
    subst a3
    subst b1
    subst b2
    subst b3
    exact ⟨rfl, rfl, h2, h3, h4, h5⟩
theorem rel_clear (h : Rel tn tf xn xf en ty tx w B) : Rel 0 tf xn xf en ty tx (va_up w 2 0) B := by
  obtain ⟨h1, h2, h3, h4, h5⟩ := h
  exact ⟨rfl, h2, h3, fun j hj => by omega, h5⟩
theorem rel_text {i r r1 : Int} (h : Rel tn tf xn xf en ty tx w B)
    (c1 : 0 ≤ i ∧ i < 8 → r = tn ∧ tn1 = 0 ∧ xn1 = va_up xn i.toNat tn ∧ ∃ f1 : Nat → Int, (∀ j : Nat, (j : Int) < tn → f1 j = tf j) ∧ xf1 = va_up xf i.toNat f1) (c2 : ¬ (0 ≤ i ∧ i < 8) → r = -1 ∧ tn1 = tn ∧ xn1 = xn ∧ xf1 = xf)
    (d1 : 0 ≤ i ∧ i ≤ 7 → r1 = w 2 ∧ w1 = va_up w 2 0 ∧ B1 = va_up B 53 (va_up (B 53) i.toNat (w 2)) ∧ (∀ q : Nat, ((q : Int) < 200 * i ∨ 200 * i + w 2 ≤ q) → tx1 q = tx q) ∧ ∀ j : Int, 0 ≤ j → j < w 2 → (tx1 (200 * i + j).toNat).toInt % 256 = (ty j.toNat).toInt % 256) (d2 : ¬ (0 ≤ i ∧ i ≤ 7) → r1 = -1 ∧ w1 = w ∧ B1 = B ∧ tx1 = tx) (hx : ∀ i : Nat, i < 8 → xn i ≤ 200) (hw : w 2 ≤ 200) :
    r = r1 ∧ Rel tn1 tf xn1 xf1 en ty tx1 w1 B1 := by
  obtain ⟨h1, h2, h3, h4, h5⟩ := h
  subst h1
  by_cases q : 0 ≤ i ∧ i < 8
  · obtain ⟨a1, a2, a3, f1, a4, a5⟩ := c1 q
    obtain ⟨b1, b2, b3, b4, b5⟩ := d1 ⟨q.1, by omega⟩
    subst a1
    subst a2
    subst a3
    subst a5
    subst b1
    subst b2
    subst b3
    refine ⟨rfl, rfl, h2, fun j hj => ?_, fun j hj => by omega, fun k hk j hj => ?_⟩
    · show va_up (B 53) i.toNat (w 2) j = va_up xn i.toNat (w 2) j
      unfold va_up
      split
      · rfl
      · exact h3 j hj
    · by_cases z : k = i.toNat
      · subst z
        rw [up_eq] at hj
        rw [up_eq, a4 j hj, ← h4 j hj]
        have := b5 (j : Int) (by omega) hj
        rw [show (200 * i + (j : Int)).toNat = 200 * i.toNat + j by omega, show ((j : Int)).toNat = j by omega] at this
        exact this
      · rw [up_ne z] at hj
        rw [up_ne z, b4 _ (by have := hx k hk; omega)]
        exact h5 k hk j hj
  · obtain ⟨a1, a2, a3, a4⟩ := c2 q
    obtain ⟨b1, b2, b3, b4⟩ := d2 (fun z => q ⟨z.1, by omega⟩)
    subst a1
    subst a2
    subst a3
    subst a4
    subst b1
    subst b2
    subst b3
    subst b4
    exact ⟨rfl, rfl, h2, h3, h4, h5⟩
theorem rel_read {i a r r1 : Int} (h : Rel tn tf xn xf en ty tx w B) (c1 : 0 ≤ i ∧ i < 8 ∧ 0 ≤ a ∧ a < xn i.toNat → r = xf i.toNat a.toNat) (c2 : ¬ (0 ≤ i ∧ i < 8 ∧ 0 ≤ a ∧ a < xn i.toNat) → r = -1)
    (d1 : 0 ≤ i ∧ i ≤ 7 ∧ 0 ≤ a ∧ a < B 53 i.toNat → r1 = (tx (200 * i + a).toNat).toInt % 256) (d2 : ¬ (0 ≤ i ∧ i ≤ 7 ∧ 0 ≤ a ∧ a < B 53 i.toNat) → r1 = -1) : r = r1 := by
  obtain ⟨h1, h2, h3, h4, h5⟩ := h
  by_cases q : 0 ≤ i ∧ i < 8
  · rw [h3 i.toNat (by omega)] at d1 d2
    by_cases z : 0 ≤ a ∧ a < xn i.toNat
    · rw [c1 ⟨q.1, q.2, z⟩, d1 ⟨q.1, by omega, z⟩, ← h5 i.toNat (by omega) a.toNat (by omega)]
      rw [show (200 * i + a).toNat = 200 * i.toNat + a.toNat by omega]
    · rw [c2 (fun y => z y.2.2), d2 (fun y => z y.2.2)]
  · rw [c2 (fun y => q ⟨y.1, y.2.1⟩), d2 (fun y => q ⟨y.1, by omega⟩)]
theorem rel_edition {i j r r1 : Int} (h : Rel tn tf xn xf en ty tx w B) (hen : en ≤ 12)
    (c1 : 0 ≤ i ∧ i ≤ 65535 ∧ 0 ≤ j ∧ j ≤ 65535 ∧ en < 12 → r = en ∧ en1 = en + 1) (c2 : 0 ≤ i ∧ i ≤ 65535 ∧ 0 ≤ j ∧ j ≤ 65535 ∧ en = 12 → r = -3 ∧ en1 = en) (c3 : ¬ (0 ≤ i ∧ i ≤ 65535 ∧ 0 ≤ j ∧ j ≤ 65535) → r = -1 ∧ en1 = en)
    (d1 : 0 ≤ i ∧ i ≤ 65535 ∧ 0 ≤ j ∧ j ≤ 65535 ∧ w 35 < 12 → r1 = w 35 ∧ w1 = va_up w 35 (w 35 + 1) ∧ B1 = va_up (va_up B 68 (va_up (B 68) (w 35).toNat i)) 69 (va_up (B 69) (w 35).toNat j)) (d2 : 0 ≤ i ∧ i ≤ 65535 ∧ 0 ≤ j ∧ j ≤ 65535 ∧ w 35 = 12 → r1 = -3 ∧ w1 = w ∧ B1 = B) (d3 : ¬ (0 ≤ i ∧ i ≤ 65535 ∧ 0 ≤ j ∧ j ≤ 65535) → r1 = -1 ∧ w1 = w ∧ B1 = B) :
    r = r1 ∧ Rel tn tf xn xf en1 ty tx w1 B1 := by
  obtain ⟨h1, h2, h3, h4, h5⟩ := h
  subst h2
  by_cases q : 0 ≤ i ∧ i ≤ 65535 ∧ 0 ≤ j ∧ j ≤ 65535
  · by_cases z : w 35 < 12
    · obtain ⟨a1, a2⟩ := c1 ⟨q.1, q.2.1, q.2.2.1, q.2.2.2, z⟩
      obtain ⟨b1, b2, b3⟩ := d1 ⟨q.1, q.2.1, q.2.2.1, q.2.2.2, z⟩
      subst b2
      subst b3
      exact ⟨by omega, h1, by rw [a2]; rfl, h3, h4, h5⟩
    · obtain ⟨a1, a2⟩ := c2 ⟨q.1, q.2.1, q.2.2.1, q.2.2.2, by omega⟩
      obtain ⟨b1, b2, b3⟩ := d2 ⟨q.1, q.2.1, q.2.2.1, q.2.2.2, by omega⟩
      subst b2
      subst b3
      exact ⟨by omega, h1, a2.symm, h3, h4, h5⟩
  · obtain ⟨a1, a2⟩ := c3 q
    obtain ⟨b1, b2, b3⟩ := d3 q
    subst b2
    subst b3
    exact ⟨by omega, h1, a2.symm, h3, h4, h5⟩
end REL
theorem okr_c0 : okr (fun _ => 0) := okr_0
theorem oki_c0 {lo hi : Int} (h1 : lo ≤ 0) (h2 : 0 ≤ hi) : oki lo hi (fun _ => 0) := fun _ => ⟨h1, h2⟩
set_option maxRecDepth 100000 in
theorem ix_H2 : IX H2 0 (fun _ => 0) (fun _ => 0) (fun _ _ => 0) 0 0 := by
  have e4 : tls 0 = fun _ => none := by
    funext j
    simp [tls]
  have okb0 : okb (fun _ => 0) := fun j => (⟨by decide, by decide⟩ : (0 : Int) ≤ 0 ∧ (0 : Int) ≤ 255)
  have mc : ∀ m, m = 15 ∨ m = 20 ∨ m = 25 → MCw H2 m := by
    rintro m (rfl | rfl | rfl)
    · exact ⟨0, 0, 0, 0, 0, 0, 0, 0, fun _ => 0, fun _ => 0, fun _ => 0, rg_0, rg_0, rg_0, Or.inl rfl, rg_0, rg_0, rg_0, rg_0, okr_c0, okr_c0, okr_c0, rfl, rfl, rfl, rfl, rfl⟩
    · exact ⟨0, 0, 0, 0, 0, 0, 0, 0, fun _ => 0, fun _ => 0, fun _ => 0, rg_0, rg_0, rg_0, Or.inl rfl, rg_0, rg_0, rg_0, rg_0, okr_c0, okr_c0, okr_c0, rfl, rfl, rfl, rfl, rfl⟩
    · exact ⟨0, 0, 0, 0, 0, 0, 0, 0, fun _ => 0, fun _ => 0, fun _ => 0, rg_0, rg_0, rg_0, Or.inl rfl, rg_0, rg_0, rg_0, rg_0, okr_c0, okr_c0, okr_c0, rfl, rfl, rfl, rfl, rfl⟩
  refine ⟨⟨⟨0, rfl⟩, rfl, by rw [e4]; rfl, by decide, fun j hj => ?_, fun j hj => by omega⟩, ⟨⟨0, fun _ => 0, fun _ => 0, rg_0, okr_c0, okr_c0, rfl, rfl, rfl, rfl⟩, ⟨0, -9, 0, fun _ => 0, fun _ => 0, fun _ => 0, fun _ => 0, rg_0, ⟨by decide, by decide⟩, rg_0, okr_c0, okr_c0, okr_c0, okr_c0, rfl, rfl, rfl, rfl, rfl, rfl⟩, mc 15 (by omega), mc 20 (by omega), mc 25 (by omega)⟩, ⟨rfl, rfl, by decide, by decide, okb0⟩, ⟨fun _ => 0, fun _ => 0, fun _ => 0, okr_c0, okr_c0, okr_c0, by decide, by decide, rfl, rfl, rfl, rfl⟩, by decide +kernel, by decide +kernel⟩
  match j, hj with
  | 0, _ => exact ⟨rfl, rfl, by decide, by decide, okb0⟩
  | 1, _ => exact ⟨rfl, rfl, by decide, by decide, okb0⟩
  | 2, _ => exact ⟨rfl, rfl, by decide, by decide, okb0⟩
  | 3, _ => exact ⟨rfl, rfl, by decide, by decide, okb0⟩
  | 4, _ => exact ⟨rfl, rfl, by decide, by decide, okb0⟩
  | 5, _ => exact ⟨rfl, rfl, by decide, by decide, okb0⟩
  | 6, _ => exact ⟨rfl, rfl, by decide, by decide, okb0⟩
  | 7, _ => exact ⟨rfl, rfl, by decide, by decide, okb0⟩
  | k + 8, hk => omega
set_option maxRecDepth 100000 in
theorem r9_H2 : R9 H2 0 (fun _ => 0) (fun _ => 0) (fun _ => 0) (fun _ _ => 0) := by
  refine ⟨rfl, ⟨rfl, rfl, rfl, rfl, rfl, rfl, rfl, rfl, rfl, rfl, rfl, rfl, rfl, rfl, rfl, rfl, rfl, rfl, rfl, rfl⟩, ?_, ?_, ⟨⟨by decide, by decide⟩, fun t h0 h1 => by have h1' : t < 0 := h1; omega⟩⟩
  · exact ⟨⟨by decide, by decide⟩, ⟨by decide, by decide⟩, ⟨by decide, by decide⟩, ⟨by decide, by decide⟩, ⟨by decide, by decide⟩, ⟨by decide, by decide⟩, ⟨by decide, by decide⟩, ⟨by decide, by decide⟩, ⟨by decide, by decide⟩, ⟨by decide, by decide⟩, ⟨by decide, by decide⟩, ⟨by decide, by decide⟩, ⟨by decide, by decide⟩, ⟨by decide, by decide⟩, ⟨by decide, by decide⟩, ⟨by decide, by decide⟩, ⟨by decide, by decide⟩, ⟨by decide, by decide⟩⟩
  · exact ⟨oki_c0 (by decide) (by decide), okr_c0, oki_c0 (by decide) (by decide), oki_c0 (by decide) (by decide), okr_c0, oki_c0 (by decide) (by decide), oki_c0 (by decide) (by decide), okr_c0, fun _ => Or.inr (⟨by decide, by decide⟩ : (0 : Int) ≤ 0 ∧ (0 : Int) ≤ 255), oki_c0 (by decide) (by decide), oki_c0 (by decide) (by decide), oki_c0 (by decide) (by decide), okr_c0, okr_c0, okr_c0, oki_c0 (by decide) (by decide), oki_c0 (by decide) (by decide), okr_c0⟩
theorem li_H2 : LI H2 := ⟨0, fun _ => 0, fun _ => 0, fun _ _ => 0, 0, 0, 0, fun _ => 0, fun _ => 0, fun _ => 0, fun _ _ => 0, ix_H2, r9_H2, rfl, rfl, fun _ _ => rfl, fun j hj => by omega, fun i _ j hj => by have hj' : (j : Int) < 0 := hj; omega⟩
theorem LI.bd {h : MH} (H : LI h) : h.length ≤ 600000 ∧ msz h ≤ 7302250 := by
  obtain ⟨tn, tf, xn, xf, en, tc, tr, ty, tx, w, B, HX, -, -⟩ := H
  exact HX.bd

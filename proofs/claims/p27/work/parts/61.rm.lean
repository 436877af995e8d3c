def O9 (tr : Int64) (w : Nat → Int) : va_E := .inr (8, [.long (tr), .ref 51, .int (iZ (w 2)), .ref 52, .ref 53, .int (iZ (w 5)), .ref 54, .ref 55, .ref 56, .ref 57, .ref 58, .ref 59, .ref 60, .int (iZ (w 13)), .int (iZ (w 14)), .int (iZ (w 15)), .int (iZ (w 16)), .int (iZ (w 17)), .int (iZ (w 18)), .int (iZ (w 19)), .int (iZ (w 20)), .ref 61, .ref 62, .ref 63, .ref 64, .int (iZ (w 25)), .int (iZ (w 26)), .int (iZ (w 27)), .int (iZ (w 28)), .int (iZ (w 29)), .int (iZ (w 30)), .int (iZ (w 31)), .ref 65, .ref 66, .ref 67, .int (iZ (w 35)), .ref 68, .ref 69, .ref 70])
def Wr (w : Nat → Int) : Prop := (0 ≤ w 2 ∧ w 2 ≤ 200) ∧ (0 ≤ w 5 ∧ w 5 ≤ 12) ∧ (0 ≤ w 13 ∧ w 13 ≤ 1400) ∧ (0 ≤ w 14 ∧ w 14 ≤ 200) ∧ (0 ≤ w 15 ∧ w 15 ≤ 200) ∧ (-9 ≤ w 16 ∧ w 16 ≤ 200) ∧ (0 ≤ w 17 ∧ w 17 ≤ 200) ∧ (0 ≤ w 18 ∧ w 18 ≤ 5) ∧ (-100 ≤ w 19 ∧ w 19 ≤ 3000) ∧ (0 ≤ w 20 ∧ w 20 ≤ 200) ∧ (0 ≤ w 25 ∧ w 25 ≤ 256) ∧ (0 ≤ w 26 ∧ w 26 ≤ 255) ∧ (0 ≤ w 27 ∧ w 27 ≤ 255) ∧ (0 ≤ w 28 ∧ w 28 ≤ 255) ∧ (0 ≤ w 29 ∧ w 29 ≤ 5000) ∧ (0 ≤ w 30 ∧ w 30 ≤ 200) ∧ (0 ≤ w 31 ∧ w 31 ≤ 1) ∧ (0 ≤ w 35 ∧ w 35 ≤ 12)
/-- a tool's slot, way, builder -/
def Tg (w : Nat → Int) (B : Nat → Nat → Int) : Prop := (0 ≤ B 65 5 ∧ B 65 5 ≤ 256) ∧ ∀ t : Int, 0 ≤ t → t < w 5 → okS (B 54) (B 56) t ∧ (B 59 t.toNat = -9 ∨ (0 ≤ B 59 t.toNat ∧ B 59 t.toNat < t)) ∧ (B 57 t.toNat = 2 → B 59 t.toNat ≠ -9)
/-- what a call that only looks leaves as it was -/
def Ag (w : Nat → Int) (B : Nat → Nat → Int) (w1 : Nat → Int) (B1 : Nat → Nat → Int) : Prop := (w1 2 = w 2 ∧ w1 5 = w 5 ∧ w1 35 = w 35) ∧ (B1 53 = B 53 ∧ B1 57 = B 57 ∧ B1 58 = B 58 ∧ B1 59 = B 59 ∧ B1 60 = B 60 ∧ B1 65 = B 65 ∧ B1 66 = B 66 ∧ B1 67 = B 67 ∧ B1 68 = B 68 ∧ B1 69 = B 69) ∧ (∀ q : Nat, q < 3072 → B1 54 q = B 54 q) ∧ (∀ t : Nat, t < 12 → B1 56 t = B 56 t)
theorem Ag.refl (w : Nat → Int) (B : Nat → Nat → Int) : Ag w B w B := ⟨⟨rfl, rfl, rfl⟩, ⟨rfl, rfl, rfl, rfl, rfl, rfl, rfl, rfl, rfl, rfl⟩, fun _ _ => rfl, fun _ _ => rfl⟩
theorem Ag.tr {w w1 w2 : Nat → Int} {B B1 B2 : Nat → Nat → Int} (a : Ag w B w1 B1) (b : Ag w1 B1 w2 B2) : Ag w B w2 B2 := by
  obtain ⟨⟨a1, a2, a3⟩, ⟨c1, c2, c3, c4, c5, c6, c7, c8, c9, c10⟩, d, e⟩ := a
  obtain ⟨⟨a1', a2', a3'⟩, ⟨c1', c2', c3', c4', c5', c6', c7', c8', c9', c10'⟩, d', e'⟩ := b
  exact ⟨⟨a1'.trans a1, a2'.trans a2, a3'.trans a3⟩, ⟨c1'.trans c1, c2'.trans c2, c3'.trans c3, c4'.trans c4, c5'.trans c5, c6'.trans c6, c7'.trans c7, c8'.trans c8, c9'.trans c9, c10'.trans c10⟩, fun q hq => (d' q hq).trans (d q hq), fun t ht => (e' t ht).trans (e t ht)⟩
theorem Tg.ag {w w1 : Nat → Int} {B B1 : Nat → Nat → Int} (a : Ag w B w1 B1) (hw : w 5 ≤ 12) (ho : oki 0 256 (B 56)) (H : Tg w B) : Tg w1 B1 := by
  obtain ⟨⟨a1, a2, a3⟩, ⟨c1, c2, c3, c4, c5, c6, c7, c8, c9, c10⟩, d, e⟩ := a
  obtain ⟨H0, H⟩ := H
  refine ⟨by rw [c6]; exact H0, fun t h0 h1 => ?_⟩
  rw [a2] at h1
  obtain ⟨p, q, r⟩ := H t h0 h1
  refine ⟨fun j j0 j1 => ?_, by rw [c4]; exact q, by rw [c2, c4]; exact r⟩
  have e1 := e t.toNat (by omega)
  rw [e1] at j1
  have hb := ho t.toNat
  rw [d _ (by omega)]
  exact p j j0 j1
/-- a slot that is good stays good where it isn't touched -/
theorem okS_fr {bf bf1 sz sz1 : Nat → Int} {s to : Int} (hs : 0 ≤ s) (hto : 0 ≤ to) (hne : s ≠ to) (ho : oki 0 256 sz) (hA : ∀ q : Nat, ((q : Int) < 256 * to ∨ 256 * to + 256 ≤ q) → bf1 q = bf q) (hC : ∀ t : Nat, t ≠ to.toNat → sz1 t = sz t) (H : okS bf sz s) : okS bf1 sz1 s := by
  intro j j0 j1
  rw [hC s.toNat (by omega)] at j1
  have hb := ho s.toNat
  rw [hA _ (by omega)]
  exact H j j0 j1
theorem ok12_S {bf sz : Nat → Int} (H : ok12 bf sz) : okS bf sz 12 := by
  intro j j0 j1
  have := H j.toNat (by rw [Int.toNat_of_nonneg j0]; exact j1)
  have e : (256 * (12 : Int) + j).toNat = 3072 + j.toNat := by omega
  rw [e]
  exact this

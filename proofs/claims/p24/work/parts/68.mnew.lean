/-- what a call that may make or change tools leaves as it was -/
def AgA (w : Nat → Int) (B : Nat → Nat → Int) (w1 : Nat → Int) (B1 : Nat → Nat → Int) : Prop := w1 2 = w 2 ∧ w1 35 = w 35 ∧ B1 53 = B 53 ∧ B1 68 = B 68 ∧ B1 69 = B 69
theorem AgA.refl (w : Nat → Int) (B : Nat → Nat → Int) : AgA w B w B := ⟨rfl, rfl, rfl, rfl, rfl⟩
theorem AgA.tr {w w1 w2 : Nat → Int} {B B1 B2 : Nat → Nat → Int} (a : AgA w B w1 B1) (b : AgA w1 B1 w2 B2) : AgA w B w2 B2 := ⟨b.1.trans a.1, b.2.1.trans a.2.1, b.2.2.1.trans a.2.2.1, b.2.2.2.1.trans a.2.2.2.1, b.2.2.2.2.trans a.2.2.2.2⟩
theorem Ag.A {w w1 : Nat → Int} {B B1 : Nat → Nat → Int} (a : Ag w B w1 B1) : AgA w B w1 B1 := ⟨a.1.1, a.1.2.2, a.2.1.1, a.2.1.2.2.2.2.2.2.2.2.1, a.2.1.2.2.2.2.2.2.2.2.2⟩
set_option maxRecDepth 100000 in
theorem m_moveT {l : Launch} {h : MH} {Q : Option Value → MH → Prop} {tr : Int64} {ty tx : Nat → Int32} {w : Nat → Int} {B : Nat → Nat → Int} (H : R9 h tr ty tx w B) (hk : w 5 < 12) (hS : okS (B 54) (B 56) 12) (k : ∀ (h1 : MH) (B1 : Nat → Nat → Int), R9 h1 tr ty tx w B1 → AgA w B w B1 → okS (B1 54) (B1 56) (w 5) → Sm [54, 55, 56] h h1 → Q none h1) : Go l mX9_move 0 [some (.ref 50), some (.int (iZ 12)), some (.int (iZ (w 5)))] [] h Q := by
  obtain ⟨F50, ⟨F51, F52, F53, F54, F55, F56, F57, F58, F59, F60, F61, F62, F63, F64, F65, F66, F67, F68, F69, F70⟩, ⟨r2, r5, r13, r14, r15, r16, r17, r18, r19, r20, r25, r26, r27, r28, r29, r30, r31, r35⟩, ⟨o53, o54, o55, o56, o57, o58, o59, o60, o61, o62, o63, o64, o65, o66, o67, o68, o69, o70⟩, hT⟩ := id H
  refine n_move F50 F54 F55 F56 o54 o55 o56 r2 r5 r13 r14 r15 r16 r17 r18 r19 r20 r25 r26 r27 r28 r29 r30 r31 r35 (by omega) (by omega) (by omega) (fun h1 y54 y55 y56 p54 p55 p56 c0 c1 c2 s1 g54 g55 g56 => ?_)
  have hT1 : Tg w (va_up (va_up (va_up B 54 y54) 55 y55) 56 y56) := ⟨hT.1, fun t h0 h1 => ⟨okS_fr h0 (by omega) (by omega) o56 c0 (fun t ht => by rw [c2]; exact up_ne ht) (hT.2 t h0 h1).1, (hT.2 t h0 h1).2⟩⟩
  have hR : R9 h1 tr ty tx w (va_up (va_up (va_up B 54 y54) 55 y55) 56 y56) := ⟨(s1.get (by decide) F50), ⟨(s1.get (by decide) F51), (s1.get (by decide) F52), (s1.get (by decide) F53), g54, g55, g56, (s1.get (by decide) F57), (s1.get (by decide) F58), (s1.get (by decide) F59), (s1.get (by decide) F60), (s1.get (by decide) F61), (s1.get (by decide) F62), (s1.get (by decide) F63), (s1.get (by decide) F64), (s1.get (by decide) F65), (s1.get (by decide) F66), (s1.get (by decide) F67), (s1.get (by decide) F68), (s1.get (by decide) F69), (s1.get (by decide) F70)⟩, ⟨r2, r5, r13, r14, r15, r16, r17, r18, r19, r20, r25, r26, r27, r28, r29, r30, r31, r35⟩, ⟨o53, p54, p55, p56, o57, o58, o59, o60, o61, o62, o63, o64, o65, o66, o67, o68, o69, o70⟩, hT1⟩
  refine k h1 _ hR ⟨rfl, rfl, rfl, rfl, rfl⟩ (fun j j0 j1 => ?_) s1
  have hb := o56 (12 : Int).toNat
  change j < y56 (w 5).toNat at j1
  rw [c2, up_eq] at j1
  show 0 ≤ y54 (256 * w 5 + j).toNat ∧ y54 (256 * w 5 + j).toNat ≤ 255
  rw [c1 j j0 (by omega), c0 _ (by omega)]
  exact hS j j0 j1
set_option maxRecDepth 100000 in
theorem m_newT {l : Launch} {h : MH} {Q : Option Value → MH → Prop} {tr : Int64} {ty tx : Nat → Int32} {w : Nat → Int} {B : Nat → Nat → Int} {x i y : Int} (H : R9 h tr ty tx w B) (hk : w 5 < 12) (hS : okS (B 54) (B 56) (w 5)) (rx : rg x) (ri : 0 ≤ i ∧ i ≤ 7) (ry : y = -9 ∨ (0 ≤ y ∧ y < w 5)) (hx : x = 2 → y ≠ -9) (k : ∀ (h1 : MH) (w1 : Nat → Int) (B1 : Nat → Nat → Int), R9 h1 tr ty tx w1 B1 → AgA w B w1 B1 → Sm [50, 57, 58, 59, 60] h h1 → Q (some (.int (iZ (w 5)))) h1) : Go l mX9_newTool 0 [some (.ref 50), some (.int (iZ x)), some (.int (iZ i)), some (.int (iZ y)), none] [] h Q := by
  obtain ⟨F50, ⟨F51, F52, F53, F54, F55, F56, F57, F58, F59, F60, F61, F62, F63, F64, F65, F66, F67, F68, F69, F70⟩, ⟨r2, r5, r13, r14, r15, r16, r17, r18, r19, r20, r25, r26, r27, r28, r29, r30, r31, r35⟩, ⟨o53, o54, o55, o56, o57, o58, o59, o60, o61, o62, o63, o64, o65, o66, o67, o68, o69, o70⟩, hT⟩ := id H
  refine n_new F50 F57 F58 F59 F60 o57 o58 o59 o60 r2 r5 r13 r14 r15 r16 r17 r18 r19 r20 r25 r26 r27 r28 r29 r30 r31 r35 rx ri (by omega) hk (fun h1 x5 y57 y58 y59 y60 r q5 p57 p58 p59 p60 hr c0 c1 c2 c3 s1 g50 g57 g58 g59 g60 => ?_)
  subst hr
  have hT1 : Tg (va_up w 5 x5) (va_up (va_up (va_up (va_up B 57 y57) 58 y58) 59 y59) 60 y60) := by
    refine ⟨hT.1, fun t h0 h1 => ?_⟩
    change t < x5 at h1
    show okS (B 54) (B 56) t ∧ (y59 t.toNat = -9 ∨ (0 ≤ y59 t.toNat ∧ y59 t.toNat < t)) ∧ (y57 t.toNat = 2 → y59 t.toNat ≠ -9)
    by_cases e : t = w 5
    · subst e
      rw [c3, c1, up_eq, up_eq]
      exact ⟨hS, ry, hx⟩
    · rw [c3, c1, up_ne (by omega), up_ne (by omega)]
      exact hT.2 t h0 (by omega)
  have hR : R9 h1 tr ty tx (va_up w 5 x5) (va_up (va_up (va_up (va_up B 57 y57) 58 y58) 59 y59) 60 y60) := ⟨g50, ⟨(s1.get (by decide) F51), (s1.get (by decide) F52), (s1.get (by decide) F53), (s1.get (by decide) F54), (s1.get (by decide) F55), (s1.get (by decide) F56), g57, g58, g59, g60, (s1.get (by decide) F61), (s1.get (by decide) F62), (s1.get (by decide) F63), (s1.get (by decide) F64), (s1.get (by decide) F65), (s1.get (by decide) F66), (s1.get (by decide) F67), (s1.get (by decide) F68), (s1.get (by decide) F69), (s1.get (by decide) F70)⟩, ⟨r2, q5, r13, r14, r15, r16, r17, r18, r19, r20, r25, r26, r27, r28, r29, r30, r31, r35⟩, ⟨o53, o54, o55, o56, p57, p58, p59, p60, o61, o62, o63, o64, o65, o66, o67, o68, o69, o70⟩, hT1⟩
  exact k h1 _ _ hR ⟨rfl, rfl, rfl, rfl, rfl⟩ s1

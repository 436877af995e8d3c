/-! both sides between calls: group B -/
theorem R9B.mo {h h1 : MH} {tr : Int64} {ty tx : Nat → Int32} {w : Nat → Int} {B : Nat → Nat → Int} (M : Mo h h1) (H : R9B h tr ty tx w B) : R9B h1 tr ty tx w B := by
  obtain ⟨F50, ⟨F51, F52, F53, F54, F55, F56, F57, F58, F59, F60, F61, F62, F63, F64, F65, F66, F67, F68, F69, F70, kty, ktx⟩, hw, hB, hT⟩ := H
  have g : ∀ (q : Nat) (x : va_E), 50 ≤ q → q ≤ 70 → h[q]? = some x → h1[q]? = some x := fun q x a b c => (M q a b).trans c
  exact ⟨g _ _ (by decide) (by decide) F50, ⟨g _ _ (by decide) (by decide) F51, g _ _ (by decide) (by decide) F52, g _ _ (by decide) (by decide) F53, g _ _ (by decide) (by decide) F54, g _ _ (by decide) (by decide) F55, g _ _ (by decide) (by decide) F56, g _ _ (by decide) (by decide) F57, g _ _ (by decide) (by decide) F58, g _ _ (by decide) (by decide) F59, g _ _ (by decide) (by decide) F60, g _ _ (by decide) (by decide) F61, g _ _ (by decide) (by decide) F62, g _ _ (by decide) (by decide) F63, g _ _ (by decide) (by decide) F64, g _ _ (by decide) (by decide) F65, g _ _ (by decide) (by decide) F66, g _ _ (by decide) (by decide) F67, g _ _ (by decide) (by decide) F68, g _ _ (by decide) (by decide) F69, g _ _ (by decide) (by decide) F70, kty, ktx⟩, hw, hB, hT⟩
theorem SM_in {q : Nat} (h : q ∈ [50, 51, 52, 53, 54, 55, 56, 57, 58, 59, 60, 61, 62, 63, 64, 65, 66, 67, 68, 69, 70]) : 50 ≤ q ∧ q ≤ 70 := by
  simp only [List.mem_cons, List.not_mem_nil, or_false] at h
  omega
theorem SM_in8 {q : Nat} (h : q ∈ [50, 54, 55, 56, 61, 62, 63, 64]) : 50 ≤ q ∧ q ≤ 70 := by
  simp only [List.mem_cons, List.not_mem_nil, or_false] at h
  omega
/-- what both sides hold is the same: texts, what is typed, the number of editions -/
def Rel (tn : Int) (tf : Nat → Int) (xn : Nat → Int) (xf : Nat → Nat → Int) (en : Int) (ty tx : Nat → Int32) (w : Nat → Int) (B : Nat → Nat → Int) : Prop := w 2 = tn ∧ w 35 = en ∧ (∀ i : Nat, i < 8 → B 53 i = xn i) ∧ (∀ j : Nat, (j : Int) < tn → (ty j).toInt % 256 = tf j) ∧ ∀ i : Nat, i < 8 → ∀ j : Nat, (j : Int) < xn i → (tx (200 * i + j)).toInt % 256 = xf i j
section REL
variable {tn tn1 : Int} {tf tf1 : Nat → Int} {xn xn1 : Nat → Int} {xf xf1 : Nat → Nat → Int} {en en1 : Int} {ty ty1 tx tx1 : Nat → Int32} {w w1 : Nat → Int} {B B1 : Nat → Nat → Int}
theorem Rel.aC (a : AgC w B w1 B1) (h : Rel tn tf xn xf en ty tx w B) : Rel tn tf xn xf en ty tx w1 B1 := by
  obtain ⟨h1, h2, h3, h4, h5⟩ := h
  exact ⟨a.1.trans h1, a.2.1.trans h2, fun i hi => by rw [a.2.2.1]; exact h3 i hi, h4, h5⟩
theorem rel_type {n r r1 : Int} {v : Int64} (h : Rel tn tf xn xf en ty tx w B)
    (c1 : 1 ≤ n ∧ n ≤ 8 ∧ tn + n ≤ 200 → r = tn + n ∧ tn1 = tn + n ∧ tf1 = tyb v n tn tf) (c2 : 1 ≤ n ∧ n ≤ 8 ∧ 200 < tn + n → r = -3 ∧ tn1 = tn ∧ tf1 = tf) (c3 : ¬ (1 ≤ n ∧ n ≤ 8) → r = -1 ∧ tn1 = tn ∧ tf1 = tf)
    (d1 : 1 ≤ n ∧ n ≤ 8 ∧ w 2 + n ≤ 200 → r1 = w 2 + n ∧ w1 = va_up w 2 (w 2 + n) ∧ (∀ j : Nat, (j : Int) < w 2 → ty1 j = ty j) ∧ ∀ j : Nat, w 2 ≤ j → (j : Int) < w 2 + n → (ty1 j).toInt % 256 = bt v (w 2 + n - 1 - j)) (d2 : 1 ≤ n ∧ n ≤ 8 ∧ 200 < w 2 + n → r1 = -3 ∧ w1 = w ∧ ty1 = ty) (d3 : ¬ (1 ≤ n ∧ n ≤ 8) → r1 = -1 ∧ w1 = w ∧ ty1 = ty) :
    r = r1 ∧ Rel tn1 tf1 xn xf en ty1 tx w1 B := by
  obtain ⟨h1, h2, h3, h4, h5⟩ := h
  subst h1
  by_cases q : 1 ≤ n ∧ n ≤ 8
  · by_cases q2 : w 2 + n ≤ 200
    · obtain ⟨a1, a2, a3⟩ := c1 ⟨q.1, q.2, q2⟩
      obtain ⟨b1, b2, b3, b4⟩ := d1 ⟨q.1, q.2, q2⟩
      subst a1
      subst a2
      subst a3
      subst b1
      subst b2
      refine ⟨rfl, rfl, h2, h3, fun j hj => ?_, h5⟩
      unfold tyb
      by_cases z : w 2 ≤ (j : Int)
      · rw [if_pos ⟨z, hj⟩]
        exact b4 j z hj
      · rw [if_neg (fun y => z y.1), b3 j (by omega)]
        exact h4 j (by omega)
    · obtain ⟨a1, a2, a3⟩ := c2 ⟨q.1, q.2, by omega⟩
      obtain ⟨b1, b2, b3⟩ := d2 ⟨q.1, q.2, by omega⟩
      subst a1
      subst a2
      subst a3
      subst b1
      subst b2
      subst b3
      exact ⟨rfl, rfl, h2, h3, h4, h5⟩
  · obtain ⟨a1, a2, a3⟩ := c3 q
    obtain ⟨b1, b2, b3⟩ := d3 q
    subst a1
    subst a2
    subst a3
    subst b1
    subst b2
    subst b3
    exact ⟨rfl, rfl, h2, h3, h4, h5⟩
theorem rel_clear (h : Rel tn tf xn xf en ty tx w B) : Rel 0 tf xn xf en ty tx (va_up w 2 0) B := by
  obtain ⟨h1, h2, h3, h4, h5⟩ := h
  exact ⟨rfl, h2, h3, fun j hj => by omega, h5⟩
theorem rel_text {i r r1 : Int} (h : Rel tn tf xn xf en ty tx w B)
    (c1 : 0 ≤ i ∧ i < 8 → r = tn ∧ tn1 = 0 ∧ xn1 = va_up xn i.toNat tn ∧ ∃ f1 : Nat → Int, (∀ j : Nat, (j : Int) < tn → f1 j = tf j) ∧ xf1 = va_up xf i.toNat f1) (c2 : ¬ (0 ≤ i ∧ i < 8) → r = -1 ∧ tn1 = tn ∧ xn1 = xn ∧ xf1 = xf)
    (d1 : 0 ≤ i ∧ i ≤ 7 → r1 = w 2 ∧ w1 = va_up w 2 0 ∧ B1 = va_up B 53 (va_up (B 53) i.toNat (w 2)) ∧ (∀ q : Nat, ((q : Int) < 200 * i ∨ 200 * i + w 2 ≤ q) → tx1 q = tx q) ∧ ∀ j : Int, 0 ≤ j → j < w 2 → (tx1 (200 * i + j).toNat).toInt % 256 = (ty j.toNat).toInt % 256) (d2 : ¬ (0 ≤ i ∧ i ≤ 7) → r1 = -1 ∧ w1 = w ∧ B1 = B ∧ tx1 = tx) (hx : ∀ i : Nat, i < 8 → xn i ≤ 200) (hw : w 2 ≤ 200) :
    r = r1 ∧ Rel tn1 tf xn1 xf1 en ty tx1 w1 B1 := by
  obtain ⟨h1, h2, h3, h4, h5⟩ := h
  subst h1
  by_cases q : 0 ≤ i ∧ i < 8
  · obtain ⟨a1, a2, a3, f1, a4, a5⟩ := c1 q
    obtain ⟨b1, b2, b3, b4, b5⟩ := d1 ⟨q.1, by omega⟩
    subst a1
    subst a2
    subst a3
    subst a5
    subst b1
    subst b2
    subst b3
    refine ⟨rfl, rfl, h2, fun j hj => ?_, fun j hj => by omega, fun k hk j hj => ?_⟩
    · show va_up (B 53) i.toNat (w 2) j = va_up xn i.toNat (w 2) j
      unfold va_up
      split
      · rfl
      · exact h3 j hj
    · by_cases z : k = i.toNat
      · subst z
        rw [up_eq] at hj
        rw [up_eq, a4 j hj, ← h4 j hj]
        have := b5 (j : Int) (by omega) hj
        rw [show (200 * i + (j : Int)).toNat = 200 * i.toNat + j by omega, show ((j : Int)).toNat = j by omega] at this
        exact this
      · rw [up_ne z] at hj
        rw [up_ne z, b4 _ (by have := hx k hk; omega)]
        exact h5 k hk j hj
  · obtain ⟨a1, a2, a3, a4⟩ := c2 q
    obtain ⟨b1, b2, b3, b4⟩ := d2 (fun z => q ⟨z.1, by omega⟩)
    subst a1
    subst a2
    subst a3
    subst a4
    subst b1
    subst b2
    subst b3
    subst b4
    exact ⟨rfl, rfl, h2, h3, h4, h5⟩
theorem rel_read {i a r r1 : Int} (h : Rel tn tf xn xf en ty tx w B) (c1 : 0 ≤ i ∧ i < 8 ∧ 0 ≤ a ∧ a < xn i.toNat → r = xf i.toNat a.toNat) (c2 : ¬ (0 ≤ i ∧ i < 8 ∧ 0 ≤ a ∧ a < xn i.toNat) → r = -1)
    (d1 : 0 ≤ i ∧ i ≤ 7 ∧ 0 ≤ a ∧ a < B 53 i.toNat → r1 = (tx (200 * i + a).toNat).toInt % 256) (d2 : ¬ (0 ≤ i ∧ i ≤ 7 ∧ 0 ≤ a ∧ a < B 53 i.toNat) → r1 = -1) : r = r1 := by
  obtain ⟨h1, h2, h3, h4, h5⟩ := h
  by_cases q : 0 ≤ i ∧ i < 8
  · rw [h3 i.toNat (by omega)] at d1 d2
    by_cases z : 0 ≤ a ∧ a < xn i.toNat
    · rw [c1 ⟨q.1, q.2, z⟩, d1 ⟨q.1, by omega, z⟩, ← h5 i.toNat (by omega) a.toNat (by omega)]
      rw [show (200 * i + a).toNat = 200 * i.toNat + a.toNat by omega]
    · rw [c2 (fun y => z y.2.2), d2 (fun y => z y.2.2)]
  · rw [c2 (fun y => q ⟨y.1, y.2.1⟩), d2 (fun y => q ⟨y.1, by omega⟩)]
theorem rel_edition {i j r r1 : Int} (h : Rel tn tf xn xf en ty tx w B) (hen : en ≤ 12)
    (c1 : 0 ≤ i ∧ i ≤ 65535 ∧ 0 ≤ j ∧ j ≤ 65535 ∧ en < 12 → r = en ∧ en1 = en + 1) (c2 : 0 ≤ i ∧ i ≤ 65535 ∧ 0 ≤ j ∧ j ≤ 65535 ∧ en = 12 → r = -3 ∧ en1 = en) (c3 : ¬ (0 ≤ i ∧ i ≤ 65535 ∧ 0 ≤ j ∧ j ≤ 65535) → r = -1 ∧ en1 = en)
    (d1 : 0 ≤ i ∧ i ≤ 65535 ∧ 0 ≤ j ∧ j ≤ 65535 ∧ w 35 < 12 → r1 = w 35 ∧ w1 = va_up w 35 (w 35 + 1) ∧ B1 = va_up (va_up B 68 (va_up (B 68) (w 35).toNat i)) 69 (va_up (B 69) (w 35).toNat j)) (d2 : 0 ≤ i ∧ i ≤ 65535 ∧ 0 ≤ j ∧ j ≤ 65535 ∧ w 35 = 12 → r1 = -3 ∧ w1 = w ∧ B1 = B) (d3 : ¬ (0 ≤ i ∧ i ≤ 65535 ∧ 0 ≤ j ∧ j ≤ 65535) → r1 = -1 ∧ w1 = w ∧ B1 = B) :
    r = r1 ∧ Rel tn tf xn xf en1 ty tx w1 B1 := by
  obtain ⟨h1, h2, h3, h4, h5⟩ := h
  subst h2
  by_cases q : 0 ≤ i ∧ i ≤ 65535 ∧ 0 ≤ j ∧ j ≤ 65535
  · by_cases z : w 35 < 12
    · obtain ⟨a1, a2⟩ := c1 ⟨q.1, q.2.1, q.2.2.1, q.2.2.2, z⟩
      obtain ⟨b1, b2, b3⟩ := d1 ⟨q.1, q.2.1, q.2.2.1, q.2.2.2, z⟩
      subst b2
      subst b3
      exact ⟨by omega, h1, by rw [a2]; rfl, h3, h4, h5⟩
    · obtain ⟨a1, a2⟩ := c2 ⟨q.1, q.2.1, q.2.2.1, q.2.2.2, by omega⟩
      obtain ⟨b1, b2, b3⟩ := d2 ⟨q.1, q.2.1, q.2.2.1, q.2.2.2, by omega⟩
      subst b2
      subst b3
      exact ⟨by omega, h1, a2.symm, h3, h4, h5⟩
  · obtain ⟨a1, a2⟩ := c3 q
    obtain ⟨b1, b2, b3⟩ := d3 q
    subst b2
    subst b3
    exact ⟨by omega, h1, a2.symm, h3, h4, h5⟩
end REL
def RT (tc : Nat) (V Bf Lf : Nat → Nat → Int) (w : Nat → Int) (B : Nat → Nat → Int) : Prop := w 5 = (tc : Int) ∧ TR tc V Bf Lf (refV B) (refB B) (refL B)
def TD (q lm lo : Nat → Int) (B : Nat → Nat → Int) : Prop := (B 65 0 = q 0 ∧ B 65 1 = q 1 ∧ B 65 2 = q 2 ∧ B 65 3 = q 3 ∧ B 65 4 = q 4 ∧ B 65 5 = q 5) ∧ agr 256 (B 67) lm ∧ agr (q 5) (B 66) lo
def LI (h : MH) : Prop := ∃ (tn : Int) (tf : Nat → Int) (xn : Nat → Int) (xf : Nat → Nat → Int) (en : Int) (tc : Nat) (tr : Int64) (V Bf Lf : Nat → Nat → Int) (q lm lo : Nat → Int) (ty tx : Nat → Int32) (w : Nat → Int) (B : Nat → Nat → Int), IX2 h tn tf xn xf en tc tr V Bf Lf q lm lo ∧ R9B h tr ty tx w B ∧ Rel tn tf xn xf en ty tx w B ∧ RT tc V Bf Lf w B ∧ TD q lm lo B
section RTL
variable {tc tc1 tc2 : Nat} {V Bf Lf V1 Bf1 Lf1 V2 Bf2 Lf2 V' Bf' Lf' : Nat → Nat → Int} {w w1 w2 : Nat → Int} {B B1 B2 : Nat → Nat → Int} {q lm lo q1 lm1 lo1 : Nat → Int}
theorem RT.n (h : RT tc V Bf Lf w B) : (w 5).toNat = tc := by
  have := h.1
  omega
theorem RT.ag (h : RT tc V Bf Lf w B) (a : AgB w B w1 B1) (hc : tc ≤ 12) (ho : oki 0 256 (B 56)) : RT tc V Bf Lf w1 B1 := by
  have h5 := h.1
  have T := a.T (by omega) ho
  rw [h.n] at T
  exact ⟨a.1.2.1.trans h5, h.2.tr T⟩
theorem TD.ag (h : TD q lm lo B) (a : AgC w B w1 B1) : TD q lm lo B1 := by
  obtain ⟨-, -, -, e1, e2, e3⟩ := a
  unfold TD
  rw [e1, e2, e3]
  exact h
theorem RT.w5 (h : RT tc V Bf Lf w B) (e : w1 5 = w 5) (e2 : refV B1 = refV B) (e3 : refB B1 = refB B) (e4 : refL B1 = refL B) : RT tc V Bf Lf w1 B1 := by
  unfold RT
  rw [e2, e3, e4, e]
  exact h
/-- a tool kept on both sides -/
theorem kp_join {n hw tx bd r r' : Int} {f g : Nat → Int} (T : TR tc V Bf Lf V' Bf' Lf') (a : kpP tc V Bf Lf n f g hw tx bd r tc1 V1 Bf1 Lf1) (b : kpP tc V' Bf' Lf' n f g hw tx bd r' tc2 V2 Bf2 Lf2) : r = r' ∧ tc1 = tc2 ∧ TR tc1 V1 Bf1 Lf1 V2 Bf2 Lf2 := by
  obtain ⟨a1, a2, a3⟩ := a
  obtain ⟨b1, b2, b3⟩ := b
  have T1 : TR tc V1 Bf1 Lf1 V2 Bf2 Lf2 := a3.sy.tr (T.tr b3)
  by_cases z : tc < 12
  · obtain ⟨c1, c2, ⟨c3, c4, c5, c6, c7⟩, c8, c9⟩ := a1 z
    obtain ⟨d1, d2, ⟨d3, d4, d5, d6, d7⟩, d8, d9⟩ := b1 z
    refine ⟨c1.trans d1.symm, c2.trans d2.symm, fun j hj => ?_⟩
    by_cases e : j < tc
    · exact T1 j e
    · have : j = tc := by omega
      subst this
      refine ⟨⟨d3.trans c3.symm, d4.trans c4.symm, d5.trans c5.symm, d6.trans c6.symm, d7.trans c7.symm⟩, fun k hk => ?_, fun k hk => ?_⟩
      · rw [c3] at hk
        exact (d8 k hk).trans (c8 k hk).symm
      · rw [c3] at hk
        exact (d9 k hk).trans (c9 k hk).symm
  · obtain ⟨c1, c2⟩ := a2 z
    obtain ⟨d1, d2⟩ := b2 z
    refine ⟨c1.trans d1.symm, c2.trans d2.symm, ?_⟩
    rw [c2]
    exact T1
theorem tr3 {n : Nat} (T : TR tc V Bf Lf V' Bf' Lf') (a : TR tc V Bf Lf V1 Bf1 Lf1) (b : TR tc V' Bf' Lf' V2 Bf2 Lf2) (e : n = tc) : TR n V1 Bf1 Lf1 V2 Bf2 Lf2 := by
  subst e
  exact a.sy.tr (T.tr b)
theorem mt_join {R R' : PR} {hw i r r' : Int} (eR : 0 ≤ i ∧ i ≤ 7 → R' = R) (T : TR tc V Bf Lf V' Bf' Lf') (a : mtP R tc V Bf Lf hw i r tc1 V1 Bf1 Lf1) (b : mtP R' tc V' Bf' Lf' hw i r' tc2 V2 Bf2 Lf2) : r = r' ∧ tc1 = tc2 ∧ TR tc1 V1 Bf1 Lf1 V2 Bf2 Lf2 := by
  by_cases z : 0 ≤ i ∧ i ≤ 7
  · rw [eR z] at b
    have a := a.1 z
    have b := b.1 z
    by_cases y : R.1 = -9
    · exact kp_join T (a.1 y) (b.1 y)
    · obtain ⟨c1, c2, c3⟩ := a.2 y
      obtain ⟨d1, d2, d3⟩ := b.2 y
      exact ⟨c1.trans d1.symm, c2.trans d2.symm, tr3 T c3 d3 c2⟩
  · obtain ⟨c1, c2, c3⟩ := a.2 z
    obtain ⟨d1, d2, d3⟩ := b.2 z
    exact ⟨c1.trans d1.symm, c2.trans d2.symm, tr3 T c3 d3 c2⟩
theorem bd_join {R R' : Int × MS} {t i r r' : Int} (eR : 0 ≤ t ∧ t < tc ∧ 0 ≤ i ∧ i ≤ 7 → R' = R) (T : TR tc V Bf Lf V' Bf' Lf') (a : bdP R tc V Bf Lf t i r tc1 V1 Bf1 Lf1) (b : bdP R' tc V' Bf' Lf' t i r' tc2 V2 Bf2 Lf2) : r = r' ∧ tc1 = tc2 ∧ TR tc1 V1 Bf1 Lf1 V2 Bf2 Lf2 := by
  by_cases z : 0 ≤ t ∧ t < tc ∧ 0 ≤ i ∧ i ≤ 7
  · rw [eR z] at b
    have a := a.1 z
    have b := b.1 z
    by_cases y : bldOk R
    · exact kp_join T (a.1 y) (b.1 y)
    · obtain ⟨c1, c2, c3⟩ := a.2 y
      obtain ⟨d1, d2, d3⟩ := b.2 y
      exact ⟨c1.trans d1.symm, c2.trans d2.symm, tr3 T c3 d3 c2⟩
  · obtain ⟨c1, c2, c3⟩ := a.2 z
    obtain ⟨d1, d2, d3⟩ := b.2 z
    exact ⟨c1.trans d1.symm, c2.trans d2.symm, tr3 T c3 d3 c2⟩
theorem tl_join {i x r r' : Int} (h : RT tc V Bf Lf w B) (a : tlP tc V i x r) (b : tlP (w 5) (refV B) i x r') : r = r' := by
  obtain ⟨h5, T⟩ := h
  rw [h5] at b
  obtain ⟨c0, c1, c2, c3, c4, c5⟩ := a
  obtain ⟨d0, d1, d2, d3, d4, d5⟩ := b
  by_cases z : 0 ≤ i ∧ i < tc
  · obtain ⟨e0, e1, e2, e3, e4⟩ := (T i.toNat (by omega)).1
    by_cases x0 : x = 0
    · rw [c0 ⟨z.1, z.2, x0⟩, d0 ⟨z.1, z.2, x0⟩, e0]
    by_cases x1 : x = 1
    · rw [c1 ⟨z.1, z.2, x1⟩, d1 ⟨z.1, z.2, x1⟩, e1]
    by_cases x2 : x = 2
    · rw [c2 ⟨z.1, z.2, x2⟩, d2 ⟨z.1, z.2, x2⟩, e2]
    by_cases x3 : x = 3
    · rw [c3 ⟨z.1, z.2, x3⟩, d3 ⟨z.1, z.2, x3⟩, e3]
    by_cases x4 : x = 4
    · rw [c4 ⟨z.1, z.2, x4⟩, d4 ⟨z.1, z.2, x4⟩, e4]
    have n : ¬ (0 ≤ i ∧ i < (tc : Int) ∧ 0 ≤ x ∧ x ≤ 4) := by
      clear c0 c1 c2 c3 c4 c5 d0 d1 d2 d3 d4 d5
      omega
    rw [c5 n, d5 n]
  · have n : ¬ (0 ≤ i ∧ i < (tc : Int) ∧ 0 ≤ x ∧ x ≤ 4) := fun y => z ⟨y.1, y.2.1⟩
    rw [c5 n, d5 n]
theorem cd_join {i a x r r' : Int} (h : RT tc V Bf Lf w B) (c : cdP tc V Bf Lf i a x r) (d : cdP (w 5) (refV B) (refB B) (refL B) i a x r') : r = r' := by
  obtain ⟨h5, T⟩ := h
  rw [h5] at d
  obtain ⟨c1, c2, c3⟩ := c
  obtain ⟨d1, d2, d3⟩ := d
  by_cases z : 0 ≤ i ∧ i < tc
  · obtain ⟨⟨e, -⟩, f, g⟩ := T i.toNat (by omega)
    rw [e] at d1 d2 d3
    by_cases y : 0 ≤ a ∧ a < V 0 i.toNat
    · have f := f a.toNat (by omega)
      have g := g a.toNat (by omega)
      by_cases x0 : x = 0
      · rw [c1 ⟨z.1, z.2, x0, y.1, y.2⟩, d1 ⟨z.1, z.2, x0, y.1, y.2⟩, f]
      · by_cases x1 : x = 1
        · rw [c2 ⟨z.1, z.2, x1, y.1, y.2⟩, d2 ⟨z.1, z.2, x1, y.1, y.2⟩, g]
        · rw [c3 (by omega), d3 (by omega)]
    · rw [c3 (by omega), d3 (by omega)]
  · rw [c3 (by omega), d3 (by omega)]
theorem sm_join {a b r r' : Int} (h : RT tc V Bf Lf w B) (c : smP tc V Bf a b r) (d : smP (w 5) (refV B) (refB B) a b r') : r = r' := by
  obtain ⟨h5, T⟩ := h
  rw [h5] at d
  by_cases z : 0 ≤ a ∧ a < tc ∧ 0 ≤ b ∧ b < tc
  · rw [c.1 z, d.1 z]
    obtain ⟨⟨e, -⟩, f, -⟩ := T a.toNat (by omega)
    obtain ⟨⟨e2, -⟩, f2, -⟩ := T b.toNat (by omega)
    rw [e, e2]
    exact ulk_cg (fun j hj => (f j hj).symm) (fun j hj => (f2 j hj).symm)
  · rw [c.2 z, d.2 z]
theorem rn_join {x r r' : Int} (h : TD q lm lo B) (c : rnP q x r) (d : rnP (B 65) x r') : r = r' := by
  obtain ⟨e0, e1, e2, e3, e4, e5⟩ := h.1
  obtain ⟨c0, c1, c2, c3, c4, c5, c6⟩ := c
  obtain ⟨d0, d1, d2, d3, d4, d5, d6⟩ := d
  by_cases x0 : x = 0
  · rw [c0 x0, d0 x0, e0]
  by_cases x1 : x = 1
  · rw [c1 x1, d1 x1, e1]
  by_cases x2 : x = 2
  · rw [c2 x2, d2 x2, e2]
  by_cases x3 : x = 3
  · rw [c3 x3, d3 x3, e3]
  by_cases x4 : x = 4
  · rw [c4 x4, d4 x4, e4]
  by_cases x5 : x = 5
  · rw [c5 x5, d5 x5, e5]
  have n : ¬ (0 ≤ x ∧ x ≤ 5) := by
    clear c0 c1 c2 c3 c4 c5 c6 d0 d1 d2 d3 d4 d5 d6
    omega
  rw [c6 n, d6 n]
theorem tp_join {a x r r' : Int} (h : TD q lm lo B) (c : tpP q lm lo a x r) (d : tpP (B 65) (B 67) (B 66) a x r') : r = r' := by
  obtain ⟨⟨-, -, -, -, -, h5⟩, hm, ho⟩ := h
  obtain ⟨c1, c2, c3⟩ := c
  obtain ⟨d1, d2, d3⟩ := d
  rw [h5] at d1 d3
  by_cases z : x = 0 ∧ 0 ≤ a ∧ a < q 5
  · rw [c1 z, d1 z, ho a.toNat (by omega)]
  · by_cases y : x = 1 ∧ 0 ≤ a ∧ a ≤ 255
    · rw [c2 y, d2 y, hm a.toNat (by omega)]
    · rw [c3 ⟨z, y⟩, d3 ⟨z, y⟩]
theorem ru_join {R R' : Int × MS} {t i : Int} (eR : 0 ≤ t ∧ t < tc ∧ 0 ≤ i ∧ i ≤ 7 → R' = R) (h5 : w 5 = (tc : Int)) (h : TD q lm lo B) (a : ruP R tc q lm lo t i q1 lm1 lo1) (b : ruP R' (w 5) (B 65) (B 67) (B 66) t i (B1 65) (B1 67) (B1 66)) : TD q1 lm1 lo1 B1 := by
  rw [h5] at b
  by_cases z : 0 ≤ t ∧ t < tc ∧ 0 ≤ i ∧ i ≤ 7
  · rw [eR z] at b
    obtain ⟨a0, a1, a2, a3, a4, a5, am, ao⟩ := a.1 z
    obtain ⟨b0, b1, b2, b3, b4, b5, bm, bo⟩ := b.1 z
    refine ⟨⟨b0.trans a0.symm, b1.trans a1.symm, b2.trans a2.symm, b3.trans a3.symm, b4.trans a4.symm, b5.trans a5.symm⟩, fun j hj => (bm j hj).trans (am j hj).symm, fun j hj => ?_⟩
    exact (bo j (by rw [b5, ← a5]; exact hj)).trans (ao j hj).symm
  · obtain ⟨⟨a0, a1, a2, a3, a4, a5⟩, am, ao⟩ := a.2 z
    obtain ⟨⟨b0, b1, b2, b3, b4, b5⟩, bm, bo⟩ := b.2 z
    obtain ⟨⟨h0, h1, h2, h3, h4, h5'⟩, hm, ho⟩ := h
    refine ⟨⟨by omega, by omega, by omega, by omega, by omega, by omega⟩, fun j hj => (bm j hj).trans ((hm j hj).trans (am j hj).symm), fun j hj => ?_⟩
    rw [a5] at hj
    exact (bo j (by omega)).trans ((ho j hj).trans (ao j hj).symm)
theorem ck_join {t x r r' : Int} (T : TR tc V Bf Lf V' Bf' Lf') (a : ckP tc V Bf Lf t x r V1 Bf1 Lf1) (b : ckP tc V' Bf' Lf' t x r' V2 Bf2 Lf2) : r = r' ∧ TR tc V1 Bf1 Lf1 V2 Bf2 Lf2 := by
  by_cases z : 0 ≤ t ∧ t < tc ∧ 0 ≤ x ∧ x ≤ 1
  · have a := a.1 z
    have b := b.1 z
    obtain ⟨⟨e0, e1, e2, e3, e4⟩, e5, e6⟩ := T t.toNat (by omega)
    rw [e1] at b
    by_cases y : V 1 t.toNat = 0
    · obtain ⟨a1, a2, a3⟩ := a.1 y
      obtain ⟨b1, b2, b3⟩ := b.1 y
      refine ⟨by omega, fun j hj => ?_⟩
      obtain ⟨⟨c0, c1, c2, c3, c4⟩, c5, c6⟩ := a3 j hj
      obtain ⟨⟨d0, d1, d2, d3, d4⟩, d5, d6⟩ := b3 j hj
      obtain ⟨⟨f0, f1, f2, f3, f4⟩, f5, f6⟩ := T j hj
      refine ⟨⟨by omega, by omega, by omega, by omega, ?_⟩, fun k hk => ?_, fun k hk => ?_⟩
      · by_cases u : j = t.toNat
        · subst u
          omega
        · rw [c4 u, d4 u, f4]
      · rw [c0] at hk
        exact (d5 k (by omega)).trans ((f5 k hk).trans (c5 k hk).symm)
      · rw [c0] at hk
        exact (d6 k (by omega)).trans ((f6 k hk).trans (c6 k hk).symm)
    · obtain ⟨a1, a2⟩ := a.2 y
      obtain ⟨b1, b2⟩ := b.2 y
      exact ⟨by omega, a2.sy.tr (T.tr b2)⟩
  · obtain ⟨a1, a2⟩ := a.2 z
    obtain ⟨b1, b2⟩ := b.2 z
    exact ⟨by omega, a2.sy.tr (T.tr b2)⟩
/-- chains are the same -/
theorem len_cg {g g' : Nat → Int} {n t k : Int} (hg : ∀ j : Nat, (j : Int) < n → g' j = g j) (hb : ∀ j : Nat, (j : Int) < n → g j = -9 ∨ (0 ≤ g j ∧ g j < n)) (ht : 0 ≤ t ∧ t < n) (h : isLen g t k) : isLen g' t k := by
  obtain ⟨h1, h2, h3⟩ := h
  have c := itB_cg (g := g) (g' := g') (fun j hj => (hg j hj).symm) hb ht
  refine ⟨h1, fun m hm => ?_, ?_⟩
  · rw [← (c m (fun i hi => h2 i (by omega))).1]
    exact h2 m hm
  · rw [← (c k.toNat (fun i hi => h2 i (by omega))).1]
    exact h3
theorem wg_join {x t r r' : Int} (h : RT tc V Bf Lf w B) (hb : ∀ j : Nat, j < tc → V 3 j = -9 ∨ (0 ≤ V 3 j ∧ V 3 j < j)) (hn : ∀ j : Nat, j < tc → 0 ≤ V 0 j) (c : wgP tc V Bf x t r) (d : wgP (w 5) (refV B) (refB B) x t r') : r = r' := by
  obtain ⟨h5, T⟩ := h
  rw [h5] at d
  by_cases z : 0 ≤ t ∧ t < tc
  · have c1 := c.1 z
    have d1 := d.1 z
    have hn := hn t.toNat (by omega)
    obtain ⟨⟨e0, e1, e2, e3, e4⟩, e5, e6⟩ := T t.toNat (by omega)
    have eb : bey (refB B t.toNat) (refV B 0 t.toNat).toNat = bey (Bf t.toNat) (V 0 t.toNat).toNat := by
      rw [e0]
      exact bey_cg (fun j hj => e5 j (by omega))
    rw [e0] at eb d1
    have L : ∀ k k', isLen (V 3) t k → isLen (refV B 3) t k' → k = k' := by
      intro k k' y y'
      refine isLen_un (len_cg (n := tc) (fun j hj => ?_) (fun j hj => ?_) z y) y'
      · exact (T j (by omega)).1.2.2.2.1
      · have := hb j (by omega)
        omega
    obtain ⟨c0, c1, c2, c3, c4, c5⟩ := c1
    obtain ⟨d0, d1, d2, d3, d4, d5⟩ := d1
    by_cases x3 : x = 3
    · obtain ⟨k, y1, y2⟩ := c3 x3
      obtain ⟨k', y3, y4⟩ := d3 x3
      have := L k k' y1 y3
      subst this
      rw [y2, y4, eb]
    · by_cases x4 : x = 4
      · obtain ⟨k, y1, y2⟩ := c4 x4
        obtain ⟨k', y3, y4⟩ := d4 x4
        have := L k k' y1 y3
        subst this
        rw [y2, y4, eb]
      · by_cases x0 : x = 0
        · rw [c0 x0, d0 x0]
        by_cases x1 : x = 1
        · rw [c1 x1, d1 x1, e4]
        by_cases x2 : x = 2
        · rw [c2 x2, d2 x2, eb]
        by_cases x5 : x = 5
        · rw [c5 x5, d5 x5]
        have n : ¬ (0 ≤ t ∧ t < (tc : Int) ∧ 0 ≤ x ∧ x ≤ 5) := by
          clear c0 c1 c2 c3 c4 c5 d0 d1 d2 d3 d4 d5 c d L
          omega
        rw [c.2 n, d.2 n]
  · rw [c.2 (fun y => z ⟨y.1, y.2.1⟩), d.2 (fun y => z ⟨y.1, y.2.1⟩)]
theorem wt_join {x t : Int} {tr tr1 tr2 : Int64} (h5 : w 5 = (tc : Int)) (c : wtP tc tr x t tr1) (d : wtP (w 5) tr x t tr2) : tr2 = tr1 := by
  rw [h5] at d
  by_cases z : 0 ≤ t ∧ t < tc ∧ 0 ≤ x ∧ x ≤ 5
  · rw [c.1 z, d.1 z]
  · rw [c.2 z, d.2 z]
end RTL
section TXT
variable {tn : Int} {tf : Nat → Int} {xn : Nat → Int} {xf : Nat → Nat → Int} {en : Int} {ty tx : Nat → Int32} {w : Nat → Int} {B : Nat → Nat → Int} {tc : Nat} {V Bf Lf : Nat → Nat → Int}
theorem tx_eq {i : Int} (h : Rel tn tf xn xf en ty tx w B) (hi : 0 ≤ i ∧ i ≤ 7) : B 53 i.toNat = xn i.toNat ∧ ∀ j : Int, 0 ≤ j → j < xn i.toNat → hb tx (200 * i + j) = xf i.toNat j.toNat := by
  obtain ⟨-, -, h3, -, h5⟩ := h
  refine ⟨h3 _ (by omega), fun j j0 j1 => ?_⟩
  have := h5 i.toNat (by omega) j.toNat (by omega)
  rw [← this]
  unfold hb
  rw [show (200 * i + j).toNat = 200 * i.toNat + j.toNat by omega]
theorem prs_eq {i : Int} (h : Rel tn tf xn xf en ty tx w B) (h0 : ∀ j : Nat, j < 8 → 0 ≤ xn j) (hi : 0 ≤ i ∧ i ≤ 7) : prsE (B 53 i.toNat) (fun j => hb tx (200 * i + j)) = prsE (xn i.toNat) (fun j => xf i.toNat j.toNat) := by
  obtain ⟨e, f⟩ := tx_eq h hi
  rw [e]
  exact prsE_cg (h0 _ (by omega)) f
theorem nam_eq {i : Int} (h : Rel tn tf xn xf en ty tx w B) (h0 : ∀ j : Nat, j < 8 → 0 ≤ xn j) (hi : 0 ≤ i ∧ i ≤ 7) : namE (B 53 i.toNat) (fun j => hb tx (200 * i + j)) = namE (xn i.toNat) (fun j => xf i.toNat j.toNat) := by
  obtain ⟨e, f⟩ := tx_eq h hi
  rw [e]
  exact namE_cg (h0 _ (by omega)) f
theorem run_eq {i t : Int} (h : Rel tn tf xn xf en ty tx w B) (hT : RT tc V Bf Lf w B) (hi : 0 ≤ t ∧ t < tc ∧ 0 ≤ i ∧ i ≤ 7) : run0 (B 53 i.toNat) (fun j => hb tx (200 * i + j)) (B 56 t.toNat) (refB B t.toNat) = run0 (xn i.toNat) (fun j => xf i.toNat j.toNat) (V 0 t.toNat) (Bf t.toNat) := by
  obtain ⟨e, f⟩ := tx_eq h ⟨hi.2.2.1, hi.2.2.2⟩
  obtain ⟨⟨e0, -⟩, e5, -⟩ := hT.2 t.toNat (by omega)
  have e0' : B 56 t.toNat = V 0 t.toNat := e0
  unfold run0
  rw [e, e0', mrun_tf f]
  exact mrun_f e5
end TXT
section RKP
variable {tn tn1 : Int} {tf tf1 : Nat → Int} {xn xn1 : Nat → Int} {xf xf1 : Nat → Nat → Int} {en en1 : Int} {ty ty1 tx tx1 : Nat → Int32} {w w1 : Nat → Int} {B B1 : Nat → Nat → Int} {tc : Nat} {V Bf Lf : Nat → Nat → Int} {q lm lo : Nat → Int}
theorem Rel.aR (a : AgR w B w1 B1) (h : Rel tn tf xn xf en ty tx w B) : Rel tn tf xn xf en ty tx w1 B1 := by
  obtain ⟨h1, h2, h3, h4, h5⟩ := h
  exact ⟨a.1.trans h1, a.2.1.trans h2, fun i hi => by rw [a.2.2.2]; exact h3 i hi, h4, h5⟩
theorem rt_type {n r1 : Int} {P : Prop} (h : RT tc V Bf Lf w B) (d1 : 1 ≤ n ∧ n ≤ 8 ∧ w 2 + n ≤ 200 → r1 = w 2 + n ∧ w1 = va_up w 2 (w 2 + n) ∧ P) (d2 : 1 ≤ n ∧ n ≤ 8 ∧ 200 < w 2 + n → r1 = -3 ∧ w1 = w ∧ ty1 = ty) (d3 : ¬ (1 ≤ n ∧ n ≤ 8) → r1 = -1 ∧ w1 = w ∧ ty1 = ty) : RT tc V Bf Lf w1 B := by
  by_cases z : 1 ≤ n ∧ n ≤ 8
  · by_cases y : w 2 + n ≤ 200
    · rw [(d1 ⟨z.1, z.2, y⟩).2.1]
      exact h
    · rw [(d2 ⟨z.1, z.2, by omega⟩).2.1]
      exact h
  · rw [(d3 z).2.1]
    exact h
theorem rt_text {i r1 : Int} {P : Prop} (h : RT tc V Bf Lf w B) (d : TD q lm lo B) (d1 : 0 ≤ i ∧ i ≤ 7 → r1 = w 2 ∧ w1 = va_up w 2 0 ∧ B1 = va_up B 53 (va_up (B 53) i.toNat (w 2)) ∧ P) (d2 : ¬ (0 ≤ i ∧ i ≤ 7) → r1 = -1 ∧ w1 = w ∧ B1 = B ∧ tx1 = tx) : RT tc V Bf Lf w1 B1 ∧ TD q lm lo B1 := by
  by_cases z : 0 ≤ i ∧ i ≤ 7
  · obtain ⟨-, e1, e2, -⟩ := d1 z
    rw [e1, e2]
    exact ⟨h, d⟩
  · obtain ⟨-, e1, e2, -⟩ := d2 z
    rw [e1, e2]
    exact ⟨h, d⟩
theorem rt_edition {i j r1 : Int} (h : RT tc V Bf Lf w B) (d : TD q lm lo B) (h12 : w 35 ≤ 12) (d1 : 0 ≤ i ∧ i ≤ 65535 ∧ 0 ≤ j ∧ j ≤ 65535 ∧ w 35 < 12 → r1 = w 35 ∧ w1 = va_up w 35 (w 35 + 1) ∧ B1 = va_up (va_up B 68 (va_up (B 68) (w 35).toNat i)) 69 (va_up (B 69) (w 35).toNat j)) (d2 : 0 ≤ i ∧ i ≤ 65535 ∧ 0 ≤ j ∧ j ≤ 65535 ∧ w 35 = 12 → r1 = -3 ∧ w1 = w ∧ B1 = B) (d3 : ¬ (0 ≤ i ∧ i ≤ 65535 ∧ 0 ≤ j ∧ j ≤ 65535) → r1 = -1 ∧ w1 = w ∧ B1 = B) : RT tc V Bf Lf w1 B1 ∧ TD q lm lo B1 := by
  by_cases z : 0 ≤ i ∧ i ≤ 65535 ∧ 0 ≤ j ∧ j ≤ 65535
  · by_cases y : w 35 < 12
    · obtain ⟨-, e1, e2⟩ := d1 ⟨z.1, z.2.1, z.2.2.1, z.2.2.2, y⟩
      rw [e1, e2]
      exact ⟨h, d⟩
    · obtain ⟨-, e1, e2⟩ := d2 ⟨z.1, z.2.1, z.2.2.1, z.2.2.2, by omega⟩
      rw [e1, e2]
      exact ⟨h, d⟩
  · obtain ⟨-, e1, e2⟩ := d3 z
    rw [e1, e2]
    exact ⟨h, d⟩
theorem IX2.tx0 {h : MH} {tr : Int64} (H : IX2 h tn tf xn xf en tc tr V Bf Lf q lm lo) : ∀ j : Nat, j < 8 → 0 ≤ xn j := fun j hj => (H.1.2.2.2.2.1 j hj).2.2.1
theorem IX2.t12 {h : MH} {tr : Int64} (H : IX2 h tn tf xn xf en tc tr V Bf Lf q lm lo) : tc ≤ 12 := H.1.2.2.2.1
theorem IX2.v3 {h : MH} {tr : Int64} (H : IX2 h tn tf xn xf en tc tr V Bf Lf q lm lo) : ∀ j : Nat, j < tc → V 3 j = -9 ∨ (0 ≤ V 3 j ∧ V 3 j < j) := fun j hj => (H.1.2.2.2.2.2 j hj).2.2.2.1
theorem IX2.v0 {h : MH} {tr : Int64} (H : IX2 h tn tf xn xf en tc tr V Bf Lf q lm lo) : ∀ j : Nat, j < tc → 0 ≤ V 0 j := fun j hj => (H.1.2.2.2.2.2 j hj).1.1
theorem R9B.o56 {h : MH} {tr : Int64} (H : R9B h tr ty tx w B) : oki 0 256 (B 56) := H.2.2.2.1.2.2.2.1
theorem R9B.w35 {h : MH} {tr : Int64} (H : R9B h tr ty tx w B) : w 35 ≤ 12 := H.2.2.1.2.2.2.2.2.2.2.2.2.2.2.2.2.2.2.2.2.2
end RKP

/-! group B: the class between calls, frames; what two hold alike -/
/-- the same tools -/
def TR (tc : Nat) (V Bf Lf V1 Bf1 Lf1 : Nat → Nat → Int) : Prop := ∀ j, j < tc → (V1 0 j = V 0 j ∧ V1 1 j = V 1 j ∧ V1 2 j = V 2 j ∧ V1 3 j = V 3 j ∧ V1 4 j = V 4 j) ∧ agr (V 0 j) (Bf1 j) (Bf j) ∧ agr (V 0 j) (Lf1 j) (Lf j)
theorem TR.refl (tc : Nat) (V Bf Lf : Nat → Nat → Int) : TR tc V Bf Lf V Bf Lf := fun _ _ => ⟨⟨rfl, rfl, rfl, rfl, rfl⟩, fun _ _ => rfl, fun _ _ => rfl⟩
theorem TR.tr {tc : Nat} {V Bf Lf V1 Bf1 Lf1 V2 Bf2 Lf2 : Nat → Nat → Int} (a : TR tc V Bf Lf V1 Bf1 Lf1) (b : TR tc V1 Bf1 Lf1 V2 Bf2 Lf2) : TR tc V Bf Lf V2 Bf2 Lf2 := by
  intro j hj
  obtain ⟨⟨a0, a1, a2, a3, a4⟩, a5, a6⟩ := a j hj
  obtain ⟨⟨b0, b1, b2, b3, b4⟩, b5, b6⟩ := b j hj
  rw [a0] at b5 b6
  exact ⟨⟨b0.trans a0, b1.trans a1, b2.trans a2, b3.trans a3, b4.trans a4⟩, fun q hq => (b5 q hq).trans (a5 q hq), fun q hq => (b6 q hq).trans (a6 q hq)⟩
theorem TR.sy {tc : Nat} {V Bf Lf V1 Bf1 Lf1 : Nat → Nat → Int} (a : TR tc V Bf Lf V1 Bf1 Lf1) : TR tc V1 Bf1 Lf1 V Bf Lf := by
  intro j hj
  obtain ⟨⟨a0, a1, a2, a3, a4⟩, a5, a6⟩ := a j hj
  rw [← a0] at a5 a6
  exact ⟨⟨a0.symm, a1.symm, a2.symm, a3.symm, a4.symm⟩, fun q hq => (a5 q hq).symm, fun q hq => (a6 q hq).symm⟩
/-- a tool is kept, if there is room -/
def kpP (tc : Nat) (V Bf Lf : Nat → Nat → Int) (n : Int) (f g : Nat → Int) (hw tx bd r : Int) (tc1 : Nat) (V1 Bf1 Lf1 : Nat → Nat → Int) : Prop := (tc < 12 → r = tc ∧ tc1 = tc + 1 ∧ (V1 0 tc = n ∧ V1 1 tc = hw ∧ V1 2 tc = tx ∧ V1 3 tc = bd ∧ V1 4 tc = 0) ∧ agr n (Bf1 tc) f ∧ agr n (Lf1 tc) g) ∧ (¬ tc < 12 → r = -3 ∧ tc1 = tc) ∧ TR tc V Bf Lf V1 Bf1 Lf1
theorem kpP.cg {tc : Nat} {V Bf Lf : Nat → Nat → Int} {n n' : Int} {f g f' g' : Nat → Int} {hw tx bd r : Int} {tc1 : Nat} {V1 Bf1 Lf1 : Nat → Nat → Int} (e : n' = n) (a : agr n f f') (b : agr n g g') (h : kpP tc V Bf Lf n f g hw tx bd r tc1 V1 Bf1 Lf1) : kpP tc V Bf Lf n' f' g' hw tx bd r tc1 V1 Bf1 Lf1 := by
  subst e
  obtain ⟨h1, h2, h3⟩ := h
  refine ⟨fun z => ?_, h2, h3⟩
  obtain ⟨k1, k2, k3, k4, k5⟩ := h1 z
  exact ⟨k1, k2, k3, fun q hq => (k4 q hq).trans (a q hq), fun q hq => (k5 q hq).trans (b q hq)⟩
/-- a text is made to a tool: R what its reading gives -/
def mkP (R : PR) (tc : Nat) (V Bf Lf : Nat → Nat → Int) (hw i r : Int) (tc1 : Nat) (V1 Bf1 Lf1 : Nat → Nat → Int) : Prop := (R.1 = -9 → kpP tc V Bf Lf R.2.1 R.2.2.1 R.2.2.2 hw i (-9) r tc1 V1 Bf1 Lf1) ∧ (R.1 ≠ -9 → r = -10 - R.1 ∧ tc1 = tc ∧ TR tc V Bf Lf V1 Bf1 Lf1)
/-- pairs, named -/
def mtP (R : PR) (tc : Nat) (V Bf Lf : Nat → Nat → Int) (hw i r : Int) (tc1 : Nat) (V1 Bf1 Lf1 : Nat → Nat → Int) : Prop := (0 ≤ i ∧ i ≤ 7 → mkP R tc V Bf Lf hw i r tc1 V1 Bf1 Lf1) ∧ (¬ (0 ≤ i ∧ i ≤ 7) → r = -1 ∧ tc1 = tc ∧ TR tc V Bf Lf V1 Bf1 Lf1)
/-- build -/
def bdP (R : Int × MS) (tc : Nat) (V Bf Lf : Nat → Nat → Int) (t i r : Int) (tc1 : Nat) (V1 Bf1 Lf1 : Nat → Nat → Int) : Prop := (0 ≤ t ∧ t < tc ∧ 0 ≤ i ∧ i ≤ 7 → (bldOk R → kpP tc V Bf Lf (msC R.2) (msO R.2) (msL R.2) 2 i t r tc1 V1 Bf1 Lf1) ∧ (¬ bldOk R → r = -2 ∧ tc1 = tc ∧ TR tc V Bf Lf V1 Bf1 Lf1)) ∧ (¬ (0 ≤ t ∧ t < tc ∧ 0 ≤ i ∧ i ≤ 7) → r = -1 ∧ tc1 = tc ∧ TR tc V Bf Lf V1 Bf1 Lf1)
/-- tool -/
def tlP (tc : Int) (V : Nat → Nat → Int) (i w r : Int) : Prop := (0 ≤ i ∧ i < tc ∧ w = 0 → r = V 0 i.toNat) ∧ (0 ≤ i ∧ i < tc ∧ w = 1 → r = V 1 i.toNat) ∧ (0 ≤ i ∧ i < tc ∧ w = 2 → r = V 2 i.toNat) ∧ (0 ≤ i ∧ i < tc ∧ w = 3 → r = V 3 i.toNat) ∧ (0 ≤ i ∧ i < tc ∧ w = 4 → r = V 4 i.toNat) ∧ (¬ (0 ≤ i ∧ i < tc ∧ 0 ≤ w ∧ w ≤ 4) → r = -1)
/-- code -/
def cdP (tc : Int) (V Bf Lf : Nat → Nat → Int) (i a w r : Int) : Prop := (0 ≤ i ∧ i < tc ∧ w = 0 ∧ 0 ≤ a ∧ a < V 0 i.toNat → r = Bf i.toNat a.toNat) ∧ (0 ≤ i ∧ i < tc ∧ w = 1 ∧ 0 ≤ a ∧ a < V 0 i.toNat → r = Lf i.toNat a.toNat) ∧ (¬ (0 ≤ i ∧ i < tc ∧ 0 ≤ w ∧ w ≤ 1 ∧ 0 ≤ a ∧ a < V 0 i.toNat) → r = -1)
/-- same -/
def smP (tc : Int) (V Bf : Nat → Nat → Int) (a b r : Int) : Prop := (0 ≤ a ∧ a < tc ∧ 0 ≤ b ∧ b < tc → r = ulk (V 0 a.toNat) (Bf a.toNat) (V 0 b.toNat) (Bf b.toNat)) ∧ (¬ (0 ≤ a ∧ a < tc ∧ 0 ≤ b ∧ b < tc) → r = -1)
/-- ran -/
def rnP (q : Nat → Int) (w r : Int) : Prop := (w = 0 → r = q 0) ∧ (w = 1 → r = q 1) ∧ (w = 2 → r = q 2) ∧ (w = 3 → r = q 3) ∧ (w = 4 → r = q 4) ∧ (w = 5 → r = q 5) ∧ (¬ (0 ≤ w ∧ w ≤ 5) → r = -1)
/-- tape -/
def tpP (q lm lo : Nat → Int) (a w r : Int) : Prop := (w = 0 ∧ 0 ≤ a ∧ a < q 5 → r = lo a.toNat) ∧ (w = 1 ∧ 0 ≤ a ∧ a ≤ 255 → r = lm a.toNat) ∧ (¬ (w = 0 ∧ 0 ≤ a ∧ a < q 5) ∧ ¬ (w = 1 ∧ 0 ≤ a ∧ a ≤ 255) → r = -1)
/-- run: what is told of afterwards -/
def ruP (R : Int × MS) (tc : Int) (q lm lo : Nat → Int) (t i : Int) (q1 lm1 lo1 : Nat → Int) : Prop := (0 ≤ t ∧ t < tc ∧ 0 ≤ i ∧ i ≤ 7 → q1 0 = R.2.2.2.2.2.1 ∧ q1 1 = R.2.2.2.2.2.2.1 ∧ q1 2 = R.2.1 ∧ q1 3 = R.2.2.1 ∧ q1 4 = R.2.2.2.1 ∧ q1 5 = R.2.2.2.2.2.2.2.1 ∧ agr 256 lm1 R.2.2.2.2.2.2.2.2.1 ∧ agr (q1 5) lo1 R.2.2.2.2.2.2.2.2.2.1) ∧ (¬ (0 ≤ t ∧ t < tc ∧ 0 ≤ i ∧ i ≤ 7) → (q1 0 = q 0 ∧ q1 1 = q 1 ∧ q1 2 = q 2 ∧ q1 3 = q 3 ∧ q1 4 = q 4 ∧ q1 5 = q 5) ∧ agr 256 lm1 lm ∧ agr (q 5) lo1 lo)
/-- check -/
def ckP (tc : Nat) (V Bf Lf : Nat → Nat → Int) (t x r : Int) (V1 Bf1 Lf1 : Nat → Nat → Int) : Prop := (0 ≤ t ∧ t < tc ∧ 0 ≤ x ∧ x ≤ 1 → (V 1 t.toNat = 0 → r = V 4 t.toNat ∧ V1 4 t.toNat = x ∧ ∀ j, j < tc → (V1 0 j = V 0 j ∧ V1 1 j = V 1 j ∧ V1 2 j = V 2 j ∧ V1 3 j = V 3 j ∧ (j ≠ t.toNat → V1 4 j = V 4 j)) ∧ agr (V 0 j) (Bf1 j) (Bf j) ∧ agr (V 0 j) (Lf1 j) (Lf j)) ∧ (V 1 t.toNat ≠ 0 → r = -2 ∧ TR tc V Bf Lf V1 Bf1 Lf1)) ∧ (¬ (0 ≤ t ∧ t < tc ∧ 0 ≤ x ∧ x ≤ 1) → r = -1 ∧ TR tc V Bf Lf V1 Bf1 Lf1)
section IX2
variable {h h1 : MH}
theorem CE.kq {en : Int} (s : ∀ q, 30 ≤ q → q ≤ 33 → ∀ y : va_E, h[q]? = some y → h1[q]? = some y) (H : CE h en) : CE h1 en := by
  obtain ⟨eu, ek, el, a1, a2, a3, a4, a5, b0, b1, b2, b3⟩ := H
  exact ⟨eu, ek, el, a1, a2, a3, a4, a5, s _ (by omega) (by omega) _ b0, s _ (by omega) (by omega) _ b1, s _ (by omega) (by omega) _ b2, s _ (by omega) (by omega) _ b3⟩
theorem CORE2.kq {tc : Nat} {tr : Int64} {xn : Nat → Int} {xf V Bf Lf : Nat → Nat → Int} (s : ∀ q, (q = 0 ∨ q = 3 ∨ q = 4 ∨ (34 ≤ q ∧ q ≤ 49) ∨ 71 ≤ q) → ∀ y : va_E, h[q]? = some y → h1[q]? = some y) (H : CORE2 h tc tr xn xf V Bf Lf) : CORE2 h1 tc tr xn xf V Bf Lf := by
  obtain ⟨f0, f3, f4, h5, hT, hL⟩ := H
  exact ⟨s _ (by omega) _ f0, s _ (by omega) _ f3, s _ (by omega) _ f4, h5, fun j hj => (hT j hj).kq (fun q a b => s q (by omega)), fun j hj => (hL j hj).kp (fun q a b => s q (by omega))⟩
/-- between calls -/
def IX2 (h : MH) (tn : Int) (tf : Nat → Int) (xn : Nat → Int) (xf : Nat → Nat → Int) (en : Int) (tc : Nat) (tr : Int64) (V Bf Lf : Nat → Nat → Int) (q lm lo : Nat → Int) : Prop := CORE2 h tc tr xn xf V Bf Lf ∧ SC2 h ∧ LM h q lm lo ∧ CT h 1 tn tf ∧ CE h en ∧ h.length = 71 + 4 * tc ∧ msz h ≤ 20000 + 600 * tc
variable {tn tn1 : Int} {tf tf1 : Nat → Int} {xn : Nat → Int} {xf : Nat → Nat → Int} {en en1 : Int} {tc tc1 : Nat} {tr tr1 : Int64} {V Bf Lf V1 Bf1 Lf1 : Nat → Nat → Int} {q lm lo q1 lm1 lo1 : Nat → Int}
theorem IX2.scr (H : IX2 h tn tf xn xf en tc tr V Bf Lf q lm lo) (s : Scr2 h h1) (S1 : SC2 h1) : IX2 h1 tn tf xn xf en tc tr V Bf Lf q lm lo ∧ Mo h h1 := by
  obtain ⟨a, b, c, d, e, f, g⟩ := H
  exact ⟨⟨a.scr s, S1, c.kp (fun q a b y => s.get (by omega)), d.kq (fun q a b y => s.get (by omega)), e.kq (fun q a b y => s.get (by omega)), s.1.trans f, by rw [s.2.1]; exact g⟩, fun q p r => s.2.2 q (by omega)⟩
theorem IX2.kp (H : IX2 h tn tf xn xf en tc tr V Bf Lf q lm lo) (C1 : CORE2 h1 tc1 tr xn xf V1 Bf1 Lf1) (s : KP tc tc1 h h1) : IX2 h1 tn tf xn xf en tc1 tr V1 Bf1 Lf1 q lm lo ∧ Mo h h1 := by
  obtain ⟨a, b, c, d, e, f, g⟩ := H
  have s1 := s.1
  have s2 := s.2.1
  have s3 := s.2.2.1
  refine ⟨⟨C1, b.kp (fun q hq y => s.get (by omega)), c.kp (fun q a b y => s.get (by omega)), d.kq (fun q a b y => s.get (by omega)), e.kq (fun q a b y => s.get (by omega)), by omega, by omega⟩, fun q p r => ?_⟩
  have hq : q < h.length := by omega
  have e1 : h[q]? = some h[q] := List.getElem?_eq_getElem hq
  rw [e1]
  exact s.get (by omega) e1
theorem smk {A : List Nat} (s : Sm A h h1) {q : Nat} (hq : q ∉ A) : ∀ y : va_E, h[q]? = some y → h1[q]? = some y := fun _ ha => s.get hq ha
theorem IX2.sm {A : List Nat} (H : IX2 h tn tf xn xf en tc tr V Bf Lf q lm lo) (s : Sm A h h1) (C1 : CORE2 h1 tc tr1 xn xf V1 Bf1 Lf1) (z : ∀ q, q ∈ A → q = 0 ∨ 71 ≤ q) : IX2 h1 tn tf xn xf en tc tr1 V1 Bf1 Lf1 q lm lo ∧ Mo h h1 := by
  obtain ⟨a, b, c, d, e, f, g⟩ := H
  exact ⟨⟨C1, b.kp (fun q hq => smk s (fun y => by have := z q y; omega)), c.kp (fun q _ _ => smk s (fun y => by have := z q y; omega)), d.kq (fun q _ _ => smk s (fun y => by have := z q y; omega)), e.kq (fun q _ _ => smk s (fun y => by have := z q y; omega)), s.1.trans f, by rw [s.2.1]; exact g⟩, Mo.sm s (fun q hq => by have := z q hq; omega)⟩
theorem IX2.c0 (H : IX2 h tn tf xn xf en tc tr V Bf Lf q lm lo) (s : Sm [0] h h1) (f : h1[0]? = some (.inr (7, [.ref 1, .ref 3, .ref 4, .int (iZ (tc : Int)), .ref 5, .ref 9, .ref 15, .ref 20, .ref 25, .ref 30, .long tr1]))) : IX2 h1 tn tf xn xf en tc tr1 V Bf Lf q lm lo ∧ Mo h h1 := by
  have z : ∀ q, q ∈ [0] → q = 0 := by simp
  refine H.sm s ?_ (fun q hq => Or.inl (z q hq))
  obtain ⟨f0, f3, f4, h5, hT, hL⟩ := H.1
  exact ⟨f, s.get (by simp) f3, s.get (by simp) f4, h5, fun j hj => (hT j hj).kq (fun q _ _ => smk s (fun y => by have := z q y; omega)), fun j hj => (hL j hj).kp (fun q _ _ => smk s (fun y => by have := z q y; omega))⟩
theorem IX2.run (H : IX2 h tn tf xn xf en tc tr V Bf Lf q lm lo) (s : Sm [15, 16, 17, 18, 19] h h1) (L1 : LM h1 q1 lm1 lo1) : IX2 h1 tn tf xn xf en tc tr V Bf Lf q1 lm1 lo1 ∧ Mo h h1 := by
  obtain ⟨a, b, c, d, e, f, g⟩ := H
  have z : ∀ q, q ∈ [15, 16, 17, 18, 19] → 15 ≤ q ∧ q ≤ 19 := by decide
  exact ⟨⟨a.kq (fun q hq => smk s (fun y => by have := z q y; omega)), b.kp (fun q hq => smk s (fun y => by have := z q y; omega)), L1, d.kq (fun q _ _ => smk s (fun y => by have := z q y; omega)), e.kq (fun q _ _ => smk s (fun y => by have := z q y; omega)), s.1.trans f, by rw [s.2.1]; exact g⟩, Mo.sm s (fun q hq => by have := z q hq; omega)⟩
theorem IX2.ed {A : List Nat} (H : IX2 h tn tf xn xf en tc tr V Bf Lf q lm lo) (s : Sm A h h1) (z : ∀ q, q ∈ A → 30 ≤ q ∧ q ≤ 33) (E : CE h1 en1) : IX2 h1 tn tf xn xf en1 tc tr V Bf Lf q lm lo ∧ Mo h h1 := by
  obtain ⟨a, b, c, d, e, f, g⟩ := H
  exact ⟨⟨a.kq (fun q hq => smk s (fun y => by have := z q y; omega)), b.kp (fun q hq => smk s (fun y => by have := z q y; omega)), c.kp (fun q _ _ => smk s (fun y => by have := z q y; omega)), d.kq (fun q _ _ => smk s (fun y => by have := z q y; omega)), E, s.1.trans f, by rw [s.2.1]; exact g⟩, Mo.sm s (fun q hq => by have := z q hq; omega)⟩
theorem IX2.ty {A : List Nat} (H : IX2 h tn tf xn xf en tc tr V Bf Lf q lm lo) (s : Sm A h h1) (z : ∀ q, q ∈ A → q = 1 ∨ q = 2) (T : CT h1 1 tn1 tf1) : IX2 h1 tn1 tf1 xn xf en tc tr V Bf Lf q lm lo ∧ Mo h h1 := by
  obtain ⟨a, b, c, d, e, f, g⟩ := H
  exact ⟨⟨a.kq (fun q hq => smk s (fun y => by have := z q y; omega)), b.kp (fun q hq => smk s (fun y => by have := z q y; omega)), c.kp (fun q _ _ => smk s (fun y => by have := z q y; omega)), T, e.kq (fun q _ _ => smk s (fun y => by have := z q y; omega)), s.1.trans f, by rw [s.2.1]; exact g⟩, Mo.sm s (fun q hq => by have := z q hq; omega)⟩
theorem IX2.r9 {A : List Nat} (H : IX2 h tn tf xn xf en tc tr V Bf Lf q lm lo) (s : Sm A h h1) (z : ∀ q, q ∈ A → 50 ≤ q ∧ q ≤ 70) : IX2 h1 tn tf xn xf en tc tr V Bf Lf q lm lo := by
  obtain ⟨a, b, c, d, e, f, g⟩ := H
  exact ⟨a.kq (fun q hq => smk s (fun y => by have := z q y; omega)), b.kp (fun q hq => smk s (fun y => by have := z q y; omega)), c.kp (fun q _ _ => smk s (fun y => by have := z q y; omega)), d.kq (fun q _ _ => smk s (fun y => by have := z q y; omega)), e.kq (fun q _ _ => smk s (fun y => by have := z q y; omega)), s.1.trans f, by rw [s.2.1]; exact g⟩
theorem IX2.text {A : List Nat} {i : Nat} {n : Int} {f : Nat → Int} (H : IX2 h tn tf xn xf en tc tr V Bf Lf q lm lo) (hi : i < 8) (s : Sm A h h1) (z : ∀ q, q ∈ A → q = 1 ∨ q = 2 ∨ q = 34 + 2 * i ∨ q = 35 + 2 * i) (T : CT h1 1 tn1 tf1) (T2 : CT h1 (34 + 2 * i) n f) : IX2 h1 tn1 tf1 (va_up xn i n) (va_up xf i f) en tc tr V Bf Lf q lm lo ∧ Mo h h1 := by
  obtain ⟨a, b, c, d, e, f, g⟩ := H
  refine ⟨⟨?_, b.kp (fun q hq => smk s (fun y => by have := z q y; omega)), c.kp (fun q _ _ => smk s (fun y => by have := z q y; omega)), T, e.kq (fun q _ _ => smk s (fun y => by have := z q y; omega)), s.1.trans f, by rw [s.2.1]; exact g⟩, Mo.sm s (fun q hq => by have := z q hq; omega)⟩
  obtain ⟨f0, f3, f4, h5, hT, hL⟩ := a
  have k : ∀ q, (q = 0 ∨ q = 3 ∨ q = 4) → q ∉ A := fun q hq zz => by have := z q zz; omega
  refine ⟨s.get (k _ (by omega)) f0, s.get (k _ (by omega)) f3, s.get (k _ (by omega)) f4, h5, fun j hj => ?_, fun j hj => (hL j hj).kp (fun q _ _ => smk s (fun y => by have := z q y; omega))⟩
  unfold va_up
  by_cases hij : j = i
  · subst hij
    simp only [if_true]
    exact T2
  · rw [if_neg hij, if_neg hij]
    exact (hT j hj).kq (fun q _ _ => smk s (fun y => by have := z q y; omega))
/-- a tool's row in other words -/
theorem TL.cg {j : Nat} {f g : Nat → Int} (e0 : V1 0 j = V 0 j) (e1 : V1 1 j = V 1 j) (e2 : V1 2 j = V 2 j) (e3 : V1 3 j = V 3 j) (e4 : V1 4 j = V 4 j) (H : TL h j V f g) : TL h j V1 f g := by
  unfold TL at H ⊢
  rw [e0, e1, e2, e3, e4]
  exact H
theorem IX2.chk {j : Nat} {x : Int} (H : IX2 h tn tf xn xf en tc tr V Bf Lf q lm lo) (hj : j < tc) (hx : x = 0 ∨ x = 1) (s : Sm [71 + 4 * j] h h1) (f : h1[71 + 4 * j]? = some (.inr (6, [.ref (71 + 4 * j + 1), .int (iZ (V 1 j)), .int (iZ (V 2 j)), .int (iZ (V 3 j)), .int (iZ x)]))) : IX2 h1 tn tf xn xf en tc tr (va_up V 4 (va_up (V 4) j x)) Bf Lf q lm lo ∧ Mo h h1 := by
  have z : ∀ q, q ∈ [71 + 4 * j] → q = 71 + 4 * j := by simp
  have k : ∀ q, q ≠ 71 + 4 * j → q ∉ [71 + 4 * j] := fun q hq y => hq (z q y)
  refine H.sm s ?_ (fun q hq => by have := z q hq; omega)
  obtain ⟨f0, f3, f4, h5, hT, hL⟩ := H.1
  refine ⟨s.get (k _ (by omega)) f0, s.get (k _ (by omega)) f3, s.get (k _ (by omega)) f4, h5, fun i hi => (hT i hi).kq (fun q _ _ => smk s (k _ (by omega))), fun i hi => ?_⟩
  by_cases hij : i = j
  · subst hij
    obtain ⟨a1, a2, a3, a4, a5, a6, a7, a8, a9, b0, b1, b2, b3⟩ := hL i hi
    have e4 : va_up V 4 (va_up (V 4) i x) 4 i = x := by
      show va_up (V 4) i x i = x
      exact up_eq
    refine ⟨a1, a2, a3, a4, a5, a6, by rw [e4]; exact hx, a8, a9, ?_, s.get (k _ (by omega)) b1, s.get (k _ (by omega)) b2, s.get (k _ (by omega)) b3⟩
    rw [e4]
    exact f
  · refine TL.cg (V := V) rfl rfl rfl rfl ?_ ((hL i hi).kp (fun q _ _ => smk s (k _ (by omega))))
    show va_up (V 4) j x i = V 4 i
    exact up_ne hij
theorem IX2.bd (H : IX2 h tn tf xn xf en tc tr V Bf Lf q lm lo) : h.length ≤ 600000 ∧ msz h ≤ 7302250 := by
  obtain ⟨a, b, c, d, e, f, g⟩ := H
  have := a.2.2.2.1
  omega
end IX2

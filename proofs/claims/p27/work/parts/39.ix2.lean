def CE (h : MH) (en : Int) : Prop := ∃ eu ek el : Nat → Int, okr eu ∧ okr ek ∧ okr el ∧ 0 ≤ en ∧ en ≤ 12 ∧ h[30]? = some (.inr (1, [.ref 31, .ref 32, .ref 33, .int (iZ en)])) ∧ h[31]? = some (.inl (0, 12, .inl (zA eu))) ∧ h[32]? = some (.inl (0, 12, .inl (zA ek))) ∧ h[33]? = some (.inl (0, 12, .inl (zA el)))
/-- the class between calls -/
def IX (h : MH) (tn : Int) (tf : Nat → Int) (xn : Nat → Int) (xf : Nat → Nat → Int) (en : Int) (tc : Nat) : Prop := CORE h tc xn xf ∧ SC h ∧ CT h 1 tn tf ∧ CE h en ∧ h.length = 71 + 4 * tc ∧ msz h ≤ 20000 + 600 * tc
/-- the reference's cells are as they were -/
def Mo (h h1 : MH) : Prop := ∀ q : Nat, 50 ≤ q → q ≤ 70 → h1[q]? = h[q]?
section IXL
variable {h h1 : MH} {tn tn1 : Int} {tf tf1 : Nat → Int} {xn : Nat → Int} {xf : Nat → Nat → Int} {en en1 : Int} {tc tc1 : Nat}
theorem CT.sc {t : Nat} (s : Scr h h1) (ht : t + 1 < 5 ∨ 29 < t) (H : CT h t tn tf) : CT h1 t tn tf := by
  obtain ⟨a, b, c⟩ := H
  exact ⟨s.get (by omega) a, s.get (by omega) b, c⟩
theorem CT.sm {t : Nat} {A : List Nat} (s : Sm A h h1) (ht : ∀ q, q ∈ A → q ≠ t ∧ q ≠ t + 1) (H : CT h t tn tf) : CT h1 t tn tf := by
  obtain ⟨a, b, c⟩ := H
  exact ⟨s.get (fun z => (ht _ z).1 rfl) a, s.get (fun z => (ht _ z).2 rfl) b, c⟩
theorem CE.sc (s : Scr h h1) (H : CE h en) : CE h1 en := by
  obtain ⟨eu, ek, el, a1, a2, a3, a4, a5, b0, b1, b2, b3⟩ := H
  exact ⟨eu, ek, el, a1, a2, a3, a4, a5, s.get (by omega) b0, s.get (by omega) b1, s.get (by omega) b2, s.get (by omega) b3⟩
theorem CE.sm {A : List Nat} (s : Sm A h h1) (ht : ∀ q, q ∈ A → q < 30 ∨ 33 < q) (H : CE h en) : CE h1 en := by
  obtain ⟨eu, ek, el, a1, a2, a3, a4, a5, b0, b1, b2, b3⟩ := H
  have k : ∀ q, 30 ≤ q ∧ q ≤ 33 → q ∉ A := fun q hq z => by have := ht q z; omega
  exact ⟨eu, ek, el, a1, a2, a3, a4, a5, s.get (k _ (by omega)) b0, s.get (k _ (by omega)) b1, s.get (k _ (by omega)) b2, s.get (k _ (by omega)) b3⟩
theorem CE.kp (s : KP tc tc1 h h1) (H : CE h en) : CE h1 en := by
  obtain ⟨eu, ek, el, a1, a2, a3, a4, a5, b0, b1, b2, b3⟩ := H
  exact ⟨eu, ek, el, a1, a2, a3, a4, a5, s.get (by omega) b0, s.get (by omega) b1, s.get (by omega) b2, s.get (by omega) b3⟩
theorem SC.sm {A : List Nat} (s : Sm A h h1) (ht : ∀ q, q ∈ A → q < 5 ∨ 29 < q) (H : SC h) : SC h1 := by
  obtain ⟨H1, H2, H3, H4, H5⟩ := H
  exact ⟨H1.kp s (fun q hq => by have := ht q hq; omega), H2.kp s (fun q hq => by have := ht q hq; omega), H3.kp s (fun q hq => by have := ht q hq; omega), H4.kp s (fun q hq => by have := ht q hq; omega), H5.kp s (fun q hq => by have := ht q hq; omega)⟩
theorem TLw.sm {A : List Nat} {a : Nat} (s : Sm A h h1) (ht : ∀ q, q ∈ A → q < a ∨ a + 3 < q) (H : TLw h a) : TLw h1 a := by
  obtain ⟨M, n, hw, tx, bd, ck, f, g, a1, a2, a3, a4, a5, a6, a7, a8, b0, b1, b2, b3⟩ := H
  have k : ∀ q, a ≤ q ∧ q ≤ a + 3 → q ∉ A := fun q hq z => by have := ht q z; omega
  exact ⟨M, n, hw, tx, bd, ck, f, g, a1, a2, a3, a4, a5, a6, a7, a8, s.get (k _ (by omega)) b0, s.get (k _ (by omega)) b1, s.get (k _ (by omega)) b2, s.get (k _ (by omega)) b3⟩
theorem CORE.sm {A : List Nat} (s : Sm A h h1) (ht : ∀ q, q ∈ A → q = 1 ∨ q = 2 ∨ (5 ≤ q ∧ q ≤ 33)) (H : CORE h tc xn xf) : CORE h1 tc xn xf := by
  obtain ⟨⟨tr, f0⟩, f3, f4, h5, hT, hL⟩ := H
  have k : ∀ q, (q = 0 ∨ q = 3 ∨ q = 4 ∨ 33 < q) → q ∉ A := fun q hq z => by have := ht q z; omega
  exact ⟨⟨tr, s.get (k _ (by omega)) f0⟩, s.get (k _ (by omega)) f3, s.get (k _ (by omega)) f4, h5, fun j hj => (hT j hj).sm s (fun q z => by have := ht q z; omega), fun j hj => (hL j hj).sm s (fun q z => by have := ht q z; omega)⟩
theorem CORE.c0 {tr : Int64} (H : CORE h tc xn xf) (s : Sm [0] h h1) (f : h1[0]? = some (.inr (7, [.ref 1, .ref 3, .ref 4, .int (iZ (tc : Int)), .ref 5, .ref 9, .ref 15, .ref 20, .ref 25, .ref 30, .long tr]))) : CORE h1 tc xn xf := by
  obtain ⟨⟨tr, f0⟩, f3, f4, h5, hT, hL⟩ := H
  exact ⟨⟨_, f⟩, s.get (by simp) f3, s.get (by simp) f4, h5, fun j hj => (hT j hj).sm s (fun q z => by simp at z; omega), fun j hj => (hL j hj).sm s (fun q z => by simp at z; omega)⟩
theorem Mo.sm {A : List Nat} (s : Sm A h h1) (ht : ∀ q, q ∈ A → q < 50 ∨ 70 < q) : Mo h h1 := fun q h0 h2 => s.2.2 q (fun z => by have := ht q z; omega)
theorem Mo.tr {h2 : MH} (a : Mo h h1) (b : Mo h1 h2) : Mo h h2 := fun q p r => (b q p r).trans (a q p r)
theorem IX.scr (H : IX h tn tf xn xf en tc) (s : Scr h h1) (S1 : SC h1) : IX h1 tn tf xn xf en tc ∧ Mo h h1 := by
  obtain ⟨a, b, c, d, e, f⟩ := H
  exact ⟨⟨a.scr s, S1, c.sc s (by omega), d.sc s, s.1.trans e, by rw [s.2.1]; exact f⟩, fun q p r => s.2.2 q (by omega)⟩
theorem IX.kp (H : IX h tn tf xn xf en tc) (C1 : CORE h1 tc1 xn xf) (S1 : SC h1) (s : KP tc tc1 h h1) : IX h1 tn tf xn xf en tc1 ∧ Mo h h1 := by
  obtain ⟨a, b, c, d, e, f⟩ := H
  have s1 := s.1
  have s2 := s.2.1
  have s3 := s.2.2.1
  refine ⟨⟨C1, S1, c.kp s (by omega), d.kp s, by omega, by omega⟩, fun q p r => ?_⟩
  have hq : q < h.length := by omega
  have e1 : h[q]? = some h[q] := List.getElem?_eq_getElem hq
  rw [e1]
  exact s.get (by omega) e1
theorem IX.c0 {tr : Int64} (H : IX h tn tf xn xf en tc) (s : Sm [0] h h1) (f : h1[0]? = some (.inr (7, [.ref 1, .ref 3, .ref 4, .int (iZ (tc : Int)), .ref 5, .ref 9, .ref 15, .ref 20, .ref 25, .ref 30, .long tr]))) : IX h1 tn tf xn xf en tc ∧ Mo h h1 := by
  obtain ⟨a, b, c, d, e, g⟩ := H
  have z : ∀ q, q ∈ [0] → q = 0 := by simp
  exact ⟨⟨a.c0 s f, b.sm s (fun q hq => by have := z q hq; omega), c.sm s (fun q hq => by have := z q hq; omega), d.sm s (fun q hq => by have := z q hq; omega), s.1.trans e, by rw [s.2.1]; exact g⟩, Mo.sm s (fun q hq => by have := z q hq; omega)⟩
theorem IX.ed {A : List Nat} (H : IX h tn tf xn xf en tc) (s : Sm A h h1) (z : ∀ q, q ∈ A → 30 ≤ q ∧ q ≤ 33) (E : CE h1 en1) : IX h1 tn tf xn xf en1 tc ∧ Mo h h1 := by
  obtain ⟨a, b, c, d, e, g⟩ := H
  exact ⟨⟨a.sm s (fun q hq => by have := z q hq; omega), b.sm s (fun q hq => by have := z q hq; omega), c.sm s (fun q hq => by have := z q hq; omega), E, s.1.trans e, by rw [s.2.1]; exact g⟩, Mo.sm s (fun q hq => by have := z q hq; omega)⟩
theorem IX.ty {A : List Nat} (H : IX h tn tf xn xf en tc) (s : Sm A h h1) (z : ∀ q, q ∈ A → q = 1 ∨ q = 2) (T : CT h1 1 tn1 tf1) : IX h1 tn1 tf1 xn xf en tc ∧ Mo h h1 := by
  obtain ⟨a, b, c, d, e, g⟩ := H
  exact ⟨⟨a.sm s (fun q hq => by have := z q hq; omega), b.sm s (fun q hq => by have := z q hq; omega), T, d.sm s (fun q hq => by have := z q hq; omega), s.1.trans e, by rw [s.2.1]; exact g⟩, Mo.sm s (fun q hq => by have := z q hq; omega)⟩
theorem IX.tool {j : Nat} (H : IX h tn tf xn xf en tc) (hj : j < tc) (s : Sm [71 + 4 * j] h h1) (T : TLw h1 (71 + 4 * j)) : IX h1 tn tf xn xf en tc ∧ Mo h h1 := by
  obtain ⟨a, b, c, d, e, g⟩ := H
  have z : ∀ q, q ∈ [71 + 4 * j] → q = 71 + 4 * j := by simp
  refine ⟨⟨?_, b.sm s (fun q hq => by have := z q hq; omega), c.sm s (fun q hq => by have := z q hq; omega), d.sm s (fun q hq => by have := z q hq; omega), s.1.trans e, by rw [s.2.1]; exact g⟩, Mo.sm s (fun q hq => by have := z q hq; omega)⟩
  obtain ⟨⟨tr, f0⟩, f3, f4, h5, hT, hL⟩ := a
  refine ⟨⟨tr, s.get (by simp; omega) f0⟩, s.get (by simp; omega) f3, s.get (by simp; omega) f4, h5, fun i hi => (hT i hi).sm s (fun q hq => by have := z q hq; omega), fun i hi => ?_⟩
  by_cases hij : i = j
  · subst hij
    exact T
  · exact (hL i hi).sm s (fun q hq => by have := z q hq; omega)
theorem IX.text {A : List Nat} {i : Nat} {n : Int} {f : Nat → Int} (H : IX h tn tf xn xf en tc) (hi : i < 8) (s : Sm A h h1) (z : ∀ q, q ∈ A → q = 1 ∨ q = 2 ∨ q = 34 + 2 * i ∨ q = 35 + 2 * i) (T : CT h1 1 tn1 tf1) (T2 : CT h1 (34 + 2 * i) n f) : IX h1 tn1 tf1 (va_up xn i n) (va_up xf i f) en tc ∧ Mo h h1 := by
  obtain ⟨a, b, c, d, e, g⟩ := H
  refine ⟨⟨?_, b.sm s (fun q hq => by have := z q hq; omega), T, d.sm s (fun q hq => by have := z q hq; omega), s.1.trans e, by rw [s.2.1]; exact g⟩, Mo.sm s (fun q hq => by have := z q hq; omega)⟩
  obtain ⟨⟨tr, f0⟩, f3, f4, h5, hT, hL⟩ := a
  have k : ∀ q, (q = 0 ∨ q = 3 ∨ q = 4) → q ∉ A := fun q hq zz => by have := z q zz; omega
  refine ⟨⟨tr, s.get (k _ (by omega)) f0⟩, s.get (k _ (by omega)) f3, s.get (k _ (by omega)) f4, h5, fun j hj => ?_, fun j hj => (hL j hj).sm s (fun q hq => by have := z q hq; omega)⟩
  unfold va_up
  by_cases hij : j = i
  · subst hij
    simp only [if_true]
    exact T2
  · rw [if_neg hij, if_neg hij]
    exact (hT j hj).sm s (fun q hq => by have := z q hq; omega)
end IXL

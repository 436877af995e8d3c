/-! group B: the class between calls; tools, texts, the latest run, editions and trace are known, makers and the other two machines not -/
def MCx (h : MH) (m : Nat) (a x p e d t hm c : Int) (mm of og : Nat → Int) : Prop := (0 ≤ a ∧ a ≤ 255) ∧ (0 ≤ x ∧ x ≤ 255) ∧ (0 ≤ p ∧ p ≤ 255) ∧ (e = 0 ∨ e = 1) ∧ (0 ≤ d ∧ d ≤ 5000) ∧ (0 ≤ t ∧ t ≤ 200) ∧ (0 ≤ hm ∧ hm ≤ 3) ∧ (0 ≤ c ∧ c ≤ 256) ∧ oki 0 255 mm ∧ oki 0 255 of ∧ oki 0 300 og ∧
  h[m]? = some (.inr (2, [.ref (m + 1), .ref (m + 2), .int (iZ a), .int (iZ x), .int (iZ p), .int (iZ e), .int (iZ d), .int (iZ t), .int (iZ hm)])) ∧ h[m + 1]? = some (.inl (0, 256, .inl (zA mm))) ∧ h[m + 2]? = some (.inr (0, [.int (iZ 256), .ref (m + 3), .ref (m + 4), .int (iZ c)])) ∧ h[m + 3]? = some (.inl (0, 256, .inl (zA of))) ∧ h[m + 4]? = some (.inl (0, 256, .inl (zA og)))
def MCt (h : MH) (m : Nat) : Prop := ∃ (a x p e d t hm c : Int) (mm of og : Nat → Int), MCx h m a x p e d t hm c mm of og
def PKx (h : MH) (n : Int) (f g : Nat → Int) : Prop := (0 ≤ n ∧ n ≤ 256) ∧ oki 0 255 f ∧ oki 0 300 g ∧ h[5]? = some (.inr (4, [.ref 6])) ∧ h[6]? = some (.inr (0, [.int (iZ 256), .ref 7, .ref 8, .int (iZ n)])) ∧ h[7]? = some (.inl (0, 256, .inl (zA f))) ∧ h[8]? = some (.inl (0, 256, .inl (zA g)))
def PKt (h : MH) : Prop := ∃ (n : Int) (f g : Nat → Int), PKx h n f g
def NKx (h : MH) (n : Int) (f g : Nat → Int) : Prop := ∃ (due la : Int) (pl lu : Nat → Int), (0 ≤ due ∧ due ≤ 2) ∧ (-9 ≤ la ∧ la ≤ 200) ∧ (0 ≤ n ∧ n ≤ 256) ∧ oki (-9) 255 pl ∧ oki (-9) 25 lu ∧ oki 0 255 f ∧ oki 0 300 g ∧ h[9]? = some (.inr (3, [.ref 10, .ref 13, .ref 14, .int (iZ due), .int (iZ la)])) ∧ h[10]? = some (.inr (0, [.int (iZ 256), .ref 11, .ref 12, .int (iZ n)])) ∧ h[11]? = some (.inl (0, 256, .inl (zA f))) ∧ h[12]? = some (.inl (0, 256, .inl (zA g))) ∧ h[13]? = some (.inl (0, 26, .inl (zA pl))) ∧ h[14]? = some (.inl (0, 256, .inl (zA lu)))
def NKt (h : MH) : Prop := ∃ (n : Int) (f g : Nat → Int), NKx h n f g
/-- makers, the machines one and two -/
def SC2 (h : MH) : Prop := PKt h ∧ NKt h ∧ MCt h 20 ∧ MCt h 25
/-- the latest run: done, taken, a, x, p, out's length -/
def LM (h : MH) (q : Nat → Int) (lm lo : Nat → Int) : Prop := ∃ (e hm : Int) (og : Nat → Int), MCx h 15 (q 2) (q 3) (q 4) e (q 0) (q 1) hm (q 5) lm lo og
/-- a tool: length, how, text, builder, checked -/
def TL (h : MH) (j : Nat) (V : Nat → Nat → Int) (f g : Nat → Int) : Prop := (0 ≤ V 0 j ∧ V 0 j ≤ 256) ∧ (0 ≤ V 1 j ∧ V 1 j ≤ 2) ∧ (0 ≤ V 2 j ∧ V 2 j ≤ 7) ∧ (V 3 j = -9 ∨ (0 ≤ V 3 j ∧ V 3 j < j)) ∧ (V 1 j = 2 → V 3 j ≠ -9) ∧ (V 1 j ≠ 2 → V 3 j = -9) ∧ (V 4 j = 0 ∨ V 4 j = 1) ∧ oki 0 255 f ∧ oki 0 300 g ∧ h[71 + 4 * j]? = some (.inr (6, [.ref (71 + 4 * j + 1), .int (iZ (V 1 j)), .int (iZ (V 2 j)), .int (iZ (V 3 j)), .int (iZ (V 4 j))])) ∧ h[71 + 4 * j + 1]? = some (.inr (0, [.int (iZ (((V 0 j).toNat : Nat) : Int)), .ref (71 + 4 * j + 1 + 1), .ref (71 + 4 * j + 1 + 2), .int (iZ (V 0 j))])) ∧ h[71 + 4 * j + 1 + 1]? = some (.inl (0, (V 0 j).toNat, .inl (zA f))) ∧ h[71 + 4 * j + 1 + 2]? = some (.inl (0, (V 0 j).toNat, .inl (zA g)))
def CORE2 (h : MH) (tc : Nat) (tr : Int64) (xn : Nat → Int) (xf : Nat → Nat → Int) (V Bf Lf : Nat → Nat → Int) : Prop := h[0]? = some (.inr (7, [.ref 1, .ref 3, .ref 4, .int (iZ (tc : Int)), .ref 5, .ref 9, .ref 15, .ref 20, .ref 25, .ref 30, .long tr])) ∧ h[3]? = some (.inl (2, 8, .inr (.inr (.inr (.inr txs))))) ∧ h[4]? = some (.inl (3, 12, .inr (.inr (.inr (.inr (tls tc)))))) ∧ tc ≤ 12 ∧ (∀ j, j < 8 → CT h (34 + 2 * j) (xn j) (xf j)) ∧ ∀ j, j < tc → TL h j V (Bf j) (Lf j)
/-- only makers and the machines one and two have changed -/
def Scr2 (h h1 : MH) : Prop := h1.length = h.length ∧ msz h1 = msz h ∧ ∀ q : Nat, q < 5 ∨ (14 < q ∧ q < 20) ∨ 29 < q → h1[q]? = h[q]?
theorem Scr2.refl (h : MH) : Scr2 h h := ⟨rfl, rfl, fun _ _ => rfl⟩
theorem Scr2.tr {h h1 h2 : MH} (a : Scr2 h h1) (b : Scr2 h1 h2) : Scr2 h h2 := ⟨b.1.trans a.1, b.2.1.trans a.2.1, fun q hq => (b.2.2 q hq).trans (a.2.2 q hq)⟩
theorem Scr2.get {h h1 : MH} {q : Nat} {x : va_E} (s : Scr2 h h1) (hq : q < 5 ∨ (14 < q ∧ q < 20) ∨ 29 < q) (ha : h[q]? = some x) : h1[q]? = some x := (s.2.2 q hq).trans ha
theorem Sm.scr2 {A : List Nat} {h h1 : MH} (s : Sm A h h1) (hA : ∀ q, q ∈ A → 5 ≤ q ∧ q ≤ 14 ∨ 20 ≤ q ∧ q ≤ 29) : Scr2 h h1 := ⟨s.1, s.2.1, fun q hq => s.2.2 q (fun z => by have := hA q z; omega)⟩
section C2
variable {h h1 : MH}
/-- what a fact's owner needs: the cells that it speaks of are as they were -/
theorem MCx.kp {m : Nat} {a x p e d t hm c : Int} {mm of og : Nat → Int} (s : ∀ q, m ≤ q → q ≤ m + 4 → ∀ y : va_E, h[q]? = some y → h1[q]? = some y) (H : MCx h m a x p e d t hm c mm of og) : MCx h1 m a x p e d t hm c mm of og := by
  obtain ⟨a1, a2, a3, a4, a5, a6, a7, a8, a9, a10, a11, b0, b1, b2, b3, b4⟩ := H
  exact ⟨a1, a2, a3, a4, a5, a6, a7, a8, a9, a10, a11, s _ (by omega) (by omega) _ b0, s _ (by omega) (by omega) _ b1, s _ (by omega) (by omega) _ b2, s _ (by omega) (by omega) _ b3, s _ (by omega) (by omega) _ b4⟩
theorem MCt.kp {m : Nat} (s : ∀ q, m ≤ q → q ≤ m + 4 → ∀ y : va_E, h[q]? = some y → h1[q]? = some y) (H : MCt h m) : MCt h1 m := by
  obtain ⟨a, x, p, e, d, t, hm, c, mm, of, og, H⟩ := H
  exact ⟨a, x, p, e, d, t, hm, c, mm, of, og, H.kp s⟩
theorem PKt.kp (s : ∀ q, 5 ≤ q → q ≤ 8 → ∀ y : va_E, h[q]? = some y → h1[q]? = some y) (H : PKt h) : PKt h1 := by
  obtain ⟨n, f, g, a1, a2, a3, b0, b1, b2, b3⟩ := H
  exact ⟨n, f, g, a1, a2, a3, s _ (by omega) (by omega) _ b0, s _ (by omega) (by omega) _ b1, s _ (by omega) (by omega) _ b2, s _ (by omega) (by omega) _ b3⟩
theorem NKt.kp (s : ∀ q, 9 ≤ q → q ≤ 14 → ∀ y : va_E, h[q]? = some y → h1[q]? = some y) (H : NKt h) : NKt h1 := by
  obtain ⟨n, f, g, due, la, pl, lu, a1, a2, a3, a4, a5, a6, a7, b0, b1, b2, b3, b4, b5⟩ := H
  exact ⟨n, f, g, due, la, pl, lu, a1, a2, a3, a4, a5, a6, a7, s _ (by omega) (by omega) _ b0, s _ (by omega) (by omega) _ b1, s _ (by omega) (by omega) _ b2, s _ (by omega) (by omega) _ b3, s _ (by omega) (by omega) _ b4, s _ (by omega) (by omega) _ b5⟩
theorem SC2.kp (s : ∀ q, (5 ≤ q ∧ q ≤ 14 ∨ 20 ≤ q ∧ q ≤ 29) → ∀ y : va_E, h[q]? = some y → h1[q]? = some y) (H : SC2 h) : SC2 h1 := by
  obtain ⟨H1, H2, H3, H4⟩ := H
  exact ⟨H1.kp (fun q a b => s q (by omega)), H2.kp (fun q a b => s q (by omega)), H3.kp (fun q a b => s q (by omega)), H4.kp (fun q a b => s q (by omega))⟩
theorem LM.kp {q lm lo : Nat → Int} (s : ∀ q, 15 ≤ q → q ≤ 19 → ∀ y : va_E, h[q]? = some y → h1[q]? = some y) (H : LM h q lm lo) : LM h1 q lm lo := by
  obtain ⟨e, hm, og, H⟩ := H
  exact ⟨e, hm, og, H.kp (fun q a b => s q (by omega) (by omega))⟩
theorem TL.kp {j : Nat} {V : Nat → Nat → Int} {f g : Nat → Int} (s : ∀ q, 71 + 4 * j ≤ q → q ≤ 74 + 4 * j → ∀ y : va_E, h[q]? = some y → h1[q]? = some y) (H : TL h j V f g) : TL h1 j V f g := by
  obtain ⟨a1, a2, a3, a4, a5, a6, a7, a8, a9, b0, b1, b2, b3⟩ := H
  exact ⟨a1, a2, a3, a4, a5, a6, a7, a8, a9, s _ (by omega) (by omega) _ b0, s _ (by omega) (by omega) _ b1, s _ (by omega) (by omega) _ b2, s _ (by omega) (by omega) _ b3⟩
theorem CT.kq {t : Nat} {n : Int} {f : Nat → Int} (s : ∀ q, t ≤ q → q ≤ t + 1 → ∀ y : va_E, h[q]? = some y → h1[q]? = some y) (H : CT h t n f) : CT h1 t n f := by
  obtain ⟨a, b, c⟩ := H
  exact ⟨s _ (by omega) (by omega) _ a, s _ (by omega) (by omega) _ b, c⟩
theorem CORE2.scr {tc : Nat} {tr : Int64} {xn : Nat → Int} {xf V Bf Lf : Nat → Nat → Int} (H : CORE2 h tc tr xn xf V Bf Lf) (s : Scr2 h h1) : CORE2 h1 tc tr xn xf V Bf Lf := by
  obtain ⟨f0, f3, f4, h5, hT, hL⟩ := H
  exact ⟨s.get (by omega) f0, s.get (by omega) f3, s.get (by omega) f4, h5, fun j hj => (hT j hj).kq (fun q a b y => s.get (by omega)), fun j hj => (hL j hj).kp (fun q a b y => s.get (by omega))⟩
/-- a run of one of the two machines -/
theorem sc2_upd {m : Nat} (hm : m = 20 ∨ m = 25) (H : SC2 h) (s : Sm [m, m + 1, m + 2, m + 3, m + 4] h h1) (M1 : MCt h1 m) : SC2 h1 ∧ Scr2 h h1 := by
  obtain ⟨H1, H2, H3, H4⟩ := H
  have z : ∀ q, q ∈ [m, m + 1, m + 2, m + 3, m + 4] → m ≤ q ∧ q ≤ m + 4 := by
    intro q hq
    simp at hq
    omega
  have g : ∀ q, (q < m ∨ m + 4 < q) → ∀ y : va_E, h[q]? = some y → h1[q]? = some y := fun q hq y ha => s.get (fun hz => by have := z q hz; omega) ha
  refine ⟨⟨H1.kp (fun q a b => g q (by omega)), H2.kp (fun q a b => g q (by omega)), ?_, ?_⟩, s.scr2 (fun q hq => by have := z q hq; omega)⟩
  · rcases hm with rfl | rfl
    · exact M1
    · exact H3.kp (fun q a b => g q (by omega))
  · rcases hm with rfl | rfl
    · exact H4.kp (fun q a b => g q (by omega))
    · exact M1
theorem SC2.m {m : Nat} (hm : m = 20 ∨ m = 25) (H : SC2 h) : MCt h m := by
  rcases hm with rfl | rfl
  · exact H.2.2.1
  · exact H.2.2.2
end C2
/-- what a run gives, whatever lay on the tape before -/
noncomputable def run0 (tn : Int) (tf : Int → Int) (n : Int) (f : Nat → Int) : Int × MS := mrun tn tf n f (fun _ => 0) (fun _ => 0)
/-- a run's outcome: HARM or not, registers, counts, memory, the tape up to its end -/
def rnR (R : Int × MS) (hm a x p e d t c : Int) (m ou ol : Nat → Int) : Prop := R.1 = (if hm = 0 then 0 else 1) ∧ R.2.1 = a ∧ R.2.2.1 = x ∧ R.2.2.2.1 = p ∧ R.2.2.2.2.1 = e ∧ R.2.2.2.2.2.1 = d ∧ R.2.2.2.2.2.2.1 = t ∧ R.2.2.2.2.2.2.2.1 = c ∧ R.2.2.2.2.2.2.2.2.1 = m ∧ agr c R.2.2.2.2.2.2.2.2.2.1 ou ∧ agr c R.2.2.2.2.2.2.2.2.2.2 ol
theorem goR_0 {tn n hm a x p e d t c : Int} {tf : Int → Int} {f m ou ol ou0 ol0 : Nat → Int} (h : goR (mrun tn tf n f ou0 ol0) hm a x p e d t c m ou ol) : rnR (run0 tn tf n f) hm a x p e d t c m ou ol := by
  obtain ⟨k1, k2⟩ := mrun_ou (tn := tn) (tf := tf) (n := n) (f := f) (ou := fun _ => 0) (ol := fun _ => 0) (ou' := ou0) (ol' := ol0)
  unfold goR at h
  rw [h] at k1 k2
  obtain ⟨a1, x1, p1, e1, d1, t1, c1, m1, ou1, ol1, ou2, ol2, g1, g2, g3, g4, g5⟩ := k2
  simp only [Prod.mk.injEq] at g2
  obtain ⟨rfl, rfl, rfl, rfl, rfl, rfl, rfl, rfl, rfl, rfl⟩ := g2
  unfold rnR run0
  rw [g1]
  exact ⟨k1, rfl, rfl, rfl, rfl, rfl, rfl, rfl, rfl, g4, g5⟩

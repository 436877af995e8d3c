/-! what the class's cells are between calls: numbers that no compared answer shows are only ints -/
def txs : Nat → Option Nat := va_up (va_up (va_up (va_up (va_up (va_up (va_up (va_up (fun _ => none) 0 (some 34)) 1 (some 36)) 2 (some 38)) 3 (some 40)) 4 (some 42)) 5 (some 44)) 6 (some 46)) 7 (some 48)
theorem txs_at {z : Int} (h0 : 0 ≤ z) (h1 : z < 8) : va_rf (txs z.toNat) = .ref (34 + 2 * z.toNat) := by
  have : ∀ j, j < 8 → txs j = some (34 + 2 * j) := by decide
  rw [this z.toNat (by omega)]
  rfl
def tls (tc : Nat) : Nat → Option Nat := fun j => if j < tc then some (71 + 4 * j) else none
theorem tls_at {tc : Nat} {z : Int} (h0 : 0 ≤ z) (h1 : z < tc) : va_rf (tls tc z.toNat) = .ref (71 + 4 * z.toNat) := by
  unfold tls
  rw [if_pos (by omega)]
  rfl
theorem tls_up (tc : Nat) : va_up (tls tc) tc (some (71 + 4 * tc)) = tls (tc + 1) := by
  funext j
  unfold va_up tls
  by_cases h : j = tc
  · subst h
    simp
  · rw [if_neg h]
    by_cases h2 : j < tc
    · rw [if_pos h2, if_pos (by omega)]
    · rw [if_neg h2, if_neg (by omega)]
def okb (f : Nat → Int) : Prop := ∀ j, 0 ≤ f j ∧ f j ≤ 255
def CT (h : MH) (t : Nat) (n : Int) (f : Nat → Int) : Prop := h[t]? = some (.inr (5, [.ref (t + 1), .int (iZ n)])) ∧ h[t + 1]? = some (.inl (0, 200, .inl (zA f))) ∧ 0 ≤ n ∧ n ≤ 200 ∧ okb f
def MCw (h : MH) (m : Nat) : Prop := ∃ (a x p en dn tk hm on : Int) (mm of og : Nat → Int), rg a ∧ rg x ∧ rg p ∧ (en = 0 ∨ en = 1) ∧ rg dn ∧ rg tk ∧ rg hm ∧ rg on ∧ okr mm ∧ okr of ∧ okr og ∧
  h[m]? = some (.inr (2, [.ref (m + 1), .ref (m + 2), .int (iZ a), .int (iZ x), .int (iZ p), .int (iZ en), .int (iZ dn), .int (iZ tk), .int (iZ hm)])) ∧ h[m + 1]? = some (.inl (0, 256, .inl (zA mm))) ∧ h[m + 2]? = some (.inr (0, [.int (iZ 256), .ref (m + 3), .ref (m + 4), .int (iZ on)])) ∧ h[m + 3]? = some (.inl (0, 256, .inl (zA of))) ∧ h[m + 4]? = some (.inl (0, 256, .inl (zA og)))
def PKw (h : MH) : Prop := ∃ (n : Int) (f g : Nat → Int), rg n ∧ okr f ∧ okr g ∧ h[5]? = some (.inr (4, [.ref 6])) ∧ h[6]? = some (.inr (0, [.int (iZ 256), .ref 7, .ref 8, .int (iZ n)])) ∧ h[7]? = some (.inl (0, 256, .inl (zA f))) ∧ h[8]? = some (.inl (0, 256, .inl (zA g)))
def NKw (h : MH) : Prop := ∃ (due la n : Int) (pl lu f g : Nat → Int), rg due ∧ rg la ∧ rg n ∧ okr pl ∧ okr lu ∧ okr f ∧ okr g ∧ h[9]? = some (.inr (3, [.ref 10, .ref 13, .ref 14, .int (iZ due), .int (iZ la)])) ∧ h[10]? = some (.inr (0, [.int (iZ 256), .ref 11, .ref 12, .int (iZ n)])) ∧ h[11]? = some (.inl (0, 256, .inl (zA f))) ∧ h[12]? = some (.inl (0, 256, .inl (zA g))) ∧ h[13]? = some (.inl (0, 26, .inl (zA pl))) ∧ h[14]? = some (.inl (0, 256, .inl (zA lu)))
/-- makers and machines -/
def SC (h : MH) : Prop := PKw h ∧ NKw h ∧ MCw h 15 ∧ MCw h 20 ∧ MCw h 25
/-- only makers and machines have changed -/
def Scr (h h1 : MH) : Prop := h1.length = h.length ∧ msz h1 = msz h ∧ ∀ q : Nat, q < 5 ∨ 29 < q → h1[q]? = h[q]?
theorem Scr.refl (h : MH) : Scr h h := ⟨rfl, rfl, fun _ _ => rfl⟩
theorem Scr.tr {h h1 h2 : MH} (a : Scr h h1) (b : Scr h1 h2) : Scr h h2 := ⟨b.1.trans a.1, b.2.1.trans a.2.1, fun q hq => (b.2.2 q hq).trans (a.2.2 q hq)⟩
theorem Scr.get {h h1 : MH} {q : Nat} {x : va_E} (s : Scr h h1) (hq : q < 5 ∨ 29 < q) (ha : h[q]? = some x) : h1[q]? = some x := (s.2.2 q hq).trans ha
theorem Sm.scr {A : List Nat} {h h1 : MH} (s : Sm A h h1) (hA : ∀ q, q ∈ A → 5 ≤ q ∧ q ≤ 29) : Scr h h1 := ⟨s.1, s.2.1, fun q hq => s.2.2 q (fun z => by have := hA q z; omega)⟩
theorem PKw.kp {A : List Nat} {h h1 : MH} (s : Sm A h h1) (hA : ∀ q, q ∈ A → q < 5 ∨ 8 < q) (H : PKw h) : PKw h1 := by
  obtain ⟨n, f, g, a1, a2, a3, b0, b1, b2, b3⟩ := H
  have k : ∀ q, 5 ≤ q ∧ q ≤ 8 → q ∉ A := fun q hq z => by have := hA q z; omega
  exact ⟨n, f, g, a1, a2, a3, s.get (k 5 (by omega)) b0, s.get (k 6 (by omega)) b1, s.get (k 7 (by omega)) b2, s.get (k 8 (by omega)) b3⟩
theorem NKw.kp {A : List Nat} {h h1 : MH} (s : Sm A h h1) (hA : ∀ q, q ∈ A → q < 9 ∨ 14 < q) (H : NKw h) : NKw h1 := by
  obtain ⟨due, la, n, pl, lu, f, g, a1, a2, a3, a4, a5, a6, a7, b0, b1, b2, b3, b4, b5⟩ := H
  have k : ∀ q, 9 ≤ q ∧ q ≤ 14 → q ∉ A := fun q hq z => by have := hA q z; omega
  exact ⟨due, la, n, pl, lu, f, g, a1, a2, a3, a4, a5, a6, a7, s.get (k 9 (by omega)) b0, s.get (k 10 (by omega)) b1, s.get (k 11 (by omega)) b2, s.get (k 12 (by omega)) b3, s.get (k 13 (by omega)) b4, s.get (k 14 (by omega)) b5⟩
theorem MCw.kp {A : List Nat} {h h1 : MH} {m : Nat} (s : Sm A h h1) (hA : ∀ q, q ∈ A → q < m ∨ m + 4 < q) (H : MCw h m) : MCw h1 m := by
  obtain ⟨a, x, p, en, dn, tk, hm, on, mm, of, og, a1, a2, a3, a4, a5, a6, a7, a8, a9, a10, a11, b0, b1, b2, b3, b4⟩ := H
  have k : ∀ q, m ≤ q ∧ q ≤ m + 4 → q ∉ A := fun q hq z => by have := hA q z; omega
  exact ⟨a, x, p, en, dn, tk, hm, on, mm, of, og, a1, a2, a3, a4, a5, a6, a7, a8, a9, a10, a11, s.get (k m (by omega)) b0, s.get (k (m + 1) (by omega)) b1, s.get (k (m + 2) (by omega)) b2, s.get (k (m + 3) (by omega)) b3, s.get (k (m + 4) (by omega)) b4⟩
section SCL
variable {l : Launch} {h : MH} {Q : Option Value → MH → Prop} {t : Nat} {tn : Int} {tf : Nat → Int}
theorem SC.m {m : Nat} (hm : m = 15 ∨ m = 20 ∨ m = 25) (H : SC h) : MCw h m := by
  rcases hm with rfl | rfl | rfl
  · exact H.2.2.1
  · exact H.2.2.2.1
  · exact H.2.2.2.2
end SCL
def TLw (h : MH) (a : Nat) : Prop := ∃ (M : Nat) (n hw tx bd ck : Int) (f g : Nat → Int), M ≤ 256 ∧ rg n ∧ rg hw ∧ rg tx ∧ rg bd ∧ (ck = 0 ∨ ck = 1) ∧ okr f ∧ okr g ∧ h[a]? = some (.inr (6, [.ref (a + 1), .int (iZ hw), .int (iZ tx), .int (iZ bd), .int (iZ ck)])) ∧ h[a + 1]? = some (.inr (0, [.int (iZ (M : Int)), .ref (a + 1 + 1), .ref (a + 1 + 2), .int (iZ n)])) ∧ h[a + 1 + 1]? = some (.inl (0, M, .inl (zA f))) ∧ h[a + 1 + 2]? = some (.inl (0, M, .inl (zA g)))
/-- texts and tools -/
def CORE (h : MH) (tc : Nat) (xn : Nat → Int) (xf : Nat → Nat → Int) : Prop := (∃ tr : Int64, h[0]? = some (.inr (7, [.ref 1, .ref 3, .ref 4, .int (iZ (tc : Int)), .ref 5, .ref 9, .ref 15, .ref 20, .ref 25, .ref 30, .long tr]))) ∧ h[3]? = some (.inl (2, 8, .inr (.inr (.inr (.inr txs))))) ∧ h[4]? = some (.inl (3, 12, .inr (.inr (.inr (.inr (tls tc)))))) ∧ tc ≤ 12 ∧ (∀ j, j < 8 → CT h (34 + 2 * j) (xn j) (xf j)) ∧ ∀ j, j < tc → TLw h (71 + 4 * j)
theorem CORE.scr {h h1 : MH} {tc : Nat} {xn : Nat → Int} {xf : Nat → Nat → Int} (H : CORE h tc xn xf) (s : Scr h h1) : CORE h1 tc xn xf := by
  obtain ⟨⟨tr, f0⟩, f3, f4, h5, hT, hL⟩ := H
  refine ⟨⟨tr, s.get (by omega) f0⟩, s.get (by omega) f3, s.get (by omega) f4, h5, fun j hj => ?_, fun j hj => ?_⟩
  · obtain ⟨a, b, c⟩ := hT j hj
    exact ⟨s.get (by omega) a, s.get (by omega) b, c⟩
  · obtain ⟨M, n, hw, tx, bd, ck, f, g, a1, a2, a3, a4, a5, a6, a7, a8, b0, b1, b2, b3⟩ := hL j hj
    exact ⟨M, n, hw, tx, bd, ck, f, g, a1, a2, a3, a4, a5, a6, a7, a8, s.get (by omega) b0, s.get (by omega) b1, s.get (by omega) b2, s.get (by omega) b3⟩

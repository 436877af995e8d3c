/-- a tool may have come -/
def KP (tc tc1 : Nat) (h h1 : MH) : Prop := tc ≤ tc1 ∧ h1.length + 4 * tc = h.length + 4 * tc1 ∧ msz h1 + 600 * tc ≤ msz h + 600 * tc1 ∧ ∀ (q : Nat) (x : va_E), q ≠ 0 → q ≠ 4 → h[q]? = some x → h1[q]? = some x
theorem KP.get {tc tc1 q : Nat} {h h1 : MH} {x : va_E} (s : KP tc tc1 h h1) (hq : q ≠ 0 ∧ q ≠ 4) (ha : h[q]? = some x) : h1[q]? = some x := s.2.2.2 q x hq.1 hq.2 ha
theorem KP.refl (tc : Nat) (h : MH) : KP tc tc h h := ⟨Nat.le_refl _, rfl, Nat.le_refl _, fun _ _ _ _ h => h⟩
theorem SC.kp {tc tc1 : Nat} {h h1 : MH} (s : KP tc tc1 h h1) (H : SC h) : SC h1 := by
  obtain ⟨⟨n, f, g, a1, a2, a3, b0, b1, b2, b3⟩, ⟨due, la, n2, pl, lu, f2, g2, c1, c2, c3, c4, c5, c6, c7, d0, d1, d2, d3, d4, d5⟩, M1, M2, M3⟩ := H
  have km : ∀ m, 5 ≤ m → MCw h m → MCw h1 m := by
    rintro m hm ⟨a, x, p, en, dn, tk, hm1, on, mm, of, og, a1, a2, a3, a4, a5, a6, a7, a8, a9, a10, a11, b0, b1, b2, b3, b4⟩
    exact ⟨a, x, p, en, dn, tk, hm1, on, mm, of, og, a1, a2, a3, a4, a5, a6, a7, a8, a9, a10, a11, s.get (by omega) b0, s.get (by omega) b1, s.get (by omega) b2, s.get (by omega) b3, s.get (by omega) b4⟩
  exact ⟨⟨n, f, g, a1, a2, a3, s.get (by omega) b0, s.get (by omega) b1, s.get (by omega) b2, s.get (by omega) b3⟩, ⟨due, la, n2, pl, lu, f2, g2, c1, c2, c3, c4, c5, c6, c7, s.get (by omega) d0, s.get (by omega) d1, s.get (by omega) d2, s.get (by omega) d3, s.get (by omega) d4, s.get (by omega) d5⟩, km 15 (by omega) M1, km 20 (by omega) M2, km 25 (by omega) M3⟩
theorem TLw.kp {tc tc1 a : Nat} {h h1 : MH} (s : KP tc tc1 h h1) (ha : 71 ≤ a) (H : TLw h a) : TLw h1 a := by
  obtain ⟨M, n, hw, tx, bd, ck, f, g, a1, a2, a3, a4, a5, a6, a7, a8, b0, b1, b2, b3⟩ := H
  exact ⟨M, n, hw, tx, bd, ck, f, g, a1, a2, a3, a4, a5, a6, a7, a8, s.get (by omega) b0, s.get (by omega) b1, s.get (by omega) b2, s.get (by omega) b3⟩
theorem CT.kp {tc tc1 t : Nat} {h h1 : MH} {n : Int} {f : Nat → Int} (s : KP tc tc1 h h1) (ht : t ≠ 0 ∧ t ≠ 4 ∧ t ≠ 3) (H : CT h t n f) : CT h1 t n f := by
  obtain ⟨a, b, c⟩ := H
  exact ⟨s.get (by omega) a, s.get (by omega) b, c⟩

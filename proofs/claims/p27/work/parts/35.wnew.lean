/-- k new cells of at most w fields and elements; of the old ones those of A may have changed -/
def Ex (k w : Nat) (A : List Nat) (h h1 : MH) : Prop := h1.length = h.length + k ∧ msz h1 ≤ msz h + w ∧ ∀ (q : Nat) (x : va_E), q ∉ A → h[q]? = some x → h1[q]? = some x
theorem Ex.get {k w : Nat} {A : List Nat} {h h1 : MH} {q : Nat} {x : va_E} (s : Ex k w A h h1) (hq : q ∉ A) (ha : h[q]? = some x) : h1[q]? = some x := s.2.2 q x hq ha
theorem Nw.ma {h h' : MH} {kd N : Nat} {c : (Nat → Int32) ⊕ (Nat → Int64) ⊕ (Nat → UInt32) ⊕ (Nat → UInt64) ⊕ (Nat → Option Nat)} (s : Nw h h' (.inl (kd, N, c))) : msz h' = msz h + N := s.2.1
theorem Nw.mo {h h' : MH} {ci : Nat} {fs : List Value} (s : Nw h h' (.inr (ci, fs))) : msz h' = msz h + fs.length := s.2.1

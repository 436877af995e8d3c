def txs : Nat → Option Nat := va_up (va_up (va_up (va_up (va_up (va_up (va_up (va_up (fun _ => none) 0 (some 34)) 1 (some 36)) 2 (some 38)) 3 (some 40)) 4 (some 42)) 5 (some 44)) 6 (some 46)) 7 (some 48)
theorem txs_at {z : Int} (h0 : 0 ≤ z) (h1 : z < 8) : va_rf (txs z.toNat) = .ref (34 + 2 * z.toNat) := by
  have : ∀ j, j < 8 → txs j = some (34 + 2 * j) := by decide
  rw [this z.toNat (by omega)]
  rfl
/-- the class's cells as they are behind its constructor -/
def FX (h : MH) : Prop := h[0]? = some (.inr (7, [.ref 1, .ref 3, .ref 4, .int (iZ 0), .ref 5, .ref 9, .ref 15, .ref 20, .ref 25, .ref 30, .long (0)])) ∧
  h[1]? = some (.inr (5, [.ref 2, .int (iZ 0)])) ∧
  h[2]? = some (.inl (0, 200, .inl (fun _ => 0))) ∧
  h[3]? = some (.inl (2, 8, .inr (.inr (.inr (.inr (txs)))))) ∧
  h[4]? = some (.inl (3, 12, .inr (.inr (.inr (.inr (fun _ => none)))))) ∧
  h[5]? = some (.inr (4, [.ref 6])) ∧
  h[6]? = some (.inr (0, [.int (iZ 256), .ref 7, .ref 8, .int (iZ 0)])) ∧
  h[7]? = some (.inl (0, 256, .inl (fun _ => 0))) ∧
  h[8]? = some (.inl (0, 256, .inl (fun _ => 0))) ∧
  h[9]? = some (.inr (3, [.ref 10, .ref 13, .ref 14, .int (iZ 0), .int (iZ (-9))])) ∧
  h[10]? = some (.inr (0, [.int (iZ 256), .ref 11, .ref 12, .int (iZ 0)])) ∧
  h[11]? = some (.inl (0, 256, .inl (fun _ => 0))) ∧
  h[12]? = some (.inl (0, 256, .inl (fun _ => 0))) ∧
  h[13]? = some (.inl (0, 26, .inl (fun _ => 0))) ∧
  h[14]? = some (.inl (0, 256, .inl (fun _ => 0))) ∧
  h[15]? = some (.inr (2, [.ref 16, .ref 17, .int (iZ 0), .int (iZ 0), .int (iZ 0), .int (iZ 0), .int (iZ 0), .int (iZ 0), .int (iZ 0)])) ∧
  h[16]? = some (.inl (0, 256, .inl (fun _ => 0))) ∧
  h[17]? = some (.inr (0, [.int (iZ 256), .ref 18, .ref 19, .int (iZ 0)])) ∧
  h[18]? = some (.inl (0, 256, .inl (fun _ => 0))) ∧
  h[19]? = some (.inl (0, 256, .inl (fun _ => 0))) ∧
  h[20]? = some (.inr (2, [.ref 21, .ref 22, .int (iZ 0), .int (iZ 0), .int (iZ 0), .int (iZ 0), .int (iZ 0), .int (iZ 0), .int (iZ 0)])) ∧
  h[21]? = some (.inl (0, 256, .inl (fun _ => 0))) ∧
  h[22]? = some (.inr (0, [.int (iZ 256), .ref 23, .ref 24, .int (iZ 0)])) ∧
  h[23]? = some (.inl (0, 256, .inl (fun _ => 0))) ∧
  h[24]? = some (.inl (0, 256, .inl (fun _ => 0))) ∧
  h[25]? = some (.inr (2, [.ref 26, .ref 27, .int (iZ 0), .int (iZ 0), .int (iZ 0), .int (iZ 0), .int (iZ 0), .int (iZ 0), .int (iZ 0)])) ∧
  h[26]? = some (.inl (0, 256, .inl (fun _ => 0))) ∧
  h[27]? = some (.inr (0, [.int (iZ 256), .ref 28, .ref 29, .int (iZ 0)])) ∧
  h[28]? = some (.inl (0, 256, .inl (fun _ => 0))) ∧
  h[29]? = some (.inl (0, 256, .inl (fun _ => 0))) ∧
  h[30]? = some (.inr (1, [.ref 31, .ref 32, .ref 33, .int (iZ 0)])) ∧
  h[31]? = some (.inl (0, 12, .inl (fun _ => 0))) ∧
  h[32]? = some (.inl (0, 12, .inl (fun _ => 0))) ∧
  h[33]? = some (.inl (0, 12, .inl (fun _ => 0))) ∧
  (∀ z : Int, 0 ≤ z → z < 8 → h[34 + 2 * z.toNat]? = some (.inr (5, [.ref (34 + 2 * z.toNat + 1), .int (iZ 0)])))
/-- the reference's cells as they are behind its constructor -/
def FM (h : MH) : Prop := h[50]? = some (.inr (8, [.long (0), .ref 51, .int (iZ 0), .ref 52, .ref 53, .int (iZ 0), .ref 54, .ref 55, .ref 56, .ref 57, .ref 58, .ref 59, .ref 60, .int (iZ 0), .int (iZ 0), .int (iZ 0), .int (iZ 0), .int (iZ 0), .int (iZ 0), .int (iZ 0), .int (iZ 0), .ref 61, .ref 62, .ref 63, .ref 64, .int (iZ 0), .int (iZ 0), .int (iZ 0), .int (iZ 0), .int (iZ 0), .int (iZ 0), .int (iZ 0), .ref 65, .ref 66, .ref 67, .int (iZ 0), .ref 68, .ref 69, .ref 70])) ∧
  h[51]? = some (.inl (1, 200, .inl (fun _ => 0))) ∧
  h[52]? = some (.inl (1, 1600, .inl (fun _ => 0))) ∧
  h[53]? = some (.inl (0, 8, .inl (fun _ => 0))) ∧
  h[54]? = some (.inl (0, 4096, .inl (fun _ => 0))) ∧
  h[55]? = some (.inl (0, 4096, .inl (fun _ => 0))) ∧
  h[56]? = some (.inl (0, 16, .inl (fun _ => 0))) ∧
  h[57]? = some (.inl (0, 12, .inl (fun _ => 0))) ∧
  h[58]? = some (.inl (0, 12, .inl (fun _ => 0))) ∧
  h[59]? = some (.inl (0, 12, .inl (fun _ => 0))) ∧
  h[60]? = some (.inl (0, 12, .inl (fun _ => 0))) ∧
  h[61]? = some (.inl (0, 26, .inl (fun _ => 0))) ∧
  h[62]? = some (.inl (0, 256, .inl (fun _ => 0))) ∧
  h[63]? = some (.inl (0, 256, .inl (fun _ => 0))) ∧
  h[64]? = some (.inl (0, 256, .inl (fun _ => 0))) ∧
  h[65]? = some (.inl (0, 6, .inl (fun _ => 0))) ∧
  h[66]? = some (.inl (0, 256, .inl (fun _ => 0))) ∧
  h[67]? = some (.inl (0, 256, .inl (fun _ => 0))) ∧
  h[68]? = some (.inl (0, 12, .inl (fun _ => 0))) ∧
  h[69]? = some (.inl (0, 12, .inl (fun _ => 0))) ∧
  h[70]? = some (.inl (0, 12, .inl (fun _ => 0)))
def Sx (n : Nat) (h h' : MH) : Prop := h'.length = h.length ∧ msz h' = msz h ∧ ∀ q, n ≤ q → h'[q]? = h[q]?
theorem Sx.refl (n : Nat) (h : MH) : Sx n h h := ⟨rfl, rfl, fun _ _ => rfl⟩
theorem Sx.tr {n : Nat} {h h1 h2 : MH} (a : Sx n h h1) (b : Sx n h1 h2) : Sx n h h2 := ⟨b.1.trans a.1, b.2.1.trans a.2.1, fun q hq => (b.2.2 q hq).trans (a.2.2 q hq)⟩
theorem Sm.X {n : Nat} {A : List Nat} {h h1 : MH} (s : Sm A h h1) (hA : ∀ q, q ∈ A → q < n) : Sx n h h1 := ⟨s.1, s.2.1, fun q hq => s.2.2 q (fun z => by have := hA q z; omega)⟩
theorem FM.x {h h1 : MH} (F : FM h) (s : Sx 50 h h1) : FM h1 := ⟨(s.2.2 50 (by decide)).trans F.1, (s.2.2 51 (by decide)).trans F.2.1, (s.2.2 52 (by decide)).trans F.2.2.1, (s.2.2 53 (by decide)).trans F.2.2.2.1, (s.2.2 54 (by decide)).trans F.2.2.2.2.1, (s.2.2 55 (by decide)).trans F.2.2.2.2.2.1, (s.2.2 56 (by decide)).trans F.2.2.2.2.2.2.1, (s.2.2 57 (by decide)).trans F.2.2.2.2.2.2.2.1, (s.2.2 58 (by decide)).trans F.2.2.2.2.2.2.2.2.1, (s.2.2 59 (by decide)).trans F.2.2.2.2.2.2.2.2.2.1, (s.2.2 60 (by decide)).trans F.2.2.2.2.2.2.2.2.2.2.1, (s.2.2 61 (by decide)).trans F.2.2.2.2.2.2.2.2.2.2.2.1, (s.2.2 62 (by decide)).trans F.2.2.2.2.2.2.2.2.2.2.2.2.1, (s.2.2 63 (by decide)).trans F.2.2.2.2.2.2.2.2.2.2.2.2.2.1, (s.2.2 64 (by decide)).trans F.2.2.2.2.2.2.2.2.2.2.2.2.2.2.1, (s.2.2 65 (by decide)).trans F.2.2.2.2.2.2.2.2.2.2.2.2.2.2.2.1, (s.2.2 66 (by decide)).trans F.2.2.2.2.2.2.2.2.2.2.2.2.2.2.2.2.1, (s.2.2 67 (by decide)).trans F.2.2.2.2.2.2.2.2.2.2.2.2.2.2.2.2.2.1, (s.2.2 68 (by decide)).trans F.2.2.2.2.2.2.2.2.2.2.2.2.2.2.2.2.2.2.1, (s.2.2 69 (by decide)).trans F.2.2.2.2.2.2.2.2.2.2.2.2.2.2.2.2.2.2.2.1, (s.2.2 70 (by decide)).trans F.2.2.2.2.2.2.2.2.2.2.2.2.2.2.2.2.2.2.2.2⟩
set_option maxRecDepth 100000 in
theorem fx_H2 : FX H2 := ⟨rfl, rfl, rfl, rfl, rfl, rfl, rfl, rfl, rfl, rfl, rfl, rfl, rfl, rfl, rfl, rfl, rfl, rfl, rfl, rfl, rfl, rfl, rfl, rfl, rfl, rfl, rfl, rfl, rfl, rfl, rfl, rfl, rfl, rfl, by
  intro z h0 h1
  have : ∀ j : Nat, j < 8 → H2[34 + 2 * j]? = some (.inr (5, [.ref (34 + 2 * j + 1), .int (iZ 0)])) := by
    intro j hj
    match j, hj with
    | 0, _ => rfl
    | 1, _ => rfl
    | 2, _ => rfl
    | 3, _ => rfl
    | 4, _ => rfl
    | 5, _ => rfl
    | 6, _ => rfl
    | 7, _ => rfl
    | k + 8, hk => omega
  exact this z.toNat (by omega)⟩
set_option maxRecDepth 100000 in
theorem fm_H2 : FM H2 := ⟨rfl, rfl, rfl, rfl, rfl, rfl, rfl, rfl, rfl, rfl, rfl, rfl, rfl, rfl, rfl, rfl, rfl, rfl, rfl, rfl, rfl⟩

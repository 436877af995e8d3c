/-! the reference's data in the class's words -/
def refV (B : Nat → Nat → Int) : Nat → Nat → Int := fun k j => B (56 + k) j
def refB (B : Nat → Nat → Int) : Nat → Nat → Int := fun j k => B 54 (256 * j + k)
def refL (B : Nat → Nat → Int) : Nat → Nat → Int := fun j k => B 55 (256 * j + k)
theorem slN {bf : Nat → Int} {s : Int} (h : 0 ≤ s) : (fun j : Nat => bf (256 * s + (j : Int)).toNat) = (fun j : Nat => bf (256 * s.toNat + j)) := by
  funext j
  congr 1
  omega
theorem nar_rg (x : Int32) : -128 ≤ (vp_nar .byte x).toInt ∧ (vp_nar .byte x).toInt ≤ 127 := by
  have e : (vp_nar .byte x).toInt = ((x.toBitVec.signExtend 8).signExtend 32).toInt := rfl
  rw [e, BitVec.toInt_signExtend_of_le (by decide), BitVec.toInt_eq_toNat_cond]
  have := (x.toBitVec.signExtend 8).isLt
  split <;> omega
theorem okB_nar {f : Nat → Int32} {n : Nat} {x : Int32} (h : okB f) : okB (upd f n (vp_nar .byte x)) := by
  intro j
  by_cases e : j = n
  · subst e
    rw [pk_us]
    exact nar_rg x
  · rw [pk_un e]
    exact h j
theorem prs_rg {tn : Int} {tf : Int → Int} : ∀ (k : Nat) (p z : Int) (b l : Nat → Int), 0 ≤ z → (∀ j : Nat, (j : Int) < z → 0 ≤ b j ∧ b j ≤ 255) → ∀ j : Nat, (j : Int) < (prs tn tf k p z b l).2.1 → 0 ≤ (prs tn tf k p z b l).2.2.1 j ∧ (prs tn tf k p z b l).2.2.1 j ≤ 255 := by
  intro k
  induction k with
  | zero => intro p z b l hz hb j hj; exact hb j hj
  | succ k ih =>
    intro p z b l hz hb
    by_cases h1 : p < tn
    · by_cases h2 : dgt (tf p) = -9
      · rw [prs_a h1 h2]; exact hb
      · by_cases h3 : tn ≤ p + 1 ∨ dgt (tf (p + 1)) = -9
        · rw [prs_b h1 h2 h3]; exact hb
        · rw [prs_c (by omega) h2 (fun q => h3 (Or.inr q))]
          refine ih _ _ _ _ (by omega) (fun j hj => ?_)
          have d1 := dgt_rg (tf p)
          have d2 := dgt_rg (tf (p + 1))
          have h4 : dgt (tf (p + 1)) ≠ -9 := fun q => h3 (Or.inr q)
          by_cases e : j = z.toNat
          · subst e
            rw [up_eq]
            omega
          · rw [up_ne e]
            exact hb j (by omega)
    · rw [prs_end (by omega)]; exact hb
theorem ok12_p {tn r : Int} {tf : Int → Int} {bf lf sz : Nat → Int} (h : prR (prsE tn tf) r (sz 12) (sl12 bf) (sl12 lf)) : okS bf sz 12 := by
  obtain ⟨-, h2, h3, -⟩ := h
  intro j j0 j1
  have j1' : j < sz 12 := j1
  have e : (256 * (12 : Int) + j).toNat = 3072 + j.toNat := by omega
  rw [e]
  have := h3 j.toNat (by omega)
  change bf (3072 + j.toNat) = _ at this
  rw [this]
  exact prs_rg _ _ _ _ _ (Int.le_refl 0) (fun q hq => by omega) j.toNat (by change ((j.toNat : Nat) : Int) < (prsE tn tf).2.1; rw [h2]; omega)
/-- a build's outcome -/
def bldX (R : Int × MS) (r n : Int) (f g : Nat → Int) : Prop := (r = 0 ∧ bldOk R ∧ n = msC R.2 ∧ agr n f (msO R.2) ∧ agr n g (msL R.2)) ∨ (r ≠ 0 ∧ ¬ bldOk R)
theorem bldX_of {tn n r sl to : Int} {tf : Int → Int} {bf bf1 lf1 sz1 ou ol : Nat → Int} (hs : 0 ≤ sl) (ht : 0 ≤ to) (h : bldR (mrun tn tf n (fun j => bf (256 * sl + j).toNat) ou ol) r bf1 lf1 sz1 to) : bldX (run0 tn tf n (fun k => bf (256 * sl.toNat + k))) r (sz1 to.toNat) (fun k => bf1 (256 * to.toNat + k)) (fun k => lf1 (256 * to.toNat + k)) := by
  rw [slN hs] at h
  obtain ⟨k1, k2⟩ := mrun_ou (tn := tn) (tf := tf) (n := n) (f := fun k => bf (256 * sl.toNat + k)) (ou := fun _ => 0) (ol := fun _ => 0) (ou' := ou) (ol' := ol)
  obtain ⟨a1, x1, p1, e1, d1, t1, c1, m1, ou1, ol1, ou2, ol2, g1, g2, g3, g4, g5⟩ := k2
  have c1e : msC (mrun tn tf n (fun k => bf (256 * sl.toNat + k)) ou ol).2 = msC (run0 tn tf n (fun k => bf (256 * sl.toNat + k))).2 := by unfold run0 msC; rw [g1, g2]
  rcases h with ⟨h0, h1, h2, h3, h4, h5⟩ | ⟨h0, h1⟩
  · refine Or.inl ⟨h0, ⟨k1.trans h1, by rw [← c1e]; exact h2⟩, h3.trans c1e, fun j hj => ?_, fun j hj => ?_⟩
    · have hj' : (j : Int) < msC (mrun tn tf n (fun k => bf (256 * sl.toNat + k)) ou ol).2 := by rw [← h3]; exact hj
      have q := h4 (j : Int) (by omega) hj'
      rw [show (256 * to + (j : Int)).toNat = 256 * to.toNat + j by omega, show ((j : Int)).toNat = j by omega] at q
      show bf1 (256 * to.toNat + j) = _
      rw [q]
      unfold msC at hj'
      unfold run0 msO
      rw [g2] at hj' ⊢
      rw [g1]
      exact (g4 j hj').symm
    · have hj' : (j : Int) < msC (mrun tn tf n (fun k => bf (256 * sl.toNat + k)) ou ol).2 := by rw [← h3]; exact hj
      have q := h5 (j : Int) (by omega) hj'
      rw [show (256 * to + (j : Int)).toNat = 256 * to.toNat + j by omega, show ((j : Int)).toNat = j by omega] at q
      show lf1 (256 * to.toNat + j) = _
      rw [q]
      unfold msC at hj'
      unfold run0 msL
      rw [g2] at hj' ⊢
      rw [g1]
      exact (g5 j hj').symm
  · refine Or.inr ⟨h0, fun z => h1 ⟨k1.symm.trans z.1, by rw [c1e]; exact z.2⟩⟩
theorem goR_s {tn n sl hm a x p e d t c : Int} {tf : Int → Int} {bf m ou ol ou0 ol0 : Nat → Int} (hs : 0 ≤ sl) (h : goR (mrun tn tf n (fun j => bf (256 * sl + j).toNat) ou0 ol0) hm a x p e d t c m ou ol) : rnR (run0 tn tf n (fun k => bf (256 * sl.toNat + k))) hm a x p e d t c m ou ol := by
  rw [slN hs] at h
  exact goR_0 h
/-- what a call that only looks leaves as it was -/
def AgB (w : Nat → Int) (B : Nat → Nat → Int) (w1 : Nat → Int) (B1 : Nat → Nat → Int) : Prop := (w1 2 = w 2 ∧ w1 5 = w 5 ∧ w1 35 = w 35) ∧ (B1 53 = B 53 ∧ B1 57 = B 57 ∧ B1 58 = B 58 ∧ B1 59 = B 59 ∧ B1 60 = B 60 ∧ B1 65 = B 65 ∧ B1 66 = B 66 ∧ B1 67 = B 67 ∧ B1 68 = B 68 ∧ B1 69 = B 69) ∧ (∀ q : Nat, q < 3072 → B1 54 q = B 54 q) ∧ (∀ t : Nat, t < 12 → B1 56 t = B 56 t) ∧ (∀ q : Nat, q < 3072 → B1 55 q = B 55 q)
theorem AgB.refl (w : Nat → Int) (B : Nat → Nat → Int) : AgB w B w B := ⟨⟨rfl, rfl, rfl⟩, ⟨rfl, rfl, rfl, rfl, rfl, rfl, rfl, rfl, rfl, rfl⟩, fun _ _ => rfl, fun _ _ => rfl, fun _ _ => rfl⟩
theorem AgB.tr {w w1 w2 : Nat → Int} {B B1 B2 : Nat → Nat → Int} (a : AgB w B w1 B1) (b : AgB w1 B1 w2 B2) : AgB w B w2 B2 := by
  obtain ⟨⟨a1, a2, a3⟩, ⟨c1, c2, c3, c4, c5, c6, c7, c8, c9, c10⟩, d, e, f⟩ := a
  obtain ⟨⟨a1', a2', a3'⟩, ⟨c1', c2', c3', c4', c5', c6', c7', c8', c9', c10'⟩, d', e', f'⟩ := b
  exact ⟨⟨a1'.trans a1, a2'.trans a2, a3'.trans a3⟩, ⟨c1'.trans c1, c2'.trans c2, c3'.trans c3, c4'.trans c4, c5'.trans c5, c6'.trans c6, c7'.trans c7, c8'.trans c8, c9'.trans c9, c10'.trans c10⟩, fun q hq => (d' q hq).trans (d q hq), fun t ht => (e' t ht).trans (e t ht), fun q hq => (f' q hq).trans (f q hq)⟩
theorem Tg.agB {w w1 : Nat → Int} {B B1 : Nat → Nat → Int} (a : AgB w B w1 B1) (hw : w 5 ≤ 12) (ho : oki 0 256 (B 56)) (H : Tg w B) : Tg w1 B1 := by
  obtain ⟨⟨a1, a2, a3⟩, ⟨c1, c2, c3, c4, c5, c6, c7, c8, c9, c10⟩, d, e, -⟩ := a
  obtain ⟨H0, H⟩ := H
  refine ⟨by rw [c6]; exact H0, fun t h0 h1 => ?_⟩
  rw [a2] at h1
  obtain ⟨p, q, r⟩ := H t h0 h1
  refine ⟨fun j j0 j1 => ?_, by rw [c4]; exact q, by rw [c2, c4]; exact r⟩
  have e1 := e t.toNat (by omega)
  rw [e1] at j1
  have hb := ho t.toNat
  rw [d _ (by omega)]
  exact p j j0 j1
theorem AgB.T {w w1 : Nat → Int} {B B1 : Nat → Nat → Int} (a : AgB w B w1 B1) (hw : w 5 ≤ 12) (ho : oki 0 256 (B 56)) : TR (w 5).toNat (refV B) (refB B) (refL B) (refV B1) (refB B1) (refL B1) := by
  obtain ⟨-, ⟨-, c2, c3, c4, c5, -⟩, d, e, f⟩ := a
  intro j hj
  have hb := ho j
  refine ⟨⟨e j (by omega), congrFun c2 j, congrFun c3 j, congrFun c4 j, congrFun c5 j⟩, fun k hk => ?_, fun k hk => ?_⟩
  · have hk' : (k : Int) < B 56 j := hk
    exact d _ (by omega)
  · have hk' : (k : Int) < B 56 j := hk
    exact f _ (by omega)
/-- what a call that may make or change tools leaves as it was -/
def AgC (w : Nat → Int) (B : Nat → Nat → Int) (w1 : Nat → Int) (B1 : Nat → Nat → Int) : Prop := w1 2 = w 2 ∧ w1 35 = w 35 ∧ B1 53 = B 53 ∧ B1 65 = B 65 ∧ B1 66 = B 66 ∧ B1 67 = B 67
theorem AgC.refl (w : Nat → Int) (B : Nat → Nat → Int) : AgC w B w B := ⟨rfl, rfl, rfl, rfl, rfl, rfl⟩
theorem AgC.tr {w w1 w2 : Nat → Int} {B B1 B2 : Nat → Nat → Int} (a : AgC w B w1 B1) (b : AgC w1 B1 w2 B2) : AgC w B w2 B2 := ⟨b.1.trans a.1, b.2.1.trans a.2.1, b.2.2.1.trans a.2.2.1, b.2.2.2.1.trans a.2.2.2.1, b.2.2.2.2.1.trans a.2.2.2.2.1, b.2.2.2.2.2.trans a.2.2.2.2.2⟩
theorem AgB.A {w w1 : Nat → Int} {B B1 : Nat → Nat → Int} (a : AgB w B w1 B1) : AgC w B w1 B1 := ⟨a.1.1, a.1.2.2, a.2.1.1, a.2.1.2.2.2.2.2.1, a.2.1.2.2.2.2.2.2.1, a.2.1.2.2.2.2.2.2.2.1⟩
def C9B (h : MH) (ty tx : Nat → Int32) (B : Nat → Nat → Int) : Prop := h[51]? = some (.inl (1, 200, .inl ty)) ∧ h[52]? = some (.inl (1, 1600, .inl tx)) ∧ h[53]? = some (.inl (0, 8, .inl (zA (B 53)))) ∧ h[54]? = some (.inl (0, 4096, .inl (zA (B 54)))) ∧ h[55]? = some (.inl (0, 4096, .inl (zA (B 55)))) ∧ h[56]? = some (.inl (0, 16, .inl (zA (B 56)))) ∧ h[57]? = some (.inl (0, 12, .inl (zA (B 57)))) ∧ h[58]? = some (.inl (0, 12, .inl (zA (B 58)))) ∧ h[59]? = some (.inl (0, 12, .inl (zA (B 59)))) ∧ h[60]? = some (.inl (0, 12, .inl (zA (B 60)))) ∧ h[61]? = some (.inl (0, 26, .inl (zA (B 61)))) ∧ h[62]? = some (.inl (0, 256, .inl (zA (B 62)))) ∧ h[63]? = some (.inl (0, 256, .inl (zA (B 63)))) ∧ h[64]? = some (.inl (0, 256, .inl (zA (B 64)))) ∧ h[65]? = some (.inl (0, 6, .inl (zA (B 65)))) ∧ h[66]? = some (.inl (0, 256, .inl (zA (B 66)))) ∧ h[67]? = some (.inl (0, 256, .inl (zA (B 67)))) ∧ h[68]? = some (.inl (0, 12, .inl (zA (B 68)))) ∧ h[69]? = some (.inl (0, 12, .inl (zA (B 69)))) ∧ h[70]? = some (.inl (0, 12, .inl (zA (B 70)))) ∧ okB ty ∧ okB tx
def BrB (B : Nat → Nat → Int) : Prop := oki 0 200 (B 53) ∧ okr (B 54) ∧ oki 0 300 (B 55) ∧ oki 0 256 (B 56) ∧ okr (B 57) ∧ oki 0 7 (B 58) ∧ oki (-9) 11 (B 59) ∧ okr (B 60) ∧ oki (-9) 255 (B 61) ∧ oki 0 255 (B 62) ∧ oki 0 255 (B 63) ∧ oki 0 300 (B 64) ∧ okr (B 65) ∧ okr (B 66) ∧ okr (B 67) ∧ oki 0 65535 (B 68) ∧ oki 0 65535 (B 69) ∧ okr (B 70)
def R9B (h : MH) (tr : Int64) (ty tx : Nat → Int32) (w : Nat → Int) (B : Nat → Nat → Int) : Prop := h[50]? = some (O9 tr w) ∧ C9B h ty tx B ∧ Wr w ∧ BrB B ∧ Tg w B
set_option maxRecDepth 100000 in
theorem b_rp {l : Launch} {h : MH} {Q : Option Value → MH → Prop} {tr : Int64} {ty tx : Nat → Int32} {w : Nat → Int} {B : Nat → Nat → Int} {i : Int} (H : R9B h tr ty tx w B) (ri : 0 ≤ i ∧ i ≤ 7) (k : ∀ (h1 : MH) (w1 : Nat → Int) (B1 : Nat → Nat → Int) (r : Int), (r = -9 ∨ (0 ≤ r ∧ r ≤ 200)) → (r = -9 → okS (B1 54) (B1 56) 12 ∧ True) → (nrR (prsE (B 53 i.toNat) (fun j => hb tx (200 * i + j))) r (B1 56 12) (refB B1 12) (refL B1 12)) → R9B h1 tr ty tx w1 B1 → AgB w B w1 B1 → Sm [50, 54, 55, 56, 61, 62, 63, 64] h h1 → Q (some (.int (iZ r))) h1) : Go l mX9_readPairs 0 [some (.ref 50), some (.int (iZ i)), some (.int (iZ 12)), none, none, none] [] h Q := by
  obtain ⟨F50, ⟨F51, F52, F53, F54, F55, F56, F57, F58, F59, F60, F61, F62, F63, F64, F65, F66, F67, F68, F69, F70, kty, ktx⟩, ⟨r2, r5, r13, r14, r15, r16, r17, r18, r19, r20, r25, r26, r27, r28, r29, r30, r31, r35⟩, ⟨o53, o54, o55, o56, o57, o58, o59, o60, o61, o62, o63, o64, o65, o66, o67, o68, o69, o70⟩, hT⟩ := id H
  refine f_rp F50 F52 F53 F54 F55 F56 o53 o54 o55 o56 r2 r5 r13 r14 r15 r16 r17 r18 r19 r20 r25 r26 r27 r28 r29 r30 r31 r35 ri rfl (fun h1 x13 x14 x15 x16 y54 y55 y56 r q13 q14 q15 q16 p54 p55 p56 hr c0 c1 c2 c3 s1 g50 g54 g55 g56 => ?_)
  have hA : AgB w B (va_up (va_up (va_up (va_up w 13 x13) 14 x14) 15 x15) 16 x16) (va_up (va_up (va_up B 54 y54) 55 y55) 56 y56) := ⟨⟨rfl, rfl, rfl⟩, ⟨rfl, rfl, rfl, rfl, rfl, rfl, rfl, rfl, rfl, rfl⟩, c0, (fun t ht => c2 t (by omega)), c1⟩
  have hR : R9B h1 tr ty tx (va_up (va_up (va_up (va_up w 13 x13) 14 x14) 15 x15) 16 x16) (va_up (va_up (va_up B 54 y54) 55 y55) 56 y56) := ⟨g50, ⟨(s1.get (by decide) F51), (s1.get (by decide) F52), (s1.get (by decide) F53), g54, g55, g56, (s1.get (by decide) F57), (s1.get (by decide) F58), (s1.get (by decide) F59), (s1.get (by decide) F60), (s1.get (by decide) F61), (s1.get (by decide) F62), (s1.get (by decide) F63), (s1.get (by decide) F64), (s1.get (by decide) F65), (s1.get (by decide) F66), (s1.get (by decide) F67), (s1.get (by decide) F68), (s1.get (by decide) F69), (s1.get (by decide) F70), kty, ktx⟩, ⟨r2, r5, q13, q14, q15, q16, r17, r18, r19, r20, r25, r26, r27, r28, r29, r30, r31, r35⟩, ⟨o53, p54, p55, p56, o57, o58, o59, o60, o61, o62, o63, o64, o65, o66, o67, o68, o69, o70⟩, (Tg.agB hA r5.2 o56 hT)⟩
  exact k h1 (va_up (va_up (va_up (va_up w 13 x13) 14 x14) 15 x15) 16 x16) (va_up (va_up (va_up B 54 y54) 55 y55) 56 y56) r hr (fun _ => ⟨ok12_p c3, trivial⟩) (prR.n c3) hR hA (s1.mono (by simp))
set_option maxRecDepth 100000 in
theorem b_rn {l : Launch} {h : MH} {Q : Option Value → MH → Prop} {tr : Int64} {ty tx : Nat → Int32} {w : Nat → Int} {B : Nat → Nat → Int} {i : Int} (H : R9B h tr ty tx w B) (ri : 0 ≤ i ∧ i ≤ 7) (k : ∀ (h1 : MH) (w1 : Nat → Int) (B1 : Nat → Nat → Int) (r : Int), (r = -9 ∨ (0 ≤ r ∧ r ≤ 300)) → (r = -9 → okS (B1 54) (B1 56) 12 ∧ True) → (nrR (namE (B 53 i.toNat) (fun j => hb tx (200 * i + j))) r (B1 56 12) (refB B1 12) (refL B1 12)) → R9B h1 tr ty tx w1 B1 → AgB w B w1 B1 → Sm [50, 54, 55, 56, 61, 62, 63, 64] h h1 → Q (some (.int (iZ r))) h1) : Go l mX9_readNames 0 [some (.ref 50), some (.int (iZ i)), some (.int (iZ 12)), none, none, none, none] [] h Q := by
  obtain ⟨F50, ⟨F51, F52, F53, F54, F55, F56, F57, F58, F59, F60, F61, F62, F63, F64, F65, F66, F67, F68, F69, F70, kty, ktx⟩, ⟨r2, r5, r13, r14, r15, r16, r17, r18, r19, r20, r25, r26, r27, r28, r29, r30, r31, r35⟩, ⟨o53, o54, o55, o56, o57, o58, o59, o60, o61, o62, o63, o64, o65, o66, o67, o68, o69, o70⟩, hT⟩ := id H
  refine f_rn F50 F52 F53 F54 F55 F56 F61 o53 o54 o55 o56 o61 r2 r5 r13 r14 r15 r16 r17 r18 r19 r20 r25 r26 r27 r28 r29 r30 r31 r35 ri ktx (fun h1 x13 x14 x15 x16 x17 x18 x19 x20 y54 y55 y56 y61 r q13 q14 q15 q16 q17 q18 q19 q20 p54 p55 p56 p61 hr c0 c1 c2 c3 c4 s1 g50 g54 g55 g56 g61 => ?_)
  have hA : AgB w B (va_up (va_up (va_up (va_up (va_up (va_up (va_up (va_up w 13 x13) 14 x14) 15 x15) 16 x16) 17 x17) 18 x18) 19 x19) 20 x20) (va_up (va_up (va_up (va_up B 54 y54) 55 y55) 56 y56) 61 y61) := ⟨⟨rfl, rfl, rfl⟩, ⟨rfl, rfl, rfl, rfl, rfl, rfl, rfl, rfl, rfl, rfl⟩, c0, (fun t ht => c2 t (by omega)), c1⟩
  have hR : R9B h1 tr ty tx (va_up (va_up (va_up (va_up (va_up (va_up (va_up (va_up w 13 x13) 14 x14) 15 x15) 16 x16) 17 x17) 18 x18) 19 x19) 20 x20) (va_up (va_up (va_up (va_up B 54 y54) 55 y55) 56 y56) 61 y61) := ⟨g50, ⟨(s1.get (by decide) F51), (s1.get (by decide) F52), (s1.get (by decide) F53), g54, g55, g56, (s1.get (by decide) F57), (s1.get (by decide) F58), (s1.get (by decide) F59), (s1.get (by decide) F60), g61, (s1.get (by decide) F62), (s1.get (by decide) F63), (s1.get (by decide) F64), (s1.get (by decide) F65), (s1.get (by decide) F66), (s1.get (by decide) F67), (s1.get (by decide) F68), (s1.get (by decide) F69), (s1.get (by decide) F70), kty, ktx⟩, ⟨r2, r5, q13, q14, q15, q16, q17, q18, q19, q20, r25, r26, r27, r28, r29, r30, r31, r35⟩, ⟨o53, p54, p55, p56, o57, o58, o59, o60, p61, o62, o63, o64, o65, o66, o67, o68, o69, o70⟩, (Tg.agB hA r5.2 o56 hT)⟩
  exact k h1 (va_up (va_up (va_up (va_up (va_up (va_up (va_up (va_up w 13 x13) 14 x14) 15 x15) 16 x16) 17 x17) 18 x18) 19 x19) 20 x20) (va_up (va_up (va_up (va_up B 54 y54) 55 y55) 56 y56) 61 y61) r hr (fun q => ⟨ok12_S (c3 q).2, trivial⟩) c4 hR hA (s1.mono (by simp))
set_option maxRecDepth 100000 in
theorem b_blds {l : Launch} {h : MH} {Q : Option Value → MH → Prop} {tr : Int64} {ty tx : Nat → Int32} {w : Nat → Int} {B : Nat → Nat → Int} {sl i to : Int} (H : R9B h tr ty tx w B) (rsl : 0 ≤ sl ∧ sl ≤ 15) (ri : 0 ≤ i ∧ i ≤ 7) (rto : 12 ≤ to ∧ to ≤ 15) (hS : okS (B 54) (B 56) sl) (k : ∀ (h1 : MH) (w1 : Nat → Int) (B1 : Nat → Nat → Int) (r : Int), (0 ≤ r ∧ r ≤ 4) → (r = 0 → okS (B1 54) (B1 56) to ∧ True) → (∀ s : Int, 0 ≤ s → s ≤ 15 → s ≠ to → okS (B 54) (B 56) s → okS (B1 54) (B1 56) s) → (bldX (run0 (B 53 i.toNat) (fun j => hb tx (200 * i + j)) (B 56 sl.toNat) (refB B sl.toNat)) r (B1 56 to.toNat) (refB B1 to.toNat) (refL B1 to.toNat)) → ((∀ q : Nat, ((q : Int) < 256 * to ∨ 256 * to + 256 ≤ q) → B1 54 q = B 54 q ∧ B1 55 q = B 55 q) ∧ (∀ t : Nat, t ≠ to.toNat → B1 56 t = B 56 t)) → R9B h1 tr ty tx w1 B1 → AgB w B w1 B1 → Sm [50, 54, 55, 56, 61, 62, 63, 64] h h1 → Q (some (.int (iZ r))) h1) : Go l mX9_builds 0 [some (.ref 50), some (.int (iZ sl)), some (.int (iZ i)), some (.int (iZ to)), none] [] h Q := by
  obtain ⟨F50, ⟨F51, F52, F53, F54, F55, F56, F57, F58, F59, F60, F61, F62, F63, F64, F65, F66, F67, F68, F69, F70, kty, ktx⟩, ⟨r2, r5, r13, r14, r15, r16, r17, r18, r19, r20, r25, r26, r27, r28, r29, r30, r31, r35⟩, ⟨o53, o54, o55, o56, o57, o58, o59, o60, o61, o62, o63, o64, o65, o66, o67, o68, o69, o70⟩, hT⟩ := id H
  refine f_blds F50 F52 F53 F54 F55 F56 F62 F63 F64 o53 o54 o55 o56 o62 o63 o64 r2 r5 r13 r14 r15 r16 r17 r18 r19 r20 r25 r26 r27 r28 r29 r30 r31 r35 rsl ri rto hS (fun h1 x25 x26 x27 x28 x29 x30 x31 y54 y55 y56 y62 y63 y64 r q25 q26 q27 q28 q29 q30 q31 p54 p55 p56 p62 p63 p64 hr c0 c1 c2 c3 c4 s1 g50 g54 g55 g56 g62 g63 g64 => ?_)
  have hA : AgB w B (va_up (va_up (va_up (va_up (va_up (va_up (va_up w 25 x25) 26 x26) 27 x27) 28 x28) 29 x29) 30 x30) 31 x31) (va_up (va_up (va_up (va_up (va_up (va_up B 54 y54) 55 y55) 56 y56) 62 y62) 63 y63) 64 y64) := ⟨⟨rfl, rfl, rfl⟩, ⟨rfl, rfl, rfl, rfl, rfl, rfl, rfl, rfl, rfl, rfl⟩, (fun q hq => c0 q (by omega)), (fun t ht => c2 t (by omega)), (fun q hq => c1 q (by omega))⟩
  have hR : R9B h1 tr ty tx (va_up (va_up (va_up (va_up (va_up (va_up (va_up w 25 x25) 26 x26) 27 x27) 28 x28) 29 x29) 30 x30) 31 x31) (va_up (va_up (va_up (va_up (va_up (va_up B 54 y54) 55 y55) 56 y56) 62 y62) 63 y63) 64 y64) := ⟨g50, ⟨(s1.get (by decide) F51), (s1.get (by decide) F52), (s1.get (by decide) F53), g54, g55, g56, (s1.get (by decide) F57), (s1.get (by decide) F58), (s1.get (by decide) F59), (s1.get (by decide) F60), (s1.get (by decide) F61), g62, g63, g64, (s1.get (by decide) F65), (s1.get (by decide) F66), (s1.get (by decide) F67), (s1.get (by decide) F68), (s1.get (by decide) F69), (s1.get (by decide) F70), kty, ktx⟩, ⟨r2, r5, r13, r14, r15, r16, r17, r18, r19, r20, q25, q26, q27, q28, q29, q30, q31, r35⟩, ⟨o53, p54, p55, p56, o57, o58, o59, o60, o61, p62, p63, p64, o65, o66, o67, o68, o69, o70⟩, (Tg.agB hA r5.2 o56 hT)⟩
  exact k h1 (va_up (va_up (va_up (va_up (va_up (va_up (va_up w 25 x25) 26 x26) 27 x27) 28 x28) 29 x29) 30 x30) 31 x31) (va_up (va_up (va_up (va_up (va_up (va_up B 54 y54) 55 y55) 56 y56) 62 y62) 63 y63) 64 y64) r hr (fun q => ⟨c4 q, trivial⟩) (fun s s0 s1 s2 => okS_fr s0 (by omega) s2 o56 c0 c2) (bldX_of (by omega) (by omega) c3) ⟨fun q hq => ⟨c0 q hq, c1 q hq⟩, c2⟩ hR hA (s1.mono (by simp))
set_option maxRecDepth 100000 in
theorem b_go {l : Launch} {h : MH} {Q : Option Value → MH → Prop} {tr : Int64} {ty tx : Nat → Int32} {w : Nat → Int} {B : Nat → Nat → Int} {sl i : Int} (H : R9B h tr ty tx w B) (rsl : 0 ≤ sl ∧ sl ≤ 15) (ri : 0 ≤ i ∧ i ≤ 7) (hS : okS (B 54) (B 56) sl) (k : ∀ (h1 : MH) (w1 : Nat → Int) (B1 : Nat → Nat → Int) (r : Int), (0 ≤ r ∧ r ≤ 3) → (rnR (run0 (B 53 i.toNat) (fun j => hb tx (200 * i + j)) (B 56 sl.toNat) (refB B sl.toNat)) r (w1 26) (w1 27) (w1 28) (w1 31) (w1 29) (w1 30) (w1 25) (B1 62) (B1 63) (B1 64)) → (B1 54 = B 54 ∧ B1 55 = B 55 ∧ B1 56 = B 56) → R9B h1 tr ty tx w1 B1 → AgB w B w1 B1 → Sm [50, 54, 55, 56, 61, 62, 63, 64] h h1 → Q (some (.int (iZ r))) h1) : Go l mX9_go 0 [some (.ref 50), some (.int (iZ sl)), some (.int (iZ i)), none] [] h Q := by
  obtain ⟨F50, ⟨F51, F52, F53, F54, F55, F56, F57, F58, F59, F60, F61, F62, F63, F64, F65, F66, F67, F68, F69, F70, kty, ktx⟩, ⟨r2, r5, r13, r14, r15, r16, r17, r18, r19, r20, r25, r26, r27, r28, r29, r30, r31, r35⟩, ⟨o53, o54, o55, o56, o57, o58, o59, o60, o61, o62, o63, o64, o65, o66, o67, o68, o69, o70⟩, hT⟩ := id H
  refine f_go F50 F52 F53 F54 F56 F62 F63 F64 o53 o54 o56 o62 o63 o64 r2 r5 r13 r14 r15 r16 r17 r18 r19 r20 r25 r26 r27 r28 r29 r30 r31 r35 rsl ri hS (fun h1 x25 x26 x27 x28 x29 x30 x31 y62 y63 y64 r q25 q26 q27 q28 q29 q30 q31 p62 p63 p64 hr c0 s1 g50 g62 g63 g64 => ?_)
  have hA : AgB w B (va_up (va_up (va_up (va_up (va_up (va_up (va_up w 25 x25) 26 x26) 27 x27) 28 x28) 29 x29) 30 x30) 31 x31) (va_up (va_up (va_up B 62 y62) 63 y63) 64 y64) := ⟨⟨rfl, rfl, rfl⟩, ⟨rfl, rfl, rfl, rfl, rfl, rfl, rfl, rfl, rfl, rfl⟩, (fun q hq => rfl), (fun t ht => rfl), (fun q hq => rfl)⟩
  have hR : R9B h1 tr ty tx (va_up (va_up (va_up (va_up (va_up (va_up (va_up w 25 x25) 26 x26) 27 x27) 28 x28) 29 x29) 30 x30) 31 x31) (va_up (va_up (va_up B 62 y62) 63 y63) 64 y64) := ⟨g50, ⟨(s1.get (by decide) F51), (s1.get (by decide) F52), (s1.get (by decide) F53), (s1.get (by decide) F54), (s1.get (by decide) F55), (s1.get (by decide) F56), (s1.get (by decide) F57), (s1.get (by decide) F58), (s1.get (by decide) F59), (s1.get (by decide) F60), (s1.get (by decide) F61), g62, g63, g64, (s1.get (by decide) F65), (s1.get (by decide) F66), (s1.get (by decide) F67), (s1.get (by decide) F68), (s1.get (by decide) F69), (s1.get (by decide) F70), kty, ktx⟩, ⟨r2, r5, r13, r14, r15, r16, r17, r18, r19, r20, q25, q26, q27, q28, q29, q30, q31, r35⟩, ⟨o53, o54, o55, o56, o57, o58, o59, o60, o61, p62, p63, p64, o65, o66, o67, o68, o69, o70⟩, (Tg.agB hA r5.2 o56 hT)⟩
  exact k h1 (va_up (va_up (va_up (va_up (va_up (va_up (va_up w 25 x25) 26 x26) 27 x27) 28 x28) 29 x29) 30 x30) 31 x31) (va_up (va_up (va_up B 62 y62) 63 y63) 64 y64) r hr (goR_s (by omega) c0) ⟨rfl, rfl, rfl⟩ hR hA (s1.mono (by simp))
set_option maxRecDepth 100000 in
theorem b_move {l : Launch} {h : MH} {Q : Option Value → MH → Prop} {tr : Int64} {ty tx : Nat → Int32} {w : Nat → Int} {B : Nat → Nat → Int} {sa sb : Int} (H : R9B h tr ty tx w B) (rsa : 0 ≤ sa ∧ sa ≤ 15) (rsb : 12 ≤ sb ∧ sb ≤ 15) (hab : sa ≠ sb) (k : ∀ (h1 : MH) (w1 : Nat → Int) (B1 : Nat → Nat → Int), (∀ s : Int, 0 ≤ s → s ≤ 15 → s ≠ sb → okS (B 54) (B 56) s → okS (B1 54) (B1 56) s) → (okS (B 54) (B 56) sa → okS (B1 54) (B1 56) sb) → (B1 56 sb.toNat = B 56 sa.toNat ∧ agr 256 (refB B1 sb.toNat) (refB B sa.toNat) ∧ agr 256 (refL B1 sb.toNat) (refL B sa.toNat)) → ((∀ q : Nat, ((q : Int) < 256 * sb ∨ 256 * sb + 256 ≤ q) → B1 54 q = B 54 q ∧ B1 55 q = B 55 q) ∧ (∀ t : Nat, t ≠ sb.toNat → B1 56 t = B 56 t)) → R9B h1 tr ty tx w1 B1 → AgB w B w1 B1 → Sm [50, 54, 55, 56, 61, 62, 63, 64] h h1 → Q none h1) : Go l mX9_move 0 [some (.ref 50), some (.int (iZ sa)), some (.int (iZ sb))] [] h Q := by
  obtain ⟨F50, ⟨F51, F52, F53, F54, F55, F56, F57, F58, F59, F60, F61, F62, F63, F64, F65, F66, F67, F68, F69, F70, kty, ktx⟩, ⟨r2, r5, r13, r14, r15, r16, r17, r18, r19, r20, r25, r26, r27, r28, r29, r30, r31, r35⟩, ⟨o53, o54, o55, o56, o57, o58, o59, o60, o61, o62, o63, o64, o65, o66, o67, o68, o69, o70⟩, hT⟩ := id H
  refine f_move F50 F54 F55 F56 o54 o55 o56 r2 r5 r13 r14 r15 r16 r17 r18 r19 r20 r25 r26 r27 r28 r29 r30 r31 r35 rsa (by omega) hab (fun h1 y54 y55 y56 p54 p55 p56 c0 c1 c2 c3 c4 s1 g54 g55 g56 => ?_)
  have hA : AgB w B w (va_up (va_up (va_up B 54 y54) 55 y55) 56 y56) := ⟨⟨rfl, rfl, rfl⟩, ⟨rfl, rfl, rfl, rfl, rfl, rfl, rfl, rfl, rfl, rfl⟩, (fun q hq => c0 q (by omega)), (fun t ht => by rw [up_eq, c4]; exact up_ne (by omega)), (fun q hq => c1 q (by omega))⟩
  have hR : R9B h1 tr ty tx w (va_up (va_up (va_up B 54 y54) 55 y55) 56 y56) := ⟨(s1.get (by decide) F50), ⟨(s1.get (by decide) F51), (s1.get (by decide) F52), (s1.get (by decide) F53), g54, g55, g56, (s1.get (by decide) F57), (s1.get (by decide) F58), (s1.get (by decide) F59), (s1.get (by decide) F60), (s1.get (by decide) F61), (s1.get (by decide) F62), (s1.get (by decide) F63), (s1.get (by decide) F64), (s1.get (by decide) F65), (s1.get (by decide) F66), (s1.get (by decide) F67), (s1.get (by decide) F68), (s1.get (by decide) F69), (s1.get (by decide) F70), kty, ktx⟩, ⟨r2, r5, r13, r14, r15, r16, r17, r18, r19, r20, r25, r26, r27, r28, r29, r30, r31, r35⟩, ⟨o53, p54, p55, p56, o57, o58, o59, o60, o61, o62, o63, o64, o65, o66, o67, o68, o69, o70⟩, (Tg.agB hA r5.2 o56 hT)⟩
  exact k h1 w (va_up (va_up (va_up B 54 y54) 55 y55) 56 y56) (fun s s0 s1 s2 => okS_fr s0 (by omega) s2 o56 c0 (fun t ht => by rw [up_eq, c4]; exact up_ne ht)) (fun H j j0 j1 => by
    have hb := o56 sa.toNat
    change j < y56 sb.toNat at j1
    rw [c4, up_eq] at j1
    show 0 ≤ y54 (256 * sb + j).toNat ∧ y54 (256 * sb + j).toNat ≤ 255
    rw [c2 j j0 (by omega)]
    exact H j j0 j1) ⟨by show y56 sb.toNat = _; rw [c4, up_eq], (fun j hj => by
    have q := c2 (j : Int) (by omega) hj
    rw [show (256 * sb + (j : Int)).toNat = 256 * sb.toNat + j by omega, show (256 * sa + (j : Int)).toNat = 256 * sa.toNat + j by omega] at q
    exact q), (fun j hj => by
    have q := c3 (j : Int) (by omega) hj
    rw [show (256 * sb + (j : Int)).toNat = 256 * sb.toNat + j by omega, show (256 * sa + (j : Int)).toNat = 256 * sa.toNat + j by omega] at q
    exact q)⟩ ⟨fun q hq => ⟨c0 q hq, c1 q hq⟩, fun t ht => by show y56 t = _; rw [c4]; exact up_ne ht⟩ hR hA (s1.mono (by simp))
set_option maxRecDepth 100000 in
theorem b_unl {l : Launch} {h : MH} {Q : Option Value → MH → Prop} {tr : Int64} {ty tx : Nat → Int32} {w : Nat → Int} {B : Nat → Nat → Int} {sa sb : Int} (H : R9B h tr ty tx w B) (rsa : 0 ≤ sa ∧ sa ≤ 15) (rsb : 0 ≤ sb ∧ sb ≤ 15) (k : ∀ r : Int, (r = ulk (B 56 sa.toNat) (refB B sa.toNat) (B 56 sb.toNat) (refB B sb.toNat) ∧ 0 ≤ r ∧ r ≤ 257) → Q (some (.int (iZ r))) h) : Go l mX9_unlike 0 [some (.ref 50), some (.int (iZ sa)), some (.int (iZ sb)), none, none] [] h Q := by
  obtain ⟨F50, ⟨F51, F52, F53, F54, F55, F56, F57, F58, F59, F60, F61, F62, F63, F64, F65, F66, F67, F68, F69, F70, kty, ktx⟩, ⟨r2, r5, r13, r14, r15, r16, r17, r18, r19, r20, r25, r26, r27, r28, r29, r30, r31, r35⟩, ⟨o53, o54, o55, o56, o57, o58, o59, o60, o61, o62, o63, o64, o65, o66, o67, o68, o69, o70⟩, hT⟩ := id H
  refine f_unl F50 F54 F56 o54 o56 r2 r5 r13 r14 r15 r16 r17 r18 r19 r20 r25 r26 r27 r28 r29 r30 r31 r35 rsa rsb (fun r hr => k r ?_)
  rw [slN (by omega), slN (by omega)] at hr
  exact hr
set_option maxRecDepth 100000 in
theorem b_isTool {l : Launch} {h : MH} {Q : Option Value → MH → Prop} {tr : Int64} {ty tx : Nat → Int32} {w : Nat → Int} {B : Nat → Nat → Int} {v : Int} (H : R9B h tr ty tx w B) (rv : rg v) (k : ∀ r : Int, ((r = 1 ∧ 0 ≤ v ∧ v < w 5) ∨ (r = 0 ∧ (v < 0 ∨ w 5 ≤ v))) → Q (some (.int (iZ r))) h) : Go l mX9_isTool 0 [some (.ref 50), some (.int (iZ v))] [] h Q := by
  obtain ⟨F50, ⟨F51, F52, F53, F54, F55, F56, F57, F58, F59, F60, F61, F62, F63, F64, F65, F66, F67, F68, F69, F70, kty, ktx⟩, ⟨r2, r5, r13, r14, r15, r16, r17, r18, r19, r20, r25, r26, r27, r28, r29, r30, r31, r35⟩, ⟨o53, o54, o55, o56, o57, o58, o59, o60, o61, o62, o63, o64, o65, o66, o67, o68, o69, o70⟩, hT⟩ := id H
  exact n_isTool F50 r2 r5 r13 r14 r15 r16 r17 r18 r19 r20 r25 r26 r27 r28 r29 r30 r31 r35 rv k
set_option maxRecDepth 100000 in
theorem b_isEd {l : Launch} {h : MH} {Q : Option Value → MH → Prop} {tr : Int64} {ty tx : Nat → Int32} {w : Nat → Int} {B : Nat → Nat → Int} {v : Int} (H : R9B h tr ty tx w B) (rv : rg v) (k : ∀ r : Int, ((r = 1 ∧ 0 ≤ v ∧ v < w 35) ∨ (r = 0 ∧ (v < 0 ∨ w 35 ≤ v))) → Q (some (.int (iZ r))) h) : Go l mX9_isEdition 0 [some (.ref 50), some (.int (iZ v))] [] h Q := by
  obtain ⟨F50, ⟨F51, F52, F53, F54, F55, F56, F57, F58, F59, F60, F61, F62, F63, F64, F65, F66, F67, F68, F69, F70, kty, ktx⟩, ⟨r2, r5, r13, r14, r15, r16, r17, r18, r19, r20, r25, r26, r27, r28, r29, r30, r31, r35⟩, ⟨o53, o54, o55, o56, o57, o58, o59, o60, o61, o62, o63, o64, o65, o66, o67, o68, o69, o70⟩, hT⟩ := id H
  exact n_isEd F50 r2 r5 r13 r14 r15 r16 r17 r18 r19 r20 r25 r26 r27 r28 r29 r30 r31 r35 rv k

/-- the last slot moved to the new tool's -/
def mvT (w : Nat → Int) (B B1 : Nat → Nat → Int) : Prop := (∀ q : Nat, ((q : Int) < 256 * w 5 ∨ 256 * w 5 + 256 ≤ q) → B1 54 q = B 54 q ∧ B1 55 q = B 55 q) ∧ B1 56 = va_up (B 56) (w 5).toNat (B 56 12) ∧ agr 256 (refB B1 (w 5).toNat) (refB B 12) ∧ agr 256 (refL B1 (w 5).toNat) (refL B 12) ∧ B1 57 = B 57 ∧ B1 58 = B 58 ∧ B1 59 = B 59 ∧ B1 60 = B 60
/-- the new tool's row -/
def nwT (w : Nat → Int) (B : Nat → Nat → Int) (w1 : Nat → Int) (B1 : Nat → Nat → Int) (x i y : Int) : Prop := w1 5 = w 5 + 1 ∧ B1 57 = va_up (B 57) (w 5).toNat x ∧ B1 58 = va_up (B 58) (w 5).toNat i ∧ B1 59 = va_up (B 59) (w 5).toNat y ∧ B1 60 = va_up (B 60) (w 5).toNat 0 ∧ B1 54 = B 54 ∧ B1 55 = B 55 ∧ B1 56 = B 56
theorem kp_ref {w w1 w3 : Nat → Int} {B B1 B2 B3 : Nat → Nat → Int} {x i y : Int} (a : AgB w B w1 B1) (h0 : 0 ≤ w 5) (h1 : w 5 < 12) (ho : oki 0 256 (B 56)) (ho1 : oki 0 256 (B1 56)) (m : mvT w1 B1 B2) (n : nwT w1 B2 w3 B3 x i y) : kpP (w 5).toNat (refV B) (refB B) (refL B) (B1 56 12) (refB B1 12) (refL B1 12) x i y (w1 5) (w3 5).toNat (refV B3) (refB B3) (refL B3) := by
  have e5 : w1 5 = w 5 := a.1.2.1
  have T1 := a.T (by omega) ho
  obtain ⟨m1, m2, m3, m4, m5, m6, m7, m8⟩ := m
  obtain ⟨n1, n2, n3, n4, n5, n6, n7, n8⟩ := n
  rw [e5] at m1 m2 m3 m4 n1 n2 n3 n4 n5
  have hb := ho1 12
  refine ⟨fun z => ⟨by omega, by omega, ⟨?_, ?_, ?_, ?_, ?_⟩, fun j hj => ?_, fun j hj => ?_⟩, fun z => by omega, T1.tr (fun j hj => ?_)⟩
  · show B3 56 (w 5).toNat = B1 56 12
    rw [n8, m2, up_eq]
  · show B3 57 (w 5).toNat = x
    rw [n2, up_eq]
  · show B3 58 (w 5).toNat = i
    rw [n3, up_eq]
  · show B3 59 (w 5).toNat = y
    rw [n4, up_eq]
  · show B3 60 (w 5).toNat = 0
    rw [n5, up_eq]
  · show B3 54 (256 * (w 5).toNat + j) = refB B1 12 j
    rw [n6]
    exact m3 j (by omega)
  · show B3 55 (256 * (w 5).toNat + j) = refL B1 12 j
    rw [n7]
    exact m4 j (by omega)
  · have hne : j ≠ (w 5).toNat := by omega
    have hbj := ho1 j
    refine ⟨⟨?_, ?_, ?_, ?_, ?_⟩, fun k hk => ?_, fun k hk => ?_⟩
    · show B3 56 j = B1 56 j
      rw [n8, m2, up_ne hne]
    · show B3 57 j = B1 57 j
      rw [n2, up_ne hne, m5]
    · show B3 58 j = B1 58 j
      rw [n3, up_ne hne, m6]
    · show B3 59 j = B1 59 j
      rw [n4, up_ne hne, m7]
    · show B3 60 j = B1 60 j
      rw [n5, up_ne hne, m8]
    · have hk' : (k : Int) < B1 56 j := hk
      show B3 54 (256 * j + k) = B1 54 (256 * j + k)
      rw [n6]
      exact (m1 _ (by omega)).1
    · have hk' : (k : Int) < B1 56 j := hk
      show B3 55 (256 * j + k) = B1 55 (256 * j + k)
      rw [n7]
      exact (m1 _ (by omega)).2
section MTR
variable {R : PR} {tc tc1 : Nat} {V Bf Lf V1 Bf1 Lf1 : Nat → Nat → Int} {hw i r r0 n : Int} {f g : Nat → Int}
theorem mt_f (hi : 0 ≤ i ∧ i ≤ 7) (e : nrR R r0 n f g) (h9 : r0 ≠ -9) (hr : r = -10 - r0) (ht : tc1 = tc) (T : TR tc V Bf Lf V1 Bf1 Lf1) : mtP R tc V Bf Lf hw i r tc1 V1 Bf1 Lf1 := by
  obtain ⟨e1, -⟩ := e
  subst e1
  exact ⟨fun _ => ⟨fun q => absurd q h9, fun _ => ⟨hr, ht, T⟩⟩, fun q => absurd hi q⟩
theorem mt_full (hi : 0 ≤ i ∧ i ≤ 7) (e : nrR R r0 n f g) (h9 : r0 = -9) (hr : r = -3) (h12 : ¬ tc < 12) (ht : tc1 = tc) (T : TR tc V Bf Lf V1 Bf1 Lf1) : mtP R tc V Bf Lf hw i r tc1 V1 Bf1 Lf1 := by
  obtain ⟨e1, -⟩ := e
  exact ⟨fun _ => ⟨fun _ => ⟨fun q => absurd q h12, fun _ => ⟨hr, ht⟩, T⟩, fun q => absurd (e1.trans h9) q⟩, fun q => absurd hi q⟩
end MTR
section BDR
variable {R : Int × MS} {tc tc1 : Nat} {V Bf Lf V1 Bf1 Lf1 : Nat → Nat → Int} {t i r r0 n : Int} {f g : Nat → Int}
theorem bd_k (hv : 0 ≤ t ∧ t < tc ∧ 0 ≤ i ∧ i ≤ 7) (X : bldX R r0 n f g) (h0 : r0 = 0) (kp : kpP tc V Bf Lf n f g 2 i t r tc1 V1 Bf1 Lf1) : bdP R tc V Bf Lf t i r tc1 V1 Bf1 Lf1 := by
  rcases X with ⟨-, ok, e, a, b⟩ | ⟨h, -⟩
  · exact ⟨fun _ => ⟨fun _ => kp.cg e.symm a b, fun q => absurd ok q⟩, fun q => absurd hv q⟩
  · exact absurd h0 h
theorem bd_full (hv : 0 ≤ t ∧ t < tc ∧ 0 ≤ i ∧ i ≤ 7) (X : bldX R r0 n f g) (h0 : r0 = 0) (hr : r = -3) (h12 : ¬ tc < 12) (ht : tc1 = tc) (T : TR tc V Bf Lf V1 Bf1 Lf1) : bdP R tc V Bf Lf t i r tc1 V1 Bf1 Lf1 := by
  rcases X with ⟨-, ok, e, a, b⟩ | ⟨h, -⟩
  · exact ⟨fun _ => ⟨fun _ => ⟨fun q => absurd q h12, fun _ => ⟨hr, ht⟩, T⟩, fun q => absurd ok q⟩, fun q => absurd hv q⟩
  · exact absurd h0 h
theorem bd_s (hv : 0 ≤ t ∧ t < tc ∧ 0 ≤ i ∧ i ≤ 7) (X : bldX R r0 n f g) (h0 : r0 ≠ 0) (hr : r = -2) (ht : tc1 = tc) (T : TR tc V Bf Lf V1 Bf1 Lf1) : bdP R tc V Bf Lf t i r tc1 V1 Bf1 Lf1 := by
  rcases X with ⟨h, -⟩ | ⟨-, ok⟩
  · exact absurd h h0
  · exact ⟨fun _ => ⟨fun q => absurd q ok, fun _ => ⟨hr, ht, T⟩⟩, fun q => absurd hv q⟩
end BDR
theorem ckP_r {tc : Nat} {B : Nat → Nat → Int} {t x r : Int} (hv : 0 ≤ t ∧ t < tc ∧ 0 ≤ x ∧ x ≤ 1) (hw : B 57 t.toNat = 0) (hr : r = B 60 t.toNat) : ckP tc (refV B) (refB B) (refL B) t x r (refV (va_up B 60 (va_up (B 60) t.toNat x))) (refB (va_up B 60 (va_up (B 60) t.toNat x))) (refL (va_up B 60 (va_up (B 60) t.toNat x))) := by
  refine ⟨fun _ => ⟨fun _ => ⟨hr, ?_, fun j hj => ⟨⟨rfl, rfl, rfl, rfl, fun z => ?_⟩, fun _ _ => rfl, fun _ _ => rfl⟩⟩, fun q => absurd hw q⟩, fun q => absurd hv q⟩
  · show va_up (B 60) t.toNat x t.toNat = x
    exact up_eq
  · show va_up (B 60) t.toNat x j = B 60 j
    exact up_ne z
set_option maxRecDepth 100000 in
theorem b_moveT {l : Launch} {h : MH} {Q : Option Value → MH → Prop} {tr : Int64} {ty tx : Nat → Int32} {w : Nat → Int} {B : Nat → Nat → Int} (H : R9B h tr ty tx w B) (hk : w 5 < 12) (hS : okS (B 54) (B 56) 12) (k : ∀ (h1 : MH) (B1 : Nat → Nat → Int), R9B h1 tr ty tx w B1 → AgC w B w B1 → mvT w B B1 → okS (B1 54) (B1 56) (w 5) → Sm [54, 55, 56] h h1 → Q none h1) : Go l mX9_move 0 [some (.ref 50), some (.int (iZ 12)), some (.int (iZ (w 5)))] [] h Q := by
  obtain ⟨F50, ⟨F51, F52, F53, F54, F55, F56, F57, F58, F59, F60, F61, F62, F63, F64, F65, F66, F67, F68, F69, F70, kty, ktx⟩, ⟨r2, r5, r13, r14, r15, r16, r17, r18, r19, r20, r25, r26, r27, r28, r29, r30, r31, r35⟩, ⟨o53, o54, o55, o56, o57, o58, o59, o60, o61, o62, o63, o64, o65, o66, o67, o68, o69, o70⟩, hT⟩ := id H
  refine f_move F50 F54 F55 F56 o54 o55 o56 r2 r5 r13 r14 r15 r16 r17 r18 r19 r20 r25 r26 r27 r28 r29 r30 r31 r35 (by omega) (by omega) (by omega) (fun h1 y54 y55 y56 p54 p55 p56 c0 c1 c2 c3 c4 s1 g54 g55 g56 => ?_)
  have hT1 : Tg w (va_up (va_up (va_up B 54 y54) 55 y55) 56 y56) := ⟨hT.1, fun t h0 h1 => ⟨okS_fr h0 (by omega) (by omega) o56 c0 (fun t ht => by rw [c4]; exact up_ne ht) (hT.2 t h0 h1).1, (hT.2 t h0 h1).2⟩⟩
  have hR : R9B h1 tr ty tx w (va_up (va_up (va_up B 54 y54) 55 y55) 56 y56) := ⟨(s1.get (by decide) F50), ⟨(s1.get (by decide) F51), (s1.get (by decide) F52), (s1.get (by decide) F53), g54, g55, g56, (s1.get (by decide) F57), (s1.get (by decide) F58), (s1.get (by decide) F59), (s1.get (by decide) F60), (s1.get (by decide) F61), (s1.get (by decide) F62), (s1.get (by decide) F63), (s1.get (by decide) F64), (s1.get (by decide) F65), (s1.get (by decide) F66), (s1.get (by decide) F67), (s1.get (by decide) F68), (s1.get (by decide) F69), (s1.get (by decide) F70), kty, ktx⟩, ⟨r2, r5, r13, r14, r15, r16, r17, r18, r19, r20, r25, r26, r27, r28, r29, r30, r31, r35⟩, ⟨o53, p54, p55, p56, o57, o58, o59, o60, o61, o62, o63, o64, o65, o66, o67, o68, o69, o70⟩, hT1⟩
  refine k h1 _ hR ⟨rfl, rfl, rfl, rfl, rfl, rfl⟩ ⟨fun q hq => ⟨c0 q hq, c1 q hq⟩, c4, (fun j hj => by
    have q := c2 (j : Int) (by omega) hj
    rw [show (256 * w 5 + (j : Int)).toNat = 256 * (w 5).toNat + j by omega, show (256 * (12 : Int) + (j : Int)).toNat = 256 * 12 + j by omega] at q
    exact q), (fun j hj => by
    have q := c3 (j : Int) (by omega) hj
    rw [show (256 * w 5 + (j : Int)).toNat = 256 * (w 5).toNat + j by omega, show (256 * (12 : Int) + (j : Int)).toNat = 256 * 12 + j by omega] at q
    exact q), rfl, rfl, rfl, rfl⟩ (fun j j0 j1 => ?_) s1
  have hb := o56 (12 : Int).toNat
  change j < y56 (w 5).toNat at j1
  rw [c4, up_eq] at j1
  show 0 ≤ y54 (256 * w 5 + j).toNat ∧ y54 (256 * w 5 + j).toNat ≤ 255
  rw [c2 j j0 (by omega)]
  exact hS j j0 j1
set_option maxRecDepth 100000 in
theorem f_new {l : Launch} {h : MH} {Q : Option Value → MH → Prop} {tr : Int64} {mn kt bs ee pa fu st so va ed cm a x p dn tk ie en w i y : Int} {hw fr bd ck : Nat → Int} (F0 : h[50]? = some (.inr (8, [.long (tr), .ref 51, .int (iZ mn), .ref 52, .ref 53, .int (iZ kt), .ref 54, .ref 55, .ref 56, .ref 57, .ref 58, .ref 59, .ref 60, .int (iZ bs), .int (iZ ee), .int (iZ pa), .int (iZ fu), .int (iZ st), .int (iZ so), .int (iZ va), .int (iZ ed), .ref 61, .ref 62, .ref 63, .ref 64, .int (iZ cm), .int (iZ a), .int (iZ x), .int (iZ p), .int (iZ dn), .int (iZ tk), .int (iZ ie), .ref 65, .ref 66, .ref 67, .int (iZ en), .ref 68, .ref 69, .ref 70]))) (F1 : h[57]? = some (.inl (0, 12, .inl (zA hw)))) (F2 : h[58]? = some (.inl (0, 12, .inl (zA fr)))) (F3 : h[59]? = some (.inl (0, 12, .inl (zA bd)))) (F4 : h[60]? = some (.inl (0, 12, .inl (zA ck)))) (ohw : okr hw) (ofr : oki (0) (7) fr) (obd : oki (-9) (11) bd) (ock : okr ck) (rmn : (0 ≤ mn ∧ mn ≤ 200)) (rkt : (0 ≤ kt ∧ kt ≤ 12)) (rbs : (0 ≤ bs ∧ bs ≤ 1400)) (ree : (0 ≤ ee ∧ ee ≤ 200)) (rpa : (0 ≤ pa ∧ pa ≤ 200)) (rfu : (-9 ≤ fu ∧ fu ≤ 200)) (rst : (0 ≤ st ∧ st ≤ 200)) (rso : (0 ≤ so ∧ so ≤ 5)) (rva : (-100 ≤ va ∧ va ≤ 3000)) (red : (0 ≤ ed ∧ ed ≤ 200)) (rcm : (0 ≤ cm ∧ cm ≤ 256)) (ra : (0 ≤ a ∧ a ≤ 255)) (rx : (0 ≤ x ∧ x ≤ 255)) (rp : (0 ≤ p ∧ p ≤ 255)) (rdn : (0 ≤ dn ∧ dn ≤ 5000)) (rtk : (0 ≤ tk ∧ tk ≤ 200)) (rie : (0 ≤ ie ∧ ie ≤ 1)) (ren : (0 ≤ en ∧ en ≤ 12)) (rw : rg w) (ri : (0 ≤ i ∧ i ≤ 7)) (ry : (-9 ≤ y ∧ y ≤ 11)) (hk : kt < 12) (k : ∀ (h1 : MH) (kt_1 : Int) (hw_1 : Nat → Int) (fr_1 : Nat → Int) (bd_1 : Nat → Int) (ck_1 : Nat → Int) (r : Int), (0 ≤ kt_1 ∧ kt_1 ≤ 12) → okr hw_1 → oki (0) (7) fr_1 → oki (-9) (11) bd_1 → okr ck_1 → (r = kt) → (kt_1 = kt + 1) → (hw_1 = va_up hw kt.toNat w) → (fr_1 = va_up fr kt.toNat i) → (bd_1 = va_up bd kt.toNat y) → (ck_1 = va_up ck kt.toNat 0) → Sm [50, 57, 58, 59, 60] h h1 → h1[50]? = some (.inr (8, [.long (tr), .ref 51, .int (iZ mn), .ref 52, .ref 53, .int (iZ kt_1), .ref 54, .ref 55, .ref 56, .ref 57, .ref 58, .ref 59, .ref 60, .int (iZ bs), .int (iZ ee), .int (iZ pa), .int (iZ fu), .int (iZ st), .int (iZ so), .int (iZ va), .int (iZ ed), .ref 61, .ref 62, .ref 63, .ref 64, .int (iZ cm), .int (iZ a), .int (iZ x), .int (iZ p), .int (iZ dn), .int (iZ tk), .int (iZ ie), .ref 65, .ref 66, .ref 67, .int (iZ en), .ref 68, .ref 69, .ref 70])) → h1[57]? = some (.inl (0, 12, .inl (zA hw_1))) → h1[58]? = some (.inl (0, 12, .inl (zA fr_1))) → h1[59]? = some (.inl (0, 12, .inl (zA bd_1))) → h1[60]? = some (.inl (0, 12, .inl (zA ck_1))) → Q (some (.int (iZ r))) h1) : Go l mX9_newTool 0 [some (.ref 50), some (.int (iZ w)), some (.int (iZ i)), some (.int (iZ y)), none] [] h Q := by
  refine g_aload_n 1 dX9_newTool_0 rfl rfl ?_
  refine g_get 4 dX9_newTool_1 faX9_85_X9 F0 rfl rfl ?_
  refine g_istore (L1 := [some (.ref 50), some (.int (iZ w)), some (.int (iZ i)), some (.int (iZ y)), some (.int (iZ kt))]) 6 dX9_newTool_4 (by decide) rfl rfl rfl ?_
  refine g_aload_n 7 dX9_newTool_6 rfl rfl ?_
  refine g_get 10 dX9_newTool_7 faX9_29_X9 F0 rfl rfl ?_
  refine g_iload 12 dX9_newTool_10 rfl rfl ?_
  refine g_iload_n 13 dX9_newTool_12 rfl rfl ?_
  refine g_iastFj (kt.toNat) 14 dX9_newTool_13 F1 (by omega) (by omega) (by decide) rfl rfl (fun h1 s2 f3 => ?_)
  refine g_aload_n 15 dX9_newTool_14 rfl rfl ?_
  have f4 := (s2.get (by decide) F0)
  refine g_get 18 dX9_newTool_15 faX9_32_X9 f4 rfl rfl ?_
  refine g_iload 20 dX9_newTool_18 rfl rfl ?_
  refine g_iload_n 21 dX9_newTool_20 rfl rfl ?_
  have f5 := (s2.get (by decide) F2)
  refine g_iastFj (kt.toNat) 22 dX9_newTool_21 f5 (by omega) (by omega) (by decide) rfl rfl (fun h6 s7 f8 => ?_)
  refine g_aload_n 23 dX9_newTool_22 rfl rfl ?_
  have f9 := (s7.get (by decide) f4)
  refine g_get 26 dX9_newTool_23 faX9_35_X9 f9 rfl rfl ?_
  refine g_iload 28 dX9_newTool_26 rfl rfl ?_
  refine g_iload_n 29 dX9_newTool_28 rfl rfl ?_
  have f10 := (s7.get (by decide) (s2.get (by decide) F3))
  refine g_iastFj (kt.toNat) 30 dX9_newTool_29 f10 (by omega) (by omega) (by decide) rfl rfl (fun h11 s12 f13 => ?_)
  refine g_aload_n 31 dX9_newTool_30 rfl rfl ?_
  have f14 := (s12.get (by decide) f9)
  refine g_get 34 dX9_newTool_31 faX9_38_X9 f14 rfl rfl ?_
  refine g_iload 36 dX9_newTool_34 rfl rfl ?_
  refine g_iconst (v := iZ (0)) 37 dX9_newTool_36 rfl rfl ?_
  have f15 := (s12.get (by decide) (s7.get (by decide) (s2.get (by decide) F4)))
  refine g_iastFj (kt.toNat) 38 dX9_newTool_37 f15 (by omega) (by omega) (by decide) rfl rfl (fun h16 s17 f18 => ?_)
  refine g_aload_n 39 dX9_newTool_38 rfl rfl ?_
  refine g_dup 40 dX9_newTool_39 rfl rfl ?_
  have f19 := (s17.get (by decide) f14)
  refine g_get 43 dX9_newTool_40 faX9_85_X9 f19 rfl rfl ?_
  refine g_iconst (v := iZ (1)) 44 dX9_newTool_43 rfl rfl ?_
  refine g_iaddZ (kt + 1) 45 dX9_newTool_44 (by omega) rfl ?_
  refine g_putC (fs1 := [.long (tr), .ref 51, .int (iZ mn), .ref 52, .ref 53, .int (iZ (kt + 1)), .ref 54, .ref 55, .ref 56, .ref 57, .ref 58, .ref 59, .ref 60, .int (iZ bs), .int (iZ ee), .int (iZ pa), .int (iZ fu), .int (iZ st), .int (iZ so), .int (iZ va), .int (iZ ed), .ref 61, .ref 62, .ref 63, .ref 64, .int (iZ cm), .int (iZ a), .int (iZ x), .int (iZ p), .int (iZ dn), .int (iZ tk), .int (iZ ie), .ref 65, .ref 66, .ref 67, .int (iZ en), .ref 68, .ref 69, .ref 70]) 48 dX9_newTool_45 fpX9_85_X9 f19 (nle rfl) (vI _) rfl rfl (fun h20 s21 f22 => ?_)
  refine g_iload 50 dX9_newTool_48 rfl rfl ?_
  refine g_iret rfl dX9_newTool_50 ?_
  have f23 := (s21.get (by decide) (s17.get (by decide) (s12.get (by decide) (s7.get (by decide) f3))))
  have f24 := (s21.get (by decide) (s17.get (by decide) (s12.get (by decide) f8)))
  have f25 := (s21.get (by decide) (s17.get (by decide) f13))
  have f26 := (s21.get (by decide) f18)
  exact k _ (kt + 1) (va_up hw kt.toNat w) (va_up fr kt.toNat i) (va_up bd kt.toNat y) (va_up ck kt.toNat 0) (kt) (by omega) (okr_up ohw _ rw) (oki_up ofr _ (by omega)) (oki_up obd _ (by omega)) (okr_up ock _ (by decide)) rfl (by omega) rfl rfl rfl rfl ((((((Sm.refl [50, 57, 58, 59, 60] _).tr s2 (fun _ q => q) (by simp)).tr s7 (fun _ q => q) (by simp)).tr s12 (fun _ q => q) (by simp)).tr s17 (fun _ q => q) (by simp)).tr s21 (fun _ q => q) (by simp)) f22 f23 f24 f25 f26
set_option maxRecDepth 100000 in
theorem b_newT {l : Launch} {h : MH} {Q : Option Value → MH → Prop} {tr : Int64} {ty tx : Nat → Int32} {w : Nat → Int} {B : Nat → Nat → Int} {x i y : Int} (H : R9B h tr ty tx w B) (hk : w 5 < 12) (hS : okS (B 54) (B 56) (w 5)) (rx : rg x) (ri : 0 ≤ i ∧ i ≤ 7) (ry : y = -9 ∨ (0 ≤ y ∧ y < w 5)) (hx : x = 2 → y ≠ -9) (k : ∀ (h1 : MH) (w1 : Nat → Int) (B1 : Nat → Nat → Int), R9B h1 tr ty tx w1 B1 → AgC w B w1 B1 → nwT w B w1 B1 x i y → Sm [50, 57, 58, 59, 60] h h1 → Q (some (.int (iZ (w 5)))) h1) : Go l mX9_newTool 0 [some (.ref 50), some (.int (iZ x)), some (.int (iZ i)), some (.int (iZ y)), none] [] h Q := by
  obtain ⟨F50, ⟨F51, F52, F53, F54, F55, F56, F57, F58, F59, F60, F61, F62, F63, F64, F65, F66, F67, F68, F69, F70, kty, ktx⟩, ⟨r2, r5, r13, r14, r15, r16, r17, r18, r19, r20, r25, r26, r27, r28, r29, r30, r31, r35⟩, ⟨o53, o54, o55, o56, o57, o58, o59, o60, o61, o62, o63, o64, o65, o66, o67, o68, o69, o70⟩, hT⟩ := id H
  refine f_new F50 F57 F58 F59 F60 o57 o58 o59 o60 r2 r5 r13 r14 r15 r16 r17 r18 r19 r20 r25 r26 r27 r28 r29 r30 r31 r35 rx ri (by omega) hk (fun h1 x5 y57 y58 y59 y60 r q5 p57 p58 p59 p60 hr c0 c1 c2 c3 c4 s1 g50 g57 g58 g59 g60 => ?_)
  subst hr
  have hT1 : Tg (va_up w 5 x5) (va_up (va_up (va_up (va_up B 57 y57) 58 y58) 59 y59) 60 y60) := by
    refine ⟨hT.1, fun t h0 h1 => ?_⟩
    change t < x5 at h1
    show okS (B 54) (B 56) t ∧ (y59 t.toNat = -9 ∨ (0 ≤ y59 t.toNat ∧ y59 t.toNat < t)) ∧ (y57 t.toNat = 2 → y59 t.toNat ≠ -9)
    by_cases e : t = w 5
    · subst e
      rw [c3, c1, up_eq, up_eq]
      exact ⟨hS, ry, hx⟩
    · rw [c3, c1, up_ne (by omega), up_ne (by omega)]
      exact hT.2 t h0 (by omega)
  have hR : R9B h1 tr ty tx (va_up w 5 x5) (va_up (va_up (va_up (va_up B 57 y57) 58 y58) 59 y59) 60 y60) := ⟨g50, ⟨(s1.get (by decide) F51), (s1.get (by decide) F52), (s1.get (by decide) F53), (s1.get (by decide) F54), (s1.get (by decide) F55), (s1.get (by decide) F56), g57, g58, g59, g60, (s1.get (by decide) F61), (s1.get (by decide) F62), (s1.get (by decide) F63), (s1.get (by decide) F64), (s1.get (by decide) F65), (s1.get (by decide) F66), (s1.get (by decide) F67), (s1.get (by decide) F68), (s1.get (by decide) F69), (s1.get (by decide) F70), kty, ktx⟩, ⟨r2, q5, r13, r14, r15, r16, r17, r18, r19, r20, r25, r26, r27, r28, r29, r30, r31, r35⟩, ⟨o53, o54, o55, o56, p57, p58, p59, p60, o61, o62, o63, o64, o65, o66, o67, o68, o69, o70⟩, hT1⟩
  exact k h1 _ _ hR ⟨rfl, rfl, rfl, rfl, rfl, rfl⟩ ⟨c0, c1, c2, c3, c4, rfl, rfl, rfl⟩ s1

set_option maxRecDepth 100000 in
theorem lp9_txB {l : Launch} {Q : Option Value → MH → Prop} {tr : Int64} {w : Nat → Int} {ty : Nat → Int32} {i : Int} (hw : 0 ≤ w 2 ∧ w 2 ≤ 200) (hi : 0 ≤ i ∧ i ≤ 7) : ∀ (m0 : Nat) (h : MH) (f : Nat → Int32) (u : Int), (w 2 - u).toNat = m0 → 0 ≤ u ∧ u ≤ w 2 → h[50]? = some (.inr (8, [.long (tr), .ref 51, .int (iZ (w 2)), .ref 52, .ref 53, .int (iZ (w 5)), .ref 54, .ref 55, .ref 56, .ref 57, .ref 58, .ref 59, .ref 60, .int (iZ (w 13)), .int (iZ (w 14)), .int (iZ (w 15)), .int (iZ (w 16)), .int (iZ (w 17)), .int (iZ (w 18)), .int (iZ (w 19)), .int (iZ (w 20)), .ref 61, .ref 62, .ref 63, .ref 64, .int (iZ (w 25)), .int (iZ (w 26)), .int (iZ (w 27)), .int (iZ (w 28)), .int (iZ (w 29)), .int (iZ (w 30)), .int (iZ (w 31)), .ref 65, .ref 66, .ref 67, .int (iZ (w 35)), .ref 68, .ref 69, .ref 70])) → h[51]? = some (.inl (1, 200, .inl ty)) → h[52]? = some (.inl (1, 1600, .inl f)) → (∀ (h1 : MH) (f1 : Nat → Int32), (∀ q : Nat, ((q : Int) < 200 * i + u ∨ 200 * i + w 2 ≤ q) → f1 q = f q) → (∀ j : Int, u ≤ j → j < w 2 → (f1 (200 * i + j).toNat).toInt % 256 = (ty j.toNat).toInt % 256) → (okB f → okB f1) → Sm [52] h h1 → h1[52]? = some (.inl (1, 1600, .inl f1)) → Go l mX9_text 43 [some (.ref 50), some (.int (iZ i)), none] [] h1 Q) → Go l mX9_text 11 [some (.ref 50), some (.int (iZ i)), some (.int (iZ u))] [] h Q := by
  intro m0
  induction m0 using Nat.strongRecOn with
  | ind m0 ih =>
    intro h f u hmz hu f0 f1 f2 k
    refine g_iload_n 12 dX9_text_11 rfl rfl ?_
    refine g_aload_n 13 dX9_text_12 rfl rfl ?_
    refine g_get 16 dX9_text_13 faX9_71_X9 f0 rfl rfl ?_
    refine g_icZ_ge 43 19 dX9_text_16 rfl rfl (by omega) (by omega) (fun c1 => ?_) (fun c1 => ?_)
    · refine Go.fgt 2 ?_
      exact k h f (fun _ _ => rfl) (fun j h4 h5 => by omega) (fun z => z) (Sm.refl _ _) f2
    · refine g_aload_n 20 dX9_text_19 rfl rfl ?_
      refine g_get 23 dX9_text_20 faX9_13_X9 f0 rfl rfl ?_
      refine g_sipush (v := iZ (200)) 26 dX9_text_23 (by decide +kernel) rfl ?_
      refine g_iload_n 27 dX9_text_26 rfl rfl ?_
      refine g_imulZ (200 * i) 28 dX9_text_27 (by omega) rfl ?_
      refine g_iload_n 29 dX9_text_28 rfl rfl ?_
      refine g_iaddZ ((200 * i) + u) 30 dX9_text_29 (by omega) rfl ?_
      refine g_aload_n 31 dX9_text_30 rfl rfl ?_
      refine g_get 34 dX9_text_31 faX9_7_X9 f0 rfl rfl ?_
      refine g_iload_n 35 dX9_text_34 rfl rfl ?_
      refine g_baldZ 36 dX9_text_35 f1 (by omega) (by omega) (by decide) rfl rfl ?_
      refine g_bastZ (f1 := upd f ((200 * i) + u).toNat (vp_nar .byte (ty (u).toNat))) 37 dX9_text_36 f2 (by omega) (by omega) (by decide) rfl rfl (fun h2 s3 f4 => ?_)
      refine g_iincZ [some (.ref 50), some (.int (iZ i)), some (.int (iZ (u + 1)))] 40 dX9_text_37 rfl (by omega) (by decide) rfl rfl rfl ?_
      refine g_goto 11 dX9_text_40 rfl ?_
      have f5 := (s3.get (by decide) f0)
      have f6 := (s3.get (by decide) f1)
      refine ih _ (by omega) _ _ (u + 1) rfl (by omega) f5 f6 f4 (fun h1 g1 e1 e2 eb s1 u1 => k h1 g1 (fun q hq => (e1 q (by omega)).trans (pk_un (by omega))) (fun j h4 h5 => ?_) (fun z => eb (okB_nar z)) (s3.tr s1 (fun _ q => q) (fun _ q => q)) u1)
      by_cases e : j = u
      · subst e; rw [e1 _ (by omega), pk_us, by_nar]
      · exact e2 j (by omega) h5
set_option maxRecDepth 100000 in
theorem b_text {l : Launch} {h : MH} {Q : Option Value → MH → Prop} {tr : Int64} {ty tx : Nat → Int32} {w : Nat → Int} {B : Nat → Nat → Int} {i : Int} (H : R9B h tr ty tx w B) (ri : rg i) (k : ∀ (h1 : MH) (tx1 : Nat → Int32) (w1 : Nat → Int) (B1 : Nat → Nat → Int) (r : Int), (0 ≤ i ∧ i ≤ 7 → r = w 2 ∧ w1 = va_up w 2 0 ∧ B1 = va_up B 53 (va_up (B 53) i.toNat (w 2)) ∧ (∀ q : Nat, ((q : Int) < 200 * i ∨ 200 * i + w 2 ≤ q) → tx1 q = tx q) ∧ ∀ j : Int, 0 ≤ j → j < w 2 → (tx1 (200 * i + j).toNat).toInt % 256 = (ty j.toNat).toInt % 256) → (¬ (0 ≤ i ∧ i ≤ 7) → r = -1 ∧ w1 = w ∧ B1 = B ∧ tx1 = tx) → R9B h1 tr ty tx1 w1 B1 → Sm [50, 51, 52, 53, 54, 55, 56, 57, 58, 59, 60, 61, 62, 63, 64, 65, 66, 67, 68, 69, 70] h h1 → Q (some (.int (iZ r))) h1) : Go l mX9_text 0 [some (.ref 50), some (.int (iZ i)), none] [] h Q := by
  refine g_iload_n 1 dX9_text_0 rfl rfl ?_
  refine g_callS (z := mX9_isText) (As := [.int (iZ i)]) 4 dX9_text_1 mwX9_isText ⟨by decide, by decide⟩ rfl wlX9_81 wtX9_isText rfl (nle rfl) (nle rfl) rfl ?_
  refine n_isText  ri (fun z1 rz1 => ?_)
  refine rI ?_
  refine g_ifZ_ne 9 7 dX9_text_4 rfl rfl (rg01 (by omega)) (fun c2 => ?_) (fun c2 => ?_)
  · refine g_iconst (v := iZ (0)) 10 dX9_text_9 rfl rfl ?_
    refine g_istore_n (L1 := [some (.ref 50), some (.int (iZ i)), some (.int (iZ 0))]) 11 dX9_text_10 (by decide) rfl rfl rfl ?_
    obtain ⟨F50_3, ⟨F51_3, F52_3, F53_3, F54_3, F55_3, F56_3, F57_3, F58_3, F59_3, F60_3, F61_3, F62_3, F63_3, F64_3, F65_3, F66_3, F67_3, F68_3, F69_3, F70_3, kty_3, ktx_3⟩, ⟨r2_3, r5_3, r13_3, r14_3, r15_3, r16_3, r17_3, r18_3, r19_3, r20_3, r25_3, r26_3, r27_3, r28_3, r29_3, r30_3, r31_3, r35_3⟩, ⟨o53_3, o54_3, o55_3, o56_3, o57_3, o58_3, o59_3, o60_3, o61_3, o62_3, o63_3, o64_3, o65_3, o66_3, o67_3, o68_3, o69_3, o70_3⟩, hT_3⟩ := id H
    refine lp9_txB (by omega) (by omega) _ _ _ 0 rfl (by omega) F50_3 F51_3 F52_3 (fun h4 g5 e6 e7 e8 s9 f10 => ?_)
    refine g_aload_n 44 dX9_text_43 rfl rfl ?_
    have f11 := (s9.get (by decide) F50_3)
    refine g_get 47 dX9_text_44 faX9_16_X9 f11 rfl rfl ?_
    refine g_iload_n 48 dX9_text_47 rfl rfl ?_
    refine g_aload_n 49 dX9_text_48 rfl rfl ?_
    refine g_get 52 dX9_text_49 faX9_71_X9 f11 rfl rfl ?_
    have f12 := (s9.get (by decide) F53_3)
    refine g_iastFj (i.toNat) 53 dX9_text_52 f12 (by omega) (by omega) (by decide) rfl rfl (fun h13 s14 f15 => ?_)
    refine g_aload_n 54 dX9_text_53 rfl rfl ?_
    refine g_iconst (v := iZ (0)) 55 dX9_text_54 rfl rfl ?_
    have f16 := (s14.get (by decide) f11)
    refine g_putC (fs1 := [.long (tr), .ref 51, .int (iZ 0), .ref 52, .ref 53, .int (iZ (w 5)), .ref 54, .ref 55, .ref 56, .ref 57, .ref 58, .ref 59, .ref 60, .int (iZ (w 13)), .int (iZ (w 14)), .int (iZ (w 15)), .int (iZ (w 16)), .int (iZ (w 17)), .int (iZ (w 18)), .int (iZ (w 19)), .int (iZ (w 20)), .ref 61, .ref 62, .ref 63, .ref 64, .int (iZ (w 25)), .int (iZ (w 26)), .int (iZ (w 27)), .int (iZ (w 28)), .int (iZ (w 29)), .int (iZ (w 30)), .int (iZ (w 31)), .ref 65, .ref 66, .ref 67, .int (iZ (w 35)), .ref 68, .ref 69, .ref 70]) 58 dX9_text_55 fpX9_71_X9 f16 (nle rfl) (vI _) rfl rfl (fun h17 s18 f19 => ?_)
    refine g_aload_n 59 dX9_text_58 rfl rfl ?_
    refine g_get 62 dX9_text_59 faX9_16_X9 f19 rfl rfl ?_
    refine g_iload_n 63 dX9_text_62 rfl rfl ?_
    have f20 := (s18.get (by decide) f15)
    refine g_ialdZ (v := iZ (w 2)) 64 dX9_text_63 f20 (by omega) (by omega) (by decide) (congrArg iZ up_eq) rfl ?_
    refine g_iret rfl dX9_text_64 ?_
    have f21 := (s18.get (by decide) (s14.get (by decide) (s9.get (by decide) F51_3)))
    have f22 := (s18.get (by decide) (s14.get (by decide) f10))
    have f23 := (s18.get (by decide) (s14.get (by decide) (s9.get (by decide) F54_3)))
    have f24 := (s18.get (by decide) (s14.get (by decide) (s9.get (by decide) F55_3)))
    have f25 := (s18.get (by decide) (s14.get (by decide) (s9.get (by decide) F56_3)))
    have f26 := (s18.get (by decide) (s14.get (by decide) (s9.get (by decide) F57_3)))
    have f27 := (s18.get (by decide) (s14.get (by decide) (s9.get (by decide) F58_3)))
    have f28 := (s18.get (by decide) (s14.get (by decide) (s9.get (by decide) F59_3)))
    have f29 := (s18.get (by decide) (s14.get (by decide) (s9.get (by decide) F60_3)))
    have f30 := (s18.get (by decide) (s14.get (by decide) (s9.get (by decide) F61_3)))
    have f31 := (s18.get (by decide) (s14.get (by decide) (s9.get (by decide) F62_3)))
    have f32 := (s18.get (by decide) (s14.get (by decide) (s9.get (by decide) F63_3)))
    have f33 := (s18.get (by decide) (s14.get (by decide) (s9.get (by decide) F64_3)))
    have f34 := (s18.get (by decide) (s14.get (by decide) (s9.get (by decide) F65_3)))
    have f35 := (s18.get (by decide) (s14.get (by decide) (s9.get (by decide) F66_3)))
    have f36 := (s18.get (by decide) (s14.get (by decide) (s9.get (by decide) F67_3)))
    have f37 := (s18.get (by decide) (s14.get (by decide) (s9.get (by decide) F68_3)))
    have f38 := (s18.get (by decide) (s14.get (by decide) (s9.get (by decide) F69_3)))
    have f39 := (s18.get (by decide) (s14.get (by decide) (s9.get (by decide) F70_3)))
    exact k _ g5 (va_up w 2 (0)) (va_up B 53 (va_up (B 53) i.toNat (w 2))) _ (fun q => ⟨rfl, rfl, rfl, fun q hq => e6 q (by omega), fun j h4 h5 => e7 j h4 h5⟩) (fun q => by omega) ⟨f19, ⟨f21, f22, f20, f23, f24, f25, f26, f27, f28, f29, f30, f31, f32, f33, f34, f35, f36, f37, f38, f39, kty_3, (e8 ktx_3)⟩, ⟨(show 0 ≤ (0 : Int) ∧ (0 : Int) ≤ 200 by omega), r5_3, r13_3, r14_3, r15_3, r16_3, r17_3, r18_3, r19_3, r20_3, r25_3, r26_3, r27_3, r28_3, r29_3, r30_3, r31_3, r35_3⟩, ⟨(oki_up o53_3 _ (by omega)), o54_3, o55_3, o56_3, o57_3, o58_3, o59_3, o60_3, o61_3, o62_3, o63_3, o64_3, o65_3, o66_3, o67_3, o68_3, o69_3, o70_3⟩, H.2.2.2.2⟩ ((((Sm.refl [50, 51, 52, 53, 54, 55, 56, 57, 58, 59, 60, 61, 62, 63, 64, 65, 66, 67, 68, 69, 70] _).tr s9 (fun _ q => q) (by simp)).tr s14 (fun _ q => q) (by simp)).tr s18 (fun _ q => q) (by simp))
  · refine g_iconst (v := iZ (-1)) 8 dX9_text_7 rfl rfl ?_
    refine g_iret rfl dX9_text_8 ?_
    exact k h tx w B (-1) (fun q => by omega) (fun q => ⟨by omega, rfl, rfl, rfl⟩) H (Sm.refl _ _)
set_option maxRecDepth 100000 in
theorem b_read {l : Launch} {h : MH} {Q : Option Value → MH → Prop} {tr : Int64} {ty tx : Nat → Int32} {w : Nat → Int} {B : Nat → Nat → Int} {i a : Int} (H : R9B h tr ty tx w B) (ri : rg i) (ra : rg a) (k : ∀ r : Int, (0 ≤ i ∧ i ≤ 7 ∧ 0 ≤ a ∧ a < B 53 i.toNat → r = (tx (200 * i + a).toNat).toInt % 256) → (¬ (0 ≤ i ∧ i ≤ 7 ∧ 0 ≤ a ∧ a < B 53 i.toNat) → r = -1) → Q (some (.int (iZ r))) h) : Go l mX9_read 0 [some (.ref 50), some (.int (iZ i)), some (.int (iZ a))] [] h Q := by
  refine g_iload_n 1 dX9_read_0 rfl rfl ?_
  refine g_callS (z := mX9_isText) (As := [.int (iZ i)]) 4 dX9_read_1 mwX9_isText ⟨by decide, by decide⟩ rfl wlX9_81 wtX9_isText rfl (nle rfl) (nle rfl) rfl ?_
  refine n_isText  ri (fun z1 rz1 => ?_)
  refine rI ?_
  refine g_ifZ_eq 42 7 dX9_read_4 rfl rfl (rg01 (by omega)) (fun c2 => ?_) (fun c2 => ?_)
  · refine g_iconst (v := iZ (-1)) 43 dX9_read_42 rfl rfl ?_
    refine g_iret rfl dX9_read_43 ?_
    exact k (-1) (fun q => by omega) (fun q => rfl)
  · refine g_iload_n 8 dX9_read_7 rfl rfl ?_
    refine g_iconst (v := iZ (0)) 9 dX9_read_8 rfl rfl ?_
    refine g_aload_n 10 dX9_read_9 rfl rfl ?_
    obtain ⟨F50_3, ⟨F51_3, F52_3, F53_3, F54_3, F55_3, F56_3, F57_3, F58_3, F59_3, F60_3, F61_3, F62_3, F63_3, F64_3, F65_3, F66_3, F67_3, F68_3, F69_3, F70_3, kty_3, ktx_3⟩, ⟨r2_3, r5_3, r13_3, r14_3, r15_3, r16_3, r17_3, r18_3, r19_3, r20_3, r25_3, r26_3, r27_3, r28_3, r29_3, r30_3, r31_3, r35_3⟩, ⟨o53_3, o54_3, o55_3, o56_3, o57_3, o58_3, o59_3, o60_3, o61_3, o62_3, o63_3, o64_3, o65_3, o66_3, o67_3, o68_3, o69_3, o70_3⟩, hT_3⟩ := id H
    refine g_get 13 dX9_read_10 faX9_16_X9 F50_3 rfl rfl ?_
    refine g_iload_n 14 dX9_read_13 rfl rfl ?_
    have b4 := o53_3 ((i).toNat)
    refine g_ialdZ (v := iZ ((B 53) i.toNat)) 15 dX9_read_14 F53_3 (by omega) (by omega) (by decide) rfl rfl ?_
    refine g_iconst (v := iZ (1)) 16 dX9_read_15 rfl rfl ?_
    refine g_isubZ (((B 53) i.toNat) - 1) 17 dX9_read_16 (by omega) rfl ?_
    refine g_callS (z := mX9_in) (As := [.int (iZ a), .int (iZ 0), .int (iZ (((B 53) i.toNat) - 1))]) 20 dX9_read_17 mwX9_in ⟨by decide, by decide⟩ rfl wlX9_75 wtX9_in rfl (nle rfl) (nle rfl) rfl ?_
    refine n_in  ra (by decide) (by omega) (fun z5 rz5 => ?_)
    refine rI ?_
    refine g_ifZ_eq 42 23 dX9_read_20 rfl rfl (rg01 (by omega)) (fun c6 => ?_) (fun c6 => ?_)
    · refine g_iconst (v := iZ (-1)) 43 dX9_read_42 rfl rfl ?_
      refine g_iret rfl dX9_read_43 ?_
      exact k (-1) (fun q => by omega) (fun q => rfl)
    · refine g_aload_n 24 dX9_read_23 rfl rfl ?_
      refine g_get 27 dX9_read_24 faX9_13_X9 F50_3 rfl rfl ?_
      refine g_sipush (v := iZ (200)) 30 dX9_read_27 (by decide +kernel) rfl ?_
      refine g_iload_n 31 dX9_read_30 rfl rfl ?_
      refine g_imulZ (200 * i) 32 dX9_read_31 (by omega) rfl ?_
      refine g_iload_n 33 dX9_read_32 rfl rfl ?_
      refine g_iaddZ ((200 * i) + a) 34 dX9_read_33 (by omega) rfl ?_
      refine g_baldZ 35 dX9_read_34 F52_3 (by omega) (by omega) (by decide) rfl rfl ?_
      refine Go.zof ?_
      refine g_sipush (v := iZ (255)) 38 dX9_read_35 (by decide +kernel) rfl ?_
      refine g_and255Z (((tx ((200 * i) + a).toNat).toInt) % 256) 39 dX9_read_38 rfl rfl ?_
      refine g_goto 43 dX9_read_39 rfl ?_
      refine g_iret rfl dX9_read_43 ?_
      exact k (((tx ((200 * i) + a).toNat).toInt) % 256) (fun q => rfl) (fun q => by omega)
set_option maxRecDepth 100000 in
theorem b_edition {l : Launch} {h : MH} {Q : Option Value → MH → Prop} {tr : Int64} {ty tx : Nat → Int32} {w : Nat → Int} {B : Nat → Nat → Int} {i j : Int} (H : R9B h tr ty tx w B) (ri : rg i) (rj : rg j) (k : ∀ (h1 : MH) (w1 : Nat → Int) (B1 : Nat → Nat → Int) (r : Int), (0 ≤ i ∧ i ≤ 65535 ∧ 0 ≤ j ∧ j ≤ 65535 ∧ w 35 < 12 → r = w 35 ∧ w1 = va_up w 35 (w 35 + 1) ∧ B1 = va_up (va_up B 68 (va_up (B 68) (w 35).toNat i)) 69 (va_up (B 69) (w 35).toNat j)) → (0 ≤ i ∧ i ≤ 65535 ∧ 0 ≤ j ∧ j ≤ 65535 ∧ w 35 = 12 → r = -3 ∧ w1 = w ∧ B1 = B) → (¬ (0 ≤ i ∧ i ≤ 65535 ∧ 0 ≤ j ∧ j ≤ 65535) → r = -1 ∧ w1 = w ∧ B1 = B) → R9B h1 tr ty tx w1 B1 → Sm [50, 51, 52, 53, 54, 55, 56, 57, 58, 59, 60, 61, 62, 63, 64, 65, 66, 67, 68, 69, 70] h h1 → Q (some (.int (iZ r))) h1) : Go l mX9_edition 0 [some (.ref 50), some (.int (iZ i)), some (.int (iZ j))] [] h Q := by
  refine g_iload_n 1 dX9_edition_0 rfl rfl ?_
  refine g_iconst (v := iZ (0)) 2 dX9_edition_1 rfl rfl ?_
  refine g_ldc (v := iZ (65535)) 4 dX9_edition_2 wnX9_235 rfl ?_
  refine g_callS (z := mX9_in) (As := [.int (iZ i), .int (iZ 0), .int (iZ 65535)]) 7 dX9_edition_4 mwX9_in ⟨by decide, by decide⟩ rfl wlX9_75 wtX9_in rfl (nle rfl) (nle rfl) rfl ?_
  refine n_in  ri (by decide) (by decide) (fun z1 rz1 => ?_)
  refine rI ?_
  refine g_ifZ_eq 20 10 dX9_edition_7 rfl rfl (rg01 (by omega)) (fun c2 => ?_) (fun c2 => ?_)
  · refine g_iconst (v := iZ (-1)) 21 dX9_edition_20 rfl rfl ?_
    refine g_iret rfl dX9_edition_21 ?_
    exact k h w B (-1) (fun q => by omega) (fun q => ⟨by omega, rfl, rfl⟩) (fun q => ⟨by omega, rfl, rfl⟩) H (Sm.refl _ _)
  · refine g_iload_n 11 dX9_edition_10 rfl rfl ?_
    refine g_iconst (v := iZ (0)) 12 dX9_edition_11 rfl rfl ?_
    refine g_ldc (v := iZ (65535)) 14 dX9_edition_12 wnX9_235 rfl ?_
    refine g_callS (z := mX9_in) (As := [.int (iZ j), .int (iZ 0), .int (iZ 65535)]) 17 dX9_edition_14 mwX9_in ⟨by decide, by decide⟩ rfl wlX9_75 wtX9_in rfl (nle rfl) (nle rfl) rfl ?_
    refine n_in  rj (by decide) (by decide) (fun z3 rz3 => ?_)
    refine rI ?_
    refine g_ifZ_ne 22 20 dX9_edition_17 rfl rfl (rg01 (by omega)) (fun c4 => ?_) (fun c4 => ?_)
    · refine g_aload_n 23 dX9_edition_22 rfl rfl ?_
      obtain ⟨F50_5, ⟨F51_5, F52_5, F53_5, F54_5, F55_5, F56_5, F57_5, F58_5, F59_5, F60_5, F61_5, F62_5, F63_5, F64_5, F65_5, F66_5, F67_5, F68_5, F69_5, F70_5, kty_5, ktx_5⟩, ⟨r2_5, r5_5, r13_5, r14_5, r15_5, r16_5, r17_5, r18_5, r19_5, r20_5, r25_5, r26_5, r27_5, r28_5, r29_5, r30_5, r31_5, r35_5⟩, ⟨o53_5, o54_5, o55_5, o56_5, o57_5, o58_5, o59_5, o60_5, o61_5, o62_5, o63_5, o64_5, o65_5, o66_5, o67_5, o68_5, o69_5, o70_5⟩, hT_5⟩ := id H
      refine g_get 26 dX9_edition_23 faX9_236_X9 F50_5 rfl rfl ?_
      refine g_bipush (v := iZ (12)) 28 dX9_edition_26 (by decide +kernel) rfl ?_
      refine g_icZ_ne 34 31 dX9_edition_28 rfl rfl (by omega) (by decide) (fun c6 => ?_) (fun c6 => ?_)
      · refine g_aload_n 35 dX9_edition_34 rfl rfl ?_
        refine g_get 38 dX9_edition_35 faX9_62_X9 F50_5 rfl rfl ?_
        refine g_aload_n 39 dX9_edition_38 rfl rfl ?_
        refine g_get 42 dX9_edition_39 faX9_236_X9 F50_5 rfl rfl ?_
        refine g_iload_n 43 dX9_edition_42 rfl rfl ?_
        refine g_iastFj ((w 35).toNat) 44 dX9_edition_43 F68_5 (by omega) (by omega) (by decide) rfl rfl (fun h7 s8 f9 => ?_)
        refine g_aload_n 45 dX9_edition_44 rfl rfl ?_
        have f10 := (s8.get (by decide) F50_5)
        refine g_get 48 dX9_edition_45 faX9_65_X9 f10 rfl rfl ?_
        refine g_aload_n 49 dX9_edition_48 rfl rfl ?_
        refine g_get 52 dX9_edition_49 faX9_236_X9 f10 rfl rfl ?_
        refine g_iload_n 53 dX9_edition_52 rfl rfl ?_
        have f11 := (s8.get (by decide) F69_5)
        refine g_iastFj ((w 35).toNat) 54 dX9_edition_53 f11 (by omega) (by omega) (by decide) rfl rfl (fun h12 s13 f14 => ?_)
        refine g_aload_n 55 dX9_edition_54 rfl rfl ?_
        refine g_dup 56 dX9_edition_55 rfl rfl ?_
        have f15 := (s13.get (by decide) f10)
        refine g_get 59 dX9_edition_56 faX9_236_X9 f15 rfl rfl ?_
        refine g_iconst (v := iZ (1)) 60 dX9_edition_59 rfl rfl ?_
        refine g_iaddZ ((w 35) + 1) 61 dX9_edition_60 (by omega) rfl ?_
        refine g_putC (fs1 := [.long (tr), .ref 51, .int (iZ (w 2)), .ref 52, .ref 53, .int (iZ (w 5)), .ref 54, .ref 55, .ref 56, .ref 57, .ref 58, .ref 59, .ref 60, .int (iZ (w 13)), .int (iZ (w 14)), .int (iZ (w 15)), .int (iZ (w 16)), .int (iZ (w 17)), .int (iZ (w 18)), .int (iZ (w 19)), .int (iZ (w 20)), .ref 61, .ref 62, .ref 63, .ref 64, .int (iZ (w 25)), .int (iZ (w 26)), .int (iZ (w 27)), .int (iZ (w 28)), .int (iZ (w 29)), .int (iZ (w 30)), .int (iZ (w 31)), .ref 65, .ref 66, .ref 67, .int (iZ ((w 35) + 1)), .ref 68, .ref 69, .ref 70]) 64 dX9_edition_61 fpX9_236_X9 f15 (nle rfl) (vI _) rfl rfl (fun h16 s17 f18 => ?_)
        refine g_aload_n 65 dX9_edition_64 rfl rfl ?_
        refine g_get 68 dX9_edition_65 faX9_236_X9 f18 rfl rfl ?_
        refine g_iconst (v := iZ (1)) 69 dX9_edition_68 rfl rfl ?_
        refine g_isubZ (((w 35) + 1) - 1) 70 dX9_edition_69 (by omega) rfl ?_
        refine g_iret rfl dX9_edition_70 ?_
        have f19 := (s17.get (by decide) (s13.get (by decide) (s8.get (by decide) F51_5)))
        have f20 := (s17.get (by decide) (s13.get (by decide) (s8.get (by decide) F52_5)))
        have f21 := (s17.get (by decide) (s13.get (by decide) (s8.get (by decide) F53_5)))
        have f22 := (s17.get (by decide) (s13.get (by decide) (s8.get (by decide) F54_5)))
        have f23 := (s17.get (by decide) (s13.get (by decide) (s8.get (by decide) F55_5)))
        have f24 := (s17.get (by decide) (s13.get (by decide) (s8.get (by decide) F56_5)))
        have f25 := (s17.get (by decide) (s13.get (by decide) (s8.get (by decide) F57_5)))
        have f26 := (s17.get (by decide) (s13.get (by decide) (s8.get (by decide) F58_5)))
        have f27 := (s17.get (by decide) (s13.get (by decide) (s8.get (by decide) F59_5)))
        have f28 := (s17.get (by decide) (s13.get (by decide) (s8.get (by decide) F60_5)))
        have f29 := (s17.get (by decide) (s13.get (by decide) (s8.get (by decide) F61_5)))
        have f30 := (s17.get (by decide) (s13.get (by decide) (s8.get (by decide) F62_5)))
        have f31 := (s17.get (by decide) (s13.get (by decide) (s8.get (by decide) F63_5)))
        have f32 := (s17.get (by decide) (s13.get (by decide) (s8.get (by decide) F64_5)))
        have f33 := (s17.get (by decide) (s13.get (by decide) (s8.get (by decide) F65_5)))
        have f34 := (s17.get (by decide) (s13.get (by decide) (s8.get (by decide) F66_5)))
        have f35 := (s17.get (by decide) (s13.get (by decide) (s8.get (by decide) F67_5)))
        have f36 := (s17.get (by decide) (s13.get (by decide) f9))
        have f37 := (s17.get (by decide) f14)
        have f38 := (s17.get (by decide) (s13.get (by decide) (s8.get (by decide) F70_5)))
        exact k _ (va_up w 35 ((w 35) + 1)) (va_up (va_up B 68 (va_up (B 68) (w 35).toNat i)) 69 (va_up (B 69) (w 35).toNat j)) (((w 35) + 1) - 1) (fun q => ⟨by omega, rfl, rfl⟩) (fun q => by omega) (fun q => by omega) ⟨f18, ⟨f19, f20, f21, f22, f23, f24, f25, f26, f27, f28, f29, f30, f31, f32, f33, f34, f35, f36, f37, f38, kty_5, ktx_5⟩, ⟨r2_5, r5_5, r13_5, r14_5, r15_5, r16_5, r17_5, r18_5, r19_5, r20_5, r25_5, r26_5, r27_5, r28_5, r29_5, r30_5, r31_5, (show 0 ≤ ((w 35) + 1 : Int) ∧ ((w 35) + 1 : Int) ≤ 12 by omega)⟩, ⟨o53_5, o54_5, o55_5, o56_5, o57_5, o58_5, o59_5, o60_5, o61_5, o62_5, o63_5, o64_5, o65_5, o66_5, o67_5, (oki_up o68_5 _ (by omega)), (oki_up o69_5 _ (by omega)), o70_5⟩, H.2.2.2.2⟩ ((((Sm.refl [50, 51, 52, 53, 54, 55, 56, 57, 58, 59, 60, 61, 62, 63, 64, 65, 66, 67, 68, 69, 70] _).tr s8 (fun _ q => q) (by simp)).tr s13 (fun _ q => q) (by simp)).tr s17 (fun _ q => q) (by simp))
      · refine g_bipush (v := iZ (-3)) 33 dX9_edition_31 (by decide +kernel) rfl ?_
        refine g_iret rfl dX9_edition_33 ?_
        exact k h w B (-3) (fun q => by omega) (fun q => ⟨by omega, rfl, rfl⟩) (fun q => ⟨by omega, rfl, rfl⟩) H (Sm.refl _ _)
    · refine g_iconst (v := iZ (-1)) 21 dX9_edition_20 rfl rfl ?_
      refine g_iret rfl dX9_edition_21 ?_
      exact k h w B (-1) (fun q => by omega) (fun q => ⟨by omega, rfl, rfl⟩) (fun q => ⟨by omega, rfl, rfl⟩) H (Sm.refl _ _)

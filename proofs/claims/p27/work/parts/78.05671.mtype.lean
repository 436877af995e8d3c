set_option maxRecDepth 100000 in
theorem b_clear {l : Launch} {h : MH} {Q : Option Value → MH → Prop} {tr : Int64} {ty tx : Nat → Int32} {w : Nat → Int} {B : Nat → Nat → Int} (H : R9B h tr ty tx w B) (k : ∀ h1 : MH, R9B h1 tr ty tx (va_up w 2 0) B → Sm [50, 51, 52, 53, 54, 55, 56, 57, 58, 59, 60, 61, 62, 63, 64, 65, 66, 67, 68, 69, 70] h h1 → Q (some (.int (iZ (w 2)))) h1) : Go l mX9_clear 0 [some (.ref 50), none] [] h Q := by
  refine g_aload_n 1 dX9_clear_0 rfl rfl ?_
  obtain ⟨F50_1, ⟨F51_1, F52_1, F53_1, F54_1, F55_1, F56_1, F57_1, F58_1, F59_1, F60_1, F61_1, F62_1, F63_1, F64_1, F65_1, F66_1, F67_1, F68_1, F69_1, F70_1, kty_1, ktx_1⟩, ⟨r2_1, r5_1, r13_1, r14_1, r15_1, r16_1, r17_1, r18_1, r19_1, r20_1, r25_1, r26_1, r27_1, r28_1, r29_1, r30_1, r31_1, r35_1⟩, ⟨o53_1, o54_1, o55_1, o56_1, o57_1, o58_1, o59_1, o60_1, o61_1, o62_1, o63_1, o64_1, o65_1, o66_1, o67_1, o68_1, o69_1, o70_1⟩, hT_1⟩ := id H
  refine g_get 4 dX9_clear_1 faX9_71_X9 F50_1 rfl rfl ?_
  refine g_istore_n (L1 := [some (.ref 50), some (.int (iZ (w 2)))]) 5 dX9_clear_4 (by decide) rfl rfl rfl ?_
  refine g_aload_n 6 dX9_clear_5 rfl rfl ?_
  refine g_iconst (v := iZ (0)) 7 dX9_clear_6 rfl rfl ?_
  refine g_putC (fs1 := [.long (tr), .ref 51, .int (iZ 0), .ref 52, .ref 53, .int (iZ (w 5)), .ref 54, .ref 55, .ref 56, .ref 57, .ref 58, .ref 59, .ref 60, .int (iZ (w 13)), .int (iZ (w 14)), .int (iZ (w 15)), .int (iZ (w 16)), .int (iZ (w 17)), .int (iZ (w 18)), .int (iZ (w 19)), .int (iZ (w 20)), .ref 61, .ref 62, .ref 63, .ref 64, .int (iZ (w 25)), .int (iZ (w 26)), .int (iZ (w 27)), .int (iZ (w 28)), .int (iZ (w 29)), .int (iZ (w 30)), .int (iZ (w 31)), .ref 65, .ref 66, .ref 67, .int (iZ (w 35)), .ref 68, .ref 69, .ref 70]) 10 dX9_clear_7 fpX9_71_X9 F50_1 (nle rfl) (vI _) rfl rfl (fun h2 s3 f4 => ?_)
  refine g_iload_n 11 dX9_clear_10 rfl rfl ?_
  refine g_iret rfl dX9_clear_11 ?_
  have f5 := (s3.get (by decide) F51_1)
  have f6 := (s3.get (by decide) F52_1)
  have f7 := (s3.get (by decide) F53_1)
  have f8 := (s3.get (by decide) F54_1)
  have f9 := (s3.get (by decide) F55_1)
  have f10 := (s3.get (by decide) F56_1)
  have f11 := (s3.get (by decide) F57_1)
  have f12 := (s3.get (by decide) F58_1)
  have f13 := (s3.get (by decide) F59_1)
  have f14 := (s3.get (by decide) F60_1)
  have f15 := (s3.get (by decide) F61_1)
  have f16 := (s3.get (by decide) F62_1)
  have f17 := (s3.get (by decide) F63_1)
  have f18 := (s3.get (by decide) F64_1)
  have f19 := (s3.get (by decide) F65_1)
  have f20 := (s3.get (by decide) F66_1)
  have f21 := (s3.get (by decide) F67_1)
  have f22 := (s3.get (by decide) F68_1)
  have f23 := (s3.get (by decide) F69_1)
  have f24 := (s3.get (by decide) F70_1)
  exact k _ ⟨f4, ⟨f5, f6, f7, f8, f9, f10, f11, f12, f13, f14, f15, f16, f17, f18, f19, f20, f21, f22, f23, f24, kty_1, ktx_1⟩, ⟨(show 0 ≤ (0 : Int) ∧ (0 : Int) ≤ 200 by omega), r5_1, r13_1, r14_1, r15_1, r16_1, r17_1, r18_1, r19_1, r20_1, r25_1, r26_1, r27_1, r28_1, r29_1, r30_1, r31_1, r35_1⟩, ⟨o53_1, o54_1, o55_1, o56_1, o57_1, o58_1, o59_1, o60_1, o61_1, o62_1, o63_1, o64_1, o65_1, o66_1, o67_1, o68_1, o69_1, o70_1⟩, H.2.2.2.2⟩ ((Sm.refl [50, 51, 52, 53, 54, 55, 56, 57, 58, 59, 60, 61, 62, 63, 64, 65, 66, 67, 68, 69, 70] _).tr s3 (fun _ q => q) (by simp))
set_option maxRecDepth 100000 in
theorem lp9_tyB {l : Launch} {Q : Option Value → MH → Prop} (v : Int64) (z : Int) {tr : Int64} {w : Nat → Int} : ∀ (k : Nat) (h : MH) (f : Nat → Int32) (t i : Int), i = k - 1 → 0 ≤ t → t + k ≤ 200 → k ≤ 8 → h[50]? = some (.inr (8, [.long (tr), .ref 51, .int (iZ t), .ref 52, .ref 53, .int (iZ (w 5)), .ref 54, .ref 55, .ref 56, .ref 57, .ref 58, .ref 59, .ref 60, .int (iZ (w 13)), .int (iZ (w 14)), .int (iZ (w 15)), .int (iZ (w 16)), .int (iZ (w 17)), .int (iZ (w 18)), .int (iZ (w 19)), .int (iZ (w 20)), .ref 61, .ref 62, .ref 63, .ref 64, .int (iZ (w 25)), .int (iZ (w 26)), .int (iZ (w 27)), .int (iZ (w 28)), .int (iZ (w 29)), .int (iZ (w 30)), .int (iZ (w 31)), .ref 65, .ref 66, .ref 67, .int (iZ (w 35)), .ref 68, .ref 69, .ref 70])) → h[51]? = some (.inl (1, 200, .inl f)) → (∀ (h1 : MH) (f1 : Nat → Int32) (r : Int), r = t + k → (∀ j : Nat, (j : Int) < t → f1 j = f j) → (∀ j : Nat, t ≤ j → (j : Int) < t + k → (f1 j).toInt % 256 = bt v (t + k - 1 - j)) → (okB f → okB f1) → Sm [50, 51] h h1 → h1[50]? = some (.inr (8, [.long (tr), .ref 51, .int (iZ r), .ref 52, .ref 53, .int (iZ (w 5)), .ref 54, .ref 55, .ref 56, .ref 57, .ref 58, .ref 59, .ref 60, .int (iZ (w 13)), .int (iZ (w 14)), .int (iZ (w 15)), .int (iZ (w 16)), .int (iZ (w 17)), .int (iZ (w 18)), .int (iZ (w 19)), .int (iZ (w 20)), .ref 61, .ref 62, .ref 63, .ref 64, .int (iZ (w 25)), .int (iZ (w 26)), .int (iZ (w 27)), .int (iZ (w 28)), .int (iZ (w 29)), .int (iZ (w 30)), .int (iZ (w 31)), .ref 65, .ref 66, .ref 67, .int (iZ (w 35)), .ref 68, .ref 69, .ref 70])) → h1[51]? = some (.inl (1, 200, .inl f1)) → Q (some (.int (iZ r))) h1) → Go l mX9_type 32 [some (.ref 50), some (.long (v)), none, some (.int (iZ z)), some (.int (iZ i))] [] h Q := by
  intro k
  induction k with
  | zero =>
    intro h f t i hi h0 h2 h3 f0 f1 k
    have : i = -1 := by omega
    subst this
    refine g_iload 34 dX9_type_32 rfl rfl ?_
    refine g_ifZ_lt 75 37 dX9_type_34 rfl rfl (by decide) (fun _ => ?_) (fun q => absurd q (by decide))
    refine g_aload_n 76 dX9_type_75 rfl rfl ?_
    refine g_get 79 dX9_type_76 faX9_71_X9 f0 rfl rfl ?_
    refine g_iret rfl dX9_type_79 ?_
    exact k h f t (by omega) (fun _ _ => rfl) (fun j h4 h5 => by omega) (fun z => z) (Sm.refl _ _) f0 f1
  | succ k ih =>
    intro h f t i hi h0 h2 h3 f0 f1 kf
    have : i = (k : Int) := by omega
    subst this
    refine g_iload 34 dX9_type_32 rfl rfl ?_
    refine g_ifZ_lt 75 37 dX9_type_34 rfl rfl (by omega) (fun q => absurd q (by omega)) (fun _ => ?_)
    refine g_aload_n 38 dX9_type_37 rfl rfl ?_
    refine g_get 41 dX9_type_38 faX9_7_X9 f0 rfl rfl ?_
    refine g_aload_n 42 dX9_type_41 rfl rfl ?_
    refine g_get 45 dX9_type_42 faX9_71_X9 f0 rfl rfl ?_
    refine g_lload_n 46 dX9_type_45 rfl rfl ?_
    refine g_bipush (v := iZ (8)) 48 dX9_type_46 (by decide +kernel) rfl ?_
    refine g_iload 50 dX9_type_48 rfl rfl ?_
    refine g_imulZ (8 * ((k : Int))) 51 dX9_type_50 (by omega) rfl ?_
    refine g_lshr 52 dX9_type_51 rfl ?_
    refine g_ldc2 55 dX9_type_52 wnX9_79 rfl ?_
    refine g_land 56 dX9_type_55 rfl ?_
    refine g_l2i 57 dX9_type_56 rfl ?_
    refine g_i2b 58 dX9_type_57 rfl ?_
    refine Go.eqI (bt9 v (k : Int)) rfl ?_
    refine g_bastZ (f1 := upd f t.toNat (vp_nar .byte (bt9 v (k : Int)))) 59 dX9_type_58 f1 (by omega) (by omega) (by decide) rfl rfl (fun h1 s2 f3 => ?_)
    refine g_aload_n 60 dX9_type_59 rfl rfl ?_
    refine g_dup 61 dX9_type_60 rfl rfl ?_
    have f4 := (s2.get (by decide) f0)
    refine g_get 64 dX9_type_61 faX9_71_X9 f4 rfl rfl ?_
    refine g_iconst (v := iZ (1)) 65 dX9_type_64 rfl rfl ?_
    refine g_iaddZ (t + 1) 66 dX9_type_65 (by omega) rfl ?_
    refine g_putC (fs1 := [.long (tr), .ref 51, .int (iZ (t + 1)), .ref 52, .ref 53, .int (iZ (w 5)), .ref 54, .ref 55, .ref 56, .ref 57, .ref 58, .ref 59, .ref 60, .int (iZ (w 13)), .int (iZ (w 14)), .int (iZ (w 15)), .int (iZ (w 16)), .int (iZ (w 17)), .int (iZ (w 18)), .int (iZ (w 19)), .int (iZ (w 20)), .ref 61, .ref 62, .ref 63, .ref 64, .int (iZ (w 25)), .int (iZ (w 26)), .int (iZ (w 27)), .int (iZ (w 28)), .int (iZ (w 29)), .int (iZ (w 30)), .int (iZ (w 31)), .ref 65, .ref 66, .ref 67, .int (iZ (w 35)), .ref 68, .ref 69, .ref 70]) 69 dX9_type_66 fpX9_71_X9 f4 (nle rfl) (vI _) rfl rfl (fun h5 s6 f7 => ?_)
    refine g_iincZ [some (.ref 50), some (.long (v)), none, some (.int (iZ z)), some (.int (iZ ((k : Int) - 1)))] 72 dX9_type_69 rfl (by omega) (by decide) rfl rfl rfl ?_
    refine g_goto 32 dX9_type_72 rfl ?_
    have f8 := (s6.get (by decide) f3)
    refine ih _ _ (t + 1) _ (by omega) (by omega) (by omega) (by omega) f7 f8 (fun h1 g1 r e1 e2 e3 eb s1 u1 u2 => ?_)
    refine kf h1 g1 r (by omega) (fun j hj => (e2 j (by omega)).trans (pk_un (by omega))) (fun j h4 h5 => ?_) (fun z => eb (okB_nar z)) ((((Sm.refl [50, 51] _).tr s2 (fun _ q => q) (by simp)).tr s6 (fun _ q => q) (by simp)).tr s1 (fun _ q => q) (fun _ q => q)) u1 u2
    by_cases e : (j : Int) = t
    · rw [e2 j (by omega), show j = t.toNat by omega, pk_us, bt9_eq v k (by omega) (by omega)]
      congr 1; omega
    · rw [e3 j (by omega) (by omega)]
      congr 1; omega
set_option maxRecDepth 100000 in
theorem b_type {l : Launch} {h : MH} {Q : Option Value → MH → Prop} {tr : Int64} {ty tx : Nat → Int32} {w : Nat → Int} {B : Nat → Nat → Int} {n : Int} {v : Int64} (H : R9B h tr ty tx w B) (rn : rg n) (k : ∀ (h1 : MH) (ty1 : Nat → Int32) (w1 : Nat → Int) (r : Int), (1 ≤ n ∧ n ≤ 8 ∧ w 2 + n ≤ 200 → r = w 2 + n ∧ w1 = va_up w 2 (w 2 + n) ∧ (∀ j : Nat, (j : Int) < w 2 → ty1 j = ty j) ∧ ∀ j : Nat, w 2 ≤ j → (j : Int) < w 2 + n → (ty1 j).toInt % 256 = bt v (w 2 + n - 1 - j)) → (1 ≤ n ∧ n ≤ 8 ∧ 200 < w 2 + n → r = -3 ∧ w1 = w ∧ ty1 = ty) → (¬ (1 ≤ n ∧ n ≤ 8) → r = -1 ∧ w1 = w ∧ ty1 = ty) → R9B h1 tr ty1 tx w1 B → Sm [50, 51, 52, 53, 54, 55, 56, 57, 58, 59, 60, 61, 62, 63, 64, 65, 66, 67, 68, 69, 70] h h1 → Q (some (.int (iZ r))) h1) : Go l mX9_type 0 [some (.ref 50), some (.long (v)), none, some (.int (iZ n)), none] [] h Q := by
  refine g_iload_n 1 dX9_type_0 rfl rfl ?_
  refine g_iconst (v := iZ (1)) 2 dX9_type_1 rfl rfl ?_
  refine g_bipush (v := iZ (8)) 4 dX9_type_2 (by decide +kernel) rfl ?_
  refine g_callS (z := mX9_in) (As := [.int (iZ n), .int (iZ 1), .int (iZ 8)]) 7 dX9_type_4 mwX9_in ⟨by decide, by decide⟩ rfl wlX9_75 wtX9_in rfl (nle rfl) (nle rfl) rfl ?_
  refine n_in  rn (by decide) (by decide) (fun z1 rz1 => ?_)
  refine rI ?_
  refine g_ifZ_ne 12 10 dX9_type_7 rfl rfl (rg01 (by omega)) (fun c2 => ?_) (fun c2 => ?_)
  · refine g_aload_n 13 dX9_type_12 rfl rfl ?_
    obtain ⟨F50_3, ⟨F51_3, F52_3, F53_3, F54_3, F55_3, F56_3, F57_3, F58_3, F59_3, F60_3, F61_3, F62_3, F63_3, F64_3, F65_3, F66_3, F67_3, F68_3, F69_3, F70_3, kty_3, ktx_3⟩, ⟨r2_3, r5_3, r13_3, r14_3, r15_3, r16_3, r17_3, r18_3, r19_3, r20_3, r25_3, r26_3, r27_3, r28_3, r29_3, r30_3, r31_3, r35_3⟩, ⟨o53_3, o54_3, o55_3, o56_3, o57_3, o58_3, o59_3, o60_3, o61_3, o62_3, o63_3, o64_3, o65_3, o66_3, o67_3, o68_3, o69_3, o70_3⟩, hT_3⟩ := id H
    refine g_get 16 dX9_type_13 faX9_71_X9 F50_3 rfl rfl ?_
    refine g_iload_n 17 dX9_type_16 rfl rfl ?_
    refine g_iaddZ ((w 2) + n) 18 dX9_type_17 (by omega) rfl ?_
    refine g_sipush (v := iZ (200)) 21 dX9_type_18 (by decide +kernel) rfl ?_
    refine g_icZ_le 27 24 dX9_type_21 rfl rfl (by omega) (by decide) (fun c4 => ?_) (fun c4 => ?_)
    · refine g_iload_n 28 dX9_type_27 rfl rfl ?_
      refine g_iconst (v := iZ (1)) 29 dX9_type_28 rfl rfl ?_
      refine g_isubZ (n - 1) 30 dX9_type_29 (by omega) rfl ?_
      refine g_istore (L1 := [some (.ref 50), some (.long (v)), none, some (.int (iZ n)), some (.int (iZ (n - 1)))]) 32 dX9_type_30 (by decide) rfl rfl rfl ?_
      obtain ⟨j, hj⟩ : ∃ j : Nat, (j : Int) = n := ⟨n.toNat, by omega⟩
      refine lp9_tyB v n j _ _ (w 2) _ (by omega) (by omega) (by omega) (by omega) F50_3 F51_3 (fun h1 f1 r e1 e2 e3 eb s1 u1 u2 => ?_)
      have e4 : r = w 2 + n := by omega
      subst e4
      refine k h1 f1 (va_up w 2 (w 2 + n)) (w 2 + n) (fun q => ⟨rfl, rfl, e2, fun j h4 h5 => ?_⟩) (fun q => by omega) (fun q => by omega) ⟨u1, ⟨u2, (s1.get (by decide) F52_3), (s1.get (by decide) F53_3), (s1.get (by decide) F54_3), (s1.get (by decide) F55_3), (s1.get (by decide) F56_3), (s1.get (by decide) F57_3), (s1.get (by decide) F58_3), (s1.get (by decide) F59_3), (s1.get (by decide) F60_3), (s1.get (by decide) F61_3), (s1.get (by decide) F62_3), (s1.get (by decide) F63_3), (s1.get (by decide) F64_3), (s1.get (by decide) F65_3), (s1.get (by decide) F66_3), (s1.get (by decide) F67_3), (s1.get (by decide) F68_3), (s1.get (by decide) F69_3), (s1.get (by decide) F70_3), (eb kty_3), ktx_3⟩, ⟨(show 0 ≤ w 2 + n ∧ w 2 + n ≤ 200 by omega), r5_3, r13_3, r14_3, r15_3, r16_3, r17_3, r18_3, r19_3, r20_3, r25_3, r26_3, r27_3, r28_3, r29_3, r30_3, r31_3, r35_3⟩, H.2.2.2.1, H.2.2.2.2⟩ (s1.mono (by simp))
      rw [e3 j h4 (by omega)]
      congr 1; omega
    · refine g_bipush (v := iZ (-3)) 26 dX9_type_24 (by decide +kernel) rfl ?_
      refine g_iret rfl dX9_type_26 ?_
      exact k h ty w (-3) (fun q => by omega) (fun q => ⟨by omega, rfl, rfl⟩) (fun q => ⟨by omega, rfl, rfl⟩) H (Sm.refl _ _)
  · refine g_iconst (v := iZ (-1)) 11 dX9_type_10 rfl rfl ?_
    refine g_iret rfl dX9_type_11 ?_
    exact k h ty w (-1) (fun q => by omega) (fun q => ⟨by omega, rfl, rfl⟩) (fun q => ⟨by omega, rfl, rfl⟩) H (Sm.refl _ _)

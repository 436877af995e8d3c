set_option maxRecDepth 100000 in
theorem b_again {l : Launch} {h : MH} {Q : Option Value → MH → Prop} {tr : Int64} {ty tx : Nat → Int32} {w : Nat → Int} {B : Nat → Nat → Int} {t : Int} (H : R9B h tr ty tx w B) (rt : (0 ≤ t ∧ t ≤ 11)) (ht : t < w 5) (k : ∀ (h1 : MH) (w1 : Nat → Int) (B1 : Nat → Nat → Int) (r : Int), (rg r) → R9B h1 tr ty tx w1 B1 → AgB w B w1 B1 → Sm [50, 54, 55, 56, 61, 62, 63, 64] h h1 → Q (some (.int (iZ r))) h1) : Go l mX9_again 0 [some (.ref 50), some (.int (iZ t)), none] [] h Q := by
  have n0 := H.2.2.1.2.1
  refine g_aload_n 1 dX9_again_0 rfl rfl ?_
  obtain ⟨F50_1, ⟨F51_1, F52_1, F53_1, F54_1, F55_1, F56_1, F57_1, F58_1, F59_1, F60_1, F61_1, F62_1, F63_1, F64_1, F65_1, F66_1, F67_1, F68_1, F69_1, F70_1, kty_1, ktx_1⟩, ⟨r2_1, r5_1, r13_1, r14_1, r15_1, r16_1, r17_1, r18_1, r19_1, r20_1, r25_1, r26_1, r27_1, r28_1, r29_1, r30_1, r31_1, r35_1⟩, ⟨o53_1, o54_1, o55_1, o56_1, o57_1, o58_1, o59_1, o60_1, o61_1, o62_1, o63_1, o64_1, o65_1, o66_1, o67_1, o68_1, o69_1, o70_1⟩, hT_1⟩ := id H
  refine g_get 4 dX9_again_1 faX9_29_X9 F50_1 rfl rfl ?_
  refine g_iload_n 5 dX9_again_4 rfl rfl ?_
  refine g_ialdZ (v := iZ ((B 57) t.toNat)) 6 dX9_again_5 F57_1 (by omega) (by omega) (by decide) rfl rfl ?_
  refine g_iconst (v := iZ (2)) 7 dX9_again_6 rfl rfl ?_
  refine g_icZ_ne 58 10 dX9_again_7 rfl rfl (o57_1 _) (by decide) (fun c2 => ?_) (fun c2 => ?_)
  · refine g_aload_n 59 dX9_again_58 rfl rfl ?_
    refine g_get 62 dX9_again_59 faX9_29_X9 F50_1 rfl rfl ?_
    refine g_iload_n 63 dX9_again_62 rfl rfl ?_
    refine g_ialdZ (v := iZ ((B 57) t.toNat)) 64 dX9_again_63 F57_1 (by omega) (by omega) (by decide) rfl rfl ?_
    refine g_ifZ_ne 82 67 dX9_again_64 rfl rfl (o57_1 _) (fun c3 => ?_) (fun c3 => ?_)
    · refine g_aload_n 83 dX9_again_82 rfl rfl ?_
      refine g_aload_n 84 dX9_again_83 rfl rfl ?_
      refine g_get 87 dX9_again_84 faX9_32_X9 F50_1 rfl rfl ?_
      refine g_iload_n 88 dX9_again_87 rfl rfl ?_
      have b4 := o58_1 ((t).toNat)
      refine g_ialdZ (v := iZ ((B 58) t.toNat)) 89 dX9_again_88 F58_1 (by omega) (by omega) (by decide) rfl rfl ?_
      refine g_bipush (v := iZ (12)) 91 dX9_again_89 (by decide +kernel) rfl ?_
      refine g_callV (z := mX9_readNames) (As := [.int (iZ ((B 58) t.toNat)), .int (iZ 12)]) 94 dX9_again_91 mwX9_readNames ⟨by decide, by decide⟩ rfl wlX9_164 wiX9_readNames wsX9_readNames F50_1 rfl rfl rfl (nle rfl) (nle rfl) rfl ?_
      refine b_rn H (by omega) (fun h8 w9 B10 z5 rz5 p6 p7 H11 a12 s13 => ?_)
      have e14 := a12.1
      have n15 := H11.2.2.1.2.1
      refine rI ?_
      refine g_istore_n (L1 := [some (.ref 50), some (.int (iZ t)), some (.int (iZ z5))]) 95 dX9_again_94 (by decide) rfl rfl rfl ?_
      refine g_iload_n 96 dX9_again_95 rfl rfl ?_
      refine g_bipush (v := iZ (-9)) 98 dX9_again_96 (by decide +kernel) rfl ?_
      refine g_icZ_ne 111 101 dX9_again_98 rfl rfl (by omega) (by decide) (fun c16 => ?_) (fun c16 => ?_)
      · refine g_bipush (v := iZ (-20)) 113 dX9_again_111 (by decide +kernel) rfl ?_
        refine g_iret rfl dX9_again_113 ?_
        exact k _ _ _ (-20) (by decide)  H11 a12 ((Sm.refl [50, 54, 55, 56, 61, 62, 63, 64] _).tr s13 (fun _ q => q) (by simp))
      · refine g_aload_n 102 dX9_again_101 rfl rfl ?_
        refine g_iload_n 103 dX9_again_102 rfl rfl ?_
        refine g_bipush (v := iZ (12)) 105 dX9_again_103 (by decide +kernel) rfl ?_
        obtain ⟨F50_17, ⟨F51_17, F52_17, F53_17, F54_17, F55_17, F56_17, F57_17, F58_17, F59_17, F60_17, F61_17, F62_17, F63_17, F64_17, F65_17, F66_17, F67_17, F68_17, F69_17, F70_17, kty_17, ktx_17⟩, ⟨r2_17, r5_17, r13_17, r14_17, r15_17, r16_17, r17_17, r18_17, r19_17, r20_17, r25_17, r26_17, r27_17, r28_17, r29_17, r30_17, r31_17, r35_17⟩, ⟨o53_17, o54_17, o55_17, o56_17, o57_17, o58_17, o59_17, o60_17, o61_17, o62_17, o63_17, o64_17, o65_17, o66_17, o67_17, o68_17, o69_17, o70_17⟩, hT_17⟩ := id H11
        refine g_callV (z := mX9_unlike) (As := [.int (iZ t), .int (iZ 12)]) 108 dX9_again_105 mwX9_unlike ⟨by decide, by decide⟩ rfl wlX9_214 wiX9_unlike wsX9_unlike F50_17 rfl rfl rfl (nle rfl) (nle rfl) rfl ?_
        refine b_unl H11 (by omega) (by omega) (fun z18 rz18 => ?_)
        refine rI ?_
        refine g_goto 113 dX9_again_108 rfl ?_
        refine g_iret rfl dX9_again_113 ?_
        exact k _ _ _ (z18) (by omega)  H11 a12 ((Sm.refl [50, 54, 55, 56, 61, 62, 63, 64] _).tr s13 (fun _ q => q) (by simp))
    · refine g_aload_n 68 dX9_again_67 rfl rfl ?_
      refine g_aload_n 69 dX9_again_68 rfl rfl ?_
      refine g_get 72 dX9_again_69 faX9_32_X9 F50_1 rfl rfl ?_
      refine g_iload_n 73 dX9_again_72 rfl rfl ?_
      have b19 := o58_1 ((t).toNat)
      refine g_ialdZ (v := iZ ((B 58) t.toNat)) 74 dX9_again_73 F58_1 (by omega) (by omega) (by decide) rfl rfl ?_
      refine g_bipush (v := iZ (12)) 76 dX9_again_74 (by decide +kernel) rfl ?_
      refine g_callV (z := mX9_readPairs) (As := [.int (iZ ((B 58) t.toNat)), .int (iZ 12)]) 79 dX9_again_76 mwX9_readPairs ⟨by decide, by decide⟩ rfl wlX9_161 wiX9_readPairs wsX9_readPairs F50_1 rfl rfl rfl (nle rfl) (nle rfl) rfl ?_
      refine b_rp H (by omega) (fun h23 w24 B25 z20 rz20 p21 p22 H26 a27 s28 => ?_)
      have e29 := a27.1
      have n30 := H26.2.2.1.2.1
      refine rI ?_
      refine g_goto 94 dX9_again_79 rfl ?_
      refine g_istore_n (L1 := [some (.ref 50), some (.int (iZ t)), some (.int (iZ z20))]) 95 dX9_again_94 (by decide) rfl rfl rfl ?_
      refine g_iload_n 96 dX9_again_95 rfl rfl ?_
      refine g_bipush (v := iZ (-9)) 98 dX9_again_96 (by decide +kernel) rfl ?_
      refine g_icZ_ne 111 101 dX9_again_98 rfl rfl (by omega) (by decide) (fun c31 => ?_) (fun c31 => ?_)
      · refine g_bipush (v := iZ (-20)) 113 dX9_again_111 (by decide +kernel) rfl ?_
        refine g_iret rfl dX9_again_113 ?_
        exact k _ _ _ (-20) (by decide)  H26 a27 ((Sm.refl [50, 54, 55, 56, 61, 62, 63, 64] _).tr s28 (fun _ q => q) (by simp))
      · refine g_aload_n 102 dX9_again_101 rfl rfl ?_
        refine g_iload_n 103 dX9_again_102 rfl rfl ?_
        refine g_bipush (v := iZ (12)) 105 dX9_again_103 (by decide +kernel) rfl ?_
        obtain ⟨F50_32, ⟨F51_32, F52_32, F53_32, F54_32, F55_32, F56_32, F57_32, F58_32, F59_32, F60_32, F61_32, F62_32, F63_32, F64_32, F65_32, F66_32, F67_32, F68_32, F69_32, F70_32, kty_32, ktx_32⟩, ⟨r2_32, r5_32, r13_32, r14_32, r15_32, r16_32, r17_32, r18_32, r19_32, r20_32, r25_32, r26_32, r27_32, r28_32, r29_32, r30_32, r31_32, r35_32⟩, ⟨o53_32, o54_32, o55_32, o56_32, o57_32, o58_32, o59_32, o60_32, o61_32, o62_32, o63_32, o64_32, o65_32, o66_32, o67_32, o68_32, o69_32, o70_32⟩, hT_32⟩ := id H26
        refine g_callV (z := mX9_unlike) (As := [.int (iZ t), .int (iZ 12)]) 108 dX9_again_105 mwX9_unlike ⟨by decide, by decide⟩ rfl wlX9_214 wiX9_unlike wsX9_unlike F50_32 rfl rfl rfl (nle rfl) (nle rfl) rfl ?_
        refine b_unl H26 (by omega) (by omega) (fun z33 rz33 => ?_)
        refine rI ?_
        refine g_goto 113 dX9_again_108 rfl ?_
        refine g_iret rfl dX9_again_113 ?_
        exact k _ _ _ (z33) (by omega)  H26 a27 ((Sm.refl [50, 54, 55, 56, 61, 62, 63, 64] _).tr s28 (fun _ q => q) (by simp))
  · have q1 := H.2.2.2.2.2 t (by omega) ht
    have q2 := q1.2.1
    have q3 := q1.2.2 c2
    refine g_aload_n 11 dX9_again_10 rfl rfl ?_
    refine g_aload_n 12 dX9_again_11 rfl rfl ?_
    refine g_get 15 dX9_again_12 faX9_35_X9 F50_1 rfl rfl ?_
    refine g_iload_n 16 dX9_again_15 rfl rfl ?_
    have b34 := o59_1 ((t).toNat)
    refine g_ialdZ (v := iZ ((B 59) t.toNat)) 17 dX9_again_16 F59_1 (by omega) (by omega) (by decide) rfl rfl ?_
    refine g_aload_n 18 dX9_again_17 rfl rfl ?_
    refine g_get 21 dX9_again_18 faX9_32_X9 F50_1 rfl rfl ?_
    refine g_iload_n 22 dX9_again_21 rfl rfl ?_
    have b35 := o58_1 ((t).toNat)
    refine g_ialdZ (v := iZ ((B 58) t.toNat)) 23 dX9_again_22 F58_1 (by omega) (by omega) (by decide) rfl rfl ?_
    refine g_bipush (v := iZ (12)) 25 dX9_again_23 (by decide +kernel) rfl ?_
    refine g_callV (z := mX9_builds) (As := [.int (iZ ((B 59) t.toNat)), .int (iZ ((B 58) t.toNat)), .int (iZ 12)]) 28 dX9_again_25 mwX9_builds ⟨by decide, by decide⟩ rfl wlX9_211 wiX9_builds wsX9_builds F50_1 rfl rfl rfl (nle rfl) (nle rfl) rfl ?_
    refine b_blds H (by omega) (by omega) (by omega) ((H.2.2.2.2.2 _ (by omega) (by omega)).1) (fun h41 w42 B43 z36 rz36 p37 p38 p39 p40 H44 a45 s46 => ?_)
    have e47 := a45.1
    have n48 := H44.2.2.1.2.1
    refine rI ?_
    refine g_istore_n (L1 := [some (.ref 50), some (.int (iZ t)), some (.int (iZ z36))]) 29 dX9_again_28 (by decide) rfl rfl rfl ?_
    refine g_iload_n 30 dX9_again_29 rfl rfl ?_
    refine g_ifZ_ne 43 33 dX9_again_30 rfl rfl (by omega) (fun c49 => ?_) (fun c49 => ?_)
    · refine g_iload_n 44 dX9_again_43 rfl rfl ?_
      refine g_iconst (v := iZ (4)) 45 dX9_again_44 rfl rfl ?_
      refine g_icZ_ne 53 48 dX9_again_45 rfl rfl (by omega) (by decide) (fun c50 => ?_) (fun c50 => ?_)
      · refine g_bipush (v := iZ (-10)) 55 dX9_again_53 (by decide +kernel) rfl ?_
        refine g_iload_n 56 dX9_again_55 rfl rfl ?_
        refine g_isubZ ((-10) - z36) 57 dX9_again_56 (by omega) rfl ?_
        refine g_iret rfl dX9_again_57 ?_
        exact k _ _ _ ((-10) - z36) (by omega)  H44 a45 ((Sm.refl [50, 54, 55, 56, 61, 62, 63, 64] _).tr s46 (fun _ q => q) (by simp))
      · refine g_bipush (v := iZ (-20)) 50 dX9_again_48 (by decide +kernel) rfl ?_
        refine g_goto 57 dX9_again_50 rfl ?_
        refine g_iret rfl dX9_again_57 ?_
        exact k _ _ _ (-20) (by decide)  H44 a45 ((Sm.refl [50, 54, 55, 56, 61, 62, 63, 64] _).tr s46 (fun _ q => q) (by simp))
    · refine g_aload_n 34 dX9_again_33 rfl rfl ?_
      refine g_iload_n 35 dX9_again_34 rfl rfl ?_
      refine g_bipush (v := iZ (12)) 37 dX9_again_35 (by decide +kernel) rfl ?_
      obtain ⟨F50_51, ⟨F51_51, F52_51, F53_51, F54_51, F55_51, F56_51, F57_51, F58_51, F59_51, F60_51, F61_51, F62_51, F63_51, F64_51, F65_51, F66_51, F67_51, F68_51, F69_51, F70_51, kty_51, ktx_51⟩, ⟨r2_51, r5_51, r13_51, r14_51, r15_51, r16_51, r17_51, r18_51, r19_51, r20_51, r25_51, r26_51, r27_51, r28_51, r29_51, r30_51, r31_51, r35_51⟩, ⟨o53_51, o54_51, o55_51, o56_51, o57_51, o58_51, o59_51, o60_51, o61_51, o62_51, o63_51, o64_51, o65_51, o66_51, o67_51, o68_51, o69_51, o70_51⟩, hT_51⟩ := id H44
      refine g_callV (z := mX9_unlike) (As := [.int (iZ t), .int (iZ 12)]) 40 dX9_again_37 mwX9_unlike ⟨by decide, by decide⟩ rfl wlX9_214 wiX9_unlike wsX9_unlike F50_51 rfl rfl rfl (nle rfl) (nle rfl) rfl ?_
      refine b_unl H44 (by omega) (by omega) (fun z52 rz52 => ?_)
      refine rI ?_
      refine g_goto 57 dX9_again_40 rfl ?_
      refine g_iret rfl dX9_again_57 ?_
      exact k _ _ _ (z52) (by omega)  H44 a45 ((Sm.refl [50, 54, 55, 56, 61, 62, 63, 64] _).tr s46 (fun _ q => q) (by simp))
set_option maxRecDepth 100000 in
theorem b_rebuilt {l : Launch} {h : MH} {Q : Option Value → MH → Prop} {tr : Int64} {ty tx : Nat → Int32} {w : Nat → Int} {B : Nat → Nat → Int} {t : Int} (H : R9B h tr ty tx w B) (rt : rg t)  (k : ∀ (h1 : MH) (w1 : Nat → Int) (B1 : Nat → Nat → Int) (r : Int), (rg r) → R9B h1 tr ty tx w1 B1 → AgB w B w1 B1 → Sm [50, 54, 55, 56, 61, 62, 63, 64] h h1 → Q (some (.int (iZ r))) h1) : Go l mX9_rebuilt 0 [some (.ref 50), some (.int (iZ t))] [] h Q := by
  have n0 := H.2.2.1.2.1
  refine g_aload_n 1 dX9_rebuilt_0 rfl rfl ?_
  refine g_iload_n 2 dX9_rebuilt_1 rfl rfl ?_
  obtain ⟨F50_1, ⟨F51_1, F52_1, F53_1, F54_1, F55_1, F56_1, F57_1, F58_1, F59_1, F60_1, F61_1, F62_1, F63_1, F64_1, F65_1, F66_1, F67_1, F68_1, F69_1, F70_1, kty_1, ktx_1⟩, ⟨r2_1, r5_1, r13_1, r14_1, r15_1, r16_1, r17_1, r18_1, r19_1, r20_1, r25_1, r26_1, r27_1, r28_1, r29_1, r30_1, r31_1, r35_1⟩, ⟨o53_1, o54_1, o55_1, o56_1, o57_1, o58_1, o59_1, o60_1, o61_1, o62_1, o63_1, o64_1, o65_1, o66_1, o67_1, o68_1, o69_1, o70_1⟩, hT_1⟩ := id H
  refine g_callV (z := mX9_isTool) (As := [.int (iZ t)]) 5 dX9_rebuilt_2 mwX9_isTool ⟨by decide, by decide⟩ rfl wlX9_178 wiX9_isTool wsX9_isTool F50_1 rfl rfl rfl (nle rfl) (nle rfl) rfl ?_
  refine b_isTool H rt (fun z2 rz2 => ?_)
  refine rI ?_
  refine g_ifZ_eq 16 8 dX9_rebuilt_5 rfl rfl (rg01 (by omega)) (fun c3 => ?_) (fun c3 => ?_)
  · refine g_iconst (v := iZ (-1)) 17 dX9_rebuilt_16 rfl rfl ?_
    refine g_iret rfl dX9_rebuilt_17 ?_
    exact k _ _ _ (-1) (by decide)  H (AgB.refl _ _) (Sm.refl [50, 54, 55, 56, 61, 62, 63, 64] _)
  · refine g_aload_n 9 dX9_rebuilt_8 rfl rfl ?_
    refine g_iload_n 10 dX9_rebuilt_9 rfl rfl ?_
    refine g_callV (z := mX9_again) (As := [.int (iZ t)]) 13 dX9_rebuilt_10 mwX9_again ⟨by decide, by decide⟩ rfl wlX9_217 wiX9_again wsX9_again F50_1 rfl rfl rfl (nle rfl) (nle rfl) rfl ?_
    refine b_again H (by omega) (by omega) (fun h5 w6 B7 z4 rz4  H8 a9 s10 => ?_)
    have e11 := a9.1
    have n12 := H8.2.2.1.2.1
    refine rI ?_
    refine g_goto 17 dX9_rebuilt_13 rfl ?_
    refine g_iret rfl dX9_rebuilt_17 ?_
    exact k _ _ _ (z4) rz4  H8 a9 ((Sm.refl [50, 54, 55, 56, 61, 62, 63, 64] _).tr s10 (fun _ q => q) (by simp))
set_option maxRecDepth 100000 in
theorem b_stale_l {l : Launch} {Q : Option Value → MH → Prop} {tr : Int64} {ty tx : Nat → Int32}   : ∀ (m0 : Nat) (h : MH) (w : Nat → Int) (B : Nat → Nat → Int) (bi : Int) (t : Int), (12 - t).toNat = m0 → R9B h tr ty tx w B → (rg bi) → (0 ≤ t ∧ t ≤ w 5) → (∀ (h1 : MH) (w1 : Nat → Int) (B1 : Nat → Nat → Int) (r : Int), (rg r) → R9B h1 tr ty tx w1 B1 → AgB w B w1 B1 → Sm [50, 54, 55, 56, 61, 62, 63, 64] h h1 → Q (some (.int (iZ r))) h1) → Go l mX9_stale 4 [some (.ref 50), some (.int (iZ bi)), some (.int (iZ t)), none] [] h Q := by
  intro m0
  induction m0 using Nat.strongRecOn with
  | ind m0 ih =>
    intro h w B bi t hmz H rbi ht k
    have n0 := H.2.2.1.2.1
    refine g_iload_n 5 dX9_stale_4 rfl rfl ?_
    refine g_aload_n 6 dX9_stale_5 rfl rfl ?_
    obtain ⟨F50_1, ⟨F51_1, F52_1, F53_1, F54_1, F55_1, F56_1, F57_1, F58_1, F59_1, F60_1, F61_1, F62_1, F63_1, F64_1, F65_1, F66_1, F67_1, F68_1, F69_1, F70_1, kty_1, ktx_1⟩, ⟨r2_1, r5_1, r13_1, r14_1, r15_1, r16_1, r17_1, r18_1, r19_1, r20_1, r25_1, r26_1, r27_1, r28_1, r29_1, r30_1, r31_1, r35_1⟩, ⟨o53_1, o54_1, o55_1, o56_1, o57_1, o58_1, o59_1, o60_1, o61_1, o62_1, o63_1, o64_1, o65_1, o66_1, o67_1, o68_1, o69_1, o70_1⟩, hT_1⟩ := id H
    refine g_get 9 dX9_stale_6 faX9_85_X9 F50_1 rfl rfl ?_
    refine g_icZ_ge 71 12 dX9_stale_9 rfl rfl (by omega) (by omega) (fun c2 => ?_) (fun c2 => ?_)
    · refine g_iload_n 72 dX9_stale_71 rfl rfl ?_
      refine g_iret rfl dX9_stale_72 ?_
      exact k _ _ _ (bi) rbi  H (AgB.refl _ _) (Sm.refl [50, 54, 55, 56, 61, 62, 63, 64] _)
    · refine g_aload_n 13 dX9_stale_12 rfl rfl ?_
      refine g_get 16 dX9_stale_13 faX9_35_X9 F50_1 rfl rfl ?_
      refine g_iload_n 17 dX9_stale_16 rfl rfl ?_
      have b3 := o59_1 ((t).toNat)
      refine g_ialdZ (v := iZ ((B 59) t.toNat)) 18 dX9_stale_17 F59_1 (by omega) (by omega) (by decide) rfl rfl ?_
      refine g_bipush (v := iZ (-9)) 20 dX9_stale_18 (by decide +kernel) rfl ?_
      refine g_icZ_eq 41 23 dX9_stale_20 rfl rfl (by omega) (by decide) (fun c4 => ?_) (fun c4 => ?_)
      · refine g_iconst (v := iZ (0)) 42 dX9_stale_41 rfl rfl ?_
        refine g_istore_n (L1 := [some (.ref 50), some (.int (iZ bi)), some (.int (iZ t)), some (.int (iZ 0))]) 43 dX9_stale_42 (by decide) rfl rfl rfl ?_
        refine g_iload_n 44 dX9_stale_43 rfl rfl ?_
        refine g_iload_n 45 dX9_stale_44 rfl rfl ?_
        refine g_ifZ_ne 56 48 dX9_stale_45 rfl rfl (by decide) (fun q => absurd q (by decide)) (fun _ => ?_)
        refine g_aload_n 49 dX9_stale_48 rfl rfl ?_
        refine g_iload_n 50 dX9_stale_49 rfl rfl ?_
        refine g_callV (z := mX9_again) (As := [.int (iZ t)]) 53 dX9_stale_50 mwX9_again ⟨by decide, by decide⟩ rfl wlX9_217 wiX9_again wsX9_again F50_1 rfl rfl rfl (nle rfl) (nle rfl) rfl ?_
        refine b_again H (by omega) (by omega) (fun h6 w7 B8 z5 rz5  H9 a10 s11 => ?_)
        have e12 := a10.1
        have n13 := H9.2.2.1.2.1
        refine rI ?_
        refine g_ifZ_eq 62 56 dX9_stale_53 rfl rfl rz5 (fun c14 => ?_) (fun c14 => ?_)
        · refine g_iconst (v := iZ (0)) 63 dX9_stale_62 rfl rfl ?_
          refine g_ior 64 dX9_stale_63 rfl ?_
          refine Go.genZ (fun z15 rz15 => ?_)
          refine g_istore_n (L1 := [some (.ref 50), some (.int (iZ z15)), some (.int (iZ t)), some (.int (iZ 0))]) 65 dX9_stale_64 (by decide) rfl rfl rfl ?_
          refine g_iincZ [some (.ref 50), some (.int (iZ z15)), some (.int (iZ (t + 1))), some (.int (iZ 0))] 68 dX9_stale_65 rfl (by omega) (by decide) rfl rfl rfl ?_
          refine g_goto 4 dX9_stale_68 rfl ?_
          refine Go.fgt 3 ?_
          exact ih _ (by omega) _ _ _ (z15) (t + 1) rfl H9 rz15 (by omega) (fun hQ wQ BQ rQ eQ  RQ aQ sQ => k hQ wQ BQ rQ eQ  RQ (a10.tr aQ) (((Sm.refl [50, 54, 55, 56, 61, 62, 63, 64] _).tr s11 (fun _ q => q) (by simp)).tr sQ (fun _ q => q) (fun _ q => q)))
        · refine g_iconst (v := iZ (1)) 57 dX9_stale_56 rfl rfl ?_
          refine g_iload_n 58 dX9_stale_57 rfl rfl ?_
          refine g_ishl 59 dX9_stale_58 rfl ?_
          refine Go.genZ (fun z16 rz16 => ?_)
          refine g_goto 63 dX9_stale_59 rfl ?_
          refine g_ior 64 dX9_stale_63 rfl ?_
          refine Go.genZ (fun z17 rz17 => ?_)
          refine g_istore_n (L1 := [some (.ref 50), some (.int (iZ z17)), some (.int (iZ t)), some (.int (iZ 0))]) 65 dX9_stale_64 (by decide) rfl rfl rfl ?_
          refine g_iincZ [some (.ref 50), some (.int (iZ z17)), some (.int (iZ (t + 1))), some (.int (iZ 0))] 68 dX9_stale_65 rfl (by omega) (by decide) rfl rfl rfl ?_
          refine g_goto 4 dX9_stale_68 rfl ?_
          refine Go.fgt 3 ?_
          exact ih _ (by omega) _ _ _ (z17) (t + 1) rfl H9 rz17 (by omega) (fun hQ wQ BQ rQ eQ  RQ aQ sQ => k hQ wQ BQ rQ eQ  RQ (a10.tr aQ) (((Sm.refl [50, 54, 55, 56, 61, 62, 63, 64] _).tr s11 (fun _ q => q) (by simp)).tr sQ (fun _ q => q) (fun _ q => q)))
      · refine g_iload_n 24 dX9_stale_23 rfl rfl ?_
        refine g_aload_n 25 dX9_stale_24 rfl rfl ?_
        refine g_get 28 dX9_stale_25 faX9_35_X9 F50_1 rfl rfl ?_
        refine g_iload_n 29 dX9_stale_28 rfl rfl ?_
        have b18 := o59_1 ((t).toNat)
        refine g_ialdZ (v := iZ ((B 59) t.toNat)) 30 dX9_stale_29 F59_1 (by omega) (by omega) (by decide) rfl rfl ?_
        refine g_ishr 31 dX9_stale_30 rfl ?_
        refine Go.genZ (fun z19 rz19 => ?_)
        refine g_iconst (v := iZ (1)) 32 dX9_stale_31 rfl rfl ?_
        refine g_iand 33 dX9_stale_32 rfl ?_
        refine Go.genZ (fun z20 rz20 => ?_)
        refine g_iconst (v := iZ (1)) 34 dX9_stale_33 rfl rfl ?_
        refine g_icZ_ne 41 37 dX9_stale_34 rfl rfl rz20 (by decide) (fun c21 => ?_) (fun c21 => ?_)
        · refine g_iconst (v := iZ (0)) 42 dX9_stale_41 rfl rfl ?_
          refine g_istore_n (L1 := [some (.ref 50), some (.int (iZ bi)), some (.int (iZ t)), some (.int (iZ 0))]) 43 dX9_stale_42 (by decide) rfl rfl rfl ?_
          refine g_iload_n 44 dX9_stale_43 rfl rfl ?_
          refine g_iload_n 45 dX9_stale_44 rfl rfl ?_
          refine g_ifZ_ne 56 48 dX9_stale_45 rfl rfl (by decide) (fun q => absurd q (by decide)) (fun _ => ?_)
          refine g_aload_n 49 dX9_stale_48 rfl rfl ?_
          refine g_iload_n 50 dX9_stale_49 rfl rfl ?_
          refine g_callV (z := mX9_again) (As := [.int (iZ t)]) 53 dX9_stale_50 mwX9_again ⟨by decide, by decide⟩ rfl wlX9_217 wiX9_again wsX9_again F50_1 rfl rfl rfl (nle rfl) (nle rfl) rfl ?_
          refine b_again H (by omega) (by omega) (fun h23 w24 B25 z22 rz22  H26 a27 s28 => ?_)
          have e29 := a27.1
          have n30 := H26.2.2.1.2.1
          refine rI ?_
          refine g_ifZ_eq 62 56 dX9_stale_53 rfl rfl rz22 (fun c31 => ?_) (fun c31 => ?_)
          · refine g_iconst (v := iZ (0)) 63 dX9_stale_62 rfl rfl ?_
            refine g_ior 64 dX9_stale_63 rfl ?_
            refine Go.genZ (fun z32 rz32 => ?_)
            refine g_istore_n (L1 := [some (.ref 50), some (.int (iZ z32)), some (.int (iZ t)), some (.int (iZ 0))]) 65 dX9_stale_64 (by decide) rfl rfl rfl ?_
            refine g_iincZ [some (.ref 50), some (.int (iZ z32)), some (.int (iZ (t + 1))), some (.int (iZ 0))] 68 dX9_stale_65 rfl (by omega) (by decide) rfl rfl rfl ?_
            refine g_goto 4 dX9_stale_68 rfl ?_
            refine Go.fgt 3 ?_
            exact ih _ (by omega) _ _ _ (z32) (t + 1) rfl H26 rz32 (by omega) (fun hQ wQ BQ rQ eQ  RQ aQ sQ => k hQ wQ BQ rQ eQ  RQ (a27.tr aQ) (((Sm.refl [50, 54, 55, 56, 61, 62, 63, 64] _).tr s28 (fun _ q => q) (by simp)).tr sQ (fun _ q => q) (fun _ q => q)))
          · refine g_iconst (v := iZ (1)) 57 dX9_stale_56 rfl rfl ?_
            refine g_iload_n 58 dX9_stale_57 rfl rfl ?_
            refine g_ishl 59 dX9_stale_58 rfl ?_
            refine Go.genZ (fun z33 rz33 => ?_)
            refine g_goto 63 dX9_stale_59 rfl ?_
            refine g_ior 64 dX9_stale_63 rfl ?_
            refine Go.genZ (fun z34 rz34 => ?_)
            refine g_istore_n (L1 := [some (.ref 50), some (.int (iZ z34)), some (.int (iZ t)), some (.int (iZ 0))]) 65 dX9_stale_64 (by decide) rfl rfl rfl ?_
            refine g_iincZ [some (.ref 50), some (.int (iZ z34)), some (.int (iZ (t + 1))), some (.int (iZ 0))] 68 dX9_stale_65 rfl (by omega) (by decide) rfl rfl rfl ?_
            refine g_goto 4 dX9_stale_68 rfl ?_
            refine Go.fgt 3 ?_
            exact ih _ (by omega) _ _ _ (z34) (t + 1) rfl H26 rz34 (by omega) (fun hQ wQ BQ rQ eQ  RQ aQ sQ => k hQ wQ BQ rQ eQ  RQ (a27.tr aQ) (((Sm.refl [50, 54, 55, 56, 61, 62, 63, 64] _).tr s28 (fun _ q => q) (by simp)).tr sQ (fun _ q => q) (fun _ q => q)))
        · refine g_iconst (v := iZ (1)) 38 dX9_stale_37 rfl rfl ?_
          refine g_goto 42 dX9_stale_38 rfl ?_
          refine g_istore_n (L1 := [some (.ref 50), some (.int (iZ bi)), some (.int (iZ t)), some (.int (iZ 1))]) 43 dX9_stale_42 (by decide) rfl rfl rfl ?_
          refine g_iload_n 44 dX9_stale_43 rfl rfl ?_
          refine g_iload_n 45 dX9_stale_44 rfl rfl ?_
          refine g_ifZ_ne 56 48 dX9_stale_45 rfl rfl (by decide) (fun _ => ?_) (fun q => absurd q (by decide))
          refine g_iconst (v := iZ (1)) 57 dX9_stale_56 rfl rfl ?_
          refine g_iload_n 58 dX9_stale_57 rfl rfl ?_
          refine g_ishl 59 dX9_stale_58 rfl ?_
          refine Go.genZ (fun z35 rz35 => ?_)
          refine g_goto 63 dX9_stale_59 rfl ?_
          refine g_ior 64 dX9_stale_63 rfl ?_
          refine Go.genZ (fun z36 rz36 => ?_)
          refine g_istore_n (L1 := [some (.ref 50), some (.int (iZ z36)), some (.int (iZ t)), some (.int (iZ 1))]) 65 dX9_stale_64 (by decide) rfl rfl rfl ?_
          refine g_iincZ [some (.ref 50), some (.int (iZ z36)), some (.int (iZ (t + 1))), some (.int (iZ 1))] 68 dX9_stale_65 rfl (by omega) (by decide) rfl rfl rfl ?_
          refine g_goto 4 dX9_stale_68 rfl ?_
          refine Go.fgt 3 ?_
          exact ih _ (by omega) _ _ _ (z36) (t + 1) rfl H rz36 (by omega) k
set_option maxRecDepth 100000 in
theorem b_stale {l : Launch} {h : MH} {Q : Option Value → MH → Prop} {tr : Int64} {ty tx : Nat → Int32} {w : Nat → Int} {B : Nat → Nat → Int}  (H : R9B h tr ty tx w B)   (k : ∀ (h1 : MH) (w1 : Nat → Int) (B1 : Nat → Nat → Int) (r : Int), (rg r) → R9B h1 tr ty tx w1 B1 → AgB w B w1 B1 → Sm [50, 54, 55, 56, 61, 62, 63, 64] h h1 → Q (some (.int (iZ r))) h1) : Go l mX9_stale 0 [some (.ref 50), none, none, none] [] h Q := by
  have n0 := H.2.2.1.2.1
  refine g_iconst (v := iZ (0)) 1 dX9_stale_0 rfl rfl ?_
  refine g_istore_n (L1 := [some (.ref 50), some (.int (iZ 0)), none, none]) 2 dX9_stale_1 (by decide) rfl rfl rfl ?_
  refine g_iconst (v := iZ (0)) 3 dX9_stale_2 rfl rfl ?_
  refine g_istore_n (L1 := [some (.ref 50), some (.int (iZ 0)), some (.int (iZ 0)), none]) 4 dX9_stale_3 (by decide) rfl rfl rfl ?_
  exact b_stale_l  _ _ _ _ (0) (0) rfl H (by decide) (by omega) k

set_option maxRecDepth 100000 in
theorem b_settles_l {l : Launch} {Q : Option Value → MH → Prop} {tr : Int64} {ty tx : Nat → Int32} {t i : Int} (rt : rg t) (ri : rg i) : ∀ (m0 : Nat) (h : MH) (w : Nat → Int) (B : Nat → Nat → Int) (u : Int), (7 - u).toNat = m0 → R9B h tr ty tx w B → (1 ≤ u ∧ u ≤ 7) → (0 ≤ i ∧ i ≤ 7) → (okS (B 54) (B 56) 13) → (∀ (h1 : MH) (w1 : Nat → Int) (B1 : Nat → Nat → Int) (r : Int), (rg r) → R9B h1 tr ty tx w1 B1 → AgB w B w1 B1 → Sm [50, 54, 55, 56, 61, 62, 63, 64] h h1 → Q (some (.int (iZ r))) h1) → Go l mX9_settles 26 [some (.ref 50), none, some (.int (iZ i)), some (.int (iZ u))] [] h Q := by
  intro m0
  induction m0 using Nat.strongRecOn with
  | ind m0 ih =>
    intro h w B u hmz H hu hi hS k
    have n0 := H.2.2.1.2.1
    refine g_iload_n 27 dX9_settles_26 rfl rfl ?_
    refine g_bipush (v := iZ (6)) 29 dX9_settles_27 (by decide +kernel) rfl ?_
    refine g_icZ_gt 74 32 dX9_settles_29 rfl rfl (by omega) (by decide) (fun c1 => ?_) (fun c1 => ?_)
    · refine g_bipush (v := iZ (-9)) 76 dX9_settles_74 (by decide +kernel) rfl ?_
      refine g_iret rfl dX9_settles_76 ?_
      exact k _ _ _ (-9) (by decide)  H (AgB.refl _ _) (Sm.refl [50, 54, 55, 56, 61, 62, 63, 64] _)
    · refine g_aload_n 33 dX9_settles_32 rfl rfl ?_
      refine g_bipush (v := iZ (13)) 35 dX9_settles_33 (by decide +kernel) rfl ?_
      refine g_iload_n 36 dX9_settles_35 rfl rfl ?_
      refine g_bipush (v := iZ (14)) 38 dX9_settles_36 (by decide +kernel) rfl ?_
      obtain ⟨F50_2, ⟨F51_2, F52_2, F53_2, F54_2, F55_2, F56_2, F57_2, F58_2, F59_2, F60_2, F61_2, F62_2, F63_2, F64_2, F65_2, F66_2, F67_2, F68_2, F69_2, F70_2, kty_2, ktx_2⟩, ⟨r2_2, r5_2, r13_2, r14_2, r15_2, r16_2, r17_2, r18_2, r19_2, r20_2, r25_2, r26_2, r27_2, r28_2, r29_2, r30_2, r31_2, r35_2⟩, ⟨o53_2, o54_2, o55_2, o56_2, o57_2, o58_2, o59_2, o60_2, o61_2, o62_2, o63_2, o64_2, o65_2, o66_2, o67_2, o68_2, o69_2, o70_2⟩, hT_2⟩ := id H
      refine g_callV (z := mX9_builds) (As := [.int (iZ 13), .int (iZ i), .int (iZ 14)]) 41 dX9_settles_38 mwX9_builds ⟨by decide, by decide⟩ rfl wlX9_211 wiX9_builds wsX9_builds F50_2 rfl rfl rfl (nle rfl) (nle rfl) rfl ?_
      refine b_blds H (by omega) (by omega) (by omega) hS (fun h8 w9 B10 z3 rz3 p4 p5 p6 p7 H11 a12 s13 => ?_)
      have e14 := a12.1
      have n15 := H11.2.2.1.2.1
      refine rI ?_
      refine g_ifZ_eq 47 44 dX9_settles_41 rfl rfl (by omega) (fun c16 => ?_) (fun c16 => ?_)
      · refine g_aload_n 48 dX9_settles_47 rfl rfl ?_
        refine g_bipush (v := iZ (13)) 50 dX9_settles_48 (by decide +kernel) rfl ?_
        refine g_bipush (v := iZ (14)) 52 dX9_settles_50 (by decide +kernel) rfl ?_
        obtain ⟨F50_17, ⟨F51_17, F52_17, F53_17, F54_17, F55_17, F56_17, F57_17, F58_17, F59_17, F60_17, F61_17, F62_17, F63_17, F64_17, F65_17, F66_17, F67_17, F68_17, F69_17, F70_17, kty_17, ktx_17⟩, ⟨r2_17, r5_17, r13_17, r14_17, r15_17, r16_17, r17_17, r18_17, r19_17, r20_17, r25_17, r26_17, r27_17, r28_17, r29_17, r30_17, r31_17, r35_17⟩, ⟨o53_17, o54_17, o55_17, o56_17, o57_17, o58_17, o59_17, o60_17, o61_17, o62_17, o63_17, o64_17, o65_17, o66_17, o67_17, o68_17, o69_17, o70_17⟩, hT_17⟩ := id H11
        refine g_callV (z := mX9_unlike) (As := [.int (iZ 13), .int (iZ 14)]) 55 dX9_settles_52 mwX9_unlike ⟨by decide, by decide⟩ rfl wlX9_214 wiX9_unlike wsX9_unlike F50_17 rfl rfl rfl (nle rfl) (nle rfl) rfl ?_
        refine b_unl H11 (by omega) (by omega) (fun z18 rz18 => ?_)
        refine rI ?_
        refine g_ifZ_ne 60 58 dX9_settles_55 rfl rfl (by omega) (fun c19 => ?_) (fun c19 => ?_)
        · refine g_aload_n 61 dX9_settles_60 rfl rfl ?_
          refine g_bipush (v := iZ (14)) 63 dX9_settles_61 (by decide +kernel) rfl ?_
          refine g_bipush (v := iZ (13)) 65 dX9_settles_63 (by decide +kernel) rfl ?_
          refine g_callV (z := mX9_move) (As := [.int (iZ 14), .int (iZ 13)]) 68 dX9_settles_65 mwX9_move ⟨by decide, by decide⟩ rfl wlX9_167 wiX9_move wsX9_move F50_17 rfl rfl rfl (nle rfl) (nle rfl) rfl ?_
          refine b_move H11 (by omega) (by omega) (by omega) (fun h25 w26 B27 p21 p22 p23 p24 H28 a29 s30 => ?_)
          have e31 := a29.1
          have n32 := H28.2.2.1.2.1
          refine rV ?_
          refine g_iincZ [some (.ref 50), none, some (.int (iZ i)), some (.int (iZ (u + 1)))] 71 dX9_settles_68 rfl (by omega) (by decide) rfl rfl rfl ?_
          refine g_goto 26 dX9_settles_71 rfl ?_
          exact ih _ (by omega) _ _ _ (u + 1) rfl H28 (by omega) (by omega) (p22 ((p4 c16).1)) (fun hQ wQ BQ rQ eQ  RQ aQ sQ => k hQ wQ BQ rQ eQ  RQ ((a12.tr a29).tr aQ) ((((Sm.refl [50, 54, 55, 56, 61, 62, 63, 64] _).tr s13 (fun _ q => q) (by simp)).tr s30 (fun _ q => q) (by simp)).tr sQ (fun _ q => q) (fun _ q => q)))
        · refine g_iload_n 59 dX9_settles_58 rfl rfl ?_
          refine g_iret rfl dX9_settles_59 ?_
          exact k _ _ _ (u) (by omega)  H11 a12 ((Sm.refl [50, 54, 55, 56, 61, 62, 63, 64] _).tr s13 (fun _ q => q) (by simp))
      · refine g_bipush (v := iZ (-9)) 46 dX9_settles_44 (by decide +kernel) rfl ?_
        refine g_iret rfl dX9_settles_46 ?_
        exact k _ _ _ (-9) (by decide)  H11 a12 ((Sm.refl [50, 54, 55, 56, 61, 62, 63, 64] _).tr s13 (fun _ q => q) (by simp))
set_option maxRecDepth 100000 in
theorem b_settles {l : Launch} {h : MH} {Q : Option Value → MH → Prop} {tr : Int64} {ty tx : Nat → Int32} {w : Nat → Int} {B : Nat → Nat → Int} {t i : Int} (H : R9B h tr ty tx w B) (rt : rg t) (ri : rg i)  (k : ∀ (h1 : MH) (w1 : Nat → Int) (B1 : Nat → Nat → Int) (r : Int), (rg r) → R9B h1 tr ty tx w1 B1 → AgB w B w1 B1 → Sm [50, 54, 55, 56, 61, 62, 63, 64] h h1 → Q (some (.int (iZ r))) h1) : Go l mX9_settles 0 [some (.ref 50), some (.int (iZ t)), some (.int (iZ i)), none] [] h Q := by
  have n0 := H.2.2.1.2.1
  refine g_aload_n 1 dX9_settles_0 rfl rfl ?_
  refine g_iload_n 2 dX9_settles_1 rfl rfl ?_
  obtain ⟨F50_1, ⟨F51_1, F52_1, F53_1, F54_1, F55_1, F56_1, F57_1, F58_1, F59_1, F60_1, F61_1, F62_1, F63_1, F64_1, F65_1, F66_1, F67_1, F68_1, F69_1, F70_1, kty_1, ktx_1⟩, ⟨r2_1, r5_1, r13_1, r14_1, r15_1, r16_1, r17_1, r18_1, r19_1, r20_1, r25_1, r26_1, r27_1, r28_1, r29_1, r30_1, r31_1, r35_1⟩, ⟨o53_1, o54_1, o55_1, o56_1, o57_1, o58_1, o59_1, o60_1, o61_1, o62_1, o63_1, o64_1, o65_1, o66_1, o67_1, o68_1, o69_1, o70_1⟩, hT_1⟩ := id H
  refine g_callV (z := mX9_isTool) (As := [.int (iZ t)]) 5 dX9_settles_2 mwX9_isTool ⟨by decide, by decide⟩ rfl wlX9_178 wiX9_isTool wsX9_isTool F50_1 rfl rfl rfl (nle rfl) (nle rfl) rfl ?_
  refine b_isTool H rt (fun z2 rz2 => ?_)
  refine rI ?_
  refine g_ifZ_eq 15 8 dX9_settles_5 rfl rfl (rg01 (by omega)) (fun c3 => ?_) (fun c3 => ?_)
  · refine g_iconst (v := iZ (-1)) 16 dX9_settles_15 rfl rfl ?_
    refine g_iret rfl dX9_settles_16 ?_
    exact k _ _ _ (-1) (by decide)  H (AgB.refl _ _) (Sm.refl [50, 54, 55, 56, 61, 62, 63, 64] _)
  · refine g_iload_n 9 dX9_settles_8 rfl rfl ?_
    refine g_callS (z := mX9_isText) (As := [.int (iZ i)]) 12 dX9_settles_9 mwX9_isText ⟨by decide, by decide⟩ rfl wlX9_81 wtX9_isText rfl (nle rfl) (nle rfl) rfl ?_
    refine n_isText  ri (fun z4 rz4 => ?_)
    refine rI ?_
    refine g_ifZ_ne 17 15 dX9_settles_12 rfl rfl (rg01 (by omega)) (fun c5 => ?_) (fun c5 => ?_)
    · refine g_aload_n 18 dX9_settles_17 rfl rfl ?_
      refine g_iload_n 19 dX9_settles_18 rfl rfl ?_
      refine g_bipush (v := iZ (13)) 21 dX9_settles_19 (by decide +kernel) rfl ?_
      refine g_callV (z := mX9_move) (As := [.int (iZ t), .int (iZ 13)]) 24 dX9_settles_21 mwX9_move ⟨by decide, by decide⟩ rfl wlX9_167 wiX9_move wsX9_move F50_1 rfl rfl rfl (nle rfl) (nle rfl) rfl ?_
      refine b_move H (by omega) (by omega) (by omega) (fun h11 w12 B13 p7 p8 p9 p10 H14 a15 s16 => ?_)
      have e17 := a15.1
      have n18 := H14.2.2.1.2.1
      refine rV ?_
      refine g_iconst (v := iZ (1)) 25 dX9_settles_24 rfl rfl ?_
      refine g_istore_n (L1 := [some (.ref 50), some (.int (iZ t)), some (.int (iZ i)), some (.int (iZ 1))]) 26 dX9_settles_25 (by decide) rfl rfl rfl ?_
      refine Go.fgt 1 ?_
      exact b_settles_l rt ri _ _ _ _ (1) rfl H14 (by omega) (by omega) (p8 ((H.2.2.2.2.2 _ (by omega) (by omega)).1)) (fun hQ wQ BQ rQ eQ  RQ aQ sQ => k hQ wQ BQ rQ eQ  RQ (a15.tr aQ) (((Sm.refl [50, 54, 55, 56, 61, 62, 63, 64] _).tr s16 (fun _ q => q) (by simp)).tr sQ (fun _ q => q) (fun _ q => q)))
    · refine g_iconst (v := iZ (-1)) 16 dX9_settles_15 rfl rfl ?_
      refine g_iret rfl dX9_settles_16 ?_
      exact k _ _ _ (-1) (by decide)  H (AgB.refl _ _) (Sm.refl [50, 54, 55, 56, 61, 62, 63, 64] _)
set_option maxRecDepth 100000 in
theorem b_goR {l : Launch} {h : MH} {Q : Option Value → MH → Prop} {tr : Int64} {ty tx : Nat → Int32} {w : Nat → Int} {B : Nat → Nat → Int} {t u i : Int} (H : R9B h tr ty tx w B) (rt : (0 ≤ t ∧ t ≤ 11)) (ru : (0 ≤ u ∧ u ≤ 11)) (ri : (0 ≤ i ∧ i ≤ 7)) (ht : t < w 5) (hu : u < w 5) (k : ∀ (h1 : MH) (w1 : Nat → Int) (B1 : Nat → Nat → Int) (r : Int), (-2 ≤ r ∧ r ≤ 257) → R9B h1 tr ty tx w1 B1 → AgB w B w1 B1 → Sm [50, 54, 55, 56, 61, 62, 63, 64] h h1 → Q (some (.int (iZ r))) h1) : Go l mX9_goRound 0 [some (.ref 50), some (.int (iZ t)), some (.int (iZ u)), some (.int (iZ i)), none] [] h Q := by
  have n0 := H.2.2.1.2.1
  refine g_aload_n 1 dX9_goRound_0 rfl rfl ?_
  refine g_iload_n 2 dX9_goRound_1 rfl rfl ?_
  refine g_iload_n 3 dX9_goRound_2 rfl rfl ?_
  refine g_bipush (v := iZ (12)) 5 dX9_goRound_3 (by decide +kernel) rfl ?_
  obtain ⟨F50_1, ⟨F51_1, F52_1, F53_1, F54_1, F55_1, F56_1, F57_1, F58_1, F59_1, F60_1, F61_1, F62_1, F63_1, F64_1, F65_1, F66_1, F67_1, F68_1, F69_1, F70_1, kty_1, ktx_1⟩, ⟨r2_1, r5_1, r13_1, r14_1, r15_1, r16_1, r17_1, r18_1, r19_1, r20_1, r25_1, r26_1, r27_1, r28_1, r29_1, r30_1, r31_1, r35_1⟩, ⟨o53_1, o54_1, o55_1, o56_1, o57_1, o58_1, o59_1, o60_1, o61_1, o62_1, o63_1, o64_1, o65_1, o66_1, o67_1, o68_1, o69_1, o70_1⟩, hT_1⟩ := id H
  refine g_callV (z := mX9_builds) (As := [.int (iZ t), .int (iZ i), .int (iZ 12)]) 8 dX9_goRound_5 mwX9_builds ⟨by decide, by decide⟩ rfl wlX9_211 wiX9_builds wsX9_builds F50_1 rfl rfl rfl (nle rfl) (nle rfl) rfl ?_
  refine b_blds H (by omega) (by omega) (by omega) ((H.2.2.2.2.2 _ (by omega) (by omega)).1) (fun h7 w8 B9 z2 rz2 p3 p4 p5 p6 H10 a11 s12 => ?_)
  have e13 := a11.1
  have n14 := H10.2.2.1.2.1
  refine rI ?_
  refine g_ifZ_ne 50 11 dX9_goRound_8 rfl rfl (by omega) (fun c15 => ?_) (fun c15 => ?_)
  · refine g_iconst (v := iZ (0)) 51 dX9_goRound_50 rfl rfl ?_
    refine g_istore (L1 := [some (.ref 50), some (.int (iZ t)), some (.int (iZ u)), some (.int (iZ i)), some (.int (iZ 0))]) 53 dX9_goRound_51 (by decide) rfl rfl rfl ?_
    refine g_iload 55 dX9_goRound_53 rfl rfl ?_
    refine g_ifZ_eq 69 58 dX9_goRound_55 rfl rfl (by decide) (fun _ => ?_) (fun q => absurd q (by decide))
    refine g_bipush (v := iZ (-2)) 71 dX9_goRound_69 (by decide +kernel) rfl ?_
    refine g_iret rfl dX9_goRound_71 ?_
    exact k _ _ _ (-2) (by omega)  H10 a11 ((Sm.refl [50, 54, 55, 56, 61, 62, 63, 64] _).tr s12 (fun _ q => q) (by simp))
  · refine g_aload_n 12 dX9_goRound_11 rfl rfl ?_
    refine g_bipush (v := iZ (12)) 14 dX9_goRound_12 (by decide +kernel) rfl ?_
    refine g_iload_n 15 dX9_goRound_14 rfl rfl ?_
    refine g_bipush (v := iZ (13)) 17 dX9_goRound_15 (by decide +kernel) rfl ?_
    obtain ⟨F50_16, ⟨F51_16, F52_16, F53_16, F54_16, F55_16, F56_16, F57_16, F58_16, F59_16, F60_16, F61_16, F62_16, F63_16, F64_16, F65_16, F66_16, F67_16, F68_16, F69_16, F70_16, kty_16, ktx_16⟩, ⟨r2_16, r5_16, r13_16, r14_16, r15_16, r16_16, r17_16, r18_16, r19_16, r20_16, r25_16, r26_16, r27_16, r28_16, r29_16, r30_16, r31_16, r35_16⟩, ⟨o53_16, o54_16, o55_16, o56_16, o57_16, o58_16, o59_16, o60_16, o61_16, o62_16, o63_16, o64_16, o65_16, o66_16, o67_16, o68_16, o69_16, o70_16⟩, hT_16⟩ := id H10
    refine g_callV (z := mX9_builds) (As := [.int (iZ 12), .int (iZ i), .int (iZ 13)]) 20 dX9_goRound_17 mwX9_builds ⟨by decide, by decide⟩ rfl wlX9_211 wiX9_builds wsX9_builds F50_16 rfl rfl rfl (nle rfl) (nle rfl) rfl ?_
    refine b_blds H10 (by omega) (by omega) (by omega) ((p3 c15).1) (fun h22 w23 B24 z17 rz17 p18 p19 p20 p21 H25 a26 s27 => ?_)
    have e28 := a26.1
    have n29 := H25.2.2.1.2.1
    refine rI ?_
    refine g_ifZ_ne 50 23 dX9_goRound_20 rfl rfl (by omega) (fun c30 => ?_) (fun c30 => ?_)
    · refine g_iconst (v := iZ (0)) 51 dX9_goRound_50 rfl rfl ?_
      refine g_istore (L1 := [some (.ref 50), some (.int (iZ t)), some (.int (iZ u)), some (.int (iZ i)), some (.int (iZ 0))]) 53 dX9_goRound_51 (by decide) rfl rfl rfl ?_
      refine g_iload 55 dX9_goRound_53 rfl rfl ?_
      refine g_ifZ_eq 69 58 dX9_goRound_55 rfl rfl (by decide) (fun _ => ?_) (fun q => absurd q (by decide))
      refine g_bipush (v := iZ (-2)) 71 dX9_goRound_69 (by decide +kernel) rfl ?_
      refine g_iret rfl dX9_goRound_71 ?_
      exact k _ _ _ (-2) (by omega)  H25 (a11.tr a26) (((Sm.refl [50, 54, 55, 56, 61, 62, 63, 64] _).tr s12 (fun _ q => q) (by simp)).tr s27 (fun _ q => q) (by simp))
    · refine g_aload_n 24 dX9_goRound_23 rfl rfl ?_
      refine g_iload_n 25 dX9_goRound_24 rfl rfl ?_
      refine g_iload_n 26 dX9_goRound_25 rfl rfl ?_
      refine g_bipush (v := iZ (14)) 28 dX9_goRound_26 (by decide +kernel) rfl ?_
      obtain ⟨F50_31, ⟨F51_31, F52_31, F53_31, F54_31, F55_31, F56_31, F57_31, F58_31, F59_31, F60_31, F61_31, F62_31, F63_31, F64_31, F65_31, F66_31, F67_31, F68_31, F69_31, F70_31, kty_31, ktx_31⟩, ⟨r2_31, r5_31, r13_31, r14_31, r15_31, r16_31, r17_31, r18_31, r19_31, r20_31, r25_31, r26_31, r27_31, r28_31, r29_31, r30_31, r31_31, r35_31⟩, ⟨o53_31, o54_31, o55_31, o56_31, o57_31, o58_31, o59_31, o60_31, o61_31, o62_31, o63_31, o64_31, o65_31, o66_31, o67_31, o68_31, o69_31, o70_31⟩, hT_31⟩ := id H25
      refine g_callV (z := mX9_builds) (As := [.int (iZ u), .int (iZ i), .int (iZ 14)]) 31 dX9_goRound_28 mwX9_builds ⟨by decide, by decide⟩ rfl wlX9_211 wiX9_builds wsX9_builds F50_31 rfl rfl rfl (nle rfl) (nle rfl) rfl ?_
      refine b_blds H25 (by omega) (by omega) (by omega) ((H25.2.2.2.2.2 _ (by omega) (by omega)).1) (fun h37 w38 B39 z32 rz32 p33 p34 p35 p36 H40 a41 s42 => ?_)
      have e43 := a41.1
      have n44 := H40.2.2.1.2.1
      refine rI ?_
      refine g_ifZ_ne 50 34 dX9_goRound_31 rfl rfl (by omega) (fun c45 => ?_) (fun c45 => ?_)
      · refine g_iconst (v := iZ (0)) 51 dX9_goRound_50 rfl rfl ?_
        refine g_istore (L1 := [some (.ref 50), some (.int (iZ t)), some (.int (iZ u)), some (.int (iZ i)), some (.int (iZ 0))]) 53 dX9_goRound_51 (by decide) rfl rfl rfl ?_
        refine g_iload 55 dX9_goRound_53 rfl rfl ?_
        refine g_ifZ_eq 69 58 dX9_goRound_55 rfl rfl (by decide) (fun _ => ?_) (fun q => absurd q (by decide))
        refine g_bipush (v := iZ (-2)) 71 dX9_goRound_69 (by decide +kernel) rfl ?_
        refine g_iret rfl dX9_goRound_71 ?_
        exact k _ _ _ (-2) (by omega)  H40 ((a11.tr a26).tr a41) ((((Sm.refl [50, 54, 55, 56, 61, 62, 63, 64] _).tr s12 (fun _ q => q) (by simp)).tr s27 (fun _ q => q) (by simp)).tr s42 (fun _ q => q) (by simp))
      · refine g_aload_n 35 dX9_goRound_34 rfl rfl ?_
        refine g_bipush (v := iZ (14)) 37 dX9_goRound_35 (by decide +kernel) rfl ?_
        refine g_iload_n 38 dX9_goRound_37 rfl rfl ?_
        refine g_bipush (v := iZ (15)) 40 dX9_goRound_38 (by decide +kernel) rfl ?_
        obtain ⟨F50_46, ⟨F51_46, F52_46, F53_46, F54_46, F55_46, F56_46, F57_46, F58_46, F59_46, F60_46, F61_46, F62_46, F63_46, F64_46, F65_46, F66_46, F67_46, F68_46, F69_46, F70_46, kty_46, ktx_46⟩, ⟨r2_46, r5_46, r13_46, r14_46, r15_46, r16_46, r17_46, r18_46, r19_46, r20_46, r25_46, r26_46, r27_46, r28_46, r29_46, r30_46, r31_46, r35_46⟩, ⟨o53_46, o54_46, o55_46, o56_46, o57_46, o58_46, o59_46, o60_46, o61_46, o62_46, o63_46, o64_46, o65_46, o66_46, o67_46, o68_46, o69_46, o70_46⟩, hT_46⟩ := id H40
        refine g_callV (z := mX9_builds) (As := [.int (iZ 14), .int (iZ i), .int (iZ 15)]) 43 dX9_goRound_40 mwX9_builds ⟨by decide, by decide⟩ rfl wlX9_211 wiX9_builds wsX9_builds F50_46 rfl rfl rfl (nle rfl) (nle rfl) rfl ?_
        refine b_blds H40 (by omega) (by omega) (by omega) ((p33 c45).1) (fun h52 w53 B54 z47 rz47 p48 p49 p50 p51 H55 a56 s57 => ?_)
        have e58 := a56.1
        have n59 := H55.2.2.1.2.1
        refine rI ?_
        refine g_ifZ_ne 50 46 dX9_goRound_43 rfl rfl (by omega) (fun c60 => ?_) (fun c60 => ?_)
        · refine g_iconst (v := iZ (0)) 51 dX9_goRound_50 rfl rfl ?_
          refine g_istore (L1 := [some (.ref 50), some (.int (iZ t)), some (.int (iZ u)), some (.int (iZ i)), some (.int (iZ 0))]) 53 dX9_goRound_51 (by decide) rfl rfl rfl ?_
          refine g_iload 55 dX9_goRound_53 rfl rfl ?_
          refine g_ifZ_eq 69 58 dX9_goRound_55 rfl rfl (by decide) (fun _ => ?_) (fun q => absurd q (by decide))
          refine g_bipush (v := iZ (-2)) 71 dX9_goRound_69 (by decide +kernel) rfl ?_
          refine g_iret rfl dX9_goRound_71 ?_
          exact k _ _ _ (-2) (by omega)  H55 (((a11.tr a26).tr a41).tr a56) (((((Sm.refl [50, 54, 55, 56, 61, 62, 63, 64] _).tr s12 (fun _ q => q) (by simp)).tr s27 (fun _ q => q) (by simp)).tr s42 (fun _ q => q) (by simp)).tr s57 (fun _ q => q) (by simp))
        · refine g_iconst (v := iZ (1)) 47 dX9_goRound_46 rfl rfl ?_
          refine g_goto 51 dX9_goRound_47 rfl ?_
          refine g_istore (L1 := [some (.ref 50), some (.int (iZ t)), some (.int (iZ u)), some (.int (iZ i)), some (.int (iZ 1))]) 53 dX9_goRound_51 (by decide) rfl rfl rfl ?_
          refine g_iload 55 dX9_goRound_53 rfl rfl ?_
          refine g_ifZ_eq 69 58 dX9_goRound_55 rfl rfl (by decide) (fun q => absurd q (by decide)) (fun _ => ?_)
          refine g_aload_n 59 dX9_goRound_58 rfl rfl ?_
          refine g_bipush (v := iZ (13)) 61 dX9_goRound_59 (by decide +kernel) rfl ?_
          refine g_bipush (v := iZ (15)) 63 dX9_goRound_61 (by decide +kernel) rfl ?_
          obtain ⟨F50_61, ⟨F51_61, F52_61, F53_61, F54_61, F55_61, F56_61, F57_61, F58_61, F59_61, F60_61, F61_61, F62_61, F63_61, F64_61, F65_61, F66_61, F67_61, F68_61, F69_61, F70_61, kty_61, ktx_61⟩, ⟨r2_61, r5_61, r13_61, r14_61, r15_61, r16_61, r17_61, r18_61, r19_61, r20_61, r25_61, r26_61, r27_61, r28_61, r29_61, r30_61, r31_61, r35_61⟩, ⟨o53_61, o54_61, o55_61, o56_61, o57_61, o58_61, o59_61, o60_61, o61_61, o62_61, o63_61, o64_61, o65_61, o66_61, o67_61, o68_61, o69_61, o70_61⟩, hT_61⟩ := id H55
          refine g_callV (z := mX9_unlike) (As := [.int (iZ 13), .int (iZ 15)]) 66 dX9_goRound_63 mwX9_unlike ⟨by decide, by decide⟩ rfl wlX9_214 wiX9_unlike wsX9_unlike F50_61 rfl rfl rfl (nle rfl) (nle rfl) rfl ?_
          refine b_unl H55 (by omega) (by omega) (fun z62 rz62 => ?_)
          refine rI ?_
          refine g_goto 71 dX9_goRound_66 rfl ?_
          refine g_iret rfl dX9_goRound_71 ?_
          exact k _ _ _ (z62) (by omega)  H55 (((a11.tr a26).tr a41).tr a56) (((((Sm.refl [50, 54, 55, 56, 61, 62, 63, 64] _).tr s12 (fun _ q => q) (by simp)).tr s27 (fun _ q => q) (by simp)).tr s42 (fun _ q => q) (by simp)).tr s57 (fun _ q => q) (by simp))
set_option maxRecDepth 100000 in
theorem b_round {l : Launch} {h : MH} {Q : Option Value → MH → Prop} {tr : Int64} {ty tx : Nat → Int32} {w : Nat → Int} {B : Nat → Nat → Int} {t u i : Int} (H : R9B h tr ty tx w B) (rt : rg t) (ru : rg u) (ri : rg i)  (k : ∀ (h1 : MH) (w1 : Nat → Int) (B1 : Nat → Nat → Int) (r : Int), (rg r) → R9B h1 tr ty tx w1 B1 → AgB w B w1 B1 → Sm [50, 54, 55, 56, 61, 62, 63, 64] h h1 → Q (some (.int (iZ r))) h1) : Go l mX9_round 0 [some (.ref 50), some (.int (iZ t)), some (.int (iZ u)), some (.int (iZ i))] [] h Q := by
  have n0 := H.2.2.1.2.1
  refine g_aload_n 1 dX9_round_0 rfl rfl ?_
  refine g_iload_n 2 dX9_round_1 rfl rfl ?_
  obtain ⟨F50_1, ⟨F51_1, F52_1, F53_1, F54_1, F55_1, F56_1, F57_1, F58_1, F59_1, F60_1, F61_1, F62_1, F63_1, F64_1, F65_1, F66_1, F67_1, F68_1, F69_1, F70_1, kty_1, ktx_1⟩, ⟨r2_1, r5_1, r13_1, r14_1, r15_1, r16_1, r17_1, r18_1, r19_1, r20_1, r25_1, r26_1, r27_1, r28_1, r29_1, r30_1, r31_1, r35_1⟩, ⟨o53_1, o54_1, o55_1, o56_1, o57_1, o58_1, o59_1, o60_1, o61_1, o62_1, o63_1, o64_1, o65_1, o66_1, o67_1, o68_1, o69_1, o70_1⟩, hT_1⟩ := id H
  refine g_callV (z := mX9_isTool) (As := [.int (iZ t)]) 5 dX9_round_2 mwX9_isTool ⟨by decide, by decide⟩ rfl wlX9_178 wiX9_isTool wsX9_isTool F50_1 rfl rfl rfl (nle rfl) (nle rfl) rfl ?_
  refine b_isTool H rt (fun z2 rz2 => ?_)
  refine rI ?_
  refine g_ifZ_eq 33 8 dX9_round_5 rfl rfl (rg01 (by omega)) (fun c3 => ?_) (fun c3 => ?_)
  · refine g_iconst (v := iZ (-1)) 34 dX9_round_33 rfl rfl ?_
    refine g_iret rfl dX9_round_34 ?_
    exact k _ _ _ (-1) (by decide)  H (AgB.refl _ _) (Sm.refl [50, 54, 55, 56, 61, 62, 63, 64] _)
  · refine g_aload_n 9 dX9_round_8 rfl rfl ?_
    refine g_iload_n 10 dX9_round_9 rfl rfl ?_
    refine g_callV (z := mX9_isTool) (As := [.int (iZ u)]) 13 dX9_round_10 mwX9_isTool ⟨by decide, by decide⟩ rfl wlX9_178 wiX9_isTool wsX9_isTool F50_1 rfl rfl rfl (nle rfl) (nle rfl) rfl ?_
    refine b_isTool H ru (fun z4 rz4 => ?_)
    refine rI ?_
    refine g_ifZ_eq 33 16 dX9_round_13 rfl rfl (rg01 (by omega)) (fun c5 => ?_) (fun c5 => ?_)
    · refine g_iconst (v := iZ (-1)) 34 dX9_round_33 rfl rfl ?_
      refine g_iret rfl dX9_round_34 ?_
      exact k _ _ _ (-1) (by decide)  H (AgB.refl _ _) (Sm.refl [50, 54, 55, 56, 61, 62, 63, 64] _)
    · refine g_iload_n 17 dX9_round_16 rfl rfl ?_
      refine g_callS (z := mX9_isText) (As := [.int (iZ i)]) 20 dX9_round_17 mwX9_isText ⟨by decide, by decide⟩ rfl wlX9_81 wtX9_isText rfl (nle rfl) (nle rfl) rfl ?_
      refine n_isText  ri (fun z6 rz6 => ?_)
      refine rI ?_
      refine g_ifZ_eq 33 23 dX9_round_20 rfl rfl (rg01 (by omega)) (fun c7 => ?_) (fun c7 => ?_)
      · refine g_iconst (v := iZ (-1)) 34 dX9_round_33 rfl rfl ?_
        refine g_iret rfl dX9_round_34 ?_
        exact k _ _ _ (-1) (by decide)  H (AgB.refl _ _) (Sm.refl [50, 54, 55, 56, 61, 62, 63, 64] _)
      · refine g_aload_n 24 dX9_round_23 rfl rfl ?_
        refine g_iload_n 25 dX9_round_24 rfl rfl ?_
        refine g_iload_n 26 dX9_round_25 rfl rfl ?_
        refine g_iload_n 27 dX9_round_26 rfl rfl ?_
        refine g_callV (z := mX9_goRound) (As := [.int (iZ t), .int (iZ u), .int (iZ i)]) 30 dX9_round_27 mwX9_goRound ⟨by decide, by decide⟩ rfl wlX9_220 wiX9_goRound wsX9_goRound F50_1 rfl rfl rfl (nle rfl) (nle rfl) rfl ?_
        refine b_goR H (by omega) (by omega) (by omega) (by omega) (by omega) (fun h9 w10 B11 z8 rz8  H12 a13 s14 => ?_)
        have e15 := a13.1
        have n16 := H12.2.2.1.2.1
        refine rI ?_
        refine g_goto 34 dX9_round_30 rfl ?_
        refine g_iret rfl dX9_round_34 ?_
        exact k _ _ _ (z8) (by omega)  H12 a13 ((Sm.refl [50, 54, 55, 56, 61, 62, 63, 64] _).tr s14 (fun _ q => q) (by simp))
set_option maxRecDepth 100000 in
theorem b_hides {l : Launch} {h : MH} {Q : Option Value → MH → Prop} {tr : Int64} {ty tx : Nat → Int32} {w : Nat → Int} {B : Nat → Nat → Int} {t u i : Int} (H : R9B h tr ty tx w B) (rt : rg t) (ru : rg u) (ri : rg i)  (k : ∀ (h1 : MH) (w1 : Nat → Int) (B1 : Nat → Nat → Int) (r : Int), (rg r) → R9B h1 tr ty tx w1 B1 → AgB w B w1 B1 → Sm [50, 54, 55, 56, 61, 62, 63, 64] h h1 → Q (some (.int (iZ r))) h1) : Go l mX9_hides 0 [some (.ref 50), some (.int (iZ t)), some (.int (iZ u)), some (.int (iZ i)), none] [] h Q := by
  have n0 := H.2.2.1.2.1
  refine g_aload_n 1 dX9_hides_0 rfl rfl ?_
  refine g_iload_n 2 dX9_hides_1 rfl rfl ?_
  obtain ⟨F50_1, ⟨F51_1, F52_1, F53_1, F54_1, F55_1, F56_1, F57_1, F58_1, F59_1, F60_1, F61_1, F62_1, F63_1, F64_1, F65_1, F66_1, F67_1, F68_1, F69_1, F70_1, kty_1, ktx_1⟩, ⟨r2_1, r5_1, r13_1, r14_1, r15_1, r16_1, r17_1, r18_1, r19_1, r20_1, r25_1, r26_1, r27_1, r28_1, r29_1, r30_1, r31_1, r35_1⟩, ⟨o53_1, o54_1, o55_1, o56_1, o57_1, o58_1, o59_1, o60_1, o61_1, o62_1, o63_1, o64_1, o65_1, o66_1, o67_1, o68_1, o69_1, o70_1⟩, hT_1⟩ := id H
  refine g_callV (z := mX9_isTool) (As := [.int (iZ t)]) 5 dX9_hides_2 mwX9_isTool ⟨by decide, by decide⟩ rfl wlX9_178 wiX9_isTool wsX9_isTool F50_1 rfl rfl rfl (nle rfl) (nle rfl) rfl ?_
  refine b_isTool H rt (fun z2 rz2 => ?_)
  refine rI ?_
  refine g_ifZ_eq 23 8 dX9_hides_5 rfl rfl (rg01 (by omega)) (fun c3 => ?_) (fun c3 => ?_)
  · refine g_iconst (v := iZ (-1)) 24 dX9_hides_23 rfl rfl ?_
    refine g_iret rfl dX9_hides_24 ?_
    exact k _ _ _ (-1) (by decide)  H (AgB.refl _ _) (Sm.refl [50, 54, 55, 56, 61, 62, 63, 64] _)
  · refine g_aload_n 9 dX9_hides_8 rfl rfl ?_
    refine g_iload_n 10 dX9_hides_9 rfl rfl ?_
    refine g_callV (z := mX9_isTool) (As := [.int (iZ u)]) 13 dX9_hides_10 mwX9_isTool ⟨by decide, by decide⟩ rfl wlX9_178 wiX9_isTool wsX9_isTool F50_1 rfl rfl rfl (nle rfl) (nle rfl) rfl ?_
    refine b_isTool H ru (fun z4 rz4 => ?_)
    refine rI ?_
    refine g_ifZ_eq 23 16 dX9_hides_13 rfl rfl (rg01 (by omega)) (fun c5 => ?_) (fun c5 => ?_)
    · refine g_iconst (v := iZ (-1)) 24 dX9_hides_23 rfl rfl ?_
      refine g_iret rfl dX9_hides_24 ?_
      exact k _ _ _ (-1) (by decide)  H (AgB.refl _ _) (Sm.refl [50, 54, 55, 56, 61, 62, 63, 64] _)
    · refine g_iload_n 17 dX9_hides_16 rfl rfl ?_
      refine g_callS (z := mX9_isText) (As := [.int (iZ i)]) 20 dX9_hides_17 mwX9_isText ⟨by decide, by decide⟩ rfl wlX9_81 wtX9_isText rfl (nle rfl) (nle rfl) rfl ?_
      refine n_isText  ri (fun z6 rz6 => ?_)
      refine rI ?_
      refine g_ifZ_ne 25 23 dX9_hides_20 rfl rfl (rg01 (by omega)) (fun c7 => ?_) (fun c7 => ?_)
      · refine g_aload_n 26 dX9_hides_25 rfl rfl ?_
        refine g_iload_n 27 dX9_hides_26 rfl rfl ?_
        refine g_iload_n 28 dX9_hides_27 rfl rfl ?_
        refine g_iload_n 29 dX9_hides_28 rfl rfl ?_
        refine g_callV (z := mX9_goRound) (As := [.int (iZ t), .int (iZ u), .int (iZ i)]) 32 dX9_hides_29 mwX9_goRound ⟨by decide, by decide⟩ rfl wlX9_220 wiX9_goRound wsX9_goRound F50_1 rfl rfl rfl (nle rfl) (nle rfl) rfl ?_
        refine b_goR H (by omega) (by omega) (by omega) (by omega) (by omega) (fun h9 w10 B11 z8 rz8  H12 a13 s14 => ?_)
        have e15 := a13.1
        have n16 := H12.2.2.1.2.1
        refine rI ?_
        refine g_istore (L1 := [some (.ref 50), some (.int (iZ t)), some (.int (iZ u)), some (.int (iZ i)), some (.int (iZ z8))]) 34 dX9_hides_32 (by decide) rfl rfl rfl ?_
        refine g_iload 36 dX9_hides_34 rfl rfl ?_
        refine g_ifZ_ge 44 39 dX9_hides_36 rfl rfl (by omega) (fun c17 => ?_) (fun c17 => ?_)
        · refine g_iload 46 dX9_hides_44 rfl rfl ?_
          refine g_ifZ_le 63 49 dX9_hides_46 rfl rfl (by omega) (fun c18 => ?_) (fun c18 => ?_)
          · refine g_iconst (v := iZ (0)) 64 dX9_hides_63 rfl rfl ?_
            refine g_iret rfl dX9_hides_64 ?_
            exact k _ _ _ (0) (by decide)  H12 a13 ((Sm.refl [50, 54, 55, 56, 61, 62, 63, 64] _).tr s14 (fun _ q => q) (by simp))
          · refine g_aload_n 50 dX9_hides_49 rfl rfl ?_
            refine g_iload_n 51 dX9_hides_50 rfl rfl ?_
            refine g_bipush (v := iZ (12)) 53 dX9_hides_51 (by decide +kernel) rfl ?_
            obtain ⟨F50_19, ⟨F51_19, F52_19, F53_19, F54_19, F55_19, F56_19, F57_19, F58_19, F59_19, F60_19, F61_19, F62_19, F63_19, F64_19, F65_19, F66_19, F67_19, F68_19, F69_19, F70_19, kty_19, ktx_19⟩, ⟨r2_19, r5_19, r13_19, r14_19, r15_19, r16_19, r17_19, r18_19, r19_19, r20_19, r25_19, r26_19, r27_19, r28_19, r29_19, r30_19, r31_19, r35_19⟩, ⟨o53_19, o54_19, o55_19, o56_19, o57_19, o58_19, o59_19, o60_19, o61_19, o62_19, o63_19, o64_19, o65_19, o66_19, o67_19, o68_19, o69_19, o70_19⟩, hT_19⟩ := id H12
            refine g_callV (z := mX9_unlike) (As := [.int (iZ t), .int (iZ 12)]) 56 dX9_hides_53 mwX9_unlike ⟨by decide, by decide⟩ rfl wlX9_214 wiX9_unlike wsX9_unlike F50_19 rfl rfl rfl (nle rfl) (nle rfl) rfl ?_
            refine b_unl H12 (by omega) (by omega) (fun z20 rz20 => ?_)
            refine rI ?_
            refine g_ifZ_ne 63 59 dX9_hides_56 rfl rfl (by omega) (fun c21 => ?_) (fun c21 => ?_)
            · refine g_iconst (v := iZ (0)) 64 dX9_hides_63 rfl rfl ?_
              refine g_iret rfl dX9_hides_64 ?_
              exact k _ _ _ (0) (by decide)  H12 a13 ((Sm.refl [50, 54, 55, 56, 61, 62, 63, 64] _).tr s14 (fun _ q => q) (by simp))
            · refine g_iconst (v := iZ (1)) 60 dX9_hides_59 rfl rfl ?_
              refine g_goto 64 dX9_hides_60 rfl ?_
              refine g_iret rfl dX9_hides_64 ?_
              exact k _ _ _ (1) (by decide)  H12 a13 ((Sm.refl [50, 54, 55, 56, 61, 62, 63, 64] _).tr s14 (fun _ q => q) (by simp))
        · refine g_bipush (v := iZ (-2)) 41 dX9_hides_39 (by decide +kernel) rfl ?_
          refine g_goto 64 dX9_hides_41 rfl ?_
          refine g_iret rfl dX9_hides_64 ?_
          exact k _ _ _ (-2) (by decide)  H12 a13 ((Sm.refl [50, 54, 55, 56, 61, 62, 63, 64] _).tr s14 (fun _ q => q) (by simp))
      · refine g_iconst (v := iZ (-1)) 24 dX9_hides_23 rfl rfl ?_
        refine g_iret rfl dX9_hides_24 ?_
        exact k _ _ _ (-1) (by decide)  H (AgB.refl _ _) (Sm.refl [50, 54, 55, 56, 61, 62, 63, 64] _)
set_option maxRecDepth 100000 in
theorem b_same {l : Launch} {h : MH} {Q : Option Value → MH → Prop} {tr : Int64} {ty tx : Nat → Int32} {w : Nat → Int} {B : Nat → Nat → Int} {t u : Int} (H : R9B h tr ty tx w B) (rt : rg t) (ru : rg u)  (k : ∀ r : Int, (smP (w 5) (refV B) (refB B) t u r) → Q (some (.int (iZ r))) h) : Go l mX9_same 0 [some (.ref 50), some (.int (iZ t)), some (.int (iZ u))] [] h Q := by
  have n0 := H.2.2.1.2.1
  refine g_aload_n 1 dX9_same_0 rfl rfl ?_
  refine g_iload_n 2 dX9_same_1 rfl rfl ?_
  obtain ⟨F50_1, ⟨F51_1, F52_1, F53_1, F54_1, F55_1, F56_1, F57_1, F58_1, F59_1, F60_1, F61_1, F62_1, F63_1, F64_1, F65_1, F66_1, F67_1, F68_1, F69_1, F70_1, kty_1, ktx_1⟩, ⟨r2_1, r5_1, r13_1, r14_1, r15_1, r16_1, r17_1, r18_1, r19_1, r20_1, r25_1, r26_1, r27_1, r28_1, r29_1, r30_1, r31_1, r35_1⟩, ⟨o53_1, o54_1, o55_1, o56_1, o57_1, o58_1, o59_1, o60_1, o61_1, o62_1, o63_1, o64_1, o65_1, o66_1, o67_1, o68_1, o69_1, o70_1⟩, hT_1⟩ := id H
  refine g_callV (z := mX9_isTool) (As := [.int (iZ t)]) 5 dX9_same_2 mwX9_isTool ⟨by decide, by decide⟩ rfl wlX9_178 wiX9_isTool wsX9_isTool F50_1 rfl rfl rfl (nle rfl) (nle rfl) rfl ?_
  refine b_isTool H rt (fun z2 rz2 => ?_)
  refine rI ?_
  refine g_ifZ_eq 25 8 dX9_same_5 rfl rfl (rg01 (by omega)) (fun c3 => ?_) (fun c3 => ?_)
  · refine g_iconst (v := iZ (-1)) 26 dX9_same_25 rfl rfl ?_
    refine g_iret rfl dX9_same_26 ?_
    exact k (-1) ⟨fun q => by omega, fun _ => rfl⟩ 
  · refine g_aload_n 9 dX9_same_8 rfl rfl ?_
    refine g_iload_n 10 dX9_same_9 rfl rfl ?_
    refine g_callV (z := mX9_isTool) (As := [.int (iZ u)]) 13 dX9_same_10 mwX9_isTool ⟨by decide, by decide⟩ rfl wlX9_178 wiX9_isTool wsX9_isTool F50_1 rfl rfl rfl (nle rfl) (nle rfl) rfl ?_
    refine b_isTool H ru (fun z4 rz4 => ?_)
    refine rI ?_
    refine g_ifZ_eq 25 16 dX9_same_13 rfl rfl (rg01 (by omega)) (fun c5 => ?_) (fun c5 => ?_)
    · refine g_iconst (v := iZ (-1)) 26 dX9_same_25 rfl rfl ?_
      refine g_iret rfl dX9_same_26 ?_
      exact k (-1) ⟨fun q => by omega, fun _ => rfl⟩ 
    · refine g_aload_n 17 dX9_same_16 rfl rfl ?_
      refine g_iload_n 18 dX9_same_17 rfl rfl ?_
      refine g_iload_n 19 dX9_same_18 rfl rfl ?_
      refine g_callV (z := mX9_unlike) (As := [.int (iZ t), .int (iZ u)]) 22 dX9_same_19 mwX9_unlike ⟨by decide, by decide⟩ rfl wlX9_214 wiX9_unlike wsX9_unlike F50_1 rfl rfl rfl (nle rfl) (nle rfl) rfl ?_
      refine b_unl H (by omega) (by omega) (fun z6 rz6 => ?_)
      refine rI ?_
      refine g_goto 26 dX9_same_22 rfl ?_
      refine g_iret rfl dX9_same_26 ?_
      exact k (z6) ⟨fun _ => rz6.1, fun q => by omega⟩ 

set_option maxRecDepth 100000 in
theorem m_settles_l {l : Launch} {Q : Option Value → MH → Prop} {tr : Int64} {ty tx : Nat → Int32} {t i : Int} (rt : rg t) (ri : rg i) : ∀ (m0 : Nat) (h : MH) (w : Nat → Int) (B : Nat → Nat → Int) (u : Int), (7 - u).toNat = m0 → R9 h tr ty tx w B → (1 ≤ u ∧ u ≤ 7) → (0 ≤ i ∧ i ≤ 7) → (okS (B 54) (B 56) 13) → (∀ (h1 : MH) (w1 : Nat → Int) (B1 : Nat → Nat → Int) (r : Int), (rg r) → R9 h1 tr ty tx w1 B1 → Ag w B w1 B1 → Sm [50, 54, 55, 56, 61, 62, 63, 64] h h1 → Q (some (.int (iZ r))) h1) → Go l mX9_settles 26 [some (.ref 50), none, some (.int (iZ i)), some (.int (iZ u))] [] h Q := by
  intro m0
  induction m0 using Nat.strongRecOn with
  | ind m0 ih =>
    intro h w B u hmz H hu hi hS k
    have n0 := H.2.2.1.2.1
    refine g_iload_n 27 dX9_settles_26 rfl rfl ?_
    refine g_bipush (v := iZ (6)) 29 dX9_settles_27 (by decide +kernel) rfl ?_
    refine g_icZ_gt 74 32 dX9_settles_29 rfl rfl (by omega) (by decide) (fun c1 => ?_) (fun c1 => ?_)
    · refine g_bipush (v := iZ (-9)) 76 dX9_settles_74 (by decide +kernel) rfl ?_
      refine g_iret rfl dX9_settles_76 ?_
      exact k _ _ _ (-9) (by decide)  H (Ag.refl _ _) (Sm.refl [50, 54, 55, 56, 61, 62, 63, 64] _)
    · refine g_aload_n 33 dX9_settles_32 rfl rfl ?_
      refine g_bipush (v := iZ (13)) 35 dX9_settles_33 (by decide +kernel) rfl ?_
      refine g_iload_n 36 dX9_settles_35 rfl rfl ?_
      refine g_bipush (v := iZ (14)) 38 dX9_settles_36 (by decide +kernel) rfl ?_
      obtain ⟨F50_2, ⟨F51_2, F52_2, F53_2, F54_2, F55_2, F56_2, F57_2, F58_2, F59_2, F60_2, F61_2, F62_2, F63_2, F64_2, F65_2, F66_2, F67_2, F68_2, F69_2, F70_2⟩, ⟨r2_2, r5_2, r13_2, r14_2, r15_2, r16_2, r17_2, r18_2, r19_2, r20_2, r25_2, r26_2, r27_2, r28_2, r29_2, r30_2, r31_2, r35_2⟩, ⟨o53_2, o54_2, o55_2, o56_2, o57_2, o58_2, o59_2, o60_2, o61_2, o62_2, o63_2, o64_2, o65_2, o66_2, o67_2, o68_2, o69_2, o70_2⟩, hT_2⟩ := id H
      refine g_callV (z := mX9_builds) (As := [.int (iZ 13), .int (iZ i), .int (iZ 14)]) 41 dX9_settles_38 mwX9_builds ⟨by decide, by decide⟩ rfl wlX9_211 wiX9_builds wsX9_builds F50_2 rfl rfl rfl (nle rfl) (nle rfl) rfl ?_
      refine m_blds H (by omega) (by omega) (by omega) hS (fun h6 w7 B8 z3 rz3 p4 p5 H9 a10 s11 => ?_)
      have e12 := a10.1
      have n13 := H9.2.2.1.2.1
      refine rI ?_
      refine g_ifZ_eq 47 44 dX9_settles_41 rfl rfl (by omega) (fun c14 => ?_) (fun c14 => ?_)
      · refine g_aload_n 48 dX9_settles_47 rfl rfl ?_
        refine g_bipush (v := iZ (13)) 50 dX9_settles_48 (by decide +kernel) rfl ?_
        refine g_bipush (v := iZ (14)) 52 dX9_settles_50 (by decide +kernel) rfl ?_
        obtain ⟨F50_15, ⟨F51_15, F52_15, F53_15, F54_15, F55_15, F56_15, F57_15, F58_15, F59_15, F60_15, F61_15, F62_15, F63_15, F64_15, F65_15, F66_15, F67_15, F68_15, F69_15, F70_15⟩, ⟨r2_15, r5_15, r13_15, r14_15, r15_15, r16_15, r17_15, r18_15, r19_15, r20_15, r25_15, r26_15, r27_15, r28_15, r29_15, r30_15, r31_15, r35_15⟩, ⟨o53_15, o54_15, o55_15, o56_15, o57_15, o58_15, o59_15, o60_15, o61_15, o62_15, o63_15, o64_15, o65_15, o66_15, o67_15, o68_15, o69_15, o70_15⟩, hT_15⟩ := id H9
        refine g_callV (z := mX9_unlike) (As := [.int (iZ 13), .int (iZ 14)]) 55 dX9_settles_52 mwX9_unlike ⟨by decide, by decide⟩ rfl wlX9_214 wiX9_unlike wsX9_unlike F50_15 rfl rfl rfl (nle rfl) (nle rfl) rfl ?_
        refine m_unl H9 (by omega) (by omega) (fun z16 rz16 => ?_)
        refine rI ?_
        refine g_ifZ_ne 60 58 dX9_settles_55 rfl rfl (by omega) (fun c17 => ?_) (fun c17 => ?_)
        · refine g_aload_n 61 dX9_settles_60 rfl rfl ?_
          refine g_bipush (v := iZ (14)) 63 dX9_settles_61 (by decide +kernel) rfl ?_
          refine g_bipush (v := iZ (13)) 65 dX9_settles_63 (by decide +kernel) rfl ?_
          refine g_callV (z := mX9_move) (As := [.int (iZ 14), .int (iZ 13)]) 68 dX9_settles_65 mwX9_move ⟨by decide, by decide⟩ rfl wlX9_167 wiX9_move wsX9_move F50_15 rfl rfl rfl (nle rfl) (nle rfl) rfl ?_
          refine m_move H9 (by omega) (by omega) (by omega) (fun h21 w22 B23 p19 p20 H24 a25 s26 => ?_)
          have e27 := a25.1
          have n28 := H24.2.2.1.2.1
          refine rV ?_
          refine g_iincZ [some (.ref 50), none, some (.int (iZ i)), some (.int (iZ (u + 1)))] 71 dX9_settles_68 rfl (by omega) (by decide) rfl rfl rfl ?_
          refine g_goto 26 dX9_settles_71 rfl ?_
          exact ih _ (by omega) _ _ _ (u + 1) rfl H24 (by omega) (by omega) (p20 ((p4 c14).1)) (fun hQ wQ BQ rQ eQ  RQ aQ sQ => k hQ wQ BQ rQ eQ  RQ ((a10.tr a25).tr aQ) ((((Sm.refl [50, 54, 55, 56, 61, 62, 63, 64] _).tr s11 (fun _ q => q) (by simp)).tr s26 (fun _ q => q) (by simp)).tr sQ (fun _ q => q) (fun _ q => q)))
        · refine g_iload_n 59 dX9_settles_58 rfl rfl ?_
          refine g_iret rfl dX9_settles_59 ?_
          exact k _ _ _ (u) (by omega)  H9 a10 ((Sm.refl [50, 54, 55, 56, 61, 62, 63, 64] _).tr s11 (fun _ q => q) (by simp))
      · refine g_bipush (v := iZ (-9)) 46 dX9_settles_44 (by decide +kernel) rfl ?_
        refine g_iret rfl dX9_settles_46 ?_
        exact k _ _ _ (-9) (by decide)  H9 a10 ((Sm.refl [50, 54, 55, 56, 61, 62, 63, 64] _).tr s11 (fun _ q => q) (by simp))
set_option maxRecDepth 100000 in
theorem m_settles {l : Launch} {h : MH} {Q : Option Value → MH → Prop} {tr : Int64} {ty tx : Nat → Int32} {w : Nat → Int} {B : Nat → Nat → Int} {t i : Int} (H : R9 h tr ty tx w B) (rt : rg t) (ri : rg i)  (k : ∀ (h1 : MH) (w1 : Nat → Int) (B1 : Nat → Nat → Int) (r : Int), (rg r) → R9 h1 tr ty tx w1 B1 → Ag w B w1 B1 → Sm [50, 54, 55, 56, 61, 62, 63, 64] h h1 → Q (some (.int (iZ r))) h1) : Go l mX9_settles 0 [some (.ref 50), some (.int (iZ t)), some (.int (iZ i)), none] [] h Q := by
  have n0 := H.2.2.1.2.1
  refine g_aload_n 1 dX9_settles_0 rfl rfl ?_
  refine g_iload_n 2 dX9_settles_1 rfl rfl ?_
  obtain ⟨F50_1, ⟨F51_1, F52_1, F53_1, F54_1, F55_1, F56_1, F57_1, F58_1, F59_1, F60_1, F61_1, F62_1, F63_1, F64_1, F65_1, F66_1, F67_1, F68_1, F69_1, F70_1⟩, ⟨r2_1, r5_1, r13_1, r14_1, r15_1, r16_1, r17_1, r18_1, r19_1, r20_1, r25_1, r26_1, r27_1, r28_1, r29_1, r30_1, r31_1, r35_1⟩, ⟨o53_1, o54_1, o55_1, o56_1, o57_1, o58_1, o59_1, o60_1, o61_1, o62_1, o63_1, o64_1, o65_1, o66_1, o67_1, o68_1, o69_1, o70_1⟩, hT_1⟩ := id H
  refine g_callV (z := mX9_isTool) (As := [.int (iZ t)]) 5 dX9_settles_2 mwX9_isTool ⟨by decide, by decide⟩ rfl wlX9_178 wiX9_isTool wsX9_isTool F50_1 rfl rfl rfl (nle rfl) (nle rfl) rfl ?_
  refine m_isTool H rt (fun z2 rz2 => ?_)
  refine rI ?_
  refine g_ifZ_eq 15 8 dX9_settles_5 rfl rfl (rg01 (by omega)) (fun c3 => ?_) (fun c3 => ?_)
  · refine g_iconst (v := iZ (-1)) 16 dX9_settles_15 rfl rfl ?_
    refine g_iret rfl dX9_settles_16 ?_
    exact k _ _ _ (-1) (by decide)  H (Ag.refl _ _) (Sm.refl [50, 54, 55, 56, 61, 62, 63, 64] _)
  · refine g_iload_n 9 dX9_settles_8 rfl rfl ?_
    refine g_callS (z := mX9_isText) (As := [.int (iZ i)]) 12 dX9_settles_9 mwX9_isText ⟨by decide, by decide⟩ rfl wlX9_81 wtX9_isText rfl (nle rfl) (nle rfl) rfl ?_
    refine n_isText  ri (fun z4 rz4 => ?_)
    refine rI ?_
    refine g_ifZ_ne 17 15 dX9_settles_12 rfl rfl (rg01 (by omega)) (fun c5 => ?_) (fun c5 => ?_)
    · refine g_aload_n 18 dX9_settles_17 rfl rfl ?_
      refine g_iload_n 19 dX9_settles_18 rfl rfl ?_
      refine g_bipush (v := iZ (13)) 21 dX9_settles_19 (by decide +kernel) rfl ?_
      refine g_callV (z := mX9_move) (As := [.int (iZ t), .int (iZ 13)]) 24 dX9_settles_21 mwX9_move ⟨by decide, by decide⟩ rfl wlX9_167 wiX9_move wsX9_move F50_1 rfl rfl rfl (nle rfl) (nle rfl) rfl ?_
      refine m_move H (by omega) (by omega) (by omega) (fun h9 w10 B11 p7 p8 H12 a13 s14 => ?_)
      have e15 := a13.1
      have n16 := H12.2.2.1.2.1
      refine rV ?_
      refine g_iconst (v := iZ (1)) 25 dX9_settles_24 rfl rfl ?_
      refine g_istore_n (L1 := [some (.ref 50), some (.int (iZ t)), some (.int (iZ i)), some (.int (iZ 1))]) 26 dX9_settles_25 (by decide) rfl rfl rfl ?_
      refine Go.fgt 1 ?_
      exact m_settles_l rt ri _ _ _ _ (1) rfl H12 (by omega) (by omega) (p8 ((H.2.2.2.2.2 _ (by omega) (by omega)).1)) (fun hQ wQ BQ rQ eQ  RQ aQ sQ => k hQ wQ BQ rQ eQ  RQ (a13.tr aQ) (((Sm.refl [50, 54, 55, 56, 61, 62, 63, 64] _).tr s14 (fun _ q => q) (by simp)).tr sQ (fun _ q => q) (fun _ q => q)))
    · refine g_iconst (v := iZ (-1)) 16 dX9_settles_15 rfl rfl ?_
      refine g_iret rfl dX9_settles_16 ?_
      exact k _ _ _ (-1) (by decide)  H (Ag.refl _ _) (Sm.refl [50, 54, 55, 56, 61, 62, 63, 64] _)
set_option maxRecDepth 100000 in
theorem m_goR {l : Launch} {h : MH} {Q : Option Value → MH → Prop} {tr : Int64} {ty tx : Nat → Int32} {w : Nat → Int} {B : Nat → Nat → Int} {t u i : Int} (H : R9 h tr ty tx w B) (rt : (0 ≤ t ∧ t ≤ 11)) (ru : (0 ≤ u ∧ u ≤ 11)) (ri : (0 ≤ i ∧ i ≤ 7)) (ht : t < w 5) (hu : u < w 5) (k : ∀ (h1 : MH) (w1 : Nat → Int) (B1 : Nat → Nat → Int) (r : Int), (-2 ≤ r ∧ r ≤ 257) → R9 h1 tr ty tx w1 B1 → Ag w B w1 B1 → Sm [50, 54, 55, 56, 61, 62, 63, 64] h h1 → Q (some (.int (iZ r))) h1) : Go l mX9_goRound 0 [some (.ref 50), some (.int (iZ t)), some (.int (iZ u)), some (.int (iZ i)), none] [] h Q := by
  have n0 := H.2.2.1.2.1
  refine g_aload_n 1 dX9_goRound_0 rfl rfl ?_
  refine g_iload_n 2 dX9_goRound_1 rfl rfl ?_
  refine g_iload_n 3 dX9_goRound_2 rfl rfl ?_
  refine g_bipush (v := iZ (12)) 5 dX9_goRound_3 (by decide +kernel) rfl ?_
  obtain ⟨F50_1, ⟨F51_1, F52_1, F53_1, F54_1, F55_1, F56_1, F57_1, F58_1, F59_1, F60_1, F61_1, F62_1, F63_1, F64_1, F65_1, F66_1, F67_1, F68_1, F69_1, F70_1⟩, ⟨r2_1, r5_1, r13_1, r14_1, r15_1, r16_1, r17_1, r18_1, r19_1, r20_1, r25_1, r26_1, r27_1, r28_1, r29_1, r30_1, r31_1, r35_1⟩, ⟨o53_1, o54_1, o55_1, o56_1, o57_1, o58_1, o59_1, o60_1, o61_1, o62_1, o63_1, o64_1, o65_1, o66_1, o67_1, o68_1, o69_1, o70_1⟩, hT_1⟩ := id H
  refine g_callV (z := mX9_builds) (As := [.int (iZ t), .int (iZ i), .int (iZ 12)]) 8 dX9_goRound_5 mwX9_builds ⟨by decide, by decide⟩ rfl wlX9_211 wiX9_builds wsX9_builds F50_1 rfl rfl rfl (nle rfl) (nle rfl) rfl ?_
  refine m_blds H (by omega) (by omega) (by omega) ((H.2.2.2.2.2 _ (by omega) (by omega)).1) (fun h5 w6 B7 z2 rz2 p3 p4 H8 a9 s10 => ?_)
  have e11 := a9.1
  have n12 := H8.2.2.1.2.1
  refine rI ?_
  refine g_ifZ_ne 50 11 dX9_goRound_8 rfl rfl (by omega) (fun c13 => ?_) (fun c13 => ?_)
  · refine g_iconst (v := iZ (0)) 51 dX9_goRound_50 rfl rfl ?_
    refine g_istore (L1 := [some (.ref 50), some (.int (iZ t)), some (.int (iZ u)), some (.int (iZ i)), some (.int (iZ 0))]) 53 dX9_goRound_51 (by decide) rfl rfl rfl ?_
    refine g_iload 55 dX9_goRound_53 rfl rfl ?_
    refine g_ifZ_eq 69 58 dX9_goRound_55 rfl rfl (by decide) (fun _ => ?_) (fun q => absurd q (by decide))
    refine g_bipush (v := iZ (-2)) 71 dX9_goRound_69 (by decide +kernel) rfl ?_
    refine g_iret rfl dX9_goRound_71 ?_
    exact k _ _ _ (-2) (by omega)  H8 a9 ((Sm.refl [50, 54, 55, 56, 61, 62, 63, 64] _).tr s10 (fun _ q => q) (by simp))
  · refine g_aload_n 12 dX9_goRound_11 rfl rfl ?_
    refine g_bipush (v := iZ (12)) 14 dX9_goRound_12 (by decide +kernel) rfl ?_
    refine g_iload_n 15 dX9_goRound_14 rfl rfl ?_
    refine g_bipush (v := iZ (13)) 17 dX9_goRound_15 (by decide +kernel) rfl ?_
    obtain ⟨F50_14, ⟨F51_14, F52_14, F53_14, F54_14, F55_14, F56_14, F57_14, F58_14, F59_14, F60_14, F61_14, F62_14, F63_14, F64_14, F65_14, F66_14, F67_14, F68_14, F69_14, F70_14⟩, ⟨r2_14, r5_14, r13_14, r14_14, r15_14, r16_14, r17_14, r18_14, r19_14, r20_14, r25_14, r26_14, r27_14, r28_14, r29_14, r30_14, r31_14, r35_14⟩, ⟨o53_14, o54_14, o55_14, o56_14, o57_14, o58_14, o59_14, o60_14, o61_14, o62_14, o63_14, o64_14, o65_14, o66_14, o67_14, o68_14, o69_14, o70_14⟩, hT_14⟩ := id H8
    refine g_callV (z := mX9_builds) (As := [.int (iZ 12), .int (iZ i), .int (iZ 13)]) 20 dX9_goRound_17 mwX9_builds ⟨by decide, by decide⟩ rfl wlX9_211 wiX9_builds wsX9_builds F50_14 rfl rfl rfl (nle rfl) (nle rfl) rfl ?_
    refine m_blds H8 (by omega) (by omega) (by omega) ((p3 c13).1) (fun h18 w19 B20 z15 rz15 p16 p17 H21 a22 s23 => ?_)
    have e24 := a22.1
    have n25 := H21.2.2.1.2.1
    refine rI ?_
    refine g_ifZ_ne 50 23 dX9_goRound_20 rfl rfl (by omega) (fun c26 => ?_) (fun c26 => ?_)
    · refine g_iconst (v := iZ (0)) 51 dX9_goRound_50 rfl rfl ?_
      refine g_istore (L1 := [some (.ref 50), some (.int (iZ t)), some (.int (iZ u)), some (.int (iZ i)), some (.int (iZ 0))]) 53 dX9_goRound_51 (by decide) rfl rfl rfl ?_
      refine g_iload 55 dX9_goRound_53 rfl rfl ?_
      refine g_ifZ_eq 69 58 dX9_goRound_55 rfl rfl (by decide) (fun _ => ?_) (fun q => absurd q (by decide))
      refine g_bipush (v := iZ (-2)) 71 dX9_goRound_69 (by decide +kernel) rfl ?_
      refine g_iret rfl dX9_goRound_71 ?_
      exact k _ _ _ (-2) (by omega)  H21 (a9.tr a22) (((Sm.refl [50, 54, 55, 56, 61, 62, 63, 64] _).tr s10 (fun _ q => q) (by simp)).tr s23 (fun _ q => q) (by simp))
    · refine g_aload_n 24 dX9_goRound_23 rfl rfl ?_
      refine g_iload_n 25 dX9_goRound_24 rfl rfl ?_
      refine g_iload_n 26 dX9_goRound_25 rfl rfl ?_
      refine g_bipush (v := iZ (14)) 28 dX9_goRound_26 (by decide +kernel) rfl ?_
      obtain ⟨F50_27, ⟨F51_27, F52_27, F53_27, F54_27, F55_27, F56_27, F57_27, F58_27, F59_27, F60_27, F61_27, F62_27, F63_27, F64_27, F65_27, F66_27, F67_27, F68_27, F69_27, F70_27⟩, ⟨r2_27, r5_27, r13_27, r14_27, r15_27, r16_27, r17_27, r18_27, r19_27, r20_27, r25_27, r26_27, r27_27, r28_27, r29_27, r30_27, r31_27, r35_27⟩, ⟨o53_27, o54_27, o55_27, o56_27, o57_27, o58_27, o59_27, o60_27, o61_27, o62_27, o63_27, o64_27, o65_27, o66_27, o67_27, o68_27, o69_27, o70_27⟩, hT_27⟩ := id H21
      refine g_callV (z := mX9_builds) (As := [.int (iZ u), .int (iZ i), .int (iZ 14)]) 31 dX9_goRound_28 mwX9_builds ⟨by decide, by decide⟩ rfl wlX9_211 wiX9_builds wsX9_builds F50_27 rfl rfl rfl (nle rfl) (nle rfl) rfl ?_
      refine m_blds H21 (by omega) (by omega) (by omega) ((H21.2.2.2.2.2 _ (by omega) (by omega)).1) (fun h31 w32 B33 z28 rz28 p29 p30 H34 a35 s36 => ?_)
      have e37 := a35.1
      have n38 := H34.2.2.1.2.1
      refine rI ?_
      refine g_ifZ_ne 50 34 dX9_goRound_31 rfl rfl (by omega) (fun c39 => ?_) (fun c39 => ?_)
      · refine g_iconst (v := iZ (0)) 51 dX9_goRound_50 rfl rfl ?_
        refine g_istore (L1 := [some (.ref 50), some (.int (iZ t)), some (.int (iZ u)), some (.int (iZ i)), some (.int (iZ 0))]) 53 dX9_goRound_51 (by decide) rfl rfl rfl ?_
        refine g_iload 55 dX9_goRound_53 rfl rfl ?_
        refine g_ifZ_eq 69 58 dX9_goRound_55 rfl rfl (by decide) (fun _ => ?_) (fun q => absurd q (by decide))
        refine g_bipush (v := iZ (-2)) 71 dX9_goRound_69 (by decide +kernel) rfl ?_
        refine g_iret rfl dX9_goRound_71 ?_
        exact k _ _ _ (-2) (by omega)  H34 ((a9.tr a22).tr a35) ((((Sm.refl [50, 54, 55, 56, 61, 62, 63, 64] _).tr s10 (fun _ q => q) (by simp)).tr s23 (fun _ q => q) (by simp)).tr s36 (fun _ q => q) (by simp))
      · refine g_aload_n 35 dX9_goRound_34 rfl rfl ?_
        refine g_bipush (v := iZ (14)) 37 dX9_goRound_35 (by decide +kernel) rfl ?_
        refine g_iload_n 38 dX9_goRound_37 rfl rfl ?_
        refine g_bipush (v := iZ (15)) 40 dX9_goRound_38 (by decide +kernel) rfl ?_
        obtain ⟨F50_40, ⟨F51_40, F52_40, F53_40, F54_40, F55_40, F56_40, F57_40, F58_40, F59_40, F60_40, F61_40, F62_40, F63_40, F64_40, F65_40, F66_40, F67_40, F68_40, F69_40, F70_40⟩, ⟨r2_40, r5_40, r13_40, r14_40, r15_40, r16_40, r17_40, r18_40, r19_40, r20_40, r25_40, r26_40, r27_40, r28_40, r29_40, r30_40, r31_40, r35_40⟩, ⟨o53_40, o54_40, o55_40, o56_40, o57_40, o58_40, o59_40, o60_40, o61_40, o62_40, o63_40, o64_40, o65_40, o66_40, o67_40, o68_40, o69_40, o70_40⟩, hT_40⟩ := id H34
        refine g_callV (z := mX9_builds) (As := [.int (iZ 14), .int (iZ i), .int (iZ 15)]) 43 dX9_goRound_40 mwX9_builds ⟨by decide, by decide⟩ rfl wlX9_211 wiX9_builds wsX9_builds F50_40 rfl rfl rfl (nle rfl) (nle rfl) rfl ?_
        refine m_blds H34 (by omega) (by omega) (by omega) ((p29 c39).1) (fun h44 w45 B46 z41 rz41 p42 p43 H47 a48 s49 => ?_)
        have e50 := a48.1
        have n51 := H47.2.2.1.2.1
        refine rI ?_
        refine g_ifZ_ne 50 46 dX9_goRound_43 rfl rfl (by omega) (fun c52 => ?_) (fun c52 => ?_)
        · refine g_iconst (v := iZ (0)) 51 dX9_goRound_50 rfl rfl ?_
          refine g_istore (L1 := [some (.ref 50), some (.int (iZ t)), some (.int (iZ u)), some (.int (iZ i)), some (.int (iZ 0))]) 53 dX9_goRound_51 (by decide) rfl rfl rfl ?_
          refine g_iload 55 dX9_goRound_53 rfl rfl ?_
          refine g_ifZ_eq 69 58 dX9_goRound_55 rfl rfl (by decide) (fun _ => ?_) (fun q => absurd q (by decide))
          refine g_bipush (v := iZ (-2)) 71 dX9_goRound_69 (by decide +kernel) rfl ?_
          refine g_iret rfl dX9_goRound_71 ?_
          exact k _ _ _ (-2) (by omega)  H47 (((a9.tr a22).tr a35).tr a48) (((((Sm.refl [50, 54, 55, 56, 61, 62, 63, 64] _).tr s10 (fun _ q => q) (by simp)).tr s23 (fun _ q => q) (by simp)).tr s36 (fun _ q => q) (by simp)).tr s49 (fun _ q => q) (by simp))
        · refine g_iconst (v := iZ (1)) 47 dX9_goRound_46 rfl rfl ?_
          refine g_goto 51 dX9_goRound_47 rfl ?_
          refine g_istore (L1 := [some (.ref 50), some (.int (iZ t)), some (.int (iZ u)), some (.int (iZ i)), some (.int (iZ 1))]) 53 dX9_goRound_51 (by decide) rfl rfl rfl ?_
          refine g_iload 55 dX9_goRound_53 rfl rfl ?_
          refine g_ifZ_eq 69 58 dX9_goRound_55 rfl rfl (by decide) (fun q => absurd q (by decide)) (fun _ => ?_)
          refine g_aload_n 59 dX9_goRound_58 rfl rfl ?_
          refine g_bipush (v := iZ (13)) 61 dX9_goRound_59 (by decide +kernel) rfl ?_
          refine g_bipush (v := iZ (15)) 63 dX9_goRound_61 (by decide +kernel) rfl ?_
          obtain ⟨F50_53, ⟨F51_53, F52_53, F53_53, F54_53, F55_53, F56_53, F57_53, F58_53, F59_53, F60_53, F61_53, F62_53, F63_53, F64_53, F65_53, F66_53, F67_53, F68_53, F69_53, F70_53⟩, ⟨r2_53, r5_53, r13_53, r14_53, r15_53, r16_53, r17_53, r18_53, r19_53, r20_53, r25_53, r26_53, r27_53, r28_53, r29_53, r30_53, r31_53, r35_53⟩, ⟨o53_53, o54_53, o55_53, o56_53, o57_53, o58_53, o59_53, o60_53, o61_53, o62_53, o63_53, o64_53, o65_53, o66_53, o67_53, o68_53, o69_53, o70_53⟩, hT_53⟩ := id H47
          refine g_callV (z := mX9_unlike) (As := [.int (iZ 13), .int (iZ 15)]) 66 dX9_goRound_63 mwX9_unlike ⟨by decide, by decide⟩ rfl wlX9_214 wiX9_unlike wsX9_unlike F50_53 rfl rfl rfl (nle rfl) (nle rfl) rfl ?_
          refine m_unl H47 (by omega) (by omega) (fun z54 rz54 => ?_)
          refine rI ?_
          refine g_goto 71 dX9_goRound_66 rfl ?_
          refine g_iret rfl dX9_goRound_71 ?_
          exact k _ _ _ (z54) (by omega)  H47 (((a9.tr a22).tr a35).tr a48) (((((Sm.refl [50, 54, 55, 56, 61, 62, 63, 64] _).tr s10 (fun _ q => q) (by simp)).tr s23 (fun _ q => q) (by simp)).tr s36 (fun _ q => q) (by simp)).tr s49 (fun _ q => q) (by simp))
set_option maxRecDepth 100000 in
theorem m_round {l : Launch} {h : MH} {Q : Option Value → MH → Prop} {tr : Int64} {ty tx : Nat → Int32} {w : Nat → Int} {B : Nat → Nat → Int} {t u i : Int} (H : R9 h tr ty tx w B) (rt : rg t) (ru : rg u) (ri : rg i)  (k : ∀ (h1 : MH) (w1 : Nat → Int) (B1 : Nat → Nat → Int) (r : Int), (rg r) → R9 h1 tr ty tx w1 B1 → Ag w B w1 B1 → Sm [50, 54, 55, 56, 61, 62, 63, 64] h h1 → Q (some (.int (iZ r))) h1) : Go l mX9_round 0 [some (.ref 50), some (.int (iZ t)), some (.int (iZ u)), some (.int (iZ i))] [] h Q := by
  have n0 := H.2.2.1.2.1
  refine g_aload_n 1 dX9_round_0 rfl rfl ?_
  refine g_iload_n 2 dX9_round_1 rfl rfl ?_
  obtain ⟨F50_1, ⟨F51_1, F52_1, F53_1, F54_1, F55_1, F56_1, F57_1, F58_1, F59_1, F60_1, F61_1, F62_1, F63_1, F64_1, F65_1, F66_1, F67_1, F68_1, F69_1, F70_1⟩, ⟨r2_1, r5_1, r13_1, r14_1, r15_1, r16_1, r17_1, r18_1, r19_1, r20_1, r25_1, r26_1, r27_1, r28_1, r29_1, r30_1, r31_1, r35_1⟩, ⟨o53_1, o54_1, o55_1, o56_1, o57_1, o58_1, o59_1, o60_1, o61_1, o62_1, o63_1, o64_1, o65_1, o66_1, o67_1, o68_1, o69_1, o70_1⟩, hT_1⟩ := id H
  refine g_callV (z := mX9_isTool) (As := [.int (iZ t)]) 5 dX9_round_2 mwX9_isTool ⟨by decide, by decide⟩ rfl wlX9_178 wiX9_isTool wsX9_isTool F50_1 rfl rfl rfl (nle rfl) (nle rfl) rfl ?_
  refine m_isTool H rt (fun z2 rz2 => ?_)
  refine rI ?_
  refine g_ifZ_eq 33 8 dX9_round_5 rfl rfl (rg01 (by omega)) (fun c3 => ?_) (fun c3 => ?_)
  · refine g_iconst (v := iZ (-1)) 34 dX9_round_33 rfl rfl ?_
    refine g_iret rfl dX9_round_34 ?_
    exact k _ _ _ (-1) (by decide)  H (Ag.refl _ _) (Sm.refl [50, 54, 55, 56, 61, 62, 63, 64] _)
  · refine g_aload_n 9 dX9_round_8 rfl rfl ?_
    refine g_iload_n 10 dX9_round_9 rfl rfl ?_
    refine g_callV (z := mX9_isTool) (As := [.int (iZ u)]) 13 dX9_round_10 mwX9_isTool ⟨by decide, by decide⟩ rfl wlX9_178 wiX9_isTool wsX9_isTool F50_1 rfl rfl rfl (nle rfl) (nle rfl) rfl ?_
    refine m_isTool H ru (fun z4 rz4 => ?_)
    refine rI ?_
    refine g_ifZ_eq 33 16 dX9_round_13 rfl rfl (rg01 (by omega)) (fun c5 => ?_) (fun c5 => ?_)
    · refine g_iconst (v := iZ (-1)) 34 dX9_round_33 rfl rfl ?_
      refine g_iret rfl dX9_round_34 ?_
      exact k _ _ _ (-1) (by decide)  H (Ag.refl _ _) (Sm.refl [50, 54, 55, 56, 61, 62, 63, 64] _)
    · refine g_iload_n 17 dX9_round_16 rfl rfl ?_
      refine g_callS (z := mX9_isText) (As := [.int (iZ i)]) 20 dX9_round_17 mwX9_isText ⟨by decide, by decide⟩ rfl wlX9_81 wtX9_isText rfl (nle rfl) (nle rfl) rfl ?_
      refine n_isText  ri (fun z6 rz6 => ?_)
      refine rI ?_
      refine g_ifZ_eq 33 23 dX9_round_20 rfl rfl (rg01 (by omega)) (fun c7 => ?_) (fun c7 => ?_)
      · refine g_iconst (v := iZ (-1)) 34 dX9_round_33 rfl rfl ?_
        refine g_iret rfl dX9_round_34 ?_
        exact k _ _ _ (-1) (by decide)  H (Ag.refl _ _) (Sm.refl [50, 54, 55, 56, 61, 62, 63, 64] _)
      · refine g_aload_n 24 dX9_round_23 rfl rfl ?_
        refine g_iload_n 25 dX9_round_24 rfl rfl ?_
        refine g_iload_n 26 dX9_round_25 rfl rfl ?_
        refine g_iload_n 27 dX9_round_26 rfl rfl ?_
        refine g_callV (z := mX9_goRound) (As := [.int (iZ t), .int (iZ u), .int (iZ i)]) 30 dX9_round_27 mwX9_goRound ⟨by decide, by decide⟩ rfl wlX9_220 wiX9_goRound wsX9_goRound F50_1 rfl rfl rfl (nle rfl) (nle rfl) rfl ?_
        refine m_goR H (by omega) (by omega) (by omega) (by omega) (by omega) (fun h9 w10 B11 z8 rz8  H12 a13 s14 => ?_)
        have e15 := a13.1
        have n16 := H12.2.2.1.2.1
        refine rI ?_
        refine g_goto 34 dX9_round_30 rfl ?_
        refine g_iret rfl dX9_round_34 ?_
        exact k _ _ _ (z8) (by omega)  H12 a13 ((Sm.refl [50, 54, 55, 56, 61, 62, 63, 64] _).tr s14 (fun _ q => q) (by simp))
set_option maxRecDepth 100000 in
theorem m_hides {l : Launch} {h : MH} {Q : Option Value → MH → Prop} {tr : Int64} {ty tx : Nat → Int32} {w : Nat → Int} {B : Nat → Nat → Int} {t u i : Int} (H : R9 h tr ty tx w B) (rt : rg t) (ru : rg u) (ri : rg i)  (k : ∀ (h1 : MH) (w1 : Nat → Int) (B1 : Nat → Nat → Int) (r : Int), (rg r) → R9 h1 tr ty tx w1 B1 → Ag w B w1 B1 → Sm [50, 54, 55, 56, 61, 62, 63, 64] h h1 → Q (some (.int (iZ r))) h1) : Go l mX9_hides 0 [some (.ref 50), some (.int (iZ t)), some (.int (iZ u)), some (.int (iZ i)), none] [] h Q := by
  have n0 := H.2.2.1.2.1
  refine g_aload_n 1 dX9_hides_0 rfl rfl ?_
  refine g_iload_n 2 dX9_hides_1 rfl rfl ?_
  obtain ⟨F50_1, ⟨F51_1, F52_1, F53_1, F54_1, F55_1, F56_1, F57_1, F58_1, F59_1, F60_1, F61_1, F62_1, F63_1, F64_1, F65_1, F66_1, F67_1, F68_1, F69_1, F70_1⟩, ⟨r2_1, r5_1, r13_1, r14_1, r15_1, r16_1, r17_1, r18_1, r19_1, r20_1, r25_1, r26_1, r27_1, r28_1, r29_1, r30_1, r31_1, r35_1⟩, ⟨o53_1, o54_1, o55_1, o56_1, o57_1, o58_1, o59_1, o60_1, o61_1, o62_1, o63_1, o64_1, o65_1, o66_1, o67_1, o68_1, o69_1, o70_1⟩, hT_1⟩ := id H
  refine g_callV (z := mX9_isTool) (As := [.int (iZ t)]) 5 dX9_hides_2 mwX9_isTool ⟨by decide, by decide⟩ rfl wlX9_178 wiX9_isTool wsX9_isTool F50_1 rfl rfl rfl (nle rfl) (nle rfl) rfl ?_
  refine m_isTool H rt (fun z2 rz2 => ?_)
  refine rI ?_
  refine g_ifZ_eq 23 8 dX9_hides_5 rfl rfl (rg01 (by omega)) (fun c3 => ?_) (fun c3 => ?_)
  · refine g_iconst (v := iZ (-1)) 24 dX9_hides_23 rfl rfl ?_
    refine g_iret rfl dX9_hides_24 ?_
    exact k _ _ _ (-1) (by decide)  H (Ag.refl _ _) (Sm.refl [50, 54, 55, 56, 61, 62, 63, 64] _)
  · refine g_aload_n 9 dX9_hides_8 rfl rfl ?_
    refine g_iload_n 10 dX9_hides_9 rfl rfl ?_
    refine g_callV (z := mX9_isTool) (As := [.int (iZ u)]) 13 dX9_hides_10 mwX9_isTool ⟨by decide, by decide⟩ rfl wlX9_178 wiX9_isTool wsX9_isTool F50_1 rfl rfl rfl (nle rfl) (nle rfl) rfl ?_
    refine m_isTool H ru (fun z4 rz4 => ?_)
    refine rI ?_
    refine g_ifZ_eq 23 16 dX9_hides_13 rfl rfl (rg01 (by omega)) (fun c5 => ?_) (fun c5 => ?_)
    · refine g_iconst (v := iZ (-1)) 24 dX9_hides_23 rfl rfl ?_
      refine g_iret rfl dX9_hides_24 ?_
      exact k _ _ _ (-1) (by decide)  H (Ag.refl _ _) (Sm.refl [50, 54, 55, 56, 61, 62, 63, 64] _)
    · refine g_iload_n 17 dX9_hides_16 rfl rfl ?_
      refine g_callS (z := mX9_isText) (As := [.int (iZ i)]) 20 dX9_hides_17 mwX9_isText ⟨by decide, by decide⟩ rfl wlX9_81 wtX9_isText rfl (nle rfl) (nle rfl) rfl ?_
      refine n_isText  ri (fun z6 rz6 => ?_)
      refine rI ?_
      refine g_ifZ_ne 25 23 dX9_hides_20 rfl rfl (rg01 (by omega)) (fun c7 => ?_) (fun c7 => ?_)
      · refine g_aload_n 26 dX9_hides_25 rfl rfl ?_
        refine g_iload_n 27 dX9_hides_26 rfl rfl ?_
        refine g_iload_n 28 dX9_hides_27 rfl rfl ?_
        refine g_iload_n 29 dX9_hides_28 rfl rfl ?_
        refine g_callV (z := mX9_goRound) (As := [.int (iZ t), .int (iZ u), .int (iZ i)]) 32 dX9_hides_29 mwX9_goRound ⟨by decide, by decide⟩ rfl wlX9_220 wiX9_goRound wsX9_goRound F50_1 rfl rfl rfl (nle rfl) (nle rfl) rfl ?_
        refine m_goR H (by omega) (by omega) (by omega) (by omega) (by omega) (fun h9 w10 B11 z8 rz8  H12 a13 s14 => ?_)
        have e15 := a13.1
        have n16 := H12.2.2.1.2.1
        refine rI ?_
        refine g_istore (L1 := [some (.ref 50), some (.int (iZ t)), some (.int (iZ u)), some (.int (iZ i)), some (.int (iZ z8))]) 34 dX9_hides_32 (by decide) rfl rfl rfl ?_
        refine g_iload 36 dX9_hides_34 rfl rfl ?_
        refine g_ifZ_ge 44 39 dX9_hides_36 rfl rfl (by omega) (fun c17 => ?_) (fun c17 => ?_)
        · refine g_iload 46 dX9_hides_44 rfl rfl ?_
          refine g_ifZ_le 63 49 dX9_hides_46 rfl rfl (by omega) (fun c18 => ?_) (fun c18 => ?_)
          · refine g_iconst (v := iZ (0)) 64 dX9_hides_63 rfl rfl ?_
            refine g_iret rfl dX9_hides_64 ?_
            exact k _ _ _ (0) (by decide)  H12 a13 ((Sm.refl [50, 54, 55, 56, 61, 62, 63, 64] _).tr s14 (fun _ q => q) (by simp))
          · refine g_aload_n 50 dX9_hides_49 rfl rfl ?_
            refine g_iload_n 51 dX9_hides_50 rfl rfl ?_
            refine g_bipush (v := iZ (12)) 53 dX9_hides_51 (by decide +kernel) rfl ?_
            obtain ⟨F50_19, ⟨F51_19, F52_19, F53_19, F54_19, F55_19, F56_19, F57_19, F58_19, F59_19, F60_19, F61_19, F62_19, F63_19, F64_19, F65_19, F66_19, F67_19, F68_19, F69_19, F70_19⟩, ⟨r2_19, r5_19, r13_19, r14_19, r15_19, r16_19, r17_19, r18_19, r19_19, r20_19, r25_19, r26_19, r27_19, r28_19, r29_19, r30_19, r31_19, r35_19⟩, ⟨o53_19, o54_19, o55_19, o56_19, o57_19, o58_19, o59_19, o60_19, o61_19, o62_19, o63_19, o64_19, o65_19, o66_19, o67_19, o68_19, o69_19, o70_19⟩, hT_19⟩ := id H12
            refine g_callV (z := mX9_unlike) (As := [.int (iZ t), .int (iZ 12)]) 56 dX9_hides_53 mwX9_unlike ⟨by decide, by decide⟩ rfl wlX9_214 wiX9_unlike wsX9_unlike F50_19 rfl rfl rfl (nle rfl) (nle rfl) rfl ?_
            refine m_unl H12 (by omega) (by omega) (fun z20 rz20 => ?_)
            refine rI ?_
            refine g_ifZ_ne 63 59 dX9_hides_56 rfl rfl (by omega) (fun c21 => ?_) (fun c21 => ?_)
            · refine g_iconst (v := iZ (0)) 64 dX9_hides_63 rfl rfl ?_
              refine g_iret rfl dX9_hides_64 ?_
              exact k _ _ _ (0) (by decide)  H12 a13 ((Sm.refl [50, 54, 55, 56, 61, 62, 63, 64] _).tr s14 (fun _ q => q) (by simp))
            · refine g_iconst (v := iZ (1)) 60 dX9_hides_59 rfl rfl ?_
              refine g_goto 64 dX9_hides_60 rfl ?_
              refine g_iret rfl dX9_hides_64 ?_
              exact k _ _ _ (1) (by decide)  H12 a13 ((Sm.refl [50, 54, 55, 56, 61, 62, 63, 64] _).tr s14 (fun _ q => q) (by simp))
        · refine g_bipush (v := iZ (-2)) 41 dX9_hides_39 (by decide +kernel) rfl ?_
          refine g_goto 64 dX9_hides_41 rfl ?_
          refine g_iret rfl dX9_hides_64 ?_
          exact k _ _ _ (-2) (by decide)  H12 a13 ((Sm.refl [50, 54, 55, 56, 61, 62, 63, 64] _).tr s14 (fun _ q => q) (by simp))
      · refine g_iconst (v := iZ (-1)) 24 dX9_hides_23 rfl rfl ?_
        refine g_iret rfl dX9_hides_24 ?_
        exact k _ _ _ (-1) (by decide)  H (Ag.refl _ _) (Sm.refl [50, 54, 55, 56, 61, 62, 63, 64] _)
set_option maxRecDepth 100000 in
theorem m_same {l : Launch} {h : MH} {Q : Option Value → MH → Prop} {tr : Int64} {ty tx : Nat → Int32} {w : Nat → Int} {B : Nat → Nat → Int} {t u : Int} (H : R9 h tr ty tx w B) (rt : rg t) (ru : rg u)  (k : ∀ r : Int, (rg r) → Q (some (.int (iZ r))) h) : Go l mX9_same 0 [some (.ref 50), some (.int (iZ t)), some (.int (iZ u))] [] h Q := by
  have n0 := H.2.2.1.2.1
  refine g_aload_n 1 dX9_same_0 rfl rfl ?_
  refine g_iload_n 2 dX9_same_1 rfl rfl ?_
  obtain ⟨F50_1, ⟨F51_1, F52_1, F53_1, F54_1, F55_1, F56_1, F57_1, F58_1, F59_1, F60_1, F61_1, F62_1, F63_1, F64_1, F65_1, F66_1, F67_1, F68_1, F69_1, F70_1⟩, ⟨r2_1, r5_1, r13_1, r14_1, r15_1, r16_1, r17_1, r18_1, r19_1, r20_1, r25_1, r26_1, r27_1, r28_1, r29_1, r30_1, r31_1, r35_1⟩, ⟨o53_1, o54_1, o55_1, o56_1, o57_1, o58_1, o59_1, o60_1, o61_1, o62_1, o63_1, o64_1, o65_1, o66_1, o67_1, o68_1, o69_1, o70_1⟩, hT_1⟩ := id H
  refine g_callV (z := mX9_isTool) (As := [.int (iZ t)]) 5 dX9_same_2 mwX9_isTool ⟨by decide, by decide⟩ rfl wlX9_178 wiX9_isTool wsX9_isTool F50_1 rfl rfl rfl (nle rfl) (nle rfl) rfl ?_
  refine m_isTool H rt (fun z2 rz2 => ?_)
  refine rI ?_
  refine g_ifZ_eq 25 8 dX9_same_5 rfl rfl (rg01 (by omega)) (fun c3 => ?_) (fun c3 => ?_)
  · refine g_iconst (v := iZ (-1)) 26 dX9_same_25 rfl rfl ?_
    refine g_iret rfl dX9_same_26 ?_
    exact k (-1) (by decide) 
  · refine g_aload_n 9 dX9_same_8 rfl rfl ?_
    refine g_iload_n 10 dX9_same_9 rfl rfl ?_
    refine g_callV (z := mX9_isTool) (As := [.int (iZ u)]) 13 dX9_same_10 mwX9_isTool ⟨by decide, by decide⟩ rfl wlX9_178 wiX9_isTool wsX9_isTool F50_1 rfl rfl rfl (nle rfl) (nle rfl) rfl ?_
    refine m_isTool H ru (fun z4 rz4 => ?_)
    refine rI ?_
    refine g_ifZ_eq 25 16 dX9_same_13 rfl rfl (rg01 (by omega)) (fun c5 => ?_) (fun c5 => ?_)
    · refine g_iconst (v := iZ (-1)) 26 dX9_same_25 rfl rfl ?_
      refine g_iret rfl dX9_same_26 ?_
      exact k (-1) (by decide) 
    · refine g_aload_n 17 dX9_same_16 rfl rfl ?_
      refine g_iload_n 18 dX9_same_17 rfl rfl ?_
      refine g_iload_n 19 dX9_same_18 rfl rfl ?_
      refine g_callV (z := mX9_unlike) (As := [.int (iZ t), .int (iZ u)]) 22 dX9_same_19 mwX9_unlike ⟨by decide, by decide⟩ rfl wlX9_214 wiX9_unlike wsX9_unlike F50_1 rfl rfl rfl (nle rfl) (nle rfl) rfl ?_
      refine m_unl H (by omega) (by omega) (fun z6 rz6 => ?_)
      refine rI ?_
      refine g_goto 26 dX9_same_22 rfl ?_
      refine g_iret rfl dX9_same_26 ?_
      exact k (z6) (by omega) 

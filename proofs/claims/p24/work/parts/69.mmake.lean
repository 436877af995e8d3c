set_option maxRecDepth 100000 in
theorem m_make {l : Launch} {h : MH} {Q : Option Value → MH → Prop} {tr : Int64} {ty tx : Nat → Int32} {w : Nat → Int} {B : Nat → Nat → Int} {i x : Int} (H : R9 h tr ty tx w B) (ri : rg i) (rx : (0 ≤ x ∧ x ≤ 1))  (k : ∀ (h1 : MH) (tr1 : Int64) (w1 : Nat → Int) (B1 : Nat → Nat → Int) (r : Int), (rg r) → R9 h1 tr1 ty tx w1 B1 → AgA w B w1 B1 → Sm [50, 51, 52, 53, 54, 55, 56, 57, 58, 59, 60, 61, 62, 63, 64, 65, 66, 67, 68, 69, 70] h h1 → Q (some (.int (iZ r))) h1) : Go l mX9_make 0 [some (.ref 50), some (.int (iZ i)), some (.int (iZ x)), none] [] h Q := by
  have n0 := H.2.2.1.2.1
  refine g_iload_n 1 dX9_make_0 rfl rfl ?_
  refine g_callS (z := mX9_isText) (As := [.int (iZ i)]) 4 dX9_make_1 mwX9_isText ⟨by decide, by decide⟩ rfl wlX9_81 wtX9_isText rfl (nle rfl) (nle rfl) rfl ?_
  refine n_isText  ri (fun z1 rz1 => ?_)
  refine rI ?_
  refine g_ifZ_ne 9 7 dX9_make_4 rfl rfl (rg01 (by omega)) (fun c2 => ?_) (fun c2 => ?_)
  · refine g_iload_n 10 dX9_make_9 rfl rfl ?_
    refine g_ifZ_ne 23 13 dX9_make_10 rfl rfl (by omega) (fun c3 => ?_) (fun c3 => ?_)
    · refine g_aload_n 24 dX9_make_23 rfl rfl ?_
      refine g_iload_n 25 dX9_make_24 rfl rfl ?_
      refine g_bipush (v := iZ (12)) 27 dX9_make_25 (by decide +kernel) rfl ?_
      obtain ⟨F50_4, ⟨F51_4, F52_4, F53_4, F54_4, F55_4, F56_4, F57_4, F58_4, F59_4, F60_4, F61_4, F62_4, F63_4, F64_4, F65_4, F66_4, F67_4, F68_4, F69_4, F70_4⟩, ⟨r2_4, r5_4, r13_4, r14_4, r15_4, r16_4, r17_4, r18_4, r19_4, r20_4, r25_4, r26_4, r27_4, r28_4, r29_4, r30_4, r31_4, r35_4⟩, ⟨o53_4, o54_4, o55_4, o56_4, o57_4, o58_4, o59_4, o60_4, o61_4, o62_4, o63_4, o64_4, o65_4, o66_4, o67_4, o68_4, o69_4, o70_4⟩, hT_4⟩ := id H
      refine g_callV (z := mX9_readNames) (As := [.int (iZ i), .int (iZ 12)]) 30 dX9_make_27 mwX9_readNames ⟨by decide, by decide⟩ rfl wlX9_164 wiX9_readNames wsX9_readNames F50_4 rfl rfl rfl (nle rfl) (nle rfl) rfl ?_
      refine m_rn H (by omega) (fun h7 w8 B9 z5 rz5 p6 H10 a11 s12 => ?_)
      have e13 := a11.1
      have n14 := H10.2.2.1.2.1
      refine rI ?_
      refine g_istore_n (L1 := [some (.ref 50), some (.int (iZ i)), some (.int (iZ x)), some (.int (iZ z5))]) 31 dX9_make_30 (by decide) rfl rfl rfl ?_
      refine g_iload_n 32 dX9_make_31 rfl rfl ?_
      refine g_bipush (v := iZ (-9)) 34 dX9_make_32 (by decide +kernel) rfl ?_
      refine g_icZ_eq 42 37 dX9_make_34 rfl rfl (by omega) (by decide) (fun c15 => ?_) (fun c15 => ?_)
      · refine g_aload_n 43 dX9_make_42 rfl rfl ?_
        obtain ⟨F50_16, ⟨F51_16, F52_16, F53_16, F54_16, F55_16, F56_16, F57_16, F58_16, F59_16, F60_16, F61_16, F62_16, F63_16, F64_16, F65_16, F66_16, F67_16, F68_16, F69_16, F70_16⟩, ⟨r2_16, r5_16, r13_16, r14_16, r15_16, r16_16, r17_16, r18_16, r19_16, r20_16, r25_16, r26_16, r27_16, r28_16, r29_16, r30_16, r31_16, r35_16⟩, ⟨o53_16, o54_16, o55_16, o56_16, o57_16, o58_16, o59_16, o60_16, o61_16, o62_16, o63_16, o64_16, o65_16, o66_16, o67_16, o68_16, o69_16, o70_16⟩, hT_16⟩ := id H10
        refine g_get 46 dX9_make_43 faX9_85_X9 F50_16 rfl rfl ?_
        refine g_bipush (v := iZ (12)) 48 dX9_make_46 (by decide +kernel) rfl ?_
        refine g_icZ_ne 54 51 dX9_make_48 rfl rfl (by omega) (by decide) (fun c17 => ?_) (fun c17 => ?_)
        · refine g_aload_n 55 dX9_make_54 rfl rfl ?_
          refine g_bipush (v := iZ (12)) 57 dX9_make_55 (by decide +kernel) rfl ?_
          refine g_aload_n 58 dX9_make_57 rfl rfl ?_
          refine g_get 61 dX9_make_58 faX9_85_X9 F50_16 rfl rfl ?_
          refine g_callV (z := mX9_move) (As := [.int (iZ 12), .int (iZ (w8 5))]) 64 dX9_make_61 mwX9_move ⟨by decide, by decide⟩ rfl wlX9_167 wiX9_move wsX9_move F50_16 rfl rfl rfl (nle rfl) (nle rfl) rfl ?_
          refine m_moveT H10 (by omega) ((p6 c15).1) (fun h18 B19 H20 a21 g22 s23 => ?_)
          refine rV ?_
          refine g_aload_n 65 dX9_make_64 rfl rfl ?_
          refine g_iload_n 66 dX9_make_65 rfl rfl ?_
          refine g_iload_n 67 dX9_make_66 rfl rfl ?_
          refine g_bipush (v := iZ (-9)) 69 dX9_make_67 (by decide +kernel) rfl ?_
          obtain ⟨F50_24, ⟨F51_24, F52_24, F53_24, F54_24, F55_24, F56_24, F57_24, F58_24, F59_24, F60_24, F61_24, F62_24, F63_24, F64_24, F65_24, F66_24, F67_24, F68_24, F69_24, F70_24⟩, ⟨r2_24, r5_24, r13_24, r14_24, r15_24, r16_24, r17_24, r18_24, r19_24, r20_24, r25_24, r26_24, r27_24, r28_24, r29_24, r30_24, r31_24, r35_24⟩, ⟨o53_24, o54_24, o55_24, o56_24, o57_24, o58_24, o59_24, o60_24, o61_24, o62_24, o63_24, o64_24, o65_24, o66_24, o67_24, o68_24, o69_24, o70_24⟩, hT_24⟩ := id H20
          refine g_callV (z := mX9_newTool) (As := [.int (iZ x), .int (iZ i), .int (iZ (-9))]) 72 dX9_make_69 mwX9_newTool ⟨by decide, by decide⟩ rfl wlX9_171 wiX9_newTool wsX9_newTool F50_24 rfl rfl rfl (nle rfl) (nle rfl) rfl ?_
          refine m_newT H20 (by omega) g22 (by omega) (by omega) (by omega) (by omega) (fun h25 w26 B27 H28 a29 s30 => ?_)
          refine rI ?_
          refine g_iret rfl dX9_make_72 ?_
          exact k _ _ _ _ (w8 5) (by omega) H28 ((a11.A.tr a21).tr a29) ((((Sm.refl [50, 51, 52, 53, 54, 55, 56, 57, 58, 59, 60, 61, 62, 63, 64, 65, 66, 67, 68, 69, 70] _).tr s12 (fun _ q => q) (by simp)).tr s23 (fun _ q => q) (by simp)).tr s30 (fun _ q => q) (by simp))
        · refine g_bipush (v := iZ (-3)) 53 dX9_make_51 (by decide +kernel) rfl ?_
          refine g_iret rfl dX9_make_53 ?_
          exact k _ _ _ _ (-3) (by decide) H10 a11.A ((Sm.refl [50, 51, 52, 53, 54, 55, 56, 57, 58, 59, 60, 61, 62, 63, 64, 65, 66, 67, 68, 69, 70] _).tr s12 (fun _ q => q) (by simp))
      · refine g_bipush (v := iZ (-10)) 39 dX9_make_37 (by decide +kernel) rfl ?_
        refine g_iload_n 40 dX9_make_39 rfl rfl ?_
        refine g_isubZ ((-10) - z5) 41 dX9_make_40 (by omega) rfl ?_
        refine g_iret rfl dX9_make_41 ?_
        exact k _ _ _ _ ((-10) - z5) (by omega) H10 a11.A ((Sm.refl [50, 51, 52, 53, 54, 55, 56, 57, 58, 59, 60, 61, 62, 63, 64, 65, 66, 67, 68, 69, 70] _).tr s12 (fun _ q => q) (by simp))
    · refine g_aload_n 14 dX9_make_13 rfl rfl ?_
      refine g_iload_n 15 dX9_make_14 rfl rfl ?_
      refine g_bipush (v := iZ (12)) 17 dX9_make_15 (by decide +kernel) rfl ?_
      obtain ⟨F50_31, ⟨F51_31, F52_31, F53_31, F54_31, F55_31, F56_31, F57_31, F58_31, F59_31, F60_31, F61_31, F62_31, F63_31, F64_31, F65_31, F66_31, F67_31, F68_31, F69_31, F70_31⟩, ⟨r2_31, r5_31, r13_31, r14_31, r15_31, r16_31, r17_31, r18_31, r19_31, r20_31, r25_31, r26_31, r27_31, r28_31, r29_31, r30_31, r31_31, r35_31⟩, ⟨o53_31, o54_31, o55_31, o56_31, o57_31, o58_31, o59_31, o60_31, o61_31, o62_31, o63_31, o64_31, o65_31, o66_31, o67_31, o68_31, o69_31, o70_31⟩, hT_31⟩ := id H
      refine g_callV (z := mX9_readPairs) (As := [.int (iZ i), .int (iZ 12)]) 20 dX9_make_17 mwX9_readPairs ⟨by decide, by decide⟩ rfl wlX9_161 wiX9_readPairs wsX9_readPairs F50_31 rfl rfl rfl (nle rfl) (nle rfl) rfl ?_
      refine m_rp H (by omega) (fun h34 w35 B36 z32 rz32 p33 H37 a38 s39 => ?_)
      have e40 := a38.1
      have n41 := H37.2.2.1.2.1
      refine rI ?_
      refine g_goto 30 dX9_make_20 rfl ?_
      refine g_istore_n (L1 := [some (.ref 50), some (.int (iZ i)), some (.int (iZ x)), some (.int (iZ z32))]) 31 dX9_make_30 (by decide) rfl rfl rfl ?_
      refine g_iload_n 32 dX9_make_31 rfl rfl ?_
      refine g_bipush (v := iZ (-9)) 34 dX9_make_32 (by decide +kernel) rfl ?_
      refine g_icZ_eq 42 37 dX9_make_34 rfl rfl (by omega) (by decide) (fun c42 => ?_) (fun c42 => ?_)
      · refine g_aload_n 43 dX9_make_42 rfl rfl ?_
        obtain ⟨F50_43, ⟨F51_43, F52_43, F53_43, F54_43, F55_43, F56_43, F57_43, F58_43, F59_43, F60_43, F61_43, F62_43, F63_43, F64_43, F65_43, F66_43, F67_43, F68_43, F69_43, F70_43⟩, ⟨r2_43, r5_43, r13_43, r14_43, r15_43, r16_43, r17_43, r18_43, r19_43, r20_43, r25_43, r26_43, r27_43, r28_43, r29_43, r30_43, r31_43, r35_43⟩, ⟨o53_43, o54_43, o55_43, o56_43, o57_43, o58_43, o59_43, o60_43, o61_43, o62_43, o63_43, o64_43, o65_43, o66_43, o67_43, o68_43, o69_43, o70_43⟩, hT_43⟩ := id H37
        refine g_get 46 dX9_make_43 faX9_85_X9 F50_43 rfl rfl ?_
        refine g_bipush (v := iZ (12)) 48 dX9_make_46 (by decide +kernel) rfl ?_
        refine g_icZ_ne 54 51 dX9_make_48 rfl rfl (by omega) (by decide) (fun c44 => ?_) (fun c44 => ?_)
        · refine g_aload_n 55 dX9_make_54 rfl rfl ?_
          refine g_bipush (v := iZ (12)) 57 dX9_make_55 (by decide +kernel) rfl ?_
          refine g_aload_n 58 dX9_make_57 rfl rfl ?_
          refine g_get 61 dX9_make_58 faX9_85_X9 F50_43 rfl rfl ?_
          refine g_callV (z := mX9_move) (As := [.int (iZ 12), .int (iZ (w35 5))]) 64 dX9_make_61 mwX9_move ⟨by decide, by decide⟩ rfl wlX9_167 wiX9_move wsX9_move F50_43 rfl rfl rfl (nle rfl) (nle rfl) rfl ?_
          refine m_moveT H37 (by omega) ((p33 c42).1) (fun h45 B46 H47 a48 g49 s50 => ?_)
          refine rV ?_
          refine g_aload_n 65 dX9_make_64 rfl rfl ?_
          refine g_iload_n 66 dX9_make_65 rfl rfl ?_
          refine g_iload_n 67 dX9_make_66 rfl rfl ?_
          refine g_bipush (v := iZ (-9)) 69 dX9_make_67 (by decide +kernel) rfl ?_
          obtain ⟨F50_51, ⟨F51_51, F52_51, F53_51, F54_51, F55_51, F56_51, F57_51, F58_51, F59_51, F60_51, F61_51, F62_51, F63_51, F64_51, F65_51, F66_51, F67_51, F68_51, F69_51, F70_51⟩, ⟨r2_51, r5_51, r13_51, r14_51, r15_51, r16_51, r17_51, r18_51, r19_51, r20_51, r25_51, r26_51, r27_51, r28_51, r29_51, r30_51, r31_51, r35_51⟩, ⟨o53_51, o54_51, o55_51, o56_51, o57_51, o58_51, o59_51, o60_51, o61_51, o62_51, o63_51, o64_51, o65_51, o66_51, o67_51, o68_51, o69_51, o70_51⟩, hT_51⟩ := id H47
          refine g_callV (z := mX9_newTool) (As := [.int (iZ x), .int (iZ i), .int (iZ (-9))]) 72 dX9_make_69 mwX9_newTool ⟨by decide, by decide⟩ rfl wlX9_171 wiX9_newTool wsX9_newTool F50_51 rfl rfl rfl (nle rfl) (nle rfl) rfl ?_
          refine m_newT H47 (by omega) g49 (by omega) (by omega) (by omega) (by omega) (fun h52 w53 B54 H55 a56 s57 => ?_)
          refine rI ?_
          refine g_iret rfl dX9_make_72 ?_
          exact k _ _ _ _ (w35 5) (by omega) H55 ((a38.A.tr a48).tr a56) ((((Sm.refl [50, 51, 52, 53, 54, 55, 56, 57, 58, 59, 60, 61, 62, 63, 64, 65, 66, 67, 68, 69, 70] _).tr s39 (fun _ q => q) (by simp)).tr s50 (fun _ q => q) (by simp)).tr s57 (fun _ q => q) (by simp))
        · refine g_bipush (v := iZ (-3)) 53 dX9_make_51 (by decide +kernel) rfl ?_
          refine g_iret rfl dX9_make_53 ?_
          exact k _ _ _ _ (-3) (by decide) H37 a38.A ((Sm.refl [50, 51, 52, 53, 54, 55, 56, 57, 58, 59, 60, 61, 62, 63, 64, 65, 66, 67, 68, 69, 70] _).tr s39 (fun _ q => q) (by simp))
      · refine g_bipush (v := iZ (-10)) 39 dX9_make_37 (by decide +kernel) rfl ?_
        refine g_iload_n 40 dX9_make_39 rfl rfl ?_
        refine g_isubZ ((-10) - z32) 41 dX9_make_40 (by omega) rfl ?_
        refine g_iret rfl dX9_make_41 ?_
        exact k _ _ _ _ ((-10) - z32) (by omega) H37 a38.A ((Sm.refl [50, 51, 52, 53, 54, 55, 56, 57, 58, 59, 60, 61, 62, 63, 64, 65, 66, 67, 68, 69, 70] _).tr s39 (fun _ q => q) (by simp))
  · refine g_iconst (v := iZ (-1)) 8 dX9_make_7 rfl rfl ?_
    refine g_iret rfl dX9_make_8 ?_
    exact k _ _ _ _ (-1) (by decide) H (AgA.refl _ _) (Sm.refl [50, 51, 52, 53, 54, 55, 56, 57, 58, 59, 60, 61, 62, 63, 64, 65, 66, 67, 68, 69, 70] _)
set_option maxRecDepth 100000 in
theorem m_pairs {l : Launch} {h : MH} {Q : Option Value → MH → Prop} {tr : Int64} {ty tx : Nat → Int32} {w : Nat → Int} {B : Nat → Nat → Int} {i : Int} (H : R9 h tr ty tx w B) (ri : rg i)  (k : ∀ (h1 : MH) (tr1 : Int64) (w1 : Nat → Int) (B1 : Nat → Nat → Int) (r : Int), (rg r) → R9 h1 tr1 ty tx w1 B1 → AgA w B w1 B1 → Sm [50, 51, 52, 53, 54, 55, 56, 57, 58, 59, 60, 61, 62, 63, 64, 65, 66, 67, 68, 69, 70] h h1 → Q (some (.int (iZ r))) h1) : Go l mX9_pairs 0 [some (.ref 50), some (.int (iZ i))] [] h Q := by
  have n0 := H.2.2.1.2.1
  refine g_aload_n 1 dX9_pairs_0 rfl rfl ?_
  refine g_iload_n 2 dX9_pairs_1 rfl rfl ?_
  refine g_iconst (v := iZ (0)) 3 dX9_pairs_2 rfl rfl ?_
  obtain ⟨F50_1, ⟨F51_1, F52_1, F53_1, F54_1, F55_1, F56_1, F57_1, F58_1, F59_1, F60_1, F61_1, F62_1, F63_1, F64_1, F65_1, F66_1, F67_1, F68_1, F69_1, F70_1⟩, ⟨r2_1, r5_1, r13_1, r14_1, r15_1, r16_1, r17_1, r18_1, r19_1, r20_1, r25_1, r26_1, r27_1, r28_1, r29_1, r30_1, r31_1, r35_1⟩, ⟨o53_1, o54_1, o55_1, o56_1, o57_1, o58_1, o59_1, o60_1, o61_1, o62_1, o63_1, o64_1, o65_1, o66_1, o67_1, o68_1, o69_1, o70_1⟩, hT_1⟩ := id H
  refine g_callV (z := mX9_make) (As := [.int (iZ i), .int (iZ 0)]) 6 dX9_pairs_3 mwX9_make ⟨by decide, by decide⟩ rfl wlX9_175 wiX9_make wsX9_make F50_1 rfl rfl rfl (nle rfl) (nle rfl) rfl ?_
  refine m_make H ri (by omega) (fun h3 t4 w5 B6 z2 rz2 H7 a8 s9 => ?_)
  refine rI ?_
  refine g_iret rfl dX9_pairs_6 ?_
  exact k _ _ _ _ (z2) rz2 H7 a8 ((Sm.refl [50, 51, 52, 53, 54, 55, 56, 57, 58, 59, 60, 61, 62, 63, 64, 65, 66, 67, 68, 69, 70] _).tr s9 (fun _ q => q) (by simp))
set_option maxRecDepth 100000 in
theorem m_named {l : Launch} {h : MH} {Q : Option Value → MH → Prop} {tr : Int64} {ty tx : Nat → Int32} {w : Nat → Int} {B : Nat → Nat → Int} {i : Int} (H : R9 h tr ty tx w B) (ri : rg i)  (k : ∀ (h1 : MH) (tr1 : Int64) (w1 : Nat → Int) (B1 : Nat → Nat → Int) (r : Int), (rg r) → R9 h1 tr1 ty tx w1 B1 → AgA w B w1 B1 → Sm [50, 51, 52, 53, 54, 55, 56, 57, 58, 59, 60, 61, 62, 63, 64, 65, 66, 67, 68, 69, 70] h h1 → Q (some (.int (iZ r))) h1) : Go l mX9_named 0 [some (.ref 50), some (.int (iZ i))] [] h Q := by
  have n0 := H.2.2.1.2.1
  refine g_aload_n 1 dX9_named_0 rfl rfl ?_
  refine g_iload_n 2 dX9_named_1 rfl rfl ?_
  refine g_iconst (v := iZ (1)) 3 dX9_named_2 rfl rfl ?_
  obtain ⟨F50_1, ⟨F51_1, F52_1, F53_1, F54_1, F55_1, F56_1, F57_1, F58_1, F59_1, F60_1, F61_1, F62_1, F63_1, F64_1, F65_1, F66_1, F67_1, F68_1, F69_1, F70_1⟩, ⟨r2_1, r5_1, r13_1, r14_1, r15_1, r16_1, r17_1, r18_1, r19_1, r20_1, r25_1, r26_1, r27_1, r28_1, r29_1, r30_1, r31_1, r35_1⟩, ⟨o53_1, o54_1, o55_1, o56_1, o57_1, o58_1, o59_1, o60_1, o61_1, o62_1, o63_1, o64_1, o65_1, o66_1, o67_1, o68_1, o69_1, o70_1⟩, hT_1⟩ := id H
  refine g_callV (z := mX9_make) (As := [.int (iZ i), .int (iZ 1)]) 6 dX9_named_3 mwX9_make ⟨by decide, by decide⟩ rfl wlX9_175 wiX9_make wsX9_make F50_1 rfl rfl rfl (nle rfl) (nle rfl) rfl ?_
  refine m_make H ri (by omega) (fun h3 t4 w5 B6 z2 rz2 H7 a8 s9 => ?_)
  refine rI ?_
  refine g_iret rfl dX9_named_6 ?_
  exact k _ _ _ _ (z2) rz2 H7 a8 ((Sm.refl [50, 51, 52, 53, 54, 55, 56, 57, 58, 59, 60, 61, 62, 63, 64, 65, 66, 67, 68, 69, 70] _).tr s9 (fun _ q => q) (by simp))
set_option maxRecDepth 100000 in
theorem m_build {l : Launch} {h : MH} {Q : Option Value → MH → Prop} {tr : Int64} {ty tx : Nat → Int32} {w : Nat → Int} {B : Nat → Nat → Int} {t i : Int} (H : R9 h tr ty tx w B) (rt : rg t) (ri : rg i)  (k : ∀ (h1 : MH) (tr1 : Int64) (w1 : Nat → Int) (B1 : Nat → Nat → Int) (r : Int), (rg r) → R9 h1 tr1 ty tx w1 B1 → AgA w B w1 B1 → Sm [50, 51, 52, 53, 54, 55, 56, 57, 58, 59, 60, 61, 62, 63, 64, 65, 66, 67, 68, 69, 70] h h1 → Q (some (.int (iZ r))) h1) : Go l mX9_build 0 [some (.ref 50), some (.int (iZ t)), some (.int (iZ i))] [] h Q := by
  have n0 := H.2.2.1.2.1
  refine g_aload_n 1 dX9_build_0 rfl rfl ?_
  refine g_iload_n 2 dX9_build_1 rfl rfl ?_
  obtain ⟨F50_1, ⟨F51_1, F52_1, F53_1, F54_1, F55_1, F56_1, F57_1, F58_1, F59_1, F60_1, F61_1, F62_1, F63_1, F64_1, F65_1, F66_1, F67_1, F68_1, F69_1, F70_1⟩, ⟨r2_1, r5_1, r13_1, r14_1, r15_1, r16_1, r17_1, r18_1, r19_1, r20_1, r25_1, r26_1, r27_1, r28_1, r29_1, r30_1, r31_1, r35_1⟩, ⟨o53_1, o54_1, o55_1, o56_1, o57_1, o58_1, o59_1, o60_1, o61_1, o62_1, o63_1, o64_1, o65_1, o66_1, o67_1, o68_1, o69_1, o70_1⟩, hT_1⟩ := id H
  refine g_callV (z := mX9_isTool) (As := [.int (iZ t)]) 5 dX9_build_2 mwX9_isTool ⟨by decide, by decide⟩ rfl wlX9_178 wiX9_isTool wsX9_isTool F50_1 rfl rfl rfl (nle rfl) (nle rfl) rfl ?_
  refine m_isTool H rt (fun z2 rz2 => ?_)
  refine rI ?_
  refine g_ifZ_eq 15 8 dX9_build_5 rfl rfl (rg01 (by omega)) (fun c3 => ?_) (fun c3 => ?_)
  · refine g_iconst (v := iZ (-1)) 16 dX9_build_15 rfl rfl ?_
    refine g_iret rfl dX9_build_16 ?_
    exact k _ _ _ _ (-1) (by decide) H (AgA.refl _ _) (Sm.refl [50, 51, 52, 53, 54, 55, 56, 57, 58, 59, 60, 61, 62, 63, 64, 65, 66, 67, 68, 69, 70] _)
  · refine g_iload_n 9 dX9_build_8 rfl rfl ?_
    refine g_callS (z := mX9_isText) (As := [.int (iZ i)]) 12 dX9_build_9 mwX9_isText ⟨by decide, by decide⟩ rfl wlX9_81 wtX9_isText rfl (nle rfl) (nle rfl) rfl ?_
    refine n_isText  ri (fun z4 rz4 => ?_)
    refine rI ?_
    refine g_ifZ_ne 17 15 dX9_build_12 rfl rfl (rg01 (by omega)) (fun c5 => ?_) (fun c5 => ?_)
    · refine g_aload_n 18 dX9_build_17 rfl rfl ?_
      refine g_iload_n 19 dX9_build_18 rfl rfl ?_
      refine g_iload_n 20 dX9_build_19 rfl rfl ?_
      refine g_bipush (v := iZ (12)) 22 dX9_build_20 (by decide +kernel) rfl ?_
      refine g_callV (z := mX9_builds) (As := [.int (iZ t), .int (iZ i), .int (iZ 12)]) 25 dX9_build_22 mwX9_builds ⟨by decide, by decide⟩ rfl wlX9_211 wiX9_builds wsX9_builds F50_1 rfl rfl rfl (nle rfl) (nle rfl) rfl ?_
      refine m_blds H (by omega) (by omega) (by omega) ((H.2.2.2.2.2 _ (by omega) (by omega)).1) (fun h9 w10 B11 z6 rz6 p7 p8 H12 a13 s14 => ?_)
      have e15 := a13.1
      have n16 := H12.2.2.1.2.1
      refine rI ?_
      refine g_ifZ_eq 31 28 dX9_build_25 rfl rfl (by omega) (fun c17 => ?_) (fun c17 => ?_)
      · refine g_aload_n 32 dX9_build_31 rfl rfl ?_
        obtain ⟨F50_18, ⟨F51_18, F52_18, F53_18, F54_18, F55_18, F56_18, F57_18, F58_18, F59_18, F60_18, F61_18, F62_18, F63_18, F64_18, F65_18, F66_18, F67_18, F68_18, F69_18, F70_18⟩, ⟨r2_18, r5_18, r13_18, r14_18, r15_18, r16_18, r17_18, r18_18, r19_18, r20_18, r25_18, r26_18, r27_18, r28_18, r29_18, r30_18, r31_18, r35_18⟩, ⟨o53_18, o54_18, o55_18, o56_18, o57_18, o58_18, o59_18, o60_18, o61_18, o62_18, o63_18, o64_18, o65_18, o66_18, o67_18, o68_18, o69_18, o70_18⟩, hT_18⟩ := id H12
        refine g_get 35 dX9_build_32 faX9_85_X9 F50_18 rfl rfl ?_
        refine g_bipush (v := iZ (12)) 37 dX9_build_35 (by decide +kernel) rfl ?_
        refine g_icZ_ne 43 40 dX9_build_37 rfl rfl (by omega) (by decide) (fun c19 => ?_) (fun c19 => ?_)
        · refine g_aload_n 44 dX9_build_43 rfl rfl ?_
          refine g_bipush (v := iZ (12)) 46 dX9_build_44 (by decide +kernel) rfl ?_
          refine g_aload_n 47 dX9_build_46 rfl rfl ?_
          refine g_get 50 dX9_build_47 faX9_85_X9 F50_18 rfl rfl ?_
          refine g_callV (z := mX9_move) (As := [.int (iZ 12), .int (iZ (w10 5))]) 53 dX9_build_50 mwX9_move ⟨by decide, by decide⟩ rfl wlX9_167 wiX9_move wsX9_move F50_18 rfl rfl rfl (nle rfl) (nle rfl) rfl ?_
          refine m_moveT H12 (by omega) ((p7 c17).1) (fun h20 B21 H22 a23 g24 s25 => ?_)
          refine rV ?_
          refine g_aload_n 54 dX9_build_53 rfl rfl ?_
          refine g_iconst (v := iZ (2)) 55 dX9_build_54 rfl rfl ?_
          refine g_iload_n 56 dX9_build_55 rfl rfl ?_
          refine g_iload_n 57 dX9_build_56 rfl rfl ?_
          obtain ⟨F50_26, ⟨F51_26, F52_26, F53_26, F54_26, F55_26, F56_26, F57_26, F58_26, F59_26, F60_26, F61_26, F62_26, F63_26, F64_26, F65_26, F66_26, F67_26, F68_26, F69_26, F70_26⟩, ⟨r2_26, r5_26, r13_26, r14_26, r15_26, r16_26, r17_26, r18_26, r19_26, r20_26, r25_26, r26_26, r27_26, r28_26, r29_26, r30_26, r31_26, r35_26⟩, ⟨o53_26, o54_26, o55_26, o56_26, o57_26, o58_26, o59_26, o60_26, o61_26, o62_26, o63_26, o64_26, o65_26, o66_26, o67_26, o68_26, o69_26, o70_26⟩, hT_26⟩ := id H22
          refine g_callV (z := mX9_newTool) (As := [.int (iZ 2), .int (iZ i), .int (iZ t)]) 60 dX9_build_57 mwX9_newTool ⟨by decide, by decide⟩ rfl wlX9_171 wiX9_newTool wsX9_newTool F50_26 rfl rfl rfl (nle rfl) (nle rfl) rfl ?_
          refine m_newT H22 (by omega) g24 (by decide) (by omega) (by omega) (by omega) (fun h27 w28 B29 H30 a31 s32 => ?_)
          refine rI ?_
          refine g_iret rfl dX9_build_60 ?_
          exact k _ _ _ _ (w10 5) (by omega) H30 ((a13.A.tr a23).tr a31) ((((Sm.refl [50, 51, 52, 53, 54, 55, 56, 57, 58, 59, 60, 61, 62, 63, 64, 65, 66, 67, 68, 69, 70] _).tr s14 (fun _ q => q) (by simp)).tr s25 (fun _ q => q) (by simp)).tr s32 (fun _ q => q) (by simp))
        · refine g_bipush (v := iZ (-3)) 42 dX9_build_40 (by decide +kernel) rfl ?_
          refine g_iret rfl dX9_build_42 ?_
          exact k _ _ _ _ (-3) (by decide) H12 a13.A ((Sm.refl [50, 51, 52, 53, 54, 55, 56, 57, 58, 59, 60, 61, 62, 63, 64, 65, 66, 67, 68, 69, 70] _).tr s14 (fun _ q => q) (by simp))
      · refine g_bipush (v := iZ (-2)) 30 dX9_build_28 (by decide +kernel) rfl ?_
        refine g_iret rfl dX9_build_30 ?_
        exact k _ _ _ _ (-2) (by decide) H12 a13.A ((Sm.refl [50, 51, 52, 53, 54, 55, 56, 57, 58, 59, 60, 61, 62, 63, 64, 65, 66, 67, 68, 69, 70] _).tr s14 (fun _ q => q) (by simp))
    · refine g_iconst (v := iZ (-1)) 16 dX9_build_15 rfl rfl ?_
      refine g_iret rfl dX9_build_16 ?_
      exact k _ _ _ _ (-1) (by decide) H (AgA.refl _ _) (Sm.refl [50, 51, 52, 53, 54, 55, 56, 57, 58, 59, 60, 61, 62, 63, 64, 65, 66, 67, 68, 69, 70] _)
set_option maxRecDepth 100000 in
theorem m_check {l : Launch} {h : MH} {Q : Option Value → MH → Prop} {tr : Int64} {ty tx : Nat → Int32} {w : Nat → Int} {B : Nat → Nat → Int} {t x : Int} (H : R9 h tr ty tx w B) (rt : rg t) (rx : rg x)  (k : ∀ (h1 : MH) (tr1 : Int64) (w1 : Nat → Int) (B1 : Nat → Nat → Int) (r : Int), (rg r) → R9 h1 tr1 ty tx w1 B1 → AgA w B w1 B1 → Sm [50, 51, 52, 53, 54, 55, 56, 57, 58, 59, 60, 61, 62, 63, 64, 65, 66, 67, 68, 69, 70] h h1 → Q (some (.int (iZ r))) h1) : Go l mX9_check 0 [some (.ref 50), some (.int (iZ t)), some (.int (iZ x)), none] [] h Q := by
  have n0 := H.2.2.1.2.1
  refine g_aload_n 1 dX9_check_0 rfl rfl ?_
  refine g_iload_n 2 dX9_check_1 rfl rfl ?_
  obtain ⟨F50_1, ⟨F51_1, F52_1, F53_1, F54_1, F55_1, F56_1, F57_1, F58_1, F59_1, F60_1, F61_1, F62_1, F63_1, F64_1, F65_1, F66_1, F67_1, F68_1, F69_1, F70_1⟩, ⟨r2_1, r5_1, r13_1, r14_1, r15_1, r16_1, r17_1, r18_1, r19_1, r20_1, r25_1, r26_1, r27_1, r28_1, r29_1, r30_1, r31_1, r35_1⟩, ⟨o53_1, o54_1, o55_1, o56_1, o57_1, o58_1, o59_1, o60_1, o61_1, o62_1, o63_1, o64_1, o65_1, o66_1, o67_1, o68_1, o69_1, o70_1⟩, hT_1⟩ := id H
  refine g_callV (z := mX9_isTool) (As := [.int (iZ t)]) 5 dX9_check_2 mwX9_isTool ⟨by decide, by decide⟩ rfl wlX9_178 wiX9_isTool wsX9_isTool F50_1 rfl rfl rfl (nle rfl) (nle rfl) rfl ?_
  refine m_isTool H rt (fun z2 rz2 => ?_)
  refine rI ?_
  refine g_ifZ_eq 17 8 dX9_check_5 rfl rfl (rg01 (by omega)) (fun c3 => ?_) (fun c3 => ?_)
  · refine g_iconst (v := iZ (-1)) 18 dX9_check_17 rfl rfl ?_
    refine g_iret rfl dX9_check_18 ?_
    exact k _ _ _ _ (-1) (by decide) H (AgA.refl _ _) (Sm.refl [50, 51, 52, 53, 54, 55, 56, 57, 58, 59, 60, 61, 62, 63, 64, 65, 66, 67, 68, 69, 70] _)
  · refine g_iload_n 9 dX9_check_8 rfl rfl ?_
    refine g_iconst (v := iZ (0)) 10 dX9_check_9 rfl rfl ?_
    refine g_iconst (v := iZ (1)) 11 dX9_check_10 rfl rfl ?_
    refine g_callS (z := mX9_in) (As := [.int (iZ x), .int (iZ 0), .int (iZ 1)]) 14 dX9_check_11 mwX9_in ⟨by decide, by decide⟩ rfl wlX9_75 wtX9_in rfl (nle rfl) (nle rfl) rfl ?_
    refine n_in  rx (by decide) (by decide) (fun z4 rz4 => ?_)
    refine rI ?_
    refine g_ifZ_ne 19 17 dX9_check_14 rfl rfl (rg01 (by omega)) (fun c5 => ?_) (fun c5 => ?_)
    · refine g_aload_n 20 dX9_check_19 rfl rfl ?_
      refine g_get 23 dX9_check_20 faX9_29_X9 F50_1 rfl rfl ?_
      refine g_iload_n 24 dX9_check_23 rfl rfl ?_
      refine g_ialdZ (v := iZ ((B 57) t.toNat)) 25 dX9_check_24 F57_1 (by omega) (by omega) (by decide) rfl rfl ?_
      refine g_ifZ_eq 31 28 dX9_check_25 rfl rfl (o57_1 _) (fun c6 => ?_) (fun c6 => ?_)
      · refine g_aload_n 32 dX9_check_31 rfl rfl ?_
        refine g_get 35 dX9_check_32 faX9_38_X9 F50_1 rfl rfl ?_
        refine g_iload_n 36 dX9_check_35 rfl rfl ?_
        refine g_ialdZ (v := iZ ((B 60) t.toNat)) 37 dX9_check_36 F60_1 (by omega) (by omega) (by decide) rfl rfl ?_
        refine g_istore_n (L1 := [some (.ref 50), some (.int (iZ t)), some (.int (iZ x)), some (.int (iZ ((B 60) t.toNat)))]) 38 dX9_check_37 (by decide) rfl rfl rfl ?_
        refine g_aload_n 39 dX9_check_38 rfl rfl ?_
        refine g_get 42 dX9_check_39 faX9_38_X9 F50_1 rfl rfl ?_
        refine g_iload_n 43 dX9_check_42 rfl rfl ?_
        refine g_iload_n 44 dX9_check_43 rfl rfl ?_
        refine g_iastFj (t.toNat) 45 dX9_check_44 F60_1 (by omega) (by omega) (by decide) rfl rfl (fun h7 s8 f9 => ?_)
        refine g_iload_n 46 dX9_check_45 rfl rfl ?_
        refine g_iret rfl dX9_check_46 ?_
        have f10 := (s8.get (by decide) F50_1)
        have f11 := (s8.get (by decide) F51_1)
        have f12 := (s8.get (by decide) F52_1)
        have f13 := (s8.get (by decide) F53_1)
        have f14 := (s8.get (by decide) F54_1)
        have f15 := (s8.get (by decide) F55_1)
        have f16 := (s8.get (by decide) F56_1)
        have f17 := (s8.get (by decide) F57_1)
        have f18 := (s8.get (by decide) F58_1)
        have f19 := (s8.get (by decide) F59_1)
        have f20 := (s8.get (by decide) F61_1)
        have f21 := (s8.get (by decide) F62_1)
        have f22 := (s8.get (by decide) F63_1)
        have f23 := (s8.get (by decide) F64_1)
        have f24 := (s8.get (by decide) F65_1)
        have f25 := (s8.get (by decide) F66_1)
        have f26 := (s8.get (by decide) F67_1)
        have f27 := (s8.get (by decide) F68_1)
        have f28 := (s8.get (by decide) F69_1)
        have f29 := (s8.get (by decide) F70_1)
        have H30 : R9 _ (tr) ty tx w (va_up B 60 (va_up (B 60) t.toNat x)) := ⟨f10, ⟨f11, f12, f13, f14, f15, f16, f17, f18, f19, f9, f20, f21, f22, f23, f24, f25, f26, f27, f28, f29⟩, ⟨r2_1, r5_1, r13_1, r14_1, r15_1, r16_1, r17_1, r18_1, r19_1, r20_1, r25_1, r26_1, r27_1, r28_1, r29_1, r30_1, r31_1, r35_1⟩, ⟨o53_1, o54_1, o55_1, o56_1, o57_1, o58_1, o59_1, (okr_up o60_1 _ rx), o61_1, o62_1, o63_1, o64_1, o65_1, o66_1, o67_1, o68_1, o69_1, o70_1⟩, H.2.2.2.2⟩
        have a31 : AgA w B w (va_up B 60 (va_up (B 60) t.toNat x)) := ⟨rfl, rfl, rfl, rfl, rfl⟩
        exact k _ _ _ _ ((B 60) t.toNat) (o60_1 _) H30 a31 ((Sm.refl [50, 51, 52, 53, 54, 55, 56, 57, 58, 59, 60, 61, 62, 63, 64, 65, 66, 67, 68, 69, 70] _).tr s8 (fun _ q => q) (by simp))
      · refine g_bipush (v := iZ (-2)) 30 dX9_check_28 (by decide +kernel) rfl ?_
        refine g_iret rfl dX9_check_30 ?_
        exact k _ _ _ _ (-2) (by decide) H (AgA.refl _ _) (Sm.refl [50, 51, 52, 53, 54, 55, 56, 57, 58, 59, 60, 61, 62, 63, 64, 65, 66, 67, 68, 69, 70] _)
    · refine g_iconst (v := iZ (-1)) 18 dX9_check_17 rfl rfl ?_
      refine g_iret rfl dX9_check_18 ?_
      exact k _ _ _ _ (-1) (by decide) H (AgA.refl _ _) (Sm.refl [50, 51, 52, 53, 54, 55, 56, 57, 58, 59, 60, 61, 62, 63, 64, 65, 66, 67, 68, 69, 70] _)
set_option maxRecDepth 100000 in
theorem m_weight_l {l : Launch} {Q : Option Value → MH → Prop} {ty tx : Nat → Int32} {x t : Int} (rx : rg x) (rt : rg t) : ∀ (m0 : Nat) (h : MH) (tr : Int64) (w : Nat → Int) (B : Nat → Nat → Int) (od : Int) (j : Int), (256 - j).toNat = m0 → R9 h tr ty tx w B → (rg od) → (0 ≤ t ∧ t < w 5) → (0 ≤ x ∧ x ≤ 5) → (0 ≤ j ∧ j ≤ 256) → (∀ (h1 : MH) (tr1 : Int64) (w1 : Nat → Int) (B1 : Nat → Nat → Int) (r : Int), (rg r) → R9 h1 tr1 ty tx w1 B1 → AgA w B w1 B1 → Sm [50, 51, 52, 53, 54, 55, 56, 57, 58, 59, 60, 61, 62, 63, 64, 65, 66, 67, 68, 69, 70] h h1 → Q (some (.int (iZ r))) h1) → Go l mX9_weight 24 [some (.ref 50), some (.int (iZ x)), some (.int (iZ t)), some (.int (iZ od)), some (.int (iZ j)), none] [] h Q := by
  intro m0
  induction m0 using Nat.strongRecOn with
  | ind m0 ih =>
    intro h tr w B od j hmz H rod ht hx hj k
    have n0 := H.2.2.1.2.1
    refine g_iload 26 dX9_weight_24 rfl rfl ?_
    refine g_aload_n 27 dX9_weight_26 rfl rfl ?_
    obtain ⟨F50_1, ⟨F51_1, F52_1, F53_1, F54_1, F55_1, F56_1, F57_1, F58_1, F59_1, F60_1, F61_1, F62_1, F63_1, F64_1, F65_1, F66_1, F67_1, F68_1, F69_1, F70_1⟩, ⟨r2_1, r5_1, r13_1, r14_1, r15_1, r16_1, r17_1, r18_1, r19_1, r20_1, r25_1, r26_1, r27_1, r28_1, r29_1, r30_1, r31_1, r35_1⟩, ⟨o53_1, o54_1, o55_1, o56_1, o57_1, o58_1, o59_1, o60_1, o61_1, o62_1, o63_1, o64_1, o65_1, o66_1, o67_1, o68_1, o69_1, o70_1⟩, hT_1⟩ := id H
    refine g_get 30 dX9_weight_27 faX9_26_X9 F50_1 rfl rfl ?_
    refine g_iload_n 31 dX9_weight_30 rfl rfl ?_
    have b2 := o56_1 ((t).toNat)
    refine g_ialdZ (v := iZ ((B 56) t.toNat)) 32 dX9_weight_31 F56_1 (by omega) (by omega) (by decide) rfl rfl ?_
    refine g_icZ_ge 67 35 dX9_weight_32 rfl rfl (by omega) (by omega) (fun c3 => ?_) (fun c3 => ?_)
    · refine g_aload_n 68 dX9_weight_67 rfl rfl ?_
      refine g_get 71 dX9_weight_68 faX9_26_X9 F50_1 rfl rfl ?_
      refine g_iload_n 72 dX9_weight_71 rfl rfl ?_
      have b4 := o56_1 ((t).toNat)
      refine g_ialdZ (v := iZ ((B 56) t.toNat)) 73 dX9_weight_72 F56_1 (by omega) (by omega) (by decide) rfl rfl ?_
      refine g_iconst (v := iZ (2)) 74 dX9_weight_73 rfl rfl ?_
      refine g_iload_n 75 dX9_weight_74 rfl rfl ?_
      refine g_imul 76 dX9_weight_75 rfl ?_
      refine Go.genZ (fun z5 rz5 => ?_)
      refine g_iadd 77 dX9_weight_76 rfl ?_
      refine Go.genZ (fun z6 rz6 => ?_)
      refine g_istore (L1 := [some (.ref 50), some (.int (iZ x)), some (.int (iZ t)), some (.int (iZ od)), some (.int (iZ z6)), none]) 79 dX9_weight_77 (by decide) rfl rfl rfl ?_
      refine g_iload 81 dX9_weight_79 rfl rfl ?_
      refine g_aload_n 82 dX9_weight_81 rfl rfl ?_
      refine g_iload_n 83 dX9_weight_82 rfl rfl ?_
      refine g_callV (z := mX9_lengthOf) (As := [.int (iZ t)]) 86 dX9_weight_83 mwX9_lengthOf ⟨by decide, by decide⟩ rfl wlX9_223 wiX9_lengthOf wsX9_lengthOf F50_1 rfl rfl rfl (nle rfl) (nle rfl) rfl ?_
      refine m_len H (by omega) (by omega) (fun z7 rz7  => ?_)
      refine rI ?_
      refine g_iadd 87 dX9_weight_86 rfl ?_
      refine Go.genZ (fun z8 rz8 => ?_)
      refine g_istore (L1 := [some (.ref 50), some (.int (iZ x)), some (.int (iZ t)), some (.int (iZ od)), some (.int (iZ z6)), some (.int (iZ z8))]) 89 dX9_weight_87 (by decide) rfl rfl rfl ?_
      refine g_aload_n 90 dX9_weight_89 rfl rfl ?_
      refine g_dup 91 dX9_weight_90 rfl rfl ?_
      refine g_get 94 dX9_weight_91 faX9_245_X9 F50_1 rfl rfl ?_
      refine g_iload_n 95 dX9_weight_94 rfl rfl ?_
      refine g_ifZ_ne 102 98 dX9_weight_95 rfl rfl rx (fun c9 => ?_) (fun c9 => ?_)
      · refine g_iload_n 103 dX9_weight_102 rfl rfl ?_
        refine g_iconst (v := iZ (1)) 104 dX9_weight_103 rfl rfl ?_
        refine g_icZ_ne 113 107 dX9_weight_104 rfl rfl rx (by decide) (fun c10 => ?_) (fun c10 => ?_)
        · refine g_iload_n 114 dX9_weight_113 rfl rfl ?_
          refine g_iconst (v := iZ (2)) 115 dX9_weight_114 rfl rfl ?_
          refine g_icZ_ne 124 118 dX9_weight_115 rfl rfl rx (by decide) (fun c11 => ?_) (fun c11 => ?_)
          · refine g_iload_n 125 dX9_weight_124 rfl rfl ?_
            refine g_iconst (v := iZ (3)) 126 dX9_weight_125 rfl rfl ?_
            refine g_icZ_ne 135 129 dX9_weight_126 rfl rfl rx (by decide) (fun c12 => ?_) (fun c12 => ?_)
            · refine g_iload_n 136 dX9_weight_135 rfl rfl ?_
              refine g_iconst (v := iZ (4)) 137 dX9_weight_136 rfl rfl ?_
              refine g_icZ_ne 146 140 dX9_weight_137 rfl rfl rx (by decide) (fun c13 => ?_) (fun c13 => ?_)
              · refine g_ldc2 149 dX9_weight_146 wnX9_257 rfl ?_
                refine g_ladd 150 dX9_weight_149 rfl ?_
                refine g_putC (fs1 := [.long ((tr) + (100001)), .ref 51, .int (iZ (w 2)), .ref 52, .ref 53, .int (iZ (w 5)), .ref 54, .ref 55, .ref 56, .ref 57, .ref 58, .ref 59, .ref 60, .int (iZ (w 13)), .int (iZ (w 14)), .int (iZ (w 15)), .int (iZ (w 16)), .int (iZ (w 17)), .int (iZ (w 18)), .int (iZ (w 19)), .int (iZ (w 20)), .ref 61, .ref 62, .ref 63, .ref 64, .int (iZ (w 25)), .int (iZ (w 26)), .int (iZ (w 27)), .int (iZ (w 28)), .int (iZ (w 29)), .int (iZ (w 30)), .int (iZ (w 31)), .ref 65, .ref 66, .ref 67, .int (iZ (w 35)), .ref 68, .ref 69, .ref 70]) 153 dX9_weight_150 fpX9_245_X9 F50_1 (nle rfl) (vL _) rfl rfl (fun h14 s15 f16 => ?_)
                refine g_iload_n 154 dX9_weight_153 rfl rfl ?_
                refine g_ifZ_ne 166 157 dX9_weight_154 rfl rfl rx (fun _ => ?_) (fun q => absurd q (by omega))
                refine g_iload_n 167 dX9_weight_166 rfl rfl ?_
                refine g_iconst (v := iZ (1)) 168 dX9_weight_167 rfl rfl ?_
                refine g_icZ_ne 190 171 dX9_weight_168 rfl rfl rx (by decide) (fun _ => ?_) (fun q => absurd q (by omega))
                refine g_iload_n 191 dX9_weight_190 rfl rfl ?_
                refine g_iconst (v := iZ (2)) 192 dX9_weight_191 rfl rfl ?_
                refine g_icZ_ne 200 195 dX9_weight_192 rfl rfl rx (by decide) (fun _ => ?_) (fun q => absurd q (by omega))
                refine g_iload_n 201 dX9_weight_200 rfl rfl ?_
                refine g_iconst (v := iZ (3)) 202 dX9_weight_201 rfl rfl ?_
                refine g_icZ_ne 210 205 dX9_weight_202 rfl rfl rx (by decide) (fun _ => ?_) (fun q => absurd q (by omega))
                refine g_iload_n 211 dX9_weight_210 rfl rfl ?_
                refine g_iconst (v := iZ (4)) 212 dX9_weight_211 rfl rfl ?_
                refine g_icZ_ne 226 215 dX9_weight_212 rfl rfl rx (by decide) (fun _ => ?_) (fun q => absurd q (by omega))
                refine g_aload_n 227 dX9_weight_226 rfl rfl ?_
                refine g_get 230 dX9_weight_227 faX9_26_X9 f16 rfl rfl ?_
                refine g_iload_n 231 dX9_weight_230 rfl rfl ?_
                have f17 := (s15.get (by decide) F56_1)
                have b18 := o56_1 ((t).toNat)
                refine g_ialdZ (v := iZ ((B 56) t.toNat)) 232 dX9_weight_231 f17 (by omega) (by omega) (by decide) rfl rfl ?_
                refine g_iconst (v := iZ (3)) 233 dX9_weight_232 rfl rfl ?_
                refine g_idiv 234 dX9_weight_233 (by decide +kernel) rfl ?_
                refine Go.genZ (fun z19 rz19 => ?_)
                refine g_iret rfl dX9_weight_234 ?_
                have f20 := (s15.get (by decide) F51_1)
                have f21 := (s15.get (by decide) F52_1)
                have f22 := (s15.get (by decide) F53_1)
                have f23 := (s15.get (by decide) F54_1)
                have f24 := (s15.get (by decide) F55_1)
                have f25 := (s15.get (by decide) F57_1)
                have f26 := (s15.get (by decide) F58_1)
                have f27 := (s15.get (by decide) F59_1)
                have f28 := (s15.get (by decide) F60_1)
                have f29 := (s15.get (by decide) F61_1)
                have f30 := (s15.get (by decide) F62_1)
                have f31 := (s15.get (by decide) F63_1)
                have f32 := (s15.get (by decide) F64_1)
                have f33 := (s15.get (by decide) F65_1)
                have f34 := (s15.get (by decide) F66_1)
                have f35 := (s15.get (by decide) F67_1)
                have f36 := (s15.get (by decide) F68_1)
                have f37 := (s15.get (by decide) F69_1)
                have f38 := (s15.get (by decide) F70_1)
                have H39 : R9 _ ((tr) + (100001)) ty tx w B := ⟨f16, ⟨f20, f21, f22, f23, f24, f17, f25, f26, f27, f28, f29, f30, f31, f32, f33, f34, f35, f36, f37, f38⟩, ⟨r2_1, r5_1, r13_1, r14_1, r15_1, r16_1, r17_1, r18_1, r19_1, r20_1, r25_1, r26_1, r27_1, r28_1, r29_1, r30_1, r31_1, r35_1⟩, ⟨o53_1, o54_1, o55_1, o56_1, o57_1, o58_1, o59_1, o60_1, o61_1, o62_1, o63_1, o64_1, o65_1, o66_1, o67_1, o68_1, o69_1, o70_1⟩, H.2.2.2.2⟩
                have a40 : AgA w B w B := ⟨rfl, rfl, rfl, rfl, rfl⟩
                exact k _ _ _ _ (z19) rz19 H39 a40 ((Sm.refl [50, 51, 52, 53, 54, 55, 56, 57, 58, 59, 60, 61, 62, 63, 64, 65, 66, 67, 68, 69, 70] _).tr s15 (fun _ q => q) (by simp))
              · refine g_ldc2 143 dX9_weight_140 wnX9_255 rfl ?_
                refine g_goto 149 dX9_weight_143 rfl ?_
                refine g_ladd 150 dX9_weight_149 rfl ?_
                refine g_putC (fs1 := [.long ((tr) + (11101)), .ref 51, .int (iZ (w 2)), .ref 52, .ref 53, .int (iZ (w 5)), .ref 54, .ref 55, .ref 56, .ref 57, .ref 58, .ref 59, .ref 60, .int (iZ (w 13)), .int (iZ (w 14)), .int (iZ (w 15)), .int (iZ (w 16)), .int (iZ (w 17)), .int (iZ (w 18)), .int (iZ (w 19)), .int (iZ (w 20)), .ref 61, .ref 62, .ref 63, .ref 64, .int (iZ (w 25)), .int (iZ (w 26)), .int (iZ (w 27)), .int (iZ (w 28)), .int (iZ (w 29)), .int (iZ (w 30)), .int (iZ (w 31)), .ref 65, .ref 66, .ref 67, .int (iZ (w 35)), .ref 68, .ref 69, .ref 70]) 153 dX9_weight_150 fpX9_245_X9 F50_1 (nle rfl) (vL _) rfl rfl (fun h41 s42 f43 => ?_)
                refine g_iload_n 154 dX9_weight_153 rfl rfl ?_
                refine g_ifZ_ne 166 157 dX9_weight_154 rfl rfl rx (fun _ => ?_) (fun q => absurd q (by omega))
                refine g_iload_n 167 dX9_weight_166 rfl rfl ?_
                refine g_iconst (v := iZ (1)) 168 dX9_weight_167 rfl rfl ?_
                refine g_icZ_ne 190 171 dX9_weight_168 rfl rfl rx (by decide) (fun _ => ?_) (fun q => absurd q (by omega))
                refine g_iload_n 191 dX9_weight_190 rfl rfl ?_
                refine g_iconst (v := iZ (2)) 192 dX9_weight_191 rfl rfl ?_
                refine g_icZ_ne 200 195 dX9_weight_192 rfl rfl rx (by decide) (fun _ => ?_) (fun q => absurd q (by omega))
                refine g_iload_n 201 dX9_weight_200 rfl rfl ?_
                refine g_iconst (v := iZ (3)) 202 dX9_weight_201 rfl rfl ?_
                refine g_icZ_ne 210 205 dX9_weight_202 rfl rfl rx (by decide) (fun _ => ?_) (fun q => absurd q (by omega))
                refine g_iload_n 211 dX9_weight_210 rfl rfl ?_
                refine g_iconst (v := iZ (4)) 212 dX9_weight_211 rfl rfl ?_
                refine g_icZ_ne 226 215 dX9_weight_212 rfl rfl rx (by decide) (fun q => absurd q (by omega)) (fun _ => ?_)
                refine g_iconst (v := iZ (3)) 216 dX9_weight_215 rfl rfl ?_
                refine g_iload 218 dX9_weight_216 rfl rfl ?_
                refine g_imul 219 dX9_weight_218 rfl ?_
                refine Go.genZ (fun z44 rz44 => ?_)
                refine g_sipush (v := iZ (251)) 222 dX9_weight_219 (by decide +kernel) rfl ?_
                refine g_irem 223 dX9_weight_222 (by decide +kernel) rfl ?_
                refine Go.genZ (fun z45 rz45 => ?_)
                refine g_goto 234 dX9_weight_223 rfl ?_
                refine g_iret rfl dX9_weight_234 ?_
                have f46 := (s42.get (by decide) F51_1)
                have f47 := (s42.get (by decide) F52_1)
                have f48 := (s42.get (by decide) F53_1)
                have f49 := (s42.get (by decide) F54_1)
                have f50 := (s42.get (by decide) F55_1)
                have f51 := (s42.get (by decide) F56_1)
                have f52 := (s42.get (by decide) F57_1)
                have f53 := (s42.get (by decide) F58_1)
                have f54 := (s42.get (by decide) F59_1)
                have f55 := (s42.get (by decide) F60_1)
                have f56 := (s42.get (by decide) F61_1)
                have f57 := (s42.get (by decide) F62_1)
                have f58 := (s42.get (by decide) F63_1)
                have f59 := (s42.get (by decide) F64_1)
                have f60 := (s42.get (by decide) F65_1)
                have f61 := (s42.get (by decide) F66_1)
                have f62 := (s42.get (by decide) F67_1)
                have f63 := (s42.get (by decide) F68_1)
                have f64 := (s42.get (by decide) F69_1)
                have f65 := (s42.get (by decide) F70_1)
                have H66 : R9 _ ((tr) + (11101)) ty tx w B := ⟨f43, ⟨f46, f47, f48, f49, f50, f51, f52, f53, f54, f55, f56, f57, f58, f59, f60, f61, f62, f63, f64, f65⟩, ⟨r2_1, r5_1, r13_1, r14_1, r15_1, r16_1, r17_1, r18_1, r19_1, r20_1, r25_1, r26_1, r27_1, r28_1, r29_1, r30_1, r31_1, r35_1⟩, ⟨o53_1, o54_1, o55_1, o56_1, o57_1, o58_1, o59_1, o60_1, o61_1, o62_1, o63_1, o64_1, o65_1, o66_1, o67_1, o68_1, o69_1, o70_1⟩, H.2.2.2.2⟩
                have a67 : AgA w B w B := ⟨rfl, rfl, rfl, rfl, rfl⟩
                exact k _ _ _ _ (z45) rz45 H66 a67 ((Sm.refl [50, 51, 52, 53, 54, 55, 56, 57, 58, 59, 60, 61, 62, 63, 64, 65, 66, 67, 68, 69, 70] _).tr s42 (fun _ q => q) (by simp))
            · refine g_ldc2 132 dX9_weight_129 wnX9_253 rfl ?_
              refine g_goto 149 dX9_weight_132 rfl ?_
              refine g_ladd 150 dX9_weight_149 rfl ?_
              refine g_putC (fs1 := [.long ((tr) + (1101)), .ref 51, .int (iZ (w 2)), .ref 52, .ref 53, .int (iZ (w 5)), .ref 54, .ref 55, .ref 56, .ref 57, .ref 58, .ref 59, .ref 60, .int (iZ (w 13)), .int (iZ (w 14)), .int (iZ (w 15)), .int (iZ (w 16)), .int (iZ (w 17)), .int (iZ (w 18)), .int (iZ (w 19)), .int (iZ (w 20)), .ref 61, .ref 62, .ref 63, .ref 64, .int (iZ (w 25)), .int (iZ (w 26)), .int (iZ (w 27)), .int (iZ (w 28)), .int (iZ (w 29)), .int (iZ (w 30)), .int (iZ (w 31)), .ref 65, .ref 66, .ref 67, .int (iZ (w 35)), .ref 68, .ref 69, .ref 70]) 153 dX9_weight_150 fpX9_245_X9 F50_1 (nle rfl) (vL _) rfl rfl (fun h68 s69 f70 => ?_)
              refine g_iload_n 154 dX9_weight_153 rfl rfl ?_
              refine g_ifZ_ne 166 157 dX9_weight_154 rfl rfl rx (fun _ => ?_) (fun q => absurd q (by omega))
              refine g_iload_n 167 dX9_weight_166 rfl rfl ?_
              refine g_iconst (v := iZ (1)) 168 dX9_weight_167 rfl rfl ?_
              refine g_icZ_ne 190 171 dX9_weight_168 rfl rfl rx (by decide) (fun _ => ?_) (fun q => absurd q (by omega))
              refine g_iload_n 191 dX9_weight_190 rfl rfl ?_
              refine g_iconst (v := iZ (2)) 192 dX9_weight_191 rfl rfl ?_
              refine g_icZ_ne 200 195 dX9_weight_192 rfl rfl rx (by decide) (fun _ => ?_) (fun q => absurd q (by omega))
              refine g_iload_n 201 dX9_weight_200 rfl rfl ?_
              refine g_iconst (v := iZ (3)) 202 dX9_weight_201 rfl rfl ?_
              refine g_icZ_ne 210 205 dX9_weight_202 rfl rfl rx (by decide) (fun q => absurd q (by omega)) (fun _ => ?_)
              refine g_iload 207 dX9_weight_205 rfl rfl ?_
              refine g_goto 234 dX9_weight_207 rfl ?_
              refine g_iret rfl dX9_weight_234 ?_
              have f71 := (s69.get (by decide) F51_1)
              have f72 := (s69.get (by decide) F52_1)
              have f73 := (s69.get (by decide) F53_1)
              have f74 := (s69.get (by decide) F54_1)
              have f75 := (s69.get (by decide) F55_1)
              have f76 := (s69.get (by decide) F56_1)
              have f77 := (s69.get (by decide) F57_1)
              have f78 := (s69.get (by decide) F58_1)
              have f79 := (s69.get (by decide) F59_1)
              have f80 := (s69.get (by decide) F60_1)
              have f81 := (s69.get (by decide) F61_1)
              have f82 := (s69.get (by decide) F62_1)
              have f83 := (s69.get (by decide) F63_1)
              have f84 := (s69.get (by decide) F64_1)
              have f85 := (s69.get (by decide) F65_1)
              have f86 := (s69.get (by decide) F66_1)
              have f87 := (s69.get (by decide) F67_1)
              have f88 := (s69.get (by decide) F68_1)
              have f89 := (s69.get (by decide) F69_1)
              have f90 := (s69.get (by decide) F70_1)
              have H91 : R9 _ ((tr) + (1101)) ty tx w B := ⟨f70, ⟨f71, f72, f73, f74, f75, f76, f77, f78, f79, f80, f81, f82, f83, f84, f85, f86, f87, f88, f89, f90⟩, ⟨r2_1, r5_1, r13_1, r14_1, r15_1, r16_1, r17_1, r18_1, r19_1, r20_1, r25_1, r26_1, r27_1, r28_1, r29_1, r30_1, r31_1, r35_1⟩, ⟨o53_1, o54_1, o55_1, o56_1, o57_1, o58_1, o59_1, o60_1, o61_1, o62_1, o63_1, o64_1, o65_1, o66_1, o67_1, o68_1, o69_1, o70_1⟩, H.2.2.2.2⟩
              have a92 : AgA w B w B := ⟨rfl, rfl, rfl, rfl, rfl⟩
              exact k _ _ _ _ (z8) rz8 H91 a92 ((Sm.refl [50, 51, 52, 53, 54, 55, 56, 57, 58, 59, 60, 61, 62, 63, 64, 65, 66, 67, 68, 69, 70] _).tr s69 (fun _ q => q) (by simp))
          · refine g_ldc2 121 dX9_weight_118 wnX9_251 rfl ?_
            refine g_goto 149 dX9_weight_121 rfl ?_
            refine g_ladd 150 dX9_weight_149 rfl ?_
            refine g_putC (fs1 := [.long ((tr) + (101)), .ref 51, .int (iZ (w 2)), .ref 52, .ref 53, .int (iZ (w 5)), .ref 54, .ref 55, .ref 56, .ref 57, .ref 58, .ref 59, .ref 60, .int (iZ (w 13)), .int (iZ (w 14)), .int (iZ (w 15)), .int (iZ (w 16)), .int (iZ (w 17)), .int (iZ (w 18)), .int (iZ (w 19)), .int (iZ (w 20)), .ref 61, .ref 62, .ref 63, .ref 64, .int (iZ (w 25)), .int (iZ (w 26)), .int (iZ (w 27)), .int (iZ (w 28)), .int (iZ (w 29)), .int (iZ (w 30)), .int (iZ (w 31)), .ref 65, .ref 66, .ref 67, .int (iZ (w 35)), .ref 68, .ref 69, .ref 70]) 153 dX9_weight_150 fpX9_245_X9 F50_1 (nle rfl) (vL _) rfl rfl (fun h93 s94 f95 => ?_)
            refine g_iload_n 154 dX9_weight_153 rfl rfl ?_
            refine g_ifZ_ne 166 157 dX9_weight_154 rfl rfl rx (fun _ => ?_) (fun q => absurd q (by omega))
            refine g_iload_n 167 dX9_weight_166 rfl rfl ?_
            refine g_iconst (v := iZ (1)) 168 dX9_weight_167 rfl rfl ?_
            refine g_icZ_ne 190 171 dX9_weight_168 rfl rfl rx (by decide) (fun _ => ?_) (fun q => absurd q (by omega))
            refine g_iload_n 191 dX9_weight_190 rfl rfl ?_
            refine g_iconst (v := iZ (2)) 192 dX9_weight_191 rfl rfl ?_
            refine g_icZ_ne 200 195 dX9_weight_192 rfl rfl rx (by decide) (fun q => absurd q (by omega)) (fun _ => ?_)
            refine g_iload 197 dX9_weight_195 rfl rfl ?_
            refine g_goto 234 dX9_weight_197 rfl ?_
            refine g_iret rfl dX9_weight_234 ?_
            have f96 := (s94.get (by decide) F51_1)
            have f97 := (s94.get (by decide) F52_1)
            have f98 := (s94.get (by decide) F53_1)
            have f99 := (s94.get (by decide) F54_1)
            have f100 := (s94.get (by decide) F55_1)
            have f101 := (s94.get (by decide) F56_1)
            have f102 := (s94.get (by decide) F57_1)
            have f103 := (s94.get (by decide) F58_1)
            have f104 := (s94.get (by decide) F59_1)
            have f105 := (s94.get (by decide) F60_1)
            have f106 := (s94.get (by decide) F61_1)
            have f107 := (s94.get (by decide) F62_1)
            have f108 := (s94.get (by decide) F63_1)
            have f109 := (s94.get (by decide) F64_1)
            have f110 := (s94.get (by decide) F65_1)
            have f111 := (s94.get (by decide) F66_1)
            have f112 := (s94.get (by decide) F67_1)
            have f113 := (s94.get (by decide) F68_1)
            have f114 := (s94.get (by decide) F69_1)
            have f115 := (s94.get (by decide) F70_1)
            have H116 : R9 _ ((tr) + (101)) ty tx w B := ⟨f95, ⟨f96, f97, f98, f99, f100, f101, f102, f103, f104, f105, f106, f107, f108, f109, f110, f111, f112, f113, f114, f115⟩, ⟨r2_1, r5_1, r13_1, r14_1, r15_1, r16_1, r17_1, r18_1, r19_1, r20_1, r25_1, r26_1, r27_1, r28_1, r29_1, r30_1, r31_1, r35_1⟩, ⟨o53_1, o54_1, o55_1, o56_1, o57_1, o58_1, o59_1, o60_1, o61_1, o62_1, o63_1, o64_1, o65_1, o66_1, o67_1, o68_1, o69_1, o70_1⟩, H.2.2.2.2⟩
            have a117 : AgA w B w B := ⟨rfl, rfl, rfl, rfl, rfl⟩
            exact k _ _ _ _ (z6) rz6 H116 a117 ((Sm.refl [50, 51, 52, 53, 54, 55, 56, 57, 58, 59, 60, 61, 62, 63, 64, 65, 66, 67, 68, 69, 70] _).tr s94 (fun _ q => q) (by simp))
        · refine g_ldc2 110 dX9_weight_107 wnX9_249 rfl ?_
          refine g_goto 149 dX9_weight_110 rfl ?_
          refine g_ladd 150 dX9_weight_149 rfl ?_
          refine g_putC (fs1 := [.long ((tr) + (11)), .ref 51, .int (iZ (w 2)), .ref 52, .ref 53, .int (iZ (w 5)), .ref 54, .ref 55, .ref 56, .ref 57, .ref 58, .ref 59, .ref 60, .int (iZ (w 13)), .int (iZ (w 14)), .int (iZ (w 15)), .int (iZ (w 16)), .int (iZ (w 17)), .int (iZ (w 18)), .int (iZ (w 19)), .int (iZ (w 20)), .ref 61, .ref 62, .ref 63, .ref 64, .int (iZ (w 25)), .int (iZ (w 26)), .int (iZ (w 27)), .int (iZ (w 28)), .int (iZ (w 29)), .int (iZ (w 30)), .int (iZ (w 31)), .ref 65, .ref 66, .ref 67, .int (iZ (w 35)), .ref 68, .ref 69, .ref 70]) 153 dX9_weight_150 fpX9_245_X9 F50_1 (nle rfl) (vL _) rfl rfl (fun h118 s119 f120 => ?_)
          refine g_iload_n 154 dX9_weight_153 rfl rfl ?_
          refine g_ifZ_ne 166 157 dX9_weight_154 rfl rfl rx (fun _ => ?_) (fun q => absurd q (by omega))
          refine g_iload_n 167 dX9_weight_166 rfl rfl ?_
          refine g_iconst (v := iZ (1)) 168 dX9_weight_167 rfl rfl ?_
          refine g_icZ_ne 190 171 dX9_weight_168 rfl rfl rx (by decide) (fun q => absurd q (by omega)) (fun _ => ?_)
          refine g_aload_n 172 dX9_weight_171 rfl rfl ?_
          refine g_get 175 dX9_weight_172 faX9_26_X9 f120 rfl rfl ?_
          refine g_iload_n 176 dX9_weight_175 rfl rfl ?_
          have f121 := (s119.get (by decide) F56_1)
          have b122 := o56_1 ((t).toNat)
          refine g_ialdZ (v := iZ ((B 56) t.toNat)) 177 dX9_weight_176 f121 (by omega) (by omega) (by decide) rfl rfl ?_
          refine g_bipush (v := iZ (9)) 179 dX9_weight_177 (by decide +kernel) rfl ?_
          refine g_aload_n 180 dX9_weight_179 rfl rfl ?_
          refine g_get 183 dX9_weight_180 faX9_38_X9 f120 rfl rfl ?_
          refine g_iload_n 184 dX9_weight_183 rfl rfl ?_
          have f123 := (s119.get (by decide) F60_1)
          refine g_ialdZ (v := iZ ((B 60) t.toNat)) 185 dX9_weight_184 f123 (by omega) (by omega) (by decide) rfl rfl ?_
          refine g_imul 186 dX9_weight_185 rfl ?_
          refine Go.genZ (fun z124 rz124 => ?_)
          refine g_iadd 187 dX9_weight_186 rfl ?_
          refine Go.genZ (fun z125 rz125 => ?_)
          refine g_goto 234 dX9_weight_187 rfl ?_
          refine g_iret rfl dX9_weight_234 ?_
          have f126 := (s119.get (by decide) F51_1)
          have f127 := (s119.get (by decide) F52_1)
          have f128 := (s119.get (by decide) F53_1)
          have f129 := (s119.get (by decide) F54_1)
          have f130 := (s119.get (by decide) F55_1)
          have f131 := (s119.get (by decide) F57_1)
          have f132 := (s119.get (by decide) F58_1)
          have f133 := (s119.get (by decide) F59_1)
          have f134 := (s119.get (by decide) F61_1)
          have f135 := (s119.get (by decide) F62_1)
          have f136 := (s119.get (by decide) F63_1)
          have f137 := (s119.get (by decide) F64_1)
          have f138 := (s119.get (by decide) F65_1)
          have f139 := (s119.get (by decide) F66_1)
          have f140 := (s119.get (by decide) F67_1)
          have f141 := (s119.get (by decide) F68_1)
          have f142 := (s119.get (by decide) F69_1)
          have f143 := (s119.get (by decide) F70_1)
          have H144 : R9 _ ((tr) + (11)) ty tx w B := ⟨f120, ⟨f126, f127, f128, f129, f130, f121, f131, f132, f133, f123, f134, f135, f136, f137, f138, f139, f140, f141, f142, f143⟩, ⟨r2_1, r5_1, r13_1, r14_1, r15_1, r16_1, r17_1, r18_1, r19_1, r20_1, r25_1, r26_1, r27_1, r28_1, r29_1, r30_1, r31_1, r35_1⟩, ⟨o53_1, o54_1, o55_1, o56_1, o57_1, o58_1, o59_1, o60_1, o61_1, o62_1, o63_1, o64_1, o65_1, o66_1, o67_1, o68_1, o69_1, o70_1⟩, H.2.2.2.2⟩
          have a145 : AgA w B w B := ⟨rfl, rfl, rfl, rfl, rfl⟩
          exact k _ _ _ _ (z125) rz125 H144 a145 ((Sm.refl [50, 51, 52, 53, 54, 55, 56, 57, 58, 59, 60, 61, 62, 63, 64, 65, 66, 67, 68, 69, 70] _).tr s119 (fun _ q => q) (by simp))
      · refine g_lconst (v := 1) 99 dX9_weight_98 rfl rfl ?_
        refine g_goto 149 dX9_weight_99 rfl ?_
        refine g_ladd 150 dX9_weight_149 rfl ?_
        refine g_putC (fs1 := [.long ((tr) + (1)), .ref 51, .int (iZ (w 2)), .ref 52, .ref 53, .int (iZ (w 5)), .ref 54, .ref 55, .ref 56, .ref 57, .ref 58, .ref 59, .ref 60, .int (iZ (w 13)), .int (iZ (w 14)), .int (iZ (w 15)), .int (iZ (w 16)), .int (iZ (w 17)), .int (iZ (w 18)), .int (iZ (w 19)), .int (iZ (w 20)), .ref 61, .ref 62, .ref 63, .ref 64, .int (iZ (w 25)), .int (iZ (w 26)), .int (iZ (w 27)), .int (iZ (w 28)), .int (iZ (w 29)), .int (iZ (w 30)), .int (iZ (w 31)), .ref 65, .ref 66, .ref 67, .int (iZ (w 35)), .ref 68, .ref 69, .ref 70]) 153 dX9_weight_150 fpX9_245_X9 F50_1 (nle rfl) (vL _) rfl rfl (fun h146 s147 f148 => ?_)
        refine g_iload_n 154 dX9_weight_153 rfl rfl ?_
        refine g_ifZ_ne 166 157 dX9_weight_154 rfl rfl rx (fun q => absurd q (by omega)) (fun _ => ?_)
        refine g_aload_n 158 dX9_weight_157 rfl rfl ?_
        refine g_get 161 dX9_weight_158 faX9_26_X9 f148 rfl rfl ?_
        refine g_iload_n 162 dX9_weight_161 rfl rfl ?_
        have f149 := (s147.get (by decide) F56_1)
        have b150 := o56_1 ((t).toNat)
        refine g_ialdZ (v := iZ ((B 56) t.toNat)) 163 dX9_weight_162 f149 (by omega) (by omega) (by decide) rfl rfl ?_
        refine g_goto 234 dX9_weight_163 rfl ?_
        refine g_iret rfl dX9_weight_234 ?_
        have f151 := (s147.get (by decide) F51_1)
        have f152 := (s147.get (by decide) F52_1)
        have f153 := (s147.get (by decide) F53_1)
        have f154 := (s147.get (by decide) F54_1)
        have f155 := (s147.get (by decide) F55_1)
        have f156 := (s147.get (by decide) F57_1)
        have f157 := (s147.get (by decide) F58_1)
        have f158 := (s147.get (by decide) F59_1)
        have f159 := (s147.get (by decide) F60_1)
        have f160 := (s147.get (by decide) F61_1)
        have f161 := (s147.get (by decide) F62_1)
        have f162 := (s147.get (by decide) F63_1)
        have f163 := (s147.get (by decide) F64_1)
        have f164 := (s147.get (by decide) F65_1)
        have f165 := (s147.get (by decide) F66_1)
        have f166 := (s147.get (by decide) F67_1)
        have f167 := (s147.get (by decide) F68_1)
        have f168 := (s147.get (by decide) F69_1)
        have f169 := (s147.get (by decide) F70_1)
        have H170 : R9 _ ((tr) + (1)) ty tx w B := ⟨f148, ⟨f151, f152, f153, f154, f155, f149, f156, f157, f158, f159, f160, f161, f162, f163, f164, f165, f166, f167, f168, f169⟩, ⟨r2_1, r5_1, r13_1, r14_1, r15_1, r16_1, r17_1, r18_1, r19_1, r20_1, r25_1, r26_1, r27_1, r28_1, r29_1, r30_1, r31_1, r35_1⟩, ⟨o53_1, o54_1, o55_1, o56_1, o57_1, o58_1, o59_1, o60_1, o61_1, o62_1, o63_1, o64_1, o65_1, o66_1, o67_1, o68_1, o69_1, o70_1⟩, H.2.2.2.2⟩
        have a171 : AgA w B w B := ⟨rfl, rfl, rfl, rfl, rfl⟩
        exact k _ _ _ _ ((B 56) t.toNat) (by omega) H170 a171 ((Sm.refl [50, 51, 52, 53, 54, 55, 56, 57, 58, 59, 60, 61, 62, 63, 64, 65, 66, 67, 68, 69, 70] _).tr s147 (fun _ q => q) (by simp))
    · refine g_iload_n 36 dX9_weight_35 rfl rfl ?_
      refine g_aload_n 37 dX9_weight_36 rfl rfl ?_
      refine g_get 40 dX9_weight_37 faX9_20_X9 F50_1 rfl rfl ?_
      refine g_sipush (v := iZ (256)) 43 dX9_weight_40 (by decide +kernel) rfl ?_
      refine g_iload_n 44 dX9_weight_43 rfl rfl ?_
      refine g_imulZ (256 * t) 45 dX9_weight_44 (by omega) rfl ?_
      refine g_iload 47 dX9_weight_45 rfl rfl ?_
      refine g_iaddZ ((256 * t) + j) 48 dX9_weight_47 (by omega) rfl ?_
      refine g_ialdZ (v := iZ ((B 54) ((256 * t) + j).toNat)) 49 dX9_weight_48 F54_1 (by omega) (by omega) (by decide) rfl rfl ?_
      refine g_bipush (v := iZ (15)) 51 dX9_weight_49 (by decide +kernel) rfl ?_
      refine g_icZ_le 58 54 dX9_weight_51 rfl rfl (o54_1 _) (by decide) (fun c172 => ?_) (fun c172 => ?_)
      · refine g_iconst (v := iZ (0)) 59 dX9_weight_58 rfl rfl ?_
        refine g_iadd 60 dX9_weight_59 rfl ?_
        refine Go.genZ (fun z173 rz173 => ?_)
        refine g_istore_n (L1 := [some (.ref 50), some (.int (iZ x)), some (.int (iZ t)), some (.int (iZ z173)), some (.int (iZ j)), none]) 61 dX9_weight_60 (by decide) rfl rfl rfl ?_
        refine g_iincZ [some (.ref 50), some (.int (iZ x)), some (.int (iZ t)), some (.int (iZ z173)), some (.int (iZ (j + 1))), none] 64 dX9_weight_61 rfl (by omega) (by decide) rfl rfl rfl ?_
        refine g_goto 24 dX9_weight_64 rfl ?_
        exact ih _ (by omega) _ _ _ _ (z173) (j + 1) rfl H rz173 (by omega) (by omega) (by omega) k
      · refine g_iconst (v := iZ (1)) 55 dX9_weight_54 rfl rfl ?_
        refine g_goto 59 dX9_weight_55 rfl ?_
        refine g_iadd 60 dX9_weight_59 rfl ?_
        refine Go.genZ (fun z174 rz174 => ?_)
        refine g_istore_n (L1 := [some (.ref 50), some (.int (iZ x)), some (.int (iZ t)), some (.int (iZ z174)), some (.int (iZ j)), none]) 61 dX9_weight_60 (by decide) rfl rfl rfl ?_
        refine g_iincZ [some (.ref 50), some (.int (iZ x)), some (.int (iZ t)), some (.int (iZ z174)), some (.int (iZ (j + 1))), none] 64 dX9_weight_61 rfl (by omega) (by decide) rfl rfl rfl ?_
        refine g_goto 24 dX9_weight_64 rfl ?_
        exact ih _ (by omega) _ _ _ _ (z174) (j + 1) rfl H rz174 (by omega) (by omega) (by omega) k
set_option maxRecDepth 100000 in
theorem m_weight {l : Launch} {h : MH} {Q : Option Value → MH → Prop} {tr : Int64} {ty tx : Nat → Int32} {w : Nat → Int} {B : Nat → Nat → Int} {x t : Int} (H : R9 h tr ty tx w B) (rx : rg x) (rt : rg t)  (k : ∀ (h1 : MH) (tr1 : Int64) (w1 : Nat → Int) (B1 : Nat → Nat → Int) (r : Int), (rg r) → R9 h1 tr1 ty tx w1 B1 → AgA w B w1 B1 → Sm [50, 51, 52, 53, 54, 55, 56, 57, 58, 59, 60, 61, 62, 63, 64, 65, 66, 67, 68, 69, 70] h h1 → Q (some (.int (iZ r))) h1) : Go l mX9_weight 0 [some (.ref 50), some (.int (iZ x)), some (.int (iZ t)), none, none, none] [] h Q := by
  have n0 := H.2.2.1.2.1
  refine g_iload_n 1 dX9_weight_0 rfl rfl ?_
  refine g_iconst (v := iZ (0)) 2 dX9_weight_1 rfl rfl ?_
  refine g_iconst (v := iZ (5)) 3 dX9_weight_2 rfl rfl ?_
  refine g_callS (z := mX9_in) (As := [.int (iZ x), .int (iZ 0), .int (iZ 5)]) 6 dX9_weight_3 mwX9_in ⟨by decide, by decide⟩ rfl wlX9_75 wtX9_in rfl (nle rfl) (nle rfl) rfl ?_
  refine n_in  rx (by decide) (by decide) (fun z1 rz1 => ?_)
  refine rI ?_
  refine g_ifZ_eq 17 9 dX9_weight_6 rfl rfl (rg01 (by omega)) (fun c2 => ?_) (fun c2 => ?_)
  · refine g_iconst (v := iZ (-1)) 18 dX9_weight_17 rfl rfl ?_
    refine g_iret rfl dX9_weight_18 ?_
    exact k _ _ _ _ (-1) (by decide) H (AgA.refl _ _) (Sm.refl [50, 51, 52, 53, 54, 55, 56, 57, 58, 59, 60, 61, 62, 63, 64, 65, 66, 67, 68, 69, 70] _)
  · refine g_aload_n 10 dX9_weight_9 rfl rfl ?_
    refine g_iload_n 11 dX9_weight_10 rfl rfl ?_
    obtain ⟨F50_3, ⟨F51_3, F52_3, F53_3, F54_3, F55_3, F56_3, F57_3, F58_3, F59_3, F60_3, F61_3, F62_3, F63_3, F64_3, F65_3, F66_3, F67_3, F68_3, F69_3, F70_3⟩, ⟨r2_3, r5_3, r13_3, r14_3, r15_3, r16_3, r17_3, r18_3, r19_3, r20_3, r25_3, r26_3, r27_3, r28_3, r29_3, r30_3, r31_3, r35_3⟩, ⟨o53_3, o54_3, o55_3, o56_3, o57_3, o58_3, o59_3, o60_3, o61_3, o62_3, o63_3, o64_3, o65_3, o66_3, o67_3, o68_3, o69_3, o70_3⟩, hT_3⟩ := id H
    refine g_callV (z := mX9_isTool) (As := [.int (iZ t)]) 14 dX9_weight_11 mwX9_isTool ⟨by decide, by decide⟩ rfl wlX9_178 wiX9_isTool wsX9_isTool F50_3 rfl rfl rfl (nle rfl) (nle rfl) rfl ?_
    refine m_isTool H rt (fun z4 rz4 => ?_)
    refine rI ?_
    refine g_ifZ_ne 19 17 dX9_weight_14 rfl rfl (rg01 (by omega)) (fun c5 => ?_) (fun c5 => ?_)
    · refine g_iconst (v := iZ (0)) 20 dX9_weight_19 rfl rfl ?_
      refine g_istore_n (L1 := [some (.ref 50), some (.int (iZ x)), some (.int (iZ t)), some (.int (iZ 0)), none, none]) 21 dX9_weight_20 (by decide) rfl rfl rfl ?_
      refine g_iconst (v := iZ (0)) 22 dX9_weight_21 rfl rfl ?_
      refine g_istore (L1 := [some (.ref 50), some (.int (iZ x)), some (.int (iZ t)), some (.int (iZ 0)), some (.int (iZ 0)), none]) 24 dX9_weight_22 (by decide) rfl rfl rfl ?_
      exact m_weight_l rx rt _ _ _ _ _ (0) (0) rfl H (by decide) (by omega) (by omega) (by omega) k
    · refine g_iconst (v := iZ (-1)) 18 dX9_weight_17 rfl rfl ?_
      refine g_iret rfl dX9_weight_18 ?_
      exact k _ _ _ _ (-1) (by decide) H (AgA.refl _ _) (Sm.refl [50, 51, 52, 53, 54, 55, 56, 57, 58, 59, 60, 61, 62, 63, 64, 65, 66, 67, 68, 69, 70] _)

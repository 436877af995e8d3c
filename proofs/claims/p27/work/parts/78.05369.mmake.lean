set_option maxRecDepth 100000 in
theorem b_make {l : Launch} {h : MH} {Q : Option Value → MH → Prop} {tr : Int64} {ty tx : Nat → Int32} {w : Nat → Int} {B : Nat → Nat → Int} {i x : Int} (H : R9B h tr ty tx w B) (ri : rg i) (rx : (0 ≤ x ∧ x ≤ 1))  (k : ∀ (h1 : MH) (tr1 : Int64) (w1 : Nat → Int) (B1 : Nat → Nat → Int) (r : Int), (mtP (if x = 0 then prsE (B 53 i.toNat) (fun j => hb tx (200 * i + j)) else namE (B 53 i.toNat) (fun j => hb tx (200 * i + j))) (w 5).toNat (refV B) (refB B) (refL B) x i r (w1 5).toNat (refV B1) (refB B1) (refL B1) ∧ tr1 = tr) → R9B h1 tr1 ty tx w1 B1 → AgC w B w1 B1 → Sm [50, 51, 52, 53, 54, 55, 56, 57, 58, 59, 60, 61, 62, 63, 64, 65, 66, 67, 68, 69, 70] h h1 → Q (some (.int (iZ r))) h1) : Go l mX9_make 0 [some (.ref 50), some (.int (iZ i)), some (.int (iZ x)), none] [] h Q := by
  have n0 := H.2.2.1.2.1
  refine g_iload_n 1 dX9_make_0 rfl rfl ?_
  refine g_callS (z := mX9_isText) (As := [.int (iZ i)]) 4 dX9_make_1 mwX9_isText ⟨by decide, by decide⟩ rfl wlX9_81 wtX9_isText rfl (nle rfl) (nle rfl) rfl ?_
  refine n_isText  ri (fun z1 rz1 => ?_)
  refine rI ?_
  refine g_ifZ_ne 9 7 dX9_make_4 rfl rfl (rg01 (by omega)) (fun c2 => ?_) (fun c2 => ?_)
  · refine g_iload_n 10 dX9_make_9 rfl rfl ?_
    refine g_ifZ_ne 23 13 dX9_make_10 rfl rfl (by omega) (fun c3 => ?_) (fun c3 => ?_)
    · refine g_aload_n 24 dX9_make_23 rfl rfl ?_
      refine g_iload_n 25 dX9_make_24 rfl rfl ?_
      refine g_bipush (v := iZ (12)) 27 dX9_make_25 (by decide +kernel) rfl ?_
      obtain ⟨F50_4, ⟨F51_4, F52_4, F53_4, F54_4, F55_4, F56_4, F57_4, F58_4, F59_4, F60_4, F61_4, F62_4, F63_4, F64_4, F65_4, F66_4, F67_4, F68_4, F69_4, F70_4, kty_4, ktx_4⟩, ⟨r2_4, r5_4, r13_4, r14_4, r15_4, r16_4, r17_4, r18_4, r19_4, r20_4, r25_4, r26_4, r27_4, r28_4, r29_4, r30_4, r31_4, r35_4⟩, ⟨o53_4, o54_4, o55_4, o56_4, o57_4, o58_4, o59_4, o60_4, o61_4, o62_4, o63_4, o64_4, o65_4, o66_4, o67_4, o68_4, o69_4, o70_4⟩, hT_4⟩ := id H
      refine g_callV (z := mX9_readNames) (As := [.int (iZ i), .int (iZ 12)]) 30 dX9_make_27 mwX9_readNames ⟨by decide, by decide⟩ rfl wlX9_164 wiX9_readNames wsX9_readNames F50_4 rfl rfl rfl (nle rfl) (nle rfl) rfl ?_
      refine b_rn H (by omega) (fun h8 w9 B10 z5 rz5 p6 p7 H11 a12 s13 => ?_)
      have e14 := a12.1
      have n15 := H11.2.2.1.2.1
      refine rI ?_
      refine g_istore_n (L1 := [some (.ref 50), some (.int (iZ i)), some (.int (iZ x)), some (.int (iZ z5))]) 31 dX9_make_30 (by decide) rfl rfl rfl ?_
      refine g_iload_n 32 dX9_make_31 rfl rfl ?_
      refine g_bipush (v := iZ (-9)) 34 dX9_make_32 (by decide +kernel) rfl ?_
      refine g_icZ_eq 42 37 dX9_make_34 rfl rfl (by omega) (by decide) (fun c16 => ?_) (fun c16 => ?_)
      · refine g_aload_n 43 dX9_make_42 rfl rfl ?_
        obtain ⟨F50_17, ⟨F51_17, F52_17, F53_17, F54_17, F55_17, F56_17, F57_17, F58_17, F59_17, F60_17, F61_17, F62_17, F63_17, F64_17, F65_17, F66_17, F67_17, F68_17, F69_17, F70_17, kty_17, ktx_17⟩, ⟨r2_17, r5_17, r13_17, r14_17, r15_17, r16_17, r17_17, r18_17, r19_17, r20_17, r25_17, r26_17, r27_17, r28_17, r29_17, r30_17, r31_17, r35_17⟩, ⟨o53_17, o54_17, o55_17, o56_17, o57_17, o58_17, o59_17, o60_17, o61_17, o62_17, o63_17, o64_17, o65_17, o66_17, o67_17, o68_17, o69_17, o70_17⟩, hT_17⟩ := id H11
        refine g_get 46 dX9_make_43 faX9_85_X9 F50_17 rfl rfl ?_
        refine g_bipush (v := iZ (12)) 48 dX9_make_46 (by decide +kernel) rfl ?_
        refine g_icZ_ne 54 51 dX9_make_48 rfl rfl (by omega) (by decide) (fun c18 => ?_) (fun c18 => ?_)
        · refine g_aload_n 55 dX9_make_54 rfl rfl ?_
          refine g_bipush (v := iZ (12)) 57 dX9_make_55 (by decide +kernel) rfl ?_
          refine g_aload_n 58 dX9_make_57 rfl rfl ?_
          refine g_get 61 dX9_make_58 faX9_85_X9 F50_17 rfl rfl ?_
          refine g_callV (z := mX9_move) (As := [.int (iZ 12), .int (iZ (w9 5))]) 64 dX9_make_61 mwX9_move ⟨by decide, by decide⟩ rfl wlX9_167 wiX9_move wsX9_move F50_17 rfl rfl rfl (nle rfl) (nle rfl) rfl ?_
          refine b_moveT H11 (by omega) ((p6 c16).1) (fun h19 B20 H21 a22 m23 g24 s25 => ?_)
          refine rV ?_
          refine g_aload_n 65 dX9_make_64 rfl rfl ?_
          refine g_iload_n 66 dX9_make_65 rfl rfl ?_
          refine g_iload_n 67 dX9_make_66 rfl rfl ?_
          refine g_bipush (v := iZ (-9)) 69 dX9_make_67 (by decide +kernel) rfl ?_
          obtain ⟨F50_26, ⟨F51_26, F52_26, F53_26, F54_26, F55_26, F56_26, F57_26, F58_26, F59_26, F60_26, F61_26, F62_26, F63_26, F64_26, F65_26, F66_26, F67_26, F68_26, F69_26, F70_26, kty_26, ktx_26⟩, ⟨r2_26, r5_26, r13_26, r14_26, r15_26, r16_26, r17_26, r18_26, r19_26, r20_26, r25_26, r26_26, r27_26, r28_26, r29_26, r30_26, r31_26, r35_26⟩, ⟨o53_26, o54_26, o55_26, o56_26, o57_26, o58_26, o59_26, o60_26, o61_26, o62_26, o63_26, o64_26, o65_26, o66_26, o67_26, o68_26, o69_26, o70_26⟩, hT_26⟩ := id H21
          refine g_callV (z := mX9_newTool) (As := [.int (iZ x), .int (iZ i), .int (iZ (-9))]) 72 dX9_make_69 mwX9_newTool ⟨by decide, by decide⟩ rfl wlX9_171 wiX9_newTool wsX9_newTool F50_26 rfl rfl rfl (nle rfl) (nle rfl) rfl ?_
          refine b_newT H21 (by omega) g24 (by omega) (by omega) (by omega) (by omega) (fun h27 w28 B29 H30 a31 n32 s33 => ?_)
          refine rI ?_
          refine g_iret rfl dX9_make_72 ?_
          have eR : (if x = 0 then prsE (B 53 i.toNat) (fun j => hb tx (200 * i + j)) else namE (B 53 i.toNat) (fun j => hb tx (200 * i + j))) = namE (B 53 i.toNat) (fun j => hb tx (200 * i + j)) := if_neg (by omega)
          exact k _ tr w28 B29 (w9 5) ⟨by rw [eR]; exact mtP_k (by omega) p7 (by omega) (kp_ref a12 (by omega) (by omega) H.2.2.2.1.2.2.2.1 H11.2.2.2.1.2.2.2.1 m23 n32), rfl⟩ H30 ((a12.A.tr a22).tr a31) ((((Sm.refl [50, 51, 52, 53, 54, 55, 56, 57, 58, 59, 60, 61, 62, 63, 64, 65, 66, 67, 68, 69, 70] _).tr s13 (fun _ q => q) (by simp)).tr s25 (fun _ q => q) (by simp)).tr s33 (fun _ q => q) (by simp))
        · refine g_bipush (v := iZ (-3)) 53 dX9_make_51 (by decide +kernel) rfl ?_
          refine g_iret rfl dX9_make_53 ?_
          have eR : (if x = 0 then prsE (B 53 i.toNat) (fun j => hb tx (200 * i + j)) else namE (B 53 i.toNat) (fun j => hb tx (200 * i + j))) = namE (B 53 i.toNat) (fun j => hb tx (200 * i + j)) := if_neg (by omega)
          exact k _ tr w9 B10 (-3) ⟨by rw [eR]; exact mt_full (by omega) p7 (by omega) rfl (by omega) (by rw [a12.1.2.1]) (a12.T (by omega) H.2.2.2.1.2.2.2.1), rfl⟩ H11 a12.A ((Sm.refl [50, 51, 52, 53, 54, 55, 56, 57, 58, 59, 60, 61, 62, 63, 64, 65, 66, 67, 68, 69, 70] _).tr s13 (fun _ q => q) (by simp))
      · refine g_bipush (v := iZ (-10)) 39 dX9_make_37 (by decide +kernel) rfl ?_
        refine g_iload_n 40 dX9_make_39 rfl rfl ?_
        refine g_isubZ ((-10) - z5) 41 dX9_make_40 (by omega) rfl ?_
        refine g_iret rfl dX9_make_41 ?_
        have eR : (if x = 0 then prsE (B 53 i.toNat) (fun j => hb tx (200 * i + j)) else namE (B 53 i.toNat) (fun j => hb tx (200 * i + j))) = namE (B 53 i.toNat) (fun j => hb tx (200 * i + j)) := if_neg (by omega)
        exact k _ tr w9 B10 ((-10) - z5) ⟨by rw [eR]; exact mt_f (by omega) p7 (by omega) (by omega) (by rw [a12.1.2.1]) (a12.T (by omega) H.2.2.2.1.2.2.2.1), rfl⟩ H11 a12.A ((Sm.refl [50, 51, 52, 53, 54, 55, 56, 57, 58, 59, 60, 61, 62, 63, 64, 65, 66, 67, 68, 69, 70] _).tr s13 (fun _ q => q) (by simp))
    · refine g_aload_n 14 dX9_make_13 rfl rfl ?_
      refine g_iload_n 15 dX9_make_14 rfl rfl ?_
      refine g_bipush (v := iZ (12)) 17 dX9_make_15 (by decide +kernel) rfl ?_
      obtain ⟨F50_34, ⟨F51_34, F52_34, F53_34, F54_34, F55_34, F56_34, F57_34, F58_34, F59_34, F60_34, F61_34, F62_34, F63_34, F64_34, F65_34, F66_34, F67_34, F68_34, F69_34, F70_34, kty_34, ktx_34⟩, ⟨r2_34, r5_34, r13_34, r14_34, r15_34, r16_34, r17_34, r18_34, r19_34, r20_34, r25_34, r26_34, r27_34, r28_34, r29_34, r30_34, r31_34, r35_34⟩, ⟨o53_34, o54_34, o55_34, o56_34, o57_34, o58_34, o59_34, o60_34, o61_34, o62_34, o63_34, o64_34, o65_34, o66_34, o67_34, o68_34, o69_34, o70_34⟩, hT_34⟩ := id H
      refine g_callV (z := mX9_readPairs) (As := [.int (iZ i), .int (iZ 12)]) 20 dX9_make_17 mwX9_readPairs ⟨by decide, by decide⟩ rfl wlX9_161 wiX9_readPairs wsX9_readPairs F50_34 rfl rfl rfl (nle rfl) (nle rfl) rfl ?_
      refine b_rp H (by omega) (fun h38 w39 B40 z35 rz35 p36 p37 H41 a42 s43 => ?_)
      have e44 := a42.1
      have n45 := H41.2.2.1.2.1
      refine rI ?_
      refine g_goto 30 dX9_make_20 rfl ?_
      refine g_istore_n (L1 := [some (.ref 50), some (.int (iZ i)), some (.int (iZ x)), some (.int (iZ z35))]) 31 dX9_make_30 (by decide) rfl rfl rfl ?_
      refine g_iload_n 32 dX9_make_31 rfl rfl ?_
      refine g_bipush (v := iZ (-9)) 34 dX9_make_32 (by decide +kernel) rfl ?_
      refine g_icZ_eq 42 37 dX9_make_34 rfl rfl (by omega) (by decide) (fun c46 => ?_) (fun c46 => ?_)
      · refine g_aload_n 43 dX9_make_42 rfl rfl ?_
        obtain ⟨F50_47, ⟨F51_47, F52_47, F53_47, F54_47, F55_47, F56_47, F57_47, F58_47, F59_47, F60_47, F61_47, F62_47, F63_47, F64_47, F65_47, F66_47, F67_47, F68_47, F69_47, F70_47, kty_47, ktx_47⟩, ⟨r2_47, r5_47, r13_47, r14_47, r15_47, r16_47, r17_47, r18_47, r19_47, r20_47, r25_47, r26_47, r27_47, r28_47, r29_47, r30_47, r31_47, r35_47⟩, ⟨o53_47, o54_47, o55_47, o56_47, o57_47, o58_47, o59_47, o60_47, o61_47, o62_47, o63_47, o64_47, o65_47, o66_47, o67_47, o68_47, o69_47, o70_47⟩, hT_47⟩ := id H41
        refine g_get 46 dX9_make_43 faX9_85_X9 F50_47 rfl rfl ?_
        refine g_bipush (v := iZ (12)) 48 dX9_make_46 (by decide +kernel) rfl ?_
        refine g_icZ_ne 54 51 dX9_make_48 rfl rfl (by omega) (by decide) (fun c48 => ?_) (fun c48 => ?_)
        · refine g_aload_n 55 dX9_make_54 rfl rfl ?_
          refine g_bipush (v := iZ (12)) 57 dX9_make_55 (by decide +kernel) rfl ?_
          refine g_aload_n 58 dX9_make_57 rfl rfl ?_
          refine g_get 61 dX9_make_58 faX9_85_X9 F50_47 rfl rfl ?_
          refine g_callV (z := mX9_move) (As := [.int (iZ 12), .int (iZ (w39 5))]) 64 dX9_make_61 mwX9_move ⟨by decide, by decide⟩ rfl wlX9_167 wiX9_move wsX9_move F50_47 rfl rfl rfl (nle rfl) (nle rfl) rfl ?_
          refine b_moveT H41 (by omega) ((p36 c46).1) (fun h49 B50 H51 a52 m53 g54 s55 => ?_)
          refine rV ?_
          refine g_aload_n 65 dX9_make_64 rfl rfl ?_
          refine g_iload_n 66 dX9_make_65 rfl rfl ?_
          refine g_iload_n 67 dX9_make_66 rfl rfl ?_
          refine g_bipush (v := iZ (-9)) 69 dX9_make_67 (by decide +kernel) rfl ?_
          obtain ⟨F50_56, ⟨F51_56, F52_56, F53_56, F54_56, F55_56, F56_56, F57_56, F58_56, F59_56, F60_56, F61_56, F62_56, F63_56, F64_56, F65_56, F66_56, F67_56, F68_56, F69_56, F70_56, kty_56, ktx_56⟩, ⟨r2_56, r5_56, r13_56, r14_56, r15_56, r16_56, r17_56, r18_56, r19_56, r20_56, r25_56, r26_56, r27_56, r28_56, r29_56, r30_56, r31_56, r35_56⟩, ⟨o53_56, o54_56, o55_56, o56_56, o57_56, o58_56, o59_56, o60_56, o61_56, o62_56, o63_56, o64_56, o65_56, o66_56, o67_56, o68_56, o69_56, o70_56⟩, hT_56⟩ := id H51
          refine g_callV (z := mX9_newTool) (As := [.int (iZ x), .int (iZ i), .int (iZ (-9))]) 72 dX9_make_69 mwX9_newTool ⟨by decide, by decide⟩ rfl wlX9_171 wiX9_newTool wsX9_newTool F50_56 rfl rfl rfl (nle rfl) (nle rfl) rfl ?_
          refine b_newT H51 (by omega) g54 (by omega) (by omega) (by omega) (by omega) (fun h57 w58 B59 H60 a61 n62 s63 => ?_)
          refine rI ?_
          refine g_iret rfl dX9_make_72 ?_
          have eR : (if x = 0 then prsE (B 53 i.toNat) (fun j => hb tx (200 * i + j)) else namE (B 53 i.toNat) (fun j => hb tx (200 * i + j))) = prsE (B 53 i.toNat) (fun j => hb tx (200 * i + j)) := if_pos (by omega)
          exact k _ tr w58 B59 (w39 5) ⟨by rw [eR]; exact mtP_k (by omega) p37 (by omega) (kp_ref a42 (by omega) (by omega) H.2.2.2.1.2.2.2.1 H41.2.2.2.1.2.2.2.1 m53 n62), rfl⟩ H60 ((a42.A.tr a52).tr a61) ((((Sm.refl [50, 51, 52, 53, 54, 55, 56, 57, 58, 59, 60, 61, 62, 63, 64, 65, 66, 67, 68, 69, 70] _).tr s43 (fun _ q => q) (by simp)).tr s55 (fun _ q => q) (by simp)).tr s63 (fun _ q => q) (by simp))
        · refine g_bipush (v := iZ (-3)) 53 dX9_make_51 (by decide +kernel) rfl ?_
          refine g_iret rfl dX9_make_53 ?_
          have eR : (if x = 0 then prsE (B 53 i.toNat) (fun j => hb tx (200 * i + j)) else namE (B 53 i.toNat) (fun j => hb tx (200 * i + j))) = prsE (B 53 i.toNat) (fun j => hb tx (200 * i + j)) := if_pos (by omega)
          exact k _ tr w39 B40 (-3) ⟨by rw [eR]; exact mt_full (by omega) p37 (by omega) rfl (by omega) (by rw [a42.1.2.1]) (a42.T (by omega) H.2.2.2.1.2.2.2.1), rfl⟩ H41 a42.A ((Sm.refl [50, 51, 52, 53, 54, 55, 56, 57, 58, 59, 60, 61, 62, 63, 64, 65, 66, 67, 68, 69, 70] _).tr s43 (fun _ q => q) (by simp))
      · refine g_bipush (v := iZ (-10)) 39 dX9_make_37 (by decide +kernel) rfl ?_
        refine g_iload_n 40 dX9_make_39 rfl rfl ?_
        refine g_isubZ ((-10) - z35) 41 dX9_make_40 (by omega) rfl ?_
        refine g_iret rfl dX9_make_41 ?_
        have eR : (if x = 0 then prsE (B 53 i.toNat) (fun j => hb tx (200 * i + j)) else namE (B 53 i.toNat) (fun j => hb tx (200 * i + j))) = prsE (B 53 i.toNat) (fun j => hb tx (200 * i + j)) := if_pos (by omega)
        exact k _ tr w39 B40 ((-10) - z35) ⟨by rw [eR]; exact mt_f (by omega) p37 (by omega) (by omega) (by rw [a42.1.2.1]) (a42.T (by omega) H.2.2.2.1.2.2.2.1), rfl⟩ H41 a42.A ((Sm.refl [50, 51, 52, 53, 54, 55, 56, 57, 58, 59, 60, 61, 62, 63, 64, 65, 66, 67, 68, 69, 70] _).tr s43 (fun _ q => q) (by simp))
  · refine g_iconst (v := iZ (-1)) 8 dX9_make_7 rfl rfl ?_
    refine g_iret rfl dX9_make_8 ?_
    exact k _ tr w B (-1) ⟨mtP_n (by omega), rfl⟩ H (AgC.refl _ _) (Sm.refl [50, 51, 52, 53, 54, 55, 56, 57, 58, 59, 60, 61, 62, 63, 64, 65, 66, 67, 68, 69, 70] _)
set_option maxRecDepth 100000 in
theorem b_pairs {l : Launch} {h : MH} {Q : Option Value → MH → Prop} {tr : Int64} {ty tx : Nat → Int32} {w : Nat → Int} {B : Nat → Nat → Int} {i : Int} (H : R9B h tr ty tx w B) (ri : rg i)  (k : ∀ (h1 : MH) (tr1 : Int64) (w1 : Nat → Int) (B1 : Nat → Nat → Int) (r : Int), (mtP (prsE (B 53 i.toNat) (fun j => hb tx (200 * i + j))) (w 5).toNat (refV B) (refB B) (refL B) 0 i r (w1 5).toNat (refV B1) (refB B1) (refL B1) ∧ tr1 = tr) → R9B h1 tr1 ty tx w1 B1 → AgC w B w1 B1 → Sm [50, 51, 52, 53, 54, 55, 56, 57, 58, 59, 60, 61, 62, 63, 64, 65, 66, 67, 68, 69, 70] h h1 → Q (some (.int (iZ r))) h1) : Go l mX9_pairs 0 [some (.ref 50), some (.int (iZ i))] [] h Q := by
  have n0 := H.2.2.1.2.1
  refine g_aload_n 1 dX9_pairs_0 rfl rfl ?_
  refine g_iload_n 2 dX9_pairs_1 rfl rfl ?_
  refine g_iconst (v := iZ (0)) 3 dX9_pairs_2 rfl rfl ?_
  obtain ⟨F50_1, ⟨F51_1, F52_1, F53_1, F54_1, F55_1, F56_1, F57_1, F58_1, F59_1, F60_1, F61_1, F62_1, F63_1, F64_1, F65_1, F66_1, F67_1, F68_1, F69_1, F70_1, kty_1, ktx_1⟩, ⟨r2_1, r5_1, r13_1, r14_1, r15_1, r16_1, r17_1, r18_1, r19_1, r20_1, r25_1, r26_1, r27_1, r28_1, r29_1, r30_1, r31_1, r35_1⟩, ⟨o53_1, o54_1, o55_1, o56_1, o57_1, o58_1, o59_1, o60_1, o61_1, o62_1, o63_1, o64_1, o65_1, o66_1, o67_1, o68_1, o69_1, o70_1⟩, hT_1⟩ := id H
  refine g_callV (z := mX9_make) (As := [.int (iZ i), .int (iZ 0)]) 6 dX9_pairs_3 mwX9_make ⟨by decide, by decide⟩ rfl wlX9_175 wiX9_make wsX9_make F50_1 rfl rfl rfl (nle rfl) (nle rfl) rfl ?_
  refine b_make H ri (by omega) (fun h3 t4 w5 B6 z2 rz2 H7 a8 s9 => ?_)
  refine rI ?_
  refine g_iret rfl dX9_pairs_6 ?_
  exact k _ t4 w5 B6 (z2) (by have q := rz2; rw [if_pos rfl] at q; exact q) H7 a8 ((Sm.refl [50, 51, 52, 53, 54, 55, 56, 57, 58, 59, 60, 61, 62, 63, 64, 65, 66, 67, 68, 69, 70] _).tr s9 (fun _ q => q) (by simp))
set_option maxRecDepth 100000 in
theorem b_named {l : Launch} {h : MH} {Q : Option Value → MH → Prop} {tr : Int64} {ty tx : Nat → Int32} {w : Nat → Int} {B : Nat → Nat → Int} {i : Int} (H : R9B h tr ty tx w B) (ri : rg i)  (k : ∀ (h1 : MH) (tr1 : Int64) (w1 : Nat → Int) (B1 : Nat → Nat → Int) (r : Int), (mtP (namE (B 53 i.toNat) (fun j => hb tx (200 * i + j))) (w 5).toNat (refV B) (refB B) (refL B) 1 i r (w1 5).toNat (refV B1) (refB B1) (refL B1) ∧ tr1 = tr) → R9B h1 tr1 ty tx w1 B1 → AgC w B w1 B1 → Sm [50, 51, 52, 53, 54, 55, 56, 57, 58, 59, 60, 61, 62, 63, 64, 65, 66, 67, 68, 69, 70] h h1 → Q (some (.int (iZ r))) h1) : Go l mX9_named 0 [some (.ref 50), some (.int (iZ i))] [] h Q := by
  have n0 := H.2.2.1.2.1
  refine g_aload_n 1 dX9_named_0 rfl rfl ?_
  refine g_iload_n 2 dX9_named_1 rfl rfl ?_
  refine g_iconst (v := iZ (1)) 3 dX9_named_2 rfl rfl ?_
  obtain ⟨F50_1, ⟨F51_1, F52_1, F53_1, F54_1, F55_1, F56_1, F57_1, F58_1, F59_1, F60_1, F61_1, F62_1, F63_1, F64_1, F65_1, F66_1, F67_1, F68_1, F69_1, F70_1, kty_1, ktx_1⟩, ⟨r2_1, r5_1, r13_1, r14_1, r15_1, r16_1, r17_1, r18_1, r19_1, r20_1, r25_1, r26_1, r27_1, r28_1, r29_1, r30_1, r31_1, r35_1⟩, ⟨o53_1, o54_1, o55_1, o56_1, o57_1, o58_1, o59_1, o60_1, o61_1, o62_1, o63_1, o64_1, o65_1, o66_1, o67_1, o68_1, o69_1, o70_1⟩, hT_1⟩ := id H
  refine g_callV (z := mX9_make) (As := [.int (iZ i), .int (iZ 1)]) 6 dX9_named_3 mwX9_make ⟨by decide, by decide⟩ rfl wlX9_175 wiX9_make wsX9_make F50_1 rfl rfl rfl (nle rfl) (nle rfl) rfl ?_
  refine b_make H ri (by omega) (fun h3 t4 w5 B6 z2 rz2 H7 a8 s9 => ?_)
  refine rI ?_
  refine g_iret rfl dX9_named_6 ?_
  exact k _ t4 w5 B6 (z2) (by have q := rz2; rw [if_neg (by decide)] at q; exact q) H7 a8 ((Sm.refl [50, 51, 52, 53, 54, 55, 56, 57, 58, 59, 60, 61, 62, 63, 64, 65, 66, 67, 68, 69, 70] _).tr s9 (fun _ q => q) (by simp))
set_option maxRecDepth 100000 in
theorem b_build {l : Launch} {h : MH} {Q : Option Value → MH → Prop} {tr : Int64} {ty tx : Nat → Int32} {w : Nat → Int} {B : Nat → Nat → Int} {t i : Int} (H : R9B h tr ty tx w B) (rt : rg t) (ri : rg i)  (k : ∀ (h1 : MH) (tr1 : Int64) (w1 : Nat → Int) (B1 : Nat → Nat → Int) (r : Int), (bdP (run0 (B 53 i.toNat) (fun j => hb tx (200 * i + j)) (B 56 t.toNat) (refB B t.toNat)) (w 5).toNat (refV B) (refB B) (refL B) t i r (w1 5).toNat (refV B1) (refB B1) (refL B1) ∧ tr1 = tr) → R9B h1 tr1 ty tx w1 B1 → AgC w B w1 B1 → Sm [50, 51, 52, 53, 54, 55, 56, 57, 58, 59, 60, 61, 62, 63, 64, 65, 66, 67, 68, 69, 70] h h1 → Q (some (.int (iZ r))) h1) : Go l mX9_build 0 [some (.ref 50), some (.int (iZ t)), some (.int (iZ i))] [] h Q := by
  have n0 := H.2.2.1.2.1
  refine g_aload_n 1 dX9_build_0 rfl rfl ?_
  refine g_iload_n 2 dX9_build_1 rfl rfl ?_
  obtain ⟨F50_1, ⟨F51_1, F52_1, F53_1, F54_1, F55_1, F56_1, F57_1, F58_1, F59_1, F60_1, F61_1, F62_1, F63_1, F64_1, F65_1, F66_1, F67_1, F68_1, F69_1, F70_1, kty_1, ktx_1⟩, ⟨r2_1, r5_1, r13_1, r14_1, r15_1, r16_1, r17_1, r18_1, r19_1, r20_1, r25_1, r26_1, r27_1, r28_1, r29_1, r30_1, r31_1, r35_1⟩, ⟨o53_1, o54_1, o55_1, o56_1, o57_1, o58_1, o59_1, o60_1, o61_1, o62_1, o63_1, o64_1, o65_1, o66_1, o67_1, o68_1, o69_1, o70_1⟩, hT_1⟩ := id H
  refine g_callV (z := mX9_isTool) (As := [.int (iZ t)]) 5 dX9_build_2 mwX9_isTool ⟨by decide, by decide⟩ rfl wlX9_178 wiX9_isTool wsX9_isTool F50_1 rfl rfl rfl (nle rfl) (nle rfl) rfl ?_
  refine b_isTool H rt (fun z2 rz2 => ?_)
  refine rI ?_
  refine g_ifZ_eq 15 8 dX9_build_5 rfl rfl (rg01 (by omega)) (fun c3 => ?_) (fun c3 => ?_)
  · refine g_iconst (v := iZ (-1)) 16 dX9_build_15 rfl rfl ?_
    refine g_iret rfl dX9_build_16 ?_
    exact k _ tr w B (-1) ⟨bdP_n (by omega), rfl⟩ H (AgC.refl _ _) (Sm.refl [50, 51, 52, 53, 54, 55, 56, 57, 58, 59, 60, 61, 62, 63, 64, 65, 66, 67, 68, 69, 70] _)
  · refine g_iload_n 9 dX9_build_8 rfl rfl ?_
    refine g_callS (z := mX9_isText) (As := [.int (iZ i)]) 12 dX9_build_9 mwX9_isText ⟨by decide, by decide⟩ rfl wlX9_81 wtX9_isText rfl (nle rfl) (nle rfl) rfl ?_
    refine n_isText  ri (fun z4 rz4 => ?_)
    refine rI ?_
    refine g_ifZ_ne 17 15 dX9_build_12 rfl rfl (rg01 (by omega)) (fun c5 => ?_) (fun c5 => ?_)
    · refine g_aload_n 18 dX9_build_17 rfl rfl ?_
      refine g_iload_n 19 dX9_build_18 rfl rfl ?_
      refine g_iload_n 20 dX9_build_19 rfl rfl ?_
      refine g_bipush (v := iZ (12)) 22 dX9_build_20 (by decide +kernel) rfl ?_
      refine g_callV (z := mX9_builds) (As := [.int (iZ t), .int (iZ i), .int (iZ 12)]) 25 dX9_build_22 mwX9_builds ⟨by decide, by decide⟩ rfl wlX9_211 wiX9_builds wsX9_builds F50_1 rfl rfl rfl (nle rfl) (nle rfl) rfl ?_
      refine b_blds H (by omega) (by omega) (by omega) ((H.2.2.2.2.2 _ (by omega) (by omega)).1) (fun h11 w12 B13 z6 rz6 p7 p8 p9 p10 H14 a15 s16 => ?_)
      have e17 := a15.1
      have n18 := H14.2.2.1.2.1
      refine rI ?_
      refine g_ifZ_eq 31 28 dX9_build_25 rfl rfl (by omega) (fun c19 => ?_) (fun c19 => ?_)
      · refine g_aload_n 32 dX9_build_31 rfl rfl ?_
        obtain ⟨F50_20, ⟨F51_20, F52_20, F53_20, F54_20, F55_20, F56_20, F57_20, F58_20, F59_20, F60_20, F61_20, F62_20, F63_20, F64_20, F65_20, F66_20, F67_20, F68_20, F69_20, F70_20, kty_20, ktx_20⟩, ⟨r2_20, r5_20, r13_20, r14_20, r15_20, r16_20, r17_20, r18_20, r19_20, r20_20, r25_20, r26_20, r27_20, r28_20, r29_20, r30_20, r31_20, r35_20⟩, ⟨o53_20, o54_20, o55_20, o56_20, o57_20, o58_20, o59_20, o60_20, o61_20, o62_20, o63_20, o64_20, o65_20, o66_20, o67_20, o68_20, o69_20, o70_20⟩, hT_20⟩ := id H14
        refine g_get 35 dX9_build_32 faX9_85_X9 F50_20 rfl rfl ?_
        refine g_bipush (v := iZ (12)) 37 dX9_build_35 (by decide +kernel) rfl ?_
        refine g_icZ_ne 43 40 dX9_build_37 rfl rfl (by omega) (by decide) (fun c21 => ?_) (fun c21 => ?_)
        · refine g_aload_n 44 dX9_build_43 rfl rfl ?_
          refine g_bipush (v := iZ (12)) 46 dX9_build_44 (by decide +kernel) rfl ?_
          refine g_aload_n 47 dX9_build_46 rfl rfl ?_
          refine g_get 50 dX9_build_47 faX9_85_X9 F50_20 rfl rfl ?_
          refine g_callV (z := mX9_move) (As := [.int (iZ 12), .int (iZ (w12 5))]) 53 dX9_build_50 mwX9_move ⟨by decide, by decide⟩ rfl wlX9_167 wiX9_move wsX9_move F50_20 rfl rfl rfl (nle rfl) (nle rfl) rfl ?_
          refine b_moveT H14 (by omega) ((p7 c19).1) (fun h22 B23 H24 a25 m26 g27 s28 => ?_)
          refine rV ?_
          refine g_aload_n 54 dX9_build_53 rfl rfl ?_
          refine g_iconst (v := iZ (2)) 55 dX9_build_54 rfl rfl ?_
          refine g_iload_n 56 dX9_build_55 rfl rfl ?_
          refine g_iload_n 57 dX9_build_56 rfl rfl ?_
          obtain ⟨F50_29, ⟨F51_29, F52_29, F53_29, F54_29, F55_29, F56_29, F57_29, F58_29, F59_29, F60_29, F61_29, F62_29, F63_29, F64_29, F65_29, F66_29, F67_29, F68_29, F69_29, F70_29, kty_29, ktx_29⟩, ⟨r2_29, r5_29, r13_29, r14_29, r15_29, r16_29, r17_29, r18_29, r19_29, r20_29, r25_29, r26_29, r27_29, r28_29, r29_29, r30_29, r31_29, r35_29⟩, ⟨o53_29, o54_29, o55_29, o56_29, o57_29, o58_29, o59_29, o60_29, o61_29, o62_29, o63_29, o64_29, o65_29, o66_29, o67_29, o68_29, o69_29, o70_29⟩, hT_29⟩ := id H24
          refine g_callV (z := mX9_newTool) (As := [.int (iZ 2), .int (iZ i), .int (iZ t)]) 60 dX9_build_57 mwX9_newTool ⟨by decide, by decide⟩ rfl wlX9_171 wiX9_newTool wsX9_newTool F50_29 rfl rfl rfl (nle rfl) (nle rfl) rfl ?_
          refine b_newT H24 (by omega) g27 (by decide) (by omega) (by omega) (by omega) (fun h30 w31 B32 H33 a34 n35 s36 => ?_)
          refine rI ?_
          refine g_iret rfl dX9_build_60 ?_
          exact k _ tr w31 B32 (w12 5) ⟨bd_k (by omega) p9 (by omega) (kp_ref a15 (by omega) (by omega) H.2.2.2.1.2.2.2.1 H14.2.2.2.1.2.2.2.1 m26 n35), rfl⟩ H33 ((a15.A.tr a25).tr a34) ((((Sm.refl [50, 51, 52, 53, 54, 55, 56, 57, 58, 59, 60, 61, 62, 63, 64, 65, 66, 67, 68, 69, 70] _).tr s16 (fun _ q => q) (by simp)).tr s28 (fun _ q => q) (by simp)).tr s36 (fun _ q => q) (by simp))
        · refine g_bipush (v := iZ (-3)) 42 dX9_build_40 (by decide +kernel) rfl ?_
          refine g_iret rfl dX9_build_42 ?_
          exact k _ tr w12 B13 (-3) ⟨bd_full (by omega) p9 (by omega) rfl (by omega) (by rw [a15.1.2.1]) (a15.T (by omega) H.2.2.2.1.2.2.2.1), rfl⟩ H14 a15.A ((Sm.refl [50, 51, 52, 53, 54, 55, 56, 57, 58, 59, 60, 61, 62, 63, 64, 65, 66, 67, 68, 69, 70] _).tr s16 (fun _ q => q) (by simp))
      · refine g_bipush (v := iZ (-2)) 30 dX9_build_28 (by decide +kernel) rfl ?_
        refine g_iret rfl dX9_build_30 ?_
        exact k _ tr w12 B13 (-2) ⟨bd_s (by omega) p9 (by omega) rfl (by rw [a15.1.2.1]) (a15.T (by omega) H.2.2.2.1.2.2.2.1), rfl⟩ H14 a15.A ((Sm.refl [50, 51, 52, 53, 54, 55, 56, 57, 58, 59, 60, 61, 62, 63, 64, 65, 66, 67, 68, 69, 70] _).tr s16 (fun _ q => q) (by simp))
    · refine g_iconst (v := iZ (-1)) 16 dX9_build_15 rfl rfl ?_
      refine g_iret rfl dX9_build_16 ?_
      exact k _ tr w B (-1) ⟨bdP_n (by omega), rfl⟩ H (AgC.refl _ _) (Sm.refl [50, 51, 52, 53, 54, 55, 56, 57, 58, 59, 60, 61, 62, 63, 64, 65, 66, 67, 68, 69, 70] _)
set_option maxRecDepth 100000 in
theorem b_check {l : Launch} {h : MH} {Q : Option Value → MH → Prop} {tr : Int64} {ty tx : Nat → Int32} {w : Nat → Int} {B : Nat → Nat → Int} {t x : Int} (H : R9B h tr ty tx w B) (rt : rg t) (rx : rg x)  (k : ∀ (h1 : MH) (tr1 : Int64) (w1 : Nat → Int) (B1 : Nat → Nat → Int) (r : Int), (ckP (w 5).toNat (refV B) (refB B) (refL B) t x r (refV B1) (refB B1) (refL B1) ∧ w1 5 = w 5 ∧ tr1 = tr) → R9B h1 tr1 ty tx w1 B1 → AgC w B w1 B1 → Sm [50, 51, 52, 53, 54, 55, 56, 57, 58, 59, 60, 61, 62, 63, 64, 65, 66, 67, 68, 69, 70] h h1 → Q (some (.int (iZ r))) h1) : Go l mX9_check 0 [some (.ref 50), some (.int (iZ t)), some (.int (iZ x)), none] [] h Q := by
  have n0 := H.2.2.1.2.1
  refine g_aload_n 1 dX9_check_0 rfl rfl ?_
  refine g_iload_n 2 dX9_check_1 rfl rfl ?_
  obtain ⟨F50_1, ⟨F51_1, F52_1, F53_1, F54_1, F55_1, F56_1, F57_1, F58_1, F59_1, F60_1, F61_1, F62_1, F63_1, F64_1, F65_1, F66_1, F67_1, F68_1, F69_1, F70_1, kty_1, ktx_1⟩, ⟨r2_1, r5_1, r13_1, r14_1, r15_1, r16_1, r17_1, r18_1, r19_1, r20_1, r25_1, r26_1, r27_1, r28_1, r29_1, r30_1, r31_1, r35_1⟩, ⟨o53_1, o54_1, o55_1, o56_1, o57_1, o58_1, o59_1, o60_1, o61_1, o62_1, o63_1, o64_1, o65_1, o66_1, o67_1, o68_1, o69_1, o70_1⟩, hT_1⟩ := id H
  refine g_callV (z := mX9_isTool) (As := [.int (iZ t)]) 5 dX9_check_2 mwX9_isTool ⟨by decide, by decide⟩ rfl wlX9_178 wiX9_isTool wsX9_isTool F50_1 rfl rfl rfl (nle rfl) (nle rfl) rfl ?_
  refine b_isTool H rt (fun z2 rz2 => ?_)
  refine rI ?_
  refine g_ifZ_eq 17 8 dX9_check_5 rfl rfl (rg01 (by omega)) (fun c3 => ?_) (fun c3 => ?_)
  · refine g_iconst (v := iZ (-1)) 18 dX9_check_17 rfl rfl ?_
    refine g_iret rfl dX9_check_18 ?_
    exact k _ tr w B (-1) ⟨ckP_n (by omega), rfl, rfl⟩ H (AgC.refl _ _) (Sm.refl [50, 51, 52, 53, 54, 55, 56, 57, 58, 59, 60, 61, 62, 63, 64, 65, 66, 67, 68, 69, 70] _)
  · refine g_iload_n 9 dX9_check_8 rfl rfl ?_
    refine g_iconst (v := iZ (0)) 10 dX9_check_9 rfl rfl ?_
    refine g_iconst (v := iZ (1)) 11 dX9_check_10 rfl rfl ?_
    refine g_callS (z := mX9_in) (As := [.int (iZ x), .int (iZ 0), .int (iZ 1)]) 14 dX9_check_11 mwX9_in ⟨by decide, by decide⟩ rfl wlX9_75 wtX9_in rfl (nle rfl) (nle rfl) rfl ?_
    refine n_in  rx (by decide) (by decide) (fun z4 rz4 => ?_)
    refine rI ?_
    refine g_ifZ_ne 19 17 dX9_check_14 rfl rfl (rg01 (by omega)) (fun c5 => ?_) (fun c5 => ?_)
    · refine g_aload_n 20 dX9_check_19 rfl rfl ?_
      refine g_get 23 dX9_check_20 faX9_29_X9 F50_1 rfl rfl ?_
      refine g_iload_n 24 dX9_check_23 rfl rfl ?_
      refine g_ialdZ (v := iZ ((B 57) t.toNat)) 25 dX9_check_24 F57_1 (by omega) (by omega) (by decide) rfl rfl ?_
      refine g_ifZ_eq 31 28 dX9_check_25 rfl rfl (o57_1 _) (fun c6 => ?_) (fun c6 => ?_)
      · refine g_aload_n 32 dX9_check_31 rfl rfl ?_
        refine g_get 35 dX9_check_32 faX9_38_X9 F50_1 rfl rfl ?_
        refine g_iload_n 36 dX9_check_35 rfl rfl ?_
        refine g_ialdZ (v := iZ ((B 60) t.toNat)) 37 dX9_check_36 F60_1 (by omega) (by omega) (by decide) rfl rfl ?_
        refine g_istore_n (L1 := [some (.ref 50), some (.int (iZ t)), some (.int (iZ x)), some (.int (iZ ((B 60) t.toNat)))]) 38 dX9_check_37 (by decide) rfl rfl rfl ?_
        refine g_aload_n 39 dX9_check_38 rfl rfl ?_
        refine g_get 42 dX9_check_39 faX9_38_X9 F50_1 rfl rfl ?_
        refine g_iload_n 43 dX9_check_42 rfl rfl ?_
        refine g_iload_n 44 dX9_check_43 rfl rfl ?_
        refine g_iastFj (t.toNat) 45 dX9_check_44 F60_1 (by omega) (by omega) (by decide) rfl rfl (fun h7 s8 f9 => ?_)
        refine g_iload_n 46 dX9_check_45 rfl rfl ?_
        refine g_iret rfl dX9_check_46 ?_
        have f10 := (s8.get (by decide) F50_1)
        have f11 := (s8.get (by decide) F51_1)
        have f12 := (s8.get (by decide) F52_1)
        have f13 := (s8.get (by decide) F53_1)
        have f14 := (s8.get (by decide) F54_1)
        have f15 := (s8.get (by decide) F55_1)
        have f16 := (s8.get (by decide) F56_1)
        have f17 := (s8.get (by decide) F57_1)
        have f18 := (s8.get (by decide) F58_1)
        have f19 := (s8.get (by decide) F59_1)
        have f20 := (s8.get (by decide) F61_1)
        have f21 := (s8.get (by decide) F62_1)
        have f22 := (s8.get (by decide) F63_1)
        have f23 := (s8.get (by decide) F64_1)
        have f24 := (s8.get (by decide) F65_1)
        have f25 := (s8.get (by decide) F66_1)
        have f26 := (s8.get (by decide) F67_1)
        have f27 := (s8.get (by decide) F68_1)
        have f28 := (s8.get (by decide) F69_1)
        have f29 := (s8.get (by decide) F70_1)
        have H30 : R9B _ (tr) ty tx w (va_up B 60 (va_up (B 60) t.toNat x)) := ⟨f10, ⟨f11, f12, f13, f14, f15, f16, f17, f18, f19, f9, f20, f21, f22, f23, f24, f25, f26, f27, f28, f29, kty_1, ktx_1⟩, ⟨r2_1, r5_1, r13_1, r14_1, r15_1, r16_1, r17_1, r18_1, r19_1, r20_1, r25_1, r26_1, r27_1, r28_1, r29_1, r30_1, r31_1, r35_1⟩, ⟨o53_1, o54_1, o55_1, o56_1, o57_1, o58_1, o59_1, (okr_up o60_1 _ rx), o61_1, o62_1, o63_1, o64_1, o65_1, o66_1, o67_1, o68_1, o69_1, o70_1⟩, H.2.2.2.2⟩
        have a31 : AgC w B w (va_up B 60 (va_up (B 60) t.toNat x)) := ⟨rfl, rfl, rfl, rfl, rfl, rfl⟩
        exact k _ (tr) w (va_up B 60 (va_up (B 60) t.toNat x)) ((B 60) t.toNat) ⟨ckP_r (by omega) (by omega) rfl, rfl, rfl⟩ H30 a31 ((Sm.refl [50, 51, 52, 53, 54, 55, 56, 57, 58, 59, 60, 61, 62, 63, 64, 65, 66, 67, 68, 69, 70] _).tr s8 (fun _ q => q) (by simp))
      · refine g_bipush (v := iZ (-2)) 30 dX9_check_28 (by decide +kernel) rfl ?_
        refine g_iret rfl dX9_check_30 ?_
        exact k _ tr w B (-2) ⟨ckP_s (by omega) (by show B 57 t.toNat ≠ 0; omega), rfl, rfl⟩ H (AgC.refl _ _) (Sm.refl [50, 51, 52, 53, 54, 55, 56, 57, 58, 59, 60, 61, 62, 63, 64, 65, 66, 67, 68, 69, 70] _)
    · refine g_iconst (v := iZ (-1)) 18 dX9_check_17 rfl rfl ?_
      refine g_iret rfl dX9_check_18 ?_
      exact k _ tr w B (-1) ⟨ckP_n (by omega), rfl, rfl⟩ H (AgC.refl _ _) (Sm.refl [50, 51, 52, 53, 54, 55, 56, 57, 58, 59, 60, 61, 62, 63, 64, 65, 66, 67, 68, 69, 70] _)

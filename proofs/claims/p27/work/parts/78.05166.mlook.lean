set_option maxRecDepth 100000 in
theorem b_tool {l : Launch} {h : MH} {Q : Option Value → MH → Prop} {tr : Int64} {ty tx : Nat → Int32} {w : Nat → Int} {B : Nat → Nat → Int} {t x : Int} (H : R9B h tr ty tx w B) (rt : rg t) (rx : rg x)  (k : ∀ r : Int, (tlP (w 5) (refV B) t x r) → Q (some (.int (iZ r))) h) : Go l mX9_tool 0 [some (.ref 50), some (.int (iZ t)), some (.int (iZ x))] [] h Q := by
  have n0 := H.2.2.1.2.1
  refine g_aload_n 1 dX9_tool_0 rfl rfl ?_
  refine g_iload_n 2 dX9_tool_1 rfl rfl ?_
  obtain ⟨F50_1, ⟨F51_1, F52_1, F53_1, F54_1, F55_1, F56_1, F57_1, F58_1, F59_1, F60_1, F61_1, F62_1, F63_1, F64_1, F65_1, F66_1, F67_1, F68_1, F69_1, F70_1, kty_1, ktx_1⟩, ⟨r2_1, r5_1, r13_1, r14_1, r15_1, r16_1, r17_1, r18_1, r19_1, r20_1, r25_1, r26_1, r27_1, r28_1, r29_1, r30_1, r31_1, r35_1⟩, ⟨o53_1, o54_1, o55_1, o56_1, o57_1, o58_1, o59_1, o60_1, o61_1, o62_1, o63_1, o64_1, o65_1, o66_1, o67_1, o68_1, o69_1, o70_1⟩, hT_1⟩ := id H
  refine g_callV (z := mX9_isTool) (As := [.int (iZ t)]) 5 dX9_tool_2 mwX9_isTool ⟨by decide, by decide⟩ rfl wlX9_178 wiX9_isTool wsX9_isTool F50_1 rfl rfl rfl (nle rfl) (nle rfl) rfl ?_
  refine b_isTool H rt (fun z2 rz2 => ?_)
  refine rI ?_
  refine g_ifZ_ne 10 8 dX9_tool_5 rfl rfl (rg01 (by omega)) (fun c3 => ?_) (fun c3 => ?_)
  · refine g_iload_n 11 dX9_tool_10 rfl rfl ?_
    by_cases c4 : x < 0 ∨ 4 < x
    · refine g_tabZO 79 dX9_tool_11 rx c4 rfl ?_
      refine g_iconst (v := iZ (-1)) 80 dX9_tool_79 rfl rfl ?_
      refine g_iret rfl dX9_tool_80 ?_
      have e0 : refV B 0 t.toNat = B 56 t.toNat := rfl
      have e1 : refV B 1 t.toNat = B 57 t.toNat := rfl
      have e2 : refV B 2 t.toNat = B 58 t.toNat := rfl
      have e3 : refV B 3 t.toNat = B 59 t.toNat := rfl
      have e4 : refV B 4 t.toNat = B 60 t.toNat := rfl
      exact k (-1) (by unfold tlP; omega) 
    · have c5 : x = 0 ∨ x = 1 ∨ x = 2 ∨ x = 3 ∨ x = 4 := by omega
      rcases c5 with c5 | c5 | c5 | c5 | c5
      · refine g_tabZI (0) 44 dX9_tool_11 rx c5 (by decide) (by decide) rfl rfl ?_
        refine g_aload_n 45 dX9_tool_44 rfl rfl ?_
        refine g_get 48 dX9_tool_45 faX9_26_X9 F50_1 rfl rfl ?_
        refine g_iload_n 49 dX9_tool_48 rfl rfl ?_
        have b6 := o56_1 ((t).toNat)
        refine g_ialdZ (v := iZ ((B 56) t.toNat)) 50 dX9_tool_49 F56_1 (by omega) (by omega) (by decide) rfl rfl ?_
        refine g_iret rfl dX9_tool_50 ?_
        have e0 : refV B 0 t.toNat = B 56 t.toNat := rfl
        have e1 : refV B 1 t.toNat = B 57 t.toNat := rfl
        have e2 : refV B 2 t.toNat = B 58 t.toNat := rfl
        have e3 : refV B 3 t.toNat = B 59 t.toNat := rfl
        have e4 : refV B 4 t.toNat = B 60 t.toNat := rfl
        exact k ((B 56) t.toNat) (by unfold tlP; omega) 
      · refine g_tabZI (1) 51 dX9_tool_11 rx c5 (by decide) (by decide) rfl rfl ?_
        refine g_aload_n 52 dX9_tool_51 rfl rfl ?_
        refine g_get 55 dX9_tool_52 faX9_29_X9 F50_1 rfl rfl ?_
        refine g_iload_n 56 dX9_tool_55 rfl rfl ?_
        refine g_ialdZ (v := iZ ((B 57) t.toNat)) 57 dX9_tool_56 F57_1 (by omega) (by omega) (by decide) rfl rfl ?_
        refine g_iret rfl dX9_tool_57 ?_
        have e0 : refV B 0 t.toNat = B 56 t.toNat := rfl
        have e1 : refV B 1 t.toNat = B 57 t.toNat := rfl
        have e2 : refV B 2 t.toNat = B 58 t.toNat := rfl
        have e3 : refV B 3 t.toNat = B 59 t.toNat := rfl
        have e4 : refV B 4 t.toNat = B 60 t.toNat := rfl
        exact k ((B 57) t.toNat) (by unfold tlP; omega) 
      · refine g_tabZI (2) 58 dX9_tool_11 rx c5 (by decide) (by decide) rfl rfl ?_
        refine g_aload_n 59 dX9_tool_58 rfl rfl ?_
        refine g_get 62 dX9_tool_59 faX9_32_X9 F50_1 rfl rfl ?_
        refine g_iload_n 63 dX9_tool_62 rfl rfl ?_
        have b7 := o58_1 ((t).toNat)
        refine g_ialdZ (v := iZ ((B 58) t.toNat)) 64 dX9_tool_63 F58_1 (by omega) (by omega) (by decide) rfl rfl ?_
        refine g_iret rfl dX9_tool_64 ?_
        have e0 : refV B 0 t.toNat = B 56 t.toNat := rfl
        have e1 : refV B 1 t.toNat = B 57 t.toNat := rfl
        have e2 : refV B 2 t.toNat = B 58 t.toNat := rfl
        have e3 : refV B 3 t.toNat = B 59 t.toNat := rfl
        have e4 : refV B 4 t.toNat = B 60 t.toNat := rfl
        exact k ((B 58) t.toNat) (by unfold tlP; omega) 
      · refine g_tabZI (3) 65 dX9_tool_11 rx c5 (by decide) (by decide) rfl rfl ?_
        refine g_aload_n 66 dX9_tool_65 rfl rfl ?_
        refine g_get 69 dX9_tool_66 faX9_35_X9 F50_1 rfl rfl ?_
        refine g_iload_n 70 dX9_tool_69 rfl rfl ?_
        have b8 := o59_1 ((t).toNat)
        refine g_ialdZ (v := iZ ((B 59) t.toNat)) 71 dX9_tool_70 F59_1 (by omega) (by omega) (by decide) rfl rfl ?_
        refine g_iret rfl dX9_tool_71 ?_
        have e0 : refV B 0 t.toNat = B 56 t.toNat := rfl
        have e1 : refV B 1 t.toNat = B 57 t.toNat := rfl
        have e2 : refV B 2 t.toNat = B 58 t.toNat := rfl
        have e3 : refV B 3 t.toNat = B 59 t.toNat := rfl
        have e4 : refV B 4 t.toNat = B 60 t.toNat := rfl
        exact k ((B 59) t.toNat) (by unfold tlP; omega) 
      · refine g_tabZI (4) 72 dX9_tool_11 rx c5 (by decide) (by decide) rfl rfl ?_
        refine g_aload_n 73 dX9_tool_72 rfl rfl ?_
        refine g_get 76 dX9_tool_73 faX9_38_X9 F50_1 rfl rfl ?_
        refine g_iload_n 77 dX9_tool_76 rfl rfl ?_
        refine g_ialdZ (v := iZ ((B 60) t.toNat)) 78 dX9_tool_77 F60_1 (by omega) (by omega) (by decide) rfl rfl ?_
        refine g_iret rfl dX9_tool_78 ?_
        have e0 : refV B 0 t.toNat = B 56 t.toNat := rfl
        have e1 : refV B 1 t.toNat = B 57 t.toNat := rfl
        have e2 : refV B 2 t.toNat = B 58 t.toNat := rfl
        have e3 : refV B 3 t.toNat = B 59 t.toNat := rfl
        have e4 : refV B 4 t.toNat = B 60 t.toNat := rfl
        exact k ((B 60) t.toNat) (by unfold tlP; omega) 
  · refine g_iconst (v := iZ (-1)) 9 dX9_tool_8 rfl rfl ?_
    refine g_iret rfl dX9_tool_9 ?_
    have e0 : refV B 0 t.toNat = B 56 t.toNat := rfl
    have e1 : refV B 1 t.toNat = B 57 t.toNat := rfl
    have e2 : refV B 2 t.toNat = B 58 t.toNat := rfl
    have e3 : refV B 3 t.toNat = B 59 t.toNat := rfl
    have e4 : refV B 4 t.toNat = B 60 t.toNat := rfl
    exact k (-1) (by unfold tlP; omega) 
set_option maxRecDepth 100000 in
theorem b_code {l : Launch} {h : MH} {Q : Option Value → MH → Prop} {tr : Int64} {ty tx : Nat → Int32} {w : Nat → Int} {B : Nat → Nat → Int} {t j x : Int} (H : R9B h tr ty tx w B) (rt : rg t) (rj : rg j) (rx : rg x)  (k : ∀ r : Int, (cdP (w 5) (refV B) (refB B) (refL B) t j x r) → Q (some (.int (iZ r))) h) : Go l mX9_code 0 [some (.ref 50), some (.int (iZ t)), some (.int (iZ j)), some (.int (iZ x))] [] h Q := by
  have n0 := H.2.2.1.2.1
  refine g_aload_n 1 dX9_code_0 rfl rfl ?_
  refine g_iload_n 2 dX9_code_1 rfl rfl ?_
  obtain ⟨F50_1, ⟨F51_1, F52_1, F53_1, F54_1, F55_1, F56_1, F57_1, F58_1, F59_1, F60_1, F61_1, F62_1, F63_1, F64_1, F65_1, F66_1, F67_1, F68_1, F69_1, F70_1, kty_1, ktx_1⟩, ⟨r2_1, r5_1, r13_1, r14_1, r15_1, r16_1, r17_1, r18_1, r19_1, r20_1, r25_1, r26_1, r27_1, r28_1, r29_1, r30_1, r31_1, r35_1⟩, ⟨o53_1, o54_1, o55_1, o56_1, o57_1, o58_1, o59_1, o60_1, o61_1, o62_1, o63_1, o64_1, o65_1, o66_1, o67_1, o68_1, o69_1, o70_1⟩, hT_1⟩ := id H
  refine g_callV (z := mX9_isTool) (As := [.int (iZ t)]) 5 dX9_code_2 mwX9_isTool ⟨by decide, by decide⟩ rfl wlX9_178 wiX9_isTool wsX9_isTool F50_1 rfl rfl rfl (nle rfl) (nle rfl) rfl ?_
  refine b_isTool H rt (fun z2 rz2 => ?_)
  refine rI ?_
  refine g_ifZ_eq 33 8 dX9_code_5 rfl rfl (rg01 (by omega)) (fun c3 => ?_) (fun c3 => ?_)
  · refine g_iconst (v := iZ (-1)) 34 dX9_code_33 rfl rfl ?_
    refine g_iret rfl dX9_code_34 ?_
    have e0 : refV B 0 t.toNat = B 56 t.toNat := rfl
    exact k (-1) (by unfold cdP; omega) 
  · refine g_iload_n 9 dX9_code_8 rfl rfl ?_
    refine g_iconst (v := iZ (0)) 10 dX9_code_9 rfl rfl ?_
    refine g_aload_n 11 dX9_code_10 rfl rfl ?_
    refine g_get 14 dX9_code_11 faX9_26_X9 F50_1 rfl rfl ?_
    refine g_iload_n 15 dX9_code_14 rfl rfl ?_
    have b4 := o56_1 ((t).toNat)
    refine g_ialdZ (v := iZ ((B 56) t.toNat)) 16 dX9_code_15 F56_1 (by omega) (by omega) (by decide) rfl rfl ?_
    refine g_iconst (v := iZ (1)) 17 dX9_code_16 rfl rfl ?_
    refine g_isubZ (((B 56) t.toNat) - 1) 18 dX9_code_17 (by omega) rfl ?_
    refine g_callS (z := mX9_in) (As := [.int (iZ j), .int (iZ 0), .int (iZ (((B 56) t.toNat) - 1))]) 21 dX9_code_18 mwX9_in ⟨by decide, by decide⟩ rfl wlX9_75 wtX9_in rfl (nle rfl) (nle rfl) rfl ?_
    refine n_in  rj (by decide) (by omega) (fun z5 rz5 => ?_)
    refine rI ?_
    refine g_ifZ_eq 33 24 dX9_code_21 rfl rfl (rg01 (by omega)) (fun c6 => ?_) (fun c6 => ?_)
    · refine g_iconst (v := iZ (-1)) 34 dX9_code_33 rfl rfl ?_
      refine g_iret rfl dX9_code_34 ?_
      have e0 : refV B 0 t.toNat = B 56 t.toNat := rfl
      exact k (-1) (by unfold cdP; omega) 
    · refine g_iload_n 25 dX9_code_24 rfl rfl ?_
      refine g_iconst (v := iZ (0)) 26 dX9_code_25 rfl rfl ?_
      refine g_iconst (v := iZ (1)) 27 dX9_code_26 rfl rfl ?_
      refine g_callS (z := mX9_in) (As := [.int (iZ x), .int (iZ 0), .int (iZ 1)]) 30 dX9_code_27 mwX9_in ⟨by decide, by decide⟩ rfl wlX9_75 wtX9_in rfl (nle rfl) (nle rfl) rfl ?_
      refine n_in  rx (by decide) (by decide) (fun z7 rz7 => ?_)
      refine rI ?_
      refine g_ifZ_ne 35 33 dX9_code_30 rfl rfl (rg01 (by omega)) (fun c8 => ?_) (fun c8 => ?_)
      · refine g_iload_n 36 dX9_code_35 rfl rfl ?_
        refine g_ifZ_ne 54 39 dX9_code_36 rfl rfl rx (fun c9 => ?_) (fun c9 => ?_)
        · refine g_aload_n 55 dX9_code_54 rfl rfl ?_
          refine g_get 58 dX9_code_55 faX9_23_X9 F50_1 rfl rfl ?_
          refine g_sipush (v := iZ (256)) 61 dX9_code_58 (by decide +kernel) rfl ?_
          refine g_iload_n 62 dX9_code_61 rfl rfl ?_
          refine g_imulZ (256 * t) 63 dX9_code_62 (by omega) rfl ?_
          refine g_iload_n 64 dX9_code_63 rfl rfl ?_
          refine g_iaddZ ((256 * t) + j) 65 dX9_code_64 (by omega) rfl ?_
          have b10 := o55_1 (((256 * t) + j).toNat)
          refine g_ialdZ (v := iZ ((B 55) ((256 * t) + j).toNat)) 66 dX9_code_65 F55_1 (by omega) (by omega) (by decide) rfl rfl ?_
          refine g_iret rfl dX9_code_66 ?_
          have e0 : refV B 0 t.toNat = B 56 t.toNat := rfl
          have e1 : refL B t.toNat j.toNat = (B 55) ((256 * t) + j).toNat := congrArg (B 55) (by omega)
          exact k ((B 55) ((256 * t) + j).toNat) (by unfold cdP; omega) 
        · refine g_aload_n 40 dX9_code_39 rfl rfl ?_
          refine g_get 43 dX9_code_40 faX9_20_X9 F50_1 rfl rfl ?_
          refine g_sipush (v := iZ (256)) 46 dX9_code_43 (by decide +kernel) rfl ?_
          refine g_iload_n 47 dX9_code_46 rfl rfl ?_
          refine g_imulZ (256 * t) 48 dX9_code_47 (by omega) rfl ?_
          refine g_iload_n 49 dX9_code_48 rfl rfl ?_
          refine g_iaddZ ((256 * t) + j) 50 dX9_code_49 (by omega) rfl ?_
          refine g_ialdZ (v := iZ ((B 54) ((256 * t) + j).toNat)) 51 dX9_code_50 F54_1 (by omega) (by omega) (by decide) rfl rfl ?_
          refine g_goto 66 dX9_code_51 rfl ?_
          refine g_iret rfl dX9_code_66 ?_
          have e0 : refV B 0 t.toNat = B 56 t.toNat := rfl
          have e1 : refB B t.toNat j.toNat = (B 54) ((256 * t) + j).toNat := congrArg (B 54) (by omega)
          exact k ((B 54) ((256 * t) + j).toNat) (by unfold cdP; omega) 
      · refine g_iconst (v := iZ (-1)) 34 dX9_code_33 rfl rfl ?_
        refine g_iret rfl dX9_code_34 ?_
        have e0 : refV B 0 t.toNat = B 56 t.toNat := rfl
        exact k (-1) (by unfold cdP; omega) 
theorem rnP_at {q : Nat → Int} {x : Int} (h : 0 ≤ x ∧ x ≤ 5) : rnP q x (q x.toNat) := ⟨fun e => by subst e; rfl, fun e => by subst e; rfl, fun e => by subst e; rfl, fun e => by subst e; rfl, fun e => by subst e; rfl, fun e => by subst e; rfl, fun e => by omega⟩
set_option maxRecDepth 100000 in
theorem b_ran {l : Launch} {h : MH} {Q : Option Value → MH → Prop} {tr : Int64} {ty tx : Nat → Int32} {w : Nat → Int} {B : Nat → Nat → Int} {x : Int} (H : R9B h tr ty tx w B) (rx : rg x)  (k : ∀ r : Int, (rnP (B 65) x r) → Q (some (.int (iZ r))) h) : Go l mX9_ran 0 [some (.ref 50), some (.int (iZ x))] [] h Q := by
  have n0 := H.2.2.1.2.1
  refine g_iload_n 1 dX9_ran_0 rfl rfl ?_
  refine g_iconst (v := iZ (0)) 2 dX9_ran_1 rfl rfl ?_
  refine g_iconst (v := iZ (5)) 3 dX9_ran_2 rfl rfl ?_
  refine g_callS (z := mX9_in) (As := [.int (iZ x), .int (iZ 0), .int (iZ 5)]) 6 dX9_ran_3 mwX9_in ⟨by decide, by decide⟩ rfl wlX9_75 wtX9_in rfl (nle rfl) (nle rfl) rfl ?_
  refine n_in  rx (by decide) (by decide) (fun z1 rz1 => ?_)
  refine rI ?_
  refine g_ifZ_eq 18 9 dX9_ran_6 rfl rfl (rg01 (by omega)) (fun c2 => ?_) (fun c2 => ?_)
  · refine g_iconst (v := iZ (-1)) 19 dX9_ran_18 rfl rfl ?_
    refine g_iret rfl dX9_ran_19 ?_
    exact k (-1) (by unfold rnP; omega) 
  · refine g_aload_n 10 dX9_ran_9 rfl rfl ?_
    obtain ⟨F50_3, ⟨F51_3, F52_3, F53_3, F54_3, F55_3, F56_3, F57_3, F58_3, F59_3, F60_3, F61_3, F62_3, F63_3, F64_3, F65_3, F66_3, F67_3, F68_3, F69_3, F70_3, kty_3, ktx_3⟩, ⟨r2_3, r5_3, r13_3, r14_3, r15_3, r16_3, r17_3, r18_3, r19_3, r20_3, r25_3, r26_3, r27_3, r28_3, r29_3, r30_3, r31_3, r35_3⟩, ⟨o53_3, o54_3, o55_3, o56_3, o57_3, o58_3, o59_3, o60_3, o61_3, o62_3, o63_3, o64_3, o65_3, o66_3, o67_3, o68_3, o69_3, o70_3⟩, hT_3⟩ := id H
    refine g_get 13 dX9_ran_10 faX9_53_X9 F50_3 rfl rfl ?_
    refine g_iload_n 14 dX9_ran_13 rfl rfl ?_
    refine g_ialdZ (v := iZ ((B 65) x.toNat)) 15 dX9_ran_14 F65_3 (by omega) (by omega) (by decide) rfl rfl ?_
    refine g_goto 19 dX9_ran_15 rfl ?_
    refine g_iret rfl dX9_ran_19 ?_
    exact k ((B 65) x.toNat) (rnP_at (by omega)) 
set_option maxRecDepth 100000 in
theorem b_tape {l : Launch} {h : MH} {Q : Option Value → MH → Prop} {tr : Int64} {ty tx : Nat → Int32} {w : Nat → Int} {B : Nat → Nat → Int} {j x : Int} (H : R9B h tr ty tx w B) (rj : rg j) (rx : rg x)  (k : ∀ r : Int, (tpP (B 65) (B 67) (B 66) j x r) → Q (some (.int (iZ r))) h) : Go l mX9_tape 0 [some (.ref 50), some (.int (iZ j)), some (.int (iZ x))] [] h Q := by
  have n0 := H.2.2.1.2.1
  have hq := H.2.2.2.2.1
  refine g_iload_n 1 dX9_tape_0 rfl rfl ?_
  refine g_iconst (v := iZ (0)) 2 dX9_tape_1 rfl rfl ?_
  refine g_iconst (v := iZ (1)) 3 dX9_tape_2 rfl rfl ?_
  refine g_callS (z := mX9_in) (As := [.int (iZ x), .int (iZ 0), .int (iZ 1)]) 6 dX9_tape_3 mwX9_in ⟨by decide, by decide⟩ rfl wlX9_75 wtX9_in rfl (nle rfl) (nle rfl) rfl ?_
  refine n_in  rx (by decide) (by decide) (fun z1 rz1 => ?_)
  refine rI ?_
  refine g_ifZ_eq 35 9 dX9_tape_6 rfl rfl (rg01 (by omega)) (fun c2 => ?_) (fun c2 => ?_)
  · refine g_iconst (v := iZ (-1)) 36 dX9_tape_35 rfl rfl ?_
    refine g_iret rfl dX9_tape_36 ?_
    exact k (-1) (by unfold tpP; omega) 
  · refine g_iload_n 10 dX9_tape_9 rfl rfl ?_
    refine g_iconst (v := iZ (0)) 11 dX9_tape_10 rfl rfl ?_
    refine g_iload_n 12 dX9_tape_11 rfl rfl ?_
    refine g_ifZ_ne 26 15 dX9_tape_12 rfl rfl rx (fun c3 => ?_) (fun c3 => ?_)
    · refine g_sipush (v := iZ (255)) 29 dX9_tape_26 (by decide +kernel) rfl ?_
      refine g_callS (z := mX9_in) (As := [.int (iZ j), .int (iZ 0), .int (iZ 255)]) 32 dX9_tape_29 mwX9_in ⟨by decide, by decide⟩ rfl wlX9_75 wtX9_in rfl (nle rfl) (nle rfl) rfl ?_
      refine n_in  rj (by decide) (by decide) (fun z4 rz4 => ?_)
      refine rI ?_
      refine g_ifZ_ne 37 35 dX9_tape_32 rfl rfl (rg01 (by omega)) (fun c5 => ?_) (fun c5 => ?_)
      · refine g_iload_n 38 dX9_tape_37 rfl rfl ?_
        refine g_ifZ_ne 50 41 dX9_tape_38 rfl rfl rx (fun _ => ?_) (fun q => absurd q (by omega))
        refine g_aload_n 51 dX9_tape_50 rfl rfl ?_
        obtain ⟨F50_6, ⟨F51_6, F52_6, F53_6, F54_6, F55_6, F56_6, F57_6, F58_6, F59_6, F60_6, F61_6, F62_6, F63_6, F64_6, F65_6, F66_6, F67_6, F68_6, F69_6, F70_6, kty_6, ktx_6⟩, ⟨r2_6, r5_6, r13_6, r14_6, r15_6, r16_6, r17_6, r18_6, r19_6, r20_6, r25_6, r26_6, r27_6, r28_6, r29_6, r30_6, r31_6, r35_6⟩, ⟨o53_6, o54_6, o55_6, o56_6, o57_6, o58_6, o59_6, o60_6, o61_6, o62_6, o63_6, o64_6, o65_6, o66_6, o67_6, o68_6, o69_6, o70_6⟩, hT_6⟩ := id H
        refine g_get 54 dX9_tape_51 faX9_59_X9 F50_6 rfl rfl ?_
        refine g_iload_n 55 dX9_tape_54 rfl rfl ?_
        refine g_ialdZ (v := iZ ((B 67) j.toNat)) 56 dX9_tape_55 F67_6 (by omega) (by omega) (by decide) rfl rfl ?_
        refine g_iret rfl dX9_tape_56 ?_
        exact k ((B 67) j.toNat) (by unfold tpP; omega) 
      · refine g_iconst (v := iZ (-1)) 36 dX9_tape_35 rfl rfl ?_
        refine g_iret rfl dX9_tape_36 ?_
        exact k (-1) (by unfold tpP; omega) 
    · refine g_aload_n 16 dX9_tape_15 rfl rfl ?_
      obtain ⟨F50_7, ⟨F51_7, F52_7, F53_7, F54_7, F55_7, F56_7, F57_7, F58_7, F59_7, F60_7, F61_7, F62_7, F63_7, F64_7, F65_7, F66_7, F67_7, F68_7, F69_7, F70_7, kty_7, ktx_7⟩, ⟨r2_7, r5_7, r13_7, r14_7, r15_7, r16_7, r17_7, r18_7, r19_7, r20_7, r25_7, r26_7, r27_7, r28_7, r29_7, r30_7, r31_7, r35_7⟩, ⟨o53_7, o54_7, o55_7, o56_7, o57_7, o58_7, o59_7, o60_7, o61_7, o62_7, o63_7, o64_7, o65_7, o66_7, o67_7, o68_7, o69_7, o70_7⟩, hT_7⟩ := id H
      refine g_get 19 dX9_tape_16 faX9_53_X9 F50_7 rfl rfl ?_
      refine g_iconst (v := iZ (5)) 20 dX9_tape_19 rfl rfl ?_
      refine g_ialdZ (v := iZ ((B 65) 5)) 21 dX9_tape_20 F65_7 (by decide) (by decide) (by decide) rfl rfl ?_
      refine g_iconst (v := iZ (1)) 22 dX9_tape_21 rfl rfl ?_
      refine g_isubZ (((B 65) 5) - 1) 23 dX9_tape_22 (by omega) rfl ?_
      refine g_goto 29 dX9_tape_23 rfl ?_
      refine g_callS (z := mX9_in) (As := [.int (iZ j), .int (iZ 0), .int (iZ (((B 65) 5) - 1))]) 32 dX9_tape_29 mwX9_in ⟨by decide, by decide⟩ rfl wlX9_75 wtX9_in rfl (nle rfl) (nle rfl) rfl ?_
      refine n_in  rj (by decide) (by omega) (fun z8 rz8 => ?_)
      refine rI ?_
      refine g_ifZ_ne 37 35 dX9_tape_32 rfl rfl (rg01 (by omega)) (fun c9 => ?_) (fun c9 => ?_)
      · refine g_iload_n 38 dX9_tape_37 rfl rfl ?_
        refine g_ifZ_ne 50 41 dX9_tape_38 rfl rfl rx (fun q => absurd q (by omega)) (fun _ => ?_)
        refine g_aload_n 42 dX9_tape_41 rfl rfl ?_
        refine g_get 45 dX9_tape_42 faX9_56_X9 F50_7 rfl rfl ?_
        refine g_iload_n 46 dX9_tape_45 rfl rfl ?_
        refine g_ialdZ (v := iZ ((B 66) j.toNat)) 47 dX9_tape_46 F66_7 (by omega) (by omega) (by decide) rfl rfl ?_
        refine g_goto 56 dX9_tape_47 rfl ?_
        refine g_iret rfl dX9_tape_56 ?_
        exact k ((B 66) j.toNat) (by unfold tpP; omega) 
      · refine g_iconst (v := iZ (-1)) 36 dX9_tape_35 rfl rfl ?_
        refine g_iret rfl dX9_tape_36 ?_
        exact k (-1) (by unfold tpP; omega) 
set_option maxRecDepth 100000 in
theorem b_trace {l : Launch} {h : MH} {Q : Option Value → MH → Prop} {tr : Int64} {ty tx : Nat → Int32} {w : Nat → Int} {B : Nat → Nat → Int} (H : R9B h tr ty tx w B) (k : Q (some (.long tr)) h) : Go l mX9_trace 0 [some (.ref 50)] [] h Q := by
  refine g_aload_n 1 dX9_trace_0 rfl rfl ?_
  obtain ⟨F50_1, ⟨F51_1, F52_1, F53_1, F54_1, F55_1, F56_1, F57_1, F58_1, F59_1, F60_1, F61_1, F62_1, F63_1, F64_1, F65_1, F66_1, F67_1, F68_1, F69_1, F70_1, kty_1, ktx_1⟩, ⟨r2_1, r5_1, r13_1, r14_1, r15_1, r16_1, r17_1, r18_1, r19_1, r20_1, r25_1, r26_1, r27_1, r28_1, r29_1, r30_1, r31_1, r35_1⟩, ⟨o53_1, o54_1, o55_1, o56_1, o57_1, o58_1, o59_1, o60_1, o61_1, o62_1, o63_1, o64_1, o65_1, o66_1, o67_1, o68_1, o69_1, o70_1⟩, hT_1⟩ := id H
  refine g_get 4 dX9_trace_1 faX9_245_X9 F50_1 rfl rfl ?_
  refine g_lret rfl dX9_trace_4 ?_
  exact k

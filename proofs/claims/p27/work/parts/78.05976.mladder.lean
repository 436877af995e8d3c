set_option maxRecDepth 100000 in
theorem b_ladder {l : Launch} {h : MH} {Q : Option Value → MH → Prop} {tr : Int64} {ty tx : Nat → Int32} {w : Nat → Int} {B : Nat → Nat → Int} {a b k0 : Int} (H : R9B h tr ty tx w B) (ra : rg a) (rb : rg b) (rk0 : rg k0) (k : ∀ (h1 : MH) (B1 : Nat → Nat → Int) (r : Int), (0 ≤ a ∧ a < w 35 ∧ 0 ≤ b ∧ b < w 35 ∧ -1 ≤ k0 → r = ldF (w 35) (B 68) (B 69) a b k0) → (¬ (0 ≤ a ∧ a < w 35 ∧ 0 ≤ b ∧ b < w 35 ∧ -1 ≤ k0) → r = -1) → R9B h1 tr ty tx w B1 → AgB w B w B1 → Sm [50, 51, 52, 53, 54, 55, 56, 57, 58, 59, 60, 61, 62, 63, 64, 65, 66, 67, 68, 69, 70] h h1 → Q (some (.int (iZ r))) h1) : Go l mX9_ladder 0 [some (.ref 50), some (.int (iZ a)), some (.int (iZ b)), some (.int (iZ k0)), none, none, none, none, none] [] h Q := by
  refine g_aload_n 1 dX9_ladder_0 rfl rfl ?_
  refine g_iload_n 2 dX9_ladder_1 rfl rfl ?_
  obtain ⟨F50_1, ⟨F51_1, F52_1, F53_1, F54_1, F55_1, F56_1, F57_1, F58_1, F59_1, F60_1, F61_1, F62_1, F63_1, F64_1, F65_1, F66_1, F67_1, F68_1, F69_1, F70_1, kty_1, ktx_1⟩, ⟨r2_1, r5_1, r13_1, r14_1, r15_1, r16_1, r17_1, r18_1, r19_1, r20_1, r25_1, r26_1, r27_1, r28_1, r29_1, r30_1, r31_1, r35_1⟩, ⟨o53_1, o54_1, o55_1, o56_1, o57_1, o58_1, o59_1, o60_1, o61_1, o62_1, o63_1, o64_1, o65_1, o66_1, o67_1, o68_1, o69_1, o70_1⟩, hT_1⟩ := id H
  refine g_callV (z := mX9_isEdition) (As := [.int (iZ a)]) 5 dX9_ladder_2 mwX9_isEdition ⟨by decide, by decide⟩ rfl wlX9_239 wiX9_isEdition wsX9_isEdition F50_1 rfl rfl rfl (nle rfl) (nle rfl) rfl ?_
  refine b_isEd H ra (fun z2 rz2 => ?_)
  refine rI ?_
  refine g_ifZ_eq 21 8 dX9_ladder_5 rfl rfl (rg01 (by omega)) (fun c3 => ?_) (fun c3 => ?_)
  · refine g_iconst (v := iZ (-1)) 22 dX9_ladder_21 rfl rfl ?_
    refine g_iret rfl dX9_ladder_22 ?_
    exact k h B (-1) (fun q => by omega) (fun _ => rfl) H (AgB.refl _ _) (Sm.refl _ _)
  · refine g_aload_n 9 dX9_ladder_8 rfl rfl ?_
    refine g_iload_n 10 dX9_ladder_9 rfl rfl ?_
    refine g_callV (z := mX9_isEdition) (As := [.int (iZ b)]) 13 dX9_ladder_10 mwX9_isEdition ⟨by decide, by decide⟩ rfl wlX9_239 wiX9_isEdition wsX9_isEdition F50_1 rfl rfl rfl (nle rfl) (nle rfl) rfl ?_
    refine b_isEd H rb (fun z4 rz4 => ?_)
    refine rI ?_
    refine g_ifZ_eq 21 16 dX9_ladder_13 rfl rfl (rg01 (by omega)) (fun c5 => ?_) (fun c5 => ?_)
    · refine g_iconst (v := iZ (-1)) 22 dX9_ladder_21 rfl rfl ?_
      refine g_iret rfl dX9_ladder_22 ?_
      exact k h B (-1) (fun q => by omega) (fun _ => rfl) H (AgB.refl _ _) (Sm.refl _ _)
    · refine g_iload_n 17 dX9_ladder_16 rfl rfl ?_
      refine g_iconst (v := iZ (-1)) 18 dX9_ladder_17 rfl rfl ?_
      refine g_icZ_ge 23 21 dX9_ladder_18 rfl rfl rk0 (by decide) (fun c6 => ?_) (fun c6 => ?_)
      · refine g_aload_n 24 dX9_ladder_23 rfl rfl ?_
        refine g_iload_n 25 dX9_ladder_24 rfl rfl ?_
        refine g_iload_n 26 dX9_ladder_25 rfl rfl ?_
        refine g_iconst (v := iZ (0)) 27 dX9_ladder_26 rfl rfl ?_
        refine g_callV (z := mX9_climb) (As := [.int (iZ a), .int (iZ b), .int (iZ 0)]) 30 dX9_ladder_27 mwX9_climb ⟨by decide, by decide⟩ rfl wlX9_242 wiX9_climb wsX9_climb F50_1 rfl rfl rfl (nle rfl) (nle rfl) rfl ?_
        refine b_climb H (by omega) (by omega) (by decide) (fun h7 g8 e9 H10 s11 => ?_)
        have erg8 := e9 a.toNat (by omega)
        have l12 := lvE_rg (w 35) (B 68) (B 69) a b (0) a.toNat
        change g8 a.toNat = lvE (w 35) (B 68) (B 69) a b (0) a.toNat at erg8
        refine rI ?_
        refine g_istore (L1 := [some (.ref 50), some (.int (iZ a)), some (.int (iZ b)), some (.int (iZ k0)), some (.int (iZ (g8 a.toNat))), none, none, none, none]) 32 dX9_ladder_30 (by decide) rfl rfl rfl ?_
        refine g_iload 34 dX9_ladder_32 rfl rfl ?_
        refine g_bipush (v := iZ (-9)) 36 dX9_ladder_34 (by decide +kernel) rfl ?_
        refine g_icZ_eq 43 39 dX9_ladder_36 rfl rfl (by omega) (by decide) (fun c13 => ?_) (fun c13 => ?_)
        · refine g_iload 45 dX9_ladder_43 rfl rfl ?_
          refine g_iret rfl dX9_ladder_45 ?_
          refine k _ _ (g8 a.toNat) (fun q => ?_) (fun q => by omega) H10 ⟨⟨rfl, rfl, rfl⟩, ⟨rfl, rfl, rfl, rfl, rfl, rfl, rfl, rfl, rfl, rfl⟩, fun _ _ => rfl, fun _ _ => rfl, fun _ _ => rfl⟩ ((Sm.refl [50, 51, 52, 53, 54, 55, 56, 57, 58, 59, 60, 61, 62, 63, 64, 65, 66, 67, 68, 69, 70] _).tr s11 (fun _ q => q) (by simp))
          unfold ldF
          rw [if_pos (by omega)]; omega
        · refine g_iload_n 40 dX9_ladder_39 rfl rfl ?_
          refine g_ifZ_ge 46 43 dX9_ladder_40 rfl rfl rk0 (fun c14 => ?_) (fun c14 => ?_)
          · refine g_iload_n 47 dX9_ladder_46 rfl rfl ?_
            refine g_iload 49 dX9_ladder_47 rfl rfl ?_
            refine g_icZ_le 55 52 dX9_ladder_49 rfl rfl rk0 (by omega) (fun c15 => ?_) (fun c15 => ?_)
            · refine g_iload_n 56 dX9_ladder_55 rfl rfl ?_
              refine g_istore (L1 := [some (.ref 50), some (.int (iZ a)), some (.int (iZ b)), some (.int (iZ k0)), some (.int (iZ (g8 a.toNat))), some (.int (iZ a)), none, none, none]) 58 dX9_ladder_56 (by decide) rfl rfl rfl ?_
              refine g_iconst (v := iZ (0)) 59 dX9_ladder_58 rfl rfl ?_
              refine g_istore (L1 := [some (.ref 50), some (.int (iZ a)), some (.int (iZ b)), some (.int (iZ k0)), some (.int (iZ (g8 a.toNat))), some (.int (iZ a)), some (.int (iZ 0)), none, none]) 61 dX9_ladder_59 (by decide) rfl rfl rfl ?_
              obtain ⟨F50_16, ⟨F51_16, F52_16, F53_16, F54_16, F55_16, F56_16, F57_16, F58_16, F59_16, F60_16, F61_16, F62_16, F63_16, F64_16, F65_16, F66_16, F67_16, F68_16, F69_16, F70_16, kty_16, ktx_16⟩, ⟨r2_16, r5_16, r13_16, r14_16, r15_16, r16_16, r17_16, r18_16, r19_16, r20_16, r25_16, r26_16, r27_16, r28_16, r29_16, r30_16, r31_16, r35_16⟩, ⟨o53_16, o54_16, o55_16, o56_16, o57_16, o58_16, o59_16, o60_16, o61_16, o62_16, o63_16, o64_16, o65_16, o66_16, o67_16, o68_16, o69_16, o70_16⟩, hT_16⟩ := id H10
              refine ld_O (B := B) o68_16 o69_16 (by omega) rk0 (by omega) (by omega) e9 (by omega) F50_16 F68_16 F69_16 F70_16 ?_ _ a 0 rfl (by omega) rfl
              refine k _ _ _ (fun q => ?_) (fun q => by omega) H10 ⟨⟨rfl, rfl, rfl⟩, ⟨rfl, rfl, rfl, rfl, rfl, rfl, rfl, rfl, rfl, rfl⟩, fun _ _ => rfl, fun _ _ => rfl, fun _ _ => rfl⟩ ((Sm.refl [50, 51, 52, 53, 54, 55, 56, 57, 58, 59, 60, 61, 62, 63, 64, 65, 66, 67, 68, 69, 70] _).tr s11 (fun _ q => q) (by simp))
              unfold ldF
              rw [if_neg (by omega), if_neg (by omega)]
            · refine g_bipush (v := iZ (-9)) 54 dX9_ladder_52 (by decide +kernel) rfl ?_
              refine g_iret rfl dX9_ladder_54 ?_
              refine k _ _ (-9) (fun q => ?_) (fun q => by omega) H10 ⟨⟨rfl, rfl, rfl⟩, ⟨rfl, rfl, rfl, rfl, rfl, rfl, rfl, rfl, rfl, rfl⟩, fun _ _ => rfl, fun _ _ => rfl, fun _ _ => rfl⟩ ((Sm.refl [50, 51, 52, 53, 54, 55, 56, 57, 58, 59, 60, 61, 62, 63, 64, 65, 66, 67, 68, 69, 70] _).tr s11 (fun _ q => q) (by simp))
              unfold ldF
              rw [if_neg (by omega), if_pos (by omega)]
          · refine g_iload 45 dX9_ladder_43 rfl rfl ?_
            refine g_iret rfl dX9_ladder_45 ?_
            refine k _ _ (g8 a.toNat) (fun q => ?_) (fun q => by omega) H10 ⟨⟨rfl, rfl, rfl⟩, ⟨rfl, rfl, rfl, rfl, rfl, rfl, rfl, rfl, rfl, rfl⟩, fun _ _ => rfl, fun _ _ => rfl, fun _ _ => rfl⟩ ((Sm.refl [50, 51, 52, 53, 54, 55, 56, 57, 58, 59, 60, 61, 62, 63, 64, 65, 66, 67, 68, 69, 70] _).tr s11 (fun _ q => q) (by simp))
            unfold ldF
            rw [if_pos (by omega)]; omega
      · refine g_iconst (v := iZ (-1)) 22 dX9_ladder_21 rfl rfl ?_
        refine g_iret rfl dX9_ladder_22 ?_
        exact k h B (-1) (fun q => by omega) (fun _ => rfl) H (AgB.refl _ _) (Sm.refl _ _)

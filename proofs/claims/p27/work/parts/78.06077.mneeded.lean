set_option maxRecDepth 100000 in
theorem nd_LB {l : Launch} {Q : Option Value → MH → Prop} {tr : Int64} {ty tx : Nat → Int32} {w : Nat → Int} {us kn : Nat → Int} {a b x : Int} (ha : 0 ≤ a ∧ a < w 35) (hb : 0 ≤ b ∧ b < w 35) (rx : rg x) : ∀ (m0 : Nat) (h : MH) (B : Nat → Nat → Int) (bs fw u : Int), (16 - u).toNat = m0 → 0 ≤ u ∧ u ≤ 16 → rg bs → rg fw → R9B h tr ty tx w B → B 68 = us → B 69 = kn → nds (fun wd => lvE (w 35) us kn a b wd a.toNat) u.toNat = (bs, fw) → (∀ (h1 : MH) (B1 : Nat → Nat → Int) (r : Int), r = ndF (w 35) us kn a b x → R9B h1 tr ty tx w B1 → AgB w B w B1 → Sm [50, 51, 52, 53, 54, 55, 56, 57, 58, 59, 60, 61, 62, 63, 64, 65, 66, 67, 68, 69, 70] h h1 → Q (some (.int (iZ r))) h1) → Go l mX9_needed 43 [some (.ref 50), some (.int (iZ a)), some (.int (iZ b)), some (.int (iZ x)), some (.int (iZ bs)), some (.int (iZ fw)), some (.int (iZ u)), none, none] [] h Q := by
  intro m0
  induction m0 using Nat.strongRecOn with
  | ind m0 ih =>
    intro h B bs fw u hmz hu rbs rfw H hU hK hN k
    subst hU
    subst hK
    refine g_iload 45 dX9_needed_43 rfl rfl ?_
    refine g_bipush (v := iZ (16)) 47 dX9_needed_45 (by decide +kernel) rfl ?_
    refine g_icZ_ge 124 50 dX9_needed_47 rfl rfl (by omega) (by decide) (fun c1 => ?_) (fun c1 => ?_)
    · refine g_iload 126 dX9_needed_124 rfl rfl ?_
      refine g_bipush (v := iZ (-9)) 128 dX9_needed_126 (by decide +kernel) rfl ?_
      refine g_icZ_eq 135 131 dX9_needed_128 rfl rfl rbs (by decide) (fun c2 => ?_) (fun c2 => ?_)
      · refine g_iload 137 dX9_needed_135 rfl rfl ?_
        refine g_goto 142 dX9_needed_137 rfl ?_
        refine g_iret rfl dX9_needed_142 ?_
        have e9 : u = 16 := by omega
        subst e9
        refine k h B (bs) ?_ H (AgB.refl _ _) (Sm.refl _ _)
        unfold ndF
        have hN2 : nds (fun wd => lvE (w 35) (B 68) (B 69) a b wd a.toNat) 16 = (bs, fw) := hN
        rw [hN2]
        show _ = if bs = -9 ∨ x = 0 then bs else fw
        rw [if_pos (by omega)]
      · refine g_iload_n 132 dX9_needed_131 rfl rfl ?_
        refine g_ifZ_ne 140 135 dX9_needed_132 rfl rfl rx (fun c3 => ?_) (fun c3 => ?_)
        · refine g_iload 142 dX9_needed_140 rfl rfl ?_
          refine g_iret rfl dX9_needed_142 ?_
          have e9 : u = 16 := by omega
          subst e9
          refine k h B (fw) ?_ H (AgB.refl _ _) (Sm.refl _ _)
          unfold ndF
          have hN2 : nds (fun wd => lvE (w 35) (B 68) (B 69) a b wd a.toNat) 16 = (bs, fw) := hN
          rw [hN2]
          show _ = if bs = -9 ∨ x = 0 then bs else fw
          rw [if_neg (by omega)]
        · refine g_iload 137 dX9_needed_135 rfl rfl ?_
          refine g_goto 142 dX9_needed_137 rfl ?_
          refine g_iret rfl dX9_needed_142 ?_
          have e9 : u = 16 := by omega
          subst e9
          refine k h B (bs) ?_ H (AgB.refl _ _) (Sm.refl _ _)
          unfold ndF
          have hN2 : nds (fun wd => lvE (w 35) (B 68) (B 69) a b wd a.toNat) 16 = (bs, fw) := hN
          rw [hN2]
          show _ = if bs = -9 ∨ x = 0 then bs else fw
          rw [if_pos (by omega)]
    · refine g_aload_n 51 dX9_needed_50 rfl rfl ?_
      refine g_iload_n 52 dX9_needed_51 rfl rfl ?_
      refine g_iload_n 53 dX9_needed_52 rfl rfl ?_
      refine g_iconst (v := iZ (1)) 54 dX9_needed_53 rfl rfl ?_
      refine g_iload 56 dX9_needed_54 rfl rfl ?_
      refine g_ishlZ (2 ^ u.toNat) 57 dX9_needed_56 (by have q := shl16 u.toNat (by omega); rwa [Int.toNat_of_nonneg (by omega)] at q) rfl ?_
      obtain ⟨F50_4, ⟨F51_4, F52_4, F53_4, F54_4, F55_4, F56_4, F57_4, F58_4, F59_4, F60_4, F61_4, F62_4, F63_4, F64_4, F65_4, F66_4, F67_4, F68_4, F69_4, F70_4, kty_4, ktx_4⟩, ⟨r2_4, r5_4, r13_4, r14_4, r15_4, r16_4, r17_4, r18_4, r19_4, r20_4, r25_4, r26_4, r27_4, r28_4, r29_4, r30_4, r31_4, r35_4⟩, ⟨o53_4, o54_4, o55_4, o56_4, o57_4, o58_4, o59_4, o60_4, o61_4, o62_4, o63_4, o64_4, o65_4, o66_4, o67_4, o68_4, o69_4, o70_4⟩, hT_4⟩ := id H
      refine g_callV (z := mX9_climb) (As := [.int (iZ a), .int (iZ b), .int (iZ (2 ^ u.toNat))]) 60 dX9_needed_57 mwX9_climb ⟨by decide, by decide⟩ rfl wlX9_242 wiX9_climb wsX9_climb F50_4 rfl rfl rfl (nle rfl) (nle rfl) rfl ?_
      refine b_climb H (by omega) (by omega) (pow16 _ (by omega)) (fun h5 g6 e7 H8 s9 => ?_)
      have erg6 := e7 a.toNat (by omega)
      have l10 := lvE_rg (w 35) (B 68) (B 69) a b (2 ^ u.toNat) a.toNat
      change g6 a.toNat = lvE (w 35) (B 68) (B 69) a b (2 ^ u.toNat) a.toNat at erg6
      refine rI ?_
      refine g_istore (L1 := [some (.ref 50), some (.int (iZ a)), some (.int (iZ b)), some (.int (iZ x)), some (.int (iZ bs)), some (.int (iZ fw)), some (.int (iZ u)), some (.int (iZ (g6 a.toNat))), none]) 62 dX9_needed_60 (by decide) rfl rfl rfl ?_
      refine g_iload 64 dX9_needed_62 rfl rfl ?_
      refine g_bipush (v := iZ (-9)) 66 dX9_needed_64 (by decide +kernel) rfl ?_
      refine g_icZ_eq 87 69 dX9_needed_66 rfl rfl (by omega) (by decide) (fun c11 => ?_) (fun c11 => ?_)
      · refine g_iconst (v := iZ (0)) 88 dX9_needed_87 rfl rfl ?_
        refine g_istore (L1 := [some (.ref 50), some (.int (iZ a)), some (.int (iZ b)), some (.int (iZ x)), some (.int (iZ bs)), some (.int (iZ fw)), some (.int (iZ u)), some (.int (iZ (g6 a.toNat))), some (.int (iZ 0))]) 90 dX9_needed_88 (by decide) rfl rfl rfl ?_
        refine g_iload 92 dX9_needed_90 rfl rfl ?_
        refine g_ifZ_eq 100 95 dX9_needed_92 rfl rfl (by decide) (fun _ => ?_) (fun q => absurd q (by decide))
        refine g_iload 102 dX9_needed_100 rfl rfl ?_
        refine g_istore (L1 := [some (.ref 50), some (.int (iZ a)), some (.int (iZ b)), some (.int (iZ x)), some (.int (iZ bs)), some (.int (iZ fw)), some (.int (iZ u)), some (.int (iZ (g6 a.toNat))), some (.int (iZ 0))]) 104 dX9_needed_102 (by decide) rfl rfl rfl ?_
        refine g_iload 106 dX9_needed_104 rfl rfl ?_
        refine g_ifZ_eq 114 109 dX9_needed_106 rfl rfl (by decide) (fun _ => ?_) (fun q => absurd q (by decide))
        refine g_iload 116 dX9_needed_114 rfl rfl ?_
        refine g_istore (L1 := [some (.ref 50), some (.int (iZ a)), some (.int (iZ b)), some (.int (iZ x)), some (.int (iZ bs)), some (.int (iZ fw)), some (.int (iZ u)), some (.int (iZ (g6 a.toNat))), some (.int (iZ 0))]) 118 dX9_needed_116 (by decide) rfl rfl rfl ?_
        refine g_iincZ [some (.ref 50), some (.int (iZ a)), some (.int (iZ b)), some (.int (iZ x)), some (.int (iZ bs)), some (.int (iZ fw)), some (.int (iZ (u + 1))), some (.int (iZ (g6 a.toNat))), some (.int (iZ 0))] 121 dX9_needed_118 rfl (by omega) (by decide) rfl rfl rfl ?_
        refine g_goto 43 dX9_needed_121 rfl ?_
        refine Go.fgt 7 ?_
        refine Go.fgt 8 ?_
        exact ih _ (by omega) _ (va_up B 70 g6) (bs) (fw) (u + 1) rfl (by omega) (by omega) (by omega) H8 rfl rfl (ndsI_neg (by omega) hN erg6.symm (by omega)) (fun h1 B1 r e1 e2 e3 s1 => k h1 B1 r e1 e2 (AgB.tr ⟨⟨rfl, rfl, rfl⟩, ⟨rfl, rfl, rfl, rfl, rfl, rfl, rfl, rfl, rfl, rfl⟩, fun _ _ => rfl, fun _ _ => rfl, fun _ _ => rfl⟩ e3) (((Sm.refl [50, 51, 52, 53, 54, 55, 56, 57, 58, 59, 60, 61, 62, 63, 64, 65, 66, 67, 68, 69, 70] _).tr s9 (fun _ q => q) (by simp)).tr s1 (fun _ q => q) (fun _ q => q)))
      · refine g_iload 71 dX9_needed_69 rfl rfl ?_
        refine g_bipush (v := iZ (-9)) 73 dX9_needed_71 (by decide +kernel) rfl ?_
        refine g_icZ_eq 83 76 dX9_needed_73 rfl rfl rfw (by decide) (fun c12 => ?_) (fun c12 => ?_)
        · refine g_iconst (v := iZ (1)) 84 dX9_needed_83 rfl rfl ?_
          refine g_goto 88 dX9_needed_84 rfl ?_
          refine g_istore (L1 := [some (.ref 50), some (.int (iZ a)), some (.int (iZ b)), some (.int (iZ x)), some (.int (iZ bs)), some (.int (iZ fw)), some (.int (iZ u)), some (.int (iZ (g6 a.toNat))), some (.int (iZ 1))]) 90 dX9_needed_88 (by decide) rfl rfl rfl ?_
          refine g_iload 92 dX9_needed_90 rfl rfl ?_
          refine g_ifZ_eq 100 95 dX9_needed_92 rfl rfl (by decide) (fun q => absurd q (by decide)) (fun _ => ?_)
          refine g_iload 97 dX9_needed_95 rfl rfl ?_
          refine g_goto 102 dX9_needed_97 rfl ?_
          refine g_istore (L1 := [some (.ref 50), some (.int (iZ a)), some (.int (iZ b)), some (.int (iZ x)), some (.int (iZ u)), some (.int (iZ fw)), some (.int (iZ u)), some (.int (iZ (g6 a.toNat))), some (.int (iZ 1))]) 104 dX9_needed_102 (by decide) rfl rfl rfl ?_
          refine g_iload 106 dX9_needed_104 rfl rfl ?_
          refine g_ifZ_eq 114 109 dX9_needed_106 rfl rfl (by decide) (fun q => absurd q (by decide)) (fun _ => ?_)
          refine g_iload 111 dX9_needed_109 rfl rfl ?_
          refine g_goto 116 dX9_needed_111 rfl ?_
          refine g_istore (L1 := [some (.ref 50), some (.int (iZ a)), some (.int (iZ b)), some (.int (iZ x)), some (.int (iZ u)), some (.int (iZ (g6 a.toNat))), some (.int (iZ u)), some (.int (iZ (g6 a.toNat))), some (.int (iZ 1))]) 118 dX9_needed_116 (by decide) rfl rfl rfl ?_
          refine g_iincZ [some (.ref 50), some (.int (iZ a)), some (.int (iZ b)), some (.int (iZ x)), some (.int (iZ u)), some (.int (iZ (g6 a.toNat))), some (.int (iZ (u + 1))), some (.int (iZ (g6 a.toNat))), some (.int (iZ 1))] 121 dX9_needed_118 rfl (by omega) (by decide) rfl rfl rfl ?_
          refine g_goto 43 dX9_needed_121 rfl ?_
          refine Go.fgt 7 ?_
          refine Go.fgt 8 ?_
          exact ih _ (by omega) _ (va_up B 70 g6) (u) (g6 a.toNat) (u + 1) rfl (by omega) (by omega) (by omega) H8 rfl rfl (ndsI_pos (by omega) hN erg6.symm (by omega)) (fun h1 B1 r e1 e2 e3 s1 => k h1 B1 r e1 e2 (AgB.tr ⟨⟨rfl, rfl, rfl⟩, ⟨rfl, rfl, rfl, rfl, rfl, rfl, rfl, rfl, rfl, rfl⟩, fun _ _ => rfl, fun _ _ => rfl, fun _ _ => rfl⟩ e3) (((Sm.refl [50, 51, 52, 53, 54, 55, 56, 57, 58, 59, 60, 61, 62, 63, 64, 65, 66, 67, 68, 69, 70] _).tr s9 (fun _ q => q) (by simp)).tr s1 (fun _ q => q) (fun _ q => q)))
        · refine g_iload 78 dX9_needed_76 rfl rfl ?_
          refine g_iload 80 dX9_needed_78 rfl rfl ?_
          refine g_icZ_ge 87 83 dX9_needed_80 rfl rfl (by omega) rfw (fun c13 => ?_) (fun c13 => ?_)
          · refine g_iconst (v := iZ (0)) 88 dX9_needed_87 rfl rfl ?_
            refine g_istore (L1 := [some (.ref 50), some (.int (iZ a)), some (.int (iZ b)), some (.int (iZ x)), some (.int (iZ bs)), some (.int (iZ fw)), some (.int (iZ u)), some (.int (iZ (g6 a.toNat))), some (.int (iZ 0))]) 90 dX9_needed_88 (by decide) rfl rfl rfl ?_
            refine g_iload 92 dX9_needed_90 rfl rfl ?_
            refine g_ifZ_eq 100 95 dX9_needed_92 rfl rfl (by decide) (fun _ => ?_) (fun q => absurd q (by decide))
            refine g_iload 102 dX9_needed_100 rfl rfl ?_
            refine g_istore (L1 := [some (.ref 50), some (.int (iZ a)), some (.int (iZ b)), some (.int (iZ x)), some (.int (iZ bs)), some (.int (iZ fw)), some (.int (iZ u)), some (.int (iZ (g6 a.toNat))), some (.int (iZ 0))]) 104 dX9_needed_102 (by decide) rfl rfl rfl ?_
            refine g_iload 106 dX9_needed_104 rfl rfl ?_
            refine g_ifZ_eq 114 109 dX9_needed_106 rfl rfl (by decide) (fun _ => ?_) (fun q => absurd q (by decide))
            refine g_iload 116 dX9_needed_114 rfl rfl ?_
            refine g_istore (L1 := [some (.ref 50), some (.int (iZ a)), some (.int (iZ b)), some (.int (iZ x)), some (.int (iZ bs)), some (.int (iZ fw)), some (.int (iZ u)), some (.int (iZ (g6 a.toNat))), some (.int (iZ 0))]) 118 dX9_needed_116 (by decide) rfl rfl rfl ?_
            refine g_iincZ [some (.ref 50), some (.int (iZ a)), some (.int (iZ b)), some (.int (iZ x)), some (.int (iZ bs)), some (.int (iZ fw)), some (.int (iZ (u + 1))), some (.int (iZ (g6 a.toNat))), some (.int (iZ 0))] 121 dX9_needed_118 rfl (by omega) (by decide) rfl rfl rfl ?_
            refine g_goto 43 dX9_needed_121 rfl ?_
            refine Go.fgt 7 ?_
            refine Go.fgt 8 ?_
            exact ih _ (by omega) _ (va_up B 70 g6) (bs) (fw) (u + 1) rfl (by omega) (by omega) (by omega) H8 rfl rfl (ndsI_neg (by omega) hN erg6.symm (by omega)) (fun h1 B1 r e1 e2 e3 s1 => k h1 B1 r e1 e2 (AgB.tr ⟨⟨rfl, rfl, rfl⟩, ⟨rfl, rfl, rfl, rfl, rfl, rfl, rfl, rfl, rfl, rfl⟩, fun _ _ => rfl, fun _ _ => rfl, fun _ _ => rfl⟩ e3) (((Sm.refl [50, 51, 52, 53, 54, 55, 56, 57, 58, 59, 60, 61, 62, 63, 64, 65, 66, 67, 68, 69, 70] _).tr s9 (fun _ q => q) (by simp)).tr s1 (fun _ q => q) (fun _ q => q)))
          · refine g_iconst (v := iZ (1)) 84 dX9_needed_83 rfl rfl ?_
            refine g_goto 88 dX9_needed_84 rfl ?_
            refine g_istore (L1 := [some (.ref 50), some (.int (iZ a)), some (.int (iZ b)), some (.int (iZ x)), some (.int (iZ bs)), some (.int (iZ fw)), some (.int (iZ u)), some (.int (iZ (g6 a.toNat))), some (.int (iZ 1))]) 90 dX9_needed_88 (by decide) rfl rfl rfl ?_
            refine g_iload 92 dX9_needed_90 rfl rfl ?_
            refine g_ifZ_eq 100 95 dX9_needed_92 rfl rfl (by decide) (fun q => absurd q (by decide)) (fun _ => ?_)
            refine g_iload 97 dX9_needed_95 rfl rfl ?_
            refine g_goto 102 dX9_needed_97 rfl ?_
            refine g_istore (L1 := [some (.ref 50), some (.int (iZ a)), some (.int (iZ b)), some (.int (iZ x)), some (.int (iZ u)), some (.int (iZ fw)), some (.int (iZ u)), some (.int (iZ (g6 a.toNat))), some (.int (iZ 1))]) 104 dX9_needed_102 (by decide) rfl rfl rfl ?_
            refine g_iload 106 dX9_needed_104 rfl rfl ?_
            refine g_ifZ_eq 114 109 dX9_needed_106 rfl rfl (by decide) (fun q => absurd q (by decide)) (fun _ => ?_)
            refine g_iload 111 dX9_needed_109 rfl rfl ?_
            refine g_goto 116 dX9_needed_111 rfl ?_
            refine g_istore (L1 := [some (.ref 50), some (.int (iZ a)), some (.int (iZ b)), some (.int (iZ x)), some (.int (iZ u)), some (.int (iZ (g6 a.toNat))), some (.int (iZ u)), some (.int (iZ (g6 a.toNat))), some (.int (iZ 1))]) 118 dX9_needed_116 (by decide) rfl rfl rfl ?_
            refine g_iincZ [some (.ref 50), some (.int (iZ a)), some (.int (iZ b)), some (.int (iZ x)), some (.int (iZ u)), some (.int (iZ (g6 a.toNat))), some (.int (iZ (u + 1))), some (.int (iZ (g6 a.toNat))), some (.int (iZ 1))] 121 dX9_needed_118 rfl (by omega) (by decide) rfl rfl rfl ?_
            refine g_goto 43 dX9_needed_121 rfl ?_
            refine Go.fgt 7 ?_
            refine Go.fgt 8 ?_
            exact ih _ (by omega) _ (va_up B 70 g6) (u) (g6 a.toNat) (u + 1) rfl (by omega) (by omega) (by omega) H8 rfl rfl (ndsI_pos (by omega) hN erg6.symm (by omega)) (fun h1 B1 r e1 e2 e3 s1 => k h1 B1 r e1 e2 (AgB.tr ⟨⟨rfl, rfl, rfl⟩, ⟨rfl, rfl, rfl, rfl, rfl, rfl, rfl, rfl, rfl, rfl⟩, fun _ _ => rfl, fun _ _ => rfl, fun _ _ => rfl⟩ e3) (((Sm.refl [50, 51, 52, 53, 54, 55, 56, 57, 58, 59, 60, 61, 62, 63, 64, 65, 66, 67, 68, 69, 70] _).tr s9 (fun _ q => q) (by simp)).tr s1 (fun _ q => q) (fun _ q => q)))
set_option maxRecDepth 100000 in
theorem b_needed {l : Launch} {h : MH} {Q : Option Value → MH → Prop} {tr : Int64} {ty tx : Nat → Int32} {w : Nat → Int} {B : Nat → Nat → Int} {a b x : Int} (H : R9B h tr ty tx w B) (ra : rg a) (rb : rg b) (rx : rg x) (k : ∀ (h1 : MH) (B1 : Nat → Nat → Int) (r : Int), (0 ≤ a ∧ a < w 35 ∧ 0 ≤ b ∧ b < w 35 ∧ 0 ≤ x ∧ x ≤ 1 → r = ndF (w 35) (B 68) (B 69) a b x) → (¬ (0 ≤ a ∧ a < w 35 ∧ 0 ≤ b ∧ b < w 35 ∧ 0 ≤ x ∧ x ≤ 1) → r = -1) → R9B h1 tr ty tx w B1 → AgB w B w B1 → Sm [50, 51, 52, 53, 54, 55, 56, 57, 58, 59, 60, 61, 62, 63, 64, 65, 66, 67, 68, 69, 70] h h1 → Q (some (.int (iZ r))) h1) : Go l mX9_needed 0 [some (.ref 50), some (.int (iZ a)), some (.int (iZ b)), some (.int (iZ x)), none, none, none, none, none] [] h Q := by
  have n35 := H.2.2.1.2.2.2.2.2.2.2.2.2.2.2.2.2.2.2.2.2
  refine g_aload_n 1 dX9_needed_0 rfl rfl ?_
  refine g_iload_n 2 dX9_needed_1 rfl rfl ?_
  obtain ⟨F50_1, ⟨F51_1, F52_1, F53_1, F54_1, F55_1, F56_1, F57_1, F58_1, F59_1, F60_1, F61_1, F62_1, F63_1, F64_1, F65_1, F66_1, F67_1, F68_1, F69_1, F70_1, kty_1, ktx_1⟩, ⟨r2_1, r5_1, r13_1, r14_1, r15_1, r16_1, r17_1, r18_1, r19_1, r20_1, r25_1, r26_1, r27_1, r28_1, r29_1, r30_1, r31_1, r35_1⟩, ⟨o53_1, o54_1, o55_1, o56_1, o57_1, o58_1, o59_1, o60_1, o61_1, o62_1, o63_1, o64_1, o65_1, o66_1, o67_1, o68_1, o69_1, o70_1⟩, hT_1⟩ := id H
  refine g_callV (z := mX9_isEdition) (As := [.int (iZ a)]) 5 dX9_needed_2 mwX9_isEdition ⟨by decide, by decide⟩ rfl wlX9_239 wiX9_isEdition wsX9_isEdition F50_1 rfl rfl rfl (nle rfl) (nle rfl) rfl ?_
  refine b_isEd H ra (fun z2 rz2 => ?_)
  refine rI ?_
  refine g_ifZ_eq 25 8 dX9_needed_5 rfl rfl (rg01 (by omega)) (fun c3 => ?_) (fun c3 => ?_)
  · refine g_iconst (v := iZ (-1)) 26 dX9_needed_25 rfl rfl ?_
    refine g_iret rfl dX9_needed_26 ?_
    exact k h B (-1) (fun q => by omega) (fun _ => rfl) H (AgB.refl _ _) (Sm.refl _ _)
  · refine g_aload_n 9 dX9_needed_8 rfl rfl ?_
    refine g_iload_n 10 dX9_needed_9 rfl rfl ?_
    refine g_callV (z := mX9_isEdition) (As := [.int (iZ b)]) 13 dX9_needed_10 mwX9_isEdition ⟨by decide, by decide⟩ rfl wlX9_239 wiX9_isEdition wsX9_isEdition F50_1 rfl rfl rfl (nle rfl) (nle rfl) rfl ?_
    refine b_isEd H rb (fun z4 rz4 => ?_)
    refine rI ?_
    refine g_ifZ_eq 25 16 dX9_needed_13 rfl rfl (rg01 (by omega)) (fun c5 => ?_) (fun c5 => ?_)
    · refine g_iconst (v := iZ (-1)) 26 dX9_needed_25 rfl rfl ?_
      refine g_iret rfl dX9_needed_26 ?_
      exact k h B (-1) (fun q => by omega) (fun _ => rfl) H (AgB.refl _ _) (Sm.refl _ _)
    · refine g_iload_n 17 dX9_needed_16 rfl rfl ?_
      refine g_iconst (v := iZ (0)) 18 dX9_needed_17 rfl rfl ?_
      refine g_iconst (v := iZ (1)) 19 dX9_needed_18 rfl rfl ?_
      refine g_callS (z := mX9_in) (As := [.int (iZ x), .int (iZ 0), .int (iZ 1)]) 22 dX9_needed_19 mwX9_in ⟨by decide, by decide⟩ rfl wlX9_75 wtX9_in rfl (nle rfl) (nle rfl) rfl ?_
      refine n_in  rx (by decide) (by decide) (fun z6 rz6 => ?_)
      refine rI ?_
      refine g_ifZ_ne 27 25 dX9_needed_22 rfl rfl (rg01 (by omega)) (fun c7 => ?_) (fun c7 => ?_)
      · refine g_bipush (v := iZ (-9)) 29 dX9_needed_27 (by decide +kernel) rfl ?_
        refine g_istore (L1 := [some (.ref 50), some (.int (iZ a)), some (.int (iZ b)), some (.int (iZ x)), some (.int (iZ (-9))), none, none, none, none]) 31 dX9_needed_29 (by decide) rfl rfl rfl ?_
        refine g_aload_n 32 dX9_needed_31 rfl rfl ?_
        refine g_iload_n 33 dX9_needed_32 rfl rfl ?_
        refine g_iload_n 34 dX9_needed_33 rfl rfl ?_
        refine g_iconst (v := iZ (0)) 35 dX9_needed_34 rfl rfl ?_
        refine g_callV (z := mX9_climb) (As := [.int (iZ a), .int (iZ b), .int (iZ 0)]) 38 dX9_needed_35 mwX9_climb ⟨by decide, by decide⟩ rfl wlX9_242 wiX9_climb wsX9_climb F50_1 rfl rfl rfl (nle rfl) (nle rfl) rfl ?_
        refine b_climb H (by omega) (by omega) (by decide) (fun h8 g9 e10 H11 s12 => ?_)
        have erg9 := e10 a.toNat (by omega)
        have l13 := lvE_rg (w 35) (B 68) (B 69) a b (0) a.toNat
        change g9 a.toNat = lvE (w 35) (B 68) (B 69) a b (0) a.toNat at erg9
        refine rI ?_
        refine g_istore (L1 := [some (.ref 50), some (.int (iZ a)), some (.int (iZ b)), some (.int (iZ x)), some (.int (iZ (-9))), some (.int (iZ (g9 a.toNat))), none, none, none]) 40 dX9_needed_38 (by decide) rfl rfl rfl ?_
        refine g_iconst (v := iZ (0)) 41 dX9_needed_40 rfl rfl ?_
        refine g_istore (L1 := [some (.ref 50), some (.int (iZ a)), some (.int (iZ b)), some (.int (iZ x)), some (.int (iZ (-9))), some (.int (iZ (g9 a.toNat))), some (.int (iZ 0)), none, none]) 43 dX9_needed_41 (by decide) rfl rfl rfl ?_
        refine nd_LB (by omega) (by omega) rx _ _ _ (-9) (g9 a.toNat) 0 rfl (by omega) (by decide) (by omega) H11 rfl rfl (by show (_, _) = _; rw [erg9]; rfl) (fun h1 B1 r e1 e2 e3 s1 => k h1 B1 r (fun _ => e1) (fun q => by omega) e2 (AgB.tr ⟨⟨rfl, rfl, rfl⟩, ⟨rfl, rfl, rfl, rfl, rfl, rfl, rfl, rfl, rfl, rfl⟩, fun _ _ => rfl, fun _ _ => rfl, fun _ _ => rfl⟩ e3) (((Sm.refl [50, 51, 52, 53, 54, 55, 56, 57, 58, 59, 60, 61, 62, 63, 64, 65, 66, 67, 68, 69, 70] _).tr s12 (fun _ q => q) (by simp)).tr s1 (fun _ q => q) (fun _ q => q)))
      · refine g_iconst (v := iZ (-1)) 26 dX9_needed_25 rfl rfl ?_
        refine g_iret rfl dX9_needed_26 ?_
        exact k h B (-1) (fun q => by omega) (fun _ => rfl) H (AgB.refl _ _) (Sm.refl _ _)

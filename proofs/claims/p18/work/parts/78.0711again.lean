set_option maxRecDepth 100000 in
theorem c_again {l : Launch} {h : MH} {Q : Option Value → MH → Prop} {tr : Int64} {ty tx : Nat → Int32} {w : Nat → Int} {B : Nat → Nat → Int} {tc : Nat} {V Bf Lf : Nat → Nat → Int} {xn : Nat → Int} {xf : Nat → Nat → Int} {t : Int} (H : R9B h tr ty tx w B) (rt : (0 ≤ t ∧ t ≤ 11)) (hD : DQ tc V Bf Lf xn xf tx w B) (ht : t < w 5) (k : ∀ (h1 : MH) (w1 : Nat → Int) (B1 : Nat → Nat → Int) (r : Int), ((r = 0 ↔ rbz xn (XF xf) V Bf t.toNat) ∧ rg r) → R9B h1 tr ty tx w1 B1 → AgB w B w1 B1 → Sm [50, 54, 55, 56, 61, 62, 63, 64] h h1 → Q (some (.int (iZ r))) h1) : Go l mX9_again 0 [some (.ref 50), some (.int (iZ t)), none] [] h Q := by
  have n0 := H.2.2.1.2.1
  obtain ⟨e0, e1, e2, e3, e4⟩ := hD.v (t := t) (by omega) ht
  have b58 := H.2.2.2.1.2.2.2.2.2.1 t.toNat
  refine g_aload_n 1 dX9_again_0 rfl rfl ?_
  obtain ⟨F50_1, ⟨F51_1, F52_1, F53_1, F54_1, F55_1, F56_1, F57_1, F58_1, F59_1, F60_1, F61_1, F62_1, F63_1, F64_1, F65_1, F66_1, F67_1, F68_1, F69_1, F70_1, kty_1, ktx_1⟩, ⟨r2_1, r5_1, r13_1, r14_1, r15_1, r16_1, r17_1, r18_1, r19_1, r20_1, r25_1, r26_1, r27_1, r28_1, r29_1, r30_1, r31_1, r35_1⟩, ⟨o53_1, o54_1, o55_1, o56_1, o57_1, o58_1, o59_1, o60_1, o61_1, o62_1, o63_1, o64_1, o65_1, o66_1, o67_1, o68_1, o69_1, o70_1⟩, hT_1⟩ := id H
  refine g_get 4 dX9_again_1 faX9_29_X9 F50_1 rfl rfl ?_
  refine g_iload_n 5 dX9_again_4 rfl rfl ?_
  refine g_ialdZ (v := iZ ((B 57) t.toNat)) 6 dX9_again_5 F57_1 (by omega) (by omega) (by decide) rfl rfl ?_
  refine g_iconst (v := iZ (2)) 7 dX9_again_6 rfl rfl ?_
  refine g_icZ_ne 58 10 dX9_again_7 rfl rfl (o57_1 _) (by decide) (fun c2 => ?_) (fun c2 => ?_)
  · refine g_aload_n 59 dX9_again_58 rfl rfl ?_
    refine g_get 62 dX9_again_59 faX9_29_X9 F50_1 rfl rfl ?_
    refine g_iload_n 63 dX9_again_62 rfl rfl ?_
    refine g_ialdZ (v := iZ ((B 57) t.toNat)) 64 dX9_again_63 F57_1 (by omega) (by omega) (by decide) rfl rfl ?_
    refine g_ifZ_ne 82 67 dX9_again_64 rfl rfl (o57_1 _) (fun c3 => ?_) (fun c3 => ?_)
    · refine g_aload_n 83 dX9_again_82 rfl rfl ?_
      refine g_aload_n 84 dX9_again_83 rfl rfl ?_
      refine g_get 87 dX9_again_84 faX9_32_X9 F50_1 rfl rfl ?_
      refine g_iload_n 88 dX9_again_87 rfl rfl ?_
      have b4 := o58_1 ((t).toNat)
      refine g_ialdZ (v := iZ ((B 58) t.toNat)) 89 dX9_again_88 F58_1 (by omega) (by omega) (by decide) rfl rfl ?_
      refine g_bipush (v := iZ (12)) 91 dX9_again_89 (by decide +kernel) rfl ?_
      refine g_callV (z := mX9_readNames) (As := [.int (iZ ((B 58) t.toNat)), .int (iZ 12)]) 94 dX9_again_91 mwX9_readNames ⟨by decide, by decide⟩ rfl wlX9_164 wiX9_readNames wsX9_readNames F50_1 rfl rfl rfl (nle rfl) (nle rfl) rfl ?_
      refine b_rn H (by omega) (fun h8 w9 B10 z5 rz5 p6 p7 H11 a12 s13 => ?_)
      have e14 := a12.1
      have n15 := H11.2.2.1.2.1
      have D16 := hD.ag a12 H
      refine rI ?_
      refine g_istore_n (L1 := [some (.ref 50), some (.int (iZ t)), some (.int (iZ z5))]) 95 dX9_again_94 (by decide) rfl rfl rfl ?_
      refine g_iload_n 96 dX9_again_95 rfl rfl ?_
      refine g_bipush (v := iZ (-9)) 98 dX9_again_96 (by decide +kernel) rfl ?_
      refine g_icZ_ne 111 101 dX9_again_98 rfl rfl (by omega) (by decide) (fun c17 => ?_) (fun c17 => ?_)
      · refine g_bipush (v := iZ (-20)) 113 dX9_again_111 (by decide +kernel) rfl ?_
        refine g_iret rfl dX9_again_113 ?_
        have eR := nam_eq (i := B 58 t.toNat) (hD.rel tx) (hD.x0 H) (by omega)
        rw [e2] at eR
        have m0 := p7
        rw [e2, eR] at m0
        have E := rb_m (xn := xn) (xf := xf) (C := Bf) (j := t.toNat) (by omega) (if_neg (by omega)).symm m0
        exact k _ _ _ (-20) ⟨rbN E (by omega) (by omega), (by decide)⟩  H11 a12 ((Sm.refl [50, 54, 55, 56, 61, 62, 63, 64] _).tr s13 (fun _ q => q) (by simp))
      · refine g_aload_n 102 dX9_again_101 rfl rfl ?_
        refine g_iload_n 103 dX9_again_102 rfl rfl ?_
        refine g_bipush (v := iZ (12)) 105 dX9_again_103 (by decide +kernel) rfl ?_
        obtain ⟨F50_18, ⟨F51_18, F52_18, F53_18, F54_18, F55_18, F56_18, F57_18, F58_18, F59_18, F60_18, F61_18, F62_18, F63_18, F64_18, F65_18, F66_18, F67_18, F68_18, F69_18, F70_18, kty_18, ktx_18⟩, ⟨r2_18, r5_18, r13_18, r14_18, r15_18, r16_18, r17_18, r18_18, r19_18, r20_18, r25_18, r26_18, r27_18, r28_18, r29_18, r30_18, r31_18, r35_18⟩, ⟨o53_18, o54_18, o55_18, o56_18, o57_18, o58_18, o59_18, o60_18, o61_18, o62_18, o63_18, o64_18, o65_18, o66_18, o67_18, o68_18, o69_18, o70_18⟩, hT_18⟩ := id H11
        refine g_callV (z := mX9_unlike) (As := [.int (iZ t), .int (iZ 12)]) 108 dX9_again_105 mwX9_unlike ⟨by decide, by decide⟩ rfl wlX9_214 wiX9_unlike wsX9_unlike F50_18 rfl rfl rfl (nle rfl) (nle rfl) rfl ?_
        refine b_unl H11 (by omega) (by omega) (fun z19 rz19 => ?_)
        refine rI ?_
        refine g_goto 113 dX9_again_108 rfl ?_
        refine g_iret rfl dX9_again_113 ?_
        have eR := nam_eq (i := B 58 t.toNat) (hD.rel tx) (hD.x0 H) (by omega)
        rw [e2] at eR
        have m0 := p7
        rw [e2, eR] at m0
        have E := rb_m (xn := xn) (xf := xf) (C := Bf) (j := t.toNat) (by omega) (if_neg (by omega)).symm m0
        exact k _ _ _ (z19) ⟨rbY E (by omega) (rz19.1.trans (D16.ul (by omega) (by omega))), by omega⟩  H11 a12 ((Sm.refl [50, 54, 55, 56, 61, 62, 63, 64] _).tr s13 (fun _ q => q) (by simp))
    · refine g_aload_n 68 dX9_again_67 rfl rfl ?_
      refine g_aload_n 69 dX9_again_68 rfl rfl ?_
      refine g_get 72 dX9_again_69 faX9_32_X9 F50_1 rfl rfl ?_
      refine g_iload_n 73 dX9_again_72 rfl rfl ?_
      have b20 := o58_1 ((t).toNat)
      refine g_ialdZ (v := iZ ((B 58) t.toNat)) 74 dX9_again_73 F58_1 (by omega) (by omega) (by decide) rfl rfl ?_
      refine g_bipush (v := iZ (12)) 76 dX9_again_74 (by decide +kernel) rfl ?_
      refine g_callV (z := mX9_readPairs) (As := [.int (iZ ((B 58) t.toNat)), .int (iZ 12)]) 79 dX9_again_76 mwX9_readPairs ⟨by decide, by decide⟩ rfl wlX9_161 wiX9_readPairs wsX9_readPairs F50_1 rfl rfl rfl (nle rfl) (nle rfl) rfl ?_
      refine b_rp H (by omega) (fun h24 w25 B26 z21 rz21 p22 p23 H27 a28 s29 => ?_)
      have e30 := a28.1
      have n31 := H27.2.2.1.2.1
      have D32 := hD.ag a28 H
      refine rI ?_
      refine g_goto 94 dX9_again_79 rfl ?_
      refine g_istore_n (L1 := [some (.ref 50), some (.int (iZ t)), some (.int (iZ z21))]) 95 dX9_again_94 (by decide) rfl rfl rfl ?_
      refine g_iload_n 96 dX9_again_95 rfl rfl ?_
      refine g_bipush (v := iZ (-9)) 98 dX9_again_96 (by decide +kernel) rfl ?_
      refine g_icZ_ne 111 101 dX9_again_98 rfl rfl (by omega) (by decide) (fun c33 => ?_) (fun c33 => ?_)
      · refine g_bipush (v := iZ (-20)) 113 dX9_again_111 (by decide +kernel) rfl ?_
        refine g_iret rfl dX9_again_113 ?_
        have eR := prs_eq (i := B 58 t.toNat) (hD.rel tx) (hD.x0 H) (by omega)
        rw [e2] at eR
        have m0 := p23
        rw [e2, eR] at m0
        have E := rb_m (xn := xn) (xf := xf) (C := Bf) (j := t.toNat) (by omega) (if_pos (by omega)).symm m0
        exact k _ _ _ (-20) ⟨rbN E (by omega) (by omega), (by decide)⟩  H27 a28 ((Sm.refl [50, 54, 55, 56, 61, 62, 63, 64] _).tr s29 (fun _ q => q) (by simp))
      · refine g_aload_n 102 dX9_again_101 rfl rfl ?_
        refine g_iload_n 103 dX9_again_102 rfl rfl ?_
        refine g_bipush (v := iZ (12)) 105 dX9_again_103 (by decide +kernel) rfl ?_
        obtain ⟨F50_34, ⟨F51_34, F52_34, F53_34, F54_34, F55_34, F56_34, F57_34, F58_34, F59_34, F60_34, F61_34, F62_34, F63_34, F64_34, F65_34, F66_34, F67_34, F68_34, F69_34, F70_34, kty_34, ktx_34⟩, ⟨r2_34, r5_34, r13_34, r14_34, r15_34, r16_34, r17_34, r18_34, r19_34, r20_34, r25_34, r26_34, r27_34, r28_34, r29_34, r30_34, r31_34, r35_34⟩, ⟨o53_34, o54_34, o55_34, o56_34, o57_34, o58_34, o59_34, o60_34, o61_34, o62_34, o63_34, o64_34, o65_34, o66_34, o67_34, o68_34, o69_34, o70_34⟩, hT_34⟩ := id H27
        refine g_callV (z := mX9_unlike) (As := [.int (iZ t), .int (iZ 12)]) 108 dX9_again_105 mwX9_unlike ⟨by decide, by decide⟩ rfl wlX9_214 wiX9_unlike wsX9_unlike F50_34 rfl rfl rfl (nle rfl) (nle rfl) rfl ?_
        refine b_unl H27 (by omega) (by omega) (fun z35 rz35 => ?_)
        refine rI ?_
        refine g_goto 113 dX9_again_108 rfl ?_
        refine g_iret rfl dX9_again_113 ?_
        have eR := prs_eq (i := B 58 t.toNat) (hD.rel tx) (hD.x0 H) (by omega)
        rw [e2] at eR
        have m0 := p23
        rw [e2, eR] at m0
        have E := rb_m (xn := xn) (xf := xf) (C := Bf) (j := t.toNat) (by omega) (if_pos (by omega)).symm m0
        exact k _ _ _ (z35) ⟨rbY E (by omega) (rz35.1.trans (D32.ul (by omega) (by omega))), by omega⟩  H27 a28 ((Sm.refl [50, 54, 55, 56, 61, 62, 63, 64] _).tr s29 (fun _ q => q) (by simp))
  · have q1 := H.2.2.2.2.2 t (by omega) ht
    have q2 := q1.2.1
    have q3 := q1.2.2 c2
    refine g_aload_n 11 dX9_again_10 rfl rfl ?_
    refine g_aload_n 12 dX9_again_11 rfl rfl ?_
    refine g_get 15 dX9_again_12 faX9_35_X9 F50_1 rfl rfl ?_
    refine g_iload_n 16 dX9_again_15 rfl rfl ?_
    have b36 := o59_1 ((t).toNat)
    refine g_ialdZ (v := iZ ((B 59) t.toNat)) 17 dX9_again_16 F59_1 (by omega) (by omega) (by decide) rfl rfl ?_
    refine g_aload_n 18 dX9_again_17 rfl rfl ?_
    refine g_get 21 dX9_again_18 faX9_32_X9 F50_1 rfl rfl ?_
    refine g_iload_n 22 dX9_again_21 rfl rfl ?_
    have b37 := o58_1 ((t).toNat)
    refine g_ialdZ (v := iZ ((B 58) t.toNat)) 23 dX9_again_22 F58_1 (by omega) (by omega) (by decide) rfl rfl ?_
    refine g_bipush (v := iZ (12)) 25 dX9_again_23 (by decide +kernel) rfl ?_
    refine g_callV (z := mX9_builds) (As := [.int (iZ ((B 59) t.toNat)), .int (iZ ((B 58) t.toNat)), .int (iZ 12)]) 28 dX9_again_25 mwX9_builds ⟨by decide, by decide⟩ rfl wlX9_211 wiX9_builds wsX9_builds F50_1 rfl rfl rfl (nle rfl) (nle rfl) rfl ?_
    refine b_blds H (by omega) (by omega) (by omega) ((H.2.2.2.2.2 _ (by omega) (by omega)).1) (fun h43 w44 B45 z38 rz38 p39 p40 p41 p42 H46 a47 s48 => ?_)
    have e49 := a47.1
    have n50 := H46.2.2.1.2.1
    have D51 := hD.ag a47 H
    refine rI ?_
    refine g_istore_n (L1 := [some (.ref 50), some (.int (iZ t)), some (.int (iZ z38))]) 29 dX9_again_28 (by decide) rfl rfl rfl ?_
    refine g_iload_n 30 dX9_again_29 rfl rfl ?_
    refine g_ifZ_ne 43 33 dX9_again_30 rfl rfl (by omega) (fun c52 => ?_) (fun c52 => ?_)
    · refine g_iload_n 44 dX9_again_43 rfl rfl ?_
      refine g_iconst (v := iZ (4)) 45 dX9_again_44 rfl rfl ?_
      refine g_icZ_ne 53 48 dX9_again_45 rfl rfl (by omega) (by decide) (fun c53 => ?_) (fun c53 => ?_)
      · refine g_bipush (v := iZ (-10)) 55 dX9_again_53 (by decide +kernel) rfl ?_
        refine g_iload_n 56 dX9_again_55 rfl rfl ?_
        refine g_isubZ ((-10) - z38) 57 dX9_again_56 (by omega) rfl ?_
        refine g_iret rfl dX9_again_57 ?_
        have eR := hD.run (t := B 59 t.toNat) (i := B 58 t.toNat) (by omega) (by omega) (by omega)
        rw [e2, e3] at eR
        have E := rb_r (xn := xn) (xf := xf) (V := V) (Bf := Bf) (j := t.toNat) (by omega) (by rw [e2, e3]; exact eR) p41
        exact k _ _ _ ((-10) - z38) ⟨rbN E (by omega) (by omega), (by omega)⟩  H46 a47 ((Sm.refl [50, 54, 55, 56, 61, 62, 63, 64] _).tr s48 (fun _ q => q) (by simp))
      · refine g_bipush (v := iZ (-20)) 50 dX9_again_48 (by decide +kernel) rfl ?_
        refine g_goto 57 dX9_again_50 rfl ?_
        refine g_iret rfl dX9_again_57 ?_
        have eR := hD.run (t := B 59 t.toNat) (i := B 58 t.toNat) (by omega) (by omega) (by omega)
        rw [e2, e3] at eR
        have E := rb_r (xn := xn) (xf := xf) (V := V) (Bf := Bf) (j := t.toNat) (by omega) (by rw [e2, e3]; exact eR) p41
        exact k _ _ _ (-20) ⟨rbN E (by omega) (by omega), (by decide)⟩  H46 a47 ((Sm.refl [50, 54, 55, 56, 61, 62, 63, 64] _).tr s48 (fun _ q => q) (by simp))
    · refine g_aload_n 34 dX9_again_33 rfl rfl ?_
      refine g_iload_n 35 dX9_again_34 rfl rfl ?_
      refine g_bipush (v := iZ (12)) 37 dX9_again_35 (by decide +kernel) rfl ?_
      obtain ⟨F50_54, ⟨F51_54, F52_54, F53_54, F54_54, F55_54, F56_54, F57_54, F58_54, F59_54, F60_54, F61_54, F62_54, F63_54, F64_54, F65_54, F66_54, F67_54, F68_54, F69_54, F70_54, kty_54, ktx_54⟩, ⟨r2_54, r5_54, r13_54, r14_54, r15_54, r16_54, r17_54, r18_54, r19_54, r20_54, r25_54, r26_54, r27_54, r28_54, r29_54, r30_54, r31_54, r35_54⟩, ⟨o53_54, o54_54, o55_54, o56_54, o57_54, o58_54, o59_54, o60_54, o61_54, o62_54, o63_54, o64_54, o65_54, o66_54, o67_54, o68_54, o69_54, o70_54⟩, hT_54⟩ := id H46
      refine g_callV (z := mX9_unlike) (As := [.int (iZ t), .int (iZ 12)]) 40 dX9_again_37 mwX9_unlike ⟨by decide, by decide⟩ rfl wlX9_214 wiX9_unlike wsX9_unlike F50_54 rfl rfl rfl (nle rfl) (nle rfl) rfl ?_
      refine b_unl H46 (by omega) (by omega) (fun z55 rz55 => ?_)
      refine rI ?_
      refine g_goto 57 dX9_again_40 rfl ?_
      refine g_iret rfl dX9_again_57 ?_
      have eR := hD.run (t := B 59 t.toNat) (i := B 58 t.toNat) (by omega) (by omega) (by omega)
      rw [e2, e3] at eR
      have E := rb_r (xn := xn) (xf := xf) (V := V) (Bf := Bf) (j := t.toNat) (by omega) (by rw [e2, e3]; exact eR) p41
      exact k _ _ _ (z55) ⟨rbY E (by omega) (rz55.1.trans (D51.ul (by omega) (by omega))), by omega⟩  H46 a47 ((Sm.refl [50, 54, 55, 56, 61, 62, 63, 64] _).tr s48 (fun _ q => q) (by simp))
set_option maxRecDepth 100000 in
theorem c_stale_l {l : Launch} {Q : Option Value → MH → Prop} {tr : Int64} {ty tx : Nat → Int32} {tc : Nat} {V Bf Lf : Nat → Nat → Int} {xn : Nat → Int} {xf : Nat → Nat → Int}   : ∀ (m0 : Nat) (h : MH) (w : Nat → Int) (B : Nat → Nat → Int) (bi : Int) (t : Int), (12 - t).toNat = m0 → R9B h tr ty tx w B → (DQ tc V Bf Lf xn xf tx w B) → (0 ≤ t ∧ t ≤ w 5) → (0 ≤ bi ∧ bi < 4096) → (bi = ((stT xn (XF xf) V Bf t.toNat : Nat) : Int)) → (∀ (h1 : MH) (w1 : Nat → Int) (B1 : Nat → Nat → Int) (r : Int), (r = ((stT xn (XF xf) V Bf tc : Nat) : Int)) → R9B h1 tr ty tx w1 B1 → AgB w B w1 B1 → Sm [50, 54, 55, 56, 61, 62, 63, 64] h h1 → Q (some (.int (iZ r))) h1) → Go l mX9_stale 4 [some (.ref 50), some (.int (iZ bi)), some (.int (iZ t)), none] [] h Q := by
  intro m0
  induction m0 using Nat.strongRecOn with
  | ind m0 ih =>
    intro h w B bi t hmz H hD ht hb4 hb k
    have n0 := H.2.2.1.2.1
    refine g_iload_n 5 dX9_stale_4 rfl rfl ?_
    refine g_aload_n 6 dX9_stale_5 rfl rfl ?_
    obtain ⟨F50_1, ⟨F51_1, F52_1, F53_1, F54_1, F55_1, F56_1, F57_1, F58_1, F59_1, F60_1, F61_1, F62_1, F63_1, F64_1, F65_1, F66_1, F67_1, F68_1, F69_1, F70_1, kty_1, ktx_1⟩, ⟨r2_1, r5_1, r13_1, r14_1, r15_1, r16_1, r17_1, r18_1, r19_1, r20_1, r25_1, r26_1, r27_1, r28_1, r29_1, r30_1, r31_1, r35_1⟩, ⟨o53_1, o54_1, o55_1, o56_1, o57_1, o58_1, o59_1, o60_1, o61_1, o62_1, o63_1, o64_1, o65_1, o66_1, o67_1, o68_1, o69_1, o70_1⟩, hT_1⟩ := id H
    refine g_get 9 dX9_stale_6 faX9_85_X9 F50_1 rfl rfl ?_
    refine g_icZ_ge 71 12 dX9_stale_9 rfl rfl (by omega) (by omega) (fun c2 => ?_) (fun c2 => ?_)
    · refine g_iload_n 72 dX9_stale_71 rfl rfl ?_
      refine g_iret rfl dX9_stale_72 ?_
      have e9 : t.toNat = tc := by have q := hD.1.1; omega
      rw [e9] at hb
      exact k _ _ _ (bi) hb  H (AgB.refl _ _) (Sm.refl [50, 54, 55, 56, 61, 62, 63, 64] _)
    · obtain ⟨e0, e1, e2, e3, e4⟩ := hD.v (t := t) (by omega) (by omega)
      have q2 := (H.2.2.2.2.2 t (by omega) (by omega)).2.1
      refine g_aload_n 13 dX9_stale_12 rfl rfl ?_
      refine g_get 16 dX9_stale_13 faX9_35_X9 F50_1 rfl rfl ?_
      refine g_iload_n 17 dX9_stale_16 rfl rfl ?_
      have b3 := o59_1 ((t).toNat)
      refine g_ialdZ (v := iZ ((B 59) t.toNat)) 18 dX9_stale_17 F59_1 (by omega) (by omega) (by decide) rfl rfl ?_
      refine g_bipush (v := iZ (-9)) 20 dX9_stale_18 (by decide +kernel) rfl ?_
      refine g_icZ_eq 41 23 dX9_stale_20 rfl rfl (by omega) (by decide) (fun c4 => ?_) (fun c4 => ?_)
      · refine g_iconst (v := iZ (0)) 42 dX9_stale_41 rfl rfl ?_
        refine g_istore_n (L1 := [some (.ref 50), some (.int (iZ bi)), some (.int (iZ t)), some (.int (iZ 0))]) 43 dX9_stale_42 (by decide) rfl rfl rfl ?_
        refine g_iload_n 44 dX9_stale_43 rfl rfl ?_
        refine g_iload_n 45 dX9_stale_44 rfl rfl ?_
        refine g_ifZ_ne 56 48 dX9_stale_45 rfl rfl (by decide) (fun q => absurd q (by decide)) (fun _ => ?_)
        refine g_aload_n 49 dX9_stale_48 rfl rfl ?_
        refine g_iload_n 50 dX9_stale_49 rfl rfl ?_
        refine g_callV (z := mX9_again) (As := [.int (iZ t)]) 53 dX9_stale_50 mwX9_again ⟨by decide, by decide⟩ rfl wlX9_217 wiX9_again wsX9_again F50_1 rfl rfl rfl (nle rfl) (nle rfl) rfl ?_
        refine c_again H (by omega) hD (by omega) (fun h6 w7 B8 z5 rz5  H9 a10 s11 => ?_)
        have e12 := a10.1
        have n13 := H9.2.2.1.2.1
        have D14 := hD.ag a10 H
        refine rI ?_
        refine g_ifZ_eq 62 56 dX9_stale_53 rfl rfl rz5.2 (fun c15 => ?_) (fun c15 => ?_)
        · refine g_iconst (v := iZ (0)) 63 dX9_stale_62 rfl rfl ?_
          refine g_iorZ (bi) 64 dX9_stale_63 (or0 bi) rfl ?_
          refine g_istore_n (L1 := [some (.ref 50), some (.int (iZ bi)), some (.int (iZ t)), some (.int (iZ 0))]) 65 dX9_stale_64 (by decide) rfl rfl rfl ?_
          refine g_iincZ [some (.ref 50), some (.int (iZ bi)), some (.int (iZ (t + 1))), some (.int (iZ 0))] 68 dX9_stale_65 rfl (by omega) (by decide) rfl rfl rfl ?_
          refine g_goto 4 dX9_stale_68 rfl ?_
          refine Go.fgt 3 ?_
          exact ih _ (by omega) _ _ _ (bi) (t + 1) rfl H9 D14 (by omega) (stT_i4 (j := t + 1) (by omega) (stT_in (by omega) (by have q := q2; omega) hb (fun q => by have y := q.1; omega) (rz5.1.mp (by omega)))) (stT_in (by omega) (by have q := q2; omega) hb (fun q => by have y := q.1; omega) (rz5.1.mp (by omega))) (fun hQ wQ BQ rQ eQ  RQ aQ sQ => k hQ wQ BQ rQ eQ  RQ (a10.tr aQ) (((Sm.refl [50, 54, 55, 56, 61, 62, 63, 64] _).tr s11 (fun _ q => q) (by simp)).tr sQ (fun _ q => q) (fun _ q => q)))
        · refine g_iconst (v := iZ (1)) 57 dX9_stale_56 rfl rfl ?_
          refine g_iload_n 58 dX9_stale_57 rfl rfl ?_
          refine g_ishlZ (2 ^ t.toNat) 59 dX9_stale_58 (by have q := shl16 t.toNat (by omega); rwa [Int.toNat_of_nonneg (by omega)] at q) rfl ?_
          refine g_goto 63 dX9_stale_59 rfl ?_
          refine g_iorZ (bi + 2 ^ t.toNat) 64 dX9_stale_63 (orI hb (by omega) (stT_lt _)) rfl ?_
          refine g_istore_n (L1 := [some (.ref 50), some (.int (iZ (bi + 2 ^ t.toNat))), some (.int (iZ t)), some (.int (iZ 0))]) 65 dX9_stale_64 (by decide) rfl rfl rfl ?_
          refine g_iincZ [some (.ref 50), some (.int (iZ (bi + 2 ^ t.toNat))), some (.int (iZ (t + 1))), some (.int (iZ 0))] 68 dX9_stale_65 rfl (by omega) (by decide) rfl rfl rfl ?_
          refine g_goto 4 dX9_stale_68 rfl ?_
          refine Go.fgt 3 ?_
          exact ih _ (by omega) _ _ _ (bi + 2 ^ t.toNat) (t + 1) rfl H9 D14 (by omega) (stT_i4 (j := t + 1) (by omega) (stT_iy (by omega) (by have q := q2; omega) hb (Or.inr (fun q => absurd (rz5.1.mpr q) (by omega))))) (stT_iy (by omega) (by have q := q2; omega) hb (Or.inr (fun q => absurd (rz5.1.mpr q) (by omega)))) (fun hQ wQ BQ rQ eQ  RQ aQ sQ => k hQ wQ BQ rQ eQ  RQ (a10.tr aQ) (((Sm.refl [50, 54, 55, 56, 61, 62, 63, 64] _).tr s11 (fun _ q => q) (by simp)).tr sQ (fun _ q => q) (fun _ q => q)))
      · refine g_iload_n 24 dX9_stale_23 rfl rfl ?_
        refine g_aload_n 25 dX9_stale_24 rfl rfl ?_
        refine g_get 28 dX9_stale_25 faX9_35_X9 F50_1 rfl rfl ?_
        refine g_iload_n 29 dX9_stale_28 rfl rfl ?_
        have b16 := o59_1 ((t).toNat)
        refine g_ialdZ (v := iZ ((B 59) t.toNat)) 30 dX9_stale_29 F59_1 (by omega) (by omega) (by decide) rfl rfl ?_
        refine g_ishr 31 dX9_stale_30 rfl ?_
        refine g_iconst (v := iZ (1)) 32 dX9_stale_31 rfl rfl ?_
        refine g_iand 33 dX9_stale_32 rfl ?_
        refine Go.zof ?_
        refine g_iconst (v := iZ (1)) 34 dX9_stale_33 rfl rfl ?_
        refine g_icZ_ne 41 37 dX9_stale_34 rfl rfl (rg_toInt _) (by decide) (fun c17 => ?_) (fun c17 => ?_)
        · refine g_iconst (v := iZ (0)) 42 dX9_stale_41 rfl rfl ?_
          refine g_istore_n (L1 := [some (.ref 50), some (.int (iZ bi)), some (.int (iZ t)), some (.int (iZ 0))]) 43 dX9_stale_42 (by decide) rfl rfl rfl ?_
          refine g_iload_n 44 dX9_stale_43 rfl rfl ?_
          refine g_iload_n 45 dX9_stale_44 rfl rfl ?_
          refine g_ifZ_ne 56 48 dX9_stale_45 rfl rfl (by decide) (fun q => absurd q (by decide)) (fun _ => ?_)
          refine g_aload_n 49 dX9_stale_48 rfl rfl ?_
          refine g_iload_n 50 dX9_stale_49 rfl rfl ?_
          refine g_callV (z := mX9_again) (As := [.int (iZ t)]) 53 dX9_stale_50 mwX9_again ⟨by decide, by decide⟩ rfl wlX9_217 wiX9_again wsX9_again F50_1 rfl rfl rfl (nle rfl) (nle rfl) rfl ?_
          refine c_again H (by omega) hD (by omega) (fun h19 w20 B21 z18 rz18  H22 a23 s24 => ?_)
          have e25 := a23.1
          have n26 := H22.2.2.1.2.1
          have D27 := hD.ag a23 H
          refine rI ?_
          refine g_ifZ_eq 62 56 dX9_stale_53 rfl rfl rz18.2 (fun c28 => ?_) (fun c28 => ?_)
          · refine g_iconst (v := iZ (0)) 63 dX9_stale_62 rfl rfl ?_
            refine g_iorZ (bi) 64 dX9_stale_63 (or0 bi) rfl ?_
            refine g_istore_n (L1 := [some (.ref 50), some (.int (iZ bi)), some (.int (iZ t)), some (.int (iZ 0))]) 65 dX9_stale_64 (by decide) rfl rfl rfl ?_
            refine g_iincZ [some (.ref 50), some (.int (iZ bi)), some (.int (iZ (t + 1))), some (.int (iZ 0))] 68 dX9_stale_65 rfl (by omega) (by decide) rfl rfl rfl ?_
            refine g_goto 4 dX9_stale_68 rfl ?_
            refine Go.fgt 3 ?_
            exact ih _ (by omega) _ _ _ (bi) (t + 1) rfl H22 D27 (by omega) (stT_i4 (j := t + 1) (by omega) (stT_in (by omega) (by have q := q2; omega) hb (fun q => c17 (by have y := q.2; rw [← e3] at y; exact y)) (rz18.1.mp (by omega)))) (stT_in (by omega) (by have q := q2; omega) hb (fun q => c17 (by have y := q.2; rw [← e3] at y; exact y)) (rz18.1.mp (by omega))) (fun hQ wQ BQ rQ eQ  RQ aQ sQ => k hQ wQ BQ rQ eQ  RQ (a23.tr aQ) (((Sm.refl [50, 54, 55, 56, 61, 62, 63, 64] _).tr s24 (fun _ q => q) (by simp)).tr sQ (fun _ q => q) (fun _ q => q)))
          · refine g_iconst (v := iZ (1)) 57 dX9_stale_56 rfl rfl ?_
            refine g_iload_n 58 dX9_stale_57 rfl rfl ?_
            refine g_ishlZ (2 ^ t.toNat) 59 dX9_stale_58 (by have q := shl16 t.toNat (by omega); rwa [Int.toNat_of_nonneg (by omega)] at q) rfl ?_
            refine g_goto 63 dX9_stale_59 rfl ?_
            refine g_iorZ (bi + 2 ^ t.toNat) 64 dX9_stale_63 (orI hb (by omega) (stT_lt _)) rfl ?_
            refine g_istore_n (L1 := [some (.ref 50), some (.int (iZ (bi + 2 ^ t.toNat))), some (.int (iZ t)), some (.int (iZ 0))]) 65 dX9_stale_64 (by decide) rfl rfl rfl ?_
            refine g_iincZ [some (.ref 50), some (.int (iZ (bi + 2 ^ t.toNat))), some (.int (iZ (t + 1))), some (.int (iZ 0))] 68 dX9_stale_65 rfl (by omega) (by decide) rfl rfl rfl ?_
            refine g_goto 4 dX9_stale_68 rfl ?_
            refine Go.fgt 3 ?_
            exact ih _ (by omega) _ _ _ (bi + 2 ^ t.toNat) (t + 1) rfl H22 D27 (by omega) (stT_i4 (j := t + 1) (by omega) (stT_iy (by omega) (by have q := q2; omega) hb (Or.inr (fun q => absurd (rz18.1.mpr q) (by omega))))) (stT_iy (by omega) (by have q := q2; omega) hb (Or.inr (fun q => absurd (rz18.1.mpr q) (by omega)))) (fun hQ wQ BQ rQ eQ  RQ aQ sQ => k hQ wQ BQ rQ eQ  RQ (a23.tr aQ) (((Sm.refl [50, 54, 55, 56, 61, 62, 63, 64] _).tr s24 (fun _ q => q) (by simp)).tr sQ (fun _ q => q) (fun _ q => q)))
        · refine g_iconst (v := iZ (1)) 38 dX9_stale_37 rfl rfl ?_
          refine g_goto 42 dX9_stale_38 rfl ?_
          refine g_istore_n (L1 := [some (.ref 50), some (.int (iZ bi)), some (.int (iZ t)), some (.int (iZ 1))]) 43 dX9_stale_42 (by decide) rfl rfl rfl ?_
          refine g_iload_n 44 dX9_stale_43 rfl rfl ?_
          refine g_iload_n 45 dX9_stale_44 rfl rfl ?_
          refine g_ifZ_ne 56 48 dX9_stale_45 rfl rfl (by decide) (fun _ => ?_) (fun q => absurd q (by decide))
          refine g_iconst (v := iZ (1)) 57 dX9_stale_56 rfl rfl ?_
          refine g_iload_n 58 dX9_stale_57 rfl rfl ?_
          refine g_ishlZ (2 ^ t.toNat) 59 dX9_stale_58 (by have q := shl16 t.toNat (by omega); rwa [Int.toNat_of_nonneg (by omega)] at q) rfl ?_
          refine g_goto 63 dX9_stale_59 rfl ?_
          refine g_iorZ (bi + 2 ^ t.toNat) 64 dX9_stale_63 (orI hb (by omega) (stT_lt _)) rfl ?_
          refine g_istore_n (L1 := [some (.ref 50), some (.int (iZ (bi + 2 ^ t.toNat))), some (.int (iZ t)), some (.int (iZ 1))]) 65 dX9_stale_64 (by decide) rfl rfl rfl ?_
          refine g_iincZ [some (.ref 50), some (.int (iZ (bi + 2 ^ t.toNat))), some (.int (iZ (t + 1))), some (.int (iZ 1))] 68 dX9_stale_65 rfl (by omega) (by decide) rfl rfl rfl ?_
          refine g_goto 4 dX9_stale_68 rfl ?_
          refine Go.fgt 3 ?_
          exact ih _ (by omega) _ _ _ (bi + 2 ^ t.toNat) (t + 1) rfl H hD (by omega) (stT_i4 (j := t + 1) (by omega) (stT_iy (by omega) (by have q := q2; omega) hb (Or.inl ⟨by omega, by rw [← e3]; exact c17⟩))) (stT_iy (by omega) (by have q := q2; omega) hb (Or.inl ⟨by omega, by rw [← e3]; exact c17⟩)) k
set_option maxRecDepth 100000 in
theorem c_stale {l : Launch} {h : MH} {Q : Option Value → MH → Prop} {tr : Int64} {ty tx : Nat → Int32} {w : Nat → Int} {B : Nat → Nat → Int} {tc : Nat} {V Bf Lf : Nat → Nat → Int} {xn : Nat → Int} {xf : Nat → Nat → Int}  (H : R9B h tr ty tx w B)  (hD : DQ tc V Bf Lf xn xf tx w B) (k : ∀ (h1 : MH) (w1 : Nat → Int) (B1 : Nat → Nat → Int) (r : Int), (r = ((stT xn (XF xf) V Bf tc : Nat) : Int)) → R9B h1 tr ty tx w1 B1 → AgB w B w1 B1 → Sm [50, 54, 55, 56, 61, 62, 63, 64] h h1 → Q (some (.int (iZ r))) h1) : Go l mX9_stale 0 [some (.ref 50), none, none, none] [] h Q := by
  have n0 := H.2.2.1.2.1
  refine g_iconst (v := iZ (0)) 1 dX9_stale_0 rfl rfl ?_
  refine g_istore_n (L1 := [some (.ref 50), some (.int (iZ 0)), none, none]) 2 dX9_stale_1 (by decide) rfl rfl rfl ?_
  refine g_iconst (v := iZ (0)) 3 dX9_stale_2 rfl rfl ?_
  refine g_istore_n (L1 := [some (.ref 50), some (.int (iZ 0)), some (.int (iZ 0)), none]) 4 dX9_stale_3 (by decide) rfl rfl rfl ?_
  exact c_stale_l  _ _ _ _ (0) (0) rfl H hD (by omega) (by omega) rfl k

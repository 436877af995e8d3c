set_option maxRecDepth 100000 in
theorem c_settles_l {l : Launch} {Q : Option Value → MH → Prop} {tr : Int64} {ty tx : Nat → Int32} {tc : Nat} {V Bf Lf : Nat → Nat → Int} {xn : Nat → Int} {xf : Nat → Nat → Int} {t i : Int} (rt : rg t) (ri : rg i) : ∀ (m0 : Nat) (h : MH) (w : Nat → Int) (B : Nat → Nat → Int) (u : Int), (7 - u).toNat = m0 → R9B h tr ty tx w B → (DQ tc V Bf Lf xn xf tx w B) → (1 ≤ u ∧ u ≤ 7) → (0 ≤ i ∧ i ≤ 7) → (0 ≤ t ∧ t < tc) → (okS (B 54) (B 56) 13) → (seF (xn i.toNat) (fun j => xf i.toNat j.toNat) 6 1 (V 0 t.toNat) (Bf t.toNat) = seF (xn i.toNat) (fun j => xf i.toNat j.toNat) (7 - u).toNat u (B 56 13) (refB B 13)) → (∀ (h1 : MH) (w1 : Nat → Int) (B1 : Nat → Nat → Int) (r : Int), (seP (seF (xn i.toNat) (fun j => xf i.toNat j.toNat) 6 1 (V 0 t.toNat) (Bf t.toNat)) tc t i r) → R9B h1 tr ty tx w1 B1 → AgB w B w1 B1 → Sm [50, 54, 55, 56, 61, 62, 63, 64] h h1 → Q (some (.int (iZ r))) h1) → Go l mX9_settles 26 [some (.ref 50), none, some (.int (iZ i)), some (.int (iZ u))] [] h Q := by
  intro m0
  induction m0 using Nat.strongRecOn with
  | ind m0 ih =>
    intro h w B u hmz H hD hu hi hv hS hE k
    have n0 := H.2.2.1.2.1
    refine g_iload_n 27 dX9_settles_26 rfl rfl ?_
    refine g_bipush (v := iZ (6)) 29 dX9_settles_27 (by decide +kernel) rfl ?_
    refine g_icZ_gt 74 32 dX9_settles_29 rfl rfl (by omega) (by decide) (fun c1 => ?_) (fun c1 => ?_)
    · refine g_bipush (v := iZ (-9)) 76 dX9_settles_74 (by decide +kernel) rfl ?_
      refine g_iret rfl dX9_settles_76 ?_
      have e9 : u = 7 := by omega
      rw [e9] at hE
      exact k _ _ _ (-9) ⟨fun _ => hE.symm, fun q => absurd (⟨hv.1, hv.2, hi.1, hi.2⟩ : 0 ≤ t ∧ t < (tc : Int) ∧ 0 ≤ i ∧ i ≤ 7) q⟩  H (AgB.refl _ _) (Sm.refl [50, 54, 55, 56, 61, 62, 63, 64] _)
    · refine g_aload_n 33 dX9_settles_32 rfl rfl ?_
      refine g_bipush (v := iZ (13)) 35 dX9_settles_33 (by decide +kernel) rfl ?_
      refine g_iload_n 36 dX9_settles_35 rfl rfl ?_
      refine g_bipush (v := iZ (14)) 38 dX9_settles_36 (by decide +kernel) rfl ?_
      obtain ⟨F50_2, ⟨F51_2, F52_2, F53_2, F54_2, F55_2, F56_2, F57_2, F58_2, F59_2, F60_2, F61_2, F62_2, F63_2, F64_2, F65_2, F66_2, F67_2, F68_2, F69_2, F70_2, kty_2, ktx_2⟩, ⟨r2_2, r5_2, r13_2, r14_2, r15_2, r16_2, r17_2, r18_2, r19_2, r20_2, r25_2, r26_2, r27_2, r28_2, r29_2, r30_2, r31_2, r35_2⟩, ⟨o53_2, o54_2, o55_2, o56_2, o57_2, o58_2, o59_2, o60_2, o61_2, o62_2, o63_2, o64_2, o65_2, o66_2, o67_2, o68_2, o69_2, o70_2⟩, hT_2⟩ := id H
      refine g_callV (z := mX9_builds) (As := [.int (iZ 13), .int (iZ i), .int (iZ 14)]) 41 dX9_settles_38 mwX9_builds ⟨by decide, by decide⟩ rfl wlX9_211 wiX9_builds wsX9_builds F50_2 rfl rfl rfl (nle rfl) (nle rfl) rfl ?_
      refine b_blds H (by omega) (by omega) (by omega) hS (fun h8 w9 B10 z3 rz3 p4 p5 p6 p7 H11 a12 s13 => ?_)
      have e14 := a12.1
      have n15 := H11.2.2.1.2.1
      have D16 := hD.ag a12 H
      refine rI ?_
      refine g_ifZ_eq 47 44 dX9_settles_41 rfl rfl (by omega) (fun c17 => ?_) (fun c17 => ?_)
      · refine g_aload_n 48 dX9_settles_47 rfl rfl ?_
        refine g_bipush (v := iZ (13)) 50 dX9_settles_48 (by decide +kernel) rfl ?_
        refine g_bipush (v := iZ (14)) 52 dX9_settles_50 (by decide +kernel) rfl ?_
        obtain ⟨F50_18, ⟨F51_18, F52_18, F53_18, F54_18, F55_18, F56_18, F57_18, F58_18, F59_18, F60_18, F61_18, F62_18, F63_18, F64_18, F65_18, F66_18, F67_18, F68_18, F69_18, F70_18, kty_18, ktx_18⟩, ⟨r2_18, r5_18, r13_18, r14_18, r15_18, r16_18, r17_18, r18_18, r19_18, r20_18, r25_18, r26_18, r27_18, r28_18, r29_18, r30_18, r31_18, r35_18⟩, ⟨o53_18, o54_18, o55_18, o56_18, o57_18, o58_18, o59_18, o60_18, o61_18, o62_18, o63_18, o64_18, o65_18, o66_18, o67_18, o68_18, o69_18, o70_18⟩, hT_18⟩ := id H11
        refine g_callV (z := mX9_unlike) (As := [.int (iZ 13), .int (iZ 14)]) 55 dX9_settles_52 mwX9_unlike ⟨by decide, by decide⟩ rfl wlX9_214 wiX9_unlike wsX9_unlike F50_18 rfl rfl rfl (nle rfl) (nle rfl) rfl ?_
        refine b_unl H11 (by omega) (by omega) (fun z19 rz19 => ?_)
        refine rI ?_
        refine g_ifZ_ne 60 58 dX9_settles_55 rfl rfl (by omega) (fun c20 => ?_) (fun c20 => ?_)
        · refine g_aload_n 61 dX9_settles_60 rfl rfl ?_
          refine g_bipush (v := iZ (14)) 63 dX9_settles_61 (by decide +kernel) rfl ?_
          refine g_bipush (v := iZ (13)) 65 dX9_settles_63 (by decide +kernel) rfl ?_
          refine g_callV (z := mX9_move) (As := [.int (iZ 14), .int (iZ 13)]) 68 dX9_settles_65 mwX9_move ⟨by decide, by decide⟩ rfl wlX9_167 wiX9_move wsX9_move F50_18 rfl rfl rfl (nle rfl) (nle rfl) rfl ?_
          refine b_move H11 (by omega) (by omega) (by omega) (fun h26 w27 B28 p22 p23 p24 p25 H29 a30 s31 => ?_)
          have e32 := a30.1
          have n33 := H29.2.2.1.2.1
          have D34 := D16.ag a30 H11
          refine rV ?_
          refine g_iincZ [some (.ref 50), none, some (.int (iZ i)), some (.int (iZ (u + 1)))] 71 dX9_settles_68 rfl (by omega) (by decide) rfl rfl rfl ?_
          refine g_goto 26 dX9_settles_71 rfl ?_
          have ef : (7 - u).toNat = (6 - u).toNat + 1 := by omega
          rw [ef] at hE
          have eR := hD.runs (i := i) (n := B 56 13) (f := refB B 13) hi
          have g1 := hE.trans (se_rg eR p6 (by omega) (by have q : z19 = ulk (B10 56 13) (refB B10 13) (B10 56 (14 : Int).toNat) (refB B10 (14 : Int).toNat) := rz19.1; rw [ulk_fr (sl := 13) p7 (by decide) (by decide) H.2.2.2.1.2.2.2.1] at q; omega))
          have ef2 : (7 - (u + 1)).toNat = (6 - u).toNat := by omega
          have m1 : B28 56 13 = B10 56 (14 : Int).toNat := p24.1
          have g2 : seF (xn i.toNat) (fun j => xf i.toNat j.toNat) (6 - u).toNat (u + 1) (B10 56 (14 : Int).toNat) (refB B10 (14 : Int).toNat) = seF (xn i.toNat) (fun j => xf i.toNat j.toNat) (6 - u).toNat (u + 1) (B28 56 13) (refB B28 13) := by
            rw [m1]
            refine se_cg (fun j hj => ?_)
            have hb := H11.2.2.2.1.2.2.2.1 14
            have hj2 : (j : Int) < B10 56 14 := hj
            exact (p24.2.1 j (by omega)).symm
          rw [← ef2] at g1 g2
          exact ih _ (by omega) _ _ _ (u + 1) rfl H29 D34 (by omega) (by omega) (by omega) (p23 ((p4 c17).1)) (g1.trans g2) (fun hQ wQ BQ rQ eQ  RQ aQ sQ => k hQ wQ BQ rQ eQ  RQ ((a12.tr a30).tr aQ) ((((Sm.refl [50, 54, 55, 56, 61, 62, 63, 64] _).tr s13 (fun _ q => q) (by simp)).tr s31 (fun _ q => q) (by simp)).tr sQ (fun _ q => q) (fun _ q => q)))
        · refine g_iload_n 59 dX9_settles_58 rfl rfl ?_
          refine g_iret rfl dX9_settles_59 ?_
          have ef : (7 - u).toNat = (6 - u).toNat + 1 := by omega
          rw [ef] at hE
          have eR := hD.runs (i := i) (n := B 56 13) (f := refB B 13) hi
          exact k _ _ _ (u) ⟨fun _ => (hE.trans (se_re eR p6 (by omega) (by have q : z19 = ulk (B10 56 13) (refB B10 13) (B10 56 (14 : Int).toNat) (refB B10 (14 : Int).toNat) := rz19.1; rw [ulk_fr (sl := 13) p7 (by decide) (by decide) H.2.2.2.1.2.2.2.1] at q; omega))).symm, fun q => absurd (⟨hv.1, hv.2, hi.1, hi.2⟩ : 0 ≤ t ∧ t < (tc : Int) ∧ 0 ≤ i ∧ i ≤ 7) q⟩  H11 a12 ((Sm.refl [50, 54, 55, 56, 61, 62, 63, 64] _).tr s13 (fun _ q => q) (by simp))
      · refine g_bipush (v := iZ (-9)) 46 dX9_settles_44 (by decide +kernel) rfl ?_
        refine g_iret rfl dX9_settles_46 ?_
        have ef : (7 - u).toNat = (6 - u).toNat + 1 := by omega
        rw [ef] at hE
        have eR := hD.runs (i := i) (n := B 56 13) (f := refB B 13) hi
        exact k _ _ _ (-9) ⟨fun _ => (hE.trans (se_rn eR p6 (by omega))).symm, fun q => absurd (⟨hv.1, hv.2, hi.1, hi.2⟩ : 0 ≤ t ∧ t < (tc : Int) ∧ 0 ≤ i ∧ i ≤ 7) q⟩  H11 a12 ((Sm.refl [50, 54, 55, 56, 61, 62, 63, 64] _).tr s13 (fun _ q => q) (by simp))
set_option maxRecDepth 100000 in
theorem c_settles {l : Launch} {h : MH} {Q : Option Value → MH → Prop} {tr : Int64} {ty tx : Nat → Int32} {w : Nat → Int} {B : Nat → Nat → Int} {tc : Nat} {V Bf Lf : Nat → Nat → Int} {xn : Nat → Int} {xf : Nat → Nat → Int} {t i : Int} (H : R9B h tr ty tx w B) (rt : rg t) (ri : rg i) (hD : DQ tc V Bf Lf xn xf tx w B) (k : ∀ (h1 : MH) (w1 : Nat → Int) (B1 : Nat → Nat → Int) (r : Int), (seP (seF (xn i.toNat) (fun j => xf i.toNat j.toNat) 6 1 (V 0 t.toNat) (Bf t.toNat)) tc t i r) → R9B h1 tr ty tx w1 B1 → AgB w B w1 B1 → Sm [50, 54, 55, 56, 61, 62, 63, 64] h h1 → Q (some (.int (iZ r))) h1) : Go l mX9_settles 0 [some (.ref 50), some (.int (iZ t)), some (.int (iZ i)), none] [] h Q := by
  have n0 := H.2.2.1.2.1
  refine g_aload_n 1 dX9_settles_0 rfl rfl ?_
  refine g_iload_n 2 dX9_settles_1 rfl rfl ?_
  obtain ⟨F50_1, ⟨F51_1, F52_1, F53_1, F54_1, F55_1, F56_1, F57_1, F58_1, F59_1, F60_1, F61_1, F62_1, F63_1, F64_1, F65_1, F66_1, F67_1, F68_1, F69_1, F70_1, kty_1, ktx_1⟩, ⟨r2_1, r5_1, r13_1, r14_1, r15_1, r16_1, r17_1, r18_1, r19_1, r20_1, r25_1, r26_1, r27_1, r28_1, r29_1, r30_1, r31_1, r35_1⟩, ⟨o53_1, o54_1, o55_1, o56_1, o57_1, o58_1, o59_1, o60_1, o61_1, o62_1, o63_1, o64_1, o65_1, o66_1, o67_1, o68_1, o69_1, o70_1⟩, hT_1⟩ := id H
  refine g_callV (z := mX9_isTool) (As := [.int (iZ t)]) 5 dX9_settles_2 mwX9_isTool ⟨by decide, by decide⟩ rfl wlX9_178 wiX9_isTool wsX9_isTool F50_1 rfl rfl rfl (nle rfl) (nle rfl) rfl ?_
  refine b_isTool H rt (fun z2 rz2 => ?_)
  refine rI ?_
  refine g_ifZ_eq 15 8 dX9_settles_5 rfl rfl (rg01 (by omega)) (fun c3 => ?_) (fun c3 => ?_)
  · refine g_iconst (v := iZ (-1)) 16 dX9_settles_15 rfl rfl ?_
    refine g_iret rfl dX9_settles_16 ?_
    exact k _ _ _ (-1) ⟨fun q => absurd q (by have y := hD.1.1; omega), fun _ => rfl⟩  H (AgB.refl _ _) (Sm.refl [50, 54, 55, 56, 61, 62, 63, 64] _)
  · refine g_iload_n 9 dX9_settles_8 rfl rfl ?_
    refine g_callS (z := mX9_isText) (As := [.int (iZ i)]) 12 dX9_settles_9 mwX9_isText ⟨by decide, by decide⟩ rfl wlX9_81 wtX9_isText rfl (nle rfl) (nle rfl) rfl ?_
    refine n_isText  ri (fun z4 rz4 => ?_)
    refine rI ?_
    refine g_ifZ_ne 17 15 dX9_settles_12 rfl rfl (rg01 (by omega)) (fun c5 => ?_) (fun c5 => ?_)
    · refine g_aload_n 18 dX9_settles_17 rfl rfl ?_
      refine g_iload_n 19 dX9_settles_18 rfl rfl ?_
      refine g_bipush (v := iZ (13)) 21 dX9_settles_19 (by decide +kernel) rfl ?_
      refine g_callV (z := mX9_move) (As := [.int (iZ t), .int (iZ 13)]) 24 dX9_settles_21 mwX9_move ⟨by decide, by decide⟩ rfl wlX9_167 wiX9_move wsX9_move F50_1 rfl rfl rfl (nle rfl) (nle rfl) rfl ?_
      refine b_move H (by omega) (by omega) (by omega) (fun h11 w12 B13 p7 p8 p9 p10 H14 a15 s16 => ?_)
      have e17 := a15.1
      have n18 := H14.2.2.1.2.1
      have D19 := hD.ag a15 H
      refine rV ?_
      refine g_iconst (v := iZ (1)) 25 dX9_settles_24 rfl rfl ?_
      refine g_istore_n (L1 := [some (.ref 50), some (.int (iZ t)), some (.int (iZ i)), some (.int (iZ 1))]) 26 dX9_settles_25 (by decide) rfl rfl rfl ?_
      refine Go.fgt 1 ?_
      have v0 := (hD.v (t := t) (by omega) (by omega)).1
      have m1 : B13 56 13 = V 0 t.toNat := p9.1.trans v0
      have m2 : seF (xn i.toNat) (fun j => xf i.toNat j.toNat) 6 1 (V 0 t.toNat) (Bf t.toNat) = seF (xn i.toNat) (fun j => xf i.toNat j.toNat) 6 1 (B13 56 13) (refB B13 13) := by
        rw [m1]
        refine se_cg (fun j hj => ?_)
        have hb := H.2.2.2.1.2.2.2.1 t.toNat
        have y := hD.1.1
        exact (((p9.2.1 j (by omega)).trans ((hD.1.2 t.toNat (by omega)).2.1 j hj))).symm
      exact c_settles_l rt ri _ _ _ _ (1) rfl H14 D19 (by omega) (by omega) (by have y := hD.1.1; omega) (p8 ((H.2.2.2.2.2 _ (by omega) (by omega)).1)) m2 (fun hQ wQ BQ rQ eQ  RQ aQ sQ => k hQ wQ BQ rQ eQ  RQ (a15.tr aQ) (((Sm.refl [50, 54, 55, 56, 61, 62, 63, 64] _).tr s16 (fun _ q => q) (by simp)).tr sQ (fun _ q => q) (fun _ q => q)))
    · refine g_iconst (v := iZ (-1)) 16 dX9_settles_15 rfl rfl ?_
      refine g_iret rfl dX9_settles_16 ?_
      exact k _ _ _ (-1) ⟨fun q => absurd q (by have y := hD.1.1; omega), fun _ => rfl⟩  H (AgB.refl _ _) (Sm.refl [50, 54, 55, 56, 61, 62, 63, 64] _)

set_option maxRecDepth 100000 in
theorem c_goR {l : Launch} {h : MH} {Q : Option Value → MH → Prop} {tr : Int64} {ty tx : Nat → Int32} {w : Nat → Int} {B : Nat → Nat → Int} {tc : Nat} {V Bf Lf : Nat → Nat → Int} {xn : Nat → Int} {xf : Nat → Nat → Int} {t u i : Int} (H : R9B h tr ty tx w B) (rt : (0 ≤ t ∧ t ≤ 11)) (ru : (0 ≤ u ∧ u ≤ 11)) (ri : (0 ≤ i ∧ i ≤ 7)) (hD : DQ tc V Bf Lf xn xf tx w B) (ht : t < w 5) (hu : u < w 5) (k : ∀ (h1 : MH) (w1 : Nat → Int) (B1 : Nat → Nat → Int) (r : Int), (r = rdF (xn i.toNat) (fun j => xf i.toNat j.toNat) (V 0 t.toNat) (Bf t.toNat) (V 0 u.toNat) (Bf u.toNat) ∧ (r = -2 ∨ (0 ≤ r ∧ r ≤ 257))) → (r ≠ -2 → ∀ (n0 : Int) (f0 : Nat → Int), ulk n0 f0 (B1 56 12) (refB B1 12) = ulk n0 f0 (msC (run0 (xn i.toNat) (fun j => xf i.toNat j.toNat) (V 0 t.toNat) (Bf t.toNat)).2) (msO (run0 (xn i.toNat) (fun j => xf i.toNat j.toNat) (V 0 t.toNat) (Bf t.toNat)).2)) → R9B h1 tr ty tx w1 B1 → AgB w B w1 B1 → Sm [50, 54, 55, 56, 61, 62, 63, 64] h h1 → Q (some (.int (iZ r))) h1) : Go l mX9_goRound 0 [some (.ref 50), some (.int (iZ t)), some (.int (iZ u)), some (.int (iZ i)), none] [] h Q := by
  have n0 := H.2.2.1.2.1
  refine g_aload_n 1 dX9_goRound_0 rfl rfl ?_
  refine g_iload_n 2 dX9_goRound_1 rfl rfl ?_
  refine g_iload_n 3 dX9_goRound_2 rfl rfl ?_
  refine g_bipush (v := iZ (12)) 5 dX9_goRound_3 (by decide +kernel) rfl ?_
  obtain ⟨F50_1, ⟨F51_1, F52_1, F53_1, F54_1, F55_1, F56_1, F57_1, F58_1, F59_1, F60_1, F61_1, F62_1, F63_1, F64_1, F65_1, F66_1, F67_1, F68_1, F69_1, F70_1, kty_1, ktx_1⟩, ⟨r2_1, r5_1, r13_1, r14_1, r15_1, r16_1, r17_1, r18_1, r19_1, r20_1, r25_1, r26_1, r27_1, r28_1, r29_1, r30_1, r31_1, r35_1⟩, ⟨o53_1, o54_1, o55_1, o56_1, o57_1, o58_1, o59_1, o60_1, o61_1, o62_1, o63_1, o64_1, o65_1, o66_1, o67_1, o68_1, o69_1, o70_1⟩, hT_1⟩ := id H
  refine g_callV (z := mX9_builds) (As := [.int (iZ t), .int (iZ i), .int (iZ 12)]) 8 dX9_goRound_5 mwX9_builds ⟨by decide, by decide⟩ rfl wlX9_211 wiX9_builds wsX9_builds F50_1 rfl rfl rfl (nle rfl) (nle rfl) rfl ?_
  refine b_blds H (by omega) (by omega) (by omega) ((H.2.2.2.2.2 _ (by omega) (by omega)).1) (fun h7 w8 B9 z2 rz2 p3 p4 p5 p6 H10 a11 s12 => ?_)
  have e13 := a11.1
  have n14 := H10.2.2.1.2.1
  have D15 := hD.ag a11 H
  refine rI ?_
  refine g_ifZ_ne 50 11 dX9_goRound_8 rfl rfl (by omega) (fun c16 => ?_) (fun c16 => ?_)
  · refine g_iconst (v := iZ (0)) 51 dX9_goRound_50 rfl rfl ?_
    refine g_istore (L1 := [some (.ref 50), some (.int (iZ t)), some (.int (iZ u)), some (.int (iZ i)), some (.int (iZ 0))]) 53 dX9_goRound_51 (by decide) rfl rfl rfl ?_
    refine g_iload 55 dX9_goRound_53 rfl rfl ?_
    refine g_ifZ_eq 69 58 dX9_goRound_55 rfl rfl (by decide) (fun _ => ?_) (fun q => absurd q (by decide))
    refine g_bipush (v := iZ (-2)) 71 dX9_goRound_69 (by decide +kernel) rfl ?_
    refine g_iret rfl dX9_goRound_71 ?_
    have E1 := hD.run (t := t) (i := i) (by omega) (by have y := hD.1.1; have y0 := hD.1.1; omega) ri
    have kn := bld_no E1 p5 (by omega)
    exact k _ _ _ (-2) ⟨(rd_n (fun q => kn q.1)).symm, Or.inl rfl⟩ (fun q => absurd rfl q) H10 a11 ((Sm.refl [50, 54, 55, 56, 61, 62, 63, 64] _).tr s12 (fun _ q => q) (by simp))
  · refine g_aload_n 12 dX9_goRound_11 rfl rfl ?_
    refine g_bipush (v := iZ (12)) 14 dX9_goRound_12 (by decide +kernel) rfl ?_
    refine g_iload_n 15 dX9_goRound_14 rfl rfl ?_
    refine g_bipush (v := iZ (13)) 17 dX9_goRound_15 (by decide +kernel) rfl ?_
    obtain ⟨F50_17, ⟨F51_17, F52_17, F53_17, F54_17, F55_17, F56_17, F57_17, F58_17, F59_17, F60_17, F61_17, F62_17, F63_17, F64_17, F65_17, F66_17, F67_17, F68_17, F69_17, F70_17, kty_17, ktx_17⟩, ⟨r2_17, r5_17, r13_17, r14_17, r15_17, r16_17, r17_17, r18_17, r19_17, r20_17, r25_17, r26_17, r27_17, r28_17, r29_17, r30_17, r31_17, r35_17⟩, ⟨o53_17, o54_17, o55_17, o56_17, o57_17, o58_17, o59_17, o60_17, o61_17, o62_17, o63_17, o64_17, o65_17, o66_17, o67_17, o68_17, o69_17, o70_17⟩, hT_17⟩ := id H10
    refine g_callV (z := mX9_builds) (As := [.int (iZ 12), .int (iZ i), .int (iZ 13)]) 20 dX9_goRound_17 mwX9_builds ⟨by decide, by decide⟩ rfl wlX9_211 wiX9_builds wsX9_builds F50_17 rfl rfl rfl (nle rfl) (nle rfl) rfl ?_
    refine b_blds H10 (by omega) (by omega) (by omega) ((p3 c16).1) (fun h23 w24 B25 z18 rz18 p19 p20 p21 p22 H26 a27 s28 => ?_)
    have e29 := a27.1
    have n30 := H26.2.2.1.2.1
    have D31 := D15.ag a27 H10
    refine rI ?_
    refine g_ifZ_ne 50 23 dX9_goRound_20 rfl rfl (by omega) (fun c32 => ?_) (fun c32 => ?_)
    · refine g_iconst (v := iZ (0)) 51 dX9_goRound_50 rfl rfl ?_
      refine g_istore (L1 := [some (.ref 50), some (.int (iZ t)), some (.int (iZ u)), some (.int (iZ i)), some (.int (iZ 0))]) 53 dX9_goRound_51 (by decide) rfl rfl rfl ?_
      refine g_iload 55 dX9_goRound_53 rfl rfl ?_
      refine g_ifZ_eq 69 58 dX9_goRound_55 rfl rfl (by decide) (fun _ => ?_) (fun q => absurd q (by decide))
      refine g_bipush (v := iZ (-2)) 71 dX9_goRound_69 (by decide +kernel) rfl ?_
      refine g_iret rfl dX9_goRound_71 ?_
      have E1 := hD.run (t := t) (i := i) (by omega) (by have y := hD.1.1; have y0 := hD.1.1; omega) ri
      obtain ⟨k1, c1, d1, u1⟩ := se_rd E1.symm.symm p5 (by omega) 0 (fun _ => 0)
      have E2 := D15.runs (i := i) (n := B9 56 (12 : Int).toNat) (f := refB B9 (12 : Int).toNat) ri
      have G2 : run0 (xn i.toNat) (fun j => xf i.toNat j.toNat) (msC (run0 (xn i.toNat) (fun j => xf i.toNat j.toNat) (V 0 t.toNat) (Bf t.toNat)).2) (msO (run0 (xn i.toNat) (fun j => xf i.toNat j.toNat) (V 0 t.toNat) (Bf t.toNat)).2) = run0 (xn i.toNat) (fun j => xf i.toNat j.toNat) (B9 56 (12 : Int).toNat) (refB B9 (12 : Int).toNat) := by rw [c1]; exact run0_cg d1
      have kn := bld_no (E2.trans G2.symm) p21 (by omega)
      exact k _ _ _ (-2) ⟨(rd_n (fun q => kn q.2.1)).symm, Or.inl rfl⟩ (fun q => absurd rfl q) H26 (a11.tr a27) (((Sm.refl [50, 54, 55, 56, 61, 62, 63, 64] _).tr s12 (fun _ q => q) (by simp)).tr s28 (fun _ q => q) (by simp))
    · refine g_aload_n 24 dX9_goRound_23 rfl rfl ?_
      refine g_iload_n 25 dX9_goRound_24 rfl rfl ?_
      refine g_iload_n 26 dX9_goRound_25 rfl rfl ?_
      refine g_bipush (v := iZ (14)) 28 dX9_goRound_26 (by decide +kernel) rfl ?_
      obtain ⟨F50_33, ⟨F51_33, F52_33, F53_33, F54_33, F55_33, F56_33, F57_33, F58_33, F59_33, F60_33, F61_33, F62_33, F63_33, F64_33, F65_33, F66_33, F67_33, F68_33, F69_33, F70_33, kty_33, ktx_33⟩, ⟨r2_33, r5_33, r13_33, r14_33, r15_33, r16_33, r17_33, r18_33, r19_33, r20_33, r25_33, r26_33, r27_33, r28_33, r29_33, r30_33, r31_33, r35_33⟩, ⟨o53_33, o54_33, o55_33, o56_33, o57_33, o58_33, o59_33, o60_33, o61_33, o62_33, o63_33, o64_33, o65_33, o66_33, o67_33, o68_33, o69_33, o70_33⟩, hT_33⟩ := id H26
      refine g_callV (z := mX9_builds) (As := [.int (iZ u), .int (iZ i), .int (iZ 14)]) 31 dX9_goRound_28 mwX9_builds ⟨by decide, by decide⟩ rfl wlX9_211 wiX9_builds wsX9_builds F50_33 rfl rfl rfl (nle rfl) (nle rfl) rfl ?_
      refine b_blds H26 (by omega) (by omega) (by omega) ((H26.2.2.2.2.2 _ (by omega) (by omega)).1) (fun h39 w40 B41 z34 rz34 p35 p36 p37 p38 H42 a43 s44 => ?_)
      have e45 := a43.1
      have n46 := H42.2.2.1.2.1
      have D47 := D31.ag a43 H26
      refine rI ?_
      refine g_ifZ_ne 50 34 dX9_goRound_31 rfl rfl (by omega) (fun c48 => ?_) (fun c48 => ?_)
      · refine g_iconst (v := iZ (0)) 51 dX9_goRound_50 rfl rfl ?_
        refine g_istore (L1 := [some (.ref 50), some (.int (iZ t)), some (.int (iZ u)), some (.int (iZ i)), some (.int (iZ 0))]) 53 dX9_goRound_51 (by decide) rfl rfl rfl ?_
        refine g_iload 55 dX9_goRound_53 rfl rfl ?_
        refine g_ifZ_eq 69 58 dX9_goRound_55 rfl rfl (by decide) (fun _ => ?_) (fun q => absurd q (by decide))
        refine g_bipush (v := iZ (-2)) 71 dX9_goRound_69 (by decide +kernel) rfl ?_
        refine g_iret rfl dX9_goRound_71 ?_
        have E1 := hD.run (t := t) (i := i) (by omega) (by have y := hD.1.1; have y0 := hD.1.1; omega) ri
        obtain ⟨k1, c1, d1, u1⟩ := se_rd E1.symm.symm p5 (by omega) 0 (fun _ => 0)
        have E2 := D15.runs (i := i) (n := B9 56 (12 : Int).toNat) (f := refB B9 (12 : Int).toNat) ri
        have G2 : run0 (xn i.toNat) (fun j => xf i.toNat j.toNat) (msC (run0 (xn i.toNat) (fun j => xf i.toNat j.toNat) (V 0 t.toNat) (Bf t.toNat)).2) (msO (run0 (xn i.toNat) (fun j => xf i.toNat j.toNat) (V 0 t.toNat) (Bf t.toNat)).2) = run0 (xn i.toNat) (fun j => xf i.toNat j.toNat) (B9 56 (12 : Int).toNat) (refB B9 (12 : Int).toNat) := by rw [c1]; exact run0_cg d1
        obtain ⟨k2, c2, d2, u2⟩ := se_rd (E2.trans G2.symm) p21 (by omega) 0 (fun _ => 0)
        have E3 := D31.run (t := u) (i := i) (by omega) (by have y := D31.1.1; have y0 := hD.1.1; omega) ri
        have kn := bld_no E3 p37 (by omega)
        exact k _ _ _ (-2) ⟨(rd_n (fun q => kn q.2.2.1)).symm, Or.inl rfl⟩ (fun q => absurd rfl q) H42 ((a11.tr a27).tr a43) ((((Sm.refl [50, 54, 55, 56, 61, 62, 63, 64] _).tr s12 (fun _ q => q) (by simp)).tr s28 (fun _ q => q) (by simp)).tr s44 (fun _ q => q) (by simp))
      · refine g_aload_n 35 dX9_goRound_34 rfl rfl ?_
        refine g_bipush (v := iZ (14)) 37 dX9_goRound_35 (by decide +kernel) rfl ?_
        refine g_iload_n 38 dX9_goRound_37 rfl rfl ?_
        refine g_bipush (v := iZ (15)) 40 dX9_goRound_38 (by decide +kernel) rfl ?_
        obtain ⟨F50_49, ⟨F51_49, F52_49, F53_49, F54_49, F55_49, F56_49, F57_49, F58_49, F59_49, F60_49, F61_49, F62_49, F63_49, F64_49, F65_49, F66_49, F67_49, F68_49, F69_49, F70_49, kty_49, ktx_49⟩, ⟨r2_49, r5_49, r13_49, r14_49, r15_49, r16_49, r17_49, r18_49, r19_49, r20_49, r25_49, r26_49, r27_49, r28_49, r29_49, r30_49, r31_49, r35_49⟩, ⟨o53_49, o54_49, o55_49, o56_49, o57_49, o58_49, o59_49, o60_49, o61_49, o62_49, o63_49, o64_49, o65_49, o66_49, o67_49, o68_49, o69_49, o70_49⟩, hT_49⟩ := id H42
        refine g_callV (z := mX9_builds) (As := [.int (iZ 14), .int (iZ i), .int (iZ 15)]) 43 dX9_goRound_40 mwX9_builds ⟨by decide, by decide⟩ rfl wlX9_211 wiX9_builds wsX9_builds F50_49 rfl rfl rfl (nle rfl) (nle rfl) rfl ?_
        refine b_blds H42 (by omega) (by omega) (by omega) ((p35 c48).1) (fun h55 w56 B57 z50 rz50 p51 p52 p53 p54 H58 a59 s60 => ?_)
        have e61 := a59.1
        have n62 := H58.2.2.1.2.1
        have D63 := D47.ag a59 H42
        refine rI ?_
        refine g_ifZ_ne 50 46 dX9_goRound_43 rfl rfl (by omega) (fun c64 => ?_) (fun c64 => ?_)
        · refine g_iconst (v := iZ (0)) 51 dX9_goRound_50 rfl rfl ?_
          refine g_istore (L1 := [some (.ref 50), some (.int (iZ t)), some (.int (iZ u)), some (.int (iZ i)), some (.int (iZ 0))]) 53 dX9_goRound_51 (by decide) rfl rfl rfl ?_
          refine g_iload 55 dX9_goRound_53 rfl rfl ?_
          refine g_ifZ_eq 69 58 dX9_goRound_55 rfl rfl (by decide) (fun _ => ?_) (fun q => absurd q (by decide))
          refine g_bipush (v := iZ (-2)) 71 dX9_goRound_69 (by decide +kernel) rfl ?_
          refine g_iret rfl dX9_goRound_71 ?_
          have E1 := hD.run (t := t) (i := i) (by omega) (by have y := hD.1.1; have y0 := hD.1.1; omega) ri
          obtain ⟨k1, c1, d1, u1⟩ := se_rd E1.symm.symm p5 (by omega) 0 (fun _ => 0)
          have E2 := D15.runs (i := i) (n := B9 56 (12 : Int).toNat) (f := refB B9 (12 : Int).toNat) ri
          have G2 : run0 (xn i.toNat) (fun j => xf i.toNat j.toNat) (msC (run0 (xn i.toNat) (fun j => xf i.toNat j.toNat) (V 0 t.toNat) (Bf t.toNat)).2) (msO (run0 (xn i.toNat) (fun j => xf i.toNat j.toNat) (V 0 t.toNat) (Bf t.toNat)).2) = run0 (xn i.toNat) (fun j => xf i.toNat j.toNat) (B9 56 (12 : Int).toNat) (refB B9 (12 : Int).toNat) := by rw [c1]; exact run0_cg d1
          obtain ⟨k2, c2, d2, u2⟩ := se_rd (E2.trans G2.symm) p21 (by omega) 0 (fun _ => 0)
          have E3 := D31.run (t := u) (i := i) (by omega) (by have y := D31.1.1; have y0 := hD.1.1; omega) ri
          obtain ⟨k3, c3, d3, u3⟩ := se_rd E3.symm.symm p37 (by omega) 0 (fun _ => 0)
          have E4 := D47.runs (i := i) (n := B41 56 (14 : Int).toNat) (f := refB B41 (14 : Int).toNat) ri
          have G4 : run0 (xn i.toNat) (fun j => xf i.toNat j.toNat) (msC (run0 (xn i.toNat) (fun j => xf i.toNat j.toNat) (V 0 u.toNat) (Bf u.toNat)).2) (msO (run0 (xn i.toNat) (fun j => xf i.toNat j.toNat) (V 0 u.toNat) (Bf u.toNat)).2) = run0 (xn i.toNat) (fun j => xf i.toNat j.toNat) (B41 56 (14 : Int).toNat) (refB B41 (14 : Int).toNat) := by rw [c3]; exact run0_cg d3
          have kn := bld_no (E4.trans G4.symm) p53 (by omega)
          exact k _ _ _ (-2) ⟨(rd_n (fun q => kn q.2.2.2)).symm, Or.inl rfl⟩ (fun q => absurd rfl q) H58 (((a11.tr a27).tr a43).tr a59) (((((Sm.refl [50, 54, 55, 56, 61, 62, 63, 64] _).tr s12 (fun _ q => q) (by simp)).tr s28 (fun _ q => q) (by simp)).tr s44 (fun _ q => q) (by simp)).tr s60 (fun _ q => q) (by simp))
        · refine g_iconst (v := iZ (1)) 47 dX9_goRound_46 rfl rfl ?_
          refine g_goto 51 dX9_goRound_47 rfl ?_
          refine g_istore (L1 := [some (.ref 50), some (.int (iZ t)), some (.int (iZ u)), some (.int (iZ i)), some (.int (iZ 1))]) 53 dX9_goRound_51 (by decide) rfl rfl rfl ?_
          refine g_iload 55 dX9_goRound_53 rfl rfl ?_
          refine g_ifZ_eq 69 58 dX9_goRound_55 rfl rfl (by decide) (fun q => absurd q (by decide)) (fun _ => ?_)
          refine g_aload_n 59 dX9_goRound_58 rfl rfl ?_
          refine g_bipush (v := iZ (13)) 61 dX9_goRound_59 (by decide +kernel) rfl ?_
          refine g_bipush (v := iZ (15)) 63 dX9_goRound_61 (by decide +kernel) rfl ?_
          obtain ⟨F50_65, ⟨F51_65, F52_65, F53_65, F54_65, F55_65, F56_65, F57_65, F58_65, F59_65, F60_65, F61_65, F62_65, F63_65, F64_65, F65_65, F66_65, F67_65, F68_65, F69_65, F70_65, kty_65, ktx_65⟩, ⟨r2_65, r5_65, r13_65, r14_65, r15_65, r16_65, r17_65, r18_65, r19_65, r20_65, r25_65, r26_65, r27_65, r28_65, r29_65, r30_65, r31_65, r35_65⟩, ⟨o53_65, o54_65, o55_65, o56_65, o57_65, o58_65, o59_65, o60_65, o61_65, o62_65, o63_65, o64_65, o65_65, o66_65, o67_65, o68_65, o69_65, o70_65⟩, hT_65⟩ := id H58
          refine g_callV (z := mX9_unlike) (As := [.int (iZ 13), .int (iZ 15)]) 66 dX9_goRound_63 mwX9_unlike ⟨by decide, by decide⟩ rfl wlX9_214 wiX9_unlike wsX9_unlike F50_65 rfl rfl rfl (nle rfl) (nle rfl) rfl ?_
          refine b_unl H58 (by omega) (by omega) (fun z66 rz66 => ?_)
          refine rI ?_
          refine g_goto 71 dX9_goRound_66 rfl ?_
          refine g_iret rfl dX9_goRound_71 ?_
          have E1 := hD.run (t := t) (i := i) (by omega) (by have y := hD.1.1; have y0 := hD.1.1; omega) ri
          obtain ⟨k1, c1, d1, u1⟩ := se_rd E1.symm.symm p5 (by omega) 0 (fun _ => 0)
          have E2 := D15.runs (i := i) (n := B9 56 (12 : Int).toNat) (f := refB B9 (12 : Int).toNat) ri
          have G2 : run0 (xn i.toNat) (fun j => xf i.toNat j.toNat) (msC (run0 (xn i.toNat) (fun j => xf i.toNat j.toNat) (V 0 t.toNat) (Bf t.toNat)).2) (msO (run0 (xn i.toNat) (fun j => xf i.toNat j.toNat) (V 0 t.toNat) (Bf t.toNat)).2) = run0 (xn i.toNat) (fun j => xf i.toNat j.toNat) (B9 56 (12 : Int).toNat) (refB B9 (12 : Int).toNat) := by rw [c1]; exact run0_cg d1
          obtain ⟨k2, c2, d2, u2⟩ := se_rd (E2.trans G2.symm) p21 (by omega) 0 (fun _ => 0)
          have E3 := D31.run (t := u) (i := i) (by omega) (by have y := D31.1.1; have y0 := hD.1.1; omega) ri
          obtain ⟨k3, c3, d3, u3⟩ := se_rd E3.symm.symm p37 (by omega) 0 (fun _ => 0)
          have E4 := D47.runs (i := i) (n := B41 56 (14 : Int).toNat) (f := refB B41 (14 : Int).toNat) ri
          have G4 : run0 (xn i.toNat) (fun j => xf i.toNat j.toNat) (msC (run0 (xn i.toNat) (fun j => xf i.toNat j.toNat) (V 0 u.toNat) (Bf u.toNat)).2) (msO (run0 (xn i.toNat) (fun j => xf i.toNat j.toNat) (V 0 u.toNat) (Bf u.toNat)).2) = run0 (xn i.toNat) (fun j => xf i.toNat j.toNat) (B41 56 (14 : Int).toNat) (refB B41 (14 : Int).toNat) := by rw [c3]; exact run0_cg d3
          obtain ⟨k4, c4, d4, u4⟩ := se_rd (E4.trans G4.symm) p53 (by omega) 0 (fun _ => 0)
          have uz : z66 = ulk (B57 56 13) (refB B57 13) (B57 56 (15 : Int).toNat) (refB B57 (15 : Int).toNat) := rz66.1
          rw [ulk_fr (sl := 13) p54 (by decide) (by decide) H42.2.2.2.1.2.2.2.1, ulk_fr (sl := 13) p38 (by decide) (by decide) H26.2.2.2.1.2.2.2.1] at uz
          have x12 : ∀ (n0 : Int) (f0 : Nat → Int), ulk n0 f0 (B57 56 12) (refB B57 12) = ulk n0 f0 (msC (run0 (xn i.toNat) (fun j => xf i.toNat j.toNat) (V 0 t.toNat) (Bf t.toNat)).2) (msO (run0 (xn i.toNat) (fun j => xf i.toNat j.toNat) (V 0 t.toNat) (Bf t.toNat)).2) := fun n0 f0 => by
            have y1 := sl_fr (sl := 12) p22 (by decide) (by decide) H10.2.2.2.1.2.2.2.1
            have y2 := sl_fr (sl := 12) p38 (by decide) (by decide) H26.2.2.2.1.2.2.2.1
            have y3 := sl_fr (sl := 12) p54 (by decide) (by decide) H42.2.2.2.1.2.2.2.1
            have c1b : msC (run0 (xn i.toNat) (fun j => xf i.toNat j.toNat) (V 0 t.toNat) (Bf t.toNat)).2 = B9 56 12 := c1
            have d1b : agr (B9 56 12) (msO (run0 (xn i.toNat) (fun j => xf i.toNat j.toNat) (V 0 t.toNat) (Bf t.toNat)).2) (refB B9 12) := d1
            rw [c1b, y3.1, y2.1, y1.1]
            refine ulk_cg (fun _ _ => rfl) (fun j hj => ?_)
            rw [d1b j hj, y3.2 j (by rw [y2.1, y1.1]; exact hj), y2.2 j (by rw [y1.1]; exact hj), y1.2 j hj]
          exact k _ _ _ (z66) ⟨rd_y ⟨k1, k2, k3, k4⟩ c2 d2 c4 d4 uz, Or.inr (by omega)⟩ (fun _ => x12) H58 (((a11.tr a27).tr a43).tr a59) (((((Sm.refl [50, 54, 55, 56, 61, 62, 63, 64] _).tr s12 (fun _ q => q) (by simp)).tr s28 (fun _ q => q) (by simp)).tr s44 (fun _ q => q) (by simp)).tr s60 (fun _ q => q) (by simp))
set_option maxRecDepth 100000 in
theorem c_round {l : Launch} {h : MH} {Q : Option Value → MH → Prop} {tr : Int64} {ty tx : Nat → Int32} {w : Nat → Int} {B : Nat → Nat → Int} {tc : Nat} {V Bf Lf : Nat → Nat → Int} {xn : Nat → Int} {xf : Nat → Nat → Int} {t u i : Int} (H : R9B h tr ty tx w B) (rt : rg t) (ru : rg u) (ri : rg i) (hD : DQ tc V Bf Lf xn xf tx w B) (k : ∀ (h1 : MH) (w1 : Nat → Int) (B1 : Nat → Nat → Int) (r : Int), (rdP (rdF (xn i.toNat) (fun j => xf i.toNat j.toNat) (V 0 t.toNat) (Bf t.toNat) (V 0 u.toNat) (Bf u.toNat)) tc t u i r) → R9B h1 tr ty tx w1 B1 → AgB w B w1 B1 → Sm [50, 54, 55, 56, 61, 62, 63, 64] h h1 → Q (some (.int (iZ r))) h1) : Go l mX9_round 0 [some (.ref 50), some (.int (iZ t)), some (.int (iZ u)), some (.int (iZ i))] [] h Q := by
  have n0 := H.2.2.1.2.1
  refine g_aload_n 1 dX9_round_0 rfl rfl ?_
  refine g_iload_n 2 dX9_round_1 rfl rfl ?_
  obtain ⟨F50_1, ⟨F51_1, F52_1, F53_1, F54_1, F55_1, F56_1, F57_1, F58_1, F59_1, F60_1, F61_1, F62_1, F63_1, F64_1, F65_1, F66_1, F67_1, F68_1, F69_1, F70_1, kty_1, ktx_1⟩, ⟨r2_1, r5_1, r13_1, r14_1, r15_1, r16_1, r17_1, r18_1, r19_1, r20_1, r25_1, r26_1, r27_1, r28_1, r29_1, r30_1, r31_1, r35_1⟩, ⟨o53_1, o54_1, o55_1, o56_1, o57_1, o58_1, o59_1, o60_1, o61_1, o62_1, o63_1, o64_1, o65_1, o66_1, o67_1, o68_1, o69_1, o70_1⟩, hT_1⟩ := id H
  refine g_callV (z := mX9_isTool) (As := [.int (iZ t)]) 5 dX9_round_2 mwX9_isTool ⟨by decide, by decide⟩ rfl wlX9_178 wiX9_isTool wsX9_isTool F50_1 rfl rfl rfl (nle rfl) (nle rfl) rfl ?_
  refine b_isTool H rt (fun z2 rz2 => ?_)
  refine rI ?_
  refine g_ifZ_eq 33 8 dX9_round_5 rfl rfl (rg01 (by omega)) (fun c3 => ?_) (fun c3 => ?_)
  · refine g_iconst (v := iZ (-1)) 34 dX9_round_33 rfl rfl ?_
    refine g_iret rfl dX9_round_34 ?_
    exact k _ _ _ (-1) ⟨fun q => absurd q (by have y := hD.1.1; omega), fun _ => rfl⟩  H (AgB.refl _ _) (Sm.refl [50, 54, 55, 56, 61, 62, 63, 64] _)
  · refine g_aload_n 9 dX9_round_8 rfl rfl ?_
    refine g_iload_n 10 dX9_round_9 rfl rfl ?_
    refine g_callV (z := mX9_isTool) (As := [.int (iZ u)]) 13 dX9_round_10 mwX9_isTool ⟨by decide, by decide⟩ rfl wlX9_178 wiX9_isTool wsX9_isTool F50_1 rfl rfl rfl (nle rfl) (nle rfl) rfl ?_
    refine b_isTool H ru (fun z4 rz4 => ?_)
    refine rI ?_
    refine g_ifZ_eq 33 16 dX9_round_13 rfl rfl (rg01 (by omega)) (fun c5 => ?_) (fun c5 => ?_)
    · refine g_iconst (v := iZ (-1)) 34 dX9_round_33 rfl rfl ?_
      refine g_iret rfl dX9_round_34 ?_
      exact k _ _ _ (-1) ⟨fun q => absurd q (by have y := hD.1.1; omega), fun _ => rfl⟩  H (AgB.refl _ _) (Sm.refl [50, 54, 55, 56, 61, 62, 63, 64] _)
    · refine g_iload_n 17 dX9_round_16 rfl rfl ?_
      refine g_callS (z := mX9_isText) (As := [.int (iZ i)]) 20 dX9_round_17 mwX9_isText ⟨by decide, by decide⟩ rfl wlX9_81 wtX9_isText rfl (nle rfl) (nle rfl) rfl ?_
      refine n_isText  ri (fun z6 rz6 => ?_)
      refine rI ?_
      refine g_ifZ_eq 33 23 dX9_round_20 rfl rfl (rg01 (by omega)) (fun c7 => ?_) (fun c7 => ?_)
      · refine g_iconst (v := iZ (-1)) 34 dX9_round_33 rfl rfl ?_
        refine g_iret rfl dX9_round_34 ?_
        exact k _ _ _ (-1) ⟨fun q => absurd q (by have y := hD.1.1; omega), fun _ => rfl⟩  H (AgB.refl _ _) (Sm.refl [50, 54, 55, 56, 61, 62, 63, 64] _)
      · refine g_aload_n 24 dX9_round_23 rfl rfl ?_
        refine g_iload_n 25 dX9_round_24 rfl rfl ?_
        refine g_iload_n 26 dX9_round_25 rfl rfl ?_
        refine g_iload_n 27 dX9_round_26 rfl rfl ?_
        refine g_callV (z := mX9_goRound) (As := [.int (iZ t), .int (iZ u), .int (iZ i)]) 30 dX9_round_27 mwX9_goRound ⟨by decide, by decide⟩ rfl wlX9_220 wiX9_goRound wsX9_goRound F50_1 rfl rfl rfl (nle rfl) (nle rfl) rfl ?_
        refine c_goR H (by omega) (by omega) (by omega) hD (by omega) (by omega) (fun h10 w11 B12 z8 rz8 p9 H13 a14 s15 => ?_)
        have e16 := a14.1
        have n17 := H13.2.2.1.2.1
        have D18 := hD.ag a14 H
        refine rI ?_
        refine g_goto 34 dX9_round_30 rfl ?_
        refine g_iret rfl dX9_round_34 ?_
        exact k _ _ _ (z8) ⟨fun _ => rz8.1, fun q => absurd q (by have y := hD.1.1; omega)⟩  H13 a14 ((Sm.refl [50, 54, 55, 56, 61, 62, 63, 64] _).tr s15 (fun _ q => q) (by simp))
set_option maxRecDepth 100000 in
theorem c_hides {l : Launch} {h : MH} {Q : Option Value → MH → Prop} {tr : Int64} {ty tx : Nat → Int32} {w : Nat → Int} {B : Nat → Nat → Int} {tc : Nat} {V Bf Lf : Nat → Nat → Int} {xn : Nat → Int} {xf : Nat → Nat → Int} {t u i : Int} (H : R9B h tr ty tx w B) (rt : rg t) (ru : rg u) (ri : rg i) (hD : DQ tc V Bf Lf xn xf tx w B) (k : ∀ (h1 : MH) (w1 : Nat → Int) (B1 : Nat → Nat → Int) (r : Int), (rdP (hdF (xn i.toNat) (fun j => xf i.toNat j.toNat) (V 0 t.toNat) (Bf t.toNat) (V 0 u.toNat) (Bf u.toNat)) tc t u i r) → R9B h1 tr ty tx w1 B1 → AgB w B w1 B1 → Sm [50, 54, 55, 56, 61, 62, 63, 64] h h1 → Q (some (.int (iZ r))) h1) : Go l mX9_hides 0 [some (.ref 50), some (.int (iZ t)), some (.int (iZ u)), some (.int (iZ i)), none] [] h Q := by
  have n0 := H.2.2.1.2.1
  refine g_aload_n 1 dX9_hides_0 rfl rfl ?_
  refine g_iload_n 2 dX9_hides_1 rfl rfl ?_
  obtain ⟨F50_1, ⟨F51_1, F52_1, F53_1, F54_1, F55_1, F56_1, F57_1, F58_1, F59_1, F60_1, F61_1, F62_1, F63_1, F64_1, F65_1, F66_1, F67_1, F68_1, F69_1, F70_1, kty_1, ktx_1⟩, ⟨r2_1, r5_1, r13_1, r14_1, r15_1, r16_1, r17_1, r18_1, r19_1, r20_1, r25_1, r26_1, r27_1, r28_1, r29_1, r30_1, r31_1, r35_1⟩, ⟨o53_1, o54_1, o55_1, o56_1, o57_1, o58_1, o59_1, o60_1, o61_1, o62_1, o63_1, o64_1, o65_1, o66_1, o67_1, o68_1, o69_1, o70_1⟩, hT_1⟩ := id H
  refine g_callV (z := mX9_isTool) (As := [.int (iZ t)]) 5 dX9_hides_2 mwX9_isTool ⟨by decide, by decide⟩ rfl wlX9_178 wiX9_isTool wsX9_isTool F50_1 rfl rfl rfl (nle rfl) (nle rfl) rfl ?_
  refine b_isTool H rt (fun z2 rz2 => ?_)
  refine rI ?_
  refine g_ifZ_eq 23 8 dX9_hides_5 rfl rfl (rg01 (by omega)) (fun c3 => ?_) (fun c3 => ?_)
  · refine g_iconst (v := iZ (-1)) 24 dX9_hides_23 rfl rfl ?_
    refine g_iret rfl dX9_hides_24 ?_
    exact k _ _ _ (-1) ⟨fun q => absurd q (by have y := hD.1.1; omega), fun _ => rfl⟩  H (AgB.refl _ _) (Sm.refl [50, 54, 55, 56, 61, 62, 63, 64] _)
  · refine g_aload_n 9 dX9_hides_8 rfl rfl ?_
    refine g_iload_n 10 dX9_hides_9 rfl rfl ?_
    refine g_callV (z := mX9_isTool) (As := [.int (iZ u)]) 13 dX9_hides_10 mwX9_isTool ⟨by decide, by decide⟩ rfl wlX9_178 wiX9_isTool wsX9_isTool F50_1 rfl rfl rfl (nle rfl) (nle rfl) rfl ?_
    refine b_isTool H ru (fun z4 rz4 => ?_)
    refine rI ?_
    refine g_ifZ_eq 23 16 dX9_hides_13 rfl rfl (rg01 (by omega)) (fun c5 => ?_) (fun c5 => ?_)
    · refine g_iconst (v := iZ (-1)) 24 dX9_hides_23 rfl rfl ?_
      refine g_iret rfl dX9_hides_24 ?_
      exact k _ _ _ (-1) ⟨fun q => absurd q (by have y := hD.1.1; omega), fun _ => rfl⟩  H (AgB.refl _ _) (Sm.refl [50, 54, 55, 56, 61, 62, 63, 64] _)
    · refine g_iload_n 17 dX9_hides_16 rfl rfl ?_
      refine g_callS (z := mX9_isText) (As := [.int (iZ i)]) 20 dX9_hides_17 mwX9_isText ⟨by decide, by decide⟩ rfl wlX9_81 wtX9_isText rfl (nle rfl) (nle rfl) rfl ?_
      refine n_isText  ri (fun z6 rz6 => ?_)
      refine rI ?_
      refine g_ifZ_ne 25 23 dX9_hides_20 rfl rfl (rg01 (by omega)) (fun c7 => ?_) (fun c7 => ?_)
      · refine g_aload_n 26 dX9_hides_25 rfl rfl ?_
        refine g_iload_n 27 dX9_hides_26 rfl rfl ?_
        refine g_iload_n 28 dX9_hides_27 rfl rfl ?_
        refine g_iload_n 29 dX9_hides_28 rfl rfl ?_
        refine g_callV (z := mX9_goRound) (As := [.int (iZ t), .int (iZ u), .int (iZ i)]) 32 dX9_hides_29 mwX9_goRound ⟨by decide, by decide⟩ rfl wlX9_220 wiX9_goRound wsX9_goRound F50_1 rfl rfl rfl (nle rfl) (nle rfl) rfl ?_
        refine c_goR H (by omega) (by omega) (by omega) hD (by omega) (by omega) (fun h10 w11 B12 z8 rz8 p9 H13 a14 s15 => ?_)
        have e16 := a14.1
        have n17 := H13.2.2.1.2.1
        have D18 := hD.ag a14 H
        refine rI ?_
        refine g_istore (L1 := [some (.ref 50), some (.int (iZ t)), some (.int (iZ u)), some (.int (iZ i)), some (.int (iZ z8))]) 34 dX9_hides_32 (by decide) rfl rfl rfl ?_
        refine g_iload 36 dX9_hides_34 rfl rfl ?_
        refine g_ifZ_ge 44 39 dX9_hides_36 rfl rfl (by omega) (fun c19 => ?_) (fun c19 => ?_)
        · refine g_iload 46 dX9_hides_44 rfl rfl ?_
          refine g_ifZ_le 63 49 dX9_hides_46 rfl rfl (by omega) (fun c20 => ?_) (fun c20 => ?_)
          · refine g_iconst (v := iZ (0)) 64 dX9_hides_63 rfl rfl ?_
            refine g_iret rfl dX9_hides_64 ?_
            exact k _ _ _ (0) ⟨fun _ => (show (0 : Int) = z8 by omega).trans (hd_le rz8.1 (by omega)), fun q => absurd q (by have y := hD.1.1; omega)⟩  H13 a14 ((Sm.refl [50, 54, 55, 56, 61, 62, 63, 64] _).tr s15 (fun _ q => q) (by simp))
          · refine g_aload_n 50 dX9_hides_49 rfl rfl ?_
            refine g_iload_n 51 dX9_hides_50 rfl rfl ?_
            refine g_bipush (v := iZ (12)) 53 dX9_hides_51 (by decide +kernel) rfl ?_
            obtain ⟨F50_21, ⟨F51_21, F52_21, F53_21, F54_21, F55_21, F56_21, F57_21, F58_21, F59_21, F60_21, F61_21, F62_21, F63_21, F64_21, F65_21, F66_21, F67_21, F68_21, F69_21, F70_21, kty_21, ktx_21⟩, ⟨r2_21, r5_21, r13_21, r14_21, r15_21, r16_21, r17_21, r18_21, r19_21, r20_21, r25_21, r26_21, r27_21, r28_21, r29_21, r30_21, r31_21, r35_21⟩, ⟨o53_21, o54_21, o55_21, o56_21, o57_21, o58_21, o59_21, o60_21, o61_21, o62_21, o63_21, o64_21, o65_21, o66_21, o67_21, o68_21, o69_21, o70_21⟩, hT_21⟩ := id H13
            refine g_callV (z := mX9_unlike) (As := [.int (iZ t), .int (iZ 12)]) 56 dX9_hides_53 mwX9_unlike ⟨by decide, by decide⟩ rfl wlX9_214 wiX9_unlike wsX9_unlike F50_21 rfl rfl rfl (nle rfl) (nle rfl) rfl ?_
            refine b_unl H13 (by omega) (by omega) (fun z22 rz22 => ?_)
            refine rI ?_
            refine g_ifZ_ne 63 59 dX9_hides_56 rfl rfl (by omega) (fun c23 => ?_) (fun c23 => ?_)
            · refine g_iconst (v := iZ (0)) 64 dX9_hides_63 rfl rfl ?_
              refine g_iret rfl dX9_hides_64 ?_
              have uq := rz22.1
              have ud := D18.ul (t := t) (n := B12 56 (12 : Int).toNat) (f := refB B12 (12 : Int).toNat) (by omega) (by have y := D18.1.1; have y0 := hD.1.1; omega)
              rw [ud] at uq
              have ux := p9 (by omega) (V 0 t.toNat) (Bf t.toNat)
              have uy : z22 = ulk (V 0 t.toNat) (Bf t.toNat) (msC (run0 (xn i.toNat) (fun j => xf i.toNat j.toNat) (V 0 t.toNat) (Bf t.toNat)).2) (msO (run0 (xn i.toNat) (fun j => xf i.toNat j.toNat) (V 0 t.toNat) (Bf t.toNat)).2) := uq.trans ux
              exact k _ _ _ (0) ⟨fun _ => hd_0 rz8.1 (by omega) (by omega), fun q => absurd q (by have y := hD.1.1; omega)⟩  H13 a14 ((Sm.refl [50, 54, 55, 56, 61, 62, 63, 64] _).tr s15 (fun _ q => q) (by simp))
            · refine g_iconst (v := iZ (1)) 60 dX9_hides_59 rfl rfl ?_
              refine g_goto 64 dX9_hides_60 rfl ?_
              refine g_iret rfl dX9_hides_64 ?_
              have uq := rz22.1
              have ud := D18.ul (t := t) (n := B12 56 (12 : Int).toNat) (f := refB B12 (12 : Int).toNat) (by omega) (by have y := D18.1.1; have y0 := hD.1.1; omega)
              rw [ud] at uq
              have ux := p9 (by omega) (V 0 t.toNat) (Bf t.toNat)
              have uy : z22 = ulk (V 0 t.toNat) (Bf t.toNat) (msC (run0 (xn i.toNat) (fun j => xf i.toNat j.toNat) (V 0 t.toNat) (Bf t.toNat)).2) (msO (run0 (xn i.toNat) (fun j => xf i.toNat j.toNat) (V 0 t.toNat) (Bf t.toNat)).2) := uq.trans ux
              exact k _ _ _ (1) ⟨fun _ => hd_1 rz8.1 (by omega) (by omega), fun q => absurd q (by have y := hD.1.1; omega)⟩  H13 a14 ((Sm.refl [50, 54, 55, 56, 61, 62, 63, 64] _).tr s15 (fun _ q => q) (by simp))
        · refine g_bipush (v := iZ (-2)) 41 dX9_hides_39 (by decide +kernel) rfl ?_
          refine g_goto 64 dX9_hides_41 rfl ?_
          refine g_iret rfl dX9_hides_64 ?_
          exact k _ _ _ (-2) ⟨fun _ => (show (-2 : Int) = z8 by have q := rz8.2; omega).trans (hd_le rz8.1 (by omega)), fun q => absurd q (by have y := hD.1.1; omega)⟩  H13 a14 ((Sm.refl [50, 54, 55, 56, 61, 62, 63, 64] _).tr s15 (fun _ q => q) (by simp))
      · refine g_iconst (v := iZ (-1)) 24 dX9_hides_23 rfl rfl ?_
        refine g_iret rfl dX9_hides_24 ?_
        exact k _ _ _ (-1) ⟨fun q => absurd q (by have y := hD.1.1; omega), fun _ => rfl⟩  H (AgB.refl _ _) (Sm.refl [50, 54, 55, 56, 61, 62, 63, 64] _)

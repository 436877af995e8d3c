set_option maxRecDepth 100000 in
theorem z_round {l : Launch} {h : MH} {Q : Option Value → MH → Prop} {tc : Nat} {tr : Int64} {xn : Nat → Int} {xf V Bf Lf : Nat → Nat → Int} {j k0 i : Nat} (HC : CORE2 h tc tr xn xf V Bf Lf) (HS : SC2 h)  (hj : j < tc) (hk0 : k0 < tc) (hi : i < 8) (k : ∀ (h1 : MH) (r : Int), (r = rdF (xn i) (fun j => xf i j.toNat) (V 0 j) (Bf j) (V 0 k0) (Bf k0) ∧ -2 ≤ r ∧ r ≤ 257) → SC2 h1 → Scr2 h h1 → Q (some (.int (iZ r))) h1) : Go l mX8_goneRound 0 [some (.ref 0), some (.ref (71 + 4 * j)), some (.ref (71 + 4 * k0)), some (.ref (34 + 2 * i)), none] [] h Q := by
  obtain ⟨F0, F3, F4, htc, HT, HL⟩ := id HC
  refine g_aload_n 1 dX8_goneRound_0 rfl rfl ?_
  refine g_get 4 dX8_goneRound_1 faX8_50_X8 F0 rfl rfl ?_
  refine g_aload_n 5 dX8_goneRound_4 rfl rfl ?_
  obtain ⟨ta1_1, ta2_1, ta3_1, ta4_1, ta5_1, ta6_1, ta7_1, ta8_1, ta9_1, tb0_1, tb1_1, tb2_1, tb3_1⟩ := HL (j) (by omega)
  refine g_get 8 dX8_goneRound_5 faX8_94_X7 tb0_1 rfl rfl ?_
  refine g_aload_n 9 dX8_goneRound_8 rfl rfl ?_
  obtain ⟨a_2, x_2, p_2, en_2, dn_2, tk_2, hm_2, on_2, mm_2, of_2, og_2, ma1_2, ma2_2, ma3_2, ma4_2, ma5_2, ma6_2, ma7_2, ma8_2, ma9_2, ma10_2, ma11_2, mb0_2, mb1_2, mb2_2, mb3_2, mb4_2⟩ := SC2.m (m := 20) (by decide) HS
  refine g_callV (z := mX2_builds) (As := [.ref (71 + 4 * j + 1), .ref (34 + 2 * i)]) 12 dX8_goneRound_9 mwX2_builds ⟨by decide, by decide⟩ rfl wlX8_98 wiX2_builds wsX2_builds mb0_2 rfl rfl rfl (nle rfl) (nle rfl) rfl ?_
  obtain ⟨t0_3, t1_3, t2_3, t3_3, t4_3⟩ := HT (i) (by omega)
  refine sc2_bl (m := 20) (M := (V 0 j).toNat) (by decide) HS tb1_1 tb2_1 tb3_1 ta8_1 ta9_1 (by omega) (by omega) (by omega) (by omega) t0_3 t1_3 t4_3 (by omega) (by omega) (fun h4 z5 a6 x7 p8 e9 d10 t11 hm12 c13 mm14 of15 og16 r17 R18 X19 H20 s21 => ?_)
  have S22 : Scr2 _ _ := s21.scr2 (by decide)
  obtain ⟨ma1_23, ma2_23, ma3_23, ma4_23, ma5_23, ma6_23, ma7_23, ma8_23, ma9_23, ma10_23, ma11_23, mb0_23, mb1_23, mb2_23, mb3_23, mb4_23⟩ := id X19
  refine rI ?_
  refine g_ifZ_eq 70 15 dX8_goneRound_12 rfl rfl (rg01 (by omega)) (fun c24 => ?_) (fun c24 => ?_)
  · refine g_iconst (v := iZ (0)) 71 dX8_goneRound_70 rfl rfl ?_
    refine g_istore (L1 := [some (.ref 0), some (.ref (71 + 4 * j)), some (.ref (71 + 4 * k0)), some (.ref (34 + 2 * i)), some (.int (iZ 0))]) 73 dX8_goneRound_71 (by decide) rfl rfl rfl ?_
    refine g_iload 75 dX8_goneRound_73 rfl rfl ?_
    refine g_ifZ_eq 98 78 dX8_goneRound_75 rfl rfl (by decide) (fun _ => ?_) (fun q => absurd q (by decide))
    refine g_bipush (v := iZ (-2)) 100 dX8_goneRound_98 (by decide +kernel) rfl ?_
    refine g_iret rfl dX8_goneRound_100 ?_
    have k0 := (r17.elim (fun q => absurd q.1 (by omega)) (fun q => q.2))
    exact k _ (-2) ⟨(rd_n (fun q => k0 q.1)).symm, by decide, by decide⟩ H20 S22
  · refine g_aload_n 16 dX8_goneRound_15 rfl rfl ?_
    have f25 := (S22.get (by omega) F0)
    refine g_get 19 dX8_goneRound_16 faX8_50_X8 f25 rfl rfl ?_
    refine g_aload_n 20 dX8_goneRound_19 rfl rfl ?_
    refine g_get 23 dX8_goneRound_20 faX8_50_X8 f25 rfl rfl ?_
    refine g_get 26 dX8_goneRound_23 faX8_102_X2 mb0_23 rfl rfl ?_
    refine g_aload_n 27 dX8_goneRound_26 rfl rfl ?_
    refine g_callV (z := mX2_builds) (As := [.ref 22, .ref (34 + 2 * i)]) 30 dX8_goneRound_27 mwX2_builds ⟨by decide, by decide⟩ rfl wlX8_98 wiX2_builds wsX2_builds mb0_23 rfl rfl rfl (nle rfl) (nle rfl) rfl ?_
    have f26 := (S22.get (by omega) t0_3)
    have f27 := (S22.get (by omega) t1_3)
    refine sc2_bl (m := 20) (M := 256) (by decide) H20 mb2_23 mb3_23 mb4_23 ma10_23 ma11_23 (by omega) (by decide) (by omega) (by omega) f26 f27 t4_3 (by omega) (by omega) (fun h28 z29 a30 x31 p32 e33 d34 t35 hm36 c37 mm38 of39 og40 r41 R42 X43 H44 s45 => ?_)
    have S46 : Scr2 _ _ := s45.scr2 (by decide)
    obtain ⟨ma1_47, ma2_47, ma3_47, ma4_47, ma5_47, ma6_47, ma7_47, ma8_47, ma9_47, ma10_47, ma11_47, mb0_47, mb1_47, mb2_47, mb3_47, mb4_47⟩ := id X43
    refine rI ?_
    refine g_ifZ_eq 70 33 dX8_goneRound_30 rfl rfl (rg01 (by omega)) (fun c48 => ?_) (fun c48 => ?_)
    · refine g_iconst (v := iZ (0)) 71 dX8_goneRound_70 rfl rfl ?_
      refine g_istore (L1 := [some (.ref 0), some (.ref (71 + 4 * j)), some (.ref (71 + 4 * k0)), some (.ref (34 + 2 * i)), some (.int (iZ 0))]) 73 dX8_goneRound_71 (by decide) rfl rfl rfl ?_
      refine g_iload 75 dX8_goneRound_73 rfl rfl ?_
      refine g_ifZ_eq 98 78 dX8_goneRound_75 rfl rfl (by decide) (fun _ => ?_) (fun q => absurd q (by decide))
      refine g_bipush (v := iZ (-2)) 100 dX8_goneRound_98 (by decide +kernel) rfl ?_
      refine g_iret rfl dX8_goneRound_100 ?_
      have k0 := (r17.elim (fun q => q.2) (fun q => absurd q.1 (by omega)))
      have k1 := (r41.elim (fun q => absurd q.1 (by omega)) (fun q => q.2))
      rw [← rn_cg R18] at k1
      exact k _ (-2) ⟨(rd_n (fun q => k1 q.2.1)).symm, by decide, by decide⟩ H44 (S22.tr S46)
    · refine g_aload_n 34 dX8_goneRound_33 rfl rfl ?_
      have f49 := (S46.get (by omega) f25)
      refine g_get 37 dX8_goneRound_34 faX8_53_X8 f49 rfl rfl ?_
      refine g_aload_n 38 dX8_goneRound_37 rfl rfl ?_
      obtain ⟨ta1_50, ta2_50, ta3_50, ta4_50, ta5_50, ta6_50, ta7_50, ta8_50, ta9_50, tb0_50, tb1_50, tb2_50, tb3_50⟩ := HL (k0) (by omega)
      have f51 := (S46.get (by omega) (S22.get (by omega) tb0_50))
      refine g_get 41 dX8_goneRound_38 faX8_94_X7 f51 rfl rfl ?_
      refine g_aload_n 42 dX8_goneRound_41 rfl rfl ?_
      obtain ⟨a_52, x_52, p_52, en_52, dn_52, tk_52, hm_52, on_52, mm_52, of_52, og_52, ma1_52, ma2_52, ma3_52, ma4_52, ma5_52, ma6_52, ma7_52, ma8_52, ma9_52, ma10_52, ma11_52, mb0_52, mb1_52, mb2_52, mb3_52, mb4_52⟩ := SC2.m (m := 25) (by decide) H44
      refine g_callV (z := mX2_builds) (As := [.ref (71 + 4 * k0 + 1), .ref (34 + 2 * i)]) 45 dX8_goneRound_42 mwX2_builds ⟨by decide, by decide⟩ rfl wlX8_98 wiX2_builds wsX2_builds mb0_52 rfl rfl rfl (nle rfl) (nle rfl) rfl ?_
      have f53 := (S46.get (by omega) f26)
      have f54 := (S46.get (by omega) f27)
      have f55 := (S46.get (by omega) (S22.get (by omega) tb1_50))
      have f56 := (S46.get (by omega) (S22.get (by omega) tb2_50))
      have f57 := (S46.get (by omega) (S22.get (by omega) tb3_50))
      refine sc2_bl (m := 25) (M := (V 0 k0).toNat) (by decide) H44 f55 f56 f57 ta8_50 ta9_50 (by omega) (by omega) (by omega) (by omega) f53 f54 t4_3 (by omega) (by omega) (fun h58 z59 a60 x61 p62 e63 d64 t65 hm66 c67 mm68 of69 og70 r71 R72 X73 H74 s75 => ?_)
      have S76 : Scr2 _ _ := s75.scr2 (by decide)
      have f77 := s75.get (by decide) mb0_47
      have f78 := s75.get (by decide) mb1_47
      have f79 := s75.get (by decide) mb2_47
      have f80 := s75.get (by decide) mb3_47
      have f81 := s75.get (by decide) mb4_47
      obtain ⟨ma1_82, ma2_82, ma3_82, ma4_82, ma5_82, ma6_82, ma7_82, ma8_82, ma9_82, ma10_82, ma11_82, mb0_82, mb1_82, mb2_82, mb3_82, mb4_82⟩ := id X73
      refine rI ?_
      refine g_ifZ_eq 70 48 dX8_goneRound_45 rfl rfl (rg01 (by omega)) (fun c83 => ?_) (fun c83 => ?_)
      · refine g_iconst (v := iZ (0)) 71 dX8_goneRound_70 rfl rfl ?_
        refine g_istore (L1 := [some (.ref 0), some (.ref (71 + 4 * j)), some (.ref (71 + 4 * k0)), some (.ref (34 + 2 * i)), some (.int (iZ 0))]) 73 dX8_goneRound_71 (by decide) rfl rfl rfl ?_
        refine g_iload 75 dX8_goneRound_73 rfl rfl ?_
        refine g_ifZ_eq 98 78 dX8_goneRound_75 rfl rfl (by decide) (fun _ => ?_) (fun q => absurd q (by decide))
        refine g_bipush (v := iZ (-2)) 100 dX8_goneRound_98 (by decide +kernel) rfl ?_
        refine g_iret rfl dX8_goneRound_100 ?_
        have k0 := (r17.elim (fun q => q.2) (fun q => absurd q.1 (by omega)))
        have k1 := (r41.elim (fun q => q.2) (fun q => absurd q.1 (by omega)))
        have k2 := (r71.elim (fun q => absurd q.1 (by omega)) (fun q => q.2))
        rw [← rn_cg R18] at k1
        exact k _ (-2) ⟨(rd_n (fun q => k2 q.2.2.1)).symm, by decide, by decide⟩ H74 ((S22.tr S46).tr S76)
      · refine g_aload_n 49 dX8_goneRound_48 rfl rfl ?_
        have f84 := (S76.get (by omega) f49)
        refine g_get 52 dX8_goneRound_49 faX8_53_X8 f84 rfl rfl ?_
        refine g_aload_n 53 dX8_goneRound_52 rfl rfl ?_
        refine g_get 56 dX8_goneRound_53 faX8_53_X8 f84 rfl rfl ?_
        refine g_get 59 dX8_goneRound_56 faX8_102_X2 mb0_82 rfl rfl ?_
        refine g_aload_n 60 dX8_goneRound_59 rfl rfl ?_
        refine g_callV (z := mX2_builds) (As := [.ref 27, .ref (34 + 2 * i)]) 63 dX8_goneRound_60 mwX2_builds ⟨by decide, by decide⟩ rfl wlX8_98 wiX2_builds wsX2_builds mb0_82 rfl rfl rfl (nle rfl) (nle rfl) rfl ?_
        have f85 := (S76.get (by omega) f53)
        have f86 := (S76.get (by omega) f54)
        refine sc2_bl (m := 25) (M := 256) (by decide) H74 mb2_82 mb3_82 mb4_82 ma10_82 ma11_82 (by omega) (by decide) (by omega) (by omega) f85 f86 t4_3 (by omega) (by omega) (fun h87 z88 a89 x90 p91 e92 d93 t94 hm95 c96 mm97 of98 og99 r100 R101 X102 H103 s104 => ?_)
        have S105 : Scr2 _ _ := s104.scr2 (by decide)
        have f106 := s104.get (by decide) f77
        have f107 := s104.get (by decide) f78
        have f108 := s104.get (by decide) f79
        have f109 := s104.get (by decide) f80
        have f110 := s104.get (by decide) f81
        obtain ⟨ma1_111, ma2_111, ma3_111, ma4_111, ma5_111, ma6_111, ma7_111, ma8_111, ma9_111, ma10_111, ma11_111, mb0_111, mb1_111, mb2_111, mb3_111, mb4_111⟩ := id X102
        refine rI ?_
        refine g_ifZ_eq 70 66 dX8_goneRound_63 rfl rfl (rg01 (by omega)) (fun c112 => ?_) (fun c112 => ?_)
        · refine g_iconst (v := iZ (0)) 71 dX8_goneRound_70 rfl rfl ?_
          refine g_istore (L1 := [some (.ref 0), some (.ref (71 + 4 * j)), some (.ref (71 + 4 * k0)), some (.ref (34 + 2 * i)), some (.int (iZ 0))]) 73 dX8_goneRound_71 (by decide) rfl rfl rfl ?_
          refine g_iload 75 dX8_goneRound_73 rfl rfl ?_
          refine g_ifZ_eq 98 78 dX8_goneRound_75 rfl rfl (by decide) (fun _ => ?_) (fun q => absurd q (by decide))
          refine g_bipush (v := iZ (-2)) 100 dX8_goneRound_98 (by decide +kernel) rfl ?_
          refine g_iret rfl dX8_goneRound_100 ?_
          have k0 := (r17.elim (fun q => q.2) (fun q => absurd q.1 (by omega)))
          have k1 := (r41.elim (fun q => q.2) (fun q => absurd q.1 (by omega)))
          have k2 := (r71.elim (fun q => q.2) (fun q => absurd q.1 (by omega)))
          have k3 := (r100.elim (fun q => absurd q.1 (by omega)) (fun q => q.2))
          rw [← rn_cg R18] at k1
          rw [← rn_cg R72] at k3
          exact k _ (-2) ⟨(rd_n (fun q => k3 q.2.2.2)).symm, by decide, by decide⟩ H103 (((S22.tr S46).tr S76).tr S105)
        · refine g_iconst (v := iZ (1)) 67 dX8_goneRound_66 rfl rfl ?_
          refine g_goto 71 dX8_goneRound_67 rfl ?_
          refine g_istore (L1 := [some (.ref 0), some (.ref (71 + 4 * j)), some (.ref (71 + 4 * k0)), some (.ref (34 + 2 * i)), some (.int (iZ 1))]) 73 dX8_goneRound_71 (by decide) rfl rfl rfl ?_
          refine g_iload 75 dX8_goneRound_73 rfl rfl ?_
          refine g_ifZ_eq 98 78 dX8_goneRound_75 rfl rfl (by decide) (fun q => absurd q (by decide)) (fun _ => ?_)
          refine g_aload_n 79 dX8_goneRound_78 rfl rfl ?_
          have f113 := (S105.get (by omega) f84)
          refine g_get 82 dX8_goneRound_79 faX8_50_X8 f113 rfl rfl ?_
          refine g_get 85 dX8_goneRound_82 faX8_102_X2 f106 rfl rfl ?_
          refine g_aload_n 86 dX8_goneRound_85 rfl rfl ?_
          refine g_get 89 dX8_goneRound_86 faX8_53_X8 f113 rfl rfl ?_
          refine g_get 92 dX8_goneRound_89 faX8_102_X2 mb0_111 rfl rfl ?_
          refine g_callV (z := mX0_unlike) (As := [.ref 27]) 95 dX8_goneRound_92 mwX0_unlike ⟨by decide, by decide⟩ rfl wlX8_162 wiX0_unlike wsX0_unlike f108 rfl rfl rfl (nle rfl) (nle rfl) rfl ?_
          refine c_unl (M := 256) (N := 256) f108 f109 f110 mb2_111 mb3_111 mb4_111 ma10_47 ma11_47 ma10_111 ma11_111 (by omega) (by omega) (by omega) (by omega) (by omega) (by omega) (fun z114 rz114 => ?_)
          refine rI ?_
          refine g_goto 100 dX8_goneRound_95 rfl ?_
          refine g_iret rfl dX8_goneRound_100 ?_
          have k0 := (r17.elim (fun q => q.2) (fun q => absurd q.1 (by omega)))
          have k1 := (r41.elim (fun q => q.2) (fun q => absurd q.1 (by omega)))
          have k2 := (r71.elim (fun q => q.2) (fun q => absurd q.1 (by omega)))
          have k3 := (r100.elim (fun q => q.2) (fun q => absurd q.1 (by omega)))
          rw [← rn_cg R18] at k1
          rw [← rn_cg R72] at k3
          have m1 := R42
          rw [← rn_cg R18] at m1
          have m3 := R101
          rw [← rn_cg R72] at m3
          exact k _ (z114) ⟨rd_y ⟨k0, k1, k2, k3⟩ (rn_C m1) (rn_O m1) (rn_C m3) (rn_O m3) rz114.1, by omega, by omega⟩ H103 (((S22.tr S46).tr S76).tr S105)
set_option maxRecDepth 100000 in
theorem d8_round {l : Launch} {h : MH} {Q : Option Value → MH → Prop} {tn : Int} {tf : Nat → Int} {xn : Nat → Int} {xf : Nat → Nat → Int} {en : Int} {tc : Nat} {tr : Int64} {V Bf Lf : Nat → Nat → Int} {q lm lo : Nat → Int} {a b i : Int} (H : IX2 h tn tf xn xf en tc tr V Bf Lf q lm lo) (ra : rg a) (rb : rg b) (ri : rg i) (k : ∀ (h1 : MH) (r : Int), (rdP (rdF (xn i.toNat) (fun j => xf i.toNat j.toNat) (V 0 a.toNat) (Bf a.toNat) (V 0 b.toNat) (Bf b.toNat)) tc a b i r) → IX2 h1 tn tf xn xf en tc tr V Bf Lf q lm lo → Mo h h1 → Q (some (.int (iZ r))) h1) : Go l mX8_round 0 [some (.ref 0), some (.int (iZ a)), some (.int (iZ b)), some (.int (iZ i)), none, none, none] [] h Q := by
  obtain ⟨HC, HS, HLm, HY, HE, hlen, hmz⟩ := id H
  obtain ⟨F0, F3, F4, htc, HT, HL⟩ := id HC
  refine g_aload_n 1 dX8_round_0 rfl rfl ?_
  refine g_iload_n 2 dX8_round_1 rfl rfl ?_
  refine g_callV (z := mX8_toolAt) (As := [.int (iZ a)]) 5 dX8_round_2 mwX8_toolAt ⟨by decide, by decide⟩ rfl wlX8_90 wiX8_toolAt wsX8_toolAt F0 rfl rfl rfl (nle rfl) (nle rfl) rfl ?_
  refine Go.to [some (.ref 0), some (.int (iZ a))] [] rfl rfl ?_
  refine g_iload_n 1 dX8_toolAt_0 rfl rfl ?_
  refine g_ifZ_lt 18 4 dX8_toolAt_1 rfl rfl ra (fun c1 => ?_) (fun c1 => ?_)
  · refine g_null 19 dX8_toolAt_18 rfl ?_
    refine g_goto 28 dX8_toolAt_19 rfl ?_
    refine g_aret rfl (Or.inl rfl) dX8_toolAt_28 ?_
    refine rN ?_
    refine g_astoreN (L1 := [some (.ref 0), some (.int (iZ a)), some (.int (iZ b)), some (.int (iZ i)), some (.null), none, none]) 7 dX8_round_5 (by decide) rfl rfl rfl ?_
    refine g_aload_n 8 dX8_round_7 rfl rfl ?_
    refine g_iload_n 9 dX8_round_8 rfl rfl ?_
    refine g_callV (z := mX8_toolAt) (As := [.int (iZ b)]) 12 dX8_round_9 mwX8_toolAt ⟨by decide, by decide⟩ rfl wlX8_90 wiX8_toolAt wsX8_toolAt F0 rfl rfl rfl (nle rfl) (nle rfl) rfl ?_
    refine Go.to [some (.ref 0), some (.int (iZ b))] [] rfl rfl ?_
    refine g_iload_n 1 dX8_toolAt_0 rfl rfl ?_
    refine g_ifZ_lt 18 4 dX8_toolAt_1 rfl rfl rb (fun c2 => ?_) (fun c2 => ?_)
    · refine g_null 19 dX8_toolAt_18 rfl ?_
      refine g_goto 28 dX8_toolAt_19 rfl ?_
      refine g_aret rfl (Or.inl rfl) dX8_toolAt_28 ?_
      refine rN ?_
      refine g_astoreN (L1 := [some (.ref 0), some (.int (iZ a)), some (.int (iZ b)), some (.int (iZ i)), some (.null), some (.null), none]) 14 dX8_round_12 (by decide) rfl rfl rfl ?_
      refine g_aload_n 15 dX8_round_14 rfl rfl ?_
      refine g_iload_n 16 dX8_round_15 rfl rfl ?_
      refine g_callV (z := mX8_textAt) (As := [.int (iZ i)]) 19 dX8_round_16 mwX8_textAt ⟨by decide, by decide⟩ rfl wlX8_74 wiX8_textAt wsX8_textAt F0 rfl rfl rfl (nle rfl) (nle rfl) rfl ?_
      refine Go.to [some (.ref 0), some (.int (iZ i))] [] rfl rfl ?_
      refine g_iload_n 1 dX8_textAt_0 rfl rfl ?_
      refine g_ifZ_lt 10 4 dX8_textAt_1 rfl rfl ri (fun c3 => ?_) (fun c3 => ?_)
      · refine g_null 11 dX8_textAt_10 rfl ?_
        refine g_goto 20 dX8_textAt_11 rfl ?_
        refine g_aret rfl (Or.inl rfl) dX8_textAt_20 ?_
        refine rN ?_
        refine g_astoreN (L1 := [some (.ref 0), some (.int (iZ a)), some (.int (iZ b)), some (.int (iZ i)), some (.null), some (.null), some (.null)]) 21 dX8_round_19 (by decide) rfl rfl rfl ?_
        refine g_aloadN 23 dX8_round_21 rfl rfl ?_
        refine g_ifnullN 36 dX8_round_23 rfl ?_
        refine g_iconst (v := iZ (-1)) 37 dX8_round_36 rfl rfl ?_
        refine g_iret rfl dX8_round_37 ?_
        exact k _ (-1) ⟨fun q => by omega, fun _ => rfl⟩ H (fun _ _ _ => rfl)
      · refine g_iload_n 5 dX8_textAt_4 rfl rfl ?_
        refine g_bipush (v := iZ (8)) 7 dX8_textAt_5 (by decide +kernel) rfl ?_
        refine g_icZ_lt 14 10 dX8_textAt_7 rfl rfl ri (by decide) (fun c4 => ?_) (fun c4 => ?_)
        · refine g_aload_n 15 dX8_textAt_14 rfl rfl ?_
          refine g_get 18 dX8_textAt_15 faX8_16_X8 F0 rfl rfl ?_
          refine g_iload_n 19 dX8_textAt_18 rfl rfl ?_
          refine g_aaldZ 20 dX8_textAt_19 F3 (by decide) (by omega) (by omega) (by decide) (txs_at (by omega) (by omega)) rfl ?_
          refine g_aret rfl (Or.inr ⟨_, rfl⟩) dX8_textAt_20 ?_
          refine rR ?_
          refine g_astore (L1 := [some (.ref 0), some (.int (iZ a)), some (.int (iZ b)), some (.int (iZ i)), some (.null), some (.null), some (.ref (34 + 2 * i.toNat))]) 21 dX8_round_19 (by decide) rfl rfl rfl ?_
          refine g_aloadN 23 dX8_round_21 rfl rfl ?_
          refine g_ifnullN 36 dX8_round_23 rfl ?_
          refine g_iconst (v := iZ (-1)) 37 dX8_round_36 rfl rfl ?_
          refine g_iret rfl dX8_round_37 ?_
          exact k _ (-1) ⟨fun q => by omega, fun _ => rfl⟩ H (fun _ _ _ => rfl)
        · refine g_null 11 dX8_textAt_10 rfl ?_
          refine g_goto 20 dX8_textAt_11 rfl ?_
          refine g_aret rfl (Or.inl rfl) dX8_textAt_20 ?_
          refine rN ?_
          refine g_astoreN (L1 := [some (.ref 0), some (.int (iZ a)), some (.int (iZ b)), some (.int (iZ i)), some (.null), some (.null), some (.null)]) 21 dX8_round_19 (by decide) rfl rfl rfl ?_
          refine g_aloadN 23 dX8_round_21 rfl rfl ?_
          refine g_ifnullN 36 dX8_round_23 rfl ?_
          refine g_iconst (v := iZ (-1)) 37 dX8_round_36 rfl rfl ?_
          refine g_iret rfl dX8_round_37 ?_
          exact k _ (-1) ⟨fun q => by omega, fun _ => rfl⟩ H (fun _ _ _ => rfl)
    · refine g_iload_n 5 dX8_toolAt_4 rfl rfl ?_
      refine g_aload_n 6 dX8_toolAt_5 rfl rfl ?_
      refine g_get 9 dX8_toolAt_6 faX8_26_X8 F0 rfl rfl ?_
      refine g_icZ_ge 18 12 dX8_toolAt_9 rfl rfl rb (by omega) (fun c5 => ?_) (fun c5 => ?_)
      · refine g_null 19 dX8_toolAt_18 rfl ?_
        refine g_goto 28 dX8_toolAt_19 rfl ?_
        refine g_aret rfl (Or.inl rfl) dX8_toolAt_28 ?_
        refine rN ?_
        refine g_astoreN (L1 := [some (.ref 0), some (.int (iZ a)), some (.int (iZ b)), some (.int (iZ i)), some (.null), some (.null), none]) 14 dX8_round_12 (by decide) rfl rfl rfl ?_
        refine g_aload_n 15 dX8_round_14 rfl rfl ?_
        refine g_iload_n 16 dX8_round_15 rfl rfl ?_
        refine g_callV (z := mX8_textAt) (As := [.int (iZ i)]) 19 dX8_round_16 mwX8_textAt ⟨by decide, by decide⟩ rfl wlX8_74 wiX8_textAt wsX8_textAt F0 rfl rfl rfl (nle rfl) (nle rfl) rfl ?_
        refine Go.to [some (.ref 0), some (.int (iZ i))] [] rfl rfl ?_
        refine g_iload_n 1 dX8_textAt_0 rfl rfl ?_
        refine g_ifZ_lt 10 4 dX8_textAt_1 rfl rfl ri (fun c6 => ?_) (fun c6 => ?_)
        · refine g_null 11 dX8_textAt_10 rfl ?_
          refine g_goto 20 dX8_textAt_11 rfl ?_
          refine g_aret rfl (Or.inl rfl) dX8_textAt_20 ?_
          refine rN ?_
          refine g_astoreN (L1 := [some (.ref 0), some (.int (iZ a)), some (.int (iZ b)), some (.int (iZ i)), some (.null), some (.null), some (.null)]) 21 dX8_round_19 (by decide) rfl rfl rfl ?_
          refine g_aloadN 23 dX8_round_21 rfl rfl ?_
          refine g_ifnullN 36 dX8_round_23 rfl ?_
          refine g_iconst (v := iZ (-1)) 37 dX8_round_36 rfl rfl ?_
          refine g_iret rfl dX8_round_37 ?_
          exact k _ (-1) ⟨fun q => by omega, fun _ => rfl⟩ H (fun _ _ _ => rfl)
        · refine g_iload_n 5 dX8_textAt_4 rfl rfl ?_
          refine g_bipush (v := iZ (8)) 7 dX8_textAt_5 (by decide +kernel) rfl ?_
          refine g_icZ_lt 14 10 dX8_textAt_7 rfl rfl ri (by decide) (fun c7 => ?_) (fun c7 => ?_)
          · refine g_aload_n 15 dX8_textAt_14 rfl rfl ?_
            refine g_get 18 dX8_textAt_15 faX8_16_X8 F0 rfl rfl ?_
            refine g_iload_n 19 dX8_textAt_18 rfl rfl ?_
            refine g_aaldZ 20 dX8_textAt_19 F3 (by decide) (by omega) (by omega) (by decide) (txs_at (by omega) (by omega)) rfl ?_
            refine g_aret rfl (Or.inr ⟨_, rfl⟩) dX8_textAt_20 ?_
            refine rR ?_
            refine g_astore (L1 := [some (.ref 0), some (.int (iZ a)), some (.int (iZ b)), some (.int (iZ i)), some (.null), some (.null), some (.ref (34 + 2 * i.toNat))]) 21 dX8_round_19 (by decide) rfl rfl rfl ?_
            refine g_aloadN 23 dX8_round_21 rfl rfl ?_
            refine g_ifnullN 36 dX8_round_23 rfl ?_
            refine g_iconst (v := iZ (-1)) 37 dX8_round_36 rfl rfl ?_
            refine g_iret rfl dX8_round_37 ?_
            exact k _ (-1) ⟨fun q => by omega, fun _ => rfl⟩ H (fun _ _ _ => rfl)
          · refine g_null 11 dX8_textAt_10 rfl ?_
            refine g_goto 20 dX8_textAt_11 rfl ?_
            refine g_aret rfl (Or.inl rfl) dX8_textAt_20 ?_
            refine rN ?_
            refine g_astoreN (L1 := [some (.ref 0), some (.int (iZ a)), some (.int (iZ b)), some (.int (iZ i)), some (.null), some (.null), some (.null)]) 21 dX8_round_19 (by decide) rfl rfl rfl ?_
            refine g_aloadN 23 dX8_round_21 rfl rfl ?_
            refine g_ifnullN 36 dX8_round_23 rfl ?_
            refine g_iconst (v := iZ (-1)) 37 dX8_round_36 rfl rfl ?_
            refine g_iret rfl dX8_round_37 ?_
            exact k _ (-1) ⟨fun q => by omega, fun _ => rfl⟩ H (fun _ _ _ => rfl)
      · refine g_iload_n 13 dX8_toolAt_12 rfl rfl ?_
        refine g_bipush (v := iZ (12)) 15 dX8_toolAt_13 (by decide +kernel) rfl ?_
        refine g_icZ_lt 22 18 dX8_toolAt_15 rfl rfl rb (by decide) (fun c8 => ?_) (fun c8 => ?_)
        · refine g_aload_n 23 dX8_toolAt_22 rfl rfl ?_
          refine g_get 26 dX8_toolAt_23 faX8_22_X8 F0 rfl rfl ?_
          refine g_iload_n 27 dX8_toolAt_26 rfl rfl ?_
          refine g_aaldZ 28 dX8_toolAt_27 F4 (by decide) (by omega) (by omega) (by decide) (tls_at (by omega) (by omega)) rfl ?_
          refine g_aret rfl (Or.inr ⟨_, rfl⟩) dX8_toolAt_28 ?_
          refine rR ?_
          refine g_astore (L1 := [some (.ref 0), some (.int (iZ a)), some (.int (iZ b)), some (.int (iZ i)), some (.null), some (.ref (71 + 4 * b.toNat)), none]) 14 dX8_round_12 (by decide) rfl rfl rfl ?_
          refine g_aload_n 15 dX8_round_14 rfl rfl ?_
          refine g_iload_n 16 dX8_round_15 rfl rfl ?_
          refine g_callV (z := mX8_textAt) (As := [.int (iZ i)]) 19 dX8_round_16 mwX8_textAt ⟨by decide, by decide⟩ rfl wlX8_74 wiX8_textAt wsX8_textAt F0 rfl rfl rfl (nle rfl) (nle rfl) rfl ?_
          refine Go.to [some (.ref 0), some (.int (iZ i))] [] rfl rfl ?_
          refine g_iload_n 1 dX8_textAt_0 rfl rfl ?_
          refine g_ifZ_lt 10 4 dX8_textAt_1 rfl rfl ri (fun c9 => ?_) (fun c9 => ?_)
          · refine g_null 11 dX8_textAt_10 rfl ?_
            refine g_goto 20 dX8_textAt_11 rfl ?_
            refine g_aret rfl (Or.inl rfl) dX8_textAt_20 ?_
            refine rN ?_
            refine g_astoreN (L1 := [some (.ref 0), some (.int (iZ a)), some (.int (iZ b)), some (.int (iZ i)), some (.null), some (.ref (71 + 4 * b.toNat)), some (.null)]) 21 dX8_round_19 (by decide) rfl rfl rfl ?_
            refine g_aloadN 23 dX8_round_21 rfl rfl ?_
            refine g_ifnullN 36 dX8_round_23 rfl ?_
            refine g_iconst (v := iZ (-1)) 37 dX8_round_36 rfl rfl ?_
            refine g_iret rfl dX8_round_37 ?_
            exact k _ (-1) ⟨fun q => by omega, fun _ => rfl⟩ H (fun _ _ _ => rfl)
          · refine g_iload_n 5 dX8_textAt_4 rfl rfl ?_
            refine g_bipush (v := iZ (8)) 7 dX8_textAt_5 (by decide +kernel) rfl ?_
            refine g_icZ_lt 14 10 dX8_textAt_7 rfl rfl ri (by decide) (fun c10 => ?_) (fun c10 => ?_)
            · refine g_aload_n 15 dX8_textAt_14 rfl rfl ?_
              refine g_get 18 dX8_textAt_15 faX8_16_X8 F0 rfl rfl ?_
              refine g_iload_n 19 dX8_textAt_18 rfl rfl ?_
              refine g_aaldZ 20 dX8_textAt_19 F3 (by decide) (by omega) (by omega) (by decide) (txs_at (by omega) (by omega)) rfl ?_
              refine g_aret rfl (Or.inr ⟨_, rfl⟩) dX8_textAt_20 ?_
              refine rR ?_
              refine g_astore (L1 := [some (.ref 0), some (.int (iZ a)), some (.int (iZ b)), some (.int (iZ i)), some (.null), some (.ref (71 + 4 * b.toNat)), some (.ref (34 + 2 * i.toNat))]) 21 dX8_round_19 (by decide) rfl rfl rfl ?_
              refine g_aloadN 23 dX8_round_21 rfl rfl ?_
              refine g_ifnullN 36 dX8_round_23 rfl ?_
              refine g_iconst (v := iZ (-1)) 37 dX8_round_36 rfl rfl ?_
              refine g_iret rfl dX8_round_37 ?_
              exact k _ (-1) ⟨fun q => by omega, fun _ => rfl⟩ H (fun _ _ _ => rfl)
            · refine g_null 11 dX8_textAt_10 rfl ?_
              refine g_goto 20 dX8_textAt_11 rfl ?_
              refine g_aret rfl (Or.inl rfl) dX8_textAt_20 ?_
              refine rN ?_
              refine g_astoreN (L1 := [some (.ref 0), some (.int (iZ a)), some (.int (iZ b)), some (.int (iZ i)), some (.null), some (.ref (71 + 4 * b.toNat)), some (.null)]) 21 dX8_round_19 (by decide) rfl rfl rfl ?_
              refine g_aloadN 23 dX8_round_21 rfl rfl ?_
              refine g_ifnullN 36 dX8_round_23 rfl ?_
              refine g_iconst (v := iZ (-1)) 37 dX8_round_36 rfl rfl ?_
              refine g_iret rfl dX8_round_37 ?_
              exact k _ (-1) ⟨fun q => by omega, fun _ => rfl⟩ H (fun _ _ _ => rfl)
        · refine g_null 19 dX8_toolAt_18 rfl ?_
          refine g_goto 28 dX8_toolAt_19 rfl ?_
          refine g_aret rfl (Or.inl rfl) dX8_toolAt_28 ?_
          refine rN ?_
          refine g_astoreN (L1 := [some (.ref 0), some (.int (iZ a)), some (.int (iZ b)), some (.int (iZ i)), some (.null), some (.null), none]) 14 dX8_round_12 (by decide) rfl rfl rfl ?_
          refine g_aload_n 15 dX8_round_14 rfl rfl ?_
          refine g_iload_n 16 dX8_round_15 rfl rfl ?_
          refine g_callV (z := mX8_textAt) (As := [.int (iZ i)]) 19 dX8_round_16 mwX8_textAt ⟨by decide, by decide⟩ rfl wlX8_74 wiX8_textAt wsX8_textAt F0 rfl rfl rfl (nle rfl) (nle rfl) rfl ?_
          refine Go.to [some (.ref 0), some (.int (iZ i))] [] rfl rfl ?_
          refine g_iload_n 1 dX8_textAt_0 rfl rfl ?_
          refine g_ifZ_lt 10 4 dX8_textAt_1 rfl rfl ri (fun c11 => ?_) (fun c11 => ?_)
          · refine g_null 11 dX8_textAt_10 rfl ?_
            refine g_goto 20 dX8_textAt_11 rfl ?_
            refine g_aret rfl (Or.inl rfl) dX8_textAt_20 ?_
            refine rN ?_
            refine g_astoreN (L1 := [some (.ref 0), some (.int (iZ a)), some (.int (iZ b)), some (.int (iZ i)), some (.null), some (.null), some (.null)]) 21 dX8_round_19 (by decide) rfl rfl rfl ?_
            refine g_aloadN 23 dX8_round_21 rfl rfl ?_
            refine g_ifnullN 36 dX8_round_23 rfl ?_
            refine g_iconst (v := iZ (-1)) 37 dX8_round_36 rfl rfl ?_
            refine g_iret rfl dX8_round_37 ?_
            exact k _ (-1) ⟨fun q => by omega, fun _ => rfl⟩ H (fun _ _ _ => rfl)
          · refine g_iload_n 5 dX8_textAt_4 rfl rfl ?_
            refine g_bipush (v := iZ (8)) 7 dX8_textAt_5 (by decide +kernel) rfl ?_
            refine g_icZ_lt 14 10 dX8_textAt_7 rfl rfl ri (by decide) (fun c12 => ?_) (fun c12 => ?_)
            · refine g_aload_n 15 dX8_textAt_14 rfl rfl ?_
              refine g_get 18 dX8_textAt_15 faX8_16_X8 F0 rfl rfl ?_
              refine g_iload_n 19 dX8_textAt_18 rfl rfl ?_
              refine g_aaldZ 20 dX8_textAt_19 F3 (by decide) (by omega) (by omega) (by decide) (txs_at (by omega) (by omega)) rfl ?_
              refine g_aret rfl (Or.inr ⟨_, rfl⟩) dX8_textAt_20 ?_
              refine rR ?_
              refine g_astore (L1 := [some (.ref 0), some (.int (iZ a)), some (.int (iZ b)), some (.int (iZ i)), some (.null), some (.null), some (.ref (34 + 2 * i.toNat))]) 21 dX8_round_19 (by decide) rfl rfl rfl ?_
              refine g_aloadN 23 dX8_round_21 rfl rfl ?_
              refine g_ifnullN 36 dX8_round_23 rfl ?_
              refine g_iconst (v := iZ (-1)) 37 dX8_round_36 rfl rfl ?_
              refine g_iret rfl dX8_round_37 ?_
              exact k _ (-1) ⟨fun q => by omega, fun _ => rfl⟩ H (fun _ _ _ => rfl)
            · refine g_null 11 dX8_textAt_10 rfl ?_
              refine g_goto 20 dX8_textAt_11 rfl ?_
              refine g_aret rfl (Or.inl rfl) dX8_textAt_20 ?_
              refine rN ?_
              refine g_astoreN (L1 := [some (.ref 0), some (.int (iZ a)), some (.int (iZ b)), some (.int (iZ i)), some (.null), some (.null), some (.null)]) 21 dX8_round_19 (by decide) rfl rfl rfl ?_
              refine g_aloadN 23 dX8_round_21 rfl rfl ?_
              refine g_ifnullN 36 dX8_round_23 rfl ?_
              refine g_iconst (v := iZ (-1)) 37 dX8_round_36 rfl rfl ?_
              refine g_iret rfl dX8_round_37 ?_
              exact k _ (-1) ⟨fun q => by omega, fun _ => rfl⟩ H (fun _ _ _ => rfl)
  · refine g_iload_n 5 dX8_toolAt_4 rfl rfl ?_
    refine g_aload_n 6 dX8_toolAt_5 rfl rfl ?_
    refine g_get 9 dX8_toolAt_6 faX8_26_X8 F0 rfl rfl ?_
    refine g_icZ_ge 18 12 dX8_toolAt_9 rfl rfl ra (by omega) (fun c13 => ?_) (fun c13 => ?_)
    · refine g_null 19 dX8_toolAt_18 rfl ?_
      refine g_goto 28 dX8_toolAt_19 rfl ?_
      refine g_aret rfl (Or.inl rfl) dX8_toolAt_28 ?_
      refine rN ?_
      refine g_astoreN (L1 := [some (.ref 0), some (.int (iZ a)), some (.int (iZ b)), some (.int (iZ i)), some (.null), none, none]) 7 dX8_round_5 (by decide) rfl rfl rfl ?_
      refine g_aload_n 8 dX8_round_7 rfl rfl ?_
      refine g_iload_n 9 dX8_round_8 rfl rfl ?_
      refine g_callV (z := mX8_toolAt) (As := [.int (iZ b)]) 12 dX8_round_9 mwX8_toolAt ⟨by decide, by decide⟩ rfl wlX8_90 wiX8_toolAt wsX8_toolAt F0 rfl rfl rfl (nle rfl) (nle rfl) rfl ?_
      refine Go.to [some (.ref 0), some (.int (iZ b))] [] rfl rfl ?_
      refine g_iload_n 1 dX8_toolAt_0 rfl rfl ?_
      refine g_ifZ_lt 18 4 dX8_toolAt_1 rfl rfl rb (fun c14 => ?_) (fun c14 => ?_)
      · refine g_null 19 dX8_toolAt_18 rfl ?_
        refine g_goto 28 dX8_toolAt_19 rfl ?_
        refine g_aret rfl (Or.inl rfl) dX8_toolAt_28 ?_
        refine rN ?_
        refine g_astoreN (L1 := [some (.ref 0), some (.int (iZ a)), some (.int (iZ b)), some (.int (iZ i)), some (.null), some (.null), none]) 14 dX8_round_12 (by decide) rfl rfl rfl ?_
        refine g_aload_n 15 dX8_round_14 rfl rfl ?_
        refine g_iload_n 16 dX8_round_15 rfl rfl ?_
        refine g_callV (z := mX8_textAt) (As := [.int (iZ i)]) 19 dX8_round_16 mwX8_textAt ⟨by decide, by decide⟩ rfl wlX8_74 wiX8_textAt wsX8_textAt F0 rfl rfl rfl (nle rfl) (nle rfl) rfl ?_
        refine Go.to [some (.ref 0), some (.int (iZ i))] [] rfl rfl ?_
        refine g_iload_n 1 dX8_textAt_0 rfl rfl ?_
        refine g_ifZ_lt 10 4 dX8_textAt_1 rfl rfl ri (fun c15 => ?_) (fun c15 => ?_)
        · refine g_null 11 dX8_textAt_10 rfl ?_
          refine g_goto 20 dX8_textAt_11 rfl ?_
          refine g_aret rfl (Or.inl rfl) dX8_textAt_20 ?_
          refine rN ?_
          refine g_astoreN (L1 := [some (.ref 0), some (.int (iZ a)), some (.int (iZ b)), some (.int (iZ i)), some (.null), some (.null), some (.null)]) 21 dX8_round_19 (by decide) rfl rfl rfl ?_
          refine g_aloadN 23 dX8_round_21 rfl rfl ?_
          refine g_ifnullN 36 dX8_round_23 rfl ?_
          refine g_iconst (v := iZ (-1)) 37 dX8_round_36 rfl rfl ?_
          refine g_iret rfl dX8_round_37 ?_
          exact k _ (-1) ⟨fun q => by omega, fun _ => rfl⟩ H (fun _ _ _ => rfl)
        · refine g_iload_n 5 dX8_textAt_4 rfl rfl ?_
          refine g_bipush (v := iZ (8)) 7 dX8_textAt_5 (by decide +kernel) rfl ?_
          refine g_icZ_lt 14 10 dX8_textAt_7 rfl rfl ri (by decide) (fun c16 => ?_) (fun c16 => ?_)
          · refine g_aload_n 15 dX8_textAt_14 rfl rfl ?_
            refine g_get 18 dX8_textAt_15 faX8_16_X8 F0 rfl rfl ?_
            refine g_iload_n 19 dX8_textAt_18 rfl rfl ?_
            refine g_aaldZ 20 dX8_textAt_19 F3 (by decide) (by omega) (by omega) (by decide) (txs_at (by omega) (by omega)) rfl ?_
            refine g_aret rfl (Or.inr ⟨_, rfl⟩) dX8_textAt_20 ?_
            refine rR ?_
            refine g_astore (L1 := [some (.ref 0), some (.int (iZ a)), some (.int (iZ b)), some (.int (iZ i)), some (.null), some (.null), some (.ref (34 + 2 * i.toNat))]) 21 dX8_round_19 (by decide) rfl rfl rfl ?_
            refine g_aloadN 23 dX8_round_21 rfl rfl ?_
            refine g_ifnullN 36 dX8_round_23 rfl ?_
            refine g_iconst (v := iZ (-1)) 37 dX8_round_36 rfl rfl ?_
            refine g_iret rfl dX8_round_37 ?_
            exact k _ (-1) ⟨fun q => by omega, fun _ => rfl⟩ H (fun _ _ _ => rfl)
          · refine g_null 11 dX8_textAt_10 rfl ?_
            refine g_goto 20 dX8_textAt_11 rfl ?_
            refine g_aret rfl (Or.inl rfl) dX8_textAt_20 ?_
            refine rN ?_
            refine g_astoreN (L1 := [some (.ref 0), some (.int (iZ a)), some (.int (iZ b)), some (.int (iZ i)), some (.null), some (.null), some (.null)]) 21 dX8_round_19 (by decide) rfl rfl rfl ?_
            refine g_aloadN 23 dX8_round_21 rfl rfl ?_
            refine g_ifnullN 36 dX8_round_23 rfl ?_
            refine g_iconst (v := iZ (-1)) 37 dX8_round_36 rfl rfl ?_
            refine g_iret rfl dX8_round_37 ?_
            exact k _ (-1) ⟨fun q => by omega, fun _ => rfl⟩ H (fun _ _ _ => rfl)
      · refine g_iload_n 5 dX8_toolAt_4 rfl rfl ?_
        refine g_aload_n 6 dX8_toolAt_5 rfl rfl ?_
        refine g_get 9 dX8_toolAt_6 faX8_26_X8 F0 rfl rfl ?_
        refine g_icZ_ge 18 12 dX8_toolAt_9 rfl rfl rb (by omega) (fun c17 => ?_) (fun c17 => ?_)
        · refine g_null 19 dX8_toolAt_18 rfl ?_
          refine g_goto 28 dX8_toolAt_19 rfl ?_
          refine g_aret rfl (Or.inl rfl) dX8_toolAt_28 ?_
          refine rN ?_
          refine g_astoreN (L1 := [some (.ref 0), some (.int (iZ a)), some (.int (iZ b)), some (.int (iZ i)), some (.null), some (.null), none]) 14 dX8_round_12 (by decide) rfl rfl rfl ?_
          refine g_aload_n 15 dX8_round_14 rfl rfl ?_
          refine g_iload_n 16 dX8_round_15 rfl rfl ?_
          refine g_callV (z := mX8_textAt) (As := [.int (iZ i)]) 19 dX8_round_16 mwX8_textAt ⟨by decide, by decide⟩ rfl wlX8_74 wiX8_textAt wsX8_textAt F0 rfl rfl rfl (nle rfl) (nle rfl) rfl ?_
          refine Go.to [some (.ref 0), some (.int (iZ i))] [] rfl rfl ?_
          refine g_iload_n 1 dX8_textAt_0 rfl rfl ?_
          refine g_ifZ_lt 10 4 dX8_textAt_1 rfl rfl ri (fun c18 => ?_) (fun c18 => ?_)
          · refine g_null 11 dX8_textAt_10 rfl ?_
            refine g_goto 20 dX8_textAt_11 rfl ?_
            refine g_aret rfl (Or.inl rfl) dX8_textAt_20 ?_
            refine rN ?_
            refine g_astoreN (L1 := [some (.ref 0), some (.int (iZ a)), some (.int (iZ b)), some (.int (iZ i)), some (.null), some (.null), some (.null)]) 21 dX8_round_19 (by decide) rfl rfl rfl ?_
            refine g_aloadN 23 dX8_round_21 rfl rfl ?_
            refine g_ifnullN 36 dX8_round_23 rfl ?_
            refine g_iconst (v := iZ (-1)) 37 dX8_round_36 rfl rfl ?_
            refine g_iret rfl dX8_round_37 ?_
            exact k _ (-1) ⟨fun q => by omega, fun _ => rfl⟩ H (fun _ _ _ => rfl)
          · refine g_iload_n 5 dX8_textAt_4 rfl rfl ?_
            refine g_bipush (v := iZ (8)) 7 dX8_textAt_5 (by decide +kernel) rfl ?_
            refine g_icZ_lt 14 10 dX8_textAt_7 rfl rfl ri (by decide) (fun c19 => ?_) (fun c19 => ?_)
            · refine g_aload_n 15 dX8_textAt_14 rfl rfl ?_
              refine g_get 18 dX8_textAt_15 faX8_16_X8 F0 rfl rfl ?_
              refine g_iload_n 19 dX8_textAt_18 rfl rfl ?_
              refine g_aaldZ 20 dX8_textAt_19 F3 (by decide) (by omega) (by omega) (by decide) (txs_at (by omega) (by omega)) rfl ?_
              refine g_aret rfl (Or.inr ⟨_, rfl⟩) dX8_textAt_20 ?_
              refine rR ?_
              refine g_astore (L1 := [some (.ref 0), some (.int (iZ a)), some (.int (iZ b)), some (.int (iZ i)), some (.null), some (.null), some (.ref (34 + 2 * i.toNat))]) 21 dX8_round_19 (by decide) rfl rfl rfl ?_
              refine g_aloadN 23 dX8_round_21 rfl rfl ?_
              refine g_ifnullN 36 dX8_round_23 rfl ?_
              refine g_iconst (v := iZ (-1)) 37 dX8_round_36 rfl rfl ?_
              refine g_iret rfl dX8_round_37 ?_
              exact k _ (-1) ⟨fun q => by omega, fun _ => rfl⟩ H (fun _ _ _ => rfl)
            · refine g_null 11 dX8_textAt_10 rfl ?_
              refine g_goto 20 dX8_textAt_11 rfl ?_
              refine g_aret rfl (Or.inl rfl) dX8_textAt_20 ?_
              refine rN ?_
              refine g_astoreN (L1 := [some (.ref 0), some (.int (iZ a)), some (.int (iZ b)), some (.int (iZ i)), some (.null), some (.null), some (.null)]) 21 dX8_round_19 (by decide) rfl rfl rfl ?_
              refine g_aloadN 23 dX8_round_21 rfl rfl ?_
              refine g_ifnullN 36 dX8_round_23 rfl ?_
              refine g_iconst (v := iZ (-1)) 37 dX8_round_36 rfl rfl ?_
              refine g_iret rfl dX8_round_37 ?_
              exact k _ (-1) ⟨fun q => by omega, fun _ => rfl⟩ H (fun _ _ _ => rfl)
        · refine g_iload_n 13 dX8_toolAt_12 rfl rfl ?_
          refine g_bipush (v := iZ (12)) 15 dX8_toolAt_13 (by decide +kernel) rfl ?_
          refine g_icZ_lt 22 18 dX8_toolAt_15 rfl rfl rb (by decide) (fun c20 => ?_) (fun c20 => ?_)
          · refine g_aload_n 23 dX8_toolAt_22 rfl rfl ?_
            refine g_get 26 dX8_toolAt_23 faX8_22_X8 F0 rfl rfl ?_
            refine g_iload_n 27 dX8_toolAt_26 rfl rfl ?_
            refine g_aaldZ 28 dX8_toolAt_27 F4 (by decide) (by omega) (by omega) (by decide) (tls_at (by omega) (by omega)) rfl ?_
            refine g_aret rfl (Or.inr ⟨_, rfl⟩) dX8_toolAt_28 ?_
            refine rR ?_
            refine g_astore (L1 := [some (.ref 0), some (.int (iZ a)), some (.int (iZ b)), some (.int (iZ i)), some (.null), some (.ref (71 + 4 * b.toNat)), none]) 14 dX8_round_12 (by decide) rfl rfl rfl ?_
            refine g_aload_n 15 dX8_round_14 rfl rfl ?_
            refine g_iload_n 16 dX8_round_15 rfl rfl ?_
            refine g_callV (z := mX8_textAt) (As := [.int (iZ i)]) 19 dX8_round_16 mwX8_textAt ⟨by decide, by decide⟩ rfl wlX8_74 wiX8_textAt wsX8_textAt F0 rfl rfl rfl (nle rfl) (nle rfl) rfl ?_
            refine Go.to [some (.ref 0), some (.int (iZ i))] [] rfl rfl ?_
            refine g_iload_n 1 dX8_textAt_0 rfl rfl ?_
            refine g_ifZ_lt 10 4 dX8_textAt_1 rfl rfl ri (fun c21 => ?_) (fun c21 => ?_)
            · refine g_null 11 dX8_textAt_10 rfl ?_
              refine g_goto 20 dX8_textAt_11 rfl ?_
              refine g_aret rfl (Or.inl rfl) dX8_textAt_20 ?_
              refine rN ?_
              refine g_astoreN (L1 := [some (.ref 0), some (.int (iZ a)), some (.int (iZ b)), some (.int (iZ i)), some (.null), some (.ref (71 + 4 * b.toNat)), some (.null)]) 21 dX8_round_19 (by decide) rfl rfl rfl ?_
              refine g_aloadN 23 dX8_round_21 rfl rfl ?_
              refine g_ifnullN 36 dX8_round_23 rfl ?_
              refine g_iconst (v := iZ (-1)) 37 dX8_round_36 rfl rfl ?_
              refine g_iret rfl dX8_round_37 ?_
              exact k _ (-1) ⟨fun q => by omega, fun _ => rfl⟩ H (fun _ _ _ => rfl)
            · refine g_iload_n 5 dX8_textAt_4 rfl rfl ?_
              refine g_bipush (v := iZ (8)) 7 dX8_textAt_5 (by decide +kernel) rfl ?_
              refine g_icZ_lt 14 10 dX8_textAt_7 rfl rfl ri (by decide) (fun c22 => ?_) (fun c22 => ?_)
              · refine g_aload_n 15 dX8_textAt_14 rfl rfl ?_
                refine g_get 18 dX8_textAt_15 faX8_16_X8 F0 rfl rfl ?_
                refine g_iload_n 19 dX8_textAt_18 rfl rfl ?_
                refine g_aaldZ 20 dX8_textAt_19 F3 (by decide) (by omega) (by omega) (by decide) (txs_at (by omega) (by omega)) rfl ?_
                refine g_aret rfl (Or.inr ⟨_, rfl⟩) dX8_textAt_20 ?_
                refine rR ?_
                refine g_astore (L1 := [some (.ref 0), some (.int (iZ a)), some (.int (iZ b)), some (.int (iZ i)), some (.null), some (.ref (71 + 4 * b.toNat)), some (.ref (34 + 2 * i.toNat))]) 21 dX8_round_19 (by decide) rfl rfl rfl ?_
                refine g_aloadN 23 dX8_round_21 rfl rfl ?_
                refine g_ifnullN 36 dX8_round_23 rfl ?_
                refine g_iconst (v := iZ (-1)) 37 dX8_round_36 rfl rfl ?_
                refine g_iret rfl dX8_round_37 ?_
                exact k _ (-1) ⟨fun q => by omega, fun _ => rfl⟩ H (fun _ _ _ => rfl)
              · refine g_null 11 dX8_textAt_10 rfl ?_
                refine g_goto 20 dX8_textAt_11 rfl ?_
                refine g_aret rfl (Or.inl rfl) dX8_textAt_20 ?_
                refine rN ?_
                refine g_astoreN (L1 := [some (.ref 0), some (.int (iZ a)), some (.int (iZ b)), some (.int (iZ i)), some (.null), some (.ref (71 + 4 * b.toNat)), some (.null)]) 21 dX8_round_19 (by decide) rfl rfl rfl ?_
                refine g_aloadN 23 dX8_round_21 rfl rfl ?_
                refine g_ifnullN 36 dX8_round_23 rfl ?_
                refine g_iconst (v := iZ (-1)) 37 dX8_round_36 rfl rfl ?_
                refine g_iret rfl dX8_round_37 ?_
                exact k _ (-1) ⟨fun q => by omega, fun _ => rfl⟩ H (fun _ _ _ => rfl)
          · refine g_null 19 dX8_toolAt_18 rfl ?_
            refine g_goto 28 dX8_toolAt_19 rfl ?_
            refine g_aret rfl (Or.inl rfl) dX8_toolAt_28 ?_
            refine rN ?_
            refine g_astoreN (L1 := [some (.ref 0), some (.int (iZ a)), some (.int (iZ b)), some (.int (iZ i)), some (.null), some (.null), none]) 14 dX8_round_12 (by decide) rfl rfl rfl ?_
            refine g_aload_n 15 dX8_round_14 rfl rfl ?_
            refine g_iload_n 16 dX8_round_15 rfl rfl ?_
            refine g_callV (z := mX8_textAt) (As := [.int (iZ i)]) 19 dX8_round_16 mwX8_textAt ⟨by decide, by decide⟩ rfl wlX8_74 wiX8_textAt wsX8_textAt F0 rfl rfl rfl (nle rfl) (nle rfl) rfl ?_
            refine Go.to [some (.ref 0), some (.int (iZ i))] [] rfl rfl ?_
            refine g_iload_n 1 dX8_textAt_0 rfl rfl ?_
            refine g_ifZ_lt 10 4 dX8_textAt_1 rfl rfl ri (fun c23 => ?_) (fun c23 => ?_)
            · refine g_null 11 dX8_textAt_10 rfl ?_
              refine g_goto 20 dX8_textAt_11 rfl ?_
              refine g_aret rfl (Or.inl rfl) dX8_textAt_20 ?_
              refine rN ?_
              refine g_astoreN (L1 := [some (.ref 0), some (.int (iZ a)), some (.int (iZ b)), some (.int (iZ i)), some (.null), some (.null), some (.null)]) 21 dX8_round_19 (by decide) rfl rfl rfl ?_
              refine g_aloadN 23 dX8_round_21 rfl rfl ?_
              refine g_ifnullN 36 dX8_round_23 rfl ?_
              refine g_iconst (v := iZ (-1)) 37 dX8_round_36 rfl rfl ?_
              refine g_iret rfl dX8_round_37 ?_
              exact k _ (-1) ⟨fun q => by omega, fun _ => rfl⟩ H (fun _ _ _ => rfl)
            · refine g_iload_n 5 dX8_textAt_4 rfl rfl ?_
              refine g_bipush (v := iZ (8)) 7 dX8_textAt_5 (by decide +kernel) rfl ?_
              refine g_icZ_lt 14 10 dX8_textAt_7 rfl rfl ri (by decide) (fun c24 => ?_) (fun c24 => ?_)
              · refine g_aload_n 15 dX8_textAt_14 rfl rfl ?_
                refine g_get 18 dX8_textAt_15 faX8_16_X8 F0 rfl rfl ?_
                refine g_iload_n 19 dX8_textAt_18 rfl rfl ?_
                refine g_aaldZ 20 dX8_textAt_19 F3 (by decide) (by omega) (by omega) (by decide) (txs_at (by omega) (by omega)) rfl ?_
                refine g_aret rfl (Or.inr ⟨_, rfl⟩) dX8_textAt_20 ?_
                refine rR ?_
                refine g_astore (L1 := [some (.ref 0), some (.int (iZ a)), some (.int (iZ b)), some (.int (iZ i)), some (.null), some (.null), some (.ref (34 + 2 * i.toNat))]) 21 dX8_round_19 (by decide) rfl rfl rfl ?_
                refine g_aloadN 23 dX8_round_21 rfl rfl ?_
                refine g_ifnullN 36 dX8_round_23 rfl ?_
                refine g_iconst (v := iZ (-1)) 37 dX8_round_36 rfl rfl ?_
                refine g_iret rfl dX8_round_37 ?_
                exact k _ (-1) ⟨fun q => by omega, fun _ => rfl⟩ H (fun _ _ _ => rfl)
              · refine g_null 11 dX8_textAt_10 rfl ?_
                refine g_goto 20 dX8_textAt_11 rfl ?_
                refine g_aret rfl (Or.inl rfl) dX8_textAt_20 ?_
                refine rN ?_
                refine g_astoreN (L1 := [some (.ref 0), some (.int (iZ a)), some (.int (iZ b)), some (.int (iZ i)), some (.null), some (.null), some (.null)]) 21 dX8_round_19 (by decide) rfl rfl rfl ?_
                refine g_aloadN 23 dX8_round_21 rfl rfl ?_
                refine g_ifnullN 36 dX8_round_23 rfl ?_
                refine g_iconst (v := iZ (-1)) 37 dX8_round_36 rfl rfl ?_
                refine g_iret rfl dX8_round_37 ?_
                exact k _ (-1) ⟨fun q => by omega, fun _ => rfl⟩ H (fun _ _ _ => rfl)
    · refine g_iload_n 13 dX8_toolAt_12 rfl rfl ?_
      refine g_bipush (v := iZ (12)) 15 dX8_toolAt_13 (by decide +kernel) rfl ?_
      refine g_icZ_lt 22 18 dX8_toolAt_15 rfl rfl ra (by decide) (fun c25 => ?_) (fun c25 => ?_)
      · refine g_aload_n 23 dX8_toolAt_22 rfl rfl ?_
        refine g_get 26 dX8_toolAt_23 faX8_22_X8 F0 rfl rfl ?_
        refine g_iload_n 27 dX8_toolAt_26 rfl rfl ?_
        refine g_aaldZ 28 dX8_toolAt_27 F4 (by decide) (by omega) (by omega) (by decide) (tls_at (by omega) (by omega)) rfl ?_
        refine g_aret rfl (Or.inr ⟨_, rfl⟩) dX8_toolAt_28 ?_
        refine rR ?_
        refine g_astore (L1 := [some (.ref 0), some (.int (iZ a)), some (.int (iZ b)), some (.int (iZ i)), some (.ref (71 + 4 * a.toNat)), none, none]) 7 dX8_round_5 (by decide) rfl rfl rfl ?_
        refine g_aload_n 8 dX8_round_7 rfl rfl ?_
        refine g_iload_n 9 dX8_round_8 rfl rfl ?_
        refine g_callV (z := mX8_toolAt) (As := [.int (iZ b)]) 12 dX8_round_9 mwX8_toolAt ⟨by decide, by decide⟩ rfl wlX8_90 wiX8_toolAt wsX8_toolAt F0 rfl rfl rfl (nle rfl) (nle rfl) rfl ?_
        refine Go.to [some (.ref 0), some (.int (iZ b))] [] rfl rfl ?_
        refine g_iload_n 1 dX8_toolAt_0 rfl rfl ?_
        refine g_ifZ_lt 18 4 dX8_toolAt_1 rfl rfl rb (fun c26 => ?_) (fun c26 => ?_)
        · refine g_null 19 dX8_toolAt_18 rfl ?_
          refine g_goto 28 dX8_toolAt_19 rfl ?_
          refine g_aret rfl (Or.inl rfl) dX8_toolAt_28 ?_
          refine rN ?_
          refine g_astoreN (L1 := [some (.ref 0), some (.int (iZ a)), some (.int (iZ b)), some (.int (iZ i)), some (.ref (71 + 4 * a.toNat)), some (.null), none]) 14 dX8_round_12 (by decide) rfl rfl rfl ?_
          refine g_aload_n 15 dX8_round_14 rfl rfl ?_
          refine g_iload_n 16 dX8_round_15 rfl rfl ?_
          refine g_callV (z := mX8_textAt) (As := [.int (iZ i)]) 19 dX8_round_16 mwX8_textAt ⟨by decide, by decide⟩ rfl wlX8_74 wiX8_textAt wsX8_textAt F0 rfl rfl rfl (nle rfl) (nle rfl) rfl ?_
          refine Go.to [some (.ref 0), some (.int (iZ i))] [] rfl rfl ?_
          refine g_iload_n 1 dX8_textAt_0 rfl rfl ?_
          refine g_ifZ_lt 10 4 dX8_textAt_1 rfl rfl ri (fun c27 => ?_) (fun c27 => ?_)
          · refine g_null 11 dX8_textAt_10 rfl ?_
            refine g_goto 20 dX8_textAt_11 rfl ?_
            refine g_aret rfl (Or.inl rfl) dX8_textAt_20 ?_
            refine rN ?_
            refine g_astoreN (L1 := [some (.ref 0), some (.int (iZ a)), some (.int (iZ b)), some (.int (iZ i)), some (.ref (71 + 4 * a.toNat)), some (.null), some (.null)]) 21 dX8_round_19 (by decide) rfl rfl rfl ?_
            refine g_aload 23 dX8_round_21 rfl rfl ?_
            refine g_ifnull 26 dX8_round_23 rfl ?_
            refine g_aloadN 28 dX8_round_26 rfl rfl ?_
            refine g_ifnullN 36 dX8_round_28 rfl ?_
            refine g_iconst (v := iZ (-1)) 37 dX8_round_36 rfl rfl ?_
            refine g_iret rfl dX8_round_37 ?_
            exact k _ (-1) ⟨fun q => by omega, fun _ => rfl⟩ H (fun _ _ _ => rfl)
          · refine g_iload_n 5 dX8_textAt_4 rfl rfl ?_
            refine g_bipush (v := iZ (8)) 7 dX8_textAt_5 (by decide +kernel) rfl ?_
            refine g_icZ_lt 14 10 dX8_textAt_7 rfl rfl ri (by decide) (fun c28 => ?_) (fun c28 => ?_)
            · refine g_aload_n 15 dX8_textAt_14 rfl rfl ?_
              refine g_get 18 dX8_textAt_15 faX8_16_X8 F0 rfl rfl ?_
              refine g_iload_n 19 dX8_textAt_18 rfl rfl ?_
              refine g_aaldZ 20 dX8_textAt_19 F3 (by decide) (by omega) (by omega) (by decide) (txs_at (by omega) (by omega)) rfl ?_
              refine g_aret rfl (Or.inr ⟨_, rfl⟩) dX8_textAt_20 ?_
              refine rR ?_
              refine g_astore (L1 := [some (.ref 0), some (.int (iZ a)), some (.int (iZ b)), some (.int (iZ i)), some (.ref (71 + 4 * a.toNat)), some (.null), some (.ref (34 + 2 * i.toNat))]) 21 dX8_round_19 (by decide) rfl rfl rfl ?_
              refine g_aload 23 dX8_round_21 rfl rfl ?_
              refine g_ifnull 26 dX8_round_23 rfl ?_
              refine g_aloadN 28 dX8_round_26 rfl rfl ?_
              refine g_ifnullN 36 dX8_round_28 rfl ?_
              refine g_iconst (v := iZ (-1)) 37 dX8_round_36 rfl rfl ?_
              refine g_iret rfl dX8_round_37 ?_
              exact k _ (-1) ⟨fun q => by omega, fun _ => rfl⟩ H (fun _ _ _ => rfl)
            · refine g_null 11 dX8_textAt_10 rfl ?_
              refine g_goto 20 dX8_textAt_11 rfl ?_
              refine g_aret rfl (Or.inl rfl) dX8_textAt_20 ?_
              refine rN ?_
              refine g_astoreN (L1 := [some (.ref 0), some (.int (iZ a)), some (.int (iZ b)), some (.int (iZ i)), some (.ref (71 + 4 * a.toNat)), some (.null), some (.null)]) 21 dX8_round_19 (by decide) rfl rfl rfl ?_
              refine g_aload 23 dX8_round_21 rfl rfl ?_
              refine g_ifnull 26 dX8_round_23 rfl ?_
              refine g_aloadN 28 dX8_round_26 rfl rfl ?_
              refine g_ifnullN 36 dX8_round_28 rfl ?_
              refine g_iconst (v := iZ (-1)) 37 dX8_round_36 rfl rfl ?_
              refine g_iret rfl dX8_round_37 ?_
              exact k _ (-1) ⟨fun q => by omega, fun _ => rfl⟩ H (fun _ _ _ => rfl)
        · refine g_iload_n 5 dX8_toolAt_4 rfl rfl ?_
          refine g_aload_n 6 dX8_toolAt_5 rfl rfl ?_
          refine g_get 9 dX8_toolAt_6 faX8_26_X8 F0 rfl rfl ?_
          refine g_icZ_ge 18 12 dX8_toolAt_9 rfl rfl rb (by omega) (fun c29 => ?_) (fun c29 => ?_)
          · refine g_null 19 dX8_toolAt_18 rfl ?_
            refine g_goto 28 dX8_toolAt_19 rfl ?_
            refine g_aret rfl (Or.inl rfl) dX8_toolAt_28 ?_
            refine rN ?_
            refine g_astoreN (L1 := [some (.ref 0), some (.int (iZ a)), some (.int (iZ b)), some (.int (iZ i)), some (.ref (71 + 4 * a.toNat)), some (.null), none]) 14 dX8_round_12 (by decide) rfl rfl rfl ?_
            refine g_aload_n 15 dX8_round_14 rfl rfl ?_
            refine g_iload_n 16 dX8_round_15 rfl rfl ?_
            refine g_callV (z := mX8_textAt) (As := [.int (iZ i)]) 19 dX8_round_16 mwX8_textAt ⟨by decide, by decide⟩ rfl wlX8_74 wiX8_textAt wsX8_textAt F0 rfl rfl rfl (nle rfl) (nle rfl) rfl ?_
            refine Go.to [some (.ref 0), some (.int (iZ i))] [] rfl rfl ?_
            refine g_iload_n 1 dX8_textAt_0 rfl rfl ?_
            refine g_ifZ_lt 10 4 dX8_textAt_1 rfl rfl ri (fun c30 => ?_) (fun c30 => ?_)
            · refine g_null 11 dX8_textAt_10 rfl ?_
              refine g_goto 20 dX8_textAt_11 rfl ?_
              refine g_aret rfl (Or.inl rfl) dX8_textAt_20 ?_
              refine rN ?_
              refine g_astoreN (L1 := [some (.ref 0), some (.int (iZ a)), some (.int (iZ b)), some (.int (iZ i)), some (.ref (71 + 4 * a.toNat)), some (.null), some (.null)]) 21 dX8_round_19 (by decide) rfl rfl rfl ?_
              refine g_aload 23 dX8_round_21 rfl rfl ?_
              refine g_ifnull 26 dX8_round_23 rfl ?_
              refine g_aloadN 28 dX8_round_26 rfl rfl ?_
              refine g_ifnullN 36 dX8_round_28 rfl ?_
              refine g_iconst (v := iZ (-1)) 37 dX8_round_36 rfl rfl ?_
              refine g_iret rfl dX8_round_37 ?_
              exact k _ (-1) ⟨fun q => by omega, fun _ => rfl⟩ H (fun _ _ _ => rfl)
            · refine g_iload_n 5 dX8_textAt_4 rfl rfl ?_
              refine g_bipush (v := iZ (8)) 7 dX8_textAt_5 (by decide +kernel) rfl ?_
              refine g_icZ_lt 14 10 dX8_textAt_7 rfl rfl ri (by decide) (fun c31 => ?_) (fun c31 => ?_)
              · refine g_aload_n 15 dX8_textAt_14 rfl rfl ?_
                refine g_get 18 dX8_textAt_15 faX8_16_X8 F0 rfl rfl ?_
                refine g_iload_n 19 dX8_textAt_18 rfl rfl ?_
                refine g_aaldZ 20 dX8_textAt_19 F3 (by decide) (by omega) (by omega) (by decide) (txs_at (by omega) (by omega)) rfl ?_
                refine g_aret rfl (Or.inr ⟨_, rfl⟩) dX8_textAt_20 ?_
                refine rR ?_
                refine g_astore (L1 := [some (.ref 0), some (.int (iZ a)), some (.int (iZ b)), some (.int (iZ i)), some (.ref (71 + 4 * a.toNat)), some (.null), some (.ref (34 + 2 * i.toNat))]) 21 dX8_round_19 (by decide) rfl rfl rfl ?_
                refine g_aload 23 dX8_round_21 rfl rfl ?_
                refine g_ifnull 26 dX8_round_23 rfl ?_
                refine g_aloadN 28 dX8_round_26 rfl rfl ?_
                refine g_ifnullN 36 dX8_round_28 rfl ?_
                refine g_iconst (v := iZ (-1)) 37 dX8_round_36 rfl rfl ?_
                refine g_iret rfl dX8_round_37 ?_
                exact k _ (-1) ⟨fun q => by omega, fun _ => rfl⟩ H (fun _ _ _ => rfl)
              · refine g_null 11 dX8_textAt_10 rfl ?_
                refine g_goto 20 dX8_textAt_11 rfl ?_
                refine g_aret rfl (Or.inl rfl) dX8_textAt_20 ?_
                refine rN ?_
                refine g_astoreN (L1 := [some (.ref 0), some (.int (iZ a)), some (.int (iZ b)), some (.int (iZ i)), some (.ref (71 + 4 * a.toNat)), some (.null), some (.null)]) 21 dX8_round_19 (by decide) rfl rfl rfl ?_
                refine g_aload 23 dX8_round_21 rfl rfl ?_
                refine g_ifnull 26 dX8_round_23 rfl ?_
                refine g_aloadN 28 dX8_round_26 rfl rfl ?_
                refine g_ifnullN 36 dX8_round_28 rfl ?_
                refine g_iconst (v := iZ (-1)) 37 dX8_round_36 rfl rfl ?_
                refine g_iret rfl dX8_round_37 ?_
                exact k _ (-1) ⟨fun q => by omega, fun _ => rfl⟩ H (fun _ _ _ => rfl)
          · refine g_iload_n 13 dX8_toolAt_12 rfl rfl ?_
            refine g_bipush (v := iZ (12)) 15 dX8_toolAt_13 (by decide +kernel) rfl ?_
            refine g_icZ_lt 22 18 dX8_toolAt_15 rfl rfl rb (by decide) (fun c32 => ?_) (fun c32 => ?_)
            · refine g_aload_n 23 dX8_toolAt_22 rfl rfl ?_
              refine g_get 26 dX8_toolAt_23 faX8_22_X8 F0 rfl rfl ?_
              refine g_iload_n 27 dX8_toolAt_26 rfl rfl ?_
              refine g_aaldZ 28 dX8_toolAt_27 F4 (by decide) (by omega) (by omega) (by decide) (tls_at (by omega) (by omega)) rfl ?_
              refine g_aret rfl (Or.inr ⟨_, rfl⟩) dX8_toolAt_28 ?_
              refine rR ?_
              refine g_astore (L1 := [some (.ref 0), some (.int (iZ a)), some (.int (iZ b)), some (.int (iZ i)), some (.ref (71 + 4 * a.toNat)), some (.ref (71 + 4 * b.toNat)), none]) 14 dX8_round_12 (by decide) rfl rfl rfl ?_
              refine g_aload_n 15 dX8_round_14 rfl rfl ?_
              refine g_iload_n 16 dX8_round_15 rfl rfl ?_
              refine g_callV (z := mX8_textAt) (As := [.int (iZ i)]) 19 dX8_round_16 mwX8_textAt ⟨by decide, by decide⟩ rfl wlX8_74 wiX8_textAt wsX8_textAt F0 rfl rfl rfl (nle rfl) (nle rfl) rfl ?_
              refine Go.to [some (.ref 0), some (.int (iZ i))] [] rfl rfl ?_
              refine g_iload_n 1 dX8_textAt_0 rfl rfl ?_
              refine g_ifZ_lt 10 4 dX8_textAt_1 rfl rfl ri (fun c33 => ?_) (fun c33 => ?_)
              · refine g_null 11 dX8_textAt_10 rfl ?_
                refine g_goto 20 dX8_textAt_11 rfl ?_
                refine g_aret rfl (Or.inl rfl) dX8_textAt_20 ?_
                refine rN ?_
                refine g_astoreN (L1 := [some (.ref 0), some (.int (iZ a)), some (.int (iZ b)), some (.int (iZ i)), some (.ref (71 + 4 * a.toNat)), some (.ref (71 + 4 * b.toNat)), some (.null)]) 21 dX8_round_19 (by decide) rfl rfl rfl ?_
                refine g_aload 23 dX8_round_21 rfl rfl ?_
                refine g_ifnull 26 dX8_round_23 rfl ?_
                refine g_aload 28 dX8_round_26 rfl rfl ?_
                refine g_ifnull 31 dX8_round_28 rfl ?_
                refine g_aloadN 33 dX8_round_31 rfl rfl ?_
                refine g_ifnonnullN 36 dX8_round_33 rfl ?_
                refine g_iconst (v := iZ (-1)) 37 dX8_round_36 rfl rfl ?_
                refine g_iret rfl dX8_round_37 ?_
                exact k _ (-1) ⟨fun q => by omega, fun _ => rfl⟩ H (fun _ _ _ => rfl)
              · refine g_iload_n 5 dX8_textAt_4 rfl rfl ?_
                refine g_bipush (v := iZ (8)) 7 dX8_textAt_5 (by decide +kernel) rfl ?_
                refine g_icZ_lt 14 10 dX8_textAt_7 rfl rfl ri (by decide) (fun c34 => ?_) (fun c34 => ?_)
                · refine g_aload_n 15 dX8_textAt_14 rfl rfl ?_
                  refine g_get 18 dX8_textAt_15 faX8_16_X8 F0 rfl rfl ?_
                  refine g_iload_n 19 dX8_textAt_18 rfl rfl ?_
                  refine g_aaldZ 20 dX8_textAt_19 F3 (by decide) (by omega) (by omega) (by decide) (txs_at (by omega) (by omega)) rfl ?_
                  refine g_aret rfl (Or.inr ⟨_, rfl⟩) dX8_textAt_20 ?_
                  refine rR ?_
                  refine g_astore (L1 := [some (.ref 0), some (.int (iZ a)), some (.int (iZ b)), some (.int (iZ i)), some (.ref (71 + 4 * a.toNat)), some (.ref (71 + 4 * b.toNat)), some (.ref (34 + 2 * i.toNat))]) 21 dX8_round_19 (by decide) rfl rfl rfl ?_
                  refine g_aload 23 dX8_round_21 rfl rfl ?_
                  refine g_ifnull 26 dX8_round_23 rfl ?_
                  refine g_aload 28 dX8_round_26 rfl rfl ?_
                  refine g_ifnull 31 dX8_round_28 rfl ?_
                  refine g_aload 33 dX8_round_31 rfl rfl ?_
                  refine g_ifnonnull 38 dX8_round_33 rfl ?_
                  refine g_aload_n 39 dX8_round_38 rfl rfl ?_
                  refine g_aload 41 dX8_round_39 rfl rfl ?_
                  refine g_aload 43 dX8_round_41 rfl rfl ?_
                  refine g_aload 45 dX8_round_43 rfl rfl ?_
                  refine g_callV (z := mX8_goneRound) (As := [.ref (71 + 4 * a.toNat), .ref (71 + 4 * b.toNat), .ref (34 + 2 * i.toNat)]) 48 dX8_round_45 mwX8_goneRound ⟨by decide, by decide⟩ rfl wlX8_166 wiX8_goneRound wsX8_goneRound F0 rfl rfl rfl (nle rfl) (nle rfl) rfl ?_
                  refine z_round HC HS  (by omega) (by omega) (by omega) (fun h36 z35 rz35 H37 s38 => ?_)
                  refine rI ?_
                  refine g_iret rfl dX8_round_48 ?_
                  have zz := H.scr s38 H37
                  exact k _ (z35) ⟨fun _ => rz35.1, fun q => by omega⟩ zz.1 zz.2
                · refine g_null 11 dX8_textAt_10 rfl ?_
                  refine g_goto 20 dX8_textAt_11 rfl ?_
                  refine g_aret rfl (Or.inl rfl) dX8_textAt_20 ?_
                  refine rN ?_
                  refine g_astoreN (L1 := [some (.ref 0), some (.int (iZ a)), some (.int (iZ b)), some (.int (iZ i)), some (.ref (71 + 4 * a.toNat)), some (.ref (71 + 4 * b.toNat)), some (.null)]) 21 dX8_round_19 (by decide) rfl rfl rfl ?_
                  refine g_aload 23 dX8_round_21 rfl rfl ?_
                  refine g_ifnull 26 dX8_round_23 rfl ?_
                  refine g_aload 28 dX8_round_26 rfl rfl ?_
                  refine g_ifnull 31 dX8_round_28 rfl ?_
                  refine g_aloadN 33 dX8_round_31 rfl rfl ?_
                  refine g_ifnonnullN 36 dX8_round_33 rfl ?_
                  refine g_iconst (v := iZ (-1)) 37 dX8_round_36 rfl rfl ?_
                  refine g_iret rfl dX8_round_37 ?_
                  exact k _ (-1) ⟨fun q => by omega, fun _ => rfl⟩ H (fun _ _ _ => rfl)
            · refine g_null 19 dX8_toolAt_18 rfl ?_
              refine g_goto 28 dX8_toolAt_19 rfl ?_
              refine g_aret rfl (Or.inl rfl) dX8_toolAt_28 ?_
              refine rN ?_
              refine g_astoreN (L1 := [some (.ref 0), some (.int (iZ a)), some (.int (iZ b)), some (.int (iZ i)), some (.ref (71 + 4 * a.toNat)), some (.null), none]) 14 dX8_round_12 (by decide) rfl rfl rfl ?_
              refine g_aload_n 15 dX8_round_14 rfl rfl ?_
              refine g_iload_n 16 dX8_round_15 rfl rfl ?_
              refine g_callV (z := mX8_textAt) (As := [.int (iZ i)]) 19 dX8_round_16 mwX8_textAt ⟨by decide, by decide⟩ rfl wlX8_74 wiX8_textAt wsX8_textAt F0 rfl rfl rfl (nle rfl) (nle rfl) rfl ?_
              refine Go.to [some (.ref 0), some (.int (iZ i))] [] rfl rfl ?_
              refine g_iload_n 1 dX8_textAt_0 rfl rfl ?_
              refine g_ifZ_lt 10 4 dX8_textAt_1 rfl rfl ri (fun c39 => ?_) (fun c39 => ?_)
              · refine g_null 11 dX8_textAt_10 rfl ?_
                refine g_goto 20 dX8_textAt_11 rfl ?_
                refine g_aret rfl (Or.inl rfl) dX8_textAt_20 ?_
                refine rN ?_
                refine g_astoreN (L1 := [some (.ref 0), some (.int (iZ a)), some (.int (iZ b)), some (.int (iZ i)), some (.ref (71 + 4 * a.toNat)), some (.null), some (.null)]) 21 dX8_round_19 (by decide) rfl rfl rfl ?_
                refine g_aload 23 dX8_round_21 rfl rfl ?_
                refine g_ifnull 26 dX8_round_23 rfl ?_
                refine g_aloadN 28 dX8_round_26 rfl rfl ?_
                refine g_ifnullN 36 dX8_round_28 rfl ?_
                refine g_iconst (v := iZ (-1)) 37 dX8_round_36 rfl rfl ?_
                refine g_iret rfl dX8_round_37 ?_
                exact k _ (-1) ⟨fun q => by omega, fun _ => rfl⟩ H (fun _ _ _ => rfl)
              · refine g_iload_n 5 dX8_textAt_4 rfl rfl ?_
                refine g_bipush (v := iZ (8)) 7 dX8_textAt_5 (by decide +kernel) rfl ?_
                refine g_icZ_lt 14 10 dX8_textAt_7 rfl rfl ri (by decide) (fun c40 => ?_) (fun c40 => ?_)
                · refine g_aload_n 15 dX8_textAt_14 rfl rfl ?_
                  refine g_get 18 dX8_textAt_15 faX8_16_X8 F0 rfl rfl ?_
                  refine g_iload_n 19 dX8_textAt_18 rfl rfl ?_
                  refine g_aaldZ 20 dX8_textAt_19 F3 (by decide) (by omega) (by omega) (by decide) (txs_at (by omega) (by omega)) rfl ?_
                  refine g_aret rfl (Or.inr ⟨_, rfl⟩) dX8_textAt_20 ?_
                  refine rR ?_
                  refine g_astore (L1 := [some (.ref 0), some (.int (iZ a)), some (.int (iZ b)), some (.int (iZ i)), some (.ref (71 + 4 * a.toNat)), some (.null), some (.ref (34 + 2 * i.toNat))]) 21 dX8_round_19 (by decide) rfl rfl rfl ?_
                  refine g_aload 23 dX8_round_21 rfl rfl ?_
                  refine g_ifnull 26 dX8_round_23 rfl ?_
                  refine g_aloadN 28 dX8_round_26 rfl rfl ?_
                  refine g_ifnullN 36 dX8_round_28 rfl ?_
                  refine g_iconst (v := iZ (-1)) 37 dX8_round_36 rfl rfl ?_
                  refine g_iret rfl dX8_round_37 ?_
                  exact k _ (-1) ⟨fun q => by omega, fun _ => rfl⟩ H (fun _ _ _ => rfl)
                · refine g_null 11 dX8_textAt_10 rfl ?_
                  refine g_goto 20 dX8_textAt_11 rfl ?_
                  refine g_aret rfl (Or.inl rfl) dX8_textAt_20 ?_
                  refine rN ?_
                  refine g_astoreN (L1 := [some (.ref 0), some (.int (iZ a)), some (.int (iZ b)), some (.int (iZ i)), some (.ref (71 + 4 * a.toNat)), some (.null), some (.null)]) 21 dX8_round_19 (by decide) rfl rfl rfl ?_
                  refine g_aload 23 dX8_round_21 rfl rfl ?_
                  refine g_ifnull 26 dX8_round_23 rfl ?_
                  refine g_aloadN 28 dX8_round_26 rfl rfl ?_
                  refine g_ifnullN 36 dX8_round_28 rfl ?_
                  refine g_iconst (v := iZ (-1)) 37 dX8_round_36 rfl rfl ?_
                  refine g_iret rfl dX8_round_37 ?_
                  exact k _ (-1) ⟨fun q => by omega, fun _ => rfl⟩ H (fun _ _ _ => rfl)
      · refine g_null 19 dX8_toolAt_18 rfl ?_
        refine g_goto 28 dX8_toolAt_19 rfl ?_
        refine g_aret rfl (Or.inl rfl) dX8_toolAt_28 ?_
        refine rN ?_
        refine g_astoreN (L1 := [some (.ref 0), some (.int (iZ a)), some (.int (iZ b)), some (.int (iZ i)), some (.null), none, none]) 7 dX8_round_5 (by decide) rfl rfl rfl ?_
        refine g_aload_n 8 dX8_round_7 rfl rfl ?_
        refine g_iload_n 9 dX8_round_8 rfl rfl ?_
        refine g_callV (z := mX8_toolAt) (As := [.int (iZ b)]) 12 dX8_round_9 mwX8_toolAt ⟨by decide, by decide⟩ rfl wlX8_90 wiX8_toolAt wsX8_toolAt F0 rfl rfl rfl (nle rfl) (nle rfl) rfl ?_
        refine Go.to [some (.ref 0), some (.int (iZ b))] [] rfl rfl ?_
        refine g_iload_n 1 dX8_toolAt_0 rfl rfl ?_
        refine g_ifZ_lt 18 4 dX8_toolAt_1 rfl rfl rb (fun c41 => ?_) (fun c41 => ?_)
        · refine g_null 19 dX8_toolAt_18 rfl ?_
          refine g_goto 28 dX8_toolAt_19 rfl ?_
          refine g_aret rfl (Or.inl rfl) dX8_toolAt_28 ?_
          refine rN ?_
          refine g_astoreN (L1 := [some (.ref 0), some (.int (iZ a)), some (.int (iZ b)), some (.int (iZ i)), some (.null), some (.null), none]) 14 dX8_round_12 (by decide) rfl rfl rfl ?_
          refine g_aload_n 15 dX8_round_14 rfl rfl ?_
          refine g_iload_n 16 dX8_round_15 rfl rfl ?_
          refine g_callV (z := mX8_textAt) (As := [.int (iZ i)]) 19 dX8_round_16 mwX8_textAt ⟨by decide, by decide⟩ rfl wlX8_74 wiX8_textAt wsX8_textAt F0 rfl rfl rfl (nle rfl) (nle rfl) rfl ?_
          refine Go.to [some (.ref 0), some (.int (iZ i))] [] rfl rfl ?_
          refine g_iload_n 1 dX8_textAt_0 rfl rfl ?_
          refine g_ifZ_lt 10 4 dX8_textAt_1 rfl rfl ri (fun c42 => ?_) (fun c42 => ?_)
          · refine g_null 11 dX8_textAt_10 rfl ?_
            refine g_goto 20 dX8_textAt_11 rfl ?_
            refine g_aret rfl (Or.inl rfl) dX8_textAt_20 ?_
            refine rN ?_
            refine g_astoreN (L1 := [some (.ref 0), some (.int (iZ a)), some (.int (iZ b)), some (.int (iZ i)), some (.null), some (.null), some (.null)]) 21 dX8_round_19 (by decide) rfl rfl rfl ?_
            refine g_aloadN 23 dX8_round_21 rfl rfl ?_
            refine g_ifnullN 36 dX8_round_23 rfl ?_
            refine g_iconst (v := iZ (-1)) 37 dX8_round_36 rfl rfl ?_
            refine g_iret rfl dX8_round_37 ?_
            exact k _ (-1) ⟨fun q => by omega, fun _ => rfl⟩ H (fun _ _ _ => rfl)
          · refine g_iload_n 5 dX8_textAt_4 rfl rfl ?_
            refine g_bipush (v := iZ (8)) 7 dX8_textAt_5 (by decide +kernel) rfl ?_
            refine g_icZ_lt 14 10 dX8_textAt_7 rfl rfl ri (by decide) (fun c43 => ?_) (fun c43 => ?_)
            · refine g_aload_n 15 dX8_textAt_14 rfl rfl ?_
              refine g_get 18 dX8_textAt_15 faX8_16_X8 F0 rfl rfl ?_
              refine g_iload_n 19 dX8_textAt_18 rfl rfl ?_
              refine g_aaldZ 20 dX8_textAt_19 F3 (by decide) (by omega) (by omega) (by decide) (txs_at (by omega) (by omega)) rfl ?_
              refine g_aret rfl (Or.inr ⟨_, rfl⟩) dX8_textAt_20 ?_
              refine rR ?_
              refine g_astore (L1 := [some (.ref 0), some (.int (iZ a)), some (.int (iZ b)), some (.int (iZ i)), some (.null), some (.null), some (.ref (34 + 2 * i.toNat))]) 21 dX8_round_19 (by decide) rfl rfl rfl ?_
              refine g_aloadN 23 dX8_round_21 rfl rfl ?_
              refine g_ifnullN 36 dX8_round_23 rfl ?_
              refine g_iconst (v := iZ (-1)) 37 dX8_round_36 rfl rfl ?_
              refine g_iret rfl dX8_round_37 ?_
              exact k _ (-1) ⟨fun q => by omega, fun _ => rfl⟩ H (fun _ _ _ => rfl)
            · refine g_null 11 dX8_textAt_10 rfl ?_
              refine g_goto 20 dX8_textAt_11 rfl ?_
              refine g_aret rfl (Or.inl rfl) dX8_textAt_20 ?_
              refine rN ?_
              refine g_astoreN (L1 := [some (.ref 0), some (.int (iZ a)), some (.int (iZ b)), some (.int (iZ i)), some (.null), some (.null), some (.null)]) 21 dX8_round_19 (by decide) rfl rfl rfl ?_
              refine g_aloadN 23 dX8_round_21 rfl rfl ?_
              refine g_ifnullN 36 dX8_round_23 rfl ?_
              refine g_iconst (v := iZ (-1)) 37 dX8_round_36 rfl rfl ?_
              refine g_iret rfl dX8_round_37 ?_
              exact k _ (-1) ⟨fun q => by omega, fun _ => rfl⟩ H (fun _ _ _ => rfl)
        · refine g_iload_n 5 dX8_toolAt_4 rfl rfl ?_
          refine g_aload_n 6 dX8_toolAt_5 rfl rfl ?_
          refine g_get 9 dX8_toolAt_6 faX8_26_X8 F0 rfl rfl ?_
          refine g_icZ_ge 18 12 dX8_toolAt_9 rfl rfl rb (by omega) (fun c44 => ?_) (fun c44 => ?_)
          · refine g_null 19 dX8_toolAt_18 rfl ?_
            refine g_goto 28 dX8_toolAt_19 rfl ?_
            refine g_aret rfl (Or.inl rfl) dX8_toolAt_28 ?_
            refine rN ?_
            refine g_astoreN (L1 := [some (.ref 0), some (.int (iZ a)), some (.int (iZ b)), some (.int (iZ i)), some (.null), some (.null), none]) 14 dX8_round_12 (by decide) rfl rfl rfl ?_
            refine g_aload_n 15 dX8_round_14 rfl rfl ?_
            refine g_iload_n 16 dX8_round_15 rfl rfl ?_
            refine g_callV (z := mX8_textAt) (As := [.int (iZ i)]) 19 dX8_round_16 mwX8_textAt ⟨by decide, by decide⟩ rfl wlX8_74 wiX8_textAt wsX8_textAt F0 rfl rfl rfl (nle rfl) (nle rfl) rfl ?_
            refine Go.to [some (.ref 0), some (.int (iZ i))] [] rfl rfl ?_
            refine g_iload_n 1 dX8_textAt_0 rfl rfl ?_
            refine g_ifZ_lt 10 4 dX8_textAt_1 rfl rfl ri (fun c45 => ?_) (fun c45 => ?_)
            · refine g_null 11 dX8_textAt_10 rfl ?_
              refine g_goto 20 dX8_textAt_11 rfl ?_
              refine g_aret rfl (Or.inl rfl) dX8_textAt_20 ?_
              refine rN ?_
              refine g_astoreN (L1 := [some (.ref 0), some (.int (iZ a)), some (.int (iZ b)), some (.int (iZ i)), some (.null), some (.null), some (.null)]) 21 dX8_round_19 (by decide) rfl rfl rfl ?_
              refine g_aloadN 23 dX8_round_21 rfl rfl ?_
              refine g_ifnullN 36 dX8_round_23 rfl ?_
              refine g_iconst (v := iZ (-1)) 37 dX8_round_36 rfl rfl ?_
              refine g_iret rfl dX8_round_37 ?_
              exact k _ (-1) ⟨fun q => by omega, fun _ => rfl⟩ H (fun _ _ _ => rfl)
            · refine g_iload_n 5 dX8_textAt_4 rfl rfl ?_
              refine g_bipush (v := iZ (8)) 7 dX8_textAt_5 (by decide +kernel) rfl ?_
              refine g_icZ_lt 14 10 dX8_textAt_7 rfl rfl ri (by decide) (fun c46 => ?_) (fun c46 => ?_)
              · refine g_aload_n 15 dX8_textAt_14 rfl rfl ?_
                refine g_get 18 dX8_textAt_15 faX8_16_X8 F0 rfl rfl ?_
                refine g_iload_n 19 dX8_textAt_18 rfl rfl ?_
                refine g_aaldZ 20 dX8_textAt_19 F3 (by decide) (by omega) (by omega) (by decide) (txs_at (by omega) (by omega)) rfl ?_
                refine g_aret rfl (Or.inr ⟨_, rfl⟩) dX8_textAt_20 ?_
                refine rR ?_
                refine g_astore (L1 := [some (.ref 0), some (.int (iZ a)), some (.int (iZ b)), some (.int (iZ i)), some (.null), some (.null), some (.ref (34 + 2 * i.toNat))]) 21 dX8_round_19 (by decide) rfl rfl rfl ?_
                refine g_aloadN 23 dX8_round_21 rfl rfl ?_
                refine g_ifnullN 36 dX8_round_23 rfl ?_
                refine g_iconst (v := iZ (-1)) 37 dX8_round_36 rfl rfl ?_
                refine g_iret rfl dX8_round_37 ?_
                exact k _ (-1) ⟨fun q => by omega, fun _ => rfl⟩ H (fun _ _ _ => rfl)
              · refine g_null 11 dX8_textAt_10 rfl ?_
                refine g_goto 20 dX8_textAt_11 rfl ?_
                refine g_aret rfl (Or.inl rfl) dX8_textAt_20 ?_
                refine rN ?_
                refine g_astoreN (L1 := [some (.ref 0), some (.int (iZ a)), some (.int (iZ b)), some (.int (iZ i)), some (.null), some (.null), some (.null)]) 21 dX8_round_19 (by decide) rfl rfl rfl ?_
                refine g_aloadN 23 dX8_round_21 rfl rfl ?_
                refine g_ifnullN 36 dX8_round_23 rfl ?_
                refine g_iconst (v := iZ (-1)) 37 dX8_round_36 rfl rfl ?_
                refine g_iret rfl dX8_round_37 ?_
                exact k _ (-1) ⟨fun q => by omega, fun _ => rfl⟩ H (fun _ _ _ => rfl)
          · refine g_iload_n 13 dX8_toolAt_12 rfl rfl ?_
            refine g_bipush (v := iZ (12)) 15 dX8_toolAt_13 (by decide +kernel) rfl ?_
            refine g_icZ_lt 22 18 dX8_toolAt_15 rfl rfl rb (by decide) (fun c47 => ?_) (fun c47 => ?_)
            · refine g_aload_n 23 dX8_toolAt_22 rfl rfl ?_
              refine g_get 26 dX8_toolAt_23 faX8_22_X8 F0 rfl rfl ?_
              refine g_iload_n 27 dX8_toolAt_26 rfl rfl ?_
              refine g_aaldZ 28 dX8_toolAt_27 F4 (by decide) (by omega) (by omega) (by decide) (tls_at (by omega) (by omega)) rfl ?_
              refine g_aret rfl (Or.inr ⟨_, rfl⟩) dX8_toolAt_28 ?_
              refine rR ?_
              refine g_astore (L1 := [some (.ref 0), some (.int (iZ a)), some (.int (iZ b)), some (.int (iZ i)), some (.null), some (.ref (71 + 4 * b.toNat)), none]) 14 dX8_round_12 (by decide) rfl rfl rfl ?_
              refine g_aload_n 15 dX8_round_14 rfl rfl ?_
              refine g_iload_n 16 dX8_round_15 rfl rfl ?_
              refine g_callV (z := mX8_textAt) (As := [.int (iZ i)]) 19 dX8_round_16 mwX8_textAt ⟨by decide, by decide⟩ rfl wlX8_74 wiX8_textAt wsX8_textAt F0 rfl rfl rfl (nle rfl) (nle rfl) rfl ?_
              refine Go.to [some (.ref 0), some (.int (iZ i))] [] rfl rfl ?_
              refine g_iload_n 1 dX8_textAt_0 rfl rfl ?_
              refine g_ifZ_lt 10 4 dX8_textAt_1 rfl rfl ri (fun c48 => ?_) (fun c48 => ?_)
              · refine g_null 11 dX8_textAt_10 rfl ?_
                refine g_goto 20 dX8_textAt_11 rfl ?_
                refine g_aret rfl (Or.inl rfl) dX8_textAt_20 ?_
                refine rN ?_
                refine g_astoreN (L1 := [some (.ref 0), some (.int (iZ a)), some (.int (iZ b)), some (.int (iZ i)), some (.null), some (.ref (71 + 4 * b.toNat)), some (.null)]) 21 dX8_round_19 (by decide) rfl rfl rfl ?_
                refine g_aloadN 23 dX8_round_21 rfl rfl ?_
                refine g_ifnullN 36 dX8_round_23 rfl ?_
                refine g_iconst (v := iZ (-1)) 37 dX8_round_36 rfl rfl ?_
                refine g_iret rfl dX8_round_37 ?_
                exact k _ (-1) ⟨fun q => by omega, fun _ => rfl⟩ H (fun _ _ _ => rfl)
              · refine g_iload_n 5 dX8_textAt_4 rfl rfl ?_
                refine g_bipush (v := iZ (8)) 7 dX8_textAt_5 (by decide +kernel) rfl ?_
                refine g_icZ_lt 14 10 dX8_textAt_7 rfl rfl ri (by decide) (fun c49 => ?_) (fun c49 => ?_)
                · refine g_aload_n 15 dX8_textAt_14 rfl rfl ?_
                  refine g_get 18 dX8_textAt_15 faX8_16_X8 F0 rfl rfl ?_
                  refine g_iload_n 19 dX8_textAt_18 rfl rfl ?_
                  refine g_aaldZ 20 dX8_textAt_19 F3 (by decide) (by omega) (by omega) (by decide) (txs_at (by omega) (by omega)) rfl ?_
                  refine g_aret rfl (Or.inr ⟨_, rfl⟩) dX8_textAt_20 ?_
                  refine rR ?_
                  refine g_astore (L1 := [some (.ref 0), some (.int (iZ a)), some (.int (iZ b)), some (.int (iZ i)), some (.null), some (.ref (71 + 4 * b.toNat)), some (.ref (34 + 2 * i.toNat))]) 21 dX8_round_19 (by decide) rfl rfl rfl ?_
                  refine g_aloadN 23 dX8_round_21 rfl rfl ?_
                  refine g_ifnullN 36 dX8_round_23 rfl ?_
                  refine g_iconst (v := iZ (-1)) 37 dX8_round_36 rfl rfl ?_
                  refine g_iret rfl dX8_round_37 ?_
                  exact k _ (-1) ⟨fun q => by omega, fun _ => rfl⟩ H (fun _ _ _ => rfl)
                · refine g_null 11 dX8_textAt_10 rfl ?_
                  refine g_goto 20 dX8_textAt_11 rfl ?_
                  refine g_aret rfl (Or.inl rfl) dX8_textAt_20 ?_
                  refine rN ?_
                  refine g_astoreN (L1 := [some (.ref 0), some (.int (iZ a)), some (.int (iZ b)), some (.int (iZ i)), some (.null), some (.ref (71 + 4 * b.toNat)), some (.null)]) 21 dX8_round_19 (by decide) rfl rfl rfl ?_
                  refine g_aloadN 23 dX8_round_21 rfl rfl ?_
                  refine g_ifnullN 36 dX8_round_23 rfl ?_
                  refine g_iconst (v := iZ (-1)) 37 dX8_round_36 rfl rfl ?_
                  refine g_iret rfl dX8_round_37 ?_
                  exact k _ (-1) ⟨fun q => by omega, fun _ => rfl⟩ H (fun _ _ _ => rfl)
            · refine g_null 19 dX8_toolAt_18 rfl ?_
              refine g_goto 28 dX8_toolAt_19 rfl ?_
              refine g_aret rfl (Or.inl rfl) dX8_toolAt_28 ?_
              refine rN ?_
              refine g_astoreN (L1 := [some (.ref 0), some (.int (iZ a)), some (.int (iZ b)), some (.int (iZ i)), some (.null), some (.null), none]) 14 dX8_round_12 (by decide) rfl rfl rfl ?_
              refine g_aload_n 15 dX8_round_14 rfl rfl ?_
              refine g_iload_n 16 dX8_round_15 rfl rfl ?_
              refine g_callV (z := mX8_textAt) (As := [.int (iZ i)]) 19 dX8_round_16 mwX8_textAt ⟨by decide, by decide⟩ rfl wlX8_74 wiX8_textAt wsX8_textAt F0 rfl rfl rfl (nle rfl) (nle rfl) rfl ?_
              refine Go.to [some (.ref 0), some (.int (iZ i))] [] rfl rfl ?_
              refine g_iload_n 1 dX8_textAt_0 rfl rfl ?_
              refine g_ifZ_lt 10 4 dX8_textAt_1 rfl rfl ri (fun c50 => ?_) (fun c50 => ?_)
              · refine g_null 11 dX8_textAt_10 rfl ?_
                refine g_goto 20 dX8_textAt_11 rfl ?_
                refine g_aret rfl (Or.inl rfl) dX8_textAt_20 ?_
                refine rN ?_
                refine g_astoreN (L1 := [some (.ref 0), some (.int (iZ a)), some (.int (iZ b)), some (.int (iZ i)), some (.null), some (.null), some (.null)]) 21 dX8_round_19 (by decide) rfl rfl rfl ?_
                refine g_aloadN 23 dX8_round_21 rfl rfl ?_
                refine g_ifnullN 36 dX8_round_23 rfl ?_
                refine g_iconst (v := iZ (-1)) 37 dX8_round_36 rfl rfl ?_
                refine g_iret rfl dX8_round_37 ?_
                exact k _ (-1) ⟨fun q => by omega, fun _ => rfl⟩ H (fun _ _ _ => rfl)
              · refine g_iload_n 5 dX8_textAt_4 rfl rfl ?_
                refine g_bipush (v := iZ (8)) 7 dX8_textAt_5 (by decide +kernel) rfl ?_
                refine g_icZ_lt 14 10 dX8_textAt_7 rfl rfl ri (by decide) (fun c51 => ?_) (fun c51 => ?_)
                · refine g_aload_n 15 dX8_textAt_14 rfl rfl ?_
                  refine g_get 18 dX8_textAt_15 faX8_16_X8 F0 rfl rfl ?_
                  refine g_iload_n 19 dX8_textAt_18 rfl rfl ?_
                  refine g_aaldZ 20 dX8_textAt_19 F3 (by decide) (by omega) (by omega) (by decide) (txs_at (by omega) (by omega)) rfl ?_
                  refine g_aret rfl (Or.inr ⟨_, rfl⟩) dX8_textAt_20 ?_
                  refine rR ?_
                  refine g_astore (L1 := [some (.ref 0), some (.int (iZ a)), some (.int (iZ b)), some (.int (iZ i)), some (.null), some (.null), some (.ref (34 + 2 * i.toNat))]) 21 dX8_round_19 (by decide) rfl rfl rfl ?_
                  refine g_aloadN 23 dX8_round_21 rfl rfl ?_
                  refine g_ifnullN 36 dX8_round_23 rfl ?_
                  refine g_iconst (v := iZ (-1)) 37 dX8_round_36 rfl rfl ?_
                  refine g_iret rfl dX8_round_37 ?_
                  exact k _ (-1) ⟨fun q => by omega, fun _ => rfl⟩ H (fun _ _ _ => rfl)
                · refine g_null 11 dX8_textAt_10 rfl ?_
                  refine g_goto 20 dX8_textAt_11 rfl ?_
                  refine g_aret rfl (Or.inl rfl) dX8_textAt_20 ?_
                  refine rN ?_
                  refine g_astoreN (L1 := [some (.ref 0), some (.int (iZ a)), some (.int (iZ b)), some (.int (iZ i)), some (.null), some (.null), some (.null)]) 21 dX8_round_19 (by decide) rfl rfl rfl ?_
                  refine g_aloadN 23 dX8_round_21 rfl rfl ?_
                  refine g_ifnullN 36 dX8_round_23 rfl ?_
                  refine g_iconst (v := iZ (-1)) 37 dX8_round_36 rfl rfl ?_
                  refine g_iret rfl dX8_round_37 ?_
                  exact k _ (-1) ⟨fun q => by omega, fun _ => rfl⟩ H (fun _ _ _ => rfl)
set_option maxRecDepth 100000 in
theorem d8_hides {l : Launch} {h : MH} {Q : Option Value → MH → Prop} {tn : Int} {tf : Nat → Int} {xn : Nat → Int} {xf : Nat → Nat → Int} {en : Int} {tc : Nat} {tr : Int64} {V Bf Lf : Nat → Nat → Int} {q lm lo : Nat → Int} {a b i : Int} (H : IX2 h tn tf xn xf en tc tr V Bf Lf q lm lo) (ra : rg a) (rb : rg b) (ri : rg i) (k : ∀ (h1 : MH) (r : Int), (rdP (hdF (xn i.toNat) (fun j => xf i.toNat j.toNat) (V 0 a.toNat) (Bf a.toNat) (V 0 b.toNat) (Bf b.toNat)) tc a b i r) → IX2 h1 tn tf xn xf en tc tr V Bf Lf q lm lo → Mo h h1 → Q (some (.int (iZ r))) h1) : Go l mX8_hides 0 [some (.ref 0), some (.int (iZ a)), some (.int (iZ b)), some (.int (iZ i)), none, none, none, none] [] h Q := by
  obtain ⟨HC, HS, HLm, HY, HE, hlen, hmz⟩ := id H
  obtain ⟨F0, F3, F4, htc, HT, HL⟩ := id HC
  refine g_aload_n 1 dX8_hides_0 rfl rfl ?_
  refine g_iload_n 2 dX8_hides_1 rfl rfl ?_
  refine g_callV (z := mX8_toolAt) (As := [.int (iZ a)]) 5 dX8_hides_2 mwX8_toolAt ⟨by decide, by decide⟩ rfl wlX8_90 wiX8_toolAt wsX8_toolAt F0 rfl rfl rfl (nle rfl) (nle rfl) rfl ?_
  refine Go.to [some (.ref 0), some (.int (iZ a))] [] rfl rfl ?_
  refine g_iload_n 1 dX8_toolAt_0 rfl rfl ?_
  refine g_ifZ_lt 18 4 dX8_toolAt_1 rfl rfl ra (fun c1 => ?_) (fun c1 => ?_)
  · refine g_null 19 dX8_toolAt_18 rfl ?_
    refine g_goto 28 dX8_toolAt_19 rfl ?_
    refine g_aret rfl (Or.inl rfl) dX8_toolAt_28 ?_
    refine rN ?_
    refine g_astoreN (L1 := [some (.ref 0), some (.int (iZ a)), some (.int (iZ b)), some (.int (iZ i)), some (.null), none, none, none]) 7 dX8_hides_5 (by decide) rfl rfl rfl ?_
    refine g_aload_n 8 dX8_hides_7 rfl rfl ?_
    refine g_iload_n 9 dX8_hides_8 rfl rfl ?_
    refine g_callV (z := mX8_toolAt) (As := [.int (iZ b)]) 12 dX8_hides_9 mwX8_toolAt ⟨by decide, by decide⟩ rfl wlX8_90 wiX8_toolAt wsX8_toolAt F0 rfl rfl rfl (nle rfl) (nle rfl) rfl ?_
    refine Go.to [some (.ref 0), some (.int (iZ b))] [] rfl rfl ?_
    refine g_iload_n 1 dX8_toolAt_0 rfl rfl ?_
    refine g_ifZ_lt 18 4 dX8_toolAt_1 rfl rfl rb (fun c2 => ?_) (fun c2 => ?_)
    · refine g_null 19 dX8_toolAt_18 rfl ?_
      refine g_goto 28 dX8_toolAt_19 rfl ?_
      refine g_aret rfl (Or.inl rfl) dX8_toolAt_28 ?_
      refine rN ?_
      refine g_astoreN (L1 := [some (.ref 0), some (.int (iZ a)), some (.int (iZ b)), some (.int (iZ i)), some (.null), some (.null), none, none]) 14 dX8_hides_12 (by decide) rfl rfl rfl ?_
      refine g_aload_n 15 dX8_hides_14 rfl rfl ?_
      refine g_iload_n 16 dX8_hides_15 rfl rfl ?_
      refine g_callV (z := mX8_textAt) (As := [.int (iZ i)]) 19 dX8_hides_16 mwX8_textAt ⟨by decide, by decide⟩ rfl wlX8_74 wiX8_textAt wsX8_textAt F0 rfl rfl rfl (nle rfl) (nle rfl) rfl ?_
      refine Go.to [some (.ref 0), some (.int (iZ i))] [] rfl rfl ?_
      refine g_iload_n 1 dX8_textAt_0 rfl rfl ?_
      refine g_ifZ_lt 10 4 dX8_textAt_1 rfl rfl ri (fun c3 => ?_) (fun c3 => ?_)
      · refine g_null 11 dX8_textAt_10 rfl ?_
        refine g_goto 20 dX8_textAt_11 rfl ?_
        refine g_aret rfl (Or.inl rfl) dX8_textAt_20 ?_
        refine rN ?_
        refine g_astoreN (L1 := [some (.ref 0), some (.int (iZ a)), some (.int (iZ b)), some (.int (iZ i)), some (.null), some (.null), some (.null), none]) 21 dX8_hides_19 (by decide) rfl rfl rfl ?_
        refine g_aloadN 23 dX8_hides_21 rfl rfl ?_
        refine g_ifnullN 36 dX8_hides_23 rfl ?_
        refine g_iconst (v := iZ (-1)) 37 dX8_hides_36 rfl rfl ?_
        refine g_iret rfl dX8_hides_37 ?_
        exact k _ (-1) ⟨fun q => by omega, fun _ => rfl⟩ H (fun _ _ _ => rfl)
      · refine g_iload_n 5 dX8_textAt_4 rfl rfl ?_
        refine g_bipush (v := iZ (8)) 7 dX8_textAt_5 (by decide +kernel) rfl ?_
        refine g_icZ_lt 14 10 dX8_textAt_7 rfl rfl ri (by decide) (fun c4 => ?_) (fun c4 => ?_)
        · refine g_aload_n 15 dX8_textAt_14 rfl rfl ?_
          refine g_get 18 dX8_textAt_15 faX8_16_X8 F0 rfl rfl ?_
          refine g_iload_n 19 dX8_textAt_18 rfl rfl ?_
          refine g_aaldZ 20 dX8_textAt_19 F3 (by decide) (by omega) (by omega) (by decide) (txs_at (by omega) (by omega)) rfl ?_
          refine g_aret rfl (Or.inr ⟨_, rfl⟩) dX8_textAt_20 ?_
          refine rR ?_
          refine g_astore (L1 := [some (.ref 0), some (.int (iZ a)), some (.int (iZ b)), some (.int (iZ i)), some (.null), some (.null), some (.ref (34 + 2 * i.toNat)), none]) 21 dX8_hides_19 (by decide) rfl rfl rfl ?_
          refine g_aloadN 23 dX8_hides_21 rfl rfl ?_
          refine g_ifnullN 36 dX8_hides_23 rfl ?_
          refine g_iconst (v := iZ (-1)) 37 dX8_hides_36 rfl rfl ?_
          refine g_iret rfl dX8_hides_37 ?_
          exact k _ (-1) ⟨fun q => by omega, fun _ => rfl⟩ H (fun _ _ _ => rfl)
        · refine g_null 11 dX8_textAt_10 rfl ?_
          refine g_goto 20 dX8_textAt_11 rfl ?_
          refine g_aret rfl (Or.inl rfl) dX8_textAt_20 ?_
          refine rN ?_
          refine g_astoreN (L1 := [some (.ref 0), some (.int (iZ a)), some (.int (iZ b)), some (.int (iZ i)), some (.null), some (.null), some (.null), none]) 21 dX8_hides_19 (by decide) rfl rfl rfl ?_
          refine g_aloadN 23 dX8_hides_21 rfl rfl ?_
          refine g_ifnullN 36 dX8_hides_23 rfl ?_
          refine g_iconst (v := iZ (-1)) 37 dX8_hides_36 rfl rfl ?_
          refine g_iret rfl dX8_hides_37 ?_
          exact k _ (-1) ⟨fun q => by omega, fun _ => rfl⟩ H (fun _ _ _ => rfl)
    · refine g_iload_n 5 dX8_toolAt_4 rfl rfl ?_
      refine g_aload_n 6 dX8_toolAt_5 rfl rfl ?_
      refine g_get 9 dX8_toolAt_6 faX8_26_X8 F0 rfl rfl ?_
      refine g_icZ_ge 18 12 dX8_toolAt_9 rfl rfl rb (by omega) (fun c5 => ?_) (fun c5 => ?_)
      · refine g_null 19 dX8_toolAt_18 rfl ?_
        refine g_goto 28 dX8_toolAt_19 rfl ?_
        refine g_aret rfl (Or.inl rfl) dX8_toolAt_28 ?_
        refine rN ?_
        refine g_astoreN (L1 := [some (.ref 0), some (.int (iZ a)), some (.int (iZ b)), some (.int (iZ i)), some (.null), some (.null), none, none]) 14 dX8_hides_12 (by decide) rfl rfl rfl ?_
        refine g_aload_n 15 dX8_hides_14 rfl rfl ?_
        refine g_iload_n 16 dX8_hides_15 rfl rfl ?_
        refine g_callV (z := mX8_textAt) (As := [.int (iZ i)]) 19 dX8_hides_16 mwX8_textAt ⟨by decide, by decide⟩ rfl wlX8_74 wiX8_textAt wsX8_textAt F0 rfl rfl rfl (nle rfl) (nle rfl) rfl ?_
        refine Go.to [some (.ref 0), some (.int (iZ i))] [] rfl rfl ?_
        refine g_iload_n 1 dX8_textAt_0 rfl rfl ?_
        refine g_ifZ_lt 10 4 dX8_textAt_1 rfl rfl ri (fun c6 => ?_) (fun c6 => ?_)
        · refine g_null 11 dX8_textAt_10 rfl ?_
          refine g_goto 20 dX8_textAt_11 rfl ?_
          refine g_aret rfl (Or.inl rfl) dX8_textAt_20 ?_
          refine rN ?_
          refine g_astoreN (L1 := [some (.ref 0), some (.int (iZ a)), some (.int (iZ b)), some (.int (iZ i)), some (.null), some (.null), some (.null), none]) 21 dX8_hides_19 (by decide) rfl rfl rfl ?_
          refine g_aloadN 23 dX8_hides_21 rfl rfl ?_
          refine g_ifnullN 36 dX8_hides_23 rfl ?_
          refine g_iconst (v := iZ (-1)) 37 dX8_hides_36 rfl rfl ?_
          refine g_iret rfl dX8_hides_37 ?_
          exact k _ (-1) ⟨fun q => by omega, fun _ => rfl⟩ H (fun _ _ _ => rfl)
        · refine g_iload_n 5 dX8_textAt_4 rfl rfl ?_
          refine g_bipush (v := iZ (8)) 7 dX8_textAt_5 (by decide +kernel) rfl ?_
          refine g_icZ_lt 14 10 dX8_textAt_7 rfl rfl ri (by decide) (fun c7 => ?_) (fun c7 => ?_)
          · refine g_aload_n 15 dX8_textAt_14 rfl rfl ?_
            refine g_get 18 dX8_textAt_15 faX8_16_X8 F0 rfl rfl ?_
            refine g_iload_n 19 dX8_textAt_18 rfl rfl ?_
            refine g_aaldZ 20 dX8_textAt_19 F3 (by decide) (by omega) (by omega) (by decide) (txs_at (by omega) (by omega)) rfl ?_
            refine g_aret rfl (Or.inr ⟨_, rfl⟩) dX8_textAt_20 ?_
            refine rR ?_
            refine g_astore (L1 := [some (.ref 0), some (.int (iZ a)), some (.int (iZ b)), some (.int (iZ i)), some (.null), some (.null), some (.ref (34 + 2 * i.toNat)), none]) 21 dX8_hides_19 (by decide) rfl rfl rfl ?_
            refine g_aloadN 23 dX8_hides_21 rfl rfl ?_
            refine g_ifnullN 36 dX8_hides_23 rfl ?_
            refine g_iconst (v := iZ (-1)) 37 dX8_hides_36 rfl rfl ?_
            refine g_iret rfl dX8_hides_37 ?_
            exact k _ (-1) ⟨fun q => by omega, fun _ => rfl⟩ H (fun _ _ _ => rfl)
          · refine g_null 11 dX8_textAt_10 rfl ?_
            refine g_goto 20 dX8_textAt_11 rfl ?_
            refine g_aret rfl (Or.inl rfl) dX8_textAt_20 ?_
            refine rN ?_
            refine g_astoreN (L1 := [some (.ref 0), some (.int (iZ a)), some (.int (iZ b)), some (.int (iZ i)), some (.null), some (.null), some (.null), none]) 21 dX8_hides_19 (by decide) rfl rfl rfl ?_
            refine g_aloadN 23 dX8_hides_21 rfl rfl ?_
            refine g_ifnullN 36 dX8_hides_23 rfl ?_
            refine g_iconst (v := iZ (-1)) 37 dX8_hides_36 rfl rfl ?_
            refine g_iret rfl dX8_hides_37 ?_
            exact k _ (-1) ⟨fun q => by omega, fun _ => rfl⟩ H (fun _ _ _ => rfl)
      · refine g_iload_n 13 dX8_toolAt_12 rfl rfl ?_
        refine g_bipush (v := iZ (12)) 15 dX8_toolAt_13 (by decide +kernel) rfl ?_
        refine g_icZ_lt 22 18 dX8_toolAt_15 rfl rfl rb (by decide) (fun c8 => ?_) (fun c8 => ?_)
        · refine g_aload_n 23 dX8_toolAt_22 rfl rfl ?_
          refine g_get 26 dX8_toolAt_23 faX8_22_X8 F0 rfl rfl ?_
          refine g_iload_n 27 dX8_toolAt_26 rfl rfl ?_
          refine g_aaldZ 28 dX8_toolAt_27 F4 (by decide) (by omega) (by omega) (by decide) (tls_at (by omega) (by omega)) rfl ?_
          refine g_aret rfl (Or.inr ⟨_, rfl⟩) dX8_toolAt_28 ?_
          refine rR ?_
          refine g_astore (L1 := [some (.ref 0), some (.int (iZ a)), some (.int (iZ b)), some (.int (iZ i)), some (.null), some (.ref (71 + 4 * b.toNat)), none, none]) 14 dX8_hides_12 (by decide) rfl rfl rfl ?_
          refine g_aload_n 15 dX8_hides_14 rfl rfl ?_
          refine g_iload_n 16 dX8_hides_15 rfl rfl ?_
          refine g_callV (z := mX8_textAt) (As := [.int (iZ i)]) 19 dX8_hides_16 mwX8_textAt ⟨by decide, by decide⟩ rfl wlX8_74 wiX8_textAt wsX8_textAt F0 rfl rfl rfl (nle rfl) (nle rfl) rfl ?_
          refine Go.to [some (.ref 0), some (.int (iZ i))] [] rfl rfl ?_
          refine g_iload_n 1 dX8_textAt_0 rfl rfl ?_
          refine g_ifZ_lt 10 4 dX8_textAt_1 rfl rfl ri (fun c9 => ?_) (fun c9 => ?_)
          · refine g_null 11 dX8_textAt_10 rfl ?_
            refine g_goto 20 dX8_textAt_11 rfl ?_
            refine g_aret rfl (Or.inl rfl) dX8_textAt_20 ?_
            refine rN ?_
            refine g_astoreN (L1 := [some (.ref 0), some (.int (iZ a)), some (.int (iZ b)), some (.int (iZ i)), some (.null), some (.ref (71 + 4 * b.toNat)), some (.null), none]) 21 dX8_hides_19 (by decide) rfl rfl rfl ?_
            refine g_aloadN 23 dX8_hides_21 rfl rfl ?_
            refine g_ifnullN 36 dX8_hides_23 rfl ?_
            refine g_iconst (v := iZ (-1)) 37 dX8_hides_36 rfl rfl ?_
            refine g_iret rfl dX8_hides_37 ?_
            exact k _ (-1) ⟨fun q => by omega, fun _ => rfl⟩ H (fun _ _ _ => rfl)
          · refine g_iload_n 5 dX8_textAt_4 rfl rfl ?_
            refine g_bipush (v := iZ (8)) 7 dX8_textAt_5 (by decide +kernel) rfl ?_
            refine g_icZ_lt 14 10 dX8_textAt_7 rfl rfl ri (by decide) (fun c10 => ?_) (fun c10 => ?_)
            · refine g_aload_n 15 dX8_textAt_14 rfl rfl ?_
              refine g_get 18 dX8_textAt_15 faX8_16_X8 F0 rfl rfl ?_
              refine g_iload_n 19 dX8_textAt_18 rfl rfl ?_
              refine g_aaldZ 20 dX8_textAt_19 F3 (by decide) (by omega) (by omega) (by decide) (txs_at (by omega) (by omega)) rfl ?_
              refine g_aret rfl (Or.inr ⟨_, rfl⟩) dX8_textAt_20 ?_
              refine rR ?_
              refine g_astore (L1 := [some (.ref 0), some (.int (iZ a)), some (.int (iZ b)), some (.int (iZ i)), some (.null), some (.ref (71 + 4 * b.toNat)), some (.ref (34 + 2 * i.toNat)), none]) 21 dX8_hides_19 (by decide) rfl rfl rfl ?_
              refine g_aloadN 23 dX8_hides_21 rfl rfl ?_
              refine g_ifnullN 36 dX8_hides_23 rfl ?_
              refine g_iconst (v := iZ (-1)) 37 dX8_hides_36 rfl rfl ?_
              refine g_iret rfl dX8_hides_37 ?_
              exact k _ (-1) ⟨fun q => by omega, fun _ => rfl⟩ H (fun _ _ _ => rfl)
            · refine g_null 11 dX8_textAt_10 rfl ?_
              refine g_goto 20 dX8_textAt_11 rfl ?_
              refine g_aret rfl (Or.inl rfl) dX8_textAt_20 ?_
              refine rN ?_
              refine g_astoreN (L1 := [some (.ref 0), some (.int (iZ a)), some (.int (iZ b)), some (.int (iZ i)), some (.null), some (.ref (71 + 4 * b.toNat)), some (.null), none]) 21 dX8_hides_19 (by decide) rfl rfl rfl ?_
              refine g_aloadN 23 dX8_hides_21 rfl rfl ?_
              refine g_ifnullN 36 dX8_hides_23 rfl ?_
              refine g_iconst (v := iZ (-1)) 37 dX8_hides_36 rfl rfl ?_
              refine g_iret rfl dX8_hides_37 ?_
              exact k _ (-1) ⟨fun q => by omega, fun _ => rfl⟩ H (fun _ _ _ => rfl)
        · refine g_null 19 dX8_toolAt_18 rfl ?_
          refine g_goto 28 dX8_toolAt_19 rfl ?_
          refine g_aret rfl (Or.inl rfl) dX8_toolAt_28 ?_
          refine rN ?_
          refine g_astoreN (L1 := [some (.ref 0), some (.int (iZ a)), some (.int (iZ b)), some (.int (iZ i)), some (.null), some (.null), none, none]) 14 dX8_hides_12 (by decide) rfl rfl rfl ?_
          refine g_aload_n 15 dX8_hides_14 rfl rfl ?_
          refine g_iload_n 16 dX8_hides_15 rfl rfl ?_
          refine g_callV (z := mX8_textAt) (As := [.int (iZ i)]) 19 dX8_hides_16 mwX8_textAt ⟨by decide, by decide⟩ rfl wlX8_74 wiX8_textAt wsX8_textAt F0 rfl rfl rfl (nle rfl) (nle rfl) rfl ?_
          refine Go.to [some (.ref 0), some (.int (iZ i))] [] rfl rfl ?_
          refine g_iload_n 1 dX8_textAt_0 rfl rfl ?_
          refine g_ifZ_lt 10 4 dX8_textAt_1 rfl rfl ri (fun c11 => ?_) (fun c11 => ?_)
          · refine g_null 11 dX8_textAt_10 rfl ?_
            refine g_goto 20 dX8_textAt_11 rfl ?_
            refine g_aret rfl (Or.inl rfl) dX8_textAt_20 ?_
            refine rN ?_
            refine g_astoreN (L1 := [some (.ref 0), some (.int (iZ a)), some (.int (iZ b)), some (.int (iZ i)), some (.null), some (.null), some (.null), none]) 21 dX8_hides_19 (by decide) rfl rfl rfl ?_
            refine g_aloadN 23 dX8_hides_21 rfl rfl ?_
            refine g_ifnullN 36 dX8_hides_23 rfl ?_
            refine g_iconst (v := iZ (-1)) 37 dX8_hides_36 rfl rfl ?_
            refine g_iret rfl dX8_hides_37 ?_
            exact k _ (-1) ⟨fun q => by omega, fun _ => rfl⟩ H (fun _ _ _ => rfl)
          · refine g_iload_n 5 dX8_textAt_4 rfl rfl ?_
            refine g_bipush (v := iZ (8)) 7 dX8_textAt_5 (by decide +kernel) rfl ?_
            refine g_icZ_lt 14 10 dX8_textAt_7 rfl rfl ri (by decide) (fun c12 => ?_) (fun c12 => ?_)
            · refine g_aload_n 15 dX8_textAt_14 rfl rfl ?_
              refine g_get 18 dX8_textAt_15 faX8_16_X8 F0 rfl rfl ?_
              refine g_iload_n 19 dX8_textAt_18 rfl rfl ?_
              refine g_aaldZ 20 dX8_textAt_19 F3 (by decide) (by omega) (by omega) (by decide) (txs_at (by omega) (by omega)) rfl ?_
              refine g_aret rfl (Or.inr ⟨_, rfl⟩) dX8_textAt_20 ?_
              refine rR ?_
              refine g_astore (L1 := [some (.ref 0), some (.int (iZ a)), some (.int (iZ b)), some (.int (iZ i)), some (.null), some (.null), some (.ref (34 + 2 * i.toNat)), none]) 21 dX8_hides_19 (by decide) rfl rfl rfl ?_
              refine g_aloadN 23 dX8_hides_21 rfl rfl ?_
              refine g_ifnullN 36 dX8_hides_23 rfl ?_
              refine g_iconst (v := iZ (-1)) 37 dX8_hides_36 rfl rfl ?_
              refine g_iret rfl dX8_hides_37 ?_
              exact k _ (-1) ⟨fun q => by omega, fun _ => rfl⟩ H (fun _ _ _ => rfl)
            · refine g_null 11 dX8_textAt_10 rfl ?_
              refine g_goto 20 dX8_textAt_11 rfl ?_
              refine g_aret rfl (Or.inl rfl) dX8_textAt_20 ?_
              refine rN ?_
              refine g_astoreN (L1 := [some (.ref 0), some (.int (iZ a)), some (.int (iZ b)), some (.int (iZ i)), some (.null), some (.null), some (.null), none]) 21 dX8_hides_19 (by decide) rfl rfl rfl ?_
              refine g_aloadN 23 dX8_hides_21 rfl rfl ?_
              refine g_ifnullN 36 dX8_hides_23 rfl ?_
              refine g_iconst (v := iZ (-1)) 37 dX8_hides_36 rfl rfl ?_
              refine g_iret rfl dX8_hides_37 ?_
              exact k _ (-1) ⟨fun q => by omega, fun _ => rfl⟩ H (fun _ _ _ => rfl)
  · refine g_iload_n 5 dX8_toolAt_4 rfl rfl ?_
    refine g_aload_n 6 dX8_toolAt_5 rfl rfl ?_
    refine g_get 9 dX8_toolAt_6 faX8_26_X8 F0 rfl rfl ?_
    refine g_icZ_ge 18 12 dX8_toolAt_9 rfl rfl ra (by omega) (fun c13 => ?_) (fun c13 => ?_)
    · refine g_null 19 dX8_toolAt_18 rfl ?_
      refine g_goto 28 dX8_toolAt_19 rfl ?_
      refine g_aret rfl (Or.inl rfl) dX8_toolAt_28 ?_
      refine rN ?_
      refine g_astoreN (L1 := [some (.ref 0), some (.int (iZ a)), some (.int (iZ b)), some (.int (iZ i)), some (.null), none, none, none]) 7 dX8_hides_5 (by decide) rfl rfl rfl ?_
      refine g_aload_n 8 dX8_hides_7 rfl rfl ?_
      refine g_iload_n 9 dX8_hides_8 rfl rfl ?_
      refine g_callV (z := mX8_toolAt) (As := [.int (iZ b)]) 12 dX8_hides_9 mwX8_toolAt ⟨by decide, by decide⟩ rfl wlX8_90 wiX8_toolAt wsX8_toolAt F0 rfl rfl rfl (nle rfl) (nle rfl) rfl ?_
      refine Go.to [some (.ref 0), some (.int (iZ b))] [] rfl rfl ?_
      refine g_iload_n 1 dX8_toolAt_0 rfl rfl ?_
      refine g_ifZ_lt 18 4 dX8_toolAt_1 rfl rfl rb (fun c14 => ?_) (fun c14 => ?_)
      · refine g_null 19 dX8_toolAt_18 rfl ?_
        refine g_goto 28 dX8_toolAt_19 rfl ?_
        refine g_aret rfl (Or.inl rfl) dX8_toolAt_28 ?_
        refine rN ?_
        refine g_astoreN (L1 := [some (.ref 0), some (.int (iZ a)), some (.int (iZ b)), some (.int (iZ i)), some (.null), some (.null), none, none]) 14 dX8_hides_12 (by decide) rfl rfl rfl ?_
        refine g_aload_n 15 dX8_hides_14 rfl rfl ?_
        refine g_iload_n 16 dX8_hides_15 rfl rfl ?_
        refine g_callV (z := mX8_textAt) (As := [.int (iZ i)]) 19 dX8_hides_16 mwX8_textAt ⟨by decide, by decide⟩ rfl wlX8_74 wiX8_textAt wsX8_textAt F0 rfl rfl rfl (nle rfl) (nle rfl) rfl ?_
        refine Go.to [some (.ref 0), some (.int (iZ i))] [] rfl rfl ?_
        refine g_iload_n 1 dX8_textAt_0 rfl rfl ?_
        refine g_ifZ_lt 10 4 dX8_textAt_1 rfl rfl ri (fun c15 => ?_) (fun c15 => ?_)
        · refine g_null 11 dX8_textAt_10 rfl ?_
          refine g_goto 20 dX8_textAt_11 rfl ?_
          refine g_aret rfl (Or.inl rfl) dX8_textAt_20 ?_
          refine rN ?_
          refine g_astoreN (L1 := [some (.ref 0), some (.int (iZ a)), some (.int (iZ b)), some (.int (iZ i)), some (.null), some (.null), some (.null), none]) 21 dX8_hides_19 (by decide) rfl rfl rfl ?_
          refine g_aloadN 23 dX8_hides_21 rfl rfl ?_
          refine g_ifnullN 36 dX8_hides_23 rfl ?_
          refine g_iconst (v := iZ (-1)) 37 dX8_hides_36 rfl rfl ?_
          refine g_iret rfl dX8_hides_37 ?_
          exact k _ (-1) ⟨fun q => by omega, fun _ => rfl⟩ H (fun _ _ _ => rfl)
        · refine g_iload_n 5 dX8_textAt_4 rfl rfl ?_
          refine g_bipush (v := iZ (8)) 7 dX8_textAt_5 (by decide +kernel) rfl ?_
          refine g_icZ_lt 14 10 dX8_textAt_7 rfl rfl ri (by decide) (fun c16 => ?_) (fun c16 => ?_)
          · refine g_aload_n 15 dX8_textAt_14 rfl rfl ?_
            refine g_get 18 dX8_textAt_15 faX8_16_X8 F0 rfl rfl ?_
            refine g_iload_n 19 dX8_textAt_18 rfl rfl ?_
            refine g_aaldZ 20 dX8_textAt_19 F3 (by decide) (by omega) (by omega) (by decide) (txs_at (by omega) (by omega)) rfl ?_
            refine g_aret rfl (Or.inr ⟨_, rfl⟩) dX8_textAt_20 ?_
            refine rR ?_
            refine g_astore (L1 := [some (.ref 0), some (.int (iZ a)), some (.int (iZ b)), some (.int (iZ i)), some (.null), some (.null), some (.ref (34 + 2 * i.toNat)), none]) 21 dX8_hides_19 (by decide) rfl rfl rfl ?_
            refine g_aloadN 23 dX8_hides_21 rfl rfl ?_
            refine g_ifnullN 36 dX8_hides_23 rfl ?_
            refine g_iconst (v := iZ (-1)) 37 dX8_hides_36 rfl rfl ?_
            refine g_iret rfl dX8_hides_37 ?_
            exact k _ (-1) ⟨fun q => by omega, fun _ => rfl⟩ H (fun _ _ _ => rfl)
          · refine g_null 11 dX8_textAt_10 rfl ?_
            refine g_goto 20 dX8_textAt_11 rfl ?_
            refine g_aret rfl (Or.inl rfl) dX8_textAt_20 ?_
            refine rN ?_
            refine g_astoreN (L1 := [some (.ref 0), some (.int (iZ a)), some (.int (iZ b)), some (.int (iZ i)), some (.null), some (.null), some (.null), none]) 21 dX8_hides_19 (by decide) rfl rfl rfl ?_
            refine g_aloadN 23 dX8_hides_21 rfl rfl ?_
            refine g_ifnullN 36 dX8_hides_23 rfl ?_
            refine g_iconst (v := iZ (-1)) 37 dX8_hides_36 rfl rfl ?_
            refine g_iret rfl dX8_hides_37 ?_
            exact k _ (-1) ⟨fun q => by omega, fun _ => rfl⟩ H (fun _ _ _ => rfl)
      · refine g_iload_n 5 dX8_toolAt_4 rfl rfl ?_
        refine g_aload_n 6 dX8_toolAt_5 rfl rfl ?_
        refine g_get 9 dX8_toolAt_6 faX8_26_X8 F0 rfl rfl ?_
        refine g_icZ_ge 18 12 dX8_toolAt_9 rfl rfl rb (by omega) (fun c17 => ?_) (fun c17 => ?_)
        · refine g_null 19 dX8_toolAt_18 rfl ?_
          refine g_goto 28 dX8_toolAt_19 rfl ?_
          refine g_aret rfl (Or.inl rfl) dX8_toolAt_28 ?_
          refine rN ?_
          refine g_astoreN (L1 := [some (.ref 0), some (.int (iZ a)), some (.int (iZ b)), some (.int (iZ i)), some (.null), some (.null), none, none]) 14 dX8_hides_12 (by decide) rfl rfl rfl ?_
          refine g_aload_n 15 dX8_hides_14 rfl rfl ?_
          refine g_iload_n 16 dX8_hides_15 rfl rfl ?_
          refine g_callV (z := mX8_textAt) (As := [.int (iZ i)]) 19 dX8_hides_16 mwX8_textAt ⟨by decide, by decide⟩ rfl wlX8_74 wiX8_textAt wsX8_textAt F0 rfl rfl rfl (nle rfl) (nle rfl) rfl ?_
          refine Go.to [some (.ref 0), some (.int (iZ i))] [] rfl rfl ?_
          refine g_iload_n 1 dX8_textAt_0 rfl rfl ?_
          refine g_ifZ_lt 10 4 dX8_textAt_1 rfl rfl ri (fun c18 => ?_) (fun c18 => ?_)
          · refine g_null 11 dX8_textAt_10 rfl ?_
            refine g_goto 20 dX8_textAt_11 rfl ?_
            refine g_aret rfl (Or.inl rfl) dX8_textAt_20 ?_
            refine rN ?_
            refine g_astoreN (L1 := [some (.ref 0), some (.int (iZ a)), some (.int (iZ b)), some (.int (iZ i)), some (.null), some (.null), some (.null), none]) 21 dX8_hides_19 (by decide) rfl rfl rfl ?_
            refine g_aloadN 23 dX8_hides_21 rfl rfl ?_
            refine g_ifnullN 36 dX8_hides_23 rfl ?_
            refine g_iconst (v := iZ (-1)) 37 dX8_hides_36 rfl rfl ?_
            refine g_iret rfl dX8_hides_37 ?_
            exact k _ (-1) ⟨fun q => by omega, fun _ => rfl⟩ H (fun _ _ _ => rfl)
          · refine g_iload_n 5 dX8_textAt_4 rfl rfl ?_
            refine g_bipush (v := iZ (8)) 7 dX8_textAt_5 (by decide +kernel) rfl ?_
            refine g_icZ_lt 14 10 dX8_textAt_7 rfl rfl ri (by decide) (fun c19 => ?_) (fun c19 => ?_)
            · refine g_aload_n 15 dX8_textAt_14 rfl rfl ?_
              refine g_get 18 dX8_textAt_15 faX8_16_X8 F0 rfl rfl ?_
              refine g_iload_n 19 dX8_textAt_18 rfl rfl ?_
              refine g_aaldZ 20 dX8_textAt_19 F3 (by decide) (by omega) (by omega) (by decide) (txs_at (by omega) (by omega)) rfl ?_
              refine g_aret rfl (Or.inr ⟨_, rfl⟩) dX8_textAt_20 ?_
              refine rR ?_
              refine g_astore (L1 := [some (.ref 0), some (.int (iZ a)), some (.int (iZ b)), some (.int (iZ i)), some (.null), some (.null), some (.ref (34 + 2 * i.toNat)), none]) 21 dX8_hides_19 (by decide) rfl rfl rfl ?_
              refine g_aloadN 23 dX8_hides_21 rfl rfl ?_
              refine g_ifnullN 36 dX8_hides_23 rfl ?_
              refine g_iconst (v := iZ (-1)) 37 dX8_hides_36 rfl rfl ?_
              refine g_iret rfl dX8_hides_37 ?_
              exact k _ (-1) ⟨fun q => by omega, fun _ => rfl⟩ H (fun _ _ _ => rfl)
            · refine g_null 11 dX8_textAt_10 rfl ?_
              refine g_goto 20 dX8_textAt_11 rfl ?_
              refine g_aret rfl (Or.inl rfl) dX8_textAt_20 ?_
              refine rN ?_
              refine g_astoreN (L1 := [some (.ref 0), some (.int (iZ a)), some (.int (iZ b)), some (.int (iZ i)), some (.null), some (.null), some (.null), none]) 21 dX8_hides_19 (by decide) rfl rfl rfl ?_
              refine g_aloadN 23 dX8_hides_21 rfl rfl ?_
              refine g_ifnullN 36 dX8_hides_23 rfl ?_
              refine g_iconst (v := iZ (-1)) 37 dX8_hides_36 rfl rfl ?_
              refine g_iret rfl dX8_hides_37 ?_
              exact k _ (-1) ⟨fun q => by omega, fun _ => rfl⟩ H (fun _ _ _ => rfl)
        · refine g_iload_n 13 dX8_toolAt_12 rfl rfl ?_
          refine g_bipush (v := iZ (12)) 15 dX8_toolAt_13 (by decide +kernel) rfl ?_
          refine g_icZ_lt 22 18 dX8_toolAt_15 rfl rfl rb (by decide) (fun c20 => ?_) (fun c20 => ?_)
          · refine g_aload_n 23 dX8_toolAt_22 rfl rfl ?_
            refine g_get 26 dX8_toolAt_23 faX8_22_X8 F0 rfl rfl ?_
            refine g_iload_n 27 dX8_toolAt_26 rfl rfl ?_
            refine g_aaldZ 28 dX8_toolAt_27 F4 (by decide) (by omega) (by omega) (by decide) (tls_at (by omega) (by omega)) rfl ?_
            refine g_aret rfl (Or.inr ⟨_, rfl⟩) dX8_toolAt_28 ?_
            refine rR ?_
            refine g_astore (L1 := [some (.ref 0), some (.int (iZ a)), some (.int (iZ b)), some (.int (iZ i)), some (.null), some (.ref (71 + 4 * b.toNat)), none, none]) 14 dX8_hides_12 (by decide) rfl rfl rfl ?_
            refine g_aload_n 15 dX8_hides_14 rfl rfl ?_
            refine g_iload_n 16 dX8_hides_15 rfl rfl ?_
            refine g_callV (z := mX8_textAt) (As := [.int (iZ i)]) 19 dX8_hides_16 mwX8_textAt ⟨by decide, by decide⟩ rfl wlX8_74 wiX8_textAt wsX8_textAt F0 rfl rfl rfl (nle rfl) (nle rfl) rfl ?_
            refine Go.to [some (.ref 0), some (.int (iZ i))] [] rfl rfl ?_
            refine g_iload_n 1 dX8_textAt_0 rfl rfl ?_
            refine g_ifZ_lt 10 4 dX8_textAt_1 rfl rfl ri (fun c21 => ?_) (fun c21 => ?_)
            · refine g_null 11 dX8_textAt_10 rfl ?_
              refine g_goto 20 dX8_textAt_11 rfl ?_
              refine g_aret rfl (Or.inl rfl) dX8_textAt_20 ?_
              refine rN ?_
              refine g_astoreN (L1 := [some (.ref 0), some (.int (iZ a)), some (.int (iZ b)), some (.int (iZ i)), some (.null), some (.ref (71 + 4 * b.toNat)), some (.null), none]) 21 dX8_hides_19 (by decide) rfl rfl rfl ?_
              refine g_aloadN 23 dX8_hides_21 rfl rfl ?_
              refine g_ifnullN 36 dX8_hides_23 rfl ?_
              refine g_iconst (v := iZ (-1)) 37 dX8_hides_36 rfl rfl ?_
              refine g_iret rfl dX8_hides_37 ?_
              exact k _ (-1) ⟨fun q => by omega, fun _ => rfl⟩ H (fun _ _ _ => rfl)
            · refine g_iload_n 5 dX8_textAt_4 rfl rfl ?_
              refine g_bipush (v := iZ (8)) 7 dX8_textAt_5 (by decide +kernel) rfl ?_
              refine g_icZ_lt 14 10 dX8_textAt_7 rfl rfl ri (by decide) (fun c22 => ?_) (fun c22 => ?_)
              · refine g_aload_n 15 dX8_textAt_14 rfl rfl ?_
                refine g_get 18 dX8_textAt_15 faX8_16_X8 F0 rfl rfl ?_
                refine g_iload_n 19 dX8_textAt_18 rfl rfl ?_
                refine g_aaldZ 20 dX8_textAt_19 F3 (by decide) (by omega) (by omega) (by decide) (txs_at (by omega) (by omega)) rfl ?_
                refine g_aret rfl (Or.inr ⟨_, rfl⟩) dX8_textAt_20 ?_
                refine rR ?_
                refine g_astore (L1 := [some (.ref 0), some (.int (iZ a)), some (.int (iZ b)), some (.int (iZ i)), some (.null), some (.ref (71 + 4 * b.toNat)), some (.ref (34 + 2 * i.toNat)), none]) 21 dX8_hides_19 (by decide) rfl rfl rfl ?_
                refine g_aloadN 23 dX8_hides_21 rfl rfl ?_
                refine g_ifnullN 36 dX8_hides_23 rfl ?_
                refine g_iconst (v := iZ (-1)) 37 dX8_hides_36 rfl rfl ?_
                refine g_iret rfl dX8_hides_37 ?_
                exact k _ (-1) ⟨fun q => by omega, fun _ => rfl⟩ H (fun _ _ _ => rfl)
              · refine g_null 11 dX8_textAt_10 rfl ?_
                refine g_goto 20 dX8_textAt_11 rfl ?_
                refine g_aret rfl (Or.inl rfl) dX8_textAt_20 ?_
                refine rN ?_
                refine g_astoreN (L1 := [some (.ref 0), some (.int (iZ a)), some (.int (iZ b)), some (.int (iZ i)), some (.null), some (.ref (71 + 4 * b.toNat)), some (.null), none]) 21 dX8_hides_19 (by decide) rfl rfl rfl ?_
                refine g_aloadN 23 dX8_hides_21 rfl rfl ?_
                refine g_ifnullN 36 dX8_hides_23 rfl ?_
                refine g_iconst (v := iZ (-1)) 37 dX8_hides_36 rfl rfl ?_
                refine g_iret rfl dX8_hides_37 ?_
                exact k _ (-1) ⟨fun q => by omega, fun _ => rfl⟩ H (fun _ _ _ => rfl)
          · refine g_null 19 dX8_toolAt_18 rfl ?_
            refine g_goto 28 dX8_toolAt_19 rfl ?_
            refine g_aret rfl (Or.inl rfl) dX8_toolAt_28 ?_
            refine rN ?_
            refine g_astoreN (L1 := [some (.ref 0), some (.int (iZ a)), some (.int (iZ b)), some (.int (iZ i)), some (.null), some (.null), none, none]) 14 dX8_hides_12 (by decide) rfl rfl rfl ?_
            refine g_aload_n 15 dX8_hides_14 rfl rfl ?_
            refine g_iload_n 16 dX8_hides_15 rfl rfl ?_
            refine g_callV (z := mX8_textAt) (As := [.int (iZ i)]) 19 dX8_hides_16 mwX8_textAt ⟨by decide, by decide⟩ rfl wlX8_74 wiX8_textAt wsX8_textAt F0 rfl rfl rfl (nle rfl) (nle rfl) rfl ?_
            refine Go.to [some (.ref 0), some (.int (iZ i))] [] rfl rfl ?_
            refine g_iload_n 1 dX8_textAt_0 rfl rfl ?_
            refine g_ifZ_lt 10 4 dX8_textAt_1 rfl rfl ri (fun c23 => ?_) (fun c23 => ?_)
            · refine g_null 11 dX8_textAt_10 rfl ?_
              refine g_goto 20 dX8_textAt_11 rfl ?_
              refine g_aret rfl (Or.inl rfl) dX8_textAt_20 ?_
              refine rN ?_
              refine g_astoreN (L1 := [some (.ref 0), some (.int (iZ a)), some (.int (iZ b)), some (.int (iZ i)), some (.null), some (.null), some (.null), none]) 21 dX8_hides_19 (by decide) rfl rfl rfl ?_
              refine g_aloadN 23 dX8_hides_21 rfl rfl ?_
              refine g_ifnullN 36 dX8_hides_23 rfl ?_
              refine g_iconst (v := iZ (-1)) 37 dX8_hides_36 rfl rfl ?_
              refine g_iret rfl dX8_hides_37 ?_
              exact k _ (-1) ⟨fun q => by omega, fun _ => rfl⟩ H (fun _ _ _ => rfl)
            · refine g_iload_n 5 dX8_textAt_4 rfl rfl ?_
              refine g_bipush (v := iZ (8)) 7 dX8_textAt_5 (by decide +kernel) rfl ?_
              refine g_icZ_lt 14 10 dX8_textAt_7 rfl rfl ri (by decide) (fun c24 => ?_) (fun c24 => ?_)
              · refine g_aload_n 15 dX8_textAt_14 rfl rfl ?_
                refine g_get 18 dX8_textAt_15 faX8_16_X8 F0 rfl rfl ?_
                refine g_iload_n 19 dX8_textAt_18 rfl rfl ?_
                refine g_aaldZ 20 dX8_textAt_19 F3 (by decide) (by omega) (by omega) (by decide) (txs_at (by omega) (by omega)) rfl ?_
                refine g_aret rfl (Or.inr ⟨_, rfl⟩) dX8_textAt_20 ?_
                refine rR ?_
                refine g_astore (L1 := [some (.ref 0), some (.int (iZ a)), some (.int (iZ b)), some (.int (iZ i)), some (.null), some (.null), some (.ref (34 + 2 * i.toNat)), none]) 21 dX8_hides_19 (by decide) rfl rfl rfl ?_
                refine g_aloadN 23 dX8_hides_21 rfl rfl ?_
                refine g_ifnullN 36 dX8_hides_23 rfl ?_
                refine g_iconst (v := iZ (-1)) 37 dX8_hides_36 rfl rfl ?_
                refine g_iret rfl dX8_hides_37 ?_
                exact k _ (-1) ⟨fun q => by omega, fun _ => rfl⟩ H (fun _ _ _ => rfl)
              · refine g_null 11 dX8_textAt_10 rfl ?_
                refine g_goto 20 dX8_textAt_11 rfl ?_
                refine g_aret rfl (Or.inl rfl) dX8_textAt_20 ?_
                refine rN ?_
                refine g_astoreN (L1 := [some (.ref 0), some (.int (iZ a)), some (.int (iZ b)), some (.int (iZ i)), some (.null), some (.null), some (.null), none]) 21 dX8_hides_19 (by decide) rfl rfl rfl ?_
                refine g_aloadN 23 dX8_hides_21 rfl rfl ?_
                refine g_ifnullN 36 dX8_hides_23 rfl ?_
                refine g_iconst (v := iZ (-1)) 37 dX8_hides_36 rfl rfl ?_
                refine g_iret rfl dX8_hides_37 ?_
                exact k _ (-1) ⟨fun q => by omega, fun _ => rfl⟩ H (fun _ _ _ => rfl)
    · refine g_iload_n 13 dX8_toolAt_12 rfl rfl ?_
      refine g_bipush (v := iZ (12)) 15 dX8_toolAt_13 (by decide +kernel) rfl ?_
      refine g_icZ_lt 22 18 dX8_toolAt_15 rfl rfl ra (by decide) (fun c25 => ?_) (fun c25 => ?_)
      · refine g_aload_n 23 dX8_toolAt_22 rfl rfl ?_
        refine g_get 26 dX8_toolAt_23 faX8_22_X8 F0 rfl rfl ?_
        refine g_iload_n 27 dX8_toolAt_26 rfl rfl ?_
        refine g_aaldZ 28 dX8_toolAt_27 F4 (by decide) (by omega) (by omega) (by decide) (tls_at (by omega) (by omega)) rfl ?_
        refine g_aret rfl (Or.inr ⟨_, rfl⟩) dX8_toolAt_28 ?_
        refine rR ?_
        refine g_astore (L1 := [some (.ref 0), some (.int (iZ a)), some (.int (iZ b)), some (.int (iZ i)), some (.ref (71 + 4 * a.toNat)), none, none, none]) 7 dX8_hides_5 (by decide) rfl rfl rfl ?_
        refine g_aload_n 8 dX8_hides_7 rfl rfl ?_
        refine g_iload_n 9 dX8_hides_8 rfl rfl ?_
        refine g_callV (z := mX8_toolAt) (As := [.int (iZ b)]) 12 dX8_hides_9 mwX8_toolAt ⟨by decide, by decide⟩ rfl wlX8_90 wiX8_toolAt wsX8_toolAt F0 rfl rfl rfl (nle rfl) (nle rfl) rfl ?_
        refine Go.to [some (.ref 0), some (.int (iZ b))] [] rfl rfl ?_
        refine g_iload_n 1 dX8_toolAt_0 rfl rfl ?_
        refine g_ifZ_lt 18 4 dX8_toolAt_1 rfl rfl rb (fun c26 => ?_) (fun c26 => ?_)
        · refine g_null 19 dX8_toolAt_18 rfl ?_
          refine g_goto 28 dX8_toolAt_19 rfl ?_
          refine g_aret rfl (Or.inl rfl) dX8_toolAt_28 ?_
          refine rN ?_
          refine g_astoreN (L1 := [some (.ref 0), some (.int (iZ a)), some (.int (iZ b)), some (.int (iZ i)), some (.ref (71 + 4 * a.toNat)), some (.null), none, none]) 14 dX8_hides_12 (by decide) rfl rfl rfl ?_
          refine g_aload_n 15 dX8_hides_14 rfl rfl ?_
          refine g_iload_n 16 dX8_hides_15 rfl rfl ?_
          refine g_callV (z := mX8_textAt) (As := [.int (iZ i)]) 19 dX8_hides_16 mwX8_textAt ⟨by decide, by decide⟩ rfl wlX8_74 wiX8_textAt wsX8_textAt F0 rfl rfl rfl (nle rfl) (nle rfl) rfl ?_
          refine Go.to [some (.ref 0), some (.int (iZ i))] [] rfl rfl ?_
          refine g_iload_n 1 dX8_textAt_0 rfl rfl ?_
          refine g_ifZ_lt 10 4 dX8_textAt_1 rfl rfl ri (fun c27 => ?_) (fun c27 => ?_)
          · refine g_null 11 dX8_textAt_10 rfl ?_
            refine g_goto 20 dX8_textAt_11 rfl ?_
            refine g_aret rfl (Or.inl rfl) dX8_textAt_20 ?_
            refine rN ?_
            refine g_astoreN (L1 := [some (.ref 0), some (.int (iZ a)), some (.int (iZ b)), some (.int (iZ i)), some (.ref (71 + 4 * a.toNat)), some (.null), some (.null), none]) 21 dX8_hides_19 (by decide) rfl rfl rfl ?_
            refine g_aload 23 dX8_hides_21 rfl rfl ?_
            refine g_ifnull 26 dX8_hides_23 rfl ?_
            refine g_aloadN 28 dX8_hides_26 rfl rfl ?_
            refine g_ifnullN 36 dX8_hides_28 rfl ?_
            refine g_iconst (v := iZ (-1)) 37 dX8_hides_36 rfl rfl ?_
            refine g_iret rfl dX8_hides_37 ?_
            exact k _ (-1) ⟨fun q => by omega, fun _ => rfl⟩ H (fun _ _ _ => rfl)
          · refine g_iload_n 5 dX8_textAt_4 rfl rfl ?_
            refine g_bipush (v := iZ (8)) 7 dX8_textAt_5 (by decide +kernel) rfl ?_
            refine g_icZ_lt 14 10 dX8_textAt_7 rfl rfl ri (by decide) (fun c28 => ?_) (fun c28 => ?_)
            · refine g_aload_n 15 dX8_textAt_14 rfl rfl ?_
              refine g_get 18 dX8_textAt_15 faX8_16_X8 F0 rfl rfl ?_
              refine g_iload_n 19 dX8_textAt_18 rfl rfl ?_
              refine g_aaldZ 20 dX8_textAt_19 F3 (by decide) (by omega) (by omega) (by decide) (txs_at (by omega) (by omega)) rfl ?_
              refine g_aret rfl (Or.inr ⟨_, rfl⟩) dX8_textAt_20 ?_
              refine rR ?_
              refine g_astore (L1 := [some (.ref 0), some (.int (iZ a)), some (.int (iZ b)), some (.int (iZ i)), some (.ref (71 + 4 * a.toNat)), some (.null), some (.ref (34 + 2 * i.toNat)), none]) 21 dX8_hides_19 (by decide) rfl rfl rfl ?_
              refine g_aload 23 dX8_hides_21 rfl rfl ?_
              refine g_ifnull 26 dX8_hides_23 rfl ?_
              refine g_aloadN 28 dX8_hides_26 rfl rfl ?_
              refine g_ifnullN 36 dX8_hides_28 rfl ?_
              refine g_iconst (v := iZ (-1)) 37 dX8_hides_36 rfl rfl ?_
              refine g_iret rfl dX8_hides_37 ?_
              exact k _ (-1) ⟨fun q => by omega, fun _ => rfl⟩ H (fun _ _ _ => rfl)
            · refine g_null 11 dX8_textAt_10 rfl ?_
              refine g_goto 20 dX8_textAt_11 rfl ?_
              refine g_aret rfl (Or.inl rfl) dX8_textAt_20 ?_
              refine rN ?_
              refine g_astoreN (L1 := [some (.ref 0), some (.int (iZ a)), some (.int (iZ b)), some (.int (iZ i)), some (.ref (71 + 4 * a.toNat)), some (.null), some (.null), none]) 21 dX8_hides_19 (by decide) rfl rfl rfl ?_
              refine g_aload 23 dX8_hides_21 rfl rfl ?_
              refine g_ifnull 26 dX8_hides_23 rfl ?_
              refine g_aloadN 28 dX8_hides_26 rfl rfl ?_
              refine g_ifnullN 36 dX8_hides_28 rfl ?_
              refine g_iconst (v := iZ (-1)) 37 dX8_hides_36 rfl rfl ?_
              refine g_iret rfl dX8_hides_37 ?_
              exact k _ (-1) ⟨fun q => by omega, fun _ => rfl⟩ H (fun _ _ _ => rfl)
        · refine g_iload_n 5 dX8_toolAt_4 rfl rfl ?_
          refine g_aload_n 6 dX8_toolAt_5 rfl rfl ?_
          refine g_get 9 dX8_toolAt_6 faX8_26_X8 F0 rfl rfl ?_
          refine g_icZ_ge 18 12 dX8_toolAt_9 rfl rfl rb (by omega) (fun c29 => ?_) (fun c29 => ?_)
          · refine g_null 19 dX8_toolAt_18 rfl ?_
            refine g_goto 28 dX8_toolAt_19 rfl ?_
            refine g_aret rfl (Or.inl rfl) dX8_toolAt_28 ?_
            refine rN ?_
            refine g_astoreN (L1 := [some (.ref 0), some (.int (iZ a)), some (.int (iZ b)), some (.int (iZ i)), some (.ref (71 + 4 * a.toNat)), some (.null), none, none]) 14 dX8_hides_12 (by decide) rfl rfl rfl ?_
            refine g_aload_n 15 dX8_hides_14 rfl rfl ?_
            refine g_iload_n 16 dX8_hides_15 rfl rfl ?_
            refine g_callV (z := mX8_textAt) (As := [.int (iZ i)]) 19 dX8_hides_16 mwX8_textAt ⟨by decide, by decide⟩ rfl wlX8_74 wiX8_textAt wsX8_textAt F0 rfl rfl rfl (nle rfl) (nle rfl) rfl ?_
            refine Go.to [some (.ref 0), some (.int (iZ i))] [] rfl rfl ?_
            refine g_iload_n 1 dX8_textAt_0 rfl rfl ?_
            refine g_ifZ_lt 10 4 dX8_textAt_1 rfl rfl ri (fun c30 => ?_) (fun c30 => ?_)
            · refine g_null 11 dX8_textAt_10 rfl ?_
              refine g_goto 20 dX8_textAt_11 rfl ?_
              refine g_aret rfl (Or.inl rfl) dX8_textAt_20 ?_
              refine rN ?_
              refine g_astoreN (L1 := [some (.ref 0), some (.int (iZ a)), some (.int (iZ b)), some (.int (iZ i)), some (.ref (71 + 4 * a.toNat)), some (.null), some (.null), none]) 21 dX8_hides_19 (by decide) rfl rfl rfl ?_
              refine g_aload 23 dX8_hides_21 rfl rfl ?_
              refine g_ifnull 26 dX8_hides_23 rfl ?_
              refine g_aloadN 28 dX8_hides_26 rfl rfl ?_
              refine g_ifnullN 36 dX8_hides_28 rfl ?_
              refine g_iconst (v := iZ (-1)) 37 dX8_hides_36 rfl rfl ?_
              refine g_iret rfl dX8_hides_37 ?_
              exact k _ (-1) ⟨fun q => by omega, fun _ => rfl⟩ H (fun _ _ _ => rfl)
            · refine g_iload_n 5 dX8_textAt_4 rfl rfl ?_
              refine g_bipush (v := iZ (8)) 7 dX8_textAt_5 (by decide +kernel) rfl ?_
              refine g_icZ_lt 14 10 dX8_textAt_7 rfl rfl ri (by decide) (fun c31 => ?_) (fun c31 => ?_)
              · refine g_aload_n 15 dX8_textAt_14 rfl rfl ?_
                refine g_get 18 dX8_textAt_15 faX8_16_X8 F0 rfl rfl ?_
                refine g_iload_n 19 dX8_textAt_18 rfl rfl ?_
                refine g_aaldZ 20 dX8_textAt_19 F3 (by decide) (by omega) (by omega) (by decide) (txs_at (by omega) (by omega)) rfl ?_
                refine g_aret rfl (Or.inr ⟨_, rfl⟩) dX8_textAt_20 ?_
                refine rR ?_
                refine g_astore (L1 := [some (.ref 0), some (.int (iZ a)), some (.int (iZ b)), some (.int (iZ i)), some (.ref (71 + 4 * a.toNat)), some (.null), some (.ref (34 + 2 * i.toNat)), none]) 21 dX8_hides_19 (by decide) rfl rfl rfl ?_
                refine g_aload 23 dX8_hides_21 rfl rfl ?_
                refine g_ifnull 26 dX8_hides_23 rfl ?_
                refine g_aloadN 28 dX8_hides_26 rfl rfl ?_
                refine g_ifnullN 36 dX8_hides_28 rfl ?_
                refine g_iconst (v := iZ (-1)) 37 dX8_hides_36 rfl rfl ?_
                refine g_iret rfl dX8_hides_37 ?_
                exact k _ (-1) ⟨fun q => by omega, fun _ => rfl⟩ H (fun _ _ _ => rfl)
              · refine g_null 11 dX8_textAt_10 rfl ?_
                refine g_goto 20 dX8_textAt_11 rfl ?_
                refine g_aret rfl (Or.inl rfl) dX8_textAt_20 ?_
                refine rN ?_
                refine g_astoreN (L1 := [some (.ref 0), some (.int (iZ a)), some (.int (iZ b)), some (.int (iZ i)), some (.ref (71 + 4 * a.toNat)), some (.null), some (.null), none]) 21 dX8_hides_19 (by decide) rfl rfl rfl ?_
                refine g_aload 23 dX8_hides_21 rfl rfl ?_
                refine g_ifnull 26 dX8_hides_23 rfl ?_
                refine g_aloadN 28 dX8_hides_26 rfl rfl ?_
                refine g_ifnullN 36 dX8_hides_28 rfl ?_
                refine g_iconst (v := iZ (-1)) 37 dX8_hides_36 rfl rfl ?_
                refine g_iret rfl dX8_hides_37 ?_
                exact k _ (-1) ⟨fun q => by omega, fun _ => rfl⟩ H (fun _ _ _ => rfl)
          · refine g_iload_n 13 dX8_toolAt_12 rfl rfl ?_
            refine g_bipush (v := iZ (12)) 15 dX8_toolAt_13 (by decide +kernel) rfl ?_
            refine g_icZ_lt 22 18 dX8_toolAt_15 rfl rfl rb (by decide) (fun c32 => ?_) (fun c32 => ?_)
            · refine g_aload_n 23 dX8_toolAt_22 rfl rfl ?_
              refine g_get 26 dX8_toolAt_23 faX8_22_X8 F0 rfl rfl ?_
              refine g_iload_n 27 dX8_toolAt_26 rfl rfl ?_
              refine g_aaldZ 28 dX8_toolAt_27 F4 (by decide) (by omega) (by omega) (by decide) (tls_at (by omega) (by omega)) rfl ?_
              refine g_aret rfl (Or.inr ⟨_, rfl⟩) dX8_toolAt_28 ?_
              refine rR ?_
              refine g_astore (L1 := [some (.ref 0), some (.int (iZ a)), some (.int (iZ b)), some (.int (iZ i)), some (.ref (71 + 4 * a.toNat)), some (.ref (71 + 4 * b.toNat)), none, none]) 14 dX8_hides_12 (by decide) rfl rfl rfl ?_
              refine g_aload_n 15 dX8_hides_14 rfl rfl ?_
              refine g_iload_n 16 dX8_hides_15 rfl rfl ?_
              refine g_callV (z := mX8_textAt) (As := [.int (iZ i)]) 19 dX8_hides_16 mwX8_textAt ⟨by decide, by decide⟩ rfl wlX8_74 wiX8_textAt wsX8_textAt F0 rfl rfl rfl (nle rfl) (nle rfl) rfl ?_
              refine Go.to [some (.ref 0), some (.int (iZ i))] [] rfl rfl ?_
              refine g_iload_n 1 dX8_textAt_0 rfl rfl ?_
              refine g_ifZ_lt 10 4 dX8_textAt_1 rfl rfl ri (fun c33 => ?_) (fun c33 => ?_)
              · refine g_null 11 dX8_textAt_10 rfl ?_
                refine g_goto 20 dX8_textAt_11 rfl ?_
                refine g_aret rfl (Or.inl rfl) dX8_textAt_20 ?_
                refine rN ?_
                refine g_astoreN (L1 := [some (.ref 0), some (.int (iZ a)), some (.int (iZ b)), some (.int (iZ i)), some (.ref (71 + 4 * a.toNat)), some (.ref (71 + 4 * b.toNat)), some (.null), none]) 21 dX8_hides_19 (by decide) rfl rfl rfl ?_
                refine g_aload 23 dX8_hides_21 rfl rfl ?_
                refine g_ifnull 26 dX8_hides_23 rfl ?_
                refine g_aload 28 dX8_hides_26 rfl rfl ?_
                refine g_ifnull 31 dX8_hides_28 rfl ?_
                refine g_aloadN 33 dX8_hides_31 rfl rfl ?_
                refine g_ifnonnullN 36 dX8_hides_33 rfl ?_
                refine g_iconst (v := iZ (-1)) 37 dX8_hides_36 rfl rfl ?_
                refine g_iret rfl dX8_hides_37 ?_
                exact k _ (-1) ⟨fun q => by omega, fun _ => rfl⟩ H (fun _ _ _ => rfl)
              · refine g_iload_n 5 dX8_textAt_4 rfl rfl ?_
                refine g_bipush (v := iZ (8)) 7 dX8_textAt_5 (by decide +kernel) rfl ?_
                refine g_icZ_lt 14 10 dX8_textAt_7 rfl rfl ri (by decide) (fun c34 => ?_) (fun c34 => ?_)
                · refine g_aload_n 15 dX8_textAt_14 rfl rfl ?_
                  refine g_get 18 dX8_textAt_15 faX8_16_X8 F0 rfl rfl ?_
                  refine g_iload_n 19 dX8_textAt_18 rfl rfl ?_
                  refine g_aaldZ 20 dX8_textAt_19 F3 (by decide) (by omega) (by omega) (by decide) (txs_at (by omega) (by omega)) rfl ?_
                  refine g_aret rfl (Or.inr ⟨_, rfl⟩) dX8_textAt_20 ?_
                  refine rR ?_
                  refine g_astore (L1 := [some (.ref 0), some (.int (iZ a)), some (.int (iZ b)), some (.int (iZ i)), some (.ref (71 + 4 * a.toNat)), some (.ref (71 + 4 * b.toNat)), some (.ref (34 + 2 * i.toNat)), none]) 21 dX8_hides_19 (by decide) rfl rfl rfl ?_
                  refine g_aload 23 dX8_hides_21 rfl rfl ?_
                  refine g_ifnull 26 dX8_hides_23 rfl ?_
                  refine g_aload 28 dX8_hides_26 rfl rfl ?_
                  refine g_ifnull 31 dX8_hides_28 rfl ?_
                  refine g_aload 33 dX8_hides_31 rfl rfl ?_
                  refine g_ifnonnull 38 dX8_hides_33 rfl ?_
                  refine g_aload_n 39 dX8_hides_38 rfl rfl ?_
                  refine g_aload 41 dX8_hides_39 rfl rfl ?_
                  refine g_aload 43 dX8_hides_41 rfl rfl ?_
                  refine g_aload 45 dX8_hides_43 rfl rfl ?_
                  refine g_callV (z := mX8_goneRound) (As := [.ref (71 + 4 * a.toNat), .ref (71 + 4 * b.toNat), .ref (34 + 2 * i.toNat)]) 48 dX8_hides_45 mwX8_goneRound ⟨by decide, by decide⟩ rfl wlX8_166 wiX8_goneRound wsX8_goneRound F0 rfl rfl rfl (nle rfl) (nle rfl) rfl ?_
                  refine z_round HC HS  (by omega) (by omega) (by omega) (fun h36 z35 rz35 H37 s38 => ?_)
                  refine rI ?_
                  refine g_istore (L1 := [some (.ref 0), some (.int (iZ a)), some (.int (iZ b)), some (.int (iZ i)), some (.ref (71 + 4 * a.toNat)), some (.ref (71 + 4 * b.toNat)), some (.ref (34 + 2 * i.toNat)), some (.int (iZ z35))]) 50 dX8_hides_48 (by decide) rfl rfl rfl ?_
                  refine g_iload 52 dX8_hides_50 rfl rfl ?_
                  refine g_ifZ_gt 58 55 dX8_hides_52 rfl rfl (by omega) (fun c39 => ?_) (fun c39 => ?_)
                  · refine g_aload_n 59 dX8_hides_58 rfl rfl ?_
                    have f40 := (s38.get (by omega) F0)
                    refine g_get 62 dX8_hides_59 faX8_50_X8 f40 rfl rfl ?_
                    refine g_aload 64 dX8_hides_62 rfl rfl ?_
                    obtain ⟨ta1_41, ta2_41, ta3_41, ta4_41, ta5_41, ta6_41, ta7_41, ta8_41, ta9_41, tb0_41, tb1_41, tb2_41, tb3_41⟩ := HL (a.toNat) (by omega)
                    have f42 := (s38.get (by omega) tb0_41)
                    refine g_get 67 dX8_hides_64 faX8_94_X7 f42 rfl rfl ?_
                    refine g_aload 69 dX8_hides_67 rfl rfl ?_
                    obtain ⟨a_43, x_43, p_43, en_43, dn_43, tk_43, hm_43, on_43, mm_43, of_43, og_43, ma1_43, ma2_43, ma3_43, ma4_43, ma5_43, ma6_43, ma7_43, ma8_43, ma9_43, ma10_43, ma11_43, mb0_43, mb1_43, mb2_43, mb3_43, mb4_43⟩ := SC2.m (m := 20) (by decide) H37
                    refine g_callV (z := mX2_builds) (As := [.ref (71 + 4 * a.toNat + 1), .ref (34 + 2 * i.toNat)]) 72 dX8_hides_69 mwX2_builds ⟨by decide, by decide⟩ rfl wlX8_98 wiX2_builds wsX2_builds mb0_43 rfl rfl rfl (nle rfl) (nle rfl) rfl ?_
                    obtain ⟨t0_44, t1_44, t2_44, t3_44, t4_44⟩ := HT (i.toNat) (by omega)
                    have f45 := (s38.get (by omega) t0_44)
                    have f46 := (s38.get (by omega) t1_44)
                    have f47 := (s38.get (by omega) tb1_41)
                    have f48 := (s38.get (by omega) tb2_41)
                    have f49 := (s38.get (by omega) tb3_41)
                    refine sc2_bl (m := 20) (M := (V 0 a.toNat).toNat) (by decide) H37 f47 f48 f49 ta8_41 ta9_41 (by omega) (by omega) (by omega) (by omega) f45 f46 t4_44 (by omega) (by omega) (fun h50 z51 a52 x53 p54 e55 d56 t57 hm58 c59 mm60 of61 og62 r63 R64 X65 H66 s67 => ?_)
                    have S68 : Scr2 _ _ := s67.scr2 (by decide)
                    obtain ⟨ma1_69, ma2_69, ma3_69, ma4_69, ma5_69, ma6_69, ma7_69, ma8_69, ma9_69, ma10_69, ma11_69, mb0_69, mb1_69, mb2_69, mb3_69, mb4_69⟩ := id X65
                    refine rI ?_
                    refine g_ifZ_eq 97 75 dX8_hides_72 rfl rfl (rg01 (by omega)) (fun c70 => ?_) (fun c70 => ?_)
                    · refine g_iconst (v := iZ (0)) 98 dX8_hides_97 rfl rfl ?_
                      refine g_iret rfl dX8_hides_98 ?_
                      have kk : bldOk (run0 (xn i.toNat) (fun j => xf i.toNat j.toNat) (V 0 a.toNat) (Bf a.toNat)) := rd_pos (by rw [← rz35.1]; omega)
                      have zz := H.scr (s38.tr S68) H66
                      exact k _ (0) (absurd kk (r63.elim (fun q => absurd q.1 (by omega)) (fun q => q.2))) zz.1 zz.2
                    · refine g_aload 77 dX8_hides_75 rfl rfl ?_
                      have f71 := (S68.get (by omega) f42)
                      refine g_get 80 dX8_hides_77 faX8_94_X7 f71 rfl rfl ?_
                      refine g_aload_n 81 dX8_hides_80 rfl rfl ?_
                      have f72 := (S68.get (by omega) f40)
                      refine g_get 84 dX8_hides_81 faX8_50_X8 f72 rfl rfl ?_
                      refine g_get 87 dX8_hides_84 faX8_102_X2 mb0_69 rfl rfl ?_
                      have f73 := (S68.get (by omega) f47)
                      refine g_callV (z := mX0_unlike) (As := [.ref 22]) 90 dX8_hides_87 mwX0_unlike ⟨by decide, by decide⟩ rfl wlX8_162 wiX0_unlike wsX0_unlike f73 rfl rfl rfl (nle rfl) (nle rfl) rfl ?_
                      have f74 := (S68.get (by omega) f48)
                      have f75 := (S68.get (by omega) f49)
                      refine c_unl (M := (V 0 a.toNat).toNat) (N := 256) f73 f74 f75 mb2_69 mb3_69 mb4_69 ta8_41 ta9_41 ma10_69 ma11_69 (by omega) (by omega) (by omega) (by omega) (by omega) (by omega) (fun z76 rz76 => ?_)
                      refine rI ?_
                      refine g_ifZ_ne 97 93 dX8_hides_90 rfl rfl (by omega) (fun c77 => ?_) (fun c77 => ?_)
                      · refine g_iconst (v := iZ (0)) 98 dX8_hides_97 rfl rfl ?_
                        refine g_iret rfl dX8_hides_98 ?_
                        have zz := H.scr (s38.tr S68) H66
                        exact k _ (0) ⟨fun _ => hd_0 rz35.1 (by omega) (by rw [ulk_rn R64]; have q := rz76.1; omega), fun q => by omega⟩ zz.1 zz.2
                      · refine g_iconst (v := iZ (1)) 94 dX8_hides_93 rfl rfl ?_
                        refine g_goto 98 dX8_hides_94 rfl ?_
                        refine g_iret rfl dX8_hides_98 ?_
                        have zz := H.scr (s38.tr S68) H66
                        exact k _ (1) ⟨fun _ => hd_1 rz35.1 (by omega) (by rw [ulk_rn R64]; have q := rz76.1; omega), fun q => by omega⟩ zz.1 zz.2
                  · refine g_iload 57 dX8_hides_55 rfl rfl ?_
                    refine g_iret rfl dX8_hides_57 ?_
                    have zz := H.scr s38 H37
                    exact k _ (z35) ⟨fun _ => hd_le rz35.1 (by omega), fun q => by omega⟩ zz.1 zz.2
                · refine g_null 11 dX8_textAt_10 rfl ?_
                  refine g_goto 20 dX8_textAt_11 rfl ?_
                  refine g_aret rfl (Or.inl rfl) dX8_textAt_20 ?_
                  refine rN ?_
                  refine g_astoreN (L1 := [some (.ref 0), some (.int (iZ a)), some (.int (iZ b)), some (.int (iZ i)), some (.ref (71 + 4 * a.toNat)), some (.ref (71 + 4 * b.toNat)), some (.null), none]) 21 dX8_hides_19 (by decide) rfl rfl rfl ?_
                  refine g_aload 23 dX8_hides_21 rfl rfl ?_
                  refine g_ifnull 26 dX8_hides_23 rfl ?_
                  refine g_aload 28 dX8_hides_26 rfl rfl ?_
                  refine g_ifnull 31 dX8_hides_28 rfl ?_
                  refine g_aloadN 33 dX8_hides_31 rfl rfl ?_
                  refine g_ifnonnullN 36 dX8_hides_33 rfl ?_
                  refine g_iconst (v := iZ (-1)) 37 dX8_hides_36 rfl rfl ?_
                  refine g_iret rfl dX8_hides_37 ?_
                  exact k _ (-1) ⟨fun q => by omega, fun _ => rfl⟩ H (fun _ _ _ => rfl)
            · refine g_null 19 dX8_toolAt_18 rfl ?_
              refine g_goto 28 dX8_toolAt_19 rfl ?_
              refine g_aret rfl (Or.inl rfl) dX8_toolAt_28 ?_
              refine rN ?_
              refine g_astoreN (L1 := [some (.ref 0), some (.int (iZ a)), some (.int (iZ b)), some (.int (iZ i)), some (.ref (71 + 4 * a.toNat)), some (.null), none, none]) 14 dX8_hides_12 (by decide) rfl rfl rfl ?_
              refine g_aload_n 15 dX8_hides_14 rfl rfl ?_
              refine g_iload_n 16 dX8_hides_15 rfl rfl ?_
              refine g_callV (z := mX8_textAt) (As := [.int (iZ i)]) 19 dX8_hides_16 mwX8_textAt ⟨by decide, by decide⟩ rfl wlX8_74 wiX8_textAt wsX8_textAt F0 rfl rfl rfl (nle rfl) (nle rfl) rfl ?_
              refine Go.to [some (.ref 0), some (.int (iZ i))] [] rfl rfl ?_
              refine g_iload_n 1 dX8_textAt_0 rfl rfl ?_
              refine g_ifZ_lt 10 4 dX8_textAt_1 rfl rfl ri (fun c78 => ?_) (fun c78 => ?_)
              · refine g_null 11 dX8_textAt_10 rfl ?_
                refine g_goto 20 dX8_textAt_11 rfl ?_
                refine g_aret rfl (Or.inl rfl) dX8_textAt_20 ?_
                refine rN ?_
                refine g_astoreN (L1 := [some (.ref 0), some (.int (iZ a)), some (.int (iZ b)), some (.int (iZ i)), some (.ref (71 + 4 * a.toNat)), some (.null), some (.null), none]) 21 dX8_hides_19 (by decide) rfl rfl rfl ?_
                refine g_aload 23 dX8_hides_21 rfl rfl ?_
                refine g_ifnull 26 dX8_hides_23 rfl ?_
                refine g_aloadN 28 dX8_hides_26 rfl rfl ?_
                refine g_ifnullN 36 dX8_hides_28 rfl ?_
                refine g_iconst (v := iZ (-1)) 37 dX8_hides_36 rfl rfl ?_
                refine g_iret rfl dX8_hides_37 ?_
                exact k _ (-1) ⟨fun q => by omega, fun _ => rfl⟩ H (fun _ _ _ => rfl)
              · refine g_iload_n 5 dX8_textAt_4 rfl rfl ?_
                refine g_bipush (v := iZ (8)) 7 dX8_textAt_5 (by decide +kernel) rfl ?_
                refine g_icZ_lt 14 10 dX8_textAt_7 rfl rfl ri (by decide) (fun c79 => ?_) (fun c79 => ?_)
                · refine g_aload_n 15 dX8_textAt_14 rfl rfl ?_
                  refine g_get 18 dX8_textAt_15 faX8_16_X8 F0 rfl rfl ?_
                  refine g_iload_n 19 dX8_textAt_18 rfl rfl ?_
                  refine g_aaldZ 20 dX8_textAt_19 F3 (by decide) (by omega) (by omega) (by decide) (txs_at (by omega) (by omega)) rfl ?_
                  refine g_aret rfl (Or.inr ⟨_, rfl⟩) dX8_textAt_20 ?_
                  refine rR ?_
                  refine g_astore (L1 := [some (.ref 0), some (.int (iZ a)), some (.int (iZ b)), some (.int (iZ i)), some (.ref (71 + 4 * a.toNat)), some (.null), some (.ref (34 + 2 * i.toNat)), none]) 21 dX8_hides_19 (by decide) rfl rfl rfl ?_
                  refine g_aload 23 dX8_hides_21 rfl rfl ?_
                  refine g_ifnull 26 dX8_hides_23 rfl ?_
                  refine g_aloadN 28 dX8_hides_26 rfl rfl ?_
                  refine g_ifnullN 36 dX8_hides_28 rfl ?_
                  refine g_iconst (v := iZ (-1)) 37 dX8_hides_36 rfl rfl ?_
                  refine g_iret rfl dX8_hides_37 ?_
                  exact k _ (-1) ⟨fun q => by omega, fun _ => rfl⟩ H (fun _ _ _ => rfl)
                · refine g_null 11 dX8_textAt_10 rfl ?_
                  refine g_goto 20 dX8_textAt_11 rfl ?_
                  refine g_aret rfl (Or.inl rfl) dX8_textAt_20 ?_
                  refine rN ?_
                  refine g_astoreN (L1 := [some (.ref 0), some (.int (iZ a)), some (.int (iZ b)), some (.int (iZ i)), some (.ref (71 + 4 * a.toNat)), some (.null), some (.null), none]) 21 dX8_hides_19 (by decide) rfl rfl rfl ?_
                  refine g_aload 23 dX8_hides_21 rfl rfl ?_
                  refine g_ifnull 26 dX8_hides_23 rfl ?_
                  refine g_aloadN 28 dX8_hides_26 rfl rfl ?_
                  refine g_ifnullN 36 dX8_hides_28 rfl ?_
                  refine g_iconst (v := iZ (-1)) 37 dX8_hides_36 rfl rfl ?_
                  refine g_iret rfl dX8_hides_37 ?_
                  exact k _ (-1) ⟨fun q => by omega, fun _ => rfl⟩ H (fun _ _ _ => rfl)
      · refine g_null 19 dX8_toolAt_18 rfl ?_
        refine g_goto 28 dX8_toolAt_19 rfl ?_
        refine g_aret rfl (Or.inl rfl) dX8_toolAt_28 ?_
        refine rN ?_
        refine g_astoreN (L1 := [some (.ref 0), some (.int (iZ a)), some (.int (iZ b)), some (.int (iZ i)), some (.null), none, none, none]) 7 dX8_hides_5 (by decide) rfl rfl rfl ?_
        refine g_aload_n 8 dX8_hides_7 rfl rfl ?_
        refine g_iload_n 9 dX8_hides_8 rfl rfl ?_
        refine g_callV (z := mX8_toolAt) (As := [.int (iZ b)]) 12 dX8_hides_9 mwX8_toolAt ⟨by decide, by decide⟩ rfl wlX8_90 wiX8_toolAt wsX8_toolAt F0 rfl rfl rfl (nle rfl) (nle rfl) rfl ?_
        refine Go.to [some (.ref 0), some (.int (iZ b))] [] rfl rfl ?_
        refine g_iload_n 1 dX8_toolAt_0 rfl rfl ?_
        refine g_ifZ_lt 18 4 dX8_toolAt_1 rfl rfl rb (fun c80 => ?_) (fun c80 => ?_)
        · refine g_null 19 dX8_toolAt_18 rfl ?_
          refine g_goto 28 dX8_toolAt_19 rfl ?_
          refine g_aret rfl (Or.inl rfl) dX8_toolAt_28 ?_
          refine rN ?_
          refine g_astoreN (L1 := [some (.ref 0), some (.int (iZ a)), some (.int (iZ b)), some (.int (iZ i)), some (.null), some (.null), none, none]) 14 dX8_hides_12 (by decide) rfl rfl rfl ?_
          refine g_aload_n 15 dX8_hides_14 rfl rfl ?_
          refine g_iload_n 16 dX8_hides_15 rfl rfl ?_
          refine g_callV (z := mX8_textAt) (As := [.int (iZ i)]) 19 dX8_hides_16 mwX8_textAt ⟨by decide, by decide⟩ rfl wlX8_74 wiX8_textAt wsX8_textAt F0 rfl rfl rfl (nle rfl) (nle rfl) rfl ?_
          refine Go.to [some (.ref 0), some (.int (iZ i))] [] rfl rfl ?_
          refine g_iload_n 1 dX8_textAt_0 rfl rfl ?_
          refine g_ifZ_lt 10 4 dX8_textAt_1 rfl rfl ri (fun c81 => ?_) (fun c81 => ?_)
          · refine g_null 11 dX8_textAt_10 rfl ?_
            refine g_goto 20 dX8_textAt_11 rfl ?_
            refine g_aret rfl (Or.inl rfl) dX8_textAt_20 ?_
            refine rN ?_
            refine g_astoreN (L1 := [some (.ref 0), some (.int (iZ a)), some (.int (iZ b)), some (.int (iZ i)), some (.null), some (.null), some (.null), none]) 21 dX8_hides_19 (by decide) rfl rfl rfl ?_
            refine g_aloadN 23 dX8_hides_21 rfl rfl ?_
            refine g_ifnullN 36 dX8_hides_23 rfl ?_
            refine g_iconst (v := iZ (-1)) 37 dX8_hides_36 rfl rfl ?_
            refine g_iret rfl dX8_hides_37 ?_
            exact k _ (-1) ⟨fun q => by omega, fun _ => rfl⟩ H (fun _ _ _ => rfl)
          · refine g_iload_n 5 dX8_textAt_4 rfl rfl ?_
            refine g_bipush (v := iZ (8)) 7 dX8_textAt_5 (by decide +kernel) rfl ?_
            refine g_icZ_lt 14 10 dX8_textAt_7 rfl rfl ri (by decide) (fun c82 => ?_) (fun c82 => ?_)
            · refine g_aload_n 15 dX8_textAt_14 rfl rfl ?_
              refine g_get 18 dX8_textAt_15 faX8_16_X8 F0 rfl rfl ?_
              refine g_iload_n 19 dX8_textAt_18 rfl rfl ?_
              refine g_aaldZ 20 dX8_textAt_19 F3 (by decide) (by omega) (by omega) (by decide) (txs_at (by omega) (by omega)) rfl ?_
              refine g_aret rfl (Or.inr ⟨_, rfl⟩) dX8_textAt_20 ?_
              refine rR ?_
              refine g_astore (L1 := [some (.ref 0), some (.int (iZ a)), some (.int (iZ b)), some (.int (iZ i)), some (.null), some (.null), some (.ref (34 + 2 * i.toNat)), none]) 21 dX8_hides_19 (by decide) rfl rfl rfl ?_
              refine g_aloadN 23 dX8_hides_21 rfl rfl ?_
              refine g_ifnullN 36 dX8_hides_23 rfl ?_
              refine g_iconst (v := iZ (-1)) 37 dX8_hides_36 rfl rfl ?_
              refine g_iret rfl dX8_hides_37 ?_
              exact k _ (-1) ⟨fun q => by omega, fun _ => rfl⟩ H (fun _ _ _ => rfl)
            · refine g_null 11 dX8_textAt_10 rfl ?_
              refine g_goto 20 dX8_textAt_11 rfl ?_
              refine g_aret rfl (Or.inl rfl) dX8_textAt_20 ?_
              refine rN ?_
              refine g_astoreN (L1 := [some (.ref 0), some (.int (iZ a)), some (.int (iZ b)), some (.int (iZ i)), some (.null), some (.null), some (.null), none]) 21 dX8_hides_19 (by decide) rfl rfl rfl ?_
              refine g_aloadN 23 dX8_hides_21 rfl rfl ?_
              refine g_ifnullN 36 dX8_hides_23 rfl ?_
              refine g_iconst (v := iZ (-1)) 37 dX8_hides_36 rfl rfl ?_
              refine g_iret rfl dX8_hides_37 ?_
              exact k _ (-1) ⟨fun q => by omega, fun _ => rfl⟩ H (fun _ _ _ => rfl)
        · refine g_iload_n 5 dX8_toolAt_4 rfl rfl ?_
          refine g_aload_n 6 dX8_toolAt_5 rfl rfl ?_
          refine g_get 9 dX8_toolAt_6 faX8_26_X8 F0 rfl rfl ?_
          refine g_icZ_ge 18 12 dX8_toolAt_9 rfl rfl rb (by omega) (fun c83 => ?_) (fun c83 => ?_)
          · refine g_null 19 dX8_toolAt_18 rfl ?_
            refine g_goto 28 dX8_toolAt_19 rfl ?_
            refine g_aret rfl (Or.inl rfl) dX8_toolAt_28 ?_
            refine rN ?_
            refine g_astoreN (L1 := [some (.ref 0), some (.int (iZ a)), some (.int (iZ b)), some (.int (iZ i)), some (.null), some (.null), none, none]) 14 dX8_hides_12 (by decide) rfl rfl rfl ?_
            refine g_aload_n 15 dX8_hides_14 rfl rfl ?_
            refine g_iload_n 16 dX8_hides_15 rfl rfl ?_
            refine g_callV (z := mX8_textAt) (As := [.int (iZ i)]) 19 dX8_hides_16 mwX8_textAt ⟨by decide, by decide⟩ rfl wlX8_74 wiX8_textAt wsX8_textAt F0 rfl rfl rfl (nle rfl) (nle rfl) rfl ?_
            refine Go.to [some (.ref 0), some (.int (iZ i))] [] rfl rfl ?_
            refine g_iload_n 1 dX8_textAt_0 rfl rfl ?_
            refine g_ifZ_lt 10 4 dX8_textAt_1 rfl rfl ri (fun c84 => ?_) (fun c84 => ?_)
            · refine g_null 11 dX8_textAt_10 rfl ?_
              refine g_goto 20 dX8_textAt_11 rfl ?_
              refine g_aret rfl (Or.inl rfl) dX8_textAt_20 ?_
              refine rN ?_
              refine g_astoreN (L1 := [some (.ref 0), some (.int (iZ a)), some (.int (iZ b)), some (.int (iZ i)), some (.null), some (.null), some (.null), none]) 21 dX8_hides_19 (by decide) rfl rfl rfl ?_
              refine g_aloadN 23 dX8_hides_21 rfl rfl ?_
              refine g_ifnullN 36 dX8_hides_23 rfl ?_
              refine g_iconst (v := iZ (-1)) 37 dX8_hides_36 rfl rfl ?_
              refine g_iret rfl dX8_hides_37 ?_
              exact k _ (-1) ⟨fun q => by omega, fun _ => rfl⟩ H (fun _ _ _ => rfl)
            · refine g_iload_n 5 dX8_textAt_4 rfl rfl ?_
              refine g_bipush (v := iZ (8)) 7 dX8_textAt_5 (by decide +kernel) rfl ?_
              refine g_icZ_lt 14 10 dX8_textAt_7 rfl rfl ri (by decide) (fun c85 => ?_) (fun c85 => ?_)
              · refine g_aload_n 15 dX8_textAt_14 rfl rfl ?_
                refine g_get 18 dX8_textAt_15 faX8_16_X8 F0 rfl rfl ?_
                refine g_iload_n 19 dX8_textAt_18 rfl rfl ?_
                refine g_aaldZ 20 dX8_textAt_19 F3 (by decide) (by omega) (by omega) (by decide) (txs_at (by omega) (by omega)) rfl ?_
                refine g_aret rfl (Or.inr ⟨_, rfl⟩) dX8_textAt_20 ?_
                refine rR ?_
                refine g_astore (L1 := [some (.ref 0), some (.int (iZ a)), some (.int (iZ b)), some (.int (iZ i)), some (.null), some (.null), some (.ref (34 + 2 * i.toNat)), none]) 21 dX8_hides_19 (by decide) rfl rfl rfl ?_
                refine g_aloadN 23 dX8_hides_21 rfl rfl ?_
                refine g_ifnullN 36 dX8_hides_23 rfl ?_
                refine g_iconst (v := iZ (-1)) 37 dX8_hides_36 rfl rfl ?_
                refine g_iret rfl dX8_hides_37 ?_
                exact k _ (-1) ⟨fun q => by omega, fun _ => rfl⟩ H (fun _ _ _ => rfl)
              · refine g_null 11 dX8_textAt_10 rfl ?_
                refine g_goto 20 dX8_textAt_11 rfl ?_
                refine g_aret rfl (Or.inl rfl) dX8_textAt_20 ?_
                refine rN ?_
                refine g_astoreN (L1 := [some (.ref 0), some (.int (iZ a)), some (.int (iZ b)), some (.int (iZ i)), some (.null), some (.null), some (.null), none]) 21 dX8_hides_19 (by decide) rfl rfl rfl ?_
                refine g_aloadN 23 dX8_hides_21 rfl rfl ?_
                refine g_ifnullN 36 dX8_hides_23 rfl ?_
                refine g_iconst (v := iZ (-1)) 37 dX8_hides_36 rfl rfl ?_
                refine g_iret rfl dX8_hides_37 ?_
                exact k _ (-1) ⟨fun q => by omega, fun _ => rfl⟩ H (fun _ _ _ => rfl)
          · refine g_iload_n 13 dX8_toolAt_12 rfl rfl ?_
            refine g_bipush (v := iZ (12)) 15 dX8_toolAt_13 (by decide +kernel) rfl ?_
            refine g_icZ_lt 22 18 dX8_toolAt_15 rfl rfl rb (by decide) (fun c86 => ?_) (fun c86 => ?_)
            · refine g_aload_n 23 dX8_toolAt_22 rfl rfl ?_
              refine g_get 26 dX8_toolAt_23 faX8_22_X8 F0 rfl rfl ?_
              refine g_iload_n 27 dX8_toolAt_26 rfl rfl ?_
              refine g_aaldZ 28 dX8_toolAt_27 F4 (by decide) (by omega) (by omega) (by decide) (tls_at (by omega) (by omega)) rfl ?_
              refine g_aret rfl (Or.inr ⟨_, rfl⟩) dX8_toolAt_28 ?_
              refine rR ?_
              refine g_astore (L1 := [some (.ref 0), some (.int (iZ a)), some (.int (iZ b)), some (.int (iZ i)), some (.null), some (.ref (71 + 4 * b.toNat)), none, none]) 14 dX8_hides_12 (by decide) rfl rfl rfl ?_
              refine g_aload_n 15 dX8_hides_14 rfl rfl ?_
              refine g_iload_n 16 dX8_hides_15 rfl rfl ?_
              refine g_callV (z := mX8_textAt) (As := [.int (iZ i)]) 19 dX8_hides_16 mwX8_textAt ⟨by decide, by decide⟩ rfl wlX8_74 wiX8_textAt wsX8_textAt F0 rfl rfl rfl (nle rfl) (nle rfl) rfl ?_
              refine Go.to [some (.ref 0), some (.int (iZ i))] [] rfl rfl ?_
              refine g_iload_n 1 dX8_textAt_0 rfl rfl ?_
              refine g_ifZ_lt 10 4 dX8_textAt_1 rfl rfl ri (fun c87 => ?_) (fun c87 => ?_)
              · refine g_null 11 dX8_textAt_10 rfl ?_
                refine g_goto 20 dX8_textAt_11 rfl ?_
                refine g_aret rfl (Or.inl rfl) dX8_textAt_20 ?_
                refine rN ?_
                refine g_astoreN (L1 := [some (.ref 0), some (.int (iZ a)), some (.int (iZ b)), some (.int (iZ i)), some (.null), some (.ref (71 + 4 * b.toNat)), some (.null), none]) 21 dX8_hides_19 (by decide) rfl rfl rfl ?_
                refine g_aloadN 23 dX8_hides_21 rfl rfl ?_
                refine g_ifnullN 36 dX8_hides_23 rfl ?_
                refine g_iconst (v := iZ (-1)) 37 dX8_hides_36 rfl rfl ?_
                refine g_iret rfl dX8_hides_37 ?_
                exact k _ (-1) ⟨fun q => by omega, fun _ => rfl⟩ H (fun _ _ _ => rfl)
              · refine g_iload_n 5 dX8_textAt_4 rfl rfl ?_
                refine g_bipush (v := iZ (8)) 7 dX8_textAt_5 (by decide +kernel) rfl ?_
                refine g_icZ_lt 14 10 dX8_textAt_7 rfl rfl ri (by decide) (fun c88 => ?_) (fun c88 => ?_)
                · refine g_aload_n 15 dX8_textAt_14 rfl rfl ?_
                  refine g_get 18 dX8_textAt_15 faX8_16_X8 F0 rfl rfl ?_
                  refine g_iload_n 19 dX8_textAt_18 rfl rfl ?_
                  refine g_aaldZ 20 dX8_textAt_19 F3 (by decide) (by omega) (by omega) (by decide) (txs_at (by omega) (by omega)) rfl ?_
                  refine g_aret rfl (Or.inr ⟨_, rfl⟩) dX8_textAt_20 ?_
                  refine rR ?_
                  refine g_astore (L1 := [some (.ref 0), some (.int (iZ a)), some (.int (iZ b)), some (.int (iZ i)), some (.null), some (.ref (71 + 4 * b.toNat)), some (.ref (34 + 2 * i.toNat)), none]) 21 dX8_hides_19 (by decide) rfl rfl rfl ?_
                  refine g_aloadN 23 dX8_hides_21 rfl rfl ?_
                  refine g_ifnullN 36 dX8_hides_23 rfl ?_
                  refine g_iconst (v := iZ (-1)) 37 dX8_hides_36 rfl rfl ?_
                  refine g_iret rfl dX8_hides_37 ?_
                  exact k _ (-1) ⟨fun q => by omega, fun _ => rfl⟩ H (fun _ _ _ => rfl)
                · refine g_null 11 dX8_textAt_10 rfl ?_
                  refine g_goto 20 dX8_textAt_11 rfl ?_
                  refine g_aret rfl (Or.inl rfl) dX8_textAt_20 ?_
                  refine rN ?_
                  refine g_astoreN (L1 := [some (.ref 0), some (.int (iZ a)), some (.int (iZ b)), some (.int (iZ i)), some (.null), some (.ref (71 + 4 * b.toNat)), some (.null), none]) 21 dX8_hides_19 (by decide) rfl rfl rfl ?_
                  refine g_aloadN 23 dX8_hides_21 rfl rfl ?_
                  refine g_ifnullN 36 dX8_hides_23 rfl ?_
                  refine g_iconst (v := iZ (-1)) 37 dX8_hides_36 rfl rfl ?_
                  refine g_iret rfl dX8_hides_37 ?_
                  exact k _ (-1) ⟨fun q => by omega, fun _ => rfl⟩ H (fun _ _ _ => rfl)
            · refine g_null 19 dX8_toolAt_18 rfl ?_
              refine g_goto 28 dX8_toolAt_19 rfl ?_
              refine g_aret rfl (Or.inl rfl) dX8_toolAt_28 ?_
              refine rN ?_
              refine g_astoreN (L1 := [some (.ref 0), some (.int (iZ a)), some (.int (iZ b)), some (.int (iZ i)), some (.null), some (.null), none, none]) 14 dX8_hides_12 (by decide) rfl rfl rfl ?_
              refine g_aload_n 15 dX8_hides_14 rfl rfl ?_
              refine g_iload_n 16 dX8_hides_15 rfl rfl ?_
              refine g_callV (z := mX8_textAt) (As := [.int (iZ i)]) 19 dX8_hides_16 mwX8_textAt ⟨by decide, by decide⟩ rfl wlX8_74 wiX8_textAt wsX8_textAt F0 rfl rfl rfl (nle rfl) (nle rfl) rfl ?_
              refine Go.to [some (.ref 0), some (.int (iZ i))] [] rfl rfl ?_
              refine g_iload_n 1 dX8_textAt_0 rfl rfl ?_
              refine g_ifZ_lt 10 4 dX8_textAt_1 rfl rfl ri (fun c89 => ?_) (fun c89 => ?_)
              · refine g_null 11 dX8_textAt_10 rfl ?_
                refine g_goto 20 dX8_textAt_11 rfl ?_
                refine g_aret rfl (Or.inl rfl) dX8_textAt_20 ?_
                refine rN ?_
                refine g_astoreN (L1 := [some (.ref 0), some (.int (iZ a)), some (.int (iZ b)), some (.int (iZ i)), some (.null), some (.null), some (.null), none]) 21 dX8_hides_19 (by decide) rfl rfl rfl ?_
                refine g_aloadN 23 dX8_hides_21 rfl rfl ?_
                refine g_ifnullN 36 dX8_hides_23 rfl ?_
                refine g_iconst (v := iZ (-1)) 37 dX8_hides_36 rfl rfl ?_
                refine g_iret rfl dX8_hides_37 ?_
                exact k _ (-1) ⟨fun q => by omega, fun _ => rfl⟩ H (fun _ _ _ => rfl)
              · refine g_iload_n 5 dX8_textAt_4 rfl rfl ?_
                refine g_bipush (v := iZ (8)) 7 dX8_textAt_5 (by decide +kernel) rfl ?_
                refine g_icZ_lt 14 10 dX8_textAt_7 rfl rfl ri (by decide) (fun c90 => ?_) (fun c90 => ?_)
                · refine g_aload_n 15 dX8_textAt_14 rfl rfl ?_
                  refine g_get 18 dX8_textAt_15 faX8_16_X8 F0 rfl rfl ?_
                  refine g_iload_n 19 dX8_textAt_18 rfl rfl ?_
                  refine g_aaldZ 20 dX8_textAt_19 F3 (by decide) (by omega) (by omega) (by decide) (txs_at (by omega) (by omega)) rfl ?_
                  refine g_aret rfl (Or.inr ⟨_, rfl⟩) dX8_textAt_20 ?_
                  refine rR ?_
                  refine g_astore (L1 := [some (.ref 0), some (.int (iZ a)), some (.int (iZ b)), some (.int (iZ i)), some (.null), some (.null), some (.ref (34 + 2 * i.toNat)), none]) 21 dX8_hides_19 (by decide) rfl rfl rfl ?_
                  refine g_aloadN 23 dX8_hides_21 rfl rfl ?_
                  refine g_ifnullN 36 dX8_hides_23 rfl ?_
                  refine g_iconst (v := iZ (-1)) 37 dX8_hides_36 rfl rfl ?_
                  refine g_iret rfl dX8_hides_37 ?_
                  exact k _ (-1) ⟨fun q => by omega, fun _ => rfl⟩ H (fun _ _ _ => rfl)
                · refine g_null 11 dX8_textAt_10 rfl ?_
                  refine g_goto 20 dX8_textAt_11 rfl ?_
                  refine g_aret rfl (Or.inl rfl) dX8_textAt_20 ?_
                  refine rN ?_
                  refine g_astoreN (L1 := [some (.ref 0), some (.int (iZ a)), some (.int (iZ b)), some (.int (iZ i)), some (.null), some (.null), some (.null), none]) 21 dX8_hides_19 (by decide) rfl rfl rfl ?_
                  refine g_aloadN 23 dX8_hides_21 rfl rfl ?_
                  refine g_ifnullN 36 dX8_hides_23 rfl ?_
                  refine g_iconst (v := iZ (-1)) 37 dX8_hides_36 rfl rfl ?_
                  refine g_iret rfl dX8_hides_37 ?_
                  exact k _ (-1) ⟨fun q => by omega, fun _ => rfl⟩ H (fun _ _ _ => rfl)

set_option maxRecDepth 100000 in
theorem z_hb {l : Launch} {h : MH} {Q : Option Value → MH → Prop} {x : Int32} {i : Int} (k : ∀ r : Int, ((r = 1 ∧ hbR x i) ∨ (r = 0 ∧ ¬ hbR x i)) → Q (some (.int (iZ r))) h) : Go l mX8_hasBit 0 [some (.int x), some (.int (iZ i))] [] h Q := by
  refine g_iload_n 1 dX8_hasBit_0 rfl rfl ?_
  refine g_iload_n 2 dX8_hasBit_1 rfl rfl ?_
  refine g_ishr 3 dX8_hasBit_2 rfl ?_
  refine g_iconst (v := iZ (1)) 4 dX8_hasBit_3 rfl rfl ?_
  refine g_iand 5 dX8_hasBit_4 rfl ?_
  refine Go.zof ?_
  refine g_iconst (v := iZ (1)) 6 dX8_hasBit_5 rfl rfl ?_
  refine g_icZ_ne 13 9 dX8_hasBit_6 rfl rfl (rg_toInt _) (by decide) (fun c1 => ?_) (fun c1 => ?_)
  · refine g_iconst (v := iZ (0)) 14 dX8_hasBit_13 rfl rfl ?_
    refine g_zret rfl z01_0 dX8_hasBit_14 ?_
    exact k 0 (Or.inr ⟨rfl, c1⟩)
  · refine g_iconst (v := iZ (1)) 10 dX8_hasBit_9 rfl rfl ?_
    refine g_goto 14 dX8_hasBit_10 rfl ?_
    refine g_zret rfl z01_1 dX8_hasBit_14 ?_
    exact k 1 (Or.inl ⟨rfl, c1⟩)
set_option maxRecDepth 100000 in
theorem z_blt1 {l : Launch} {h : MH} {Q : Option Value → MH → Prop} {tc : Nat} {tr : Int64} {xn : Nat → Int} {xf V Bf Lf : Nat → Nat → Int} {b : Int} {j : Nat} (HC : CORE2 h tc tr xn xf V Bf Lf) (rb : rg b) (hj : j < tc) (k : ∀ r : Int, ((r = 1 ∧ V 3 j ≠ -9 ∧ hbR (iZ b) (V 3 j)) ∨ (r = 0 ∧ ¬ (V 3 j ≠ -9 ∧ hbR (iZ b) (V 3 j)))) → Q (some (.int (iZ r))) h) : Go l mX8_isBuiltByOneOf 0 [some (.int (iZ b)), some (.ref (71 + 4 * j))] [] h Q := by
  obtain ⟨F0, F3, F4, htc, HT, HL⟩ := id HC
  refine g_aload_n 1 dX8_isBuiltByOneOf_0 rfl rfl ?_
  obtain ⟨ta1_1, ta2_1, ta3_1, ta4_1, ta5_1, ta6_1, ta7_1, ta8_1, ta9_1, tb0_1, tb1_1, tb2_1, tb3_1⟩ := HL (j) (by omega)
  refine g_get 4 dX8_isBuiltByOneOf_1 faX8_112_X7 tb0_1 rfl rfl ?_
  refine g_iconst (v := iZ (2)) 5 dX8_isBuiltByOneOf_4 rfl rfl ?_
  refine g_icZ_ne 23 8 dX8_isBuiltByOneOf_5 rfl rfl (by omega) (by decide) (fun c2 => ?_) (fun c2 => ?_)
  · refine g_iconst (v := iZ (0)) 24 dX8_isBuiltByOneOf_23 rfl rfl ?_
    refine g_zret rfl z01_0 dX8_isBuiltByOneOf_24 ?_
    exact k (0) (Or.inr ⟨rfl, fun q => absurd q.1 (by omega)⟩)
  · refine g_iload_n 9 dX8_isBuiltByOneOf_8 rfl rfl ?_
    refine g_aload_n 10 dX8_isBuiltByOneOf_9 rfl rfl ?_
    refine g_get 13 dX8_isBuiltByOneOf_10 faX8_118_X7 tb0_1 rfl rfl ?_
    refine g_callS (z := mX8_hasBit) (As := [.int (iZ b), .int (iZ (V 3 j))]) 16 dX8_isBuiltByOneOf_13 mwX8_hasBit ⟨by decide, by decide⟩ rfl wlX8_180 wtX8_hasBit rfl (nle rfl) (nle rfl) rfl ?_
    refine z_hb (fun z3 rz3 => ?_)
    have bz3 : z3 = 0 ∨ z3 = 1 := rz3.elim (fun q => Or.inr q.1) (fun q => Or.inl q.1)
    refine rI ?_
    refine g_ifZ_eq 23 19 dX8_isBuiltByOneOf_16 rfl rfl (rg01 bz3) (fun c4 => ?_) (fun c4 => ?_)
    · refine g_iconst (v := iZ (0)) 24 dX8_isBuiltByOneOf_23 rfl rfl ?_
      refine g_zret rfl z01_0 dX8_isBuiltByOneOf_24 ?_
      exact k (0) (Or.inr ⟨rfl, fun q => rz3.elim (fun y => absurd y.1 (by omega)) (fun y => y.2 q.2)⟩)
    · refine g_iconst (v := iZ (1)) 20 dX8_isBuiltByOneOf_19 rfl rfl ?_
      refine g_goto 24 dX8_isBuiltByOneOf_20 rfl ?_
      refine g_zret rfl z01_1 dX8_isBuiltByOneOf_24 ?_
      exact k (1) (Or.inl ⟨rfl, by omega, rz3.elim (fun y => y.2) (fun y => absurd y.1 (by omega))⟩)
set_option maxRecDepth 100000 in
theorem z_bagain {l : Launch} {h : MH} {Q : Option Value → MH → Prop} {tc : Nat} {tr : Int64} {xn : Nat → Int} {xf V Bf Lf : Nat → Nat → Int} {j i : Nat} (HC : CORE2 h tc tr xn xf V Bf Lf) (HS : SC2 h)  (hj : j < tc) (hi : i < 8) (h2 : V 1 j = 2) (hiv : i = (V 2 j).toNat) (k : ∀ (h1 : MH) (r : Int), ((r = 0 ↔ rbz xn (XF xf) V Bf j) ∧ rg r) → SC2 h1 → Scr2 h h1 → Q (some (.int (iZ r))) h1) : Go l mX8_builtAgain 0 [some (.ref 0), some (.ref (71 + 4 * j)), some (.ref (34 + 2 * i)), none] [] h Q := by
  obtain ⟨F0, F3, F4, htc, HT, HL⟩ := id HC
  refine g_aload_n 1 dX8_builtAgain_0 rfl rfl ?_
  refine g_aload_n 2 dX8_builtAgain_1 rfl rfl ?_
  obtain ⟨ta1_1, ta2_1, ta3_1, ta4_1, ta5_1, ta6_1, ta7_1, ta8_1, ta9_1, tb0_1, tb1_1, tb2_1, tb3_1⟩ := HL (j) (by omega)
  refine g_get 5 dX8_builtAgain_2 faX8_118_X7 tb0_1 rfl rfl ?_
  refine g_callV (z := mX8_toolAt) (As := [.int (iZ (V 3 j))]) 8 dX8_builtAgain_5 mwX8_toolAt ⟨by decide, by decide⟩ rfl wlX8_90 wiX8_toolAt wsX8_toolAt F0 rfl rfl rfl (nle rfl) (nle rfl) rfl ?_
  refine Go.to [some (.ref 0), some (.int (iZ (V 3 j)))] [] rfl rfl ?_
  refine g_iload_n 1 dX8_toolAt_0 rfl rfl ?_
  refine g_ifZ_lt 18 4 dX8_toolAt_1 rfl rfl (by omega) (fun c2 => ?_) (fun c2 => ?_)
  · refine g_null 19 dX8_toolAt_18 rfl ?_
    refine g_goto 28 dX8_toolAt_19 rfl ?_
    refine g_aret rfl (Or.inl rfl) dX8_toolAt_28 ?_
    refine rN ?_
    refine g_astore_nN (L1 := [some (.ref 0), some (.ref (71 + 4 * j)), some (.ref (34 + 2 * i)), some (.null)]) 9 dX8_builtAgain_8 (by decide) rfl rfl rfl ?_
    refine g_aload_nN 10 dX8_builtAgain_9 rfl rfl ?_
    refine g_ifnonnullN 13 dX8_builtAgain_10 rfl ?_
    refine g_bipush (v := iZ (-20)) 15 dX8_builtAgain_13 (by decide +kernel) rfl ?_
    refine g_iret rfl dX8_builtAgain_15 ?_
    exact k _ (-20) (by exfalso; omega) HS (Scr2.refl _)
  · refine g_iload_n 5 dX8_toolAt_4 rfl rfl ?_
    refine g_aload_n 6 dX8_toolAt_5 rfl rfl ?_
    refine g_get 9 dX8_toolAt_6 faX8_26_X8 F0 rfl rfl ?_
    refine g_icZ_ge 18 12 dX8_toolAt_9 rfl rfl (by omega) (by omega) (fun c3 => ?_) (fun c3 => ?_)
    · refine g_null 19 dX8_toolAt_18 rfl ?_
      refine g_goto 28 dX8_toolAt_19 rfl ?_
      refine g_aret rfl (Or.inl rfl) dX8_toolAt_28 ?_
      refine rN ?_
      refine g_astore_nN (L1 := [some (.ref 0), some (.ref (71 + 4 * j)), some (.ref (34 + 2 * i)), some (.null)]) 9 dX8_builtAgain_8 (by decide) rfl rfl rfl ?_
      refine g_aload_nN 10 dX8_builtAgain_9 rfl rfl ?_
      refine g_ifnonnullN 13 dX8_builtAgain_10 rfl ?_
      refine g_bipush (v := iZ (-20)) 15 dX8_builtAgain_13 (by decide +kernel) rfl ?_
      refine g_iret rfl dX8_builtAgain_15 ?_
      exact k _ (-20) (by exfalso; omega) HS (Scr2.refl _)
    · refine g_iload_n 13 dX8_toolAt_12 rfl rfl ?_
      refine g_bipush (v := iZ (12)) 15 dX8_toolAt_13 (by decide +kernel) rfl ?_
      refine g_icZ_lt 22 18 dX8_toolAt_15 rfl rfl (by omega) (by decide) (fun _ => ?_) (fun q => absurd q (by omega))
      refine g_aload_n 23 dX8_toolAt_22 rfl rfl ?_
      refine g_get 26 dX8_toolAt_23 faX8_22_X8 F0 rfl rfl ?_
      refine g_iload_n 27 dX8_toolAt_26 rfl rfl ?_
      refine g_aaldZ 28 dX8_toolAt_27 F4 (by decide) (by omega) (by omega) (by decide) (tls_at (by omega) (by omega)) rfl ?_
      refine g_aret rfl (Or.inr ⟨_, rfl⟩) dX8_toolAt_28 ?_
      refine rR ?_
      refine g_astore_n (L1 := [some (.ref 0), some (.ref (71 + 4 * j)), some (.ref (34 + 2 * i)), some (.ref (71 + 4 * (V 3 j).toNat))]) 9 dX8_builtAgain_8 (by decide) rfl rfl rfl ?_
      refine g_aload_n 10 dX8_builtAgain_9 rfl rfl ?_
      refine g_ifnonnull 16 dX8_builtAgain_10 rfl ?_
      refine g_aload_n 17 dX8_builtAgain_16 rfl rfl ?_
      refine g_get 20 dX8_builtAgain_17 faX8_50_X8 F0 rfl rfl ?_
      refine g_aload_n 21 dX8_builtAgain_20 rfl rfl ?_
      obtain ⟨ta1_4, ta2_4, ta3_4, ta4_4, ta5_4, ta6_4, ta7_4, ta8_4, ta9_4, tb0_4, tb1_4, tb2_4, tb3_4⟩ := HL ((V 3 j).toNat) (by omega)
      refine g_get 24 dX8_builtAgain_21 faX8_94_X7 tb0_4 rfl rfl ?_
      refine g_aload_n 25 dX8_builtAgain_24 rfl rfl ?_
      obtain ⟨a_5, x_5, p_5, en_5, dn_5, tk_5, hm_5, on_5, mm_5, of_5, og_5, ma1_5, ma2_5, ma3_5, ma4_5, ma5_5, ma6_5, ma7_5, ma8_5, ma9_5, ma10_5, ma11_5, mb0_5, mb1_5, mb2_5, mb3_5, mb4_5⟩ := SC2.m (m := 20) (by decide) HS
      refine g_callV (z := mX2_goThrough) (As := [.ref (71 + 4 * (V 3 j).toNat + 1), .ref (34 + 2 * i)]) 28 dX8_builtAgain_25 mwX2_goThrough ⟨by decide, by decide⟩ rfl wlX8_129 wiX2_goThrough wsX2_goThrough mb0_5 rfl rfl rfl (nle rfl) (nle rfl) rfl ?_
      obtain ⟨t0_6, t1_6, t2_6, t3_6, t4_6⟩ := HT (i) (by omega)
      refine sc2_go (m := 20) (M := (V 0 (V 3 j).toNat).toNat) (by decide) HS tb1_4 tb2_4 tb3_4 ta8_4 ta9_4 (by omega) (by omega) (by omega) (by omega) t0_6 t1_6 t4_6 (by omega) (by omega) (fun h7 a8 x9 p10 e11 d12 t13 hm14 c15 mm16 of17 og18 R20 X21 H22 s23 => ?_)
      have S24 : Scr2 _ _ := s23.scr2 (by decide)
      obtain ⟨ma1_25, ma2_25, ma3_25, ma4_25, ma5_25, ma6_25, ma7_25, ma8_25, ma9_25, ma10_25, ma11_25, mb0_25, mb1_25, mb2_25, mb3_25, mb4_25⟩ := id X21
      refine rV ?_
      refine g_aload_n 29 dX8_builtAgain_28 rfl rfl ?_
      have f26 := (S24.get (by omega) F0)
      refine g_get 32 dX8_builtAgain_29 faX8_50_X8 f26 rfl rfl ?_
      refine g_get 35 dX8_builtAgain_32 faX8_133_X2 mb0_25 rfl rfl ?_
      refine g_ifZ_eq 49 38 dX8_builtAgain_35 rfl rfl (by omega) (fun c27 => ?_) (fun c27 => ?_)
      · refine g_aload_n 50 dX8_builtAgain_49 rfl rfl ?_
        refine g_get 53 dX8_builtAgain_50 faX8_50_X8 f26 rfl rfl ?_
        refine g_get 56 dX8_builtAgain_53 faX8_102_X2 mb0_25 rfl rfl ?_
        refine g_get 59 dX8_builtAgain_56 faX8_109_X0 mb2_25 rfl rfl ?_
        refine g_ifZ_ne 67 62 dX8_builtAgain_59 rfl rfl (by omega) (fun c28 => ?_) (fun c28 => ?_)
        · refine g_aload_n 68 dX8_builtAgain_67 rfl rfl ?_
          have f29 := (S24.get (by omega) tb0_1)
          refine g_get 71 dX8_builtAgain_68 faX8_94_X7 f29 rfl rfl ?_
          refine g_aload_n 72 dX8_builtAgain_71 rfl rfl ?_
          refine g_get 75 dX8_builtAgain_72 faX8_50_X8 f26 rfl rfl ?_
          refine g_get 78 dX8_builtAgain_75 faX8_102_X2 mb0_25 rfl rfl ?_
          have f30 := (S24.get (by omega) tb1_1)
          refine g_callV (z := mX0_unlike) (As := [.ref 22]) 81 dX8_builtAgain_78 mwX0_unlike ⟨by decide, by decide⟩ rfl wlX8_162 wiX0_unlike wsX0_unlike f30 rfl rfl rfl (nle rfl) (nle rfl) rfl ?_
          have f31 := (S24.get (by omega) tb2_1)
          have f32 := (S24.get (by omega) tb3_1)
          refine c_unl (M := (V 0 j).toNat) (N := 256) f30 f31 f32 mb2_25 mb3_25 mb4_25 ta8_1 ta9_1 ma10_25 ma11_25 (by omega) (by omega) (by omega) (by omega) (by omega) (by omega) (fun z33 rz33 => ?_)
          refine rI ?_
          refine g_iret rfl dX8_builtAgain_81 ?_
          rw [hiv] at R20
          have E := rb_b (xf := xf) (C := Bf) h2 R20
          exact k _ (z33) ⟨rbY E (by omega) rz33.1, by omega⟩ H22 S24
        · refine g_bipush (v := iZ (-20)) 64 dX8_builtAgain_62 (by decide +kernel) rfl ?_
          refine g_goto 81 dX8_builtAgain_64 rfl ?_
          refine g_iret rfl dX8_builtAgain_81 ?_
          rw [hiv] at R20
          have E := rb_b (xf := xf) (C := Bf) h2 R20
          exact k _ (-20) ⟨rbN E (by omega) (by omega), (by decide)⟩ H22 S24
      · refine g_bipush (v := iZ (-10)) 40 dX8_builtAgain_38 (by decide +kernel) rfl ?_
        refine g_aload_n 41 dX8_builtAgain_40 rfl rfl ?_
        refine g_get 44 dX8_builtAgain_41 faX8_50_X8 f26 rfl rfl ?_
        refine g_get 47 dX8_builtAgain_44 faX8_133_X2 mb0_25 rfl rfl ?_
        refine g_isubZ ((-10) - hm14) 48 dX8_builtAgain_47 (by omega) rfl ?_
        refine g_iret rfl dX8_builtAgain_48 ?_
        rw [hiv] at R20
        have E := rb_b (xf := xf) (C := Bf) h2 R20
        exact k _ ((-10) - hm14) ⟨rbN E (by omega) (by omega), (by omega)⟩ H22 S24
set_option maxRecDepth 100000 in
theorem z_again {l : Launch} {h : MH} {Q : Option Value → MH → Prop} {tc : Nat} {tr : Int64} {xn : Nat → Int} {xf V Bf Lf : Nat → Nat → Int} {j : Nat} (HC : CORE2 h tc tr xn xf V Bf Lf) (HS : SC2 h)  (hj : j < tc) (k : ∀ (h1 : MH) (r : Int), ((r = 0 ↔ rbz xn (XF xf) V Bf j) ∧ rg r) → SC2 h1 → Scr2 h h1 → Q (some (.int (iZ r))) h1) : Go l mX8_madeAgain 0 [some (.ref 0), some (.ref (71 + 4 * j)), none, none] [] h Q := by
  obtain ⟨F0, F3, F4, htc, HT, HL⟩ := id HC
  refine g_aload_n 1 dX8_madeAgain_0 rfl rfl ?_
  refine g_aload_n 2 dX8_madeAgain_1 rfl rfl ?_
  obtain ⟨ta1_1, ta2_1, ta3_1, ta4_1, ta5_1, ta6_1, ta7_1, ta8_1, ta9_1, tb0_1, tb1_1, tb2_1, tb3_1⟩ := HL (j) (by omega)
  refine g_get 5 dX8_madeAgain_2 faX8_115_X7 tb0_1 rfl rfl ?_
  refine g_callV (z := mX8_textAt) (As := [.int (iZ (V 2 j))]) 8 dX8_madeAgain_5 mwX8_textAt ⟨by decide, by decide⟩ rfl wlX8_74 wiX8_textAt wsX8_textAt F0 rfl rfl rfl (nle rfl) (nle rfl) rfl ?_
  refine Go.to [some (.ref 0), some (.int (iZ (V 2 j)))] [] rfl rfl ?_
  refine g_iload_n 1 dX8_textAt_0 rfl rfl ?_
  refine g_ifZ_lt 10 4 dX8_textAt_1 rfl rfl (by omega) (fun q => absurd q (by omega)) (fun _ => ?_)
  refine g_iload_n 5 dX8_textAt_4 rfl rfl ?_
  refine g_bipush (v := iZ (8)) 7 dX8_textAt_5 (by decide +kernel) rfl ?_
  refine g_icZ_lt 14 10 dX8_textAt_7 rfl rfl (by omega) (by decide) (fun _ => ?_) (fun q => absurd q (by omega))
  refine g_aload_n 15 dX8_textAt_14 rfl rfl ?_
  refine g_get 18 dX8_textAt_15 faX8_16_X8 F0 rfl rfl ?_
  refine g_iload_n 19 dX8_textAt_18 rfl rfl ?_
  refine g_aaldZ 20 dX8_textAt_19 F3 (by decide) (by omega) (by omega) (by decide) (txs_at (by omega) (by omega)) rfl ?_
  refine g_aret rfl (Or.inr ⟨_, rfl⟩) dX8_textAt_20 ?_
  refine rR ?_
  refine g_astore_n (L1 := [some (.ref 0), some (.ref (71 + 4 * j)), some (.ref (34 + 2 * (V 2 j).toNat)), none]) 9 dX8_madeAgain_8 (by decide) rfl rfl rfl ?_
  refine g_aload_n 10 dX8_madeAgain_9 rfl rfl ?_
  refine g_ifnonnull 16 dX8_madeAgain_10 rfl ?_
  refine g_aload_n 17 dX8_madeAgain_16 rfl rfl ?_
  refine g_get 20 dX8_madeAgain_17 faX8_112_X7 tb0_1 rfl rfl ?_
  refine g_iconst (v := iZ (2)) 21 dX8_madeAgain_20 rfl rfl ?_
  refine g_icZ_ne 31 24 dX8_madeAgain_21 rfl rfl (by omega) (by decide) (fun c2 => ?_) (fun c2 => ?_)
  · refine g_aload_n 32 dX8_madeAgain_31 rfl rfl ?_
    refine g_aload_n 33 dX8_madeAgain_32 rfl rfl ?_
    refine g_get 36 dX8_madeAgain_33 faX8_112_X7 tb0_1 rfl rfl ?_
    refine g_callV (z := mX8_makerBy) (As := [.int (iZ (V 1 j))]) 39 dX8_madeAgain_36 mwX8_makerBy ⟨by decide, by decide⟩ rfl wlX8_228 wiX8_makerBy wsX8_makerBy F0 rfl rfl rfl (nle rfl) (nle rfl) rfl ?_
    refine Go.to [some (.ref 0), some (.int (iZ (V 1 j)))] [] rfl rfl ?_
    refine g_iload_n 1 dX8_makerBy_0 rfl rfl ?_
    refine g_ifZ_ne 11 4 dX8_makerBy_1 rfl rfl (by omega) (fun c3 => ?_) (fun c3 => ?_)
    · refine g_aload_n 12 dX8_makerBy_11 rfl rfl ?_
      refine g_get 15 dX8_makerBy_12 faX8_40_X8 F0 rfl rfl ?_
      refine g_aret rfl (Or.inr ⟨_, rfl⟩) dX8_makerBy_15 ?_
      refine rR ?_
      refine g_astore_n (L1 := [some (.ref 0), some (.ref (71 + 4 * j)), some (.ref (34 + 2 * (V 2 j).toNat)), some (.ref 9)]) 40 dX8_madeAgain_39 (by decide) rfl rfl rfl ?_
      refine g_aload_n 41 dX8_madeAgain_40 rfl rfl ?_
      refine g_aload_n 42 dX8_madeAgain_41 rfl rfl ?_
      obtain ⟨n_4, f_4, g_4, nk_4⟩ := HS.2.1
      obtain ⟨du_5, la_5, pl_5, lu_5, p1_5, p2_5, p3_5, p4_5, p5_5, p6_5, p7_5, q0_5, q1_5, q2_5, q3_5, q4_5, q5_5⟩ := id nk_4
      refine g_callA (z := mX4_faultIn) (As := [.ref (34 + 2 * (V 2 j).toNat)]) 45 dX8_madeAgain_42 mwX4_faultIn ⟨by decide, by decide⟩ rfl wlX8_232 wsmMk wiX4_faultIn wsaX4 wdMk (by decide) q0_5 rfl rfl (nle rfl) (nle rfl) rfl ?_
      obtain ⟨t0_6, t1_6, t2_6, t3_6, t4_6⟩ := HT ((V 2 j).toNat) (by omega)
      refine sc2_nf HS t0_6 t1_6 t4_6 (by omega) (by omega) (fun h7 z8 n9 f10 g11 rz8 e12 P13 H14 s15 => ?_)
      have S16 : Scr2 _ _ := s15.scr2 (by decide)
      obtain ⟨du_17, la_17, pl_17, lu_17, p1_17, p2_17, p3_17, p4_17, p5_17, p6_17, p7_17, q0_17, q1_17, q2_17, q3_17, q4_17, q5_17⟩ := id P13
      refine rI ?_
      refine g_bipush (v := iZ (-9)) 47 dX8_madeAgain_45 (by decide +kernel) rfl ?_
      refine g_icZ_ne 64 50 dX8_madeAgain_47 rfl rfl (by omega) (by decide) (fun c18 => ?_) (fun c18 => ?_)
      · refine g_bipush (v := iZ (-20)) 66 dX8_madeAgain_64 (by decide +kernel) rfl ?_
        refine g_iret rfl dX8_madeAgain_66 ?_
        have E := rb_m (xf := xf) (C := Bf) (by omega) (if_neg (by omega)).symm e12
        exact k _ (-20) ⟨rbN E (by omega) (by omega), (by decide)⟩ H14 S16
      · refine g_aload_n 51 dX8_madeAgain_50 rfl rfl ?_
        have f19 := (S16.get (by omega) tb0_1)
        refine g_get 54 dX8_madeAgain_51 faX8_94_X7 f19 rfl rfl ?_
        refine g_aload_n 55 dX8_madeAgain_54 rfl rfl ?_
        refine g_get 58 dX8_madeAgain_55 faX8_238_X4 q0_17 rfl rfl ?_
        have f20 := (S16.get (by omega) tb1_1)
        refine g_callV (z := mX0_unlike) (As := [.ref 10]) 61 dX8_madeAgain_58 mwX0_unlike ⟨by decide, by decide⟩ rfl wlX8_162 wiX0_unlike wsX0_unlike f20 rfl rfl rfl (nle rfl) (nle rfl) rfl ?_
        have f21 := (S16.get (by omega) tb2_1)
        have f22 := (S16.get (by omega) tb3_1)
        refine c_unl (M := (V 0 j).toNat) (N := 256) f20 f21 f22 q1_17 q2_17 q3_17 ta8_1 ta9_1 p6_17 p7_17 (by omega) (by omega) (by omega) (by omega) (by omega) (by omega) (fun z23 rz23 => ?_)
        refine rI ?_
        refine g_goto 66 dX8_madeAgain_61 rfl ?_
        refine g_iret rfl dX8_madeAgain_66 ?_
        have E := rb_m (xf := xf) (C := Bf) (by omega) (if_neg (by omega)).symm e12
        exact k _ (z23) ⟨rbY E (by omega) rz23.1, by omega⟩ H14 S16
    · refine g_aload_n 5 dX8_makerBy_4 rfl rfl ?_
      refine g_get 8 dX8_makerBy_5 faX8_33_X8 F0 rfl rfl ?_
      refine g_goto 15 dX8_makerBy_8 rfl ?_
      refine g_aret rfl (Or.inr ⟨_, rfl⟩) dX8_makerBy_15 ?_
      refine rR ?_
      refine g_astore_n (L1 := [some (.ref 0), some (.ref (71 + 4 * j)), some (.ref (34 + 2 * (V 2 j).toNat)), some (.ref 5)]) 40 dX8_madeAgain_39 (by decide) rfl rfl rfl ?_
      refine g_aload_n 41 dX8_madeAgain_40 rfl rfl ?_
      refine g_aload_n 42 dX8_madeAgain_41 rfl rfl ?_
      obtain ⟨n_24, f_24, g_24, pk_24⟩ := HS.1
      obtain ⟨p1_25, p2_25, p3_25, q0_25, q1_25, q2_25, q3_25⟩ := id pk_24
      refine g_callA (z := mX5_faultIn) (As := [.ref (34 + 2 * (V 2 j).toNat)]) 45 dX8_madeAgain_42 mwX5_faultIn ⟨by decide, by decide⟩ rfl wlX8_232 wsmMk wiX5_faultIn wsaX5 wdMk (by decide) q0_25 rfl rfl (nle rfl) (nle rfl) rfl ?_
      obtain ⟨t0_26, t1_26, t2_26, t3_26, t4_26⟩ := HT ((V 2 j).toNat) (by omega)
      refine sc2_pf HS t0_26 t1_26 t4_26 (by omega) (by omega) (fun h27 z28 n29 f30 g31 rz28 e32 P33 H34 s35 => ?_)
      have S36 : Scr2 _ _ := s35.scr2 (by decide)
      obtain ⟨p1_37, p2_37, p3_37, q0_37, q1_37, q2_37, q3_37⟩ := id P33
      refine rI ?_
      refine g_bipush (v := iZ (-9)) 47 dX8_madeAgain_45 (by decide +kernel) rfl ?_
      refine g_icZ_ne 64 50 dX8_madeAgain_47 rfl rfl (by omega) (by decide) (fun c38 => ?_) (fun c38 => ?_)
      · refine g_bipush (v := iZ (-20)) 66 dX8_madeAgain_64 (by decide +kernel) rfl ?_
        refine g_iret rfl dX8_madeAgain_66 ?_
        have E := rb_m (xf := xf) (C := Bf) (by omega) (if_pos (by omega)).symm e32.n
        exact k _ (-20) ⟨rbN E (by omega) (by omega), (by decide)⟩ H34 S36
      · refine g_aload_n 51 dX8_madeAgain_50 rfl rfl ?_
        have f39 := (S36.get (by omega) tb0_1)
        refine g_get 54 dX8_madeAgain_51 faX8_94_X7 f39 rfl rfl ?_
        refine g_aload_n 55 dX8_madeAgain_54 rfl rfl ?_
        refine g_get 58 dX8_madeAgain_55 faX8_238_X5 q0_37 rfl rfl ?_
        have f40 := (S36.get (by omega) tb1_1)
        refine g_callV (z := mX0_unlike) (As := [.ref 6]) 61 dX8_madeAgain_58 mwX0_unlike ⟨by decide, by decide⟩ rfl wlX8_162 wiX0_unlike wsX0_unlike f40 rfl rfl rfl (nle rfl) (nle rfl) rfl ?_
        have f41 := (S36.get (by omega) tb2_1)
        have f42 := (S36.get (by omega) tb3_1)
        refine c_unl (M := (V 0 j).toNat) (N := 256) f40 f41 f42 q1_37 q2_37 q3_37 ta8_1 ta9_1 p2_37 p3_37 (by omega) (by omega) (by omega) (by omega) (by omega) (by omega) (fun z43 rz43 => ?_)
        refine rI ?_
        refine g_goto 66 dX8_madeAgain_61 rfl ?_
        refine g_iret rfl dX8_madeAgain_66 ?_
        have E := rb_m (xf := xf) (C := Bf) (by omega) (if_pos (by omega)).symm e32.n
        exact k _ (z43) ⟨rbY E (by omega) rz43.1, by omega⟩ H34 S36
  · refine g_aload_n 25 dX8_madeAgain_24 rfl rfl ?_
    refine g_aload_n 26 dX8_madeAgain_25 rfl rfl ?_
    refine g_aload_n 27 dX8_madeAgain_26 rfl rfl ?_
    refine g_callV (z := mX8_builtAgain) (As := [.ref (71 + 4 * j), .ref (34 + 2 * (V 2 j).toNat)]) 30 dX8_madeAgain_27 mwX8_builtAgain ⟨by decide, by decide⟩ rfl wlX8_248 wiX8_builtAgain wsX8_builtAgain F0 rfl rfl rfl (nle rfl) (nle rfl) rfl ?_
    refine z_bagain HC HS  (by omega) (by omega) (by omega) (by omega) (fun h45 z44 rz44 H46 s47 => ?_)
    refine rI ?_
    refine g_iret rfl dX8_madeAgain_30 ?_
    exact k _ (z44) rz44 H46 s47
set_option maxRecDepth 100000 in
theorem z_stale_l {l : Launch} {Q : Option Value → MH → Prop} {tc : Nat} {tr : Int64} {xn : Nat → Int} {xf V Bf Lf : Nat → Nat → Int}    : ∀ (m0 : Nat) (h : MH) (b : Int) (j : Int), ((tc : Int) - j).toNat = m0 → CORE2 h tc tr xn xf V Bf Lf → SC2 h → (0 ≤ j ∧ j ≤ tc) → (0 ≤ b ∧ b < 4096) → (b = ((stT xn (XF xf) V Bf j.toNat : Nat) : Int)) → (∀ (h1 : MH) (r : Int), (r = ((stT xn (XF xf) V Bf tc : Nat) : Int)) → SC2 h1 → Scr2 h h1 → Q (some (.int (iZ r))) h1) → Go l mX8_staleBits 4 [some (.ref 0), some (.int (iZ b)), some (.int (iZ j)), none] [] h Q := by
  intro m0
  induction m0 using Nat.strongRecOn with
  | ind m0 ih =>
    intro h b j hmz HC HS hj hb4 hb k
    obtain ⟨F0, F3, F4, htc, HT, HL⟩ := id HC
    refine g_iload_n 5 dX8_staleBits_4 rfl rfl ?_
    refine g_aload_n 6 dX8_staleBits_5 rfl rfl ?_
    refine g_get 9 dX8_staleBits_6 faX8_26_X8 F0 rfl rfl ?_
    refine g_icZ_ge 50 12 dX8_staleBits_9 rfl rfl (by omega) (by omega) (fun c1 => ?_) (fun c1 => ?_)
    · refine g_iload_n 51 dX8_staleBits_50 rfl rfl ?_
      refine g_iret rfl dX8_staleBits_51 ?_
      have e9 : j.toNat = tc := by omega
      rw [e9] at hb
      exact k _ (b) hb HS (Scr2.refl _)
    · refine g_aload_n 13 dX8_staleBits_12 rfl rfl ?_
      refine g_iload_n 14 dX8_staleBits_13 rfl rfl ?_
      refine g_callV (z := mX8_toolAt) (As := [.int (iZ j)]) 17 dX8_staleBits_14 mwX8_toolAt ⟨by decide, by decide⟩ rfl wlX8_90 wiX8_toolAt wsX8_toolAt F0 rfl rfl rfl (nle rfl) (nle rfl) rfl ?_
      refine Go.to [some (.ref 0), some (.int (iZ j))] [] rfl rfl ?_
      refine g_iload_n 1 dX8_toolAt_0 rfl rfl ?_
      refine g_ifZ_lt 18 4 dX8_toolAt_1 rfl rfl (by omega) (fun q => absurd q (by omega)) (fun _ => ?_)
      refine g_iload_n 5 dX8_toolAt_4 rfl rfl ?_
      refine g_aload_n 6 dX8_toolAt_5 rfl rfl ?_
      refine g_get 9 dX8_toolAt_6 faX8_26_X8 F0 rfl rfl ?_
      refine g_icZ_ge 18 12 dX8_toolAt_9 rfl rfl (by omega) (by omega) (fun q => absurd q (by omega)) (fun _ => ?_)
      refine g_iload_n 13 dX8_toolAt_12 rfl rfl ?_
      refine g_bipush (v := iZ (12)) 15 dX8_toolAt_13 (by decide +kernel) rfl ?_
      refine g_icZ_lt 22 18 dX8_toolAt_15 rfl rfl (by omega) (by decide) (fun c2 => ?_) (fun c2 => ?_)
      · refine g_aload_n 23 dX8_toolAt_22 rfl rfl ?_
        refine g_get 26 dX8_toolAt_23 faX8_22_X8 F0 rfl rfl ?_
        refine g_iload_n 27 dX8_toolAt_26 rfl rfl ?_
        refine g_aaldZ 28 dX8_toolAt_27 F4 (by decide) (by omega) (by omega) (by decide) (tls_at (by omega) (by omega)) rfl ?_
        refine g_aret rfl (Or.inr ⟨_, rfl⟩) dX8_toolAt_28 ?_
        refine rR ?_
        refine g_astore_n (L1 := [some (.ref 0), some (.int (iZ b)), some (.int (iZ j)), some (.ref (71 + 4 * j.toNat))]) 18 dX8_staleBits_17 (by decide) rfl rfl rfl ?_
        refine g_aload_n 19 dX8_staleBits_18 rfl rfl ?_
        refine g_ifnull 22 dX8_staleBits_19 rfl ?_
        refine g_iload_n 23 dX8_staleBits_22 rfl rfl ?_
        refine g_aload_n 24 dX8_staleBits_23 rfl rfl ?_
        refine g_callS (z := mX8_isBuiltByOneOf) (As := [.int (iZ b), .ref (71 + 4 * j.toNat)]) 27 dX8_staleBits_24 mwX8_isBuiltByOneOf ⟨by decide, by decide⟩ rfl wlX8_252 wtX8_isBuiltByOneOf rfl (nle rfl) (nle rfl) rfl ?_
        refine z_blt1 HC (by omega) (by omega) (fun z3 rz3 => ?_)
        have bz3 : z3 = 0 ∨ z3 = 1 := rz3.elim (fun q => Or.inr q.1) (fun q => Or.inl q.1)
        refine rI ?_
        refine g_ifZ_ne 38 30 dX8_staleBits_27 rfl rfl (rg01 bz3) (fun c4 => ?_) (fun c4 => ?_)
        · refine g_iload_n 39 dX8_staleBits_38 rfl rfl ?_
          refine g_iconst (v := iZ (1)) 40 dX8_staleBits_39 rfl rfl ?_
          refine g_iload_n 41 dX8_staleBits_40 rfl rfl ?_
          refine g_ishlZ (2 ^ j.toNat) 42 dX8_staleBits_41 (by have q := shl16 j.toNat (by omega); rwa [Int.toNat_of_nonneg (by omega)] at q) rfl ?_
          refine g_iorZ (b + 2 ^ j.toNat) 43 dX8_staleBits_42 (orI hb (by omega) (stT_lt _)) rfl ?_
          refine g_istore_n (L1 := [some (.ref 0), some (.int (iZ (b + 2 ^ j.toNat))), some (.int (iZ j)), some (.ref (71 + 4 * j.toNat))]) 44 dX8_staleBits_43 (by decide) rfl rfl rfl ?_
          refine g_iincZ [some (.ref 0), some (.int (iZ (b + 2 ^ j.toNat))), some (.int (iZ (j + 1))), some (.ref (71 + 4 * j.toNat))] 47 dX8_staleBits_44 rfl (by omega) (by decide) rfl rfl rfl ?_
          refine g_goto 4 dX8_staleBits_47 rfl ?_
          refine Go.fgt 3 ?_
          exact ih _ (by omega) _ (b + 2 ^ j.toNat) (j + 1) rfl HC HS (by omega) (stT_i4 (j := j + 1) (by omega) (stT_iy (by omega) (by have q := (HL j.toNat (by omega)).2.2.2.1; omega) hb (Or.inl (rz3.elim (fun y => y.2) (fun y => absurd y.1 (by omega)))))) (stT_iy (by omega) (by have q := (HL j.toNat (by omega)).2.2.2.1; omega) hb (Or.inl (rz3.elim (fun y => y.2) (fun y => absurd y.1 (by omega))))) k
        · refine g_aload_n 31 dX8_staleBits_30 rfl rfl ?_
          refine g_aload_n 32 dX8_staleBits_31 rfl rfl ?_
          refine g_callV (z := mX8_madeAgain) (As := [.ref (71 + 4 * j.toNat)]) 35 dX8_staleBits_32 mwX8_madeAgain ⟨by decide, by decide⟩ rfl wlX8_154 wiX8_madeAgain wsX8_madeAgain F0 rfl rfl rfl (nle rfl) (nle rfl) rfl ?_
          refine z_again HC HS  (by omega) (fun h6 z5 rz5 H7 s8 => ?_)
          refine rI ?_
          refine g_ifZ_eq 44 38 dX8_staleBits_35 rfl rfl rz5.2 (fun c9 => ?_) (fun c9 => ?_)
          · refine g_iincZ [some (.ref 0), some (.int (iZ b)), some (.int (iZ (j + 1))), some (.ref (71 + 4 * j.toNat))] 47 dX8_staleBits_44 rfl (by omega) (by decide) rfl rfl rfl ?_
            refine g_goto 4 dX8_staleBits_47 rfl ?_
            refine Go.fgt 3 ?_
            exact ih _ (by omega) _ (b) (j + 1) rfl (HC.scr s8) H7 (by omega) (stT_i4 (j := j + 1) (by omega) (stT_in (by omega) (by have q := (HL j.toNat (by omega)).2.2.2.1; omega) hb (fun q => rz3.elim (fun y => absurd y.1 (by omega)) (fun y => y.2 q)) (rz5.1.mp (by omega)))) (stT_in (by omega) (by have q := (HL j.toNat (by omega)).2.2.2.1; omega) hb (fun q => rz3.elim (fun y => absurd y.1 (by omega)) (fun y => y.2 q)) (rz5.1.mp (by omega))) (fun h9 r9 y9 a9 b9 => k h9 r9 y9 a9 (s8.tr b9))
          · refine g_iload_n 39 dX8_staleBits_38 rfl rfl ?_
            refine g_iconst (v := iZ (1)) 40 dX8_staleBits_39 rfl rfl ?_
            refine g_iload_n 41 dX8_staleBits_40 rfl rfl ?_
            refine g_ishlZ (2 ^ j.toNat) 42 dX8_staleBits_41 (by have q := shl16 j.toNat (by omega); rwa [Int.toNat_of_nonneg (by omega)] at q) rfl ?_
            refine g_iorZ (b + 2 ^ j.toNat) 43 dX8_staleBits_42 (orI hb (by omega) (stT_lt _)) rfl ?_
            refine g_istore_n (L1 := [some (.ref 0), some (.int (iZ (b + 2 ^ j.toNat))), some (.int (iZ j)), some (.ref (71 + 4 * j.toNat))]) 44 dX8_staleBits_43 (by decide) rfl rfl rfl ?_
            refine g_iincZ [some (.ref 0), some (.int (iZ (b + 2 ^ j.toNat))), some (.int (iZ (j + 1))), some (.ref (71 + 4 * j.toNat))] 47 dX8_staleBits_44 rfl (by omega) (by decide) rfl rfl rfl ?_
            refine g_goto 4 dX8_staleBits_47 rfl ?_
            refine Go.fgt 3 ?_
            exact ih _ (by omega) _ (b + 2 ^ j.toNat) (j + 1) rfl (HC.scr s8) H7 (by omega) (stT_i4 (j := j + 1) (by omega) (stT_iy (by omega) (by have q := (HL j.toNat (by omega)).2.2.2.1; omega) hb (Or.inr (fun q => absurd (rz5.1.mpr q) (by omega))))) (stT_iy (by omega) (by have q := (HL j.toNat (by omega)).2.2.2.1; omega) hb (Or.inr (fun q => absurd (rz5.1.mpr q) (by omega)))) (fun h9 r9 y9 a9 b9 => k h9 r9 y9 a9 (s8.tr b9))
      · refine g_null 19 dX8_toolAt_18 rfl ?_
        refine g_goto 28 dX8_toolAt_19 rfl ?_
        refine g_aret rfl (Or.inl rfl) dX8_toolAt_28 ?_
        refine rN ?_
        refine g_astore_nN (L1 := [some (.ref 0), some (.int (iZ b)), some (.int (iZ j)), some (.null)]) 18 dX8_staleBits_17 (by decide) rfl rfl rfl ?_
        refine g_aload_nN 19 dX8_staleBits_18 rfl rfl ?_
        refine g_ifnullN 44 dX8_staleBits_19 rfl ?_
        refine g_iincZ [some (.ref 0), some (.int (iZ b)), some (.int (iZ (j + 1))), some (.null)] 47 dX8_staleBits_44 rfl (by omega) (by decide) rfl rfl rfl ?_
        refine g_goto 4 dX8_staleBits_47 rfl ?_
        refine Go.fgt 3 ?_
        exact ih _ (by omega) _ (b) (j + 1) rfl HC HS (by omega) (by omega) (by exfalso; omega) k
set_option maxRecDepth 100000 in
theorem z_stale {l : Launch} {h : MH} {Q : Option Value → MH → Prop} {tc : Nat} {tr : Int64} {xn : Nat → Int} {xf V Bf Lf : Nat → Nat → Int}  (HC : CORE2 h tc tr xn xf V Bf Lf) (HS : SC2 h)   (k : ∀ (h1 : MH) (r : Int), (r = ((stT xn (XF xf) V Bf tc : Nat) : Int)) → SC2 h1 → Scr2 h h1 → Q (some (.int (iZ r))) h1) : Go l mX8_staleBits 0 [some (.ref 0), none, none, none] [] h Q := by
  obtain ⟨F0, F3, F4, htc, HT, HL⟩ := id HC
  refine g_iconst (v := iZ (0)) 1 dX8_staleBits_0 rfl rfl ?_
  refine g_istore_n (L1 := [some (.ref 0), some (.int (iZ 0)), none, none]) 2 dX8_staleBits_1 (by decide) rfl rfl rfl ?_
  refine g_iconst (v := iZ (0)) 3 dX8_staleBits_2 rfl rfl ?_
  refine g_istore_n (L1 := [some (.ref 0), some (.int (iZ 0)), some (.int (iZ 0)), none]) 4 dX8_staleBits_3 (by decide) rfl rfl rfl ?_
  exact z_stale_l   _ _ (0) (0) rfl HC HS (by omega) (by omega) rfl k

set_option maxRecDepth 100000 in
set_option maxHeartbeats 4000000 in
theorem d8_settles {l : Launch} {h : MH} {Q : Option Value → MH → Prop} {tn : Int} {tf : Nat → Int} {xn : Nat → Int} {xf : Nat → Nat → Int} {en : Int} {tc : Nat} {tr : Int64} {V Bf Lf : Nat → Nat → Int} {q lm lo : Nat → Int} {t i : Int} (H : IX2 h tn tf xn xf en tc tr V Bf Lf q lm lo) (rt : rg t) (ri : rg i) (k : ∀ (h1 : MH) (r : Int), (seP (seF (xn i.toNat) (fun j => xf i.toNat j.toNat) 6 1 (V 0 t.toNat) (Bf t.toNat)) tc t i r) → IX2 h1 tn tf xn xf en tc tr V Bf Lf q lm lo → Mo h h1 → Q (some (.int (iZ r))) h1) : Go l mX8_settles 0 [some (.ref 0), some (.int (iZ t)), some (.int (iZ i)), none, none, none, none, none] [] h Q := by
  obtain ⟨HC, HS, HLm, HY, HE, hlen, hmz⟩ := id H
  obtain ⟨F0, F3, F4, htc, HT, HL⟩ := id HC
  refine g_aload_n 1 dX8_settles_0 rfl rfl ?_
  refine g_iload_n 2 dX8_settles_1 rfl rfl ?_
  refine g_callV (z := mX8_toolAt) (As := [.int (iZ t)]) 5 dX8_settles_2 mwX8_toolAt ⟨by decide, by decide⟩ rfl wlX8_90 wiX8_toolAt wsX8_toolAt F0 rfl rfl rfl (nle rfl) (nle rfl) rfl ?_
  refine Go.to [some (.ref 0), some (.int (iZ t))] [] rfl rfl ?_
  refine g_iload_n 1 dX8_toolAt_0 rfl rfl ?_
  refine g_ifZ_lt 18 4 dX8_toolAt_1 rfl rfl rt (fun c1 => ?_) (fun c1 => ?_)
  · refine g_null 19 dX8_toolAt_18 rfl ?_
    refine g_goto 28 dX8_toolAt_19 rfl ?_
    refine g_aret rfl (Or.inl rfl) dX8_toolAt_28 ?_
    refine rN ?_
    refine g_astore_nN (L1 := [some (.ref 0), some (.int (iZ t)), some (.int (iZ i)), some (.null), none, none, none, none]) 6 dX8_settles_5 (by decide) rfl rfl rfl ?_
    refine g_aload_n 7 dX8_settles_6 rfl rfl ?_
    refine g_iload_n 8 dX8_settles_7 rfl rfl ?_
    refine g_callV (z := mX8_textAt) (As := [.int (iZ i)]) 11 dX8_settles_8 mwX8_textAt ⟨by decide, by decide⟩ rfl wlX8_74 wiX8_textAt wsX8_textAt F0 rfl rfl rfl (nle rfl) (nle rfl) rfl ?_
    refine Go.to [some (.ref 0), some (.int (iZ i))] [] rfl rfl ?_
    refine g_iload_n 1 dX8_textAt_0 rfl rfl ?_
    refine g_ifZ_lt 10 4 dX8_textAt_1 rfl rfl ri (fun c2 => ?_) (fun c2 => ?_)
    · refine g_null 11 dX8_textAt_10 rfl ?_
      refine g_goto 20 dX8_textAt_11 rfl ?_
      refine g_aret rfl (Or.inl rfl) dX8_textAt_20 ?_
      refine rN ?_
      refine g_astoreN (L1 := [some (.ref 0), some (.int (iZ t)), some (.int (iZ i)), some (.null), some (.null), none, none, none]) 13 dX8_settles_11 (by decide) rfl rfl rfl ?_
      refine g_aload_nN 14 dX8_settles_13 rfl rfl ?_
      refine g_ifnullN 22 dX8_settles_14 rfl ?_
      refine g_iconst (v := iZ (-1)) 23 dX8_settles_22 rfl rfl ?_
      refine g_iret rfl dX8_settles_23 ?_
      exact k _ (-1) ⟨fun q => by omega, fun _ => rfl⟩ H (fun _ _ _ => rfl)
    · refine g_iload_n 5 dX8_textAt_4 rfl rfl ?_
      refine g_bipush (v := iZ (8)) 7 dX8_textAt_5 (by decide +kernel) rfl ?_
      refine g_icZ_lt 14 10 dX8_textAt_7 rfl rfl ri (by decide) (fun c3 => ?_) (fun c3 => ?_)
      · refine g_aload_n 15 dX8_textAt_14 rfl rfl ?_
        refine g_get 18 dX8_textAt_15 faX8_16_X8 F0 rfl rfl ?_
        refine g_iload_n 19 dX8_textAt_18 rfl rfl ?_
        refine g_aaldZ 20 dX8_textAt_19 F3 (by decide) (by omega) (by omega) (by decide) (txs_at (by omega) (by omega)) rfl ?_
        refine g_aret rfl (Or.inr ⟨_, rfl⟩) dX8_textAt_20 ?_
        refine rR ?_
        refine g_astore (L1 := [some (.ref 0), some (.int (iZ t)), some (.int (iZ i)), some (.null), some (.ref (34 + 2 * i.toNat)), none, none, none]) 13 dX8_settles_11 (by decide) rfl rfl rfl ?_
        refine g_aload_nN 14 dX8_settles_13 rfl rfl ?_
        refine g_ifnullN 22 dX8_settles_14 rfl ?_
        refine g_iconst (v := iZ (-1)) 23 dX8_settles_22 rfl rfl ?_
        refine g_iret rfl dX8_settles_23 ?_
        exact k _ (-1) ⟨fun q => by omega, fun _ => rfl⟩ H (fun _ _ _ => rfl)
      · refine g_null 11 dX8_textAt_10 rfl ?_
        refine g_goto 20 dX8_textAt_11 rfl ?_
        refine g_aret rfl (Or.inl rfl) dX8_textAt_20 ?_
        refine rN ?_
        refine g_astoreN (L1 := [some (.ref 0), some (.int (iZ t)), some (.int (iZ i)), some (.null), some (.null), none, none, none]) 13 dX8_settles_11 (by decide) rfl rfl rfl ?_
        refine g_aload_nN 14 dX8_settles_13 rfl rfl ?_
        refine g_ifnullN 22 dX8_settles_14 rfl ?_
        refine g_iconst (v := iZ (-1)) 23 dX8_settles_22 rfl rfl ?_
        refine g_iret rfl dX8_settles_23 ?_
        exact k _ (-1) ⟨fun q => by omega, fun _ => rfl⟩ H (fun _ _ _ => rfl)
  · refine g_iload_n 5 dX8_toolAt_4 rfl rfl ?_
    refine g_aload_n 6 dX8_toolAt_5 rfl rfl ?_
    refine g_get 9 dX8_toolAt_6 faX8_26_X8 F0 rfl rfl ?_
    refine g_icZ_ge 18 12 dX8_toolAt_9 rfl rfl rt (by omega) (fun c4 => ?_) (fun c4 => ?_)
    · refine g_null 19 dX8_toolAt_18 rfl ?_
      refine g_goto 28 dX8_toolAt_19 rfl ?_
      refine g_aret rfl (Or.inl rfl) dX8_toolAt_28 ?_
      refine rN ?_
      refine g_astore_nN (L1 := [some (.ref 0), some (.int (iZ t)), some (.int (iZ i)), some (.null), none, none, none, none]) 6 dX8_settles_5 (by decide) rfl rfl rfl ?_
      refine g_aload_n 7 dX8_settles_6 rfl rfl ?_
      refine g_iload_n 8 dX8_settles_7 rfl rfl ?_
      refine g_callV (z := mX8_textAt) (As := [.int (iZ i)]) 11 dX8_settles_8 mwX8_textAt ⟨by decide, by decide⟩ rfl wlX8_74 wiX8_textAt wsX8_textAt F0 rfl rfl rfl (nle rfl) (nle rfl) rfl ?_
      refine Go.to [some (.ref 0), some (.int (iZ i))] [] rfl rfl ?_
      refine g_iload_n 1 dX8_textAt_0 rfl rfl ?_
      refine g_ifZ_lt 10 4 dX8_textAt_1 rfl rfl ri (fun c5 => ?_) (fun c5 => ?_)
      · refine g_null 11 dX8_textAt_10 rfl ?_
        refine g_goto 20 dX8_textAt_11 rfl ?_
        refine g_aret rfl (Or.inl rfl) dX8_textAt_20 ?_
        refine rN ?_
        refine g_astoreN (L1 := [some (.ref 0), some (.int (iZ t)), some (.int (iZ i)), some (.null), some (.null), none, none, none]) 13 dX8_settles_11 (by decide) rfl rfl rfl ?_
        refine g_aload_nN 14 dX8_settles_13 rfl rfl ?_
        refine g_ifnullN 22 dX8_settles_14 rfl ?_
        refine g_iconst (v := iZ (-1)) 23 dX8_settles_22 rfl rfl ?_
        refine g_iret rfl dX8_settles_23 ?_
        exact k _ (-1) ⟨fun q => by omega, fun _ => rfl⟩ H (fun _ _ _ => rfl)
      · refine g_iload_n 5 dX8_textAt_4 rfl rfl ?_
        refine g_bipush (v := iZ (8)) 7 dX8_textAt_5 (by decide +kernel) rfl ?_
        refine g_icZ_lt 14 10 dX8_textAt_7 rfl rfl ri (by decide) (fun c6 => ?_) (fun c6 => ?_)
        · refine g_aload_n 15 dX8_textAt_14 rfl rfl ?_
          refine g_get 18 dX8_textAt_15 faX8_16_X8 F0 rfl rfl ?_
          refine g_iload_n 19 dX8_textAt_18 rfl rfl ?_
          refine g_aaldZ 20 dX8_textAt_19 F3 (by decide) (by omega) (by omega) (by decide) (txs_at (by omega) (by omega)) rfl ?_
          refine g_aret rfl (Or.inr ⟨_, rfl⟩) dX8_textAt_20 ?_
          refine rR ?_
          refine g_astore (L1 := [some (.ref 0), some (.int (iZ t)), some (.int (iZ i)), some (.null), some (.ref (34 + 2 * i.toNat)), none, none, none]) 13 dX8_settles_11 (by decide) rfl rfl rfl ?_
          refine g_aload_nN 14 dX8_settles_13 rfl rfl ?_
          refine g_ifnullN 22 dX8_settles_14 rfl ?_
          refine g_iconst (v := iZ (-1)) 23 dX8_settles_22 rfl rfl ?_
          refine g_iret rfl dX8_settles_23 ?_
          exact k _ (-1) ⟨fun q => by omega, fun _ => rfl⟩ H (fun _ _ _ => rfl)
        · refine g_null 11 dX8_textAt_10 rfl ?_
          refine g_goto 20 dX8_textAt_11 rfl ?_
          refine g_aret rfl (Or.inl rfl) dX8_textAt_20 ?_
          refine rN ?_
          refine g_astoreN (L1 := [some (.ref 0), some (.int (iZ t)), some (.int (iZ i)), some (.null), some (.null), none, none, none]) 13 dX8_settles_11 (by decide) rfl rfl rfl ?_
          refine g_aload_nN 14 dX8_settles_13 rfl rfl ?_
          refine g_ifnullN 22 dX8_settles_14 rfl ?_
          refine g_iconst (v := iZ (-1)) 23 dX8_settles_22 rfl rfl ?_
          refine g_iret rfl dX8_settles_23 ?_
          exact k _ (-1) ⟨fun q => by omega, fun _ => rfl⟩ H (fun _ _ _ => rfl)
    · refine g_iload_n 13 dX8_toolAt_12 rfl rfl ?_
      refine g_bipush (v := iZ (12)) 15 dX8_toolAt_13 (by decide +kernel) rfl ?_
      refine g_icZ_lt 22 18 dX8_toolAt_15 rfl rfl rt (by decide) (fun c7 => ?_) (fun c7 => ?_)
      · refine g_aload_n 23 dX8_toolAt_22 rfl rfl ?_
        refine g_get 26 dX8_toolAt_23 faX8_22_X8 F0 rfl rfl ?_
        refine g_iload_n 27 dX8_toolAt_26 rfl rfl ?_
        refine g_aaldZ 28 dX8_toolAt_27 F4 (by decide) (by omega) (by omega) (by decide) (tls_at (by omega) (by omega)) rfl ?_
        refine g_aret rfl (Or.inr ⟨_, rfl⟩) dX8_toolAt_28 ?_
        refine rR ?_
        refine g_astore_n (L1 := [some (.ref 0), some (.int (iZ t)), some (.int (iZ i)), some (.ref (71 + 4 * t.toNat)), none, none, none, none]) 6 dX8_settles_5 (by decide) rfl rfl rfl ?_
        refine g_aload_n 7 dX8_settles_6 rfl rfl ?_
        refine g_iload_n 8 dX8_settles_7 rfl rfl ?_
        refine g_callV (z := mX8_textAt) (As := [.int (iZ i)]) 11 dX8_settles_8 mwX8_textAt ⟨by decide, by decide⟩ rfl wlX8_74 wiX8_textAt wsX8_textAt F0 rfl rfl rfl (nle rfl) (nle rfl) rfl ?_
        refine Go.to [some (.ref 0), some (.int (iZ i))] [] rfl rfl ?_
        refine g_iload_n 1 dX8_textAt_0 rfl rfl ?_
        refine g_ifZ_lt 10 4 dX8_textAt_1 rfl rfl ri (fun c8 => ?_) (fun c8 => ?_)
        · refine g_null 11 dX8_textAt_10 rfl ?_
          refine g_goto 20 dX8_textAt_11 rfl ?_
          refine g_aret rfl (Or.inl rfl) dX8_textAt_20 ?_
          refine rN ?_
          refine g_astoreN (L1 := [some (.ref 0), some (.int (iZ t)), some (.int (iZ i)), some (.ref (71 + 4 * t.toNat)), some (.null), none, none, none]) 13 dX8_settles_11 (by decide) rfl rfl rfl ?_
          refine g_aload_n 14 dX8_settles_13 rfl rfl ?_
          refine g_ifnull 17 dX8_settles_14 rfl ?_
          refine g_aloadN 19 dX8_settles_17 rfl rfl ?_
          refine g_ifnonnullN 22 dX8_settles_19 rfl ?_
          refine g_iconst (v := iZ (-1)) 23 dX8_settles_22 rfl rfl ?_
          refine g_iret rfl dX8_settles_23 ?_
          exact k _ (-1) ⟨fun q => by omega, fun _ => rfl⟩ H (fun _ _ _ => rfl)
        · refine g_iload_n 5 dX8_textAt_4 rfl rfl ?_
          refine g_bipush (v := iZ (8)) 7 dX8_textAt_5 (by decide +kernel) rfl ?_
          refine g_icZ_lt 14 10 dX8_textAt_7 rfl rfl ri (by decide) (fun c9 => ?_) (fun c9 => ?_)
          · refine g_aload_n 15 dX8_textAt_14 rfl rfl ?_
            refine g_get 18 dX8_textAt_15 faX8_16_X8 F0 rfl rfl ?_
            refine g_iload_n 19 dX8_textAt_18 rfl rfl ?_
            refine g_aaldZ 20 dX8_textAt_19 F3 (by decide) (by omega) (by omega) (by decide) (txs_at (by omega) (by omega)) rfl ?_
            refine g_aret rfl (Or.inr ⟨_, rfl⟩) dX8_textAt_20 ?_
            refine rR ?_
            refine g_astore (L1 := [some (.ref 0), some (.int (iZ t)), some (.int (iZ i)), some (.ref (71 + 4 * t.toNat)), some (.ref (34 + 2 * i.toNat)), none, none, none]) 13 dX8_settles_11 (by decide) rfl rfl rfl ?_
            refine g_aload_n 14 dX8_settles_13 rfl rfl ?_
            refine g_ifnull 17 dX8_settles_14 rfl ?_
            refine g_aload 19 dX8_settles_17 rfl rfl ?_
            refine g_ifnonnull 24 dX8_settles_19 rfl ?_
            refine g_aload_n 25 dX8_settles_24 rfl rfl ?_
            obtain ⟨ta1_10, ta2_10, ta3_10, ta4_10, ta5_10, ta6_10, ta7_10, ta8_10, ta9_10, tb0_10, tb1_10, tb2_10, tb3_10⟩ := HL (t.toNat) (by omega)
            refine g_get 28 dX8_settles_25 faX8_94_X7 tb0_10 rfl rfl ?_
            refine g_astore (L1 := [some (.ref 0), some (.int (iZ t)), some (.int (iZ i)), some (.ref (71 + 4 * t.toNat)), some (.ref (34 + 2 * i.toNat)), some (.ref (71 + 4 * t.toNat + 1)), none, none]) 30 dX8_settles_28 (by decide) rfl rfl rfl ?_
            refine g_iconst (v := iZ (1)) 31 dX8_settles_30 rfl rfl ?_
            refine g_istore (L1 := [some (.ref 0), some (.int (iZ t)), some (.int (iZ i)), some (.ref (71 + 4 * t.toNat)), some (.ref (34 + 2 * i.toNat)), some (.ref (71 + 4 * t.toNat + 1)), some (.int (iZ 1)), none]) 33 dX8_settles_31 (by decide) rfl rfl rfl ?_
            refine g_iload 35 dX8_settles_33 rfl rfl ?_
            refine g_bipush (v := iZ (6)) 37 dX8_settles_35 (by decide +kernel) rfl ?_
            refine g_icZ_gt 105 40 dX8_settles_37 rfl rfl (by decide) (by decide) (fun q => absurd q (by decide)) (fun _ => ?_)
            refine g_iload 42 dX8_settles_40 rfl rfl ?_
            refine g_iconst (v := iZ (2)) 43 dX8_settles_42 rfl rfl ?_
            refine g_irem 44 dX8_settles_43 (by decide +kernel) rfl ?_
            refine Go.eqI (iZ (1)) (by decide +kernel) ?_
            refine g_iconst (v := iZ (1)) 45 dX8_settles_44 rfl rfl ?_
            refine g_icZ_ne 55 48 dX8_settles_45 rfl rfl (by decide) (by decide) (fun q => absurd q (by decide)) (fun _ => ?_)
            refine g_aload_n 49 dX8_settles_48 rfl rfl ?_
            refine g_get 52 dX8_settles_49 faX8_50_X8 F0 rfl rfl ?_
            refine g_goto 59 dX8_settles_52 rfl ?_
            refine g_astore (L1 := [some (.ref 0), some (.int (iZ t)), some (.int (iZ i)), some (.ref (71 + 4 * t.toNat)), some (.ref (34 + 2 * i.toNat)), some (.ref (71 + 4 * t.toNat + 1)), some (.int (iZ 1)), some (.ref 20)]) 61 dX8_settles_59 (by decide) rfl rfl rfl ?_
            refine g_aload 63 dX8_settles_61 rfl rfl ?_
            refine g_aload 65 dX8_settles_63 rfl rfl ?_
            refine g_aload 67 dX8_settles_65 rfl rfl ?_
            obtain ⟨a_11, x_11, p_11, en_11, dn_11, tk_11, hm_11, on_11, mm_11, of_11, og_11, ma1_11, ma2_11, ma3_11, ma4_11, ma5_11, ma6_11, ma7_11, ma8_11, ma9_11, ma10_11, ma11_11, mb0_11, mb1_11, mb2_11, mb3_11, mb4_11⟩ := SC2.m (m := 20) (by decide) HS
            refine g_callV (z := mX2_builds) (As := [.ref (71 + 4 * t.toNat + 1), .ref (34 + 2 * i.toNat)]) 70 dX8_settles_67 mwX2_builds ⟨by decide, by decide⟩ rfl wlX8_98 wiX2_builds wsX2_builds mb0_11 rfl rfl rfl (nle rfl) (nle rfl) rfl ?_
            obtain ⟨t0_12, t1_12, t2_12, t3_12, t4_12⟩ := HT (i.toNat) (by omega)
            refine sc2_bl (m := 20) (M := (V 0 t.toNat).toNat) (by decide) HS tb1_10 tb2_10 tb3_10 ta8_10 ta9_10 (by omega) (by omega) (by omega) (by omega) t0_12 t1_12 t4_12 (by omega) (by omega) (fun h13 z14 a15 x16 p17 e18 d19 t20 hm21 c22 mm23 of24 og25 r26 R27 X28 H29 s30 => ?_)
            have S31 : Scr2 _ _ := s30.scr2 (by decide)
            obtain ⟨ma1_32, ma2_32, ma3_32, ma4_32, ma5_32, ma6_32, ma7_32, ma8_32, ma9_32, ma10_32, ma11_32, mb0_32, mb1_32, mb2_32, mb3_32, mb4_32⟩ := id X28
            refine rI ?_
            refine g_ifZ_ne 76 73 dX8_settles_70 rfl rfl (rg01 (by omega)) (fun c33 => ?_) (fun c33 => ?_)
            · refine g_aload 78 dX8_settles_76 rfl rfl ?_
              refine g_aload 80 dX8_settles_78 rfl rfl ?_
              refine g_get 83 dX8_settles_80 faX8_102_X2 mb0_32 rfl rfl ?_
              have f34 := (S31.get (by omega) tb1_10)
              refine g_callV (z := mX0_unlike) (As := [.ref 22]) 86 dX8_settles_83 mwX0_unlike ⟨by decide, by decide⟩ rfl wlX8_162 wiX0_unlike wsX0_unlike f34 rfl rfl rfl (nle rfl) (nle rfl) rfl ?_
              have f35 := (S31.get (by omega) tb2_10)
              have f36 := (S31.get (by omega) tb3_10)
              refine c_unl (M := (V 0 t.toNat).toNat) (N := 256) f34 f35 f36 mb2_32 mb3_32 mb4_32 ta8_10 ta9_10 ma10_32 ma11_32 (by omega) (by omega) (by omega) (by omega) (by omega) (by omega) (fun z37 rz37 => ?_)
              refine rI ?_
              refine g_ifZ_ne 92 89 dX8_settles_86 rfl rfl (by omega) (fun c38 => ?_) (fun c38 => ?_)
              · refine g_aload 94 dX8_settles_92 rfl rfl ?_
                refine g_get 97 dX8_settles_94 faX8_102_X2 mb0_32 rfl rfl ?_
                refine g_astore (L1 := [some (.ref 0), some (.int (iZ t)), some (.int (iZ i)), some (.ref (71 + 4 * t.toNat)), some (.ref (34 + 2 * i.toNat)), some (.ref 22), some (.int (iZ 1)), some (.ref 20)]) 99 dX8_settles_97 (by decide) rfl rfl rfl ?_
                refine g_iincZ [some (.ref 0), some (.int (iZ t)), some (.int (iZ i)), some (.ref (71 + 4 * t.toNat)), some (.ref (34 + 2 * i.toNat)), some (.ref 22), some (.int (iZ 2)), some (.ref 20)] 102 dX8_settles_99 rfl rfl (by decide) rfl rfl rfl ?_
                refine g_goto 33 dX8_settles_102 rfl ?_
                refine g_iload 35 dX8_settles_33 rfl rfl ?_
                refine g_bipush (v := iZ (6)) 37 dX8_settles_35 (by decide +kernel) rfl ?_
                refine g_icZ_gt 105 40 dX8_settles_37 rfl rfl (by decide) (by decide) (fun q => absurd q (by decide)) (fun _ => ?_)
                refine g_iload 42 dX8_settles_40 rfl rfl ?_
                refine g_iconst (v := iZ (2)) 43 dX8_settles_42 rfl rfl ?_
                refine g_irem 44 dX8_settles_43 (by decide +kernel) rfl ?_
                refine Go.eqI (iZ (0)) (by decide +kernel) ?_
                refine g_iconst (v := iZ (1)) 45 dX8_settles_44 rfl rfl ?_
                refine g_icZ_ne 55 48 dX8_settles_45 rfl rfl (by decide) (by decide) (fun _ => ?_) (fun q => absurd q (by decide))
                refine g_aload_n 56 dX8_settles_55 rfl rfl ?_
                have f39 := (S31.get (by omega) F0)
                refine g_get 59 dX8_settles_56 faX8_53_X8 f39 rfl rfl ?_
                refine g_astore (L1 := [some (.ref 0), some (.int (iZ t)), some (.int (iZ i)), some (.ref (71 + 4 * t.toNat)), some (.ref (34 + 2 * i.toNat)), some (.ref 22), some (.int (iZ 2)), some (.ref 25)]) 61 dX8_settles_59 (by decide) rfl rfl rfl ?_
                refine g_aload 63 dX8_settles_61 rfl rfl ?_
                refine g_aload 65 dX8_settles_63 rfl rfl ?_
                refine g_aload 67 dX8_settles_65 rfl rfl ?_
                obtain ⟨a_40, x_40, p_40, en_40, dn_40, tk_40, hm_40, on_40, mm_40, of_40, og_40, ma1_40, ma2_40, ma3_40, ma4_40, ma5_40, ma6_40, ma7_40, ma8_40, ma9_40, ma10_40, ma11_40, mb0_40, mb1_40, mb2_40, mb3_40, mb4_40⟩ := SC2.m (m := 25) (by decide) H29
                refine g_callV (z := mX2_builds) (As := [.ref 22, .ref (34 + 2 * i.toNat)]) 70 dX8_settles_67 mwX2_builds ⟨by decide, by decide⟩ rfl wlX8_98 wiX2_builds wsX2_builds mb0_40 rfl rfl rfl (nle rfl) (nle rfl) rfl ?_
                have g0 := (se_go (k := 5) (u := (1)) (r26.elim (fun q => q.2) (fun q => absurd q.1 (by omega))) R27 (by have q := rz37.1; omega))
                have f41 := (S31.get (by omega) t0_12)
                have f42 := (S31.get (by omega) t1_12)
                refine sc2_bl (m := 25) (M := 256) (by decide) H29 mb2_32 mb3_32 mb4_32 ma10_32 ma11_32 (by omega) (by decide) (by omega) (by omega) f41 f42 t4_12 (by omega) (by omega) (fun h43 z44 a45 x46 p47 e48 d49 t50 hm51 c52 mm53 of54 og55 r56 R57 X58 H59 s60 => ?_)
                have S61 : Scr2 _ _ := s60.scr2 (by decide)
                have f62 := s60.get (by decide) mb0_32
                have f63 := s60.get (by decide) mb1_32
                have f64 := s60.get (by decide) mb2_32
                have f65 := s60.get (by decide) mb3_32
                have f66 := s60.get (by decide) mb4_32
                obtain ⟨ma1_67, ma2_67, ma3_67, ma4_67, ma5_67, ma6_67, ma7_67, ma8_67, ma9_67, ma10_67, ma11_67, mb0_67, mb1_67, mb2_67, mb3_67, mb4_67⟩ := id X58
                refine rI ?_
                refine g_ifZ_ne 76 73 dX8_settles_70 rfl rfl (rg01 (by omega)) (fun c68 => ?_) (fun c68 => ?_)
                · refine g_aload 78 dX8_settles_76 rfl rfl ?_
                  refine g_aload 80 dX8_settles_78 rfl rfl ?_
                  refine g_get 83 dX8_settles_80 faX8_102_X2 mb0_67 rfl rfl ?_
                  refine g_callV (z := mX0_unlike) (As := [.ref 27]) 86 dX8_settles_83 mwX0_unlike ⟨by decide, by decide⟩ rfl wlX8_162 wiX0_unlike wsX0_unlike f64 rfl rfl rfl (nle rfl) (nle rfl) rfl ?_
                  refine c_unl (M := 256) (N := 256) f64 f65 f66 mb2_67 mb3_67 mb4_67 ma10_32 ma11_32 ma10_67 ma11_67 (by omega) (by omega) (by omega) (by omega) (by omega) (by omega) (fun z69 rz69 => ?_)
                  refine rI ?_
                  refine g_ifZ_ne 92 89 dX8_settles_86 rfl rfl (by omega) (fun c70 => ?_) (fun c70 => ?_)
                  · refine g_aload 94 dX8_settles_92 rfl rfl ?_
                    refine g_get 97 dX8_settles_94 faX8_102_X2 mb0_67 rfl rfl ?_
                    refine g_astore (L1 := [some (.ref 0), some (.int (iZ t)), some (.int (iZ i)), some (.ref (71 + 4 * t.toNat)), some (.ref (34 + 2 * i.toNat)), some (.ref 27), some (.int (iZ 2)), some (.ref 25)]) 99 dX8_settles_97 (by decide) rfl rfl rfl ?_
                    refine g_iincZ [some (.ref 0), some (.int (iZ t)), some (.int (iZ i)), some (.ref (71 + 4 * t.toNat)), some (.ref (34 + 2 * i.toNat)), some (.ref 27), some (.int (iZ 3)), some (.ref 25)] 102 dX8_settles_99 rfl rfl (by decide) rfl rfl rfl ?_
                    refine g_goto 33 dX8_settles_102 rfl ?_
                    refine g_iload 35 dX8_settles_33 rfl rfl ?_
                    refine g_bipush (v := iZ (6)) 37 dX8_settles_35 (by decide +kernel) rfl ?_
                    refine g_icZ_gt 105 40 dX8_settles_37 rfl rfl (by decide) (by decide) (fun q => absurd q (by decide)) (fun _ => ?_)
                    refine g_iload 42 dX8_settles_40 rfl rfl ?_
                    refine g_iconst (v := iZ (2)) 43 dX8_settles_42 rfl rfl ?_
                    refine g_irem 44 dX8_settles_43 (by decide +kernel) rfl ?_
                    refine Go.eqI (iZ (1)) (by decide +kernel) ?_
                    refine g_iconst (v := iZ (1)) 45 dX8_settles_44 rfl rfl ?_
                    refine g_icZ_ne 55 48 dX8_settles_45 rfl rfl (by decide) (by decide) (fun q => absurd q (by decide)) (fun _ => ?_)
                    refine g_aload_n 49 dX8_settles_48 rfl rfl ?_
                    have f71 := (S61.get (by omega) f39)
                    refine g_get 52 dX8_settles_49 faX8_50_X8 f71 rfl rfl ?_
                    refine g_goto 59 dX8_settles_52 rfl ?_
                    refine g_astore (L1 := [some (.ref 0), some (.int (iZ t)), some (.int (iZ i)), some (.ref (71 + 4 * t.toNat)), some (.ref (34 + 2 * i.toNat)), some (.ref 27), some (.int (iZ 3)), some (.ref 20)]) 61 dX8_settles_59 (by decide) rfl rfl rfl ?_
                    refine g_aload 63 dX8_settles_61 rfl rfl ?_
                    refine g_aload 65 dX8_settles_63 rfl rfl ?_
                    refine g_aload 67 dX8_settles_65 rfl rfl ?_
                    refine g_callV (z := mX2_builds) (As := [.ref 27, .ref (34 + 2 * i.toNat)]) 70 dX8_settles_67 mwX2_builds ⟨by decide, by decide⟩ rfl wlX8_98 wiX2_builds wsX2_builds f62 rfl rfl rfl (nle rfl) (nle rfl) rfl ?_
                    have g1 := g0.trans (se_go (k := 4) (u := (1 + 1)) (r56.elim (fun q => q.2) (fun q => absurd q.1 (by omega))) R57 (by have q := rz69.1; omega))
                    have f72 := (S61.get (by omega) f41)
                    have f73 := (S61.get (by omega) f42)
                    refine sc2_bl (m := 20) (M := 256) (by decide) H59 mb2_67 mb3_67 mb4_67 ma10_67 ma11_67 (by omega) (by decide) (by omega) (by omega) f72 f73 t4_12 (by omega) (by omega) (fun h74 z75 a76 x77 p78 e79 d80 t81 hm82 c83 mm84 of85 og86 r87 R88 X89 H90 s91 => ?_)
                    have S92 : Scr2 _ _ := s91.scr2 (by decide)
                    have f93 := s91.get (by decide) mb0_67
                    have f94 := s91.get (by decide) mb1_67
                    have f95 := s91.get (by decide) mb2_67
                    have f96 := s91.get (by decide) mb3_67
                    have f97 := s91.get (by decide) mb4_67
                    obtain ⟨ma1_98, ma2_98, ma3_98, ma4_98, ma5_98, ma6_98, ma7_98, ma8_98, ma9_98, ma10_98, ma11_98, mb0_98, mb1_98, mb2_98, mb3_98, mb4_98⟩ := id X89
                    refine rI ?_
                    refine g_ifZ_ne 76 73 dX8_settles_70 rfl rfl (rg01 (by omega)) (fun c99 => ?_) (fun c99 => ?_)
                    · refine g_aload 78 dX8_settles_76 rfl rfl ?_
                      refine g_aload 80 dX8_settles_78 rfl rfl ?_
                      refine g_get 83 dX8_settles_80 faX8_102_X2 mb0_98 rfl rfl ?_
                      refine g_callV (z := mX0_unlike) (As := [.ref 22]) 86 dX8_settles_83 mwX0_unlike ⟨by decide, by decide⟩ rfl wlX8_162 wiX0_unlike wsX0_unlike f95 rfl rfl rfl (nle rfl) (nle rfl) rfl ?_
                      refine c_unl (M := 256) (N := 256) f95 f96 f97 mb2_98 mb3_98 mb4_98 ma10_67 ma11_67 ma10_98 ma11_98 (by omega) (by omega) (by omega) (by omega) (by omega) (by omega) (fun z100 rz100 => ?_)
                      refine rI ?_
                      refine g_ifZ_ne 92 89 dX8_settles_86 rfl rfl (by omega) (fun c101 => ?_) (fun c101 => ?_)
                      · refine g_aload 94 dX8_settles_92 rfl rfl ?_
                        refine g_get 97 dX8_settles_94 faX8_102_X2 mb0_98 rfl rfl ?_
                        refine g_astore (L1 := [some (.ref 0), some (.int (iZ t)), some (.int (iZ i)), some (.ref (71 + 4 * t.toNat)), some (.ref (34 + 2 * i.toNat)), some (.ref 22), some (.int (iZ 3)), some (.ref 20)]) 99 dX8_settles_97 (by decide) rfl rfl rfl ?_
                        refine g_iincZ [some (.ref 0), some (.int (iZ t)), some (.int (iZ i)), some (.ref (71 + 4 * t.toNat)), some (.ref (34 + 2 * i.toNat)), some (.ref 22), some (.int (iZ 4)), some (.ref 20)] 102 dX8_settles_99 rfl rfl (by decide) rfl rfl rfl ?_
                        refine g_goto 33 dX8_settles_102 rfl ?_
                        refine g_iload 35 dX8_settles_33 rfl rfl ?_
                        refine g_bipush (v := iZ (6)) 37 dX8_settles_35 (by decide +kernel) rfl ?_
                        refine g_icZ_gt 105 40 dX8_settles_37 rfl rfl (by decide) (by decide) (fun q => absurd q (by decide)) (fun _ => ?_)
                        refine g_iload 42 dX8_settles_40 rfl rfl ?_
                        refine g_iconst (v := iZ (2)) 43 dX8_settles_42 rfl rfl ?_
                        refine g_irem 44 dX8_settles_43 (by decide +kernel) rfl ?_
                        refine Go.eqI (iZ (0)) (by decide +kernel) ?_
                        refine g_iconst (v := iZ (1)) 45 dX8_settles_44 rfl rfl ?_
                        refine g_icZ_ne 55 48 dX8_settles_45 rfl rfl (by decide) (by decide) (fun _ => ?_) (fun q => absurd q (by decide))
                        refine g_aload_n 56 dX8_settles_55 rfl rfl ?_
                        have f102 := (S92.get (by omega) f71)
                        refine g_get 59 dX8_settles_56 faX8_53_X8 f102 rfl rfl ?_
                        refine g_astore (L1 := [some (.ref 0), some (.int (iZ t)), some (.int (iZ i)), some (.ref (71 + 4 * t.toNat)), some (.ref (34 + 2 * i.toNat)), some (.ref 22), some (.int (iZ 4)), some (.ref 25)]) 61 dX8_settles_59 (by decide) rfl rfl rfl ?_
                        refine g_aload 63 dX8_settles_61 rfl rfl ?_
                        refine g_aload 65 dX8_settles_63 rfl rfl ?_
                        refine g_aload 67 dX8_settles_65 rfl rfl ?_
                        refine g_callV (z := mX2_builds) (As := [.ref 22, .ref (34 + 2 * i.toNat)]) 70 dX8_settles_67 mwX2_builds ⟨by decide, by decide⟩ rfl wlX8_98 wiX2_builds wsX2_builds f93 rfl rfl rfl (nle rfl) (nle rfl) rfl ?_
                        have g2 := g1.trans (se_go (k := 3) (u := (1 + 1 + 1)) (r87.elim (fun q => q.2) (fun q => absurd q.1 (by omega))) R88 (by have q := rz100.1; omega))
                        have f103 := (S92.get (by omega) f72)
                        have f104 := (S92.get (by omega) f73)
                        refine sc2_bl (m := 25) (M := 256) (by decide) H90 mb2_98 mb3_98 mb4_98 ma10_98 ma11_98 (by omega) (by decide) (by omega) (by omega) f103 f104 t4_12 (by omega) (by omega) (fun h105 z106 a107 x108 p109 e110 d111 t112 hm113 c114 mm115 of116 og117 r118 R119 X120 H121 s122 => ?_)
                        have S123 : Scr2 _ _ := s122.scr2 (by decide)
                        have f124 := s122.get (by decide) mb0_98
                        have f125 := s122.get (by decide) mb1_98
                        have f126 := s122.get (by decide) mb2_98
                        have f127 := s122.get (by decide) mb3_98
                        have f128 := s122.get (by decide) mb4_98
                        obtain ⟨ma1_129, ma2_129, ma3_129, ma4_129, ma5_129, ma6_129, ma7_129, ma8_129, ma9_129, ma10_129, ma11_129, mb0_129, mb1_129, mb2_129, mb3_129, mb4_129⟩ := id X120
                        refine rI ?_
                        refine g_ifZ_ne 76 73 dX8_settles_70 rfl rfl (rg01 (by omega)) (fun c130 => ?_) (fun c130 => ?_)
                        · refine g_aload 78 dX8_settles_76 rfl rfl ?_
                          refine g_aload 80 dX8_settles_78 rfl rfl ?_
                          refine g_get 83 dX8_settles_80 faX8_102_X2 mb0_129 rfl rfl ?_
                          refine g_callV (z := mX0_unlike) (As := [.ref 27]) 86 dX8_settles_83 mwX0_unlike ⟨by decide, by decide⟩ rfl wlX8_162 wiX0_unlike wsX0_unlike f126 rfl rfl rfl (nle rfl) (nle rfl) rfl ?_
                          refine c_unl (M := 256) (N := 256) f126 f127 f128 mb2_129 mb3_129 mb4_129 ma10_98 ma11_98 ma10_129 ma11_129 (by omega) (by omega) (by omega) (by omega) (by omega) (by omega) (fun z131 rz131 => ?_)
                          refine rI ?_
                          refine g_ifZ_ne 92 89 dX8_settles_86 rfl rfl (by omega) (fun c132 => ?_) (fun c132 => ?_)
                          · refine g_aload 94 dX8_settles_92 rfl rfl ?_
                            refine g_get 97 dX8_settles_94 faX8_102_X2 mb0_129 rfl rfl ?_
                            refine g_astore (L1 := [some (.ref 0), some (.int (iZ t)), some (.int (iZ i)), some (.ref (71 + 4 * t.toNat)), some (.ref (34 + 2 * i.toNat)), some (.ref 27), some (.int (iZ 4)), some (.ref 25)]) 99 dX8_settles_97 (by decide) rfl rfl rfl ?_
                            refine g_iincZ [some (.ref 0), some (.int (iZ t)), some (.int (iZ i)), some (.ref (71 + 4 * t.toNat)), some (.ref (34 + 2 * i.toNat)), some (.ref 27), some (.int (iZ 5)), some (.ref 25)] 102 dX8_settles_99 rfl rfl (by decide) rfl rfl rfl ?_
                            refine g_goto 33 dX8_settles_102 rfl ?_
                            refine g_iload 35 dX8_settles_33 rfl rfl ?_
                            refine g_bipush (v := iZ (6)) 37 dX8_settles_35 (by decide +kernel) rfl ?_
                            refine g_icZ_gt 105 40 dX8_settles_37 rfl rfl (by decide) (by decide) (fun q => absurd q (by decide)) (fun _ => ?_)
                            refine g_iload 42 dX8_settles_40 rfl rfl ?_
                            refine g_iconst (v := iZ (2)) 43 dX8_settles_42 rfl rfl ?_
                            refine g_irem 44 dX8_settles_43 (by decide +kernel) rfl ?_
                            refine Go.eqI (iZ (1)) (by decide +kernel) ?_
                            refine g_iconst (v := iZ (1)) 45 dX8_settles_44 rfl rfl ?_
                            refine g_icZ_ne 55 48 dX8_settles_45 rfl rfl (by decide) (by decide) (fun q => absurd q (by decide)) (fun _ => ?_)
                            refine g_aload_n 49 dX8_settles_48 rfl rfl ?_
                            have f133 := (S123.get (by omega) f102)
                            refine g_get 52 dX8_settles_49 faX8_50_X8 f133 rfl rfl ?_
                            refine g_goto 59 dX8_settles_52 rfl ?_
                            refine g_astore (L1 := [some (.ref 0), some (.int (iZ t)), some (.int (iZ i)), some (.ref (71 + 4 * t.toNat)), some (.ref (34 + 2 * i.toNat)), some (.ref 27), some (.int (iZ 5)), some (.ref 20)]) 61 dX8_settles_59 (by decide) rfl rfl rfl ?_
                            refine g_aload 63 dX8_settles_61 rfl rfl ?_
                            refine g_aload 65 dX8_settles_63 rfl rfl ?_
                            refine g_aload 67 dX8_settles_65 rfl rfl ?_
                            refine g_callV (z := mX2_builds) (As := [.ref 27, .ref (34 + 2 * i.toNat)]) 70 dX8_settles_67 mwX2_builds ⟨by decide, by decide⟩ rfl wlX8_98 wiX2_builds wsX2_builds f124 rfl rfl rfl (nle rfl) (nle rfl) rfl ?_
                            have g3 := g2.trans (se_go (k := 2) (u := (1 + 1 + 1 + 1)) (r118.elim (fun q => q.2) (fun q => absurd q.1 (by omega))) R119 (by have q := rz131.1; omega))
                            have f134 := (S123.get (by omega) f103)
                            have f135 := (S123.get (by omega) f104)
                            refine sc2_bl (m := 20) (M := 256) (by decide) H121 mb2_129 mb3_129 mb4_129 ma10_129 ma11_129 (by omega) (by decide) (by omega) (by omega) f134 f135 t4_12 (by omega) (by omega) (fun h136 z137 a138 x139 p140 e141 d142 t143 hm144 c145 mm146 of147 og148 r149 R150 X151 H152 s153 => ?_)
                            have S154 : Scr2 _ _ := s153.scr2 (by decide)
                            have f155 := s153.get (by decide) mb0_129
                            have f156 := s153.get (by decide) mb1_129
                            have f157 := s153.get (by decide) mb2_129
                            have f158 := s153.get (by decide) mb3_129
                            have f159 := s153.get (by decide) mb4_129
                            obtain ⟨ma1_160, ma2_160, ma3_160, ma4_160, ma5_160, ma6_160, ma7_160, ma8_160, ma9_160, ma10_160, ma11_160, mb0_160, mb1_160, mb2_160, mb3_160, mb4_160⟩ := id X151
                            refine rI ?_
                            refine g_ifZ_ne 76 73 dX8_settles_70 rfl rfl (rg01 (by omega)) (fun c161 => ?_) (fun c161 => ?_)
                            · refine g_aload 78 dX8_settles_76 rfl rfl ?_
                              refine g_aload 80 dX8_settles_78 rfl rfl ?_
                              refine g_get 83 dX8_settles_80 faX8_102_X2 mb0_160 rfl rfl ?_
                              refine g_callV (z := mX0_unlike) (As := [.ref 22]) 86 dX8_settles_83 mwX0_unlike ⟨by decide, by decide⟩ rfl wlX8_162 wiX0_unlike wsX0_unlike f157 rfl rfl rfl (nle rfl) (nle rfl) rfl ?_
                              refine c_unl (M := 256) (N := 256) f157 f158 f159 mb2_160 mb3_160 mb4_160 ma10_129 ma11_129 ma10_160 ma11_160 (by omega) (by omega) (by omega) (by omega) (by omega) (by omega) (fun z162 rz162 => ?_)
                              refine rI ?_
                              refine g_ifZ_ne 92 89 dX8_settles_86 rfl rfl (by omega) (fun c163 => ?_) (fun c163 => ?_)
                              · refine g_aload 94 dX8_settles_92 rfl rfl ?_
                                refine g_get 97 dX8_settles_94 faX8_102_X2 mb0_160 rfl rfl ?_
                                refine g_astore (L1 := [some (.ref 0), some (.int (iZ t)), some (.int (iZ i)), some (.ref (71 + 4 * t.toNat)), some (.ref (34 + 2 * i.toNat)), some (.ref 22), some (.int (iZ 5)), some (.ref 20)]) 99 dX8_settles_97 (by decide) rfl rfl rfl ?_
                                refine g_iincZ [some (.ref 0), some (.int (iZ t)), some (.int (iZ i)), some (.ref (71 + 4 * t.toNat)), some (.ref (34 + 2 * i.toNat)), some (.ref 22), some (.int (iZ 6)), some (.ref 20)] 102 dX8_settles_99 rfl rfl (by decide) rfl rfl rfl ?_
                                refine g_goto 33 dX8_settles_102 rfl ?_
                                refine g_iload 35 dX8_settles_33 rfl rfl ?_
                                refine g_bipush (v := iZ (6)) 37 dX8_settles_35 (by decide +kernel) rfl ?_
                                refine g_icZ_gt 105 40 dX8_settles_37 rfl rfl (by decide) (by decide) (fun q => absurd q (by decide)) (fun _ => ?_)
                                refine g_iload 42 dX8_settles_40 rfl rfl ?_
                                refine g_iconst (v := iZ (2)) 43 dX8_settles_42 rfl rfl ?_
                                refine g_irem 44 dX8_settles_43 (by decide +kernel) rfl ?_
                                refine Go.eqI (iZ (0)) (by decide +kernel) ?_
                                refine g_iconst (v := iZ (1)) 45 dX8_settles_44 rfl rfl ?_
                                refine g_icZ_ne 55 48 dX8_settles_45 rfl rfl (by decide) (by decide) (fun _ => ?_) (fun q => absurd q (by decide))
                                refine g_aload_n 56 dX8_settles_55 rfl rfl ?_
                                have f164 := (S154.get (by omega) f133)
                                refine g_get 59 dX8_settles_56 faX8_53_X8 f164 rfl rfl ?_
                                refine g_astore (L1 := [some (.ref 0), some (.int (iZ t)), some (.int (iZ i)), some (.ref (71 + 4 * t.toNat)), some (.ref (34 + 2 * i.toNat)), some (.ref 22), some (.int (iZ 6)), some (.ref 25)]) 61 dX8_settles_59 (by decide) rfl rfl rfl ?_
                                refine g_aload 63 dX8_settles_61 rfl rfl ?_
                                refine g_aload 65 dX8_settles_63 rfl rfl ?_
                                refine g_aload 67 dX8_settles_65 rfl rfl ?_
                                refine g_callV (z := mX2_builds) (As := [.ref 22, .ref (34 + 2 * i.toNat)]) 70 dX8_settles_67 mwX2_builds ⟨by decide, by decide⟩ rfl wlX8_98 wiX2_builds wsX2_builds f155 rfl rfl rfl (nle rfl) (nle rfl) rfl ?_
                                have g4 := g3.trans (se_go (k := 1) (u := (1 + 1 + 1 + 1 + 1)) (r149.elim (fun q => q.2) (fun q => absurd q.1 (by omega))) R150 (by have q := rz162.1; omega))
                                have f165 := (S154.get (by omega) f134)
                                have f166 := (S154.get (by omega) f135)
                                refine sc2_bl (m := 25) (M := 256) (by decide) H152 mb2_160 mb3_160 mb4_160 ma10_160 ma11_160 (by omega) (by decide) (by omega) (by omega) f165 f166 t4_12 (by omega) (by omega) (fun h167 z168 a169 x170 p171 e172 d173 t174 hm175 c176 mm177 of178 og179 r180 R181 X182 H183 s184 => ?_)
                                have S185 : Scr2 _ _ := s184.scr2 (by decide)
                                have f186 := s184.get (by decide) mb0_160
                                have f187 := s184.get (by decide) mb1_160
                                have f188 := s184.get (by decide) mb2_160
                                have f189 := s184.get (by decide) mb3_160
                                have f190 := s184.get (by decide) mb4_160
                                obtain ⟨ma1_191, ma2_191, ma3_191, ma4_191, ma5_191, ma6_191, ma7_191, ma8_191, ma9_191, ma10_191, ma11_191, mb0_191, mb1_191, mb2_191, mb3_191, mb4_191⟩ := id X182
                                refine rI ?_
                                refine g_ifZ_ne 76 73 dX8_settles_70 rfl rfl (rg01 (by omega)) (fun c192 => ?_) (fun c192 => ?_)
                                · refine g_aload 78 dX8_settles_76 rfl rfl ?_
                                  refine g_aload 80 dX8_settles_78 rfl rfl ?_
                                  refine g_get 83 dX8_settles_80 faX8_102_X2 mb0_191 rfl rfl ?_
                                  refine g_callV (z := mX0_unlike) (As := [.ref 27]) 86 dX8_settles_83 mwX0_unlike ⟨by decide, by decide⟩ rfl wlX8_162 wiX0_unlike wsX0_unlike f188 rfl rfl rfl (nle rfl) (nle rfl) rfl ?_
                                  refine c_unl (M := 256) (N := 256) f188 f189 f190 mb2_191 mb3_191 mb4_191 ma10_160 ma11_160 ma10_191 ma11_191 (by omega) (by omega) (by omega) (by omega) (by omega) (by omega) (fun z193 rz193 => ?_)
                                  refine rI ?_
                                  refine g_ifZ_ne 92 89 dX8_settles_86 rfl rfl (by omega) (fun c194 => ?_) (fun c194 => ?_)
                                  · refine g_aload 94 dX8_settles_92 rfl rfl ?_
                                    refine g_get 97 dX8_settles_94 faX8_102_X2 mb0_191 rfl rfl ?_
                                    refine g_astore (L1 := [some (.ref 0), some (.int (iZ t)), some (.int (iZ i)), some (.ref (71 + 4 * t.toNat)), some (.ref (34 + 2 * i.toNat)), some (.ref 27), some (.int (iZ 6)), some (.ref 25)]) 99 dX8_settles_97 (by decide) rfl rfl rfl ?_
                                    refine g_iincZ [some (.ref 0), some (.int (iZ t)), some (.int (iZ i)), some (.ref (71 + 4 * t.toNat)), some (.ref (34 + 2 * i.toNat)), some (.ref 27), some (.int (iZ 7)), some (.ref 25)] 102 dX8_settles_99 rfl rfl (by decide) rfl rfl rfl ?_
                                    refine g_goto 33 dX8_settles_102 rfl ?_
                                    refine g_iload 35 dX8_settles_33 rfl rfl ?_
                                    refine g_bipush (v := iZ (6)) 37 dX8_settles_35 (by decide +kernel) rfl ?_
                                    refine g_icZ_gt 105 40 dX8_settles_37 rfl rfl (by decide) (by decide) (fun _ => ?_) (fun q => absurd q (by decide))
                                    refine g_bipush (v := iZ (-9)) 107 dX8_settles_105 (by decide +kernel) rfl ?_
                                    refine g_iret rfl dX8_settles_107 ?_
                                    have zz := H.scr (((((S31.tr S61).tr S92).tr S123).tr S154).tr S185) H183
                                    exact k _ (-9) ⟨fun _ => ((g4.trans (se_go (k := 0) (u := (1 + 1 + 1 + 1 + 1 + 1)) (r180.elim (fun q => q.2) (fun q => absurd q.1 (by omega))) R181 (by have q := rz193.1; omega))).trans rfl).symm, fun q => by omega⟩ zz.1 zz.2
                                  · refine g_iload 91 dX8_settles_89 rfl rfl ?_
                                    refine g_iret rfl dX8_settles_91 ?_
                                    have zz := H.scr (((((S31.tr S61).tr S92).tr S123).tr S154).tr S185) H183
                                    exact k _ (6) ⟨fun _ => ((g4.trans (se_eq (k := 0) (u := (1 + 1 + 1 + 1 + 1 + 1)) (r180.elim (fun q => q.2) (fun q => absurd q.1 (by omega))) R181 (by have q := rz193.1; omega))).trans (by decide : ((1 + 1 + 1 + 1 + 1 + 1) : Int) = 6)).symm, fun q => by omega⟩ zz.1 zz.2
                                · refine g_bipush (v := iZ (-9)) 75 dX8_settles_73 (by decide +kernel) rfl ?_
                                  refine g_iret rfl dX8_settles_75 ?_
                                  have zz := H.scr (((((S31.tr S61).tr S92).tr S123).tr S154).tr S185) H183
                                  exact k _ (-9) ⟨fun _ => (g4.trans (se_no (k := 0) (u := (1 + 1 + 1 + 1 + 1 + 1)) (r180.elim (fun q => absurd q.1 (by omega)) (fun q => q.2)))).symm, fun q => by omega⟩ zz.1 zz.2
                              · refine g_iload 91 dX8_settles_89 rfl rfl ?_
                                refine g_iret rfl dX8_settles_91 ?_
                                have zz := H.scr ((((S31.tr S61).tr S92).tr S123).tr S154) H152
                                exact k _ (5) ⟨fun _ => ((g3.trans (se_eq (k := 1) (u := (1 + 1 + 1 + 1 + 1)) (r149.elim (fun q => q.2) (fun q => absurd q.1 (by omega))) R150 (by have q := rz162.1; omega))).trans (by decide : ((1 + 1 + 1 + 1 + 1) : Int) = 5)).symm, fun q => by omega⟩ zz.1 zz.2
                            · refine g_bipush (v := iZ (-9)) 75 dX8_settles_73 (by decide +kernel) rfl ?_
                              refine g_iret rfl dX8_settles_75 ?_
                              have zz := H.scr ((((S31.tr S61).tr S92).tr S123).tr S154) H152
                              exact k _ (-9) ⟨fun _ => (g3.trans (se_no (k := 1) (u := (1 + 1 + 1 + 1 + 1)) (r149.elim (fun q => absurd q.1 (by omega)) (fun q => q.2)))).symm, fun q => by omega⟩ zz.1 zz.2
                          · refine g_iload 91 dX8_settles_89 rfl rfl ?_
                            refine g_iret rfl dX8_settles_91 ?_
                            have zz := H.scr (((S31.tr S61).tr S92).tr S123) H121
                            exact k _ (4) ⟨fun _ => ((g2.trans (se_eq (k := 2) (u := (1 + 1 + 1 + 1)) (r118.elim (fun q => q.2) (fun q => absurd q.1 (by omega))) R119 (by have q := rz131.1; omega))).trans (by decide : ((1 + 1 + 1 + 1) : Int) = 4)).symm, fun q => by omega⟩ zz.1 zz.2
                        · refine g_bipush (v := iZ (-9)) 75 dX8_settles_73 (by decide +kernel) rfl ?_
                          refine g_iret rfl dX8_settles_75 ?_
                          have zz := H.scr (((S31.tr S61).tr S92).tr S123) H121
                          exact k _ (-9) ⟨fun _ => (g2.trans (se_no (k := 2) (u := (1 + 1 + 1 + 1)) (r118.elim (fun q => absurd q.1 (by omega)) (fun q => q.2)))).symm, fun q => by omega⟩ zz.1 zz.2
                      · refine g_iload 91 dX8_settles_89 rfl rfl ?_
                        refine g_iret rfl dX8_settles_91 ?_
                        have zz := H.scr ((S31.tr S61).tr S92) H90
                        exact k _ (3) ⟨fun _ => ((g1.trans (se_eq (k := 3) (u := (1 + 1 + 1)) (r87.elim (fun q => q.2) (fun q => absurd q.1 (by omega))) R88 (by have q := rz100.1; omega))).trans (by decide : ((1 + 1 + 1) : Int) = 3)).symm, fun q => by omega⟩ zz.1 zz.2
                    · refine g_bipush (v := iZ (-9)) 75 dX8_settles_73 (by decide +kernel) rfl ?_
                      refine g_iret rfl dX8_settles_75 ?_
                      have zz := H.scr ((S31.tr S61).tr S92) H90
                      exact k _ (-9) ⟨fun _ => (g1.trans (se_no (k := 3) (u := (1 + 1 + 1)) (r87.elim (fun q => absurd q.1 (by omega)) (fun q => q.2)))).symm, fun q => by omega⟩ zz.1 zz.2
                  · refine g_iload 91 dX8_settles_89 rfl rfl ?_
                    refine g_iret rfl dX8_settles_91 ?_
                    have zz := H.scr (S31.tr S61) H59
                    exact k _ (2) ⟨fun _ => ((g0.trans (se_eq (k := 4) (u := (1 + 1)) (r56.elim (fun q => q.2) (fun q => absurd q.1 (by omega))) R57 (by have q := rz69.1; omega))).trans (by decide : ((1 + 1) : Int) = 2)).symm, fun q => by omega⟩ zz.1 zz.2
                · refine g_bipush (v := iZ (-9)) 75 dX8_settles_73 (by decide +kernel) rfl ?_
                  refine g_iret rfl dX8_settles_75 ?_
                  have zz := H.scr (S31.tr S61) H59
                  exact k _ (-9) ⟨fun _ => (g0.trans (se_no (k := 4) (u := (1 + 1)) (r56.elim (fun q => absurd q.1 (by omega)) (fun q => q.2)))).symm, fun q => by omega⟩ zz.1 zz.2
              · refine g_iload 91 dX8_settles_89 rfl rfl ?_
                refine g_iret rfl dX8_settles_91 ?_
                have zz := H.scr S31 H29
                exact k _ (1) ⟨fun _ => (((se_eq (k := 5) (u := (1)) (r26.elim (fun q => q.2) (fun q => absurd q.1 (by omega))) R27 (by have q := rz37.1; omega))).trans (by decide : ((1) : Int) = 1)).symm, fun q => by omega⟩ zz.1 zz.2
            · refine g_bipush (v := iZ (-9)) 75 dX8_settles_73 (by decide +kernel) rfl ?_
              refine g_iret rfl dX8_settles_75 ?_
              have zz := H.scr S31 H29
              exact k _ (-9) ⟨fun _ => ((se_no (k := 5) (u := (1)) (r26.elim (fun q => absurd q.1 (by omega)) (fun q => q.2)))).symm, fun q => by omega⟩ zz.1 zz.2
          · refine g_null 11 dX8_textAt_10 rfl ?_
            refine g_goto 20 dX8_textAt_11 rfl ?_
            refine g_aret rfl (Or.inl rfl) dX8_textAt_20 ?_
            refine rN ?_
            refine g_astoreN (L1 := [some (.ref 0), some (.int (iZ t)), some (.int (iZ i)), some (.ref (71 + 4 * t.toNat)), some (.null), none, none, none]) 13 dX8_settles_11 (by decide) rfl rfl rfl ?_
            refine g_aload_n 14 dX8_settles_13 rfl rfl ?_
            refine g_ifnull 17 dX8_settles_14 rfl ?_
            refine g_aloadN 19 dX8_settles_17 rfl rfl ?_
            refine g_ifnonnullN 22 dX8_settles_19 rfl ?_
            refine g_iconst (v := iZ (-1)) 23 dX8_settles_22 rfl rfl ?_
            refine g_iret rfl dX8_settles_23 ?_
            exact k _ (-1) ⟨fun q => by omega, fun _ => rfl⟩ H (fun _ _ _ => rfl)
      · refine g_null 19 dX8_toolAt_18 rfl ?_
        refine g_goto 28 dX8_toolAt_19 rfl ?_
        refine g_aret rfl (Or.inl rfl) dX8_toolAt_28 ?_
        refine rN ?_
        refine g_astore_nN (L1 := [some (.ref 0), some (.int (iZ t)), some (.int (iZ i)), some (.null), none, none, none, none]) 6 dX8_settles_5 (by decide) rfl rfl rfl ?_
        refine g_aload_n 7 dX8_settles_6 rfl rfl ?_
        refine g_iload_n 8 dX8_settles_7 rfl rfl ?_
        refine g_callV (z := mX8_textAt) (As := [.int (iZ i)]) 11 dX8_settles_8 mwX8_textAt ⟨by decide, by decide⟩ rfl wlX8_74 wiX8_textAt wsX8_textAt F0 rfl rfl rfl (nle rfl) (nle rfl) rfl ?_
        refine Go.to [some (.ref 0), some (.int (iZ i))] [] rfl rfl ?_
        refine g_iload_n 1 dX8_textAt_0 rfl rfl ?_
        refine g_ifZ_lt 10 4 dX8_textAt_1 rfl rfl ri (fun c195 => ?_) (fun c195 => ?_)
        · refine g_null 11 dX8_textAt_10 rfl ?_
          refine g_goto 20 dX8_textAt_11 rfl ?_
          refine g_aret rfl (Or.inl rfl) dX8_textAt_20 ?_
          refine rN ?_
          refine g_astoreN (L1 := [some (.ref 0), some (.int (iZ t)), some (.int (iZ i)), some (.null), some (.null), none, none, none]) 13 dX8_settles_11 (by decide) rfl rfl rfl ?_
          refine g_aload_nN 14 dX8_settles_13 rfl rfl ?_
          refine g_ifnullN 22 dX8_settles_14 rfl ?_
          refine g_iconst (v := iZ (-1)) 23 dX8_settles_22 rfl rfl ?_
          refine g_iret rfl dX8_settles_23 ?_
          exact k _ (-1) ⟨fun q => by omega, fun _ => rfl⟩ H (fun _ _ _ => rfl)
        · refine g_iload_n 5 dX8_textAt_4 rfl rfl ?_
          refine g_bipush (v := iZ (8)) 7 dX8_textAt_5 (by decide +kernel) rfl ?_
          refine g_icZ_lt 14 10 dX8_textAt_7 rfl rfl ri (by decide) (fun c196 => ?_) (fun c196 => ?_)
          · refine g_aload_n 15 dX8_textAt_14 rfl rfl ?_
            refine g_get 18 dX8_textAt_15 faX8_16_X8 F0 rfl rfl ?_
            refine g_iload_n 19 dX8_textAt_18 rfl rfl ?_
            refine g_aaldZ 20 dX8_textAt_19 F3 (by decide) (by omega) (by omega) (by decide) (txs_at (by omega) (by omega)) rfl ?_
            refine g_aret rfl (Or.inr ⟨_, rfl⟩) dX8_textAt_20 ?_
            refine rR ?_
            refine g_astore (L1 := [some (.ref 0), some (.int (iZ t)), some (.int (iZ i)), some (.null), some (.ref (34 + 2 * i.toNat)), none, none, none]) 13 dX8_settles_11 (by decide) rfl rfl rfl ?_
            refine g_aload_nN 14 dX8_settles_13 rfl rfl ?_
            refine g_ifnullN 22 dX8_settles_14 rfl ?_
            refine g_iconst (v := iZ (-1)) 23 dX8_settles_22 rfl rfl ?_
            refine g_iret rfl dX8_settles_23 ?_
            exact k _ (-1) ⟨fun q => by omega, fun _ => rfl⟩ H (fun _ _ _ => rfl)
          · refine g_null 11 dX8_textAt_10 rfl ?_
            refine g_goto 20 dX8_textAt_11 rfl ?_
            refine g_aret rfl (Or.inl rfl) dX8_textAt_20 ?_
            refine rN ?_
            refine g_astoreN (L1 := [some (.ref 0), some (.int (iZ t)), some (.int (iZ i)), some (.null), some (.null), none, none, none]) 13 dX8_settles_11 (by decide) rfl rfl rfl ?_
            refine g_aload_nN 14 dX8_settles_13 rfl rfl ?_
            refine g_ifnullN 22 dX8_settles_14 rfl ?_
            refine g_iconst (v := iZ (-1)) 23 dX8_settles_22 rfl rfl ?_
            refine g_iret rfl dX8_settles_23 ?_
            exact k _ (-1) ⟨fun q => by omega, fun _ => rfl⟩ H (fun _ _ _ => rfl)

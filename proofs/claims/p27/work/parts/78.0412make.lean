set_option maxRecDepth 100000 in
theorem b8_run {l : Launch} {h : MH} {Q : Option Value → MH → Prop} {tn : Int} {tf : Nat → Int} {xn : Nat → Int} {xf : Nat → Nat → Int} {en : Int} {tc : Nat} {tr : Int64} {V Bf Lf : Nat → Nat → Int} {q lm lo : Nat → Int} {t i : Int} (H : IX2 h tn tf xn xf en tc tr V Bf Lf q lm lo) (rt : rg t) (ri : rg i) (k : ∀ (h1 : MH) (q1 lm1 lo1 : Nat → Int) (r : Int), rg r → ruP (run0 (xn i.toNat) (fun j => xf i.toNat j.toNat) (V 0 t.toNat) (Bf t.toNat)) tc q lm lo t i q1 lm1 lo1 → IX2 h1 tn tf xn xf en tc tr V Bf Lf q1 lm1 lo1 → Mo h h1 → Q (some (.int (iZ r))) h1) : Go l mX8_run 0 [some (.ref 0), some (.int (iZ t)), some (.int (iZ i)), none, none] [] h Q := by
  obtain ⟨HC, HS, HLm, HY, HE, hlen, hmz⟩ := id H
  obtain ⟨F0, F3, F4, htc, HT, HL⟩ := id HC
  refine g_aload_n 1 dX8_run_0 rfl rfl ?_
  refine g_iload_n 2 dX8_run_1 rfl rfl ?_
  refine g_callV (z := mX8_toolAt) (As := [.int (iZ t)]) 5 dX8_run_2 mwX8_toolAt ⟨by decide, by decide⟩ rfl wlX8_90 wiX8_toolAt wsX8_toolAt F0 rfl rfl rfl (nle rfl) (nle rfl) rfl ?_
  refine Go.to [some (.ref 0), some (.int (iZ t))] [] rfl rfl ?_
  refine g_iload_n 1 dX8_toolAt_0 rfl rfl ?_
  refine g_ifZ_lt 18 4 dX8_toolAt_1 rfl rfl rt (fun c1 => ?_) (fun c1 => ?_)
  · refine g_null 19 dX8_toolAt_18 rfl ?_
    refine g_goto 28 dX8_toolAt_19 rfl ?_
    refine g_aret rfl (Or.inl rfl) dX8_toolAt_28 ?_
    refine rN ?_
    refine g_astore_nN (L1 := [some (.ref 0), some (.int (iZ t)), some (.int (iZ i)), some (.null), none]) 6 dX8_run_5 (by decide) rfl rfl rfl ?_
    refine g_aload_n 7 dX8_run_6 rfl rfl ?_
    refine g_iload_n 8 dX8_run_7 rfl rfl ?_
    refine g_callV (z := mX8_textAt) (As := [.int (iZ i)]) 11 dX8_run_8 mwX8_textAt ⟨by decide, by decide⟩ rfl wlX8_74 wiX8_textAt wsX8_textAt F0 rfl rfl rfl (nle rfl) (nle rfl) rfl ?_
    refine Go.to [some (.ref 0), some (.int (iZ i))] [] rfl rfl ?_
    refine g_iload_n 1 dX8_textAt_0 rfl rfl ?_
    refine g_ifZ_lt 10 4 dX8_textAt_1 rfl rfl ri (fun c2 => ?_) (fun c2 => ?_)
    · refine g_null 11 dX8_textAt_10 rfl ?_
      refine g_goto 20 dX8_textAt_11 rfl ?_
      refine g_aret rfl (Or.inl rfl) dX8_textAt_20 ?_
      refine rN ?_
      refine g_astoreN (L1 := [some (.ref 0), some (.int (iZ t)), some (.int (iZ i)), some (.null), some (.null)]) 13 dX8_run_11 (by decide) rfl rfl rfl ?_
      refine g_aload_nN 14 dX8_run_13 rfl rfl ?_
      refine g_ifnullN 22 dX8_run_14 rfl ?_
      refine g_iconst (v := iZ (-1)) 23 dX8_run_22 rfl rfl ?_
      refine g_iret rfl dX8_run_23 ?_
      exact k _ q lm lo (-1) (by decide) ⟨fun z => by omega, fun _ => ⟨⟨rfl, rfl, rfl, rfl, rfl, rfl⟩, fun _ _ => rfl, fun _ _ => rfl⟩⟩ H (fun _ _ _ => rfl)
    · refine g_iload_n 5 dX8_textAt_4 rfl rfl ?_
      refine g_bipush (v := iZ (8)) 7 dX8_textAt_5 (by decide +kernel) rfl ?_
      refine g_icZ_lt 14 10 dX8_textAt_7 rfl rfl ri (by decide) (fun c3 => ?_) (fun c3 => ?_)
      · refine g_aload_n 15 dX8_textAt_14 rfl rfl ?_
        refine g_get 18 dX8_textAt_15 faX8_16_X8 F0 rfl rfl ?_
        refine g_iload_n 19 dX8_textAt_18 rfl rfl ?_
        refine g_aaldZ 20 dX8_textAt_19 F3 (by decide) (by omega) (by omega) (by decide) (txs_at (by omega) (by omega)) rfl ?_
        refine g_aret rfl (Or.inr ⟨_, rfl⟩) dX8_textAt_20 ?_
        refine rR ?_
        refine g_astore (L1 := [some (.ref 0), some (.int (iZ t)), some (.int (iZ i)), some (.null), some (.ref (34 + 2 * i.toNat))]) 13 dX8_run_11 (by decide) rfl rfl rfl ?_
        refine g_aload_nN 14 dX8_run_13 rfl rfl ?_
        refine g_ifnullN 22 dX8_run_14 rfl ?_
        refine g_iconst (v := iZ (-1)) 23 dX8_run_22 rfl rfl ?_
        refine g_iret rfl dX8_run_23 ?_
        exact k _ q lm lo (-1) (by decide) ⟨fun z => by omega, fun _ => ⟨⟨rfl, rfl, rfl, rfl, rfl, rfl⟩, fun _ _ => rfl, fun _ _ => rfl⟩⟩ H (fun _ _ _ => rfl)
      · refine g_null 11 dX8_textAt_10 rfl ?_
        refine g_goto 20 dX8_textAt_11 rfl ?_
        refine g_aret rfl (Or.inl rfl) dX8_textAt_20 ?_
        refine rN ?_
        refine g_astoreN (L1 := [some (.ref 0), some (.int (iZ t)), some (.int (iZ i)), some (.null), some (.null)]) 13 dX8_run_11 (by decide) rfl rfl rfl ?_
        refine g_aload_nN 14 dX8_run_13 rfl rfl ?_
        refine g_ifnullN 22 dX8_run_14 rfl ?_
        refine g_iconst (v := iZ (-1)) 23 dX8_run_22 rfl rfl ?_
        refine g_iret rfl dX8_run_23 ?_
        exact k _ q lm lo (-1) (by decide) ⟨fun z => by omega, fun _ => ⟨⟨rfl, rfl, rfl, rfl, rfl, rfl⟩, fun _ _ => rfl, fun _ _ => rfl⟩⟩ H (fun _ _ _ => rfl)
  · refine g_iload_n 5 dX8_toolAt_4 rfl rfl ?_
    refine g_aload_n 6 dX8_toolAt_5 rfl rfl ?_
    refine g_get 9 dX8_toolAt_6 faX8_26_X8 F0 rfl rfl ?_
    refine g_icZ_ge 18 12 dX8_toolAt_9 rfl rfl rt (by omega) (fun c4 => ?_) (fun c4 => ?_)
    · refine g_null 19 dX8_toolAt_18 rfl ?_
      refine g_goto 28 dX8_toolAt_19 rfl ?_
      refine g_aret rfl (Or.inl rfl) dX8_toolAt_28 ?_
      refine rN ?_
      refine g_astore_nN (L1 := [some (.ref 0), some (.int (iZ t)), some (.int (iZ i)), some (.null), none]) 6 dX8_run_5 (by decide) rfl rfl rfl ?_
      refine g_aload_n 7 dX8_run_6 rfl rfl ?_
      refine g_iload_n 8 dX8_run_7 rfl rfl ?_
      refine g_callV (z := mX8_textAt) (As := [.int (iZ i)]) 11 dX8_run_8 mwX8_textAt ⟨by decide, by decide⟩ rfl wlX8_74 wiX8_textAt wsX8_textAt F0 rfl rfl rfl (nle rfl) (nle rfl) rfl ?_
      refine Go.to [some (.ref 0), some (.int (iZ i))] [] rfl rfl ?_
      refine g_iload_n 1 dX8_textAt_0 rfl rfl ?_
      refine g_ifZ_lt 10 4 dX8_textAt_1 rfl rfl ri (fun c5 => ?_) (fun c5 => ?_)
      · refine g_null 11 dX8_textAt_10 rfl ?_
        refine g_goto 20 dX8_textAt_11 rfl ?_
        refine g_aret rfl (Or.inl rfl) dX8_textAt_20 ?_
        refine rN ?_
        refine g_astoreN (L1 := [some (.ref 0), some (.int (iZ t)), some (.int (iZ i)), some (.null), some (.null)]) 13 dX8_run_11 (by decide) rfl rfl rfl ?_
        refine g_aload_nN 14 dX8_run_13 rfl rfl ?_
        refine g_ifnullN 22 dX8_run_14 rfl ?_
        refine g_iconst (v := iZ (-1)) 23 dX8_run_22 rfl rfl ?_
        refine g_iret rfl dX8_run_23 ?_
        exact k _ q lm lo (-1) (by decide) ⟨fun z => by omega, fun _ => ⟨⟨rfl, rfl, rfl, rfl, rfl, rfl⟩, fun _ _ => rfl, fun _ _ => rfl⟩⟩ H (fun _ _ _ => rfl)
      · refine g_iload_n 5 dX8_textAt_4 rfl rfl ?_
        refine g_bipush (v := iZ (8)) 7 dX8_textAt_5 (by decide +kernel) rfl ?_
        refine g_icZ_lt 14 10 dX8_textAt_7 rfl rfl ri (by decide) (fun c6 => ?_) (fun c6 => ?_)
        · refine g_aload_n 15 dX8_textAt_14 rfl rfl ?_
          refine g_get 18 dX8_textAt_15 faX8_16_X8 F0 rfl rfl ?_
          refine g_iload_n 19 dX8_textAt_18 rfl rfl ?_
          refine g_aaldZ 20 dX8_textAt_19 F3 (by decide) (by omega) (by omega) (by decide) (txs_at (by omega) (by omega)) rfl ?_
          refine g_aret rfl (Or.inr ⟨_, rfl⟩) dX8_textAt_20 ?_
          refine rR ?_
          refine g_astore (L1 := [some (.ref 0), some (.int (iZ t)), some (.int (iZ i)), some (.null), some (.ref (34 + 2 * i.toNat))]) 13 dX8_run_11 (by decide) rfl rfl rfl ?_
          refine g_aload_nN 14 dX8_run_13 rfl rfl ?_
          refine g_ifnullN 22 dX8_run_14 rfl ?_
          refine g_iconst (v := iZ (-1)) 23 dX8_run_22 rfl rfl ?_
          refine g_iret rfl dX8_run_23 ?_
          exact k _ q lm lo (-1) (by decide) ⟨fun z => by omega, fun _ => ⟨⟨rfl, rfl, rfl, rfl, rfl, rfl⟩, fun _ _ => rfl, fun _ _ => rfl⟩⟩ H (fun _ _ _ => rfl)
        · refine g_null 11 dX8_textAt_10 rfl ?_
          refine g_goto 20 dX8_textAt_11 rfl ?_
          refine g_aret rfl (Or.inl rfl) dX8_textAt_20 ?_
          refine rN ?_
          refine g_astoreN (L1 := [some (.ref 0), some (.int (iZ t)), some (.int (iZ i)), some (.null), some (.null)]) 13 dX8_run_11 (by decide) rfl rfl rfl ?_
          refine g_aload_nN 14 dX8_run_13 rfl rfl ?_
          refine g_ifnullN 22 dX8_run_14 rfl ?_
          refine g_iconst (v := iZ (-1)) 23 dX8_run_22 rfl rfl ?_
          refine g_iret rfl dX8_run_23 ?_
          exact k _ q lm lo (-1) (by decide) ⟨fun z => by omega, fun _ => ⟨⟨rfl, rfl, rfl, rfl, rfl, rfl⟩, fun _ _ => rfl, fun _ _ => rfl⟩⟩ H (fun _ _ _ => rfl)
    · refine g_iload_n 13 dX8_toolAt_12 rfl rfl ?_
      refine g_bipush (v := iZ (12)) 15 dX8_toolAt_13 (by decide +kernel) rfl ?_
      refine g_icZ_lt 22 18 dX8_toolAt_15 rfl rfl rt (by decide) (fun c7 => ?_) (fun c7 => ?_)
      · refine g_aload_n 23 dX8_toolAt_22 rfl rfl ?_
        refine g_get 26 dX8_toolAt_23 faX8_22_X8 F0 rfl rfl ?_
        refine g_iload_n 27 dX8_toolAt_26 rfl rfl ?_
        refine g_aaldZ 28 dX8_toolAt_27 F4 (by decide) (by omega) (by omega) (by decide) (tls_at (by omega) (by omega)) rfl ?_
        refine g_aret rfl (Or.inr ⟨_, rfl⟩) dX8_toolAt_28 ?_
        refine rR ?_
        refine g_astore_n (L1 := [some (.ref 0), some (.int (iZ t)), some (.int (iZ i)), some (.ref (71 + 4 * t.toNat)), none]) 6 dX8_run_5 (by decide) rfl rfl rfl ?_
        refine g_aload_n 7 dX8_run_6 rfl rfl ?_
        refine g_iload_n 8 dX8_run_7 rfl rfl ?_
        refine g_callV (z := mX8_textAt) (As := [.int (iZ i)]) 11 dX8_run_8 mwX8_textAt ⟨by decide, by decide⟩ rfl wlX8_74 wiX8_textAt wsX8_textAt F0 rfl rfl rfl (nle rfl) (nle rfl) rfl ?_
        refine Go.to [some (.ref 0), some (.int (iZ i))] [] rfl rfl ?_
        refine g_iload_n 1 dX8_textAt_0 rfl rfl ?_
        refine g_ifZ_lt 10 4 dX8_textAt_1 rfl rfl ri (fun c8 => ?_) (fun c8 => ?_)
        · refine g_null 11 dX8_textAt_10 rfl ?_
          refine g_goto 20 dX8_textAt_11 rfl ?_
          refine g_aret rfl (Or.inl rfl) dX8_textAt_20 ?_
          refine rN ?_
          refine g_astoreN (L1 := [some (.ref 0), some (.int (iZ t)), some (.int (iZ i)), some (.ref (71 + 4 * t.toNat)), some (.null)]) 13 dX8_run_11 (by decide) rfl rfl rfl ?_
          refine g_aload_n 14 dX8_run_13 rfl rfl ?_
          refine g_ifnull 17 dX8_run_14 rfl ?_
          refine g_aloadN 19 dX8_run_17 rfl rfl ?_
          refine g_ifnonnullN 22 dX8_run_19 rfl ?_
          refine g_iconst (v := iZ (-1)) 23 dX8_run_22 rfl rfl ?_
          refine g_iret rfl dX8_run_23 ?_
          exact k _ q lm lo (-1) (by decide) ⟨fun z => by omega, fun _ => ⟨⟨rfl, rfl, rfl, rfl, rfl, rfl⟩, fun _ _ => rfl, fun _ _ => rfl⟩⟩ H (fun _ _ _ => rfl)
        · refine g_iload_n 5 dX8_textAt_4 rfl rfl ?_
          refine g_bipush (v := iZ (8)) 7 dX8_textAt_5 (by decide +kernel) rfl ?_
          refine g_icZ_lt 14 10 dX8_textAt_7 rfl rfl ri (by decide) (fun c9 => ?_) (fun c9 => ?_)
          · refine g_aload_n 15 dX8_textAt_14 rfl rfl ?_
            refine g_get 18 dX8_textAt_15 faX8_16_X8 F0 rfl rfl ?_
            refine g_iload_n 19 dX8_textAt_18 rfl rfl ?_
            refine g_aaldZ 20 dX8_textAt_19 F3 (by decide) (by omega) (by omega) (by decide) (txs_at (by omega) (by omega)) rfl ?_
            refine g_aret rfl (Or.inr ⟨_, rfl⟩) dX8_textAt_20 ?_
            refine rR ?_
            refine g_astore (L1 := [some (.ref 0), some (.int (iZ t)), some (.int (iZ i)), some (.ref (71 + 4 * t.toNat)), some (.ref (34 + 2 * i.toNat))]) 13 dX8_run_11 (by decide) rfl rfl rfl ?_
            refine g_aload_n 14 dX8_run_13 rfl rfl ?_
            refine g_ifnull 17 dX8_run_14 rfl ?_
            refine g_aload 19 dX8_run_17 rfl rfl ?_
            refine g_ifnonnull 24 dX8_run_19 rfl ?_
            refine g_aload_n 25 dX8_run_24 rfl rfl ?_
            refine g_get 28 dX8_run_25 faX8_46_X8 F0 rfl rfl ?_
            refine g_aload_n 29 dX8_run_28 rfl rfl ?_
            obtain ⟨ta1_10, ta2_10, ta3_10, ta4_10, ta5_10, ta6_10, ta7_10, ta8_10, ta9_10, tb0_10, tb1_10, tb2_10, tb3_10⟩ := HL (t.toNat) (by omega)
            refine g_get 32 dX8_run_29 faX8_94_X7 tb0_10 rfl rfl ?_
            refine g_aload 34 dX8_run_32 rfl rfl ?_
            obtain ⟨le, lh, lg, la1, la2, la3, la4, la5, la6, la7, la8, la9, la10, la11, lb0, lb1, lb2, lb3, lb4⟩ := id HLm
            refine g_callV (z := mX2_goThrough) (As := [.ref (71 + 4 * t.toNat + 1), .ref (34 + 2 * i.toNat)]) 37 dX8_run_34 mwX2_goThrough ⟨by decide, by decide⟩ rfl wlX8_129 wiX2_goThrough wsX2_goThrough lb0 rfl rfl rfl (nle rfl) (nle rfl) rfl ?_
            obtain ⟨t0_12, t1_12, t2_12, t3_12, t4_12⟩ := HT (i.toNat) (by omega)
            refine lm_go (M := (V 0 t.toNat).toNat) HLm tb1_10 tb2_10 tb3_10 ta8_10 ta9_10 (by omega) (by omega) (by omega) (by omega) t0_12 t1_12 t4_12 (by omega) (by omega) (fun h13 a14 x15 p16 e17 d18 t19 hm20 c21 mm22 of23 og24 R25 X26 s27 => ?_)
            obtain ⟨ma1_28, ma2_28, ma3_28, ma4_28, ma5_28, ma6_28, ma7_28, ma8_28, ma9_28, ma10_28, ma11_28, mb0_28, mb1_28, mb2_28, mb3_28, mb4_28⟩ := id X26
            refine rV ?_
            refine g_aload_n 38 dX8_run_37 rfl rfl ?_
            have f29 := (s27.get (by decide) F0)
            refine g_get 41 dX8_run_38 faX8_46_X8 f29 rfl rfl ?_
            refine g_get 44 dX8_run_41 faX8_133_X2 mb0_28 rfl rfl ?_
            refine g_ifZ_ne 60 47 dX8_run_44 rfl rfl (by omega) (fun c30 => ?_) (fun c30 => ?_)
            · refine g_bipush (v := iZ (-10)) 62 dX8_run_60 (by decide +kernel) rfl ?_
              refine g_aload_n 63 dX8_run_62 rfl rfl ?_
              refine g_get 66 dX8_run_63 faX8_46_X8 f29 rfl rfl ?_
              refine g_get 69 dX8_run_66 faX8_133_X2 mb0_28 rfl rfl ?_
              refine g_isubZ ((-10) - hm20) 70 dX8_run_69 (by omega) rfl ?_
              refine g_iret rfl dX8_run_70 ?_
              have zz := H.run s27 (q1 := qF d18 t19 a14 x15 p16 c21) (lm1 := mm22) (lo1 := of23) ⟨e17, hm20, og24, X26⟩
              exact k _ _ _ _ ((-10) - hm20) (by omega) ⟨fun _ => ru_mk R25, fun z => by omega⟩ zz.1 zz.2
            · refine g_aload_n 48 dX8_run_47 rfl rfl ?_
              refine g_get 51 dX8_run_48 faX8_46_X8 f29 rfl rfl ?_
              refine g_get 54 dX8_run_51 faX8_102_X2 mb0_28 rfl rfl ?_
              refine g_get 57 dX8_run_54 faX8_109_X0 mb2_28 rfl rfl ?_
              refine g_goto 70 dX8_run_57 rfl ?_
              refine g_iret rfl dX8_run_70 ?_
              have zz := H.run s27 (q1 := qF d18 t19 a14 x15 p16 c21) (lm1 := mm22) (lo1 := of23) ⟨e17, hm20, og24, X26⟩
              exact k _ _ _ _ (c21) (by omega) ⟨fun _ => ru_mk R25, fun z => by omega⟩ zz.1 zz.2
          · refine g_null 11 dX8_textAt_10 rfl ?_
            refine g_goto 20 dX8_textAt_11 rfl ?_
            refine g_aret rfl (Or.inl rfl) dX8_textAt_20 ?_
            refine rN ?_
            refine g_astoreN (L1 := [some (.ref 0), some (.int (iZ t)), some (.int (iZ i)), some (.ref (71 + 4 * t.toNat)), some (.null)]) 13 dX8_run_11 (by decide) rfl rfl rfl ?_
            refine g_aload_n 14 dX8_run_13 rfl rfl ?_
            refine g_ifnull 17 dX8_run_14 rfl ?_
            refine g_aloadN 19 dX8_run_17 rfl rfl ?_
            refine g_ifnonnullN 22 dX8_run_19 rfl ?_
            refine g_iconst (v := iZ (-1)) 23 dX8_run_22 rfl rfl ?_
            refine g_iret rfl dX8_run_23 ?_
            exact k _ q lm lo (-1) (by decide) ⟨fun z => by omega, fun _ => ⟨⟨rfl, rfl, rfl, rfl, rfl, rfl⟩, fun _ _ => rfl, fun _ _ => rfl⟩⟩ H (fun _ _ _ => rfl)
      · refine g_null 19 dX8_toolAt_18 rfl ?_
        refine g_goto 28 dX8_toolAt_19 rfl ?_
        refine g_aret rfl (Or.inl rfl) dX8_toolAt_28 ?_
        refine rN ?_
        refine g_astore_nN (L1 := [some (.ref 0), some (.int (iZ t)), some (.int (iZ i)), some (.null), none]) 6 dX8_run_5 (by decide) rfl rfl rfl ?_
        refine g_aload_n 7 dX8_run_6 rfl rfl ?_
        refine g_iload_n 8 dX8_run_7 rfl rfl ?_
        refine g_callV (z := mX8_textAt) (As := [.int (iZ i)]) 11 dX8_run_8 mwX8_textAt ⟨by decide, by decide⟩ rfl wlX8_74 wiX8_textAt wsX8_textAt F0 rfl rfl rfl (nle rfl) (nle rfl) rfl ?_
        refine Go.to [some (.ref 0), some (.int (iZ i))] [] rfl rfl ?_
        refine g_iload_n 1 dX8_textAt_0 rfl rfl ?_
        refine g_ifZ_lt 10 4 dX8_textAt_1 rfl rfl ri (fun c31 => ?_) (fun c31 => ?_)
        · refine g_null 11 dX8_textAt_10 rfl ?_
          refine g_goto 20 dX8_textAt_11 rfl ?_
          refine g_aret rfl (Or.inl rfl) dX8_textAt_20 ?_
          refine rN ?_
          refine g_astoreN (L1 := [some (.ref 0), some (.int (iZ t)), some (.int (iZ i)), some (.null), some (.null)]) 13 dX8_run_11 (by decide) rfl rfl rfl ?_
          refine g_aload_nN 14 dX8_run_13 rfl rfl ?_
          refine g_ifnullN 22 dX8_run_14 rfl ?_
          refine g_iconst (v := iZ (-1)) 23 dX8_run_22 rfl rfl ?_
          refine g_iret rfl dX8_run_23 ?_
          exact k _ q lm lo (-1) (by decide) ⟨fun z => by omega, fun _ => ⟨⟨rfl, rfl, rfl, rfl, rfl, rfl⟩, fun _ _ => rfl, fun _ _ => rfl⟩⟩ H (fun _ _ _ => rfl)
        · refine g_iload_n 5 dX8_textAt_4 rfl rfl ?_
          refine g_bipush (v := iZ (8)) 7 dX8_textAt_5 (by decide +kernel) rfl ?_
          refine g_icZ_lt 14 10 dX8_textAt_7 rfl rfl ri (by decide) (fun c32 => ?_) (fun c32 => ?_)
          · refine g_aload_n 15 dX8_textAt_14 rfl rfl ?_
            refine g_get 18 dX8_textAt_15 faX8_16_X8 F0 rfl rfl ?_
            refine g_iload_n 19 dX8_textAt_18 rfl rfl ?_
            refine g_aaldZ 20 dX8_textAt_19 F3 (by decide) (by omega) (by omega) (by decide) (txs_at (by omega) (by omega)) rfl ?_
            refine g_aret rfl (Or.inr ⟨_, rfl⟩) dX8_textAt_20 ?_
            refine rR ?_
            refine g_astore (L1 := [some (.ref 0), some (.int (iZ t)), some (.int (iZ i)), some (.null), some (.ref (34 + 2 * i.toNat))]) 13 dX8_run_11 (by decide) rfl rfl rfl ?_
            refine g_aload_nN 14 dX8_run_13 rfl rfl ?_
            refine g_ifnullN 22 dX8_run_14 rfl ?_
            refine g_iconst (v := iZ (-1)) 23 dX8_run_22 rfl rfl ?_
            refine g_iret rfl dX8_run_23 ?_
            exact k _ q lm lo (-1) (by decide) ⟨fun z => by omega, fun _ => ⟨⟨rfl, rfl, rfl, rfl, rfl, rfl⟩, fun _ _ => rfl, fun _ _ => rfl⟩⟩ H (fun _ _ _ => rfl)
          · refine g_null 11 dX8_textAt_10 rfl ?_
            refine g_goto 20 dX8_textAt_11 rfl ?_
            refine g_aret rfl (Or.inl rfl) dX8_textAt_20 ?_
            refine rN ?_
            refine g_astoreN (L1 := [some (.ref 0), some (.int (iZ t)), some (.int (iZ i)), some (.null), some (.null)]) 13 dX8_run_11 (by decide) rfl rfl rfl ?_
            refine g_aload_nN 14 dX8_run_13 rfl rfl ?_
            refine g_ifnullN 22 dX8_run_14 rfl ?_
            refine g_iconst (v := iZ (-1)) 23 dX8_run_22 rfl rfl ?_
            refine g_iret rfl dX8_run_23 ?_
            exact k _ q lm lo (-1) (by decide) ⟨fun z => by omega, fun _ => ⟨⟨rfl, rfl, rfl, rfl, rfl, rfl⟩, fun _ _ => rfl, fun _ _ => rfl⟩⟩ H (fun _ _ _ => rfl)
set_option maxRecDepth 100000 in
theorem b8_pairs {l : Launch} {h : MH} {Q : Option Value → MH → Prop} {tn : Int} {tf : Nat → Int} {xn : Nat → Int} {xf : Nat → Nat → Int} {en : Int} {tc : Nat} {tr : Int64} {V Bf Lf : Nat → Nat → Int} {q lm lo : Nat → Int} {i : Int} (H : IX2 h tn tf xn xf en tc tr V Bf Lf q lm lo) (ri : rg i) (k : ∀ (h1 : MH) (tc1 : Nat) (V1 Bf1 Lf1 : Nat → Nat → Int) (r : Int), (mtP (prsE (xn i.toNat) (fun j => xf i.toNat j.toNat)) tc V Bf Lf 0 i r tc1 V1 Bf1 Lf1) → IX2 h1 tn tf xn xf en tc1 tr V1 Bf1 Lf1 q lm lo → Mo h h1 → Q (some (.int (iZ r))) h1) : Go l mX8_pairs 0 [some (.ref 0), some (.int (iZ i))] [] h Q := by
  obtain ⟨HC, HS, HLm, HY, HE, hlen, hmz⟩ := id H
  obtain ⟨F0, F3, F4, htc, HT, HL⟩ := id HC
  refine g_aload_n 1 dX8_pairs_0 rfl rfl ?_
  refine g_iconst (v := iZ (0)) 2 dX8_pairs_1 rfl rfl ?_
  refine g_iload_n 3 dX8_pairs_2 rfl rfl ?_
  refine g_callV (z := mX8_make) (As := [.int (iZ 0), .int (iZ i)]) 6 dX8_pairs_3 mwX8_make ⟨by decide, by decide⟩ rfl wlX8_86 wiX8_make wsX8_make F0 rfl rfl rfl (nle rfl) (nle rfl) rfl ?_
  refine Go.to [some (.ref 0), some (.int (iZ 0)), some (.int (iZ i)), none, none, none] [] rfl rfl ?_
  refine g_aload_n 1 dX8_make_0 rfl rfl ?_
  refine g_iload_n 2 dX8_make_1 rfl rfl ?_
  refine g_callV (z := mX8_textAt) (As := [.int (iZ i)]) 5 dX8_make_2 mwX8_textAt ⟨by decide, by decide⟩ rfl wlX8_74 wiX8_textAt wsX8_textAt F0 rfl rfl rfl (nle rfl) (nle rfl) rfl ?_
  refine Go.to [some (.ref 0), some (.int (iZ i))] [] rfl rfl ?_
  refine g_iload_n 1 dX8_textAt_0 rfl rfl ?_
  refine g_ifZ_lt 10 4 dX8_textAt_1 rfl rfl ri (fun c1 => ?_) (fun c1 => ?_)
  · refine g_null 11 dX8_textAt_10 rfl ?_
    refine g_goto 20 dX8_textAt_11 rfl ?_
    refine g_aret rfl (Or.inl rfl) dX8_textAt_20 ?_
    refine rN ?_
    refine g_astore_nN (L1 := [some (.ref 0), some (.int (iZ 0)), some (.int (iZ i)), some (.null), none, none]) 6 dX8_make_5 (by decide) rfl rfl rfl ?_
    refine g_aload_nN 7 dX8_make_6 rfl rfl ?_
    refine g_ifnonnullN 10 dX8_make_7 rfl ?_
    refine g_iconst (v := iZ (-1)) 11 dX8_make_10 rfl rfl ?_
    refine g_iret rfl dX8_make_11 ?_
    refine rI ?_
    refine g_iret rfl dX8_pairs_6 ?_
    exact k _ tc V Bf Lf (-1) (mtP_n (by omega)) H (fun _ _ _ => rfl)
  · refine g_iload_n 5 dX8_textAt_4 rfl rfl ?_
    refine g_bipush (v := iZ (8)) 7 dX8_textAt_5 (by decide +kernel) rfl ?_
    refine g_icZ_lt 14 10 dX8_textAt_7 rfl rfl ri (by decide) (fun c2 => ?_) (fun c2 => ?_)
    · refine g_aload_n 15 dX8_textAt_14 rfl rfl ?_
      refine g_get 18 dX8_textAt_15 faX8_16_X8 F0 rfl rfl ?_
      refine g_iload_n 19 dX8_textAt_18 rfl rfl ?_
      refine g_aaldZ 20 dX8_textAt_19 F3 (by decide) (by omega) (by omega) (by decide) (txs_at (by omega) (by omega)) rfl ?_
      refine g_aret rfl (Or.inr ⟨_, rfl⟩) dX8_textAt_20 ?_
      refine rR ?_
      refine g_astore_n (L1 := [some (.ref 0), some (.int (iZ 0)), some (.int (iZ i)), some (.ref (34 + 2 * i.toNat)), none, none]) 6 dX8_make_5 (by decide) rfl rfl rfl ?_
      refine g_aload_n 7 dX8_make_6 rfl rfl ?_
      refine g_ifnonnull 12 dX8_make_7 rfl ?_
      refine g_aload_n 13 dX8_make_12 rfl rfl ?_
      refine g_iload_n 14 dX8_make_13 rfl rfl ?_
      refine g_callV (z := mX8_makerBy) (As := [.int (iZ 0)]) 17 dX8_make_14 mwX8_makerBy ⟨by decide, by decide⟩ rfl wlX8_228 wiX8_makerBy wsX8_makerBy F0 rfl rfl rfl (nle rfl) (nle rfl) rfl ?_
      refine Go.to [some (.ref 0), some (.int (iZ 0))] [] rfl rfl ?_
      refine g_iload_n 1 dX8_makerBy_0 rfl rfl ?_
      refine g_ifZ_ne 11 4 dX8_makerBy_1 rfl rfl (by decide) (fun q => absurd q (by decide)) (fun _ => ?_)
      refine g_aload_n 5 dX8_makerBy_4 rfl rfl ?_
      refine g_get 8 dX8_makerBy_5 faX8_33_X8 F0 rfl rfl ?_
      refine g_goto 15 dX8_makerBy_8 rfl ?_
      refine g_aret rfl (Or.inr ⟨_, rfl⟩) dX8_makerBy_15 ?_
      refine rR ?_
      refine g_astore (L1 := [some (.ref 0), some (.int (iZ 0)), some (.int (iZ i)), some (.ref (34 + 2 * i.toNat)), some (.ref 5), none]) 19 dX8_make_17 (by decide) rfl rfl rfl ?_
      refine g_aload 21 dX8_make_19 rfl rfl ?_
      refine g_aload_n 22 dX8_make_21 rfl rfl ?_
      obtain ⟨n_3, f_3, g_3, pk_3⟩ := HS.1
      obtain ⟨p1_4, p2_4, p3_4, q0_4, q1_4, q2_4, q3_4⟩ := id pk_3
      refine g_callA (z := mX5_faultIn) (As := [.ref (34 + 2 * i.toNat)]) 25 dX8_make_22 mwX5_faultIn ⟨by decide, by decide⟩ rfl wlX8_232 wsmMk wiX5_faultIn wsaX5 wdMk (by decide) q0_4 rfl rfl (nle rfl) (nle rfl) rfl ?_
      obtain ⟨t0_5, t1_5, t2_5, t3_5, t4_5⟩ := HT (i.toNat) (by omega)
      refine sc2_pf HS t0_5 t1_5 t4_5 (by omega) (by omega) (fun h6 z7 n8 f9 g10 rz7 e11 P12 H13 s14 => ?_)
      have S15 : Scr2 _ _ := s14.scr2 (by decide)
      obtain ⟨p1_16, p2_16, p3_16, q0_16, q1_16, q2_16, q3_16⟩ := id P12
      refine rI ?_
      refine g_istore (L1 := [some (.ref 0), some (.int (iZ 0)), some (.int (iZ i)), some (.ref (34 + 2 * i.toNat)), some (.ref 5), some (.int (iZ z7))]) 27 dX8_make_25 (by decide) rfl rfl rfl ?_
      refine g_iload 29 dX8_make_27 rfl rfl ?_
      refine g_bipush (v := iZ (-9)) 31 dX8_make_29 (by decide +kernel) rfl ?_
      refine g_icZ_ne 50 34 dX8_make_31 rfl rfl (by omega) (by decide) (fun c17 => ?_) (fun c17 => ?_)
      · refine g_bipush (v := iZ (-10)) 52 dX8_make_50 (by decide +kernel) rfl ?_
        refine g_iload 54 dX8_make_52 rfl rfl ?_
        refine g_isubZ ((-10) - z7) 55 dX8_make_54 (by omega) rfl ?_
        refine g_iret rfl dX8_make_55 ?_
        refine rI ?_
        refine g_iret rfl dX8_pairs_6 ?_
        have zz := H.scr S15 H13
        exact k _ tc V Bf Lf ((-10) - z7) (mtP_f (by omega) e11.n (by omega) (by omega)) zz.1 zz.2
      · refine g_aload_n 35 dX8_make_34 rfl rfl ?_
        refine g_aload 37 dX8_make_35 rfl rfl ?_
        refine g_get 40 dX8_make_37 faX8_238_X5 q0_16 rfl rfl ?_
        refine g_iload_n 41 dX8_make_40 rfl rfl ?_
        refine g_iload_n 42 dX8_make_41 rfl rfl ?_
        refine g_bipush (v := iZ (-9)) 44 dX8_make_42 (by decide +kernel) rfl ?_
        have f18 := (S15.get (by omega) F0)
        refine g_callV (z := mX8_keep) (As := [.ref 6, .int (iZ 0), .int (iZ i), .int (iZ (-9))]) 47 dX8_make_44 mwX8_keep ⟨by decide, by decide⟩ rfl wlX8_105 wiX8_keep wsX8_keep f18 rfl rfl rfl (nle rfl) (nle rfl) rfl ?_
        refine x_keep (HC.scr S15) (S15.1.trans hlen) q1_16 q2_16 q3_16 p2_16 p3_16 (by omega) (by decide) (by omega) (by omega) (by omega) (by omega) (by omega) (fun h19 t20 V21 B22 L23 z24 rz24 kp25 C26 k27 => ?_)
        refine rI ?_
        refine g_goto 55 dX8_make_47 rfl ?_
        refine g_iret rfl dX8_make_55 ?_
        refine rI ?_
        refine g_iret rfl dX8_pairs_6 ?_
        have zz := H.scr S15 H13
        have z2 := zz.1.kp C26 k27
        exact k _ t20 V21 B22 L23 (z24) (mtP_k (by omega) e11.n (by omega) kp25) z2.1 (zz.2.tr z2.2)
    · refine g_null 11 dX8_textAt_10 rfl ?_
      refine g_goto 20 dX8_textAt_11 rfl ?_
      refine g_aret rfl (Or.inl rfl) dX8_textAt_20 ?_
      refine rN ?_
      refine g_astore_nN (L1 := [some (.ref 0), some (.int (iZ 0)), some (.int (iZ i)), some (.null), none, none]) 6 dX8_make_5 (by decide) rfl rfl rfl ?_
      refine g_aload_nN 7 dX8_make_6 rfl rfl ?_
      refine g_ifnonnullN 10 dX8_make_7 rfl ?_
      refine g_iconst (v := iZ (-1)) 11 dX8_make_10 rfl rfl ?_
      refine g_iret rfl dX8_make_11 ?_
      refine rI ?_
      refine g_iret rfl dX8_pairs_6 ?_
      exact k _ tc V Bf Lf (-1) (mtP_n (by omega)) H (fun _ _ _ => rfl)
set_option maxRecDepth 100000 in
theorem b8_named {l : Launch} {h : MH} {Q : Option Value → MH → Prop} {tn : Int} {tf : Nat → Int} {xn : Nat → Int} {xf : Nat → Nat → Int} {en : Int} {tc : Nat} {tr : Int64} {V Bf Lf : Nat → Nat → Int} {q lm lo : Nat → Int} {i : Int} (H : IX2 h tn tf xn xf en tc tr V Bf Lf q lm lo) (ri : rg i) (k : ∀ (h1 : MH) (tc1 : Nat) (V1 Bf1 Lf1 : Nat → Nat → Int) (r : Int), (mtP (namE (xn i.toNat) (fun j => xf i.toNat j.toNat)) tc V Bf Lf 1 i r tc1 V1 Bf1 Lf1) → IX2 h1 tn tf xn xf en tc1 tr V1 Bf1 Lf1 q lm lo → Mo h h1 → Q (some (.int (iZ r))) h1) : Go l mX8_named 0 [some (.ref 0), some (.int (iZ i))] [] h Q := by
  obtain ⟨HC, HS, HLm, HY, HE, hlen, hmz⟩ := id H
  obtain ⟨F0, F3, F4, htc, HT, HL⟩ := id HC
  refine g_aload_n 1 dX8_named_0 rfl rfl ?_
  refine g_iconst (v := iZ (1)) 2 dX8_named_1 rfl rfl ?_
  refine g_iload_n 3 dX8_named_2 rfl rfl ?_
  refine g_callV (z := mX8_make) (As := [.int (iZ 1), .int (iZ i)]) 6 dX8_named_3 mwX8_make ⟨by decide, by decide⟩ rfl wlX8_86 wiX8_make wsX8_make F0 rfl rfl rfl (nle rfl) (nle rfl) rfl ?_
  refine Go.to [some (.ref 0), some (.int (iZ 1)), some (.int (iZ i)), none, none, none] [] rfl rfl ?_
  refine g_aload_n 1 dX8_make_0 rfl rfl ?_
  refine g_iload_n 2 dX8_make_1 rfl rfl ?_
  refine g_callV (z := mX8_textAt) (As := [.int (iZ i)]) 5 dX8_make_2 mwX8_textAt ⟨by decide, by decide⟩ rfl wlX8_74 wiX8_textAt wsX8_textAt F0 rfl rfl rfl (nle rfl) (nle rfl) rfl ?_
  refine Go.to [some (.ref 0), some (.int (iZ i))] [] rfl rfl ?_
  refine g_iload_n 1 dX8_textAt_0 rfl rfl ?_
  refine g_ifZ_lt 10 4 dX8_textAt_1 rfl rfl ri (fun c1 => ?_) (fun c1 => ?_)
  · refine g_null 11 dX8_textAt_10 rfl ?_
    refine g_goto 20 dX8_textAt_11 rfl ?_
    refine g_aret rfl (Or.inl rfl) dX8_textAt_20 ?_
    refine rN ?_
    refine g_astore_nN (L1 := [some (.ref 0), some (.int (iZ 1)), some (.int (iZ i)), some (.null), none, none]) 6 dX8_make_5 (by decide) rfl rfl rfl ?_
    refine g_aload_nN 7 dX8_make_6 rfl rfl ?_
    refine g_ifnonnullN 10 dX8_make_7 rfl ?_
    refine g_iconst (v := iZ (-1)) 11 dX8_make_10 rfl rfl ?_
    refine g_iret rfl dX8_make_11 ?_
    refine rI ?_
    refine g_iret rfl dX8_named_6 ?_
    exact k _ tc V Bf Lf (-1) (mtP_n (by omega)) H (fun _ _ _ => rfl)
  · refine g_iload_n 5 dX8_textAt_4 rfl rfl ?_
    refine g_bipush (v := iZ (8)) 7 dX8_textAt_5 (by decide +kernel) rfl ?_
    refine g_icZ_lt 14 10 dX8_textAt_7 rfl rfl ri (by decide) (fun c2 => ?_) (fun c2 => ?_)
    · refine g_aload_n 15 dX8_textAt_14 rfl rfl ?_
      refine g_get 18 dX8_textAt_15 faX8_16_X8 F0 rfl rfl ?_
      refine g_iload_n 19 dX8_textAt_18 rfl rfl ?_
      refine g_aaldZ 20 dX8_textAt_19 F3 (by decide) (by omega) (by omega) (by decide) (txs_at (by omega) (by omega)) rfl ?_
      refine g_aret rfl (Or.inr ⟨_, rfl⟩) dX8_textAt_20 ?_
      refine rR ?_
      refine g_astore_n (L1 := [some (.ref 0), some (.int (iZ 1)), some (.int (iZ i)), some (.ref (34 + 2 * i.toNat)), none, none]) 6 dX8_make_5 (by decide) rfl rfl rfl ?_
      refine g_aload_n 7 dX8_make_6 rfl rfl ?_
      refine g_ifnonnull 12 dX8_make_7 rfl ?_
      refine g_aload_n 13 dX8_make_12 rfl rfl ?_
      refine g_iload_n 14 dX8_make_13 rfl rfl ?_
      refine g_callV (z := mX8_makerBy) (As := [.int (iZ 1)]) 17 dX8_make_14 mwX8_makerBy ⟨by decide, by decide⟩ rfl wlX8_228 wiX8_makerBy wsX8_makerBy F0 rfl rfl rfl (nle rfl) (nle rfl) rfl ?_
      refine Go.to [some (.ref 0), some (.int (iZ 1))] [] rfl rfl ?_
      refine g_iload_n 1 dX8_makerBy_0 rfl rfl ?_
      refine g_ifZ_ne 11 4 dX8_makerBy_1 rfl rfl (by decide) (fun _ => ?_) (fun q => absurd q (by decide))
      refine g_aload_n 12 dX8_makerBy_11 rfl rfl ?_
      refine g_get 15 dX8_makerBy_12 faX8_40_X8 F0 rfl rfl ?_
      refine g_aret rfl (Or.inr ⟨_, rfl⟩) dX8_makerBy_15 ?_
      refine rR ?_
      refine g_astore (L1 := [some (.ref 0), some (.int (iZ 1)), some (.int (iZ i)), some (.ref (34 + 2 * i.toNat)), some (.ref 9), none]) 19 dX8_make_17 (by decide) rfl rfl rfl ?_
      refine g_aload 21 dX8_make_19 rfl rfl ?_
      refine g_aload_n 22 dX8_make_21 rfl rfl ?_
      obtain ⟨n_3, f_3, g_3, nk_3⟩ := HS.2.1
      obtain ⟨du_4, la_4, pl_4, lu_4, p1_4, p2_4, p3_4, p4_4, p5_4, p6_4, p7_4, q0_4, q1_4, q2_4, q3_4, q4_4, q5_4⟩ := id nk_3
      refine g_callA (z := mX4_faultIn) (As := [.ref (34 + 2 * i.toNat)]) 25 dX8_make_22 mwX4_faultIn ⟨by decide, by decide⟩ rfl wlX8_232 wsmMk wiX4_faultIn wsaX4 wdMk (by decide) q0_4 rfl rfl (nle rfl) (nle rfl) rfl ?_
      obtain ⟨t0_5, t1_5, t2_5, t3_5, t4_5⟩ := HT (i.toNat) (by omega)
      refine sc2_nf HS t0_5 t1_5 t4_5 (by omega) (by omega) (fun h6 z7 n8 f9 g10 rz7 e11 P12 H13 s14 => ?_)
      have S15 : Scr2 _ _ := s14.scr2 (by decide)
      obtain ⟨du_16, la_16, pl_16, lu_16, p1_16, p2_16, p3_16, p4_16, p5_16, p6_16, p7_16, q0_16, q1_16, q2_16, q3_16, q4_16, q5_16⟩ := id P12
      refine rI ?_
      refine g_istore (L1 := [some (.ref 0), some (.int (iZ 1)), some (.int (iZ i)), some (.ref (34 + 2 * i.toNat)), some (.ref 9), some (.int (iZ z7))]) 27 dX8_make_25 (by decide) rfl rfl rfl ?_
      refine g_iload 29 dX8_make_27 rfl rfl ?_
      refine g_bipush (v := iZ (-9)) 31 dX8_make_29 (by decide +kernel) rfl ?_
      refine g_icZ_ne 50 34 dX8_make_31 rfl rfl (by omega) (by decide) (fun c17 => ?_) (fun c17 => ?_)
      · refine g_bipush (v := iZ (-10)) 52 dX8_make_50 (by decide +kernel) rfl ?_
        refine g_iload 54 dX8_make_52 rfl rfl ?_
        refine g_isubZ ((-10) - z7) 55 dX8_make_54 (by omega) rfl ?_
        refine g_iret rfl dX8_make_55 ?_
        refine rI ?_
        refine g_iret rfl dX8_named_6 ?_
        have zz := H.scr S15 H13
        exact k _ tc V Bf Lf ((-10) - z7) (mtP_f (by omega) e11 (by omega) (by omega)) zz.1 zz.2
      · refine g_aload_n 35 dX8_make_34 rfl rfl ?_
        refine g_aload 37 dX8_make_35 rfl rfl ?_
        refine g_get 40 dX8_make_37 faX8_238_X4 q0_16 rfl rfl ?_
        refine g_iload_n 41 dX8_make_40 rfl rfl ?_
        refine g_iload_n 42 dX8_make_41 rfl rfl ?_
        refine g_bipush (v := iZ (-9)) 44 dX8_make_42 (by decide +kernel) rfl ?_
        have f18 := (S15.get (by omega) F0)
        refine g_callV (z := mX8_keep) (As := [.ref 10, .int (iZ 1), .int (iZ i), .int (iZ (-9))]) 47 dX8_make_44 mwX8_keep ⟨by decide, by decide⟩ rfl wlX8_105 wiX8_keep wsX8_keep f18 rfl rfl rfl (nle rfl) (nle rfl) rfl ?_
        refine x_keep (HC.scr S15) (S15.1.trans hlen) q1_16 q2_16 q3_16 p6_16 p7_16 (by omega) (by decide) (by omega) (by omega) (by omega) (by omega) (by omega) (fun h19 t20 V21 B22 L23 z24 rz24 kp25 C26 k27 => ?_)
        refine rI ?_
        refine g_goto 55 dX8_make_47 rfl ?_
        refine g_iret rfl dX8_make_55 ?_
        refine rI ?_
        refine g_iret rfl dX8_named_6 ?_
        have zz := H.scr S15 H13
        have z2 := zz.1.kp C26 k27
        exact k _ t20 V21 B22 L23 (z24) (mtP_k (by omega) e11 (by omega) kp25) z2.1 (zz.2.tr z2.2)
    · refine g_null 11 dX8_textAt_10 rfl ?_
      refine g_goto 20 dX8_textAt_11 rfl ?_
      refine g_aret rfl (Or.inl rfl) dX8_textAt_20 ?_
      refine rN ?_
      refine g_astore_nN (L1 := [some (.ref 0), some (.int (iZ 1)), some (.int (iZ i)), some (.null), none, none]) 6 dX8_make_5 (by decide) rfl rfl rfl ?_
      refine g_aload_nN 7 dX8_make_6 rfl rfl ?_
      refine g_ifnonnullN 10 dX8_make_7 rfl ?_
      refine g_iconst (v := iZ (-1)) 11 dX8_make_10 rfl rfl ?_
      refine g_iret rfl dX8_make_11 ?_
      refine rI ?_
      refine g_iret rfl dX8_named_6 ?_
      exact k _ tc V Bf Lf (-1) (mtP_n (by omega)) H (fun _ _ _ => rfl)
set_option maxRecDepth 100000 in
theorem b8_build {l : Launch} {h : MH} {Q : Option Value → MH → Prop} {tn : Int} {tf : Nat → Int} {xn : Nat → Int} {xf : Nat → Nat → Int} {en : Int} {tc : Nat} {tr : Int64} {V Bf Lf : Nat → Nat → Int} {q lm lo : Nat → Int} {t i : Int} (H : IX2 h tn tf xn xf en tc tr V Bf Lf q lm lo) (rt : rg t) (ri : rg i) (k : ∀ (h1 : MH) (tc1 : Nat) (V1 Bf1 Lf1 : Nat → Nat → Int) (r : Int), (bdP (run0 (xn i.toNat) (fun j => xf i.toNat j.toNat) (V 0 t.toNat) (Bf t.toNat)) tc V Bf Lf t i r tc1 V1 Bf1 Lf1) → IX2 h1 tn tf xn xf en tc1 tr V1 Bf1 Lf1 q lm lo → Mo h h1 → Q (some (.int (iZ r))) h1) : Go l mX8_build 0 [some (.ref 0), some (.int (iZ t)), some (.int (iZ i)), none, none] [] h Q := by
  obtain ⟨HC, HS, HLm, HY, HE, hlen, hmz⟩ := id H
  obtain ⟨F0, F3, F4, htc, HT, HL⟩ := id HC
  refine g_aload_n 1 dX8_build_0 rfl rfl ?_
  refine g_iload_n 2 dX8_build_1 rfl rfl ?_
  refine g_callV (z := mX8_toolAt) (As := [.int (iZ t)]) 5 dX8_build_2 mwX8_toolAt ⟨by decide, by decide⟩ rfl wlX8_90 wiX8_toolAt wsX8_toolAt F0 rfl rfl rfl (nle rfl) (nle rfl) rfl ?_
  refine Go.to [some (.ref 0), some (.int (iZ t))] [] rfl rfl ?_
  refine g_iload_n 1 dX8_toolAt_0 rfl rfl ?_
  refine g_ifZ_lt 18 4 dX8_toolAt_1 rfl rfl rt (fun c1 => ?_) (fun c1 => ?_)
  · refine g_null 19 dX8_toolAt_18 rfl ?_
    refine g_goto 28 dX8_toolAt_19 rfl ?_
    refine g_aret rfl (Or.inl rfl) dX8_toolAt_28 ?_
    refine rN ?_
    refine g_astore_nN (L1 := [some (.ref 0), some (.int (iZ t)), some (.int (iZ i)), some (.null), none]) 6 dX8_build_5 (by decide) rfl rfl rfl ?_
    refine g_aload_n 7 dX8_build_6 rfl rfl ?_
    refine g_iload_n 8 dX8_build_7 rfl rfl ?_
    refine g_callV (z := mX8_textAt) (As := [.int (iZ i)]) 11 dX8_build_8 mwX8_textAt ⟨by decide, by decide⟩ rfl wlX8_74 wiX8_textAt wsX8_textAt F0 rfl rfl rfl (nle rfl) (nle rfl) rfl ?_
    refine Go.to [some (.ref 0), some (.int (iZ i))] [] rfl rfl ?_
    refine g_iload_n 1 dX8_textAt_0 rfl rfl ?_
    refine g_ifZ_lt 10 4 dX8_textAt_1 rfl rfl ri (fun c2 => ?_) (fun c2 => ?_)
    · refine g_null 11 dX8_textAt_10 rfl ?_
      refine g_goto 20 dX8_textAt_11 rfl ?_
      refine g_aret rfl (Or.inl rfl) dX8_textAt_20 ?_
      refine rN ?_
      refine g_astoreN (L1 := [some (.ref 0), some (.int (iZ t)), some (.int (iZ i)), some (.null), some (.null)]) 13 dX8_build_11 (by decide) rfl rfl rfl ?_
      refine g_aload_nN 14 dX8_build_13 rfl rfl ?_
      refine g_ifnullN 22 dX8_build_14 rfl ?_
      refine g_iconst (v := iZ (-1)) 23 dX8_build_22 rfl rfl ?_
      refine g_iret rfl dX8_build_23 ?_
      exact k _ tc V Bf Lf (-1) (bdP_n (by omega)) H (fun _ _ _ => rfl)
    · refine g_iload_n 5 dX8_textAt_4 rfl rfl ?_
      refine g_bipush (v := iZ (8)) 7 dX8_textAt_5 (by decide +kernel) rfl ?_
      refine g_icZ_lt 14 10 dX8_textAt_7 rfl rfl ri (by decide) (fun c3 => ?_) (fun c3 => ?_)
      · refine g_aload_n 15 dX8_textAt_14 rfl rfl ?_
        refine g_get 18 dX8_textAt_15 faX8_16_X8 F0 rfl rfl ?_
        refine g_iload_n 19 dX8_textAt_18 rfl rfl ?_
        refine g_aaldZ 20 dX8_textAt_19 F3 (by decide) (by omega) (by omega) (by decide) (txs_at (by omega) (by omega)) rfl ?_
        refine g_aret rfl (Or.inr ⟨_, rfl⟩) dX8_textAt_20 ?_
        refine rR ?_
        refine g_astore (L1 := [some (.ref 0), some (.int (iZ t)), some (.int (iZ i)), some (.null), some (.ref (34 + 2 * i.toNat))]) 13 dX8_build_11 (by decide) rfl rfl rfl ?_
        refine g_aload_nN 14 dX8_build_13 rfl rfl ?_
        refine g_ifnullN 22 dX8_build_14 rfl ?_
        refine g_iconst (v := iZ (-1)) 23 dX8_build_22 rfl rfl ?_
        refine g_iret rfl dX8_build_23 ?_
        exact k _ tc V Bf Lf (-1) (bdP_n (by omega)) H (fun _ _ _ => rfl)
      · refine g_null 11 dX8_textAt_10 rfl ?_
        refine g_goto 20 dX8_textAt_11 rfl ?_
        refine g_aret rfl (Or.inl rfl) dX8_textAt_20 ?_
        refine rN ?_
        refine g_astoreN (L1 := [some (.ref 0), some (.int (iZ t)), some (.int (iZ i)), some (.null), some (.null)]) 13 dX8_build_11 (by decide) rfl rfl rfl ?_
        refine g_aload_nN 14 dX8_build_13 rfl rfl ?_
        refine g_ifnullN 22 dX8_build_14 rfl ?_
        refine g_iconst (v := iZ (-1)) 23 dX8_build_22 rfl rfl ?_
        refine g_iret rfl dX8_build_23 ?_
        exact k _ tc V Bf Lf (-1) (bdP_n (by omega)) H (fun _ _ _ => rfl)
  · refine g_iload_n 5 dX8_toolAt_4 rfl rfl ?_
    refine g_aload_n 6 dX8_toolAt_5 rfl rfl ?_
    refine g_get 9 dX8_toolAt_6 faX8_26_X8 F0 rfl rfl ?_
    refine g_icZ_ge 18 12 dX8_toolAt_9 rfl rfl rt (by omega) (fun c4 => ?_) (fun c4 => ?_)
    · refine g_null 19 dX8_toolAt_18 rfl ?_
      refine g_goto 28 dX8_toolAt_19 rfl ?_
      refine g_aret rfl (Or.inl rfl) dX8_toolAt_28 ?_
      refine rN ?_
      refine g_astore_nN (L1 := [some (.ref 0), some (.int (iZ t)), some (.int (iZ i)), some (.null), none]) 6 dX8_build_5 (by decide) rfl rfl rfl ?_
      refine g_aload_n 7 dX8_build_6 rfl rfl ?_
      refine g_iload_n 8 dX8_build_7 rfl rfl ?_
      refine g_callV (z := mX8_textAt) (As := [.int (iZ i)]) 11 dX8_build_8 mwX8_textAt ⟨by decide, by decide⟩ rfl wlX8_74 wiX8_textAt wsX8_textAt F0 rfl rfl rfl (nle rfl) (nle rfl) rfl ?_
      refine Go.to [some (.ref 0), some (.int (iZ i))] [] rfl rfl ?_
      refine g_iload_n 1 dX8_textAt_0 rfl rfl ?_
      refine g_ifZ_lt 10 4 dX8_textAt_1 rfl rfl ri (fun c5 => ?_) (fun c5 => ?_)
      · refine g_null 11 dX8_textAt_10 rfl ?_
        refine g_goto 20 dX8_textAt_11 rfl ?_
        refine g_aret rfl (Or.inl rfl) dX8_textAt_20 ?_
        refine rN ?_
        refine g_astoreN (L1 := [some (.ref 0), some (.int (iZ t)), some (.int (iZ i)), some (.null), some (.null)]) 13 dX8_build_11 (by decide) rfl rfl rfl ?_
        refine g_aload_nN 14 dX8_build_13 rfl rfl ?_
        refine g_ifnullN 22 dX8_build_14 rfl ?_
        refine g_iconst (v := iZ (-1)) 23 dX8_build_22 rfl rfl ?_
        refine g_iret rfl dX8_build_23 ?_
        exact k _ tc V Bf Lf (-1) (bdP_n (by omega)) H (fun _ _ _ => rfl)
      · refine g_iload_n 5 dX8_textAt_4 rfl rfl ?_
        refine g_bipush (v := iZ (8)) 7 dX8_textAt_5 (by decide +kernel) rfl ?_
        refine g_icZ_lt 14 10 dX8_textAt_7 rfl rfl ri (by decide) (fun c6 => ?_) (fun c6 => ?_)
        · refine g_aload_n 15 dX8_textAt_14 rfl rfl ?_
          refine g_get 18 dX8_textAt_15 faX8_16_X8 F0 rfl rfl ?_
          refine g_iload_n 19 dX8_textAt_18 rfl rfl ?_
          refine g_aaldZ 20 dX8_textAt_19 F3 (by decide) (by omega) (by omega) (by decide) (txs_at (by omega) (by omega)) rfl ?_
          refine g_aret rfl (Or.inr ⟨_, rfl⟩) dX8_textAt_20 ?_
          refine rR ?_
          refine g_astore (L1 := [some (.ref 0), some (.int (iZ t)), some (.int (iZ i)), some (.null), some (.ref (34 + 2 * i.toNat))]) 13 dX8_build_11 (by decide) rfl rfl rfl ?_
          refine g_aload_nN 14 dX8_build_13 rfl rfl ?_
          refine g_ifnullN 22 dX8_build_14 rfl ?_
          refine g_iconst (v := iZ (-1)) 23 dX8_build_22 rfl rfl ?_
          refine g_iret rfl dX8_build_23 ?_
          exact k _ tc V Bf Lf (-1) (bdP_n (by omega)) H (fun _ _ _ => rfl)
        · refine g_null 11 dX8_textAt_10 rfl ?_
          refine g_goto 20 dX8_textAt_11 rfl ?_
          refine g_aret rfl (Or.inl rfl) dX8_textAt_20 ?_
          refine rN ?_
          refine g_astoreN (L1 := [some (.ref 0), some (.int (iZ t)), some (.int (iZ i)), some (.null), some (.null)]) 13 dX8_build_11 (by decide) rfl rfl rfl ?_
          refine g_aload_nN 14 dX8_build_13 rfl rfl ?_
          refine g_ifnullN 22 dX8_build_14 rfl ?_
          refine g_iconst (v := iZ (-1)) 23 dX8_build_22 rfl rfl ?_
          refine g_iret rfl dX8_build_23 ?_
          exact k _ tc V Bf Lf (-1) (bdP_n (by omega)) H (fun _ _ _ => rfl)
    · refine g_iload_n 13 dX8_toolAt_12 rfl rfl ?_
      refine g_bipush (v := iZ (12)) 15 dX8_toolAt_13 (by decide +kernel) rfl ?_
      refine g_icZ_lt 22 18 dX8_toolAt_15 rfl rfl rt (by decide) (fun c7 => ?_) (fun c7 => ?_)
      · refine g_aload_n 23 dX8_toolAt_22 rfl rfl ?_
        refine g_get 26 dX8_toolAt_23 faX8_22_X8 F0 rfl rfl ?_
        refine g_iload_n 27 dX8_toolAt_26 rfl rfl ?_
        refine g_aaldZ 28 dX8_toolAt_27 F4 (by decide) (by omega) (by omega) (by decide) (tls_at (by omega) (by omega)) rfl ?_
        refine g_aret rfl (Or.inr ⟨_, rfl⟩) dX8_toolAt_28 ?_
        refine rR ?_
        refine g_astore_n (L1 := [some (.ref 0), some (.int (iZ t)), some (.int (iZ i)), some (.ref (71 + 4 * t.toNat)), none]) 6 dX8_build_5 (by decide) rfl rfl rfl ?_
        refine g_aload_n 7 dX8_build_6 rfl rfl ?_
        refine g_iload_n 8 dX8_build_7 rfl rfl ?_
        refine g_callV (z := mX8_textAt) (As := [.int (iZ i)]) 11 dX8_build_8 mwX8_textAt ⟨by decide, by decide⟩ rfl wlX8_74 wiX8_textAt wsX8_textAt F0 rfl rfl rfl (nle rfl) (nle rfl) rfl ?_
        refine Go.to [some (.ref 0), some (.int (iZ i))] [] rfl rfl ?_
        refine g_iload_n 1 dX8_textAt_0 rfl rfl ?_
        refine g_ifZ_lt 10 4 dX8_textAt_1 rfl rfl ri (fun c8 => ?_) (fun c8 => ?_)
        · refine g_null 11 dX8_textAt_10 rfl ?_
          refine g_goto 20 dX8_textAt_11 rfl ?_
          refine g_aret rfl (Or.inl rfl) dX8_textAt_20 ?_
          refine rN ?_
          refine g_astoreN (L1 := [some (.ref 0), some (.int (iZ t)), some (.int (iZ i)), some (.ref (71 + 4 * t.toNat)), some (.null)]) 13 dX8_build_11 (by decide) rfl rfl rfl ?_
          refine g_aload_n 14 dX8_build_13 rfl rfl ?_
          refine g_ifnull 17 dX8_build_14 rfl ?_
          refine g_aloadN 19 dX8_build_17 rfl rfl ?_
          refine g_ifnonnullN 22 dX8_build_19 rfl ?_
          refine g_iconst (v := iZ (-1)) 23 dX8_build_22 rfl rfl ?_
          refine g_iret rfl dX8_build_23 ?_
          exact k _ tc V Bf Lf (-1) (bdP_n (by omega)) H (fun _ _ _ => rfl)
        · refine g_iload_n 5 dX8_textAt_4 rfl rfl ?_
          refine g_bipush (v := iZ (8)) 7 dX8_textAt_5 (by decide +kernel) rfl ?_
          refine g_icZ_lt 14 10 dX8_textAt_7 rfl rfl ri (by decide) (fun c9 => ?_) (fun c9 => ?_)
          · refine g_aload_n 15 dX8_textAt_14 rfl rfl ?_
            refine g_get 18 dX8_textAt_15 faX8_16_X8 F0 rfl rfl ?_
            refine g_iload_n 19 dX8_textAt_18 rfl rfl ?_
            refine g_aaldZ 20 dX8_textAt_19 F3 (by decide) (by omega) (by omega) (by decide) (txs_at (by omega) (by omega)) rfl ?_
            refine g_aret rfl (Or.inr ⟨_, rfl⟩) dX8_textAt_20 ?_
            refine rR ?_
            refine g_astore (L1 := [some (.ref 0), some (.int (iZ t)), some (.int (iZ i)), some (.ref (71 + 4 * t.toNat)), some (.ref (34 + 2 * i.toNat))]) 13 dX8_build_11 (by decide) rfl rfl rfl ?_
            refine g_aload_n 14 dX8_build_13 rfl rfl ?_
            refine g_ifnull 17 dX8_build_14 rfl ?_
            refine g_aload 19 dX8_build_17 rfl rfl ?_
            refine g_ifnonnull 24 dX8_build_19 rfl ?_
            refine g_aload_n 25 dX8_build_24 rfl rfl ?_
            refine g_get 28 dX8_build_25 faX8_50_X8 F0 rfl rfl ?_
            refine g_aload_n 29 dX8_build_28 rfl rfl ?_
            obtain ⟨ta1_10, ta2_10, ta3_10, ta4_10, ta5_10, ta6_10, ta7_10, ta8_10, ta9_10, tb0_10, tb1_10, tb2_10, tb3_10⟩ := HL (t.toNat) (by omega)
            refine g_get 32 dX8_build_29 faX8_94_X7 tb0_10 rfl rfl ?_
            refine g_aload 34 dX8_build_32 rfl rfl ?_
            obtain ⟨a_11, x_11, p_11, en_11, dn_11, tk_11, hm_11, on_11, mm_11, of_11, og_11, ma1_11, ma2_11, ma3_11, ma4_11, ma5_11, ma6_11, ma7_11, ma8_11, ma9_11, ma10_11, ma11_11, mb0_11, mb1_11, mb2_11, mb3_11, mb4_11⟩ := SC2.m (m := 20) (by decide) HS
            refine g_callV (z := mX2_builds) (As := [.ref (71 + 4 * t.toNat + 1), .ref (34 + 2 * i.toNat)]) 37 dX8_build_34 mwX2_builds ⟨by decide, by decide⟩ rfl wlX8_98 wiX2_builds wsX2_builds mb0_11 rfl rfl rfl (nle rfl) (nle rfl) rfl ?_
            obtain ⟨t0_12, t1_12, t2_12, t3_12, t4_12⟩ := HT (i.toNat) (by omega)
            refine sc2_bl (m := 20) (M := (V 0 t.toNat).toNat) (by decide) HS tb1_10 tb2_10 tb3_10 ta8_10 ta9_10 (by omega) (by omega) (by omega) (by omega) t0_12 t1_12 t4_12 (by omega) (by omega) (fun h13 z14 a15 x16 p17 e18 d19 t20 hm21 c22 mm23 of24 og25 r26 R27 X28 H29 s30 => ?_)
            have S31 : Scr2 _ _ := s30.scr2 (by decide)
            obtain ⟨ma1_32, ma2_32, ma3_32, ma4_32, ma5_32, ma6_32, ma7_32, ma8_32, ma9_32, ma10_32, ma11_32, mb0_32, mb1_32, mb2_32, mb3_32, mb4_32⟩ := id X28
            refine rI ?_
            refine g_ifZ_ne 43 40 dX8_build_37 rfl rfl (rg01 (by omega)) (fun c33 => ?_) (fun c33 => ?_)
            · refine g_aload_n 44 dX8_build_43 rfl rfl ?_
              refine g_aload_n 45 dX8_build_44 rfl rfl ?_
              have f34 := (S31.get (by omega) F0)
              refine g_get 48 dX8_build_45 faX8_50_X8 f34 rfl rfl ?_
              refine g_get 51 dX8_build_48 faX8_102_X2 mb0_32 rfl rfl ?_
              refine g_iconst (v := iZ (2)) 52 dX8_build_51 rfl rfl ?_
              refine g_iload_n 53 dX8_build_52 rfl rfl ?_
              refine g_iload_n 54 dX8_build_53 rfl rfl ?_
              refine g_callV (z := mX8_keep) (As := [.ref 22, .int (iZ 2), .int (iZ i), .int (iZ t)]) 57 dX8_build_54 mwX8_keep ⟨by decide, by decide⟩ rfl wlX8_105 wiX8_keep wsX8_keep f34 rfl rfl rfl (nle rfl) (nle rfl) rfl ?_
              refine x_keep (HC.scr S31) (S31.1.trans hlen) mb2_32 mb3_32 mb4_32 ma10_32 ma11_32 (by omega) (by decide) (by omega) (by omega) (by omega) (by omega) (by omega) (fun h35 t36 V37 B38 L39 z40 rz40 kp41 C42 k43 => ?_)
              refine rI ?_
              refine g_iret rfl dX8_build_57 ?_
              have hok : bldOk (run0 (xn i.toNat) (fun j => xf i.toNat j.toNat) (V 0 t.toNat) (Bf t.toNat)) := r26.elim (fun z => z.2) (fun z => absurd z.1 (by omega))
              have zz := H.scr S31 H29
              have z2 := zz.1.kp C42 k43
              exact k _ t36 V37 B38 L39 (z40) (bdP_k (by omega) hok R27 kp41) z2.1 (zz.2.tr z2.2)
            · refine g_bipush (v := iZ (-2)) 42 dX8_build_40 (by decide +kernel) rfl ?_
              refine g_iret rfl dX8_build_42 ?_
              have hok : ¬ bldOk (run0 (xn i.toNat) (fun j => xf i.toNat j.toNat) (V 0 t.toNat) (Bf t.toNat)) := r26.elim (fun z => absurd z.1 (by omega)) (fun z => z.2)
              have zz := H.scr S31 H29
              exact k _ tc V Bf Lf (-2) (bdP_s (by omega) hok) zz.1 zz.2
          · refine g_null 11 dX8_textAt_10 rfl ?_
            refine g_goto 20 dX8_textAt_11 rfl ?_
            refine g_aret rfl (Or.inl rfl) dX8_textAt_20 ?_
            refine rN ?_
            refine g_astoreN (L1 := [some (.ref 0), some (.int (iZ t)), some (.int (iZ i)), some (.ref (71 + 4 * t.toNat)), some (.null)]) 13 dX8_build_11 (by decide) rfl rfl rfl ?_
            refine g_aload_n 14 dX8_build_13 rfl rfl ?_
            refine g_ifnull 17 dX8_build_14 rfl ?_
            refine g_aloadN 19 dX8_build_17 rfl rfl ?_
            refine g_ifnonnullN 22 dX8_build_19 rfl ?_
            refine g_iconst (v := iZ (-1)) 23 dX8_build_22 rfl rfl ?_
            refine g_iret rfl dX8_build_23 ?_
            exact k _ tc V Bf Lf (-1) (bdP_n (by omega)) H (fun _ _ _ => rfl)
      · refine g_null 19 dX8_toolAt_18 rfl ?_
        refine g_goto 28 dX8_toolAt_19 rfl ?_
        refine g_aret rfl (Or.inl rfl) dX8_toolAt_28 ?_
        refine rN ?_
        refine g_astore_nN (L1 := [some (.ref 0), some (.int (iZ t)), some (.int (iZ i)), some (.null), none]) 6 dX8_build_5 (by decide) rfl rfl rfl ?_
        refine g_aload_n 7 dX8_build_6 rfl rfl ?_
        refine g_iload_n 8 dX8_build_7 rfl rfl ?_
        refine g_callV (z := mX8_textAt) (As := [.int (iZ i)]) 11 dX8_build_8 mwX8_textAt ⟨by decide, by decide⟩ rfl wlX8_74 wiX8_textAt wsX8_textAt F0 rfl rfl rfl (nle rfl) (nle rfl) rfl ?_
        refine Go.to [some (.ref 0), some (.int (iZ i))] [] rfl rfl ?_
        refine g_iload_n 1 dX8_textAt_0 rfl rfl ?_
        refine g_ifZ_lt 10 4 dX8_textAt_1 rfl rfl ri (fun c44 => ?_) (fun c44 => ?_)
        · refine g_null 11 dX8_textAt_10 rfl ?_
          refine g_goto 20 dX8_textAt_11 rfl ?_
          refine g_aret rfl (Or.inl rfl) dX8_textAt_20 ?_
          refine rN ?_
          refine g_astoreN (L1 := [some (.ref 0), some (.int (iZ t)), some (.int (iZ i)), some (.null), some (.null)]) 13 dX8_build_11 (by decide) rfl rfl rfl ?_
          refine g_aload_nN 14 dX8_build_13 rfl rfl ?_
          refine g_ifnullN 22 dX8_build_14 rfl ?_
          refine g_iconst (v := iZ (-1)) 23 dX8_build_22 rfl rfl ?_
          refine g_iret rfl dX8_build_23 ?_
          exact k _ tc V Bf Lf (-1) (bdP_n (by omega)) H (fun _ _ _ => rfl)
        · refine g_iload_n 5 dX8_textAt_4 rfl rfl ?_
          refine g_bipush (v := iZ (8)) 7 dX8_textAt_5 (by decide +kernel) rfl ?_
          refine g_icZ_lt 14 10 dX8_textAt_7 rfl rfl ri (by decide) (fun c45 => ?_) (fun c45 => ?_)
          · refine g_aload_n 15 dX8_textAt_14 rfl rfl ?_
            refine g_get 18 dX8_textAt_15 faX8_16_X8 F0 rfl rfl ?_
            refine g_iload_n 19 dX8_textAt_18 rfl rfl ?_
            refine g_aaldZ 20 dX8_textAt_19 F3 (by decide) (by omega) (by omega) (by decide) (txs_at (by omega) (by omega)) rfl ?_
            refine g_aret rfl (Or.inr ⟨_, rfl⟩) dX8_textAt_20 ?_
            refine rR ?_
            refine g_astore (L1 := [some (.ref 0), some (.int (iZ t)), some (.int (iZ i)), some (.null), some (.ref (34 + 2 * i.toNat))]) 13 dX8_build_11 (by decide) rfl rfl rfl ?_
            refine g_aload_nN 14 dX8_build_13 rfl rfl ?_
            refine g_ifnullN 22 dX8_build_14 rfl ?_
            refine g_iconst (v := iZ (-1)) 23 dX8_build_22 rfl rfl ?_
            refine g_iret rfl dX8_build_23 ?_
            exact k _ tc V Bf Lf (-1) (bdP_n (by omega)) H (fun _ _ _ => rfl)
          · refine g_null 11 dX8_textAt_10 rfl ?_
            refine g_goto 20 dX8_textAt_11 rfl ?_
            refine g_aret rfl (Or.inl rfl) dX8_textAt_20 ?_
            refine rN ?_
            refine g_astoreN (L1 := [some (.ref 0), some (.int (iZ t)), some (.int (iZ i)), some (.null), some (.null)]) 13 dX8_build_11 (by decide) rfl rfl rfl ?_
            refine g_aload_nN 14 dX8_build_13 rfl rfl ?_
            refine g_ifnullN 22 dX8_build_14 rfl ?_
            refine g_iconst (v := iZ (-1)) 23 dX8_build_22 rfl rfl ?_
            refine g_iret rfl dX8_build_23 ?_
            exact k _ tc V Bf Lf (-1) (bdP_n (by omega)) H (fun _ _ _ => rfl)
set_option maxRecDepth 100000 in
theorem b8_check {l : Launch} {h : MH} {Q : Option Value → MH → Prop} {tn : Int} {tf : Nat → Int} {xn : Nat → Int} {xf : Nat → Nat → Int} {en : Int} {tc : Nat} {tr : Int64} {V Bf Lf : Nat → Nat → Int} {q lm lo : Nat → Int} {t x : Int} (H : IX2 h tn tf xn xf en tc tr V Bf Lf q lm lo) (rt : rg t) (rx : rg x) (k : ∀ (h1 : MH) (V1 Bf1 Lf1 : Nat → Nat → Int) (r : Int), ckP tc V Bf Lf t x r V1 Bf1 Lf1 → IX2 h1 tn tf xn xf en tc tr V1 Bf1 Lf1 q lm lo → Mo h h1 → Q (some (.int (iZ r))) h1) : Go l mX8_check 0 [some (.ref 0), some (.int (iZ t)), some (.int (iZ x)), none, none] [] h Q := by
  obtain ⟨HC, HS, HLm, HY, HE, hlen, hmz⟩ := id H
  obtain ⟨F0, F3, F4, htc, HT, HL⟩ := id HC
  refine g_aload_n 1 dX8_check_0 rfl rfl ?_
  refine g_iload_n 2 dX8_check_1 rfl rfl ?_
  refine g_callV (z := mX8_toolAt) (As := [.int (iZ t)]) 5 dX8_check_2 mwX8_toolAt ⟨by decide, by decide⟩ rfl wlX8_90 wiX8_toolAt wsX8_toolAt F0 rfl rfl rfl (nle rfl) (nle rfl) rfl ?_
  refine Go.to [some (.ref 0), some (.int (iZ t))] [] rfl rfl ?_
  refine g_iload_n 1 dX8_toolAt_0 rfl rfl ?_
  refine g_ifZ_lt 18 4 dX8_toolAt_1 rfl rfl rt (fun c1 => ?_) (fun c1 => ?_)
  · refine g_null 19 dX8_toolAt_18 rfl ?_
    refine g_goto 28 dX8_toolAt_19 rfl ?_
    refine g_aret rfl (Or.inl rfl) dX8_toolAt_28 ?_
    refine rN ?_
    refine g_astore_nN (L1 := [some (.ref 0), some (.int (iZ t)), some (.int (iZ x)), some (.null), none]) 6 dX8_check_5 (by decide) rfl rfl rfl ?_
    refine g_aload_nN 7 dX8_check_6 rfl rfl ?_
    refine g_ifnullN 19 dX8_check_7 rfl ?_
    refine g_iconst (v := iZ (-1)) 20 dX8_check_19 rfl rfl ?_
    refine g_iret rfl dX8_check_20 ?_
    exact k _ V Bf Lf (-1) (ckP_n (by omega)) H (fun _ _ _ => rfl)
  · refine g_iload_n 5 dX8_toolAt_4 rfl rfl ?_
    refine g_aload_n 6 dX8_toolAt_5 rfl rfl ?_
    refine g_get 9 dX8_toolAt_6 faX8_26_X8 F0 rfl rfl ?_
    refine g_icZ_ge 18 12 dX8_toolAt_9 rfl rfl rt (by omega) (fun c2 => ?_) (fun c2 => ?_)
    · refine g_null 19 dX8_toolAt_18 rfl ?_
      refine g_goto 28 dX8_toolAt_19 rfl ?_
      refine g_aret rfl (Or.inl rfl) dX8_toolAt_28 ?_
      refine rN ?_
      refine g_astore_nN (L1 := [some (.ref 0), some (.int (iZ t)), some (.int (iZ x)), some (.null), none]) 6 dX8_check_5 (by decide) rfl rfl rfl ?_
      refine g_aload_nN 7 dX8_check_6 rfl rfl ?_
      refine g_ifnullN 19 dX8_check_7 rfl ?_
      refine g_iconst (v := iZ (-1)) 20 dX8_check_19 rfl rfl ?_
      refine g_iret rfl dX8_check_20 ?_
      exact k _ V Bf Lf (-1) (ckP_n (by omega)) H (fun _ _ _ => rfl)
    · refine g_iload_n 13 dX8_toolAt_12 rfl rfl ?_
      refine g_bipush (v := iZ (12)) 15 dX8_toolAt_13 (by decide +kernel) rfl ?_
      refine g_icZ_lt 22 18 dX8_toolAt_15 rfl rfl rt (by decide) (fun c3 => ?_) (fun c3 => ?_)
      · refine g_aload_n 23 dX8_toolAt_22 rfl rfl ?_
        refine g_get 26 dX8_toolAt_23 faX8_22_X8 F0 rfl rfl ?_
        refine g_iload_n 27 dX8_toolAt_26 rfl rfl ?_
        refine g_aaldZ 28 dX8_toolAt_27 F4 (by decide) (by omega) (by omega) (by decide) (tls_at (by omega) (by omega)) rfl ?_
        refine g_aret rfl (Or.inr ⟨_, rfl⟩) dX8_toolAt_28 ?_
        refine rR ?_
        refine g_astore_n (L1 := [some (.ref 0), some (.int (iZ t)), some (.int (iZ x)), some (.ref (71 + 4 * t.toNat)), none]) 6 dX8_check_5 (by decide) rfl rfl rfl ?_
        refine g_aload_n 7 dX8_check_6 rfl rfl ?_
        refine g_ifnull 10 dX8_check_7 rfl ?_
        refine g_iload_n 11 dX8_check_10 rfl rfl ?_
        refine g_ifZ_lt 19 14 dX8_check_11 rfl rfl rx (fun c4 => ?_) (fun c4 => ?_)
        · refine g_iconst (v := iZ (-1)) 20 dX8_check_19 rfl rfl ?_
          refine g_iret rfl dX8_check_20 ?_
          exact k _ V Bf Lf (-1) (ckP_n (by omega)) H (fun _ _ _ => rfl)
        · refine g_iload_n 15 dX8_check_14 rfl rfl ?_
          refine g_iconst (v := iZ (1)) 16 dX8_check_15 rfl rfl ?_
          refine g_icZ_le 21 19 dX8_check_16 rfl rfl rx (by decide) (fun c5 => ?_) (fun c5 => ?_)
          · refine g_aload_n 22 dX8_check_21 rfl rfl ?_
            obtain ⟨ta1_6, ta2_6, ta3_6, ta4_6, ta5_6, ta6_6, ta7_6, ta8_6, ta9_6, tb0_6, tb1_6, tb2_6, tb3_6⟩ := HL (t.toNat) (by omega)
            refine g_get 25 dX8_check_22 faX8_112_X7 tb0_6 rfl rfl ?_
            refine g_ifZ_eq 31 28 dX8_check_25 rfl rfl (by omega) (fun c7 => ?_) (fun c7 => ?_)
            · refine g_aload_n 32 dX8_check_31 rfl rfl ?_
              refine g_get 35 dX8_check_32 faX8_121_X7 tb0_6 rfl rfl ?_
              refine g_ifZ_eq 42 38 dX8_check_35 rfl rfl (rg01 ta7_6) (fun c8 => ?_) (fun c8 => ?_)
              · refine g_iconst (v := iZ (0)) 43 dX8_check_42 rfl rfl ?_
                refine g_istore (L1 := [some (.ref 0), some (.int (iZ t)), some (.int (iZ x)), some (.ref (71 + 4 * t.toNat)), some (.int (iZ 0))]) 45 dX8_check_43 (by decide) rfl rfl rfl ?_
                refine g_aload_n 46 dX8_check_45 rfl rfl ?_
                refine g_iload_n 47 dX8_check_46 rfl rfl ?_
                refine g_iconst (v := iZ (1)) 48 dX8_check_47 rfl rfl ?_
                refine g_icZ_ne 55 51 dX8_check_48 rfl rfl rx (by decide) (fun c9 => ?_) (fun c9 => ?_)
                · refine g_iconst (v := iZ (0)) 56 dX8_check_55 rfl rfl ?_
                  refine g_putC (fs1 := [.ref (71 + 4 * t.toNat + 1), .int (iZ (V 1 t.toNat)), .int (iZ (V 2 t.toNat)), .int (iZ (V 3 t.toNat)), .int (iZ 0)]) 59 dX8_check_56 fpX8_121_X7 tb0_6 (nle rfl) vZ0 rfl rfl (fun h10 s11 f12 => ?_)
                  refine g_iload 61 dX8_check_59 rfl rfl ?_
                  refine g_iret rfl dX8_check_61 ?_
                  have zz := H.chk (j := t.toNat) (x := 0) (by omega) (by decide) s11 f12
                  exact k _ _ Bf Lf (0) (ckP_y (by omega) (by omega) (by omega) (by omega)) zz.1 zz.2
                · refine g_iconst (v := iZ (1)) 52 dX8_check_51 rfl rfl ?_
                  refine g_goto 56 dX8_check_52 rfl ?_
                  refine g_putC (fs1 := [.ref (71 + 4 * t.toNat + 1), .int (iZ (V 1 t.toNat)), .int (iZ (V 2 t.toNat)), .int (iZ (V 3 t.toNat)), .int (iZ 1)]) 59 dX8_check_56 fpX8_121_X7 tb0_6 (nle rfl) vZ1 rfl rfl (fun h13 s14 f15 => ?_)
                  refine g_iload 61 dX8_check_59 rfl rfl ?_
                  refine g_iret rfl dX8_check_61 ?_
                  have zz := H.chk (j := t.toNat) (x := 1) (by omega) (by decide) s14 f15
                  exact k _ _ Bf Lf (0) (ckP_y (by omega) (by omega) (by omega) (by omega)) zz.1 zz.2
              · refine g_iconst (v := iZ (1)) 39 dX8_check_38 rfl rfl ?_
                refine g_goto 43 dX8_check_39 rfl ?_
                refine g_istore (L1 := [some (.ref 0), some (.int (iZ t)), some (.int (iZ x)), some (.ref (71 + 4 * t.toNat)), some (.int (iZ 1))]) 45 dX8_check_43 (by decide) rfl rfl rfl ?_
                refine g_aload_n 46 dX8_check_45 rfl rfl ?_
                refine g_iload_n 47 dX8_check_46 rfl rfl ?_
                refine g_iconst (v := iZ (1)) 48 dX8_check_47 rfl rfl ?_
                refine g_icZ_ne 55 51 dX8_check_48 rfl rfl rx (by decide) (fun c16 => ?_) (fun c16 => ?_)
                · refine g_iconst (v := iZ (0)) 56 dX8_check_55 rfl rfl ?_
                  refine g_putC (fs1 := [.ref (71 + 4 * t.toNat + 1), .int (iZ (V 1 t.toNat)), .int (iZ (V 2 t.toNat)), .int (iZ (V 3 t.toNat)), .int (iZ 0)]) 59 dX8_check_56 fpX8_121_X7 tb0_6 (nle rfl) vZ0 rfl rfl (fun h17 s18 f19 => ?_)
                  refine g_iload 61 dX8_check_59 rfl rfl ?_
                  refine g_iret rfl dX8_check_61 ?_
                  have zz := H.chk (j := t.toNat) (x := 0) (by omega) (by decide) s18 f19
                  exact k _ _ Bf Lf (1) (ckP_y (by omega) (by omega) (by omega) (by omega)) zz.1 zz.2
                · refine g_iconst (v := iZ (1)) 52 dX8_check_51 rfl rfl ?_
                  refine g_goto 56 dX8_check_52 rfl ?_
                  refine g_putC (fs1 := [.ref (71 + 4 * t.toNat + 1), .int (iZ (V 1 t.toNat)), .int (iZ (V 2 t.toNat)), .int (iZ (V 3 t.toNat)), .int (iZ 1)]) 59 dX8_check_56 fpX8_121_X7 tb0_6 (nle rfl) vZ1 rfl rfl (fun h20 s21 f22 => ?_)
                  refine g_iload 61 dX8_check_59 rfl rfl ?_
                  refine g_iret rfl dX8_check_61 ?_
                  have zz := H.chk (j := t.toNat) (x := 1) (by omega) (by decide) s21 f22
                  exact k _ _ Bf Lf (1) (ckP_y (by omega) (by omega) (by omega) (by omega)) zz.1 zz.2
            · refine g_bipush (v := iZ (-2)) 30 dX8_check_28 (by decide +kernel) rfl ?_
              refine g_iret rfl dX8_check_30 ?_
              exact k _ V Bf Lf (-2) (ckP_s (by omega) (by omega)) H (fun _ _ _ => rfl)
          · refine g_iconst (v := iZ (-1)) 20 dX8_check_19 rfl rfl ?_
            refine g_iret rfl dX8_check_20 ?_
            exact k _ V Bf Lf (-1) (ckP_n (by omega)) H (fun _ _ _ => rfl)
      · refine g_null 19 dX8_toolAt_18 rfl ?_
        refine g_goto 28 dX8_toolAt_19 rfl ?_
        refine g_aret rfl (Or.inl rfl) dX8_toolAt_28 ?_
        refine rN ?_
        refine g_astore_nN (L1 := [some (.ref 0), some (.int (iZ t)), some (.int (iZ x)), some (.null), none]) 6 dX8_check_5 (by decide) rfl rfl rfl ?_
        refine g_aload_nN 7 dX8_check_6 rfl rfl ?_
        refine g_ifnullN 19 dX8_check_7 rfl ?_
        refine g_iconst (v := iZ (-1)) 20 dX8_check_19 rfl rfl ?_
        refine g_iret rfl dX8_check_20 ?_
        exact k _ V Bf Lf (-1) (ckP_n (by omega)) H (fun _ _ _ => rfl)

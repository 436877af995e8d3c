set_option maxRecDepth 100000 in
theorem w_hb {l : Launch} {h : MH} {Q : Option Value → MH → Prop} {i j : Int} (ri : rg i) (rj : rg j) (k : ∀ (r : Int), (r = 0 ∨ r = 1) → Q (some (.int (iZ r))) h) : Go l mX8_hasBit 0 [some (.int (iZ i)), some (.int (iZ j))] [] h Q := by
  refine g_iload_n 1 dX8_hasBit_0 rfl rfl ?_
  refine g_iload_n 2 dX8_hasBit_1 rfl rfl ?_
  refine g_ishr 3 dX8_hasBit_2 rfl ?_
  refine Go.genZ (fun z1 rz1 => ?_)
  refine g_iconst (v := iZ (1)) 4 dX8_hasBit_3 rfl rfl ?_
  refine g_iand 5 dX8_hasBit_4 rfl ?_
  refine Go.genZ (fun z2 rz2 => ?_)
  refine g_iconst (v := iZ (1)) 6 dX8_hasBit_5 rfl rfl ?_
  refine g_icZ_ne 13 9 dX8_hasBit_6 rfl rfl rz2 (by decide) (fun c3 => ?_) (fun c3 => ?_)
  · refine g_iconst (v := iZ (0)) 14 dX8_hasBit_13 rfl rfl ?_
    refine g_zret rfl z01_0 dX8_hasBit_14 ?_
    exact k (0) (Or.inl rfl)
  · refine g_iconst (v := iZ (1)) 10 dX8_hasBit_9 rfl rfl ?_
    refine g_goto 14 dX8_hasBit_10 rfl ?_
    refine g_zret rfl z01_1 dX8_hasBit_14 ?_
    exact k (1) (Or.inr rfl)
set_option maxRecDepth 100000 in
theorem w_blt1 {l : Launch} {h : MH} {Q : Option Value → MH → Prop} {tc : Nat} {xn : Nat → Int} {xf : Nat → Nat → Int} {b : Int} {j : Nat} (HC : CORE h tc xn xf) (rb : rg b) (hj : j < tc) (k : ∀ r : Int, (r = 0 ∨ r = 1) → Q (some (.int (iZ r))) h) : Go l mX8_isBuiltByOneOf 0 [some (.int (iZ b)), some (.ref (71 + 4 * j))] [] h Q := by
  obtain ⟨⟨tr, F0⟩, F3, F4, htc, HT, HL⟩ := id HC
  refine g_aload_n 1 dX8_isBuiltByOneOf_0 rfl rfl ?_
  obtain ⟨M_1, n_1, hw_1, tx_1, bd_1, ck_1, f_1, g_1, hM_1, rn_1, rhw_1, rtx_1, rbd_1, rck_1, of_1, og_1, e0_1, e1_1, e2_1, e3_1⟩ := HL (j) (by omega)
  refine g_get 4 dX8_isBuiltByOneOf_1 faX8_112_X7 e0_1 rfl rfl ?_
  refine g_iconst (v := iZ (2)) 5 dX8_isBuiltByOneOf_4 rfl rfl ?_
  refine g_icZ_ne 23 8 dX8_isBuiltByOneOf_5 rfl rfl rhw_1 (by decide) (fun c2 => ?_) (fun c2 => ?_)
  · refine g_iconst (v := iZ (0)) 24 dX8_isBuiltByOneOf_23 rfl rfl ?_
    refine g_zret rfl z01_0 dX8_isBuiltByOneOf_24 ?_
    exact k (0) (Or.inl rfl)
  · refine g_iload_n 9 dX8_isBuiltByOneOf_8 rfl rfl ?_
    refine g_aload_n 10 dX8_isBuiltByOneOf_9 rfl rfl ?_
    refine g_get 13 dX8_isBuiltByOneOf_10 faX8_118_X7 e0_1 rfl rfl ?_
    refine g_callS (z := mX8_hasBit) (As := [.int (iZ b), .int (iZ bd_1)]) 16 dX8_isBuiltByOneOf_13 mwX8_hasBit ⟨by decide, by decide⟩ rfl wlX8_180 wtX8_hasBit rfl (nle rfl) (nle rfl) rfl ?_
    refine w_hb  rb rbd_1 (fun z3 rz3 => ?_)
    refine rI ?_
    refine g_ifZ_eq 23 19 dX8_isBuiltByOneOf_16 rfl rfl (rg01 rz3) (fun c4 => ?_) (fun c4 => ?_)
    · refine g_iconst (v := iZ (0)) 24 dX8_isBuiltByOneOf_23 rfl rfl ?_
      refine g_zret rfl z01_0 dX8_isBuiltByOneOf_24 ?_
      exact k (0) (Or.inl rfl)
    · refine g_iconst (v := iZ (1)) 20 dX8_isBuiltByOneOf_19 rfl rfl ?_
      refine g_goto 24 dX8_isBuiltByOneOf_20 rfl ?_
      refine g_zret rfl z01_1 dX8_isBuiltByOneOf_24 ?_
      exact k (1) (Or.inr rfl)
set_option maxRecDepth 100000 in
theorem w_bagain {l : Launch} {h : MH} {Q : Option Value → MH → Prop} {tc : Nat} {xn : Nat → Int} {xf : Nat → Nat → Int} {j i : Nat} (HC : CORE h tc xn xf) (HS : SC h)  (hj : j < tc) (hi : i < 8) (k : ∀ (h1 : MH) (r : Int), rg r → SC h1 → Scr h h1 → Q (some (.int (iZ r))) h1) : Go l mX8_builtAgain 0 [some (.ref 0), some (.ref (71 + 4 * j)), some (.ref (34 + 2 * i)), none] [] h Q := by
  obtain ⟨⟨tr, F0⟩, F3, F4, htc, HT, HL⟩ := id HC
  refine g_aload_n 1 dX8_builtAgain_0 rfl rfl ?_
  refine g_aload_n 2 dX8_builtAgain_1 rfl rfl ?_
  obtain ⟨M_1, n_1, hw_1, tx_1, bd_1, ck_1, f_1, g_1, hM_1, rn_1, rhw_1, rtx_1, rbd_1, rck_1, of_1, og_1, e0_1, e1_1, e2_1, e3_1⟩ := HL (j) (by omega)
  refine g_get 5 dX8_builtAgain_2 faX8_118_X7 e0_1 rfl rfl ?_
  refine g_callV (z := mX8_toolAt) (As := [.int (iZ bd_1)]) 8 dX8_builtAgain_5 mwX8_toolAt ⟨by decide, by decide⟩ rfl wlX8_90 wiX8_toolAt wsX8_toolAt F0 rfl rfl rfl (nle rfl) (nle rfl) rfl ?_
  refine Go.to [some (.ref 0), some (.int (iZ bd_1))] [] rfl rfl ?_
  refine g_iload_n 1 dX8_toolAt_0 rfl rfl ?_
  refine g_ifZ_lt 18 4 dX8_toolAt_1 rfl rfl rbd_1 (fun c2 => ?_) (fun c2 => ?_)
  · refine g_null 19 dX8_toolAt_18 rfl ?_
    refine g_goto 28 dX8_toolAt_19 rfl ?_
    refine g_aret rfl (Or.inl rfl) dX8_toolAt_28 ?_
    refine rN ?_
    refine g_astore_nN (L1 := [some (.ref 0), some (.ref (71 + 4 * j)), some (.ref (34 + 2 * i)), some (.null)]) 9 dX8_builtAgain_8 (by decide) rfl rfl rfl ?_
    refine g_aload_nN 10 dX8_builtAgain_9 rfl rfl ?_
    refine g_ifnonnullN 13 dX8_builtAgain_10 rfl ?_
    refine g_bipush (v := iZ (-20)) 15 dX8_builtAgain_13 (by decide +kernel) rfl ?_
    refine g_iret rfl dX8_builtAgain_15 ?_
    exact k _ (-20) (by decide) HS (Scr.refl _)
  · refine g_iload_n 5 dX8_toolAt_4 rfl rfl ?_
    refine g_aload_n 6 dX8_toolAt_5 rfl rfl ?_
    refine g_get 9 dX8_toolAt_6 faX8_26_X8 F0 rfl rfl ?_
    refine g_icZ_ge 18 12 dX8_toolAt_9 rfl rfl rbd_1 (by omega) (fun c3 => ?_) (fun c3 => ?_)
    · refine g_null 19 dX8_toolAt_18 rfl ?_
      refine g_goto 28 dX8_toolAt_19 rfl ?_
      refine g_aret rfl (Or.inl rfl) dX8_toolAt_28 ?_
      refine rN ?_
      refine g_astore_nN (L1 := [some (.ref 0), some (.ref (71 + 4 * j)), some (.ref (34 + 2 * i)), some (.null)]) 9 dX8_builtAgain_8 (by decide) rfl rfl rfl ?_
      refine g_aload_nN 10 dX8_builtAgain_9 rfl rfl ?_
      refine g_ifnonnullN 13 dX8_builtAgain_10 rfl ?_
      refine g_bipush (v := iZ (-20)) 15 dX8_builtAgain_13 (by decide +kernel) rfl ?_
      refine g_iret rfl dX8_builtAgain_15 ?_
      exact k _ (-20) (by decide) HS (Scr.refl _)
    · refine g_iload_n 13 dX8_toolAt_12 rfl rfl ?_
      refine g_bipush (v := iZ (12)) 15 dX8_toolAt_13 (by decide +kernel) rfl ?_
      refine g_icZ_lt 22 18 dX8_toolAt_15 rfl rfl rbd_1 (by decide) (fun c4 => ?_) (fun c4 => ?_)
      · refine g_aload_n 23 dX8_toolAt_22 rfl rfl ?_
        refine g_get 26 dX8_toolAt_23 faX8_22_X8 F0 rfl rfl ?_
        refine g_iload_n 27 dX8_toolAt_26 rfl rfl ?_
        refine g_aaldZ 28 dX8_toolAt_27 F4 (by decide) (by omega) (by omega) (by decide) (tls_at (by omega) (by omega)) rfl ?_
        refine g_aret rfl (Or.inr ⟨_, rfl⟩) dX8_toolAt_28 ?_
        refine rR ?_
        refine g_astore_n (L1 := [some (.ref 0), some (.ref (71 + 4 * j)), some (.ref (34 + 2 * i)), some (.ref (71 + 4 * bd_1.toNat))]) 9 dX8_builtAgain_8 (by decide) rfl rfl rfl ?_
        refine g_aload_n 10 dX8_builtAgain_9 rfl rfl ?_
        refine g_ifnonnull 16 dX8_builtAgain_10 rfl ?_
        refine g_aload_n 17 dX8_builtAgain_16 rfl rfl ?_
        refine g_get 20 dX8_builtAgain_17 faX8_50_X8 F0 rfl rfl ?_
        refine g_aload_n 21 dX8_builtAgain_20 rfl rfl ?_
        obtain ⟨M_5, n_5, hw_5, tx_5, bd_5, ck_5, f_5, g_5, hM_5, rn_5, rhw_5, rtx_5, rbd_5, rck_5, of_5, og_5, e0_5, e1_5, e2_5, e3_5⟩ := HL (bd_1.toNat) (by omega)
        refine g_get 24 dX8_builtAgain_21 faX8_94_X7 e0_5 rfl rfl ?_
        refine g_aload_n 25 dX8_builtAgain_24 rfl rfl ?_
        obtain ⟨a_6, x_6, p_6, en_6, dn_6, tk_6, hm_6, on_6, mm_6, of_6, og_6, ra_6, rx_6, rp_6, ren_6, rdn_6, rtk_6, rhm_6, ron_6, omm_6, oof_6, oog_6, e0_6, e1_6, e2_6, e3_6, e4_6⟩ := SC.m (m := 20) (by decide) HS
        refine g_callV (z := mX2_goThrough) (As := [.ref (71 + 4 * bd_1.toNat + 1), .ref (34 + 2 * i)]) 28 dX8_builtAgain_25 mwX2_goThrough ⟨by decide, by decide⟩ rfl wlX8_129 wiX2_goThrough wsX2_goThrough e0_6 rfl rfl rfl (nle rfl) (nle rfl) rfl ?_
        obtain ⟨t0_7, t1_7, t2_7, t3_7, t4_7⟩ := HT (i) (by omega)
        refine sc_go (M := M_5) (by decide) HS e1_5 e2_5 e3_5 of_5 og_5 rn_5 (by omega) (by omega) t0_7 t1_7 (okb_okr t4_7) (by omega) (by omega) (fun h8 H10 s11 => ?_)
        refine rV ?_
        refine g_aload_n 29 dX8_builtAgain_28 rfl rfl ?_
        have f12 := (s11.get (by omega) F0)
        refine g_get 32 dX8_builtAgain_29 faX8_50_X8 f12 rfl rfl ?_
        obtain ⟨a_13, x_13, p_13, en_13, dn_13, tk_13, hm_13, on_13, mm_13, of_13, og_13, ra_13, rx_13, rp_13, ren_13, rdn_13, rtk_13, rhm_13, ron_13, omm_13, oof_13, oog_13, e0_13, e1_13, e2_13, e3_13, e4_13⟩ := SC.m (m := 20) (by decide) H10
        refine g_get 35 dX8_builtAgain_32 faX8_133_X2 e0_13 rfl rfl ?_
        refine g_ifZ_eq 49 38 dX8_builtAgain_35 rfl rfl rhm_13 (fun c14 => ?_) (fun c14 => ?_)
        · refine g_aload_n 50 dX8_builtAgain_49 rfl rfl ?_
          refine g_get 53 dX8_builtAgain_50 faX8_50_X8 f12 rfl rfl ?_
          refine g_get 56 dX8_builtAgain_53 faX8_102_X2 e0_13 rfl rfl ?_
          refine g_get 59 dX8_builtAgain_56 faX8_109_X0 e2_13 rfl rfl ?_
          refine g_ifZ_ne 67 62 dX8_builtAgain_59 rfl rfl ron_13 (fun c15 => ?_) (fun c15 => ?_)
          · refine g_aload_n 68 dX8_builtAgain_67 rfl rfl ?_
            have f16 := (s11.get (by omega) e0_1)
            refine g_get 71 dX8_builtAgain_68 faX8_94_X7 f16 rfl rfl ?_
            refine g_aload_n 72 dX8_builtAgain_71 rfl rfl ?_
            refine g_get 75 dX8_builtAgain_72 faX8_50_X8 f12 rfl rfl ?_
            refine g_get 78 dX8_builtAgain_75 faX8_102_X2 e0_13 rfl rfl ?_
            have f17 := (s11.get (by omega) e1_1)
            refine g_callV (z := mX0_unlike) (As := [.ref 22]) 81 dX8_builtAgain_78 mwX0_unlike ⟨by decide, by decide⟩ rfl wlX8_162 wiX0_unlike wsX0_unlike f17 rfl rfl rfl (nle rfl) (nle rfl) rfl ?_
            have f18 := (s11.get (by omega) e2_1)
            have f19 := (s11.get (by omega) e3_1)
            refine w_unl (M := M_1) (N := 256) f17 f18 f19 e2_13 e3_13 e4_13 of_1 og_1 oof_13 oog_13 rn_1 ron_13 (by omega) (by decide) (fun z20 rz20 => ?_)
            refine rI ?_
            refine g_iret rfl dX8_builtAgain_81 ?_
            exact k _ (z20) rz20 H10 s11
          · refine g_bipush (v := iZ (-20)) 64 dX8_builtAgain_62 (by decide +kernel) rfl ?_
            refine g_goto 81 dX8_builtAgain_64 rfl ?_
            refine g_iret rfl dX8_builtAgain_81 ?_
            exact k _ (-20) (by decide) H10 s11
        · refine g_bipush (v := iZ (-10)) 40 dX8_builtAgain_38 (by decide +kernel) rfl ?_
          refine g_aload_n 41 dX8_builtAgain_40 rfl rfl ?_
          refine g_get 44 dX8_builtAgain_41 faX8_50_X8 f12 rfl rfl ?_
          refine g_get 47 dX8_builtAgain_44 faX8_133_X2 e0_13 rfl rfl ?_
          refine g_isub 48 dX8_builtAgain_47 rfl ?_
          refine Go.genZ (fun z21 rz21 => ?_)
          refine g_iret rfl dX8_builtAgain_48 ?_
          exact k _ (z21) rz21 H10 s11
      · refine g_null 19 dX8_toolAt_18 rfl ?_
        refine g_goto 28 dX8_toolAt_19 rfl ?_
        refine g_aret rfl (Or.inl rfl) dX8_toolAt_28 ?_
        refine rN ?_
        refine g_astore_nN (L1 := [some (.ref 0), some (.ref (71 + 4 * j)), some (.ref (34 + 2 * i)), some (.null)]) 9 dX8_builtAgain_8 (by decide) rfl rfl rfl ?_
        refine g_aload_nN 10 dX8_builtAgain_9 rfl rfl ?_
        refine g_ifnonnullN 13 dX8_builtAgain_10 rfl ?_
        refine g_bipush (v := iZ (-20)) 15 dX8_builtAgain_13 (by decide +kernel) rfl ?_
        refine g_iret rfl dX8_builtAgain_15 ?_
        exact k _ (-20) (by decide) HS (Scr.refl _)
set_option maxRecDepth 100000 in
theorem w_again {l : Launch} {h : MH} {Q : Option Value → MH → Prop} {tc : Nat} {xn : Nat → Int} {xf : Nat → Nat → Int} {j : Nat} (HC : CORE h tc xn xf) (HS : SC h)  (hj : j < tc) (k : ∀ (h1 : MH) (r : Int), rg r → SC h1 → Scr h h1 → Q (some (.int (iZ r))) h1) : Go l mX8_madeAgain 0 [some (.ref 0), some (.ref (71 + 4 * j)), none, none] [] h Q := by
  obtain ⟨⟨tr, F0⟩, F3, F4, htc, HT, HL⟩ := id HC
  refine g_aload_n 1 dX8_madeAgain_0 rfl rfl ?_
  refine g_aload_n 2 dX8_madeAgain_1 rfl rfl ?_
  obtain ⟨M_1, n_1, hw_1, tx_1, bd_1, ck_1, f_1, g_1, hM_1, rn_1, rhw_1, rtx_1, rbd_1, rck_1, of_1, og_1, e0_1, e1_1, e2_1, e3_1⟩ := HL (j) (by omega)
  refine g_get 5 dX8_madeAgain_2 faX8_115_X7 e0_1 rfl rfl ?_
  refine g_callV (z := mX8_textAt) (As := [.int (iZ tx_1)]) 8 dX8_madeAgain_5 mwX8_textAt ⟨by decide, by decide⟩ rfl wlX8_74 wiX8_textAt wsX8_textAt F0 rfl rfl rfl (nle rfl) (nle rfl) rfl ?_
  refine Go.to [some (.ref 0), some (.int (iZ tx_1))] [] rfl rfl ?_
  refine g_iload_n 1 dX8_textAt_0 rfl rfl ?_
  refine g_ifZ_lt 10 4 dX8_textAt_1 rfl rfl rtx_1 (fun c2 => ?_) (fun c2 => ?_)
  · refine g_null 11 dX8_textAt_10 rfl ?_
    refine g_goto 20 dX8_textAt_11 rfl ?_
    refine g_aret rfl (Or.inl rfl) dX8_textAt_20 ?_
    refine rN ?_
    refine g_astore_nN (L1 := [some (.ref 0), some (.ref (71 + 4 * j)), some (.null), none]) 9 dX8_madeAgain_8 (by decide) rfl rfl rfl ?_
    refine g_aload_nN 10 dX8_madeAgain_9 rfl rfl ?_
    refine g_ifnonnullN 13 dX8_madeAgain_10 rfl ?_
    refine g_bipush (v := iZ (-20)) 15 dX8_madeAgain_13 (by decide +kernel) rfl ?_
    refine g_iret rfl dX8_madeAgain_15 ?_
    exact k _ (-20) (by decide) HS (Scr.refl _)
  · refine g_iload_n 5 dX8_textAt_4 rfl rfl ?_
    refine g_bipush (v := iZ (8)) 7 dX8_textAt_5 (by decide +kernel) rfl ?_
    refine g_icZ_lt 14 10 dX8_textAt_7 rfl rfl rtx_1 (by decide) (fun c3 => ?_) (fun c3 => ?_)
    · refine g_aload_n 15 dX8_textAt_14 rfl rfl ?_
      refine g_get 18 dX8_textAt_15 faX8_16_X8 F0 rfl rfl ?_
      refine g_iload_n 19 dX8_textAt_18 rfl rfl ?_
      refine g_aaldZ 20 dX8_textAt_19 F3 (by decide) (by omega) (by omega) (by decide) (txs_at (by omega) (by omega)) rfl ?_
      refine g_aret rfl (Or.inr ⟨_, rfl⟩) dX8_textAt_20 ?_
      refine rR ?_
      refine g_astore_n (L1 := [some (.ref 0), some (.ref (71 + 4 * j)), some (.ref (34 + 2 * tx_1.toNat)), none]) 9 dX8_madeAgain_8 (by decide) rfl rfl rfl ?_
      refine g_aload_n 10 dX8_madeAgain_9 rfl rfl ?_
      refine g_ifnonnull 16 dX8_madeAgain_10 rfl ?_
      refine g_aload_n 17 dX8_madeAgain_16 rfl rfl ?_
      refine g_get 20 dX8_madeAgain_17 faX8_112_X7 e0_1 rfl rfl ?_
      refine g_iconst (v := iZ (2)) 21 dX8_madeAgain_20 rfl rfl ?_
      refine g_icZ_ne 31 24 dX8_madeAgain_21 rfl rfl rhw_1 (by decide) (fun c4 => ?_) (fun c4 => ?_)
      · refine g_aload_n 32 dX8_madeAgain_31 rfl rfl ?_
        refine g_aload_n 33 dX8_madeAgain_32 rfl rfl ?_
        refine g_get 36 dX8_madeAgain_33 faX8_112_X7 e0_1 rfl rfl ?_
        refine g_callV (z := mX8_makerBy) (As := [.int (iZ hw_1)]) 39 dX8_madeAgain_36 mwX8_makerBy ⟨by decide, by decide⟩ rfl wlX8_228 wiX8_makerBy wsX8_makerBy F0 rfl rfl rfl (nle rfl) (nle rfl) rfl ?_
        refine Go.to [some (.ref 0), some (.int (iZ hw_1))] [] rfl rfl ?_
        refine g_iload_n 1 dX8_makerBy_0 rfl rfl ?_
        refine g_ifZ_ne 11 4 dX8_makerBy_1 rfl rfl rhw_1 (fun c5 => ?_) (fun c5 => ?_)
        · refine g_aload_n 12 dX8_makerBy_11 rfl rfl ?_
          refine g_get 15 dX8_makerBy_12 faX8_40_X8 F0 rfl rfl ?_
          refine g_aret rfl (Or.inr ⟨_, rfl⟩) dX8_makerBy_15 ?_
          refine rR ?_
          refine g_astore_n (L1 := [some (.ref 0), some (.ref (71 + 4 * j)), some (.ref (34 + 2 * tx_1.toNat)), some (.ref 9)]) 40 dX8_madeAgain_39 (by decide) rfl rfl rfl ?_
          refine g_aload_n 41 dX8_madeAgain_40 rfl rfl ?_
          refine g_aload_n 42 dX8_madeAgain_41 rfl rfl ?_
          obtain ⟨due_6, la_6, n_6, pl_6, lu_6, f_6, g_6, rdue_6, rla_6, rn_6, opl_6, olu_6, of_6, og_6, e0_6, e1_6, e2_6, e3_6, e4_6, e5_6⟩ := HS.2.1
          refine g_callA (z := mX4_faultIn) (As := [.ref (34 + 2 * tx_1.toNat)]) 45 dX8_madeAgain_42 mwX4_faultIn ⟨by decide, by decide⟩ rfl wlX8_232 wsmMk wiX4_faultIn wsaX4 wdMk (by decide) e0_6 rfl rfl (nle rfl) (nle rfl) rfl ?_
          obtain ⟨t0_7, t1_7, t2_7, t3_7, t4_7⟩ := HT (tx_1.toNat) (by omega)
          refine sc_nf HS t0_7 t1_7 (okb_okr t4_7) (by omega) (by omega) (fun h8 z9 rz9 H10 s11 => ?_)
          refine rI ?_
          refine g_bipush (v := iZ (-9)) 47 dX8_madeAgain_45 (by decide +kernel) rfl ?_
          refine g_icZ_ne 64 50 dX8_madeAgain_47 rfl rfl rz9 (by decide) (fun c12 => ?_) (fun c12 => ?_)
          · refine g_bipush (v := iZ (-20)) 66 dX8_madeAgain_64 (by decide +kernel) rfl ?_
            refine g_iret rfl dX8_madeAgain_66 ?_
            exact k _ (-20) (by decide) H10 s11
          · refine g_aload_n 51 dX8_madeAgain_50 rfl rfl ?_
            have f13 := (s11.get (by omega) e0_1)
            refine g_get 54 dX8_madeAgain_51 faX8_94_X7 f13 rfl rfl ?_
            refine g_aload_n 55 dX8_madeAgain_54 rfl rfl ?_
            obtain ⟨due_14, la_14, n_14, pl_14, lu_14, f_14, g_14, rdue_14, rla_14, rn_14, opl_14, olu_14, of_14, og_14, e0_14, e1_14, e2_14, e3_14, e4_14, e5_14⟩ := H10.2.1
            refine g_get 58 dX8_madeAgain_55 faX8_238_X4 e0_14 rfl rfl ?_
            have f15 := (s11.get (by omega) e1_1)
            refine g_callV (z := mX0_unlike) (As := [.ref 10]) 61 dX8_madeAgain_58 mwX0_unlike ⟨by decide, by decide⟩ rfl wlX8_162 wiX0_unlike wsX0_unlike f15 rfl rfl rfl (nle rfl) (nle rfl) rfl ?_
            have f16 := (s11.get (by omega) e2_1)
            have f17 := (s11.get (by omega) e3_1)
            refine w_unl (M := M_1) (N := 256) f15 f16 f17 e1_14 e2_14 e3_14 of_1 og_1 of_14 og_14 rn_1 rn_14 (by omega) (by decide) (fun z18 rz18 => ?_)
            refine rI ?_
            refine g_goto 66 dX8_madeAgain_61 rfl ?_
            refine g_iret rfl dX8_madeAgain_66 ?_
            exact k _ (z18) rz18 H10 s11
        · refine g_aload_n 5 dX8_makerBy_4 rfl rfl ?_
          refine g_get 8 dX8_makerBy_5 faX8_33_X8 F0 rfl rfl ?_
          refine g_goto 15 dX8_makerBy_8 rfl ?_
          refine g_aret rfl (Or.inr ⟨_, rfl⟩) dX8_makerBy_15 ?_
          refine rR ?_
          refine g_astore_n (L1 := [some (.ref 0), some (.ref (71 + 4 * j)), some (.ref (34 + 2 * tx_1.toNat)), some (.ref 5)]) 40 dX8_madeAgain_39 (by decide) rfl rfl rfl ?_
          refine g_aload_n 41 dX8_madeAgain_40 rfl rfl ?_
          refine g_aload_n 42 dX8_madeAgain_41 rfl rfl ?_
          obtain ⟨n_19, f_19, g_19, rn_19, of_19, og_19, e0_19, e1_19, e2_19, e3_19⟩ := HS.1
          refine g_callA (z := mX5_faultIn) (As := [.ref (34 + 2 * tx_1.toNat)]) 45 dX8_madeAgain_42 mwX5_faultIn ⟨by decide, by decide⟩ rfl wlX8_232 wsmMk wiX5_faultIn wsaX5 wdMk (by decide) e0_19 rfl rfl (nle rfl) (nle rfl) rfl ?_
          obtain ⟨t0_20, t1_20, t2_20, t3_20, t4_20⟩ := HT (tx_1.toNat) (by omega)
          refine sc_pf HS t0_20 t1_20 (okb_okr t4_20) (by omega) (by omega) (fun h21 z22 rz22 H23 s24 => ?_)
          refine rI ?_
          refine g_bipush (v := iZ (-9)) 47 dX8_madeAgain_45 (by decide +kernel) rfl ?_
          refine g_icZ_ne 64 50 dX8_madeAgain_47 rfl rfl rz22 (by decide) (fun c25 => ?_) (fun c25 => ?_)
          · refine g_bipush (v := iZ (-20)) 66 dX8_madeAgain_64 (by decide +kernel) rfl ?_
            refine g_iret rfl dX8_madeAgain_66 ?_
            exact k _ (-20) (by decide) H23 s24
          · refine g_aload_n 51 dX8_madeAgain_50 rfl rfl ?_
            have f26 := (s24.get (by omega) e0_1)
            refine g_get 54 dX8_madeAgain_51 faX8_94_X7 f26 rfl rfl ?_
            refine g_aload_n 55 dX8_madeAgain_54 rfl rfl ?_
            obtain ⟨n_27, f_27, g_27, rn_27, of_27, og_27, e0_27, e1_27, e2_27, e3_27⟩ := H23.1
            refine g_get 58 dX8_madeAgain_55 faX8_238_X5 e0_27 rfl rfl ?_
            have f28 := (s24.get (by omega) e1_1)
            refine g_callV (z := mX0_unlike) (As := [.ref 6]) 61 dX8_madeAgain_58 mwX0_unlike ⟨by decide, by decide⟩ rfl wlX8_162 wiX0_unlike wsX0_unlike f28 rfl rfl rfl (nle rfl) (nle rfl) rfl ?_
            have f29 := (s24.get (by omega) e2_1)
            have f30 := (s24.get (by omega) e3_1)
            refine w_unl (M := M_1) (N := 256) f28 f29 f30 e1_27 e2_27 e3_27 of_1 og_1 of_27 og_27 rn_1 rn_27 (by omega) (by decide) (fun z31 rz31 => ?_)
            refine rI ?_
            refine g_goto 66 dX8_madeAgain_61 rfl ?_
            refine g_iret rfl dX8_madeAgain_66 ?_
            exact k _ (z31) rz31 H23 s24
      · refine g_aload_n 25 dX8_madeAgain_24 rfl rfl ?_
        refine g_aload_n 26 dX8_madeAgain_25 rfl rfl ?_
        refine g_aload_n 27 dX8_madeAgain_26 rfl rfl ?_
        refine g_callV (z := mX8_builtAgain) (As := [.ref (71 + 4 * j), .ref (34 + 2 * tx_1.toNat)]) 30 dX8_madeAgain_27 mwX8_builtAgain ⟨by decide, by decide⟩ rfl wlX8_248 wiX8_builtAgain wsX8_builtAgain F0 rfl rfl rfl (nle rfl) (nle rfl) rfl ?_
        refine w_bagain HC HS  (by omega) (by omega) (fun h33 z32 rz32 H34 s35 => ?_)
        refine rI ?_
        refine g_iret rfl dX8_madeAgain_30 ?_
        exact k _ (z32) rz32 H34 s35
    · refine g_null 11 dX8_textAt_10 rfl ?_
      refine g_goto 20 dX8_textAt_11 rfl ?_
      refine g_aret rfl (Or.inl rfl) dX8_textAt_20 ?_
      refine rN ?_
      refine g_astore_nN (L1 := [some (.ref 0), some (.ref (71 + 4 * j)), some (.null), none]) 9 dX8_madeAgain_8 (by decide) rfl rfl rfl ?_
      refine g_aload_nN 10 dX8_madeAgain_9 rfl rfl ?_
      refine g_ifnonnullN 13 dX8_madeAgain_10 rfl ?_
      refine g_bipush (v := iZ (-20)) 15 dX8_madeAgain_13 (by decide +kernel) rfl ?_
      refine g_iret rfl dX8_madeAgain_15 ?_
      exact k _ (-20) (by decide) HS (Scr.refl _)
set_option maxRecDepth 100000 in
theorem w_stale_l {l : Launch} {Q : Option Value → MH → Prop} {tc : Nat} {xn : Nat → Int} {xf : Nat → Nat → Int}    : ∀ (m0 : Nat) (h : MH) (b : Int) (j : Int), ((tc : Int) - j).toNat = m0 → CORE h tc xn xf → SC h → (rg b) → (0 ≤ j ∧ j ≤ 13) → (∀ (h1 : MH) (r : Int), rg r → SC h1 → Scr h h1 → Q (some (.int (iZ r))) h1) → Go l mX8_staleBits 4 [some (.ref 0), some (.int (iZ b)), some (.int (iZ j)), none] [] h Q := by
  intro m0
  induction m0 using Nat.strongRecOn with
  | ind m0 ih =>
    intro h b j hmz HC HS rb hj k
    obtain ⟨⟨tr, F0⟩, F3, F4, htc, HT, HL⟩ := id HC
    refine g_iload_n 5 dX8_staleBits_4 rfl rfl ?_
    refine g_aload_n 6 dX8_staleBits_5 rfl rfl ?_
    refine g_get 9 dX8_staleBits_6 faX8_26_X8 F0 rfl rfl ?_
    refine g_icZ_ge 50 12 dX8_staleBits_9 rfl rfl (by omega) (by omega) (fun c1 => ?_) (fun c1 => ?_)
    · refine g_iload_n 51 dX8_staleBits_50 rfl rfl ?_
      refine g_iret rfl dX8_staleBits_51 ?_
      exact k _ (b) (by omega) HS (Scr.refl _)
    · refine g_aload_n 13 dX8_staleBits_12 rfl rfl ?_
      refine g_iload_n 14 dX8_staleBits_13 rfl rfl ?_
      refine g_callV (z := mX8_toolAt) (As := [.int (iZ j)]) 17 dX8_staleBits_14 mwX8_toolAt ⟨by decide, by decide⟩ rfl wlX8_90 wiX8_toolAt wsX8_toolAt F0 rfl rfl rfl (nle rfl) (nle rfl) rfl ?_
      refine Go.to [some (.ref 0), some (.int (iZ j))] [] rfl rfl ?_
      refine g_iload_n 1 dX8_toolAt_0 rfl rfl ?_
      refine g_ifZ_lt 18 4 dX8_toolAt_1 rfl rfl (by omega) (fun q => absurd q (by omega)) (fun _ => ?_)
      refine g_iload_n 5 dX8_toolAt_4 rfl rfl ?_
      refine g_aload_n 6 dX8_toolAt_5 rfl rfl ?_
      refine g_get 9 dX8_toolAt_6 faX8_26_X8 F0 rfl rfl ?_
      refine g_icZ_ge 18 12 dX8_toolAt_9 rfl rfl (by omega) (by omega) (fun q => absurd q (by omega)) (fun _ => ?_)
      refine g_iload_n 13 dX8_toolAt_12 rfl rfl ?_
      refine g_bipush (v := iZ (12)) 15 dX8_toolAt_13 (by decide +kernel) rfl ?_
      refine g_icZ_lt 22 18 dX8_toolAt_15 rfl rfl (by omega) (by decide) (fun c2 => ?_) (fun c2 => ?_)
      · refine g_aload_n 23 dX8_toolAt_22 rfl rfl ?_
        refine g_get 26 dX8_toolAt_23 faX8_22_X8 F0 rfl rfl ?_
        refine g_iload_n 27 dX8_toolAt_26 rfl rfl ?_
        refine g_aaldZ 28 dX8_toolAt_27 F4 (by decide) (by omega) (by omega) (by decide) (tls_at (by omega) (by omega)) rfl ?_
        refine g_aret rfl (Or.inr ⟨_, rfl⟩) dX8_toolAt_28 ?_
        refine rR ?_
        refine g_astore_n (L1 := [some (.ref 0), some (.int (iZ b)), some (.int (iZ j)), some (.ref (71 + 4 * j.toNat))]) 18 dX8_staleBits_17 (by decide) rfl rfl rfl ?_
        refine g_aload_n 19 dX8_staleBits_18 rfl rfl ?_
        refine g_ifnull 22 dX8_staleBits_19 rfl ?_
        refine g_iload_n 23 dX8_staleBits_22 rfl rfl ?_
        refine g_aload_n 24 dX8_staleBits_23 rfl rfl ?_
        refine g_callS (z := mX8_isBuiltByOneOf) (As := [.int (iZ b), .ref (71 + 4 * j.toNat)]) 27 dX8_staleBits_24 mwX8_isBuiltByOneOf ⟨by decide, by decide⟩ rfl wlX8_252 wtX8_isBuiltByOneOf rfl (nle rfl) (nle rfl) rfl ?_
        refine w_blt1 HC (by omega) (by omega) (fun z3 rz3 => ?_)
        refine rI ?_
        refine g_ifZ_ne 38 30 dX8_staleBits_27 rfl rfl (rg01 rz3) (fun c4 => ?_) (fun c4 => ?_)
        · refine g_iload_n 39 dX8_staleBits_38 rfl rfl ?_
          refine g_iconst (v := iZ (1)) 40 dX8_staleBits_39 rfl rfl ?_
          refine g_iload_n 41 dX8_staleBits_40 rfl rfl ?_
          refine g_ishl 42 dX8_staleBits_41 rfl ?_
          refine Go.genZ (fun z5 rz5 => ?_)
          refine g_ior 43 dX8_staleBits_42 rfl ?_
          refine Go.genZ (fun z6 rz6 => ?_)
          refine g_istore_n (L1 := [some (.ref 0), some (.int (iZ z6)), some (.int (iZ j)), some (.ref (71 + 4 * j.toNat))]) 44 dX8_staleBits_43 (by decide) rfl rfl rfl ?_
          refine g_iincZ [some (.ref 0), some (.int (iZ z6)), some (.int (iZ (j + 1))), some (.ref (71 + 4 * j.toNat))] 47 dX8_staleBits_44 rfl (by omega) (by decide) rfl rfl rfl ?_
          refine g_goto 4 dX8_staleBits_47 rfl ?_
          refine Go.fgt 3 ?_
          exact ih _ (by omega) _ (z6) (j + 1) rfl HC HS rz6 (by omega) k
        · refine g_aload_n 31 dX8_staleBits_30 rfl rfl ?_
          refine g_aload_n 32 dX8_staleBits_31 rfl rfl ?_
          refine g_callV (z := mX8_madeAgain) (As := [.ref (71 + 4 * j.toNat)]) 35 dX8_staleBits_32 mwX8_madeAgain ⟨by decide, by decide⟩ rfl wlX8_154 wiX8_madeAgain wsX8_madeAgain F0 rfl rfl rfl (nle rfl) (nle rfl) rfl ?_
          refine w_again HC HS  (by omega) (fun h8 z7 rz7 H9 s10 => ?_)
          refine rI ?_
          refine g_ifZ_eq 44 38 dX8_staleBits_35 rfl rfl rz7 (fun c11 => ?_) (fun c11 => ?_)
          · refine g_iincZ [some (.ref 0), some (.int (iZ b)), some (.int (iZ (j + 1))), some (.ref (71 + 4 * j.toNat))] 47 dX8_staleBits_44 rfl (by omega) (by decide) rfl rfl rfl ?_
            refine g_goto 4 dX8_staleBits_47 rfl ?_
            refine Go.fgt 3 ?_
            exact ih _ (by omega) _ (b) (j + 1) rfl (HC.scr s10) H9 (by omega) (by omega) (fun h9 r9 y9 a9 b9 => k h9 r9 y9 a9 (s10.tr b9))
          · refine g_iload_n 39 dX8_staleBits_38 rfl rfl ?_
            refine g_iconst (v := iZ (1)) 40 dX8_staleBits_39 rfl rfl ?_
            refine g_iload_n 41 dX8_staleBits_40 rfl rfl ?_
            refine g_ishl 42 dX8_staleBits_41 rfl ?_
            refine Go.genZ (fun z12 rz12 => ?_)
            refine g_ior 43 dX8_staleBits_42 rfl ?_
            refine Go.genZ (fun z13 rz13 => ?_)
            refine g_istore_n (L1 := [some (.ref 0), some (.int (iZ z13)), some (.int (iZ j)), some (.ref (71 + 4 * j.toNat))]) 44 dX8_staleBits_43 (by decide) rfl rfl rfl ?_
            refine g_iincZ [some (.ref 0), some (.int (iZ z13)), some (.int (iZ (j + 1))), some (.ref (71 + 4 * j.toNat))] 47 dX8_staleBits_44 rfl (by omega) (by decide) rfl rfl rfl ?_
            refine g_goto 4 dX8_staleBits_47 rfl ?_
            refine Go.fgt 3 ?_
            exact ih _ (by omega) _ (z13) (j + 1) rfl (HC.scr s10) H9 rz13 (by omega) (fun h9 r9 y9 a9 b9 => k h9 r9 y9 a9 (s10.tr b9))
      · refine g_null 19 dX8_toolAt_18 rfl ?_
        refine g_goto 28 dX8_toolAt_19 rfl ?_
        refine g_aret rfl (Or.inl rfl) dX8_toolAt_28 ?_
        refine rN ?_
        refine g_astore_nN (L1 := [some (.ref 0), some (.int (iZ b)), some (.int (iZ j)), some (.null)]) 18 dX8_staleBits_17 (by decide) rfl rfl rfl ?_
        refine g_aload_nN 19 dX8_staleBits_18 rfl rfl ?_
        refine g_ifnullN 44 dX8_staleBits_19 rfl ?_
        refine g_iincZ [some (.ref 0), some (.int (iZ b)), some (.int (iZ (j + 1))), some (.null)] 47 dX8_staleBits_44 rfl (by omega) (by decide) rfl rfl rfl ?_
        refine g_goto 4 dX8_staleBits_47 rfl ?_
        refine Go.fgt 3 ?_
        exact ih _ (by omega) _ (b) (j + 1) rfl HC HS (by omega) (by omega) k
set_option maxRecDepth 100000 in
theorem w_stale {l : Launch} {h : MH} {Q : Option Value → MH → Prop} {tc : Nat} {xn : Nat → Int} {xf : Nat → Nat → Int}  (HC : CORE h tc xn xf) (HS : SC h)   (k : ∀ (h1 : MH) (r : Int), rg r → SC h1 → Scr h h1 → Q (some (.int (iZ r))) h1) : Go l mX8_staleBits 0 [some (.ref 0), none, none, none] [] h Q := by
  obtain ⟨⟨tr, F0⟩, F3, F4, htc, HT, HL⟩ := id HC
  refine g_iconst (v := iZ (0)) 1 dX8_staleBits_0 rfl rfl ?_
  refine g_istore_n (L1 := [some (.ref 0), some (.int (iZ 0)), none, none]) 2 dX8_staleBits_1 (by decide) rfl rfl rfl ?_
  refine g_iconst (v := iZ (0)) 3 dX8_staleBits_2 rfl rfl ?_
  refine g_istore_n (L1 := [some (.ref 0), some (.int (iZ 0)), some (.int (iZ 0)), none]) 4 dX8_staleBits_3 (by decide) rfl rfl rfl ?_
  exact w_stale_l   _ _ (0) (0) rfl HC HS (by decide) (by omega) k
set_option maxRecDepth 100000 in
theorem w_round {l : Launch} {h : MH} {Q : Option Value → MH → Prop} {tc : Nat} {xn : Nat → Int} {xf : Nat → Nat → Int} {j k0 i : Nat} (HC : CORE h tc xn xf) (HS : SC h)  (hj : j < tc) (hk0 : k0 < tc) (hi : i < 8) (k : ∀ (h1 : MH) (r : Int), rg r → SC h1 → Scr h h1 → Q (some (.int (iZ r))) h1) : Go l mX8_goneRound 0 [some (.ref 0), some (.ref (71 + 4 * j)), some (.ref (71 + 4 * k0)), some (.ref (34 + 2 * i)), none] [] h Q := by
  obtain ⟨⟨tr, F0⟩, F3, F4, htc, HT, HL⟩ := id HC
  refine g_aload_n 1 dX8_goneRound_0 rfl rfl ?_
  refine g_get 4 dX8_goneRound_1 faX8_50_X8 F0 rfl rfl ?_
  refine g_aload_n 5 dX8_goneRound_4 rfl rfl ?_
  obtain ⟨M_1, n_1, hw_1, tx_1, bd_1, ck_1, f_1, g_1, hM_1, rn_1, rhw_1, rtx_1, rbd_1, rck_1, of_1, og_1, e0_1, e1_1, e2_1, e3_1⟩ := HL (j) (by omega)
  refine g_get 8 dX8_goneRound_5 faX8_94_X7 e0_1 rfl rfl ?_
  refine g_aload_n 9 dX8_goneRound_8 rfl rfl ?_
  obtain ⟨a_2, x_2, p_2, en_2, dn_2, tk_2, hm_2, on_2, mm_2, of_2, og_2, ra_2, rx_2, rp_2, ren_2, rdn_2, rtk_2, rhm_2, ron_2, omm_2, oof_2, oog_2, e0_2, e1_2, e2_2, e3_2, e4_2⟩ := SC.m (m := 20) (by decide) HS
  refine g_callV (z := mX2_builds) (As := [.ref (71 + 4 * j + 1), .ref (34 + 2 * i)]) 12 dX8_goneRound_9 mwX2_builds ⟨by decide, by decide⟩ rfl wlX8_98 wiX2_builds wsX2_builds e0_2 rfl rfl rfl (nle rfl) (nle rfl) rfl ?_
  obtain ⟨t0_3, t1_3, t2_3, t3_3, t4_3⟩ := HT (i) (by omega)
  refine sc_bl (M := M_1) (by decide) HS e1_1 e2_1 e3_1 of_1 og_1 rn_1 (by omega) (by omega) t0_3 t1_3 (okb_okr t4_3) (by omega) (by omega) (fun h4 z5 rz5 H6 s7 => ?_)
  refine rI ?_
  refine g_ifZ_eq 70 15 dX8_goneRound_12 rfl rfl (rg01 rz5) (fun c8 => ?_) (fun c8 => ?_)
  · refine g_iconst (v := iZ (0)) 71 dX8_goneRound_70 rfl rfl ?_
    refine g_istore (L1 := [some (.ref 0), some (.ref (71 + 4 * j)), some (.ref (71 + 4 * k0)), some (.ref (34 + 2 * i)), some (.int (iZ 0))]) 73 dX8_goneRound_71 (by decide) rfl rfl rfl ?_
    refine g_iload 75 dX8_goneRound_73 rfl rfl ?_
    refine g_ifZ_eq 98 78 dX8_goneRound_75 rfl rfl (by decide) (fun _ => ?_) (fun q => absurd q (by decide))
    refine g_bipush (v := iZ (-2)) 100 dX8_goneRound_98 (by decide +kernel) rfl ?_
    refine g_iret rfl dX8_goneRound_100 ?_
    exact k _ (-2) (by decide) H6 s7
  · refine g_aload_n 16 dX8_goneRound_15 rfl rfl ?_
    have f9 := (s7.get (by omega) F0)
    refine g_get 19 dX8_goneRound_16 faX8_50_X8 f9 rfl rfl ?_
    refine g_aload_n 20 dX8_goneRound_19 rfl rfl ?_
    refine g_get 23 dX8_goneRound_20 faX8_50_X8 f9 rfl rfl ?_
    obtain ⟨a_10, x_10, p_10, en_10, dn_10, tk_10, hm_10, on_10, mm_10, of_10, og_10, ra_10, rx_10, rp_10, ren_10, rdn_10, rtk_10, rhm_10, ron_10, omm_10, oof_10, oog_10, e0_10, e1_10, e2_10, e3_10, e4_10⟩ := SC.m (m := 20) (by decide) H6
    refine g_get 26 dX8_goneRound_23 faX8_102_X2 e0_10 rfl rfl ?_
    refine g_aload_n 27 dX8_goneRound_26 rfl rfl ?_
    refine g_callV (z := mX2_builds) (As := [.ref 22, .ref (34 + 2 * i)]) 30 dX8_goneRound_27 mwX2_builds ⟨by decide, by decide⟩ rfl wlX8_98 wiX2_builds wsX2_builds e0_10 rfl rfl rfl (nle rfl) (nle rfl) rfl ?_
    have f11 := (s7.get (by omega) t0_3)
    have f12 := (s7.get (by omega) t1_3)
    refine sc_bl (M := 256) (by decide) H6 e2_10 e3_10 e4_10 oof_10 oog_10 ron_10 (by decide) (by omega) f11 f12 (okb_okr t4_3) (by omega) (by omega) (fun h13 z14 rz14 H15 s16 => ?_)
    refine rI ?_
    refine g_ifZ_eq 70 33 dX8_goneRound_30 rfl rfl (rg01 rz14) (fun c17 => ?_) (fun c17 => ?_)
    · refine g_iconst (v := iZ (0)) 71 dX8_goneRound_70 rfl rfl ?_
      refine g_istore (L1 := [some (.ref 0), some (.ref (71 + 4 * j)), some (.ref (71 + 4 * k0)), some (.ref (34 + 2 * i)), some (.int (iZ 0))]) 73 dX8_goneRound_71 (by decide) rfl rfl rfl ?_
      refine g_iload 75 dX8_goneRound_73 rfl rfl ?_
      refine g_ifZ_eq 98 78 dX8_goneRound_75 rfl rfl (by decide) (fun _ => ?_) (fun q => absurd q (by decide))
      refine g_bipush (v := iZ (-2)) 100 dX8_goneRound_98 (by decide +kernel) rfl ?_
      refine g_iret rfl dX8_goneRound_100 ?_
      exact k _ (-2) (by decide) H15 (s7.tr s16)
    · refine g_aload_n 34 dX8_goneRound_33 rfl rfl ?_
      have f18 := (s16.get (by omega) f9)
      refine g_get 37 dX8_goneRound_34 faX8_53_X8 f18 rfl rfl ?_
      refine g_aload_n 38 dX8_goneRound_37 rfl rfl ?_
      obtain ⟨M_19, n_19, hw_19, tx_19, bd_19, ck_19, f_19, g_19, hM_19, rn_19, rhw_19, rtx_19, rbd_19, rck_19, of_19, og_19, e0_19, e1_19, e2_19, e3_19⟩ := HL (k0) (by omega)
      have f20 := (s16.get (by omega) (s7.get (by omega) e0_19))
      refine g_get 41 dX8_goneRound_38 faX8_94_X7 f20 rfl rfl ?_
      refine g_aload_n 42 dX8_goneRound_41 rfl rfl ?_
      obtain ⟨a_21, x_21, p_21, en_21, dn_21, tk_21, hm_21, on_21, mm_21, of_21, og_21, ra_21, rx_21, rp_21, ren_21, rdn_21, rtk_21, rhm_21, ron_21, omm_21, oof_21, oog_21, e0_21, e1_21, e2_21, e3_21, e4_21⟩ := SC.m (m := 25) (by decide) H15
      refine g_callV (z := mX2_builds) (As := [.ref (71 + 4 * k0 + 1), .ref (34 + 2 * i)]) 45 dX8_goneRound_42 mwX2_builds ⟨by decide, by decide⟩ rfl wlX8_98 wiX2_builds wsX2_builds e0_21 rfl rfl rfl (nle rfl) (nle rfl) rfl ?_
      have f22 := (s16.get (by omega) f11)
      have f23 := (s16.get (by omega) f12)
      have f24 := (s16.get (by omega) (s7.get (by omega) e1_19))
      have f25 := (s16.get (by omega) (s7.get (by omega) e2_19))
      have f26 := (s16.get (by omega) (s7.get (by omega) e3_19))
      refine sc_bl (M := M_19) (by decide) H15 f24 f25 f26 of_19 og_19 rn_19 (by omega) (by omega) f22 f23 (okb_okr t4_3) (by omega) (by omega) (fun h27 z28 rz28 H29 s30 => ?_)
      refine rI ?_
      refine g_ifZ_eq 70 48 dX8_goneRound_45 rfl rfl (rg01 rz28) (fun c31 => ?_) (fun c31 => ?_)
      · refine g_iconst (v := iZ (0)) 71 dX8_goneRound_70 rfl rfl ?_
        refine g_istore (L1 := [some (.ref 0), some (.ref (71 + 4 * j)), some (.ref (71 + 4 * k0)), some (.ref (34 + 2 * i)), some (.int (iZ 0))]) 73 dX8_goneRound_71 (by decide) rfl rfl rfl ?_
        refine g_iload 75 dX8_goneRound_73 rfl rfl ?_
        refine g_ifZ_eq 98 78 dX8_goneRound_75 rfl rfl (by decide) (fun _ => ?_) (fun q => absurd q (by decide))
        refine g_bipush (v := iZ (-2)) 100 dX8_goneRound_98 (by decide +kernel) rfl ?_
        refine g_iret rfl dX8_goneRound_100 ?_
        exact k _ (-2) (by decide) H29 ((s7.tr s16).tr s30)
      · refine g_aload_n 49 dX8_goneRound_48 rfl rfl ?_
        have f32 := (s30.get (by omega) f18)
        refine g_get 52 dX8_goneRound_49 faX8_53_X8 f32 rfl rfl ?_
        refine g_aload_n 53 dX8_goneRound_52 rfl rfl ?_
        refine g_get 56 dX8_goneRound_53 faX8_53_X8 f32 rfl rfl ?_
        obtain ⟨a_33, x_33, p_33, en_33, dn_33, tk_33, hm_33, on_33, mm_33, of_33, og_33, ra_33, rx_33, rp_33, ren_33, rdn_33, rtk_33, rhm_33, ron_33, omm_33, oof_33, oog_33, e0_33, e1_33, e2_33, e3_33, e4_33⟩ := SC.m (m := 25) (by decide) H29
        refine g_get 59 dX8_goneRound_56 faX8_102_X2 e0_33 rfl rfl ?_
        refine g_aload_n 60 dX8_goneRound_59 rfl rfl ?_
        refine g_callV (z := mX2_builds) (As := [.ref 27, .ref (34 + 2 * i)]) 63 dX8_goneRound_60 mwX2_builds ⟨by decide, by decide⟩ rfl wlX8_98 wiX2_builds wsX2_builds e0_33 rfl rfl rfl (nle rfl) (nle rfl) rfl ?_
        have f34 := (s30.get (by omega) f22)
        have f35 := (s30.get (by omega) f23)
        refine sc_bl (M := 256) (by decide) H29 e2_33 e3_33 e4_33 oof_33 oog_33 ron_33 (by decide) (by omega) f34 f35 (okb_okr t4_3) (by omega) (by omega) (fun h36 z37 rz37 H38 s39 => ?_)
        refine rI ?_
        refine g_ifZ_eq 70 66 dX8_goneRound_63 rfl rfl (rg01 rz37) (fun c40 => ?_) (fun c40 => ?_)
        · refine g_iconst (v := iZ (0)) 71 dX8_goneRound_70 rfl rfl ?_
          refine g_istore (L1 := [some (.ref 0), some (.ref (71 + 4 * j)), some (.ref (71 + 4 * k0)), some (.ref (34 + 2 * i)), some (.int (iZ 0))]) 73 dX8_goneRound_71 (by decide) rfl rfl rfl ?_
          refine g_iload 75 dX8_goneRound_73 rfl rfl ?_
          refine g_ifZ_eq 98 78 dX8_goneRound_75 rfl rfl (by decide) (fun _ => ?_) (fun q => absurd q (by decide))
          refine g_bipush (v := iZ (-2)) 100 dX8_goneRound_98 (by decide +kernel) rfl ?_
          refine g_iret rfl dX8_goneRound_100 ?_
          exact k _ (-2) (by decide) H38 (((s7.tr s16).tr s30).tr s39)
        · refine g_iconst (v := iZ (1)) 67 dX8_goneRound_66 rfl rfl ?_
          refine g_goto 71 dX8_goneRound_67 rfl ?_
          refine g_istore (L1 := [some (.ref 0), some (.ref (71 + 4 * j)), some (.ref (71 + 4 * k0)), some (.ref (34 + 2 * i)), some (.int (iZ 1))]) 73 dX8_goneRound_71 (by decide) rfl rfl rfl ?_
          refine g_iload 75 dX8_goneRound_73 rfl rfl ?_
          refine g_ifZ_eq 98 78 dX8_goneRound_75 rfl rfl (by decide) (fun q => absurd q (by decide)) (fun _ => ?_)
          refine g_aload_n 79 dX8_goneRound_78 rfl rfl ?_
          have f41 := (s39.get (by omega) f32)
          refine g_get 82 dX8_goneRound_79 faX8_50_X8 f41 rfl rfl ?_
          obtain ⟨a_42, x_42, p_42, en_42, dn_42, tk_42, hm_42, on_42, mm_42, of_42, og_42, ra_42, rx_42, rp_42, ren_42, rdn_42, rtk_42, rhm_42, ron_42, omm_42, oof_42, oog_42, e0_42, e1_42, e2_42, e3_42, e4_42⟩ := SC.m (m := 20) (by decide) H38
          refine g_get 85 dX8_goneRound_82 faX8_102_X2 e0_42 rfl rfl ?_
          refine g_aload_n 86 dX8_goneRound_85 rfl rfl ?_
          refine g_get 89 dX8_goneRound_86 faX8_53_X8 f41 rfl rfl ?_
          obtain ⟨a_43, x_43, p_43, en_43, dn_43, tk_43, hm_43, on_43, mm_43, of_43, og_43, ra_43, rx_43, rp_43, ren_43, rdn_43, rtk_43, rhm_43, ron_43, omm_43, oof_43, oog_43, e0_43, e1_43, e2_43, e3_43, e4_43⟩ := SC.m (m := 25) (by decide) H38
          refine g_get 92 dX8_goneRound_89 faX8_102_X2 e0_43 rfl rfl ?_
          refine g_callV (z := mX0_unlike) (As := [.ref 27]) 95 dX8_goneRound_92 mwX0_unlike ⟨by decide, by decide⟩ rfl wlX8_162 wiX0_unlike wsX0_unlike e2_42 rfl rfl rfl (nle rfl) (nle rfl) rfl ?_
          refine w_unl (M := 256) (N := 256) e2_42 e3_42 e4_42 e2_43 e3_43 e4_43 oof_42 oog_42 oof_43 oog_43 ron_42 ron_43 (by decide) (by decide) (fun z44 rz44 => ?_)
          refine rI ?_
          refine g_goto 100 dX8_goneRound_95 rfl ?_
          refine g_iret rfl dX8_goneRound_100 ?_
          exact k _ (z44) rz44 H38 (((s7.tr s16).tr s30).tr s39)
set_option maxRecDepth 100000 in
theorem w_chl_l {l : Launch} {Q : Option Value → MH → Prop} {tc : Nat} {xn : Nat → Int} {xf : Nat → Nat → Int} {i : Int} (ri : rg i)  : ∀ (m0 : Nat) (h : MH) (n : Int) (v : Value), (12 - n).toNat = m0 → CORE h tc xn xf → (0 ≤ n ∧ n ≤ 12) → (v = .null ∨ ∃ j, j < tc ∧ v = .ref (71 + 4 * j)) → (∀ r : Int, rg r → Q (some (.int (iZ r))) h) → Go l mX8_chainLength 8 [some (.ref 0), some (.int (iZ i)), some (.int (iZ n)), some (v)] [] h Q := by
  intro m0
  induction m0 using Nat.strongRecOn with
  | ind m0 ih =>
    intro h n v hmz HC hn hv k
    obtain ⟨⟨tr, F0⟩, F3, F4, htc, HT, HL⟩ := id HC
    rcases hv with rfl | ⟨j, hj, rfl⟩
    ·
      refine g_aload_nN 9 dX8_chainLength_8 rfl rfl ?_
      refine g_ifnullN 33 dX8_chainLength_9 rfl ?_
      refine g_iload_n 34 dX8_chainLength_33 rfl rfl ?_
      refine g_iret rfl dX8_chainLength_34 ?_
      exact k (n) (by omega)
    ·
      refine g_aload_n 9 dX8_chainLength_8 rfl rfl ?_
      refine g_ifnull 12 dX8_chainLength_9 rfl ?_
      refine g_iload_n 13 dX8_chainLength_12 rfl rfl ?_
      refine g_bipush (v := iZ (12)) 15 dX8_chainLength_13 (by decide +kernel) rfl ?_
      refine g_icZ_ge 33 18 dX8_chainLength_15 rfl rfl (by omega) (by decide) (fun c1 => ?_) (fun c1 => ?_)
      · refine g_iload_n 34 dX8_chainLength_33 rfl rfl ?_
        refine g_iret rfl dX8_chainLength_34 ?_
        exact k (n) (by omega)
      · refine g_iincZ [some (.ref 0), some (.int (iZ i)), some (.int (iZ (n + 1))), some (.ref (71 + 4 * j))] 21 dX8_chainLength_18 rfl (by omega) (by decide) rfl rfl rfl ?_
        refine g_aload_n 22 dX8_chainLength_21 rfl rfl ?_
        refine g_aload_n 23 dX8_chainLength_22 rfl rfl ?_
        obtain ⟨M_2, n_2, hw_2, tx_2, bd_2, ck_2, f_2, g_2, hM_2, rn_2, rhw_2, rtx_2, rbd_2, rck_2, of_2, og_2, e0_2, e1_2, e2_2, e3_2⟩ := HL (j) (by omega)
        refine g_get 26 dX8_chainLength_23 faX8_118_X7 e0_2 rfl rfl ?_
        refine g_callV (z := mX8_toolAt) (As := [.int (iZ bd_2)]) 29 dX8_chainLength_26 mwX8_toolAt ⟨by decide, by decide⟩ rfl wlX8_90 wiX8_toolAt wsX8_toolAt F0 rfl rfl rfl (nle rfl) (nle rfl) rfl ?_
        refine Go.to [some (.ref 0), some (.int (iZ bd_2))] [] rfl rfl ?_
        refine g_iload_n 1 dX8_toolAt_0 rfl rfl ?_
        refine g_ifZ_lt 18 4 dX8_toolAt_1 rfl rfl rbd_2 (fun c3 => ?_) (fun c3 => ?_)
        · refine g_null 19 dX8_toolAt_18 rfl ?_
          refine g_goto 28 dX8_toolAt_19 rfl ?_
          refine g_aret rfl (Or.inl rfl) dX8_toolAt_28 ?_
          refine rN ?_
          refine g_astore_nN (L1 := [some (.ref 0), some (.int (iZ i)), some (.int (iZ (n + 1))), some (.null)]) 30 dX8_chainLength_29 (by decide) rfl rfl rfl ?_
          refine g_goto 8 dX8_chainLength_30 rfl ?_
          exact ih _ (by omega) _ (n + 1) (.null) rfl HC (by omega) (Or.inl rfl) k
        · refine g_iload_n 5 dX8_toolAt_4 rfl rfl ?_
          refine g_aload_n 6 dX8_toolAt_5 rfl rfl ?_
          refine g_get 9 dX8_toolAt_6 faX8_26_X8 F0 rfl rfl ?_
          refine g_icZ_ge 18 12 dX8_toolAt_9 rfl rfl rbd_2 (by omega) (fun c4 => ?_) (fun c4 => ?_)
          · refine g_null 19 dX8_toolAt_18 rfl ?_
            refine g_goto 28 dX8_toolAt_19 rfl ?_
            refine g_aret rfl (Or.inl rfl) dX8_toolAt_28 ?_
            refine rN ?_
            refine g_astore_nN (L1 := [some (.ref 0), some (.int (iZ i)), some (.int (iZ (n + 1))), some (.null)]) 30 dX8_chainLength_29 (by decide) rfl rfl rfl ?_
            refine g_goto 8 dX8_chainLength_30 rfl ?_
            exact ih _ (by omega) _ (n + 1) (.null) rfl HC (by omega) (Or.inl rfl) k
          · refine g_iload_n 13 dX8_toolAt_12 rfl rfl ?_
            refine g_bipush (v := iZ (12)) 15 dX8_toolAt_13 (by decide +kernel) rfl ?_
            refine g_icZ_lt 22 18 dX8_toolAt_15 rfl rfl rbd_2 (by decide) (fun c5 => ?_) (fun c5 => ?_)
            · refine g_aload_n 23 dX8_toolAt_22 rfl rfl ?_
              refine g_get 26 dX8_toolAt_23 faX8_22_X8 F0 rfl rfl ?_
              refine g_iload_n 27 dX8_toolAt_26 rfl rfl ?_
              refine g_aaldZ 28 dX8_toolAt_27 F4 (by decide) (by omega) (by omega) (by decide) (tls_at (by omega) (by omega)) rfl ?_
              refine g_aret rfl (Or.inr ⟨_, rfl⟩) dX8_toolAt_28 ?_
              refine rR ?_
              refine g_astore_n (L1 := [some (.ref 0), some (.int (iZ i)), some (.int (iZ (n + 1))), some (.ref (71 + 4 * bd_2.toNat))]) 30 dX8_chainLength_29 (by decide) rfl rfl rfl ?_
              refine g_goto 8 dX8_chainLength_30 rfl ?_
              exact ih _ (by omega) _ (n + 1) (.ref (71 + 4 * bd_2.toNat)) rfl HC (by omega) (Or.inr ⟨_, by omega, rfl⟩) k
            · refine g_null 19 dX8_toolAt_18 rfl ?_
              refine g_goto 28 dX8_toolAt_19 rfl ?_
              refine g_aret rfl (Or.inl rfl) dX8_toolAt_28 ?_
              refine rN ?_
              refine g_astore_nN (L1 := [some (.ref 0), some (.int (iZ i)), some (.int (iZ (n + 1))), some (.null)]) 30 dX8_chainLength_29 (by decide) rfl rfl rfl ?_
              refine g_goto 8 dX8_chainLength_30 rfl ?_
              exact ih _ (by omega) _ (n + 1) (.null) rfl HC (by omega) (Or.inl rfl) k
set_option maxRecDepth 100000 in
theorem w_chl {l : Launch} {h : MH} {Q : Option Value → MH → Prop} {tc : Nat} {xn : Nat → Int} {xf : Nat → Nat → Int} {i : Int} (HC : CORE h tc xn xf) (ri : rg i)  (k : ∀ r : Int, rg r → Q (some (.int (iZ r))) h) : Go l mX8_chainLength 0 [some (.ref 0), some (.int (iZ i)), none, none] [] h Q := by
  obtain ⟨⟨tr, F0⟩, F3, F4, htc, HT, HL⟩ := id HC
  refine g_iconst (v := iZ (0)) 1 dX8_chainLength_0 rfl rfl ?_
  refine g_istore_n (L1 := [some (.ref 0), some (.int (iZ i)), some (.int (iZ 0)), none]) 2 dX8_chainLength_1 (by decide) rfl rfl rfl ?_
  refine g_aload_n 3 dX8_chainLength_2 rfl rfl ?_
  refine g_iload_n 4 dX8_chainLength_3 rfl rfl ?_
  refine g_callV (z := mX8_toolAt) (As := [.int (iZ i)]) 7 dX8_chainLength_4 mwX8_toolAt ⟨by decide, by decide⟩ rfl wlX8_90 wiX8_toolAt wsX8_toolAt F0 rfl rfl rfl (nle rfl) (nle rfl) rfl ?_
  refine Go.to [some (.ref 0), some (.int (iZ i))] [] rfl rfl ?_
  refine g_iload_n 1 dX8_toolAt_0 rfl rfl ?_
  refine g_ifZ_lt 18 4 dX8_toolAt_1 rfl rfl ri (fun c1 => ?_) (fun c1 => ?_)
  · refine g_null 19 dX8_toolAt_18 rfl ?_
    refine g_goto 28 dX8_toolAt_19 rfl ?_
    refine g_aret rfl (Or.inl rfl) dX8_toolAt_28 ?_
    refine rN ?_
    refine g_astore_nN (L1 := [some (.ref 0), some (.int (iZ i)), some (.int (iZ 0)), some (.null)]) 8 dX8_chainLength_7 (by decide) rfl rfl rfl ?_
    exact w_chl_l ri  _ _ (0) (.null) rfl HC (by omega) (Or.inl rfl) k
  · refine g_iload_n 5 dX8_toolAt_4 rfl rfl ?_
    refine g_aload_n 6 dX8_toolAt_5 rfl rfl ?_
    refine g_get 9 dX8_toolAt_6 faX8_26_X8 F0 rfl rfl ?_
    refine g_icZ_ge 18 12 dX8_toolAt_9 rfl rfl ri (by omega) (fun c2 => ?_) (fun c2 => ?_)
    · refine g_null 19 dX8_toolAt_18 rfl ?_
      refine g_goto 28 dX8_toolAt_19 rfl ?_
      refine g_aret rfl (Or.inl rfl) dX8_toolAt_28 ?_
      refine rN ?_
      refine g_astore_nN (L1 := [some (.ref 0), some (.int (iZ i)), some (.int (iZ 0)), some (.null)]) 8 dX8_chainLength_7 (by decide) rfl rfl rfl ?_
      exact w_chl_l ri  _ _ (0) (.null) rfl HC (by omega) (Or.inl rfl) k
    · refine g_iload_n 13 dX8_toolAt_12 rfl rfl ?_
      refine g_bipush (v := iZ (12)) 15 dX8_toolAt_13 (by decide +kernel) rfl ?_
      refine g_icZ_lt 22 18 dX8_toolAt_15 rfl rfl ri (by decide) (fun c3 => ?_) (fun c3 => ?_)
      · refine g_aload_n 23 dX8_toolAt_22 rfl rfl ?_
        refine g_get 26 dX8_toolAt_23 faX8_22_X8 F0 rfl rfl ?_
        refine g_iload_n 27 dX8_toolAt_26 rfl rfl ?_
        refine g_aaldZ 28 dX8_toolAt_27 F4 (by decide) (by omega) (by omega) (by decide) (tls_at (by omega) (by omega)) rfl ?_
        refine g_aret rfl (Or.inr ⟨_, rfl⟩) dX8_toolAt_28 ?_
        refine rR ?_
        refine g_astore_n (L1 := [some (.ref 0), some (.int (iZ i)), some (.int (iZ 0)), some (.ref (71 + 4 * i.toNat))]) 8 dX8_chainLength_7 (by decide) rfl rfl rfl ?_
        exact w_chl_l ri  _ _ (0) (.ref (71 + 4 * i.toNat)) rfl HC (by omega) (Or.inr ⟨_, by omega, rfl⟩) k
      · refine g_null 19 dX8_toolAt_18 rfl ?_
        refine g_goto 28 dX8_toolAt_19 rfl ?_
        refine g_aret rfl (Or.inl rfl) dX8_toolAt_28 ?_
        refine rN ?_
        refine g_astore_nN (L1 := [some (.ref 0), some (.int (iZ i)), some (.int (iZ 0)), some (.null)]) 8 dX8_chainLength_7 (by decide) rfl rfl rfl ?_
        exact w_chl_l ri  _ _ (0) (.null) rfl HC (by omega) (Or.inl rfl) k
set_option maxRecDepth 100000 in
theorem w_cha_l {l : Launch} {Q : Option Value → MH → Prop} {tc : Nat} {xn : Nat → Int} {xf : Nat → Nat → Int} {i k0 : Int} (ri : rg i) (rk0 : rg k0)  : ∀ (m0 : Nat) (h : MH) (a : Int) (n : Int), (12 - n).toNat = m0 → CORE h tc xn xf → (rg a) → (0 ≤ n ∧ n ≤ 12) → (∀ r : Int, rg r → Q (some (.int (iZ r))) h) → Go l mX8_chainAt 5 [some (.ref 0), none, some (.int (iZ k0)), some (.int (iZ a)), some (.int (iZ n)), none] [] h Q := by
  intro m0
  induction m0 using Nat.strongRecOn with
  | ind m0 ih =>
    intro h a n hmz HC ra hn k
    obtain ⟨⟨tr, F0⟩, F3, F4, htc, HT, HL⟩ := id HC
    refine g_iload 7 dX8_chainAt_5 rfl rfl ?_
    refine g_iload_n 8 dX8_chainAt_7 rfl rfl ?_
    refine g_icZ_ge 47 11 dX8_chainAt_8 rfl rfl (by omega) rk0 (fun c1 => ?_) (fun c1 => ?_)
    · refine g_iload_n 48 dX8_chainAt_47 rfl rfl ?_
      refine g_iret rfl dX8_chainAt_48 ?_
      exact k (a) ra
    · refine g_iload 13 dX8_chainAt_11 rfl rfl ?_
      refine g_bipush (v := iZ (12)) 15 dX8_chainAt_13 (by decide +kernel) rfl ?_
      refine g_icZ_ge 47 18 dX8_chainAt_15 rfl rfl (by omega) (by decide) (fun c2 => ?_) (fun c2 => ?_)
      · refine g_iload_n 48 dX8_chainAt_47 rfl rfl ?_
        refine g_iret rfl dX8_chainAt_48 ?_
        exact k (a) ra
      · refine g_aload_n 19 dX8_chainAt_18 rfl rfl ?_
        refine g_iload_n 20 dX8_chainAt_19 rfl rfl ?_
        refine g_callV (z := mX8_toolAt) (As := [.int (iZ a)]) 23 dX8_chainAt_20 mwX8_toolAt ⟨by decide, by decide⟩ rfl wlX8_90 wiX8_toolAt wsX8_toolAt F0 rfl rfl rfl (nle rfl) (nle rfl) rfl ?_
        refine Go.to [some (.ref 0), some (.int (iZ a))] [] rfl rfl ?_
        refine g_iload_n 1 dX8_toolAt_0 rfl rfl ?_
        refine g_ifZ_lt 18 4 dX8_toolAt_1 rfl rfl ra (fun c3 => ?_) (fun c3 => ?_)
        · refine g_null 19 dX8_toolAt_18 rfl ?_
          refine g_goto 28 dX8_toolAt_19 rfl ?_
          refine g_aret rfl (Or.inl rfl) dX8_toolAt_28 ?_
          refine rN ?_
          refine g_astoreN (L1 := [some (.ref 0), none, some (.int (iZ k0)), some (.int (iZ a)), some (.int (iZ n)), some (.null)]) 25 dX8_chainAt_23 (by decide) rfl rfl rfl ?_
          refine g_aloadN 27 dX8_chainAt_25 rfl rfl ?_
          refine g_ifnonnullN 30 dX8_chainAt_27 rfl ?_
          refine g_bipush (v := iZ (-9)) 32 dX8_chainAt_30 (by decide +kernel) rfl ?_
          refine g_goto 40 dX8_chainAt_32 rfl ?_
          refine g_istore_n (L1 := [some (.ref 0), none, some (.int (iZ k0)), some (.int (iZ (-9))), some (.int (iZ n)), some (.null)]) 41 dX8_chainAt_40 (by decide) rfl rfl rfl ?_
          refine g_iincZ [some (.ref 0), none, some (.int (iZ k0)), some (.int (iZ (-9))), some (.int (iZ (n + 1))), some (.null)] 44 dX8_chainAt_41 rfl (by omega) (by decide) rfl rfl rfl ?_
          refine g_goto 5 dX8_chainAt_44 rfl ?_
          refine Go.fgt 5 ?_
          exact ih _ (by omega) _ (-9) (n + 1) rfl HC (by decide) (by omega) k
        · refine g_iload_n 5 dX8_toolAt_4 rfl rfl ?_
          refine g_aload_n 6 dX8_toolAt_5 rfl rfl ?_
          refine g_get 9 dX8_toolAt_6 faX8_26_X8 F0 rfl rfl ?_
          refine g_icZ_ge 18 12 dX8_toolAt_9 rfl rfl ra (by omega) (fun c4 => ?_) (fun c4 => ?_)
          · refine g_null 19 dX8_toolAt_18 rfl ?_
            refine g_goto 28 dX8_toolAt_19 rfl ?_
            refine g_aret rfl (Or.inl rfl) dX8_toolAt_28 ?_
            refine rN ?_
            refine g_astoreN (L1 := [some (.ref 0), none, some (.int (iZ k0)), some (.int (iZ a)), some (.int (iZ n)), some (.null)]) 25 dX8_chainAt_23 (by decide) rfl rfl rfl ?_
            refine g_aloadN 27 dX8_chainAt_25 rfl rfl ?_
            refine g_ifnonnullN 30 dX8_chainAt_27 rfl ?_
            refine g_bipush (v := iZ (-9)) 32 dX8_chainAt_30 (by decide +kernel) rfl ?_
            refine g_goto 40 dX8_chainAt_32 rfl ?_
            refine g_istore_n (L1 := [some (.ref 0), none, some (.int (iZ k0)), some (.int (iZ (-9))), some (.int (iZ n)), some (.null)]) 41 dX8_chainAt_40 (by decide) rfl rfl rfl ?_
            refine g_iincZ [some (.ref 0), none, some (.int (iZ k0)), some (.int (iZ (-9))), some (.int (iZ (n + 1))), some (.null)] 44 dX8_chainAt_41 rfl (by omega) (by decide) rfl rfl rfl ?_
            refine g_goto 5 dX8_chainAt_44 rfl ?_
            refine Go.fgt 5 ?_
            exact ih _ (by omega) _ (-9) (n + 1) rfl HC (by decide) (by omega) k
          · refine g_iload_n 13 dX8_toolAt_12 rfl rfl ?_
            refine g_bipush (v := iZ (12)) 15 dX8_toolAt_13 (by decide +kernel) rfl ?_
            refine g_icZ_lt 22 18 dX8_toolAt_15 rfl rfl ra (by decide) (fun c5 => ?_) (fun c5 => ?_)
            · refine g_aload_n 23 dX8_toolAt_22 rfl rfl ?_
              refine g_get 26 dX8_toolAt_23 faX8_22_X8 F0 rfl rfl ?_
              refine g_iload_n 27 dX8_toolAt_26 rfl rfl ?_
              refine g_aaldZ 28 dX8_toolAt_27 F4 (by decide) (by omega) (by omega) (by decide) (tls_at (by omega) (by omega)) rfl ?_
              refine g_aret rfl (Or.inr ⟨_, rfl⟩) dX8_toolAt_28 ?_
              refine rR ?_
              refine g_astore (L1 := [some (.ref 0), none, some (.int (iZ k0)), some (.int (iZ a)), some (.int (iZ n)), some (.ref (71 + 4 * a.toNat))]) 25 dX8_chainAt_23 (by decide) rfl rfl rfl ?_
              refine g_aload 27 dX8_chainAt_25 rfl rfl ?_
              refine g_ifnonnull 35 dX8_chainAt_27 rfl ?_
              refine g_aload 37 dX8_chainAt_35 rfl rfl ?_
              obtain ⟨M_6, n_6, hw_6, tx_6, bd_6, ck_6, f_6, g_6, hM_6, rn_6, rhw_6, rtx_6, rbd_6, rck_6, of_6, og_6, e0_6, e1_6, e2_6, e3_6⟩ := HL (a.toNat) (by omega)
              refine g_get 40 dX8_chainAt_37 faX8_118_X7 e0_6 rfl rfl ?_
              refine g_istore_n (L1 := [some (.ref 0), none, some (.int (iZ k0)), some (.int (iZ bd_6)), some (.int (iZ n)), some (.ref (71 + 4 * a.toNat))]) 41 dX8_chainAt_40 (by decide) rfl rfl rfl ?_
              refine g_iincZ [some (.ref 0), none, some (.int (iZ k0)), some (.int (iZ bd_6)), some (.int (iZ (n + 1))), some (.ref (71 + 4 * a.toNat))] 44 dX8_chainAt_41 rfl (by omega) (by decide) rfl rfl rfl ?_
              refine g_goto 5 dX8_chainAt_44 rfl ?_
              refine Go.fgt 5 ?_
              exact ih _ (by omega) _ (bd_6) (n + 1) rfl HC rbd_6 (by omega) k
            · refine g_null 19 dX8_toolAt_18 rfl ?_
              refine g_goto 28 dX8_toolAt_19 rfl ?_
              refine g_aret rfl (Or.inl rfl) dX8_toolAt_28 ?_
              refine rN ?_
              refine g_astoreN (L1 := [some (.ref 0), none, some (.int (iZ k0)), some (.int (iZ a)), some (.int (iZ n)), some (.null)]) 25 dX8_chainAt_23 (by decide) rfl rfl rfl ?_
              refine g_aloadN 27 dX8_chainAt_25 rfl rfl ?_
              refine g_ifnonnullN 30 dX8_chainAt_27 rfl ?_
              refine g_bipush (v := iZ (-9)) 32 dX8_chainAt_30 (by decide +kernel) rfl ?_
              refine g_goto 40 dX8_chainAt_32 rfl ?_
              refine g_istore_n (L1 := [some (.ref 0), none, some (.int (iZ k0)), some (.int (iZ (-9))), some (.int (iZ n)), some (.null)]) 41 dX8_chainAt_40 (by decide) rfl rfl rfl ?_
              refine g_iincZ [some (.ref 0), none, some (.int (iZ k0)), some (.int (iZ (-9))), some (.int (iZ (n + 1))), some (.null)] 44 dX8_chainAt_41 rfl (by omega) (by decide) rfl rfl rfl ?_
              refine g_goto 5 dX8_chainAt_44 rfl ?_
              refine Go.fgt 5 ?_
              exact ih _ (by omega) _ (-9) (n + 1) rfl HC (by decide) (by omega) k
set_option maxRecDepth 100000 in
theorem w_cha {l : Launch} {h : MH} {Q : Option Value → MH → Prop} {tc : Nat} {xn : Nat → Int} {xf : Nat → Nat → Int} {i k0 : Int} (HC : CORE h tc xn xf) (ri : rg i) (rk0 : rg k0)  (k : ∀ r : Int, rg r → Q (some (.int (iZ r))) h) : Go l mX8_chainAt 0 [some (.ref 0), some (.int (iZ i)), some (.int (iZ k0)), none, none, none] [] h Q := by
  obtain ⟨⟨tr, F0⟩, F3, F4, htc, HT, HL⟩ := id HC
  refine g_iload_n 1 dX8_chainAt_0 rfl rfl ?_
  refine g_istore_n (L1 := [some (.ref 0), some (.int (iZ i)), some (.int (iZ k0)), some (.int (iZ i)), none, none]) 2 dX8_chainAt_1 (by decide) rfl rfl rfl ?_
  refine g_iconst (v := iZ (0)) 3 dX8_chainAt_2 rfl rfl ?_
  refine g_istore (L1 := [some (.ref 0), some (.int (iZ i)), some (.int (iZ k0)), some (.int (iZ i)), some (.int (iZ 0)), none]) 5 dX8_chainAt_3 (by decide) rfl rfl rfl ?_
  refine Go.fgt 1 ?_
  exact w_cha_l ri rk0  _ _ (i) (0) rfl HC ri (by omega) k
set_option maxRecDepth 100000 in
theorem w_che {l : Launch} {h : MH} {Q : Option Value → MH → Prop} {tc : Nat} {xn : Nat → Int} {xf : Nat → Nat → Int} {i : Int} (HC : CORE h tc xn xf) (ri : rg i)  (k : ∀ r : Int, rg r → Q (some (.int (iZ r))) h) : Go l mX8_chainEnd 0 [some (.ref 0), some (.int (iZ i))] [] h Q := by
  obtain ⟨⟨tr, F0⟩, F3, F4, htc, HT, HL⟩ := id HC
  refine g_aload_n 1 dX8_chainEnd_0 rfl rfl ?_
  refine g_iload_n 2 dX8_chainEnd_1 rfl rfl ?_
  refine g_aload_n 3 dX8_chainEnd_2 rfl rfl ?_
  refine g_iload_n 4 dX8_chainEnd_3 rfl rfl ?_
  refine g_callV (z := mX8_chainLength) (As := [.int (iZ i)]) 7 dX8_chainEnd_4 mwX8_chainLength ⟨by decide, by decide⟩ rfl wlX8_170 wiX8_chainLength wsX8_chainLength F0 rfl rfl rfl (nle rfl) (nle rfl) rfl ?_
  refine w_chl HC ri  (fun z1 rz1 => ?_)
  refine rI ?_
  refine g_iconst (v := iZ (1)) 8 dX8_chainEnd_7 rfl rfl ?_
  refine g_isub 9 dX8_chainEnd_8 rfl ?_
  refine Go.genZ (fun z2 rz2 => ?_)
  refine g_callV (z := mX8_chainAt) (As := [.int (iZ i), .int (iZ z2)]) 12 dX8_chainEnd_9 mwX8_chainAt ⟨by decide, by decide⟩ rfl wlX8_173 wiX8_chainAt wsX8_chainAt F0 rfl rfl rfl (nle rfl) (nle rfl) rfl ?_
  refine w_cha HC ri rz2  (fun z3 rz3 => ?_)
  refine rI ?_
  refine g_iret rfl dX8_chainEnd_12 ?_
  exact k (z3) rz3
set_option maxRecDepth 100000 in
theorem w_seal {l : Launch} {h : MH} {Q : Option Value → MH → Prop} {tc : Nat} {xn : Nat → Int} {xf : Nat → Nat → Int} {i b : Int} (HC : CORE h tc xn xf) (ri : rg i) (rb : rg b)  (k : ∀ r : Int, (r = 0 ∨ r = 1) → Q (some (.int (iZ r))) h) : Go l mX8_isSealed 0 [some (.ref 0), some (.int (iZ i)), some (.int (iZ b)), none] [] h Q := by
  obtain ⟨⟨tr, F0⟩, F3, F4, htc, HT, HL⟩ := id HC
  refine g_aload_n 1 dX8_isSealed_0 rfl rfl ?_
  refine g_aload_n 2 dX8_isSealed_1 rfl rfl ?_
  refine g_iload_n 3 dX8_isSealed_2 rfl rfl ?_
  refine g_callV (z := mX8_chainEnd) (As := [.int (iZ i)]) 6 dX8_isSealed_3 mwX8_chainEnd ⟨by decide, by decide⟩ rfl wlX8_183 wiX8_chainEnd wsX8_chainEnd F0 rfl rfl rfl (nle rfl) (nle rfl) rfl ?_
  refine w_che HC ri  (fun z1 rz1 => ?_)
  refine rI ?_
  refine g_callV (z := mX8_toolAt) (As := [.int (iZ z1)]) 9 dX8_isSealed_6 mwX8_toolAt ⟨by decide, by decide⟩ rfl wlX8_90 wiX8_toolAt wsX8_toolAt F0 rfl rfl rfl (nle rfl) (nle rfl) rfl ?_
  refine Go.to [some (.ref 0), some (.int (iZ z1))] [] rfl rfl ?_
  refine g_iload_n 1 dX8_toolAt_0 rfl rfl ?_
  refine g_ifZ_lt 18 4 dX8_toolAt_1 rfl rfl rz1 (fun c2 => ?_) (fun c2 => ?_)
  · refine g_null 19 dX8_toolAt_18 rfl ?_
    refine g_goto 28 dX8_toolAt_19 rfl ?_
    refine g_aret rfl (Or.inl rfl) dX8_toolAt_28 ?_
    refine rN ?_
    refine g_astore_nN (L1 := [some (.ref 0), some (.int (iZ i)), some (.int (iZ b)), some (.null)]) 10 dX8_isSealed_9 (by decide) rfl rfl rfl ?_
    refine g_aload_nN 11 dX8_isSealed_10 rfl rfl ?_
    refine g_ifnullN 33 dX8_isSealed_11 rfl ?_
    refine g_iconst (v := iZ (0)) 34 dX8_isSealed_33 rfl rfl ?_
    refine g_zret rfl z01_0 dX8_isSealed_34 ?_
    exact k (0) (Or.inl rfl)
  · refine g_iload_n 5 dX8_toolAt_4 rfl rfl ?_
    refine g_aload_n 6 dX8_toolAt_5 rfl rfl ?_
    refine g_get 9 dX8_toolAt_6 faX8_26_X8 F0 rfl rfl ?_
    refine g_icZ_ge 18 12 dX8_toolAt_9 rfl rfl rz1 (by omega) (fun c3 => ?_) (fun c3 => ?_)
    · refine g_null 19 dX8_toolAt_18 rfl ?_
      refine g_goto 28 dX8_toolAt_19 rfl ?_
      refine g_aret rfl (Or.inl rfl) dX8_toolAt_28 ?_
      refine rN ?_
      refine g_astore_nN (L1 := [some (.ref 0), some (.int (iZ i)), some (.int (iZ b)), some (.null)]) 10 dX8_isSealed_9 (by decide) rfl rfl rfl ?_
      refine g_aload_nN 11 dX8_isSealed_10 rfl rfl ?_
      refine g_ifnullN 33 dX8_isSealed_11 rfl ?_
      refine g_iconst (v := iZ (0)) 34 dX8_isSealed_33 rfl rfl ?_
      refine g_zret rfl z01_0 dX8_isSealed_34 ?_
      exact k (0) (Or.inl rfl)
    · refine g_iload_n 13 dX8_toolAt_12 rfl rfl ?_
      refine g_bipush (v := iZ (12)) 15 dX8_toolAt_13 (by decide +kernel) rfl ?_
      refine g_icZ_lt 22 18 dX8_toolAt_15 rfl rfl rz1 (by decide) (fun c4 => ?_) (fun c4 => ?_)
      · refine g_aload_n 23 dX8_toolAt_22 rfl rfl ?_
        refine g_get 26 dX8_toolAt_23 faX8_22_X8 F0 rfl rfl ?_
        refine g_iload_n 27 dX8_toolAt_26 rfl rfl ?_
        refine g_aaldZ 28 dX8_toolAt_27 F4 (by decide) (by omega) (by omega) (by decide) (tls_at (by omega) (by omega)) rfl ?_
        refine g_aret rfl (Or.inr ⟨_, rfl⟩) dX8_toolAt_28 ?_
        refine rR ?_
        refine g_astore_n (L1 := [some (.ref 0), some (.int (iZ i)), some (.int (iZ b)), some (.ref (71 + 4 * z1.toNat))]) 10 dX8_isSealed_9 (by decide) rfl rfl rfl ?_
        refine g_aload_n 11 dX8_isSealed_10 rfl rfl ?_
        refine g_ifnull 14 dX8_isSealed_11 rfl ?_
        refine g_aload_n 15 dX8_isSealed_14 rfl rfl ?_
        obtain ⟨M_5, n_5, hw_5, tx_5, bd_5, ck_5, f_5, g_5, hM_5, rn_5, rhw_5, rtx_5, rbd_5, rck_5, of_5, og_5, e0_5, e1_5, e2_5, e3_5⟩ := HL (z1.toNat) (by omega)
        refine g_get 18 dX8_isSealed_15 faX8_121_X7 e0_5 rfl rfl ?_
        refine g_ifZ_eq 33 21 dX8_isSealed_18 rfl rfl (rg01 rck_5) (fun c6 => ?_) (fun c6 => ?_)
        · refine g_iconst (v := iZ (0)) 34 dX8_isSealed_33 rfl rfl ?_
          refine g_zret rfl z01_0 dX8_isSealed_34 ?_
          exact k (0) (Or.inl rfl)
        · refine g_iload_n 22 dX8_isSealed_21 rfl rfl ?_
          refine g_iload_n 23 dX8_isSealed_22 rfl rfl ?_
          refine g_callS (z := mX8_hasBit) (As := [.int (iZ b), .int (iZ i)]) 26 dX8_isSealed_23 mwX8_hasBit ⟨by decide, by decide⟩ rfl wlX8_180 wtX8_hasBit rfl (nle rfl) (nle rfl) rfl ?_
          refine w_hb  rb ri (fun z7 rz7 => ?_)
          refine rI ?_
          refine g_ifZ_ne 33 29 dX8_isSealed_26 rfl rfl (rg01 rz7) (fun c8 => ?_) (fun c8 => ?_)
          · refine g_iconst (v := iZ (0)) 34 dX8_isSealed_33 rfl rfl ?_
            refine g_zret rfl z01_0 dX8_isSealed_34 ?_
            exact k (0) (Or.inl rfl)
          · refine g_iconst (v := iZ (1)) 30 dX8_isSealed_29 rfl rfl ?_
            refine g_goto 34 dX8_isSealed_30 rfl ?_
            refine g_zret rfl z01_1 dX8_isSealed_34 ?_
            exact k (1) (Or.inr rfl)
      · refine g_null 19 dX8_toolAt_18 rfl ?_
        refine g_goto 28 dX8_toolAt_19 rfl ?_
        refine g_aret rfl (Or.inl rfl) dX8_toolAt_28 ?_
        refine rN ?_
        refine g_astore_nN (L1 := [some (.ref 0), some (.int (iZ i)), some (.int (iZ b)), some (.null)]) 10 dX8_isSealed_9 (by decide) rfl rfl rfl ?_
        refine g_aload_nN 11 dX8_isSealed_10 rfl rfl ?_
        refine g_ifnullN 33 dX8_isSealed_11 rfl ?_
        refine g_iconst (v := iZ (0)) 34 dX8_isSealed_33 rfl rfl ?_
        refine g_zret rfl z01_0 dX8_isSealed_34 ?_
        exact k (0) (Or.inl rfl)
set_option maxRecDepth 100000 in
theorem w_chk_l {l : Launch} {Q : Option Value → MH → Prop} {tc : Nat} {xn : Nat → Int} {xf : Nat → Nat → Int}    : ∀ (m0 : Nat) (h : MH) (b : Int) (j : Int), ((tc : Int) - j).toNat = m0 → CORE h tc xn xf → (0 ≤ b ∧ b ≤ j) → (j ≤ 13) → (∀ r : Int, rg r → Q (some (.int (iZ r))) h) → Go l mX8_checkedTools 4 [some (.ref 0), some (.int (iZ b)), some (.int (iZ j)), none] [] h Q := by
  intro m0
  induction m0 using Nat.strongRecOn with
  | ind m0 ih =>
    intro h b j hmz HC hb hj k
    obtain ⟨⟨tr, F0⟩, F3, F4, htc, HT, HL⟩ := id HC
    refine g_iload_n 5 dX8_checkedTools_4 rfl rfl ?_
    refine g_aload_n 6 dX8_checkedTools_5 rfl rfl ?_
    refine g_get 9 dX8_checkedTools_6 faX8_26_X8 F0 rfl rfl ?_
    refine g_icZ_ge 38 12 dX8_checkedTools_9 rfl rfl (by omega) (by omega) (fun c1 => ?_) (fun c1 => ?_)
    · refine g_iload_n 39 dX8_checkedTools_38 rfl rfl ?_
      refine g_iret rfl dX8_checkedTools_39 ?_
      exact k (b) (by omega)
    · refine g_aload_n 13 dX8_checkedTools_12 rfl rfl ?_
      refine g_iload_n 14 dX8_checkedTools_13 rfl rfl ?_
      refine g_callV (z := mX8_toolAt) (As := [.int (iZ j)]) 17 dX8_checkedTools_14 mwX8_toolAt ⟨by decide, by decide⟩ rfl wlX8_90 wiX8_toolAt wsX8_toolAt F0 rfl rfl rfl (nle rfl) (nle rfl) rfl ?_
      refine Go.to [some (.ref 0), some (.int (iZ j))] [] rfl rfl ?_
      refine g_iload_n 1 dX8_toolAt_0 rfl rfl ?_
      refine g_ifZ_lt 18 4 dX8_toolAt_1 rfl rfl (by omega) (fun c2 => ?_) (fun c2 => ?_)
      · refine g_null 19 dX8_toolAt_18 rfl ?_
        refine g_goto 28 dX8_toolAt_19 rfl ?_
        refine g_aret rfl (Or.inl rfl) dX8_toolAt_28 ?_
        refine rN ?_
        refine g_astore_nN (L1 := [some (.ref 0), some (.int (iZ b)), some (.int (iZ j)), some (.null)]) 18 dX8_checkedTools_17 (by decide) rfl rfl rfl ?_
        refine g_aload_nN 19 dX8_checkedTools_18 rfl rfl ?_
        refine g_ifnullN 32 dX8_checkedTools_19 rfl ?_
        refine g_iincZ [some (.ref 0), some (.int (iZ b)), some (.int (iZ (j + 1))), some (.null)] 35 dX8_checkedTools_32 rfl (by omega) (by decide) rfl rfl rfl ?_
        refine g_goto 4 dX8_checkedTools_35 rfl ?_
        refine Go.fgt 3 ?_
        exact ih _ (by omega) _ (b) (j + 1) rfl HC (by omega) (by omega) k
      · refine g_iload_n 5 dX8_toolAt_4 rfl rfl ?_
        refine g_aload_n 6 dX8_toolAt_5 rfl rfl ?_
        refine g_get 9 dX8_toolAt_6 faX8_26_X8 F0 rfl rfl ?_
        refine g_icZ_ge 18 12 dX8_toolAt_9 rfl rfl (by omega) (by omega) (fun q => absurd q (by omega)) (fun _ => ?_)
        refine g_iload_n 13 dX8_toolAt_12 rfl rfl ?_
        refine g_bipush (v := iZ (12)) 15 dX8_toolAt_13 (by decide +kernel) rfl ?_
        refine g_icZ_lt 22 18 dX8_toolAt_15 rfl rfl (by omega) (by decide) (fun c3 => ?_) (fun c3 => ?_)
        · refine g_aload_n 23 dX8_toolAt_22 rfl rfl ?_
          refine g_get 26 dX8_toolAt_23 faX8_22_X8 F0 rfl rfl ?_
          refine g_iload_n 27 dX8_toolAt_26 rfl rfl ?_
          refine g_aaldZ 28 dX8_toolAt_27 F4 (by decide) (by omega) (by omega) (by decide) (tls_at (by omega) (by omega)) rfl ?_
          refine g_aret rfl (Or.inr ⟨_, rfl⟩) dX8_toolAt_28 ?_
          refine rR ?_
          refine g_astore_n (L1 := [some (.ref 0), some (.int (iZ b)), some (.int (iZ j)), some (.ref (71 + 4 * j.toNat))]) 18 dX8_checkedTools_17 (by decide) rfl rfl rfl ?_
          refine g_aload_n 19 dX8_checkedTools_18 rfl rfl ?_
          refine g_ifnull 22 dX8_checkedTools_19 rfl ?_
          refine g_aload_n 23 dX8_checkedTools_22 rfl rfl ?_
          obtain ⟨M_4, n_4, hw_4, tx_4, bd_4, ck_4, f_4, g_4, hM_4, rn_4, rhw_4, rtx_4, rbd_4, rck_4, of_4, og_4, e0_4, e1_4, e2_4, e3_4⟩ := HL (j.toNat) (by omega)
          refine g_get 26 dX8_checkedTools_23 faX8_121_X7 e0_4 rfl rfl ?_
          refine g_ifZ_eq 32 29 dX8_checkedTools_26 rfl rfl (rg01 rck_4) (fun c5 => ?_) (fun c5 => ?_)
          · refine g_iincZ [some (.ref 0), some (.int (iZ b)), some (.int (iZ (j + 1))), some (.ref (71 + 4 * j.toNat))] 35 dX8_checkedTools_32 rfl (by omega) (by decide) rfl rfl rfl ?_
            refine g_goto 4 dX8_checkedTools_35 rfl ?_
            refine Go.fgt 3 ?_
            exact ih _ (by omega) _ (b) (j + 1) rfl HC (by omega) (by omega) k
          · refine g_iincZ [some (.ref 0), some (.int (iZ (b + 1))), some (.int (iZ j)), some (.ref (71 + 4 * j.toNat))] 32 dX8_checkedTools_29 rfl (by omega) (by decide) rfl rfl rfl ?_
            refine g_iincZ [some (.ref 0), some (.int (iZ (b + 1))), some (.int (iZ (j + 1))), some (.ref (71 + 4 * j.toNat))] 35 dX8_checkedTools_32 rfl (by omega) (by decide) rfl rfl rfl ?_
            refine g_goto 4 dX8_checkedTools_35 rfl ?_
            refine Go.fgt 3 ?_
            exact ih _ (by omega) _ (b + 1) (j + 1) rfl HC (by omega) (by omega) k
        · refine g_null 19 dX8_toolAt_18 rfl ?_
          refine g_goto 28 dX8_toolAt_19 rfl ?_
          refine g_aret rfl (Or.inl rfl) dX8_toolAt_28 ?_
          refine rN ?_
          refine g_astore_nN (L1 := [some (.ref 0), some (.int (iZ b)), some (.int (iZ j)), some (.null)]) 18 dX8_checkedTools_17 (by decide) rfl rfl rfl ?_
          refine g_aload_nN 19 dX8_checkedTools_18 rfl rfl ?_
          refine g_ifnullN 32 dX8_checkedTools_19 rfl ?_
          refine g_iincZ [some (.ref 0), some (.int (iZ b)), some (.int (iZ (j + 1))), some (.null)] 35 dX8_checkedTools_32 rfl (by omega) (by decide) rfl rfl rfl ?_
          refine g_goto 4 dX8_checkedTools_35 rfl ?_
          refine Go.fgt 3 ?_
          exact ih _ (by omega) _ (b) (j + 1) rfl HC (by omega) (by omega) k
set_option maxRecDepth 100000 in
theorem w_chk {l : Launch} {h : MH} {Q : Option Value → MH → Prop} {tc : Nat} {xn : Nat → Int} {xf : Nat → Nat → Int}  (HC : CORE h tc xn xf)   (k : ∀ r : Int, rg r → Q (some (.int (iZ r))) h) : Go l mX8_checkedTools 0 [some (.ref 0), none, none, none] [] h Q := by
  obtain ⟨⟨tr, F0⟩, F3, F4, htc, HT, HL⟩ := id HC
  refine g_iconst (v := iZ (0)) 1 dX8_checkedTools_0 rfl rfl ?_
  refine g_istore_n (L1 := [some (.ref 0), some (.int (iZ 0)), none, none]) 2 dX8_checkedTools_1 (by decide) rfl rfl rfl ?_
  refine g_iconst (v := iZ (0)) 3 dX8_checkedTools_2 rfl rfl ?_
  refine g_istore_n (L1 := [some (.ref 0), some (.int (iZ 0)), some (.int (iZ 0)), none]) 4 dX8_checkedTools_3 (by decide) rfl rfl rfl ?_
  exact w_chk_l   _ _ (0) (0) rfl HC (by omega) (by omega) k
set_option maxRecDepth 100000 in
theorem w_sls_l {l : Launch} {Q : Option Value → MH → Prop} {tc : Nat} {xn : Nat → Int} {xf : Nat → Nat → Int} {s0 : Int} (rs0 : rg s0)  : ∀ (m0 : Nat) (h : MH) (b : Int) (j : Int), ((tc : Int) - j).toNat = m0 → CORE h tc xn xf → (0 ≤ b ∧ b ≤ j) → (j ≤ 13) → (∀ r : Int, rg r → Q (some (.int (iZ r))) h) → Go l mX8_sealedTools 4 [some (.ref 0), some (.int (iZ s0)), some (.int (iZ b)), some (.int (iZ j))] [] h Q := by
  intro m0
  induction m0 using Nat.strongRecOn with
  | ind m0 ih =>
    intro h b j hmz HC hb hj k
    obtain ⟨⟨tr, F0⟩, F3, F4, htc, HT, HL⟩ := id HC
    refine g_iload_n 5 dX8_sealedTools_4 rfl rfl ?_
    refine g_aload_n 6 dX8_sealedTools_5 rfl rfl ?_
    refine g_get 9 dX8_sealedTools_6 faX8_26_X8 F0 rfl rfl ?_
    refine g_icZ_ge 30 12 dX8_sealedTools_9 rfl rfl (by omega) (by omega) (fun c1 => ?_) (fun c1 => ?_)
    · refine g_iload_n 31 dX8_sealedTools_30 rfl rfl ?_
      refine g_iret rfl dX8_sealedTools_31 ?_
      exact k (b) (by omega)
    · refine g_aload_n 13 dX8_sealedTools_12 rfl rfl ?_
      refine g_iload_n 14 dX8_sealedTools_13 rfl rfl ?_
      refine g_iload_n 15 dX8_sealedTools_14 rfl rfl ?_
      refine g_callV (z := mX8_isSealed) (As := [.int (iZ j), .int (iZ s0)]) 18 dX8_sealedTools_15 mwX8_isSealed ⟨by decide, by decide⟩ rfl wlX8_176 wiX8_isSealed wsX8_isSealed F0 rfl rfl rfl (nle rfl) (nle rfl) rfl ?_
      refine w_seal HC (by omega) rs0  (fun z2 rz2 => ?_)
      refine rI ?_
      refine g_ifZ_eq 24 21 dX8_sealedTools_18 rfl rfl (rg01 rz2) (fun c3 => ?_) (fun c3 => ?_)
      · refine g_iincZ [some (.ref 0), some (.int (iZ s0)), some (.int (iZ b)), some (.int (iZ (j + 1)))] 27 dX8_sealedTools_24 rfl (by omega) (by decide) rfl rfl rfl ?_
        refine g_goto 4 dX8_sealedTools_27 rfl ?_
        exact ih _ (by omega) _ (b) (j + 1) rfl HC (by omega) (by omega) k
      · refine g_iincZ [some (.ref 0), some (.int (iZ s0)), some (.int (iZ (b + 1))), some (.int (iZ j))] 24 dX8_sealedTools_21 rfl (by omega) (by decide) rfl rfl rfl ?_
        refine g_iincZ [some (.ref 0), some (.int (iZ s0)), some (.int (iZ (b + 1))), some (.int (iZ (j + 1)))] 27 dX8_sealedTools_24 rfl (by omega) (by decide) rfl rfl rfl ?_
        refine g_goto 4 dX8_sealedTools_27 rfl ?_
        exact ih _ (by omega) _ (b + 1) (j + 1) rfl HC (by omega) (by omega) k
set_option maxRecDepth 100000 in
theorem w_sls {l : Launch} {h : MH} {Q : Option Value → MH → Prop} {tc : Nat} {xn : Nat → Int} {xf : Nat → Nat → Int} {s0 : Int} (HC : CORE h tc xn xf) (rs0 : rg s0)  (k : ∀ r : Int, rg r → Q (some (.int (iZ r))) h) : Go l mX8_sealedTools 0 [some (.ref 0), some (.int (iZ s0)), none, none] [] h Q := by
  obtain ⟨⟨tr, F0⟩, F3, F4, htc, HT, HL⟩ := id HC
  refine g_iconst (v := iZ (0)) 1 dX8_sealedTools_0 rfl rfl ?_
  refine g_istore_n (L1 := [some (.ref 0), some (.int (iZ s0)), some (.int (iZ 0)), none]) 2 dX8_sealedTools_1 (by decide) rfl rfl rfl ?_
  refine g_iconst (v := iZ (0)) 3 dX8_sealedTools_2 rfl rfl ?_
  refine g_istore_n (L1 := [some (.ref 0), some (.int (iZ s0)), some (.int (iZ 0)), some (.int (iZ 0))]) 4 dX8_sealedTools_3 (by decide) rfl rfl rfl ?_
  exact w_sls_l rs0  _ _ (0) (0) rfl HC (by omega) (by omega) k

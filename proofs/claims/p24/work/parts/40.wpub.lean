set_option maxRecDepth 100000 in
theorem p_tool {l : Launch} {h : MH} {Q : Option Value → MH → Prop} {tc : Nat} {xn : Nat → Int} {xf : Nat → Nat → Int} {i w : Int} (HC : CORE h tc xn xf) (ri : rg i) (rw : rg w)  (k : ∀ r : Int, rg r → Q (some (.int (iZ r))) h) : Go l mX8_tool 0 [some (.ref 0), some (.int (iZ i)), some (.int (iZ w)), none] [] h Q := by
  obtain ⟨⟨tr, F0⟩, F3, F4, htc, HT, HL⟩ := id HC
  refine g_aload_n 1 dX8_tool_0 rfl rfl ?_
  refine g_iload_n 2 dX8_tool_1 rfl rfl ?_
  refine g_callV (z := mX8_toolAt) (As := [.int (iZ i)]) 5 dX8_tool_2 mwX8_toolAt ⟨by decide, by decide⟩ rfl wlX8_90 wiX8_toolAt wsX8_toolAt F0 rfl rfl rfl (nle rfl) (nle rfl) rfl ?_
  refine Go.to [some (.ref 0), some (.int (iZ i))] [] rfl rfl ?_
  refine g_iload_n 1 dX8_toolAt_0 rfl rfl ?_
  refine g_ifZ_lt 18 4 dX8_toolAt_1 rfl rfl ri (fun c1 => ?_) (fun c1 => ?_)
  · refine g_null 19 dX8_toolAt_18 rfl ?_
    refine g_goto 28 dX8_toolAt_19 rfl ?_
    refine g_aret rfl (Or.inl rfl) dX8_toolAt_28 ?_
    refine rN ?_
    refine g_astore_nN (L1 := [some (.ref 0), some (.int (iZ i)), some (.int (iZ w)), some (.null)]) 6 dX8_tool_5 (by decide) rfl rfl rfl ?_
    refine g_aload_nN 7 dX8_tool_6 rfl rfl ?_
    refine g_ifnonnullN 10 dX8_tool_7 rfl ?_
    refine g_iconst (v := iZ (-1)) 11 dX8_tool_10 rfl rfl ?_
    refine g_iret rfl dX8_tool_11 ?_
    exact k (-1) (by decide)
  · refine g_iload_n 5 dX8_toolAt_4 rfl rfl ?_
    refine g_aload_n 6 dX8_toolAt_5 rfl rfl ?_
    refine g_get 9 dX8_toolAt_6 faX8_26_X8 F0 rfl rfl ?_
    refine g_icZ_ge 18 12 dX8_toolAt_9 rfl rfl ri (by omega) (fun c2 => ?_) (fun c2 => ?_)
    · refine g_null 19 dX8_toolAt_18 rfl ?_
      refine g_goto 28 dX8_toolAt_19 rfl ?_
      refine g_aret rfl (Or.inl rfl) dX8_toolAt_28 ?_
      refine rN ?_
      refine g_astore_nN (L1 := [some (.ref 0), some (.int (iZ i)), some (.int (iZ w)), some (.null)]) 6 dX8_tool_5 (by decide) rfl rfl rfl ?_
      refine g_aload_nN 7 dX8_tool_6 rfl rfl ?_
      refine g_ifnonnullN 10 dX8_tool_7 rfl ?_
      refine g_iconst (v := iZ (-1)) 11 dX8_tool_10 rfl rfl ?_
      refine g_iret rfl dX8_tool_11 ?_
      exact k (-1) (by decide)
    · refine g_iload_n 13 dX8_toolAt_12 rfl rfl ?_
      refine g_bipush (v := iZ (12)) 15 dX8_toolAt_13 (by decide +kernel) rfl ?_
      refine g_icZ_lt 22 18 dX8_toolAt_15 rfl rfl ri (by decide) (fun c3 => ?_) (fun c3 => ?_)
      · refine g_aload_n 23 dX8_toolAt_22 rfl rfl ?_
        refine g_get 26 dX8_toolAt_23 faX8_22_X8 F0 rfl rfl ?_
        refine g_iload_n 27 dX8_toolAt_26 rfl rfl ?_
        refine g_aaldZ 28 dX8_toolAt_27 F4 (by decide) (by omega) (by omega) (by decide) (tls_at (by omega) (by omega)) rfl ?_
        refine g_aret rfl (Or.inr ⟨_, rfl⟩) dX8_toolAt_28 ?_
        refine rR ?_
        refine g_astore_n (L1 := [some (.ref 0), some (.int (iZ i)), some (.int (iZ w)), some (.ref (71 + 4 * i.toNat))]) 6 dX8_tool_5 (by decide) rfl rfl rfl ?_
        refine g_aload_n 7 dX8_tool_6 rfl rfl ?_
        refine g_ifnonnull 12 dX8_tool_7 rfl ?_
        refine g_iload_n 13 dX8_tool_12 rfl rfl ?_
        by_cases c4 : w < 0 ∨ 4 < w
        · refine g_tabZO 84 dX8_tool_13 rw c4 rfl ?_
          refine g_iconst (v := iZ (-1)) 85 dX8_tool_84 rfl rfl ?_
          refine g_iret rfl dX8_tool_85 ?_
          exact k (-1) (by decide)
        · have c5 : w = 0 ∨ w = 1 ∨ w = 2 ∨ w = 3 ∨ w = 4 := by omega
          rcases c5 with c5 | c5 | c5 | c5 | c5
          · refine g_tabZI (0) 48 dX8_tool_13 rw c5 (by decide) (by decide) rfl rfl ?_
            refine g_aload_n 49 dX8_tool_48 rfl rfl ?_
            obtain ⟨M_6, n_6, hw_6, tx_6, bd_6, ck_6, f_6, g_6, hM_6, rn_6, rhw_6, rtx_6, rbd_6, rck_6, of_6, og_6, e0_6, e1_6, e2_6, e3_6⟩ := HL (i.toNat) (by omega)
            refine g_get 52 dX8_tool_49 faX8_94_X7 e0_6 rfl rfl ?_
            refine g_get 55 dX8_tool_52 faX8_109_X0 e1_6 rfl rfl ?_
            refine g_iret rfl dX8_tool_55 ?_
            exact k (n_6) rn_6
          · refine g_tabZI (1) 56 dX8_tool_13 rw c5 (by decide) (by decide) rfl rfl ?_
            refine g_aload_n 57 dX8_tool_56 rfl rfl ?_
            obtain ⟨M_7, n_7, hw_7, tx_7, bd_7, ck_7, f_7, g_7, hM_7, rn_7, rhw_7, rtx_7, rbd_7, rck_7, of_7, og_7, e0_7, e1_7, e2_7, e3_7⟩ := HL (i.toNat) (by omega)
            refine g_get 60 dX8_tool_57 faX8_112_X7 e0_7 rfl rfl ?_
            refine g_iret rfl dX8_tool_60 ?_
            exact k (hw_7) rhw_7
          · refine g_tabZI (2) 61 dX8_tool_13 rw c5 (by decide) (by decide) rfl rfl ?_
            refine g_aload_n 62 dX8_tool_61 rfl rfl ?_
            obtain ⟨M_8, n_8, hw_8, tx_8, bd_8, ck_8, f_8, g_8, hM_8, rn_8, rhw_8, rtx_8, rbd_8, rck_8, of_8, og_8, e0_8, e1_8, e2_8, e3_8⟩ := HL (i.toNat) (by omega)
            refine g_get 65 dX8_tool_62 faX8_115_X7 e0_8 rfl rfl ?_
            refine g_iret rfl dX8_tool_65 ?_
            exact k (tx_8) rtx_8
          · refine g_tabZI (3) 66 dX8_tool_13 rw c5 (by decide) (by decide) rfl rfl ?_
            refine g_aload_n 67 dX8_tool_66 rfl rfl ?_
            obtain ⟨M_9, n_9, hw_9, tx_9, bd_9, ck_9, f_9, g_9, hM_9, rn_9, rhw_9, rtx_9, rbd_9, rck_9, of_9, og_9, e0_9, e1_9, e2_9, e3_9⟩ := HL (i.toNat) (by omega)
            refine g_get 70 dX8_tool_67 faX8_118_X7 e0_9 rfl rfl ?_
            refine g_iret rfl dX8_tool_70 ?_
            exact k (bd_9) rbd_9
          · refine g_tabZI (4) 71 dX8_tool_13 rw c5 (by decide) (by decide) rfl rfl ?_
            refine g_aload_n 72 dX8_tool_71 rfl rfl ?_
            obtain ⟨M_10, n_10, hw_10, tx_10, bd_10, ck_10, f_10, g_10, hM_10, rn_10, rhw_10, rtx_10, rbd_10, rck_10, of_10, og_10, e0_10, e1_10, e2_10, e3_10⟩ := HL (i.toNat) (by omega)
            refine g_get 75 dX8_tool_72 faX8_121_X7 e0_10 rfl rfl ?_
            refine g_ifZ_eq 82 78 dX8_tool_75 rfl rfl (rg01 rck_10) (fun c11 => ?_) (fun c11 => ?_)
            · refine g_iconst (v := iZ (0)) 83 dX8_tool_82 rfl rfl ?_
              refine g_iret rfl dX8_tool_83 ?_
              exact k (0) (by decide)
            · refine g_iconst (v := iZ (1)) 79 dX8_tool_78 rfl rfl ?_
              refine g_goto 83 dX8_tool_79 rfl ?_
              refine g_iret rfl dX8_tool_83 ?_
              exact k (1) (by decide)
      · refine g_null 19 dX8_toolAt_18 rfl ?_
        refine g_goto 28 dX8_toolAt_19 rfl ?_
        refine g_aret rfl (Or.inl rfl) dX8_toolAt_28 ?_
        refine rN ?_
        refine g_astore_nN (L1 := [some (.ref 0), some (.int (iZ i)), some (.int (iZ w)), some (.null)]) 6 dX8_tool_5 (by decide) rfl rfl rfl ?_
        refine g_aload_nN 7 dX8_tool_6 rfl rfl ?_
        refine g_ifnonnullN 10 dX8_tool_7 rfl ?_
        refine g_iconst (v := iZ (-1)) 11 dX8_tool_10 rfl rfl ?_
        refine g_iret rfl dX8_tool_11 ?_
        exact k (-1) (by decide)
set_option maxRecDepth 100000 in
theorem p_code {l : Launch} {h : MH} {Q : Option Value → MH → Prop} {tc : Nat} {xn : Nat → Int} {xf : Nat → Nat → Int} {i a w : Int} (HC : CORE h tc xn xf) (ri : rg i) (ra : rg a) (rw : rg w)  (k : ∀ r : Int, rg r → Q (some (.int (iZ r))) h) : Go l mX8_code 0 [some (.ref 0), some (.int (iZ i)), some (.int (iZ a)), some (.int (iZ w)), none] [] h Q := by
  obtain ⟨⟨tr, F0⟩, F3, F4, htc, HT, HL⟩ := id HC
  refine g_aload_n 1 dX8_code_0 rfl rfl ?_
  refine g_iload_n 2 dX8_code_1 rfl rfl ?_
  refine g_callV (z := mX8_toolAt) (As := [.int (iZ i)]) 5 dX8_code_2 mwX8_toolAt ⟨by decide, by decide⟩ rfl wlX8_90 wiX8_toolAt wsX8_toolAt F0 rfl rfl rfl (nle rfl) (nle rfl) rfl ?_
  refine Go.to [some (.ref 0), some (.int (iZ i))] [] rfl rfl ?_
  refine g_iload_n 1 dX8_toolAt_0 rfl rfl ?_
  refine g_ifZ_lt 18 4 dX8_toolAt_1 rfl rfl ri (fun c1 => ?_) (fun c1 => ?_)
  · refine g_null 19 dX8_toolAt_18 rfl ?_
    refine g_goto 28 dX8_toolAt_19 rfl ?_
    refine g_aret rfl (Or.inl rfl) dX8_toolAt_28 ?_
    refine rN ?_
    refine g_astoreN (L1 := [some (.ref 0), some (.int (iZ i)), some (.int (iZ a)), some (.int (iZ w)), some (.null)]) 7 dX8_code_5 (by decide) rfl rfl rfl ?_
    refine g_aloadN 9 dX8_code_7 rfl rfl ?_
    refine g_ifnullN 21 dX8_code_9 rfl ?_
    refine g_iconst (v := iZ (-1)) 22 dX8_code_21 rfl rfl ?_
    refine g_iret rfl dX8_code_22 ?_
    exact k (-1) (by decide)
  · refine g_iload_n 5 dX8_toolAt_4 rfl rfl ?_
    refine g_aload_n 6 dX8_toolAt_5 rfl rfl ?_
    refine g_get 9 dX8_toolAt_6 faX8_26_X8 F0 rfl rfl ?_
    refine g_icZ_ge 18 12 dX8_toolAt_9 rfl rfl ri (by omega) (fun c2 => ?_) (fun c2 => ?_)
    · refine g_null 19 dX8_toolAt_18 rfl ?_
      refine g_goto 28 dX8_toolAt_19 rfl ?_
      refine g_aret rfl (Or.inl rfl) dX8_toolAt_28 ?_
      refine rN ?_
      refine g_astoreN (L1 := [some (.ref 0), some (.int (iZ i)), some (.int (iZ a)), some (.int (iZ w)), some (.null)]) 7 dX8_code_5 (by decide) rfl rfl rfl ?_
      refine g_aloadN 9 dX8_code_7 rfl rfl ?_
      refine g_ifnullN 21 dX8_code_9 rfl ?_
      refine g_iconst (v := iZ (-1)) 22 dX8_code_21 rfl rfl ?_
      refine g_iret rfl dX8_code_22 ?_
      exact k (-1) (by decide)
    · refine g_iload_n 13 dX8_toolAt_12 rfl rfl ?_
      refine g_bipush (v := iZ (12)) 15 dX8_toolAt_13 (by decide +kernel) rfl ?_
      refine g_icZ_lt 22 18 dX8_toolAt_15 rfl rfl ri (by decide) (fun c3 => ?_) (fun c3 => ?_)
      · refine g_aload_n 23 dX8_toolAt_22 rfl rfl ?_
        refine g_get 26 dX8_toolAt_23 faX8_22_X8 F0 rfl rfl ?_
        refine g_iload_n 27 dX8_toolAt_26 rfl rfl ?_
        refine g_aaldZ 28 dX8_toolAt_27 F4 (by decide) (by omega) (by omega) (by decide) (tls_at (by omega) (by omega)) rfl ?_
        refine g_aret rfl (Or.inr ⟨_, rfl⟩) dX8_toolAt_28 ?_
        refine rR ?_
        refine g_astore (L1 := [some (.ref 0), some (.int (iZ i)), some (.int (iZ a)), some (.int (iZ w)), some (.ref (71 + 4 * i.toNat))]) 7 dX8_code_5 (by decide) rfl rfl rfl ?_
        refine g_aload 9 dX8_code_7 rfl rfl ?_
        refine g_ifnull 12 dX8_code_9 rfl ?_
        refine g_iload_n 13 dX8_code_12 rfl rfl ?_
        refine g_ifZ_lt 21 16 dX8_code_13 rfl rfl rw (fun c4 => ?_) (fun c4 => ?_)
        · refine g_iconst (v := iZ (-1)) 22 dX8_code_21 rfl rfl ?_
          refine g_iret rfl dX8_code_22 ?_
          exact k (-1) (by decide)
        · refine g_iload_n 17 dX8_code_16 rfl rfl ?_
          refine g_iconst (v := iZ (1)) 18 dX8_code_17 rfl rfl ?_
          refine g_icZ_le 23 21 dX8_code_18 rfl rfl rw (by decide) (fun c5 => ?_) (fun c5 => ?_)
          · refine g_iload_n 24 dX8_code_23 rfl rfl ?_
            refine g_ifZ_ne 39 27 dX8_code_24 rfl rfl rw (fun c6 => ?_) (fun c6 => ?_)
            · refine g_aload 41 dX8_code_39 rfl rfl ?_
              obtain ⟨M_7, n_7, hw_7, tx_7, bd_7, ck_7, f_7, g_7, hM_7, rn_7, rhw_7, rtx_7, rbd_7, rck_7, of_7, og_7, e0_7, e1_7, e2_7, e3_7⟩ := HL (i.toNat) (by omega)
              refine g_get 44 dX8_code_41 faX8_94_X7 e0_7 rfl rfl ?_
              refine g_iload_n 45 dX8_code_44 rfl rfl ?_
              refine g_callV (z := mX0_ledAt) (As := [.int (iZ a)]) 48 dX8_code_45 mwX0_ledAt ⟨by decide, by decide⟩ rfl wlX8_126 wiX0_ledAt wsX0_ledAt e1_7 rfl rfl rfl (nle rfl) (nle rfl) rfl ?_
              refine w_led (M := M_7) e1_7 e2_7 e3_7 of_7 og_7 rn_7 ra (by omega) (fun z8 rz8 => ?_)
              refine rI ?_
              refine g_iret rfl dX8_code_48 ?_
              exact k (z8) rz8
            · refine g_aload 29 dX8_code_27 rfl rfl ?_
              obtain ⟨M_9, n_9, hw_9, tx_9, bd_9, ck_9, f_9, g_9, hM_9, rn_9, rhw_9, rtx_9, rbd_9, rck_9, of_9, og_9, e0_9, e1_9, e2_9, e3_9⟩ := HL (i.toNat) (by omega)
              refine g_get 32 dX8_code_29 faX8_94_X7 e0_9 rfl rfl ?_
              refine g_iload_n 33 dX8_code_32 rfl rfl ?_
              refine g_callV (z := mX0_at) (As := [.int (iZ a)]) 36 dX8_code_33 mwX0_at ⟨by decide, by decide⟩ rfl wlX8_125 wiX0_at wsX0_at e1_9 rfl rfl rfl (nle rfl) (nle rfl) rfl ?_
              refine w_cat (M := M_9) e1_9 e2_9 e3_9 of_9 og_9 rn_9 ra (by omega) (fun z10 rz10 => ?_)
              refine rI ?_
              refine g_goto 48 dX8_code_36 rfl ?_
              refine g_iret rfl dX8_code_48 ?_
              exact k (z10) rz10
          · refine g_iconst (v := iZ (-1)) 22 dX8_code_21 rfl rfl ?_
            refine g_iret rfl dX8_code_22 ?_
            exact k (-1) (by decide)
      · refine g_null 19 dX8_toolAt_18 rfl ?_
        refine g_goto 28 dX8_toolAt_19 rfl ?_
        refine g_aret rfl (Or.inl rfl) dX8_toolAt_28 ?_
        refine rN ?_
        refine g_astoreN (L1 := [some (.ref 0), some (.int (iZ i)), some (.int (iZ a)), some (.int (iZ w)), some (.null)]) 7 dX8_code_5 (by decide) rfl rfl rfl ?_
        refine g_aloadN 9 dX8_code_7 rfl rfl ?_
        refine g_ifnullN 21 dX8_code_9 rfl ?_
        refine g_iconst (v := iZ (-1)) 22 dX8_code_21 rfl rfl ?_
        refine g_iret rfl dX8_code_22 ?_
        exact k (-1) (by decide)
set_option maxRecDepth 100000 in
theorem p_same {l : Launch} {h : MH} {Q : Option Value → MH → Prop} {tc : Nat} {xn : Nat → Int} {xf : Nat → Nat → Int} {a b : Int} (HC : CORE h tc xn xf) (ra : rg a) (rb : rg b)  (k : ∀ r : Int, rg r → Q (some (.int (iZ r))) h) : Go l mX8_same 0 [some (.ref 0), some (.int (iZ a)), some (.int (iZ b)), none, none] [] h Q := by
  obtain ⟨⟨tr, F0⟩, F3, F4, htc, HT, HL⟩ := id HC
  refine g_aload_n 1 dX8_same_0 rfl rfl ?_
  refine g_iload_n 2 dX8_same_1 rfl rfl ?_
  refine g_callV (z := mX8_toolAt) (As := [.int (iZ a)]) 5 dX8_same_2 mwX8_toolAt ⟨by decide, by decide⟩ rfl wlX8_90 wiX8_toolAt wsX8_toolAt F0 rfl rfl rfl (nle rfl) (nle rfl) rfl ?_
  refine Go.to [some (.ref 0), some (.int (iZ a))] [] rfl rfl ?_
  refine g_iload_n 1 dX8_toolAt_0 rfl rfl ?_
  refine g_ifZ_lt 18 4 dX8_toolAt_1 rfl rfl ra (fun c1 => ?_) (fun c1 => ?_)
  · refine g_null 19 dX8_toolAt_18 rfl ?_
    refine g_goto 28 dX8_toolAt_19 rfl ?_
    refine g_aret rfl (Or.inl rfl) dX8_toolAt_28 ?_
    refine rN ?_
    refine g_astore_nN (L1 := [some (.ref 0), some (.int (iZ a)), some (.int (iZ b)), some (.null), none]) 6 dX8_same_5 (by decide) rfl rfl rfl ?_
    refine g_aload_n 7 dX8_same_6 rfl rfl ?_
    refine g_iload_n 8 dX8_same_7 rfl rfl ?_
    refine g_callV (z := mX8_toolAt) (As := [.int (iZ b)]) 11 dX8_same_8 mwX8_toolAt ⟨by decide, by decide⟩ rfl wlX8_90 wiX8_toolAt wsX8_toolAt F0 rfl rfl rfl (nle rfl) (nle rfl) rfl ?_
    refine Go.to [some (.ref 0), some (.int (iZ b))] [] rfl rfl ?_
    refine g_iload_n 1 dX8_toolAt_0 rfl rfl ?_
    refine g_ifZ_lt 18 4 dX8_toolAt_1 rfl rfl rb (fun c2 => ?_) (fun c2 => ?_)
    · refine g_null 19 dX8_toolAt_18 rfl ?_
      refine g_goto 28 dX8_toolAt_19 rfl ?_
      refine g_aret rfl (Or.inl rfl) dX8_toolAt_28 ?_
      refine rN ?_
      refine g_astoreN (L1 := [some (.ref 0), some (.int (iZ a)), some (.int (iZ b)), some (.null), some (.null)]) 13 dX8_same_11 (by decide) rfl rfl rfl ?_
      refine g_aload_nN 14 dX8_same_13 rfl rfl ?_
      refine g_ifnullN 22 dX8_same_14 rfl ?_
      refine g_iconst (v := iZ (-1)) 23 dX8_same_22 rfl rfl ?_
      refine g_goto 38 dX8_same_23 rfl ?_
      refine g_iret rfl dX8_same_38 ?_
      exact k (-1) (by decide)
    · refine g_iload_n 5 dX8_toolAt_4 rfl rfl ?_
      refine g_aload_n 6 dX8_toolAt_5 rfl rfl ?_
      refine g_get 9 dX8_toolAt_6 faX8_26_X8 F0 rfl rfl ?_
      refine g_icZ_ge 18 12 dX8_toolAt_9 rfl rfl rb (by omega) (fun c3 => ?_) (fun c3 => ?_)
      · refine g_null 19 dX8_toolAt_18 rfl ?_
        refine g_goto 28 dX8_toolAt_19 rfl ?_
        refine g_aret rfl (Or.inl rfl) dX8_toolAt_28 ?_
        refine rN ?_
        refine g_astoreN (L1 := [some (.ref 0), some (.int (iZ a)), some (.int (iZ b)), some (.null), some (.null)]) 13 dX8_same_11 (by decide) rfl rfl rfl ?_
        refine g_aload_nN 14 dX8_same_13 rfl rfl ?_
        refine g_ifnullN 22 dX8_same_14 rfl ?_
        refine g_iconst (v := iZ (-1)) 23 dX8_same_22 rfl rfl ?_
        refine g_goto 38 dX8_same_23 rfl ?_
        refine g_iret rfl dX8_same_38 ?_
        exact k (-1) (by decide)
      · refine g_iload_n 13 dX8_toolAt_12 rfl rfl ?_
        refine g_bipush (v := iZ (12)) 15 dX8_toolAt_13 (by decide +kernel) rfl ?_
        refine g_icZ_lt 22 18 dX8_toolAt_15 rfl rfl rb (by decide) (fun c4 => ?_) (fun c4 => ?_)
        · refine g_aload_n 23 dX8_toolAt_22 rfl rfl ?_
          refine g_get 26 dX8_toolAt_23 faX8_22_X8 F0 rfl rfl ?_
          refine g_iload_n 27 dX8_toolAt_26 rfl rfl ?_
          refine g_aaldZ 28 dX8_toolAt_27 F4 (by decide) (by omega) (by omega) (by decide) (tls_at (by omega) (by omega)) rfl ?_
          refine g_aret rfl (Or.inr ⟨_, rfl⟩) dX8_toolAt_28 ?_
          refine rR ?_
          refine g_astore (L1 := [some (.ref 0), some (.int (iZ a)), some (.int (iZ b)), some (.null), some (.ref (71 + 4 * b.toNat))]) 13 dX8_same_11 (by decide) rfl rfl rfl ?_
          refine g_aload_nN 14 dX8_same_13 rfl rfl ?_
          refine g_ifnullN 22 dX8_same_14 rfl ?_
          refine g_iconst (v := iZ (-1)) 23 dX8_same_22 rfl rfl ?_
          refine g_goto 38 dX8_same_23 rfl ?_
          refine g_iret rfl dX8_same_38 ?_
          exact k (-1) (by decide)
        · refine g_null 19 dX8_toolAt_18 rfl ?_
          refine g_goto 28 dX8_toolAt_19 rfl ?_
          refine g_aret rfl (Or.inl rfl) dX8_toolAt_28 ?_
          refine rN ?_
          refine g_astoreN (L1 := [some (.ref 0), some (.int (iZ a)), some (.int (iZ b)), some (.null), some (.null)]) 13 dX8_same_11 (by decide) rfl rfl rfl ?_
          refine g_aload_nN 14 dX8_same_13 rfl rfl ?_
          refine g_ifnullN 22 dX8_same_14 rfl ?_
          refine g_iconst (v := iZ (-1)) 23 dX8_same_22 rfl rfl ?_
          refine g_goto 38 dX8_same_23 rfl ?_
          refine g_iret rfl dX8_same_38 ?_
          exact k (-1) (by decide)
  · refine g_iload_n 5 dX8_toolAt_4 rfl rfl ?_
    refine g_aload_n 6 dX8_toolAt_5 rfl rfl ?_
    refine g_get 9 dX8_toolAt_6 faX8_26_X8 F0 rfl rfl ?_
    refine g_icZ_ge 18 12 dX8_toolAt_9 rfl rfl ra (by omega) (fun c5 => ?_) (fun c5 => ?_)
    · refine g_null 19 dX8_toolAt_18 rfl ?_
      refine g_goto 28 dX8_toolAt_19 rfl ?_
      refine g_aret rfl (Or.inl rfl) dX8_toolAt_28 ?_
      refine rN ?_
      refine g_astore_nN (L1 := [some (.ref 0), some (.int (iZ a)), some (.int (iZ b)), some (.null), none]) 6 dX8_same_5 (by decide) rfl rfl rfl ?_
      refine g_aload_n 7 dX8_same_6 rfl rfl ?_
      refine g_iload_n 8 dX8_same_7 rfl rfl ?_
      refine g_callV (z := mX8_toolAt) (As := [.int (iZ b)]) 11 dX8_same_8 mwX8_toolAt ⟨by decide, by decide⟩ rfl wlX8_90 wiX8_toolAt wsX8_toolAt F0 rfl rfl rfl (nle rfl) (nle rfl) rfl ?_
      refine Go.to [some (.ref 0), some (.int (iZ b))] [] rfl rfl ?_
      refine g_iload_n 1 dX8_toolAt_0 rfl rfl ?_
      refine g_ifZ_lt 18 4 dX8_toolAt_1 rfl rfl rb (fun c6 => ?_) (fun c6 => ?_)
      · refine g_null 19 dX8_toolAt_18 rfl ?_
        refine g_goto 28 dX8_toolAt_19 rfl ?_
        refine g_aret rfl (Or.inl rfl) dX8_toolAt_28 ?_
        refine rN ?_
        refine g_astoreN (L1 := [some (.ref 0), some (.int (iZ a)), some (.int (iZ b)), some (.null), some (.null)]) 13 dX8_same_11 (by decide) rfl rfl rfl ?_
        refine g_aload_nN 14 dX8_same_13 rfl rfl ?_
        refine g_ifnullN 22 dX8_same_14 rfl ?_
        refine g_iconst (v := iZ (-1)) 23 dX8_same_22 rfl rfl ?_
        refine g_goto 38 dX8_same_23 rfl ?_
        refine g_iret rfl dX8_same_38 ?_
        exact k (-1) (by decide)
      · refine g_iload_n 5 dX8_toolAt_4 rfl rfl ?_
        refine g_aload_n 6 dX8_toolAt_5 rfl rfl ?_
        refine g_get 9 dX8_toolAt_6 faX8_26_X8 F0 rfl rfl ?_
        refine g_icZ_ge 18 12 dX8_toolAt_9 rfl rfl rb (by omega) (fun c7 => ?_) (fun c7 => ?_)
        · refine g_null 19 dX8_toolAt_18 rfl ?_
          refine g_goto 28 dX8_toolAt_19 rfl ?_
          refine g_aret rfl (Or.inl rfl) dX8_toolAt_28 ?_
          refine rN ?_
          refine g_astoreN (L1 := [some (.ref 0), some (.int (iZ a)), some (.int (iZ b)), some (.null), some (.null)]) 13 dX8_same_11 (by decide) rfl rfl rfl ?_
          refine g_aload_nN 14 dX8_same_13 rfl rfl ?_
          refine g_ifnullN 22 dX8_same_14 rfl ?_
          refine g_iconst (v := iZ (-1)) 23 dX8_same_22 rfl rfl ?_
          refine g_goto 38 dX8_same_23 rfl ?_
          refine g_iret rfl dX8_same_38 ?_
          exact k (-1) (by decide)
        · refine g_iload_n 13 dX8_toolAt_12 rfl rfl ?_
          refine g_bipush (v := iZ (12)) 15 dX8_toolAt_13 (by decide +kernel) rfl ?_
          refine g_icZ_lt 22 18 dX8_toolAt_15 rfl rfl rb (by decide) (fun c8 => ?_) (fun c8 => ?_)
          · refine g_aload_n 23 dX8_toolAt_22 rfl rfl ?_
            refine g_get 26 dX8_toolAt_23 faX8_22_X8 F0 rfl rfl ?_
            refine g_iload_n 27 dX8_toolAt_26 rfl rfl ?_
            refine g_aaldZ 28 dX8_toolAt_27 F4 (by decide) (by omega) (by omega) (by decide) (tls_at (by omega) (by omega)) rfl ?_
            refine g_aret rfl (Or.inr ⟨_, rfl⟩) dX8_toolAt_28 ?_
            refine rR ?_
            refine g_astore (L1 := [some (.ref 0), some (.int (iZ a)), some (.int (iZ b)), some (.null), some (.ref (71 + 4 * b.toNat))]) 13 dX8_same_11 (by decide) rfl rfl rfl ?_
            refine g_aload_nN 14 dX8_same_13 rfl rfl ?_
            refine g_ifnullN 22 dX8_same_14 rfl ?_
            refine g_iconst (v := iZ (-1)) 23 dX8_same_22 rfl rfl ?_
            refine g_goto 38 dX8_same_23 rfl ?_
            refine g_iret rfl dX8_same_38 ?_
            exact k (-1) (by decide)
          · refine g_null 19 dX8_toolAt_18 rfl ?_
            refine g_goto 28 dX8_toolAt_19 rfl ?_
            refine g_aret rfl (Or.inl rfl) dX8_toolAt_28 ?_
            refine rN ?_
            refine g_astoreN (L1 := [some (.ref 0), some (.int (iZ a)), some (.int (iZ b)), some (.null), some (.null)]) 13 dX8_same_11 (by decide) rfl rfl rfl ?_
            refine g_aload_nN 14 dX8_same_13 rfl rfl ?_
            refine g_ifnullN 22 dX8_same_14 rfl ?_
            refine g_iconst (v := iZ (-1)) 23 dX8_same_22 rfl rfl ?_
            refine g_goto 38 dX8_same_23 rfl ?_
            refine g_iret rfl dX8_same_38 ?_
            exact k (-1) (by decide)
    · refine g_iload_n 13 dX8_toolAt_12 rfl rfl ?_
      refine g_bipush (v := iZ (12)) 15 dX8_toolAt_13 (by decide +kernel) rfl ?_
      refine g_icZ_lt 22 18 dX8_toolAt_15 rfl rfl ra (by decide) (fun c9 => ?_) (fun c9 => ?_)
      · refine g_aload_n 23 dX8_toolAt_22 rfl rfl ?_
        refine g_get 26 dX8_toolAt_23 faX8_22_X8 F0 rfl rfl ?_
        refine g_iload_n 27 dX8_toolAt_26 rfl rfl ?_
        refine g_aaldZ 28 dX8_toolAt_27 F4 (by decide) (by omega) (by omega) (by decide) (tls_at (by omega) (by omega)) rfl ?_
        refine g_aret rfl (Or.inr ⟨_, rfl⟩) dX8_toolAt_28 ?_
        refine rR ?_
        refine g_astore_n (L1 := [some (.ref 0), some (.int (iZ a)), some (.int (iZ b)), some (.ref (71 + 4 * a.toNat)), none]) 6 dX8_same_5 (by decide) rfl rfl rfl ?_
        refine g_aload_n 7 dX8_same_6 rfl rfl ?_
        refine g_iload_n 8 dX8_same_7 rfl rfl ?_
        refine g_callV (z := mX8_toolAt) (As := [.int (iZ b)]) 11 dX8_same_8 mwX8_toolAt ⟨by decide, by decide⟩ rfl wlX8_90 wiX8_toolAt wsX8_toolAt F0 rfl rfl rfl (nle rfl) (nle rfl) rfl ?_
        refine Go.to [some (.ref 0), some (.int (iZ b))] [] rfl rfl ?_
        refine g_iload_n 1 dX8_toolAt_0 rfl rfl ?_
        refine g_ifZ_lt 18 4 dX8_toolAt_1 rfl rfl rb (fun c10 => ?_) (fun c10 => ?_)
        · refine g_null 19 dX8_toolAt_18 rfl ?_
          refine g_goto 28 dX8_toolAt_19 rfl ?_
          refine g_aret rfl (Or.inl rfl) dX8_toolAt_28 ?_
          refine rN ?_
          refine g_astoreN (L1 := [some (.ref 0), some (.int (iZ a)), some (.int (iZ b)), some (.ref (71 + 4 * a.toNat)), some (.null)]) 13 dX8_same_11 (by decide) rfl rfl rfl ?_
          refine g_aload_n 14 dX8_same_13 rfl rfl ?_
          refine g_ifnull 17 dX8_same_14 rfl ?_
          refine g_aloadN 19 dX8_same_17 rfl rfl ?_
          refine g_ifnonnullN 22 dX8_same_19 rfl ?_
          refine g_iconst (v := iZ (-1)) 23 dX8_same_22 rfl rfl ?_
          refine g_goto 38 dX8_same_23 rfl ?_
          refine g_iret rfl dX8_same_38 ?_
          exact k (-1) (by decide)
        · refine g_iload_n 5 dX8_toolAt_4 rfl rfl ?_
          refine g_aload_n 6 dX8_toolAt_5 rfl rfl ?_
          refine g_get 9 dX8_toolAt_6 faX8_26_X8 F0 rfl rfl ?_
          refine g_icZ_ge 18 12 dX8_toolAt_9 rfl rfl rb (by omega) (fun c11 => ?_) (fun c11 => ?_)
          · refine g_null 19 dX8_toolAt_18 rfl ?_
            refine g_goto 28 dX8_toolAt_19 rfl ?_
            refine g_aret rfl (Or.inl rfl) dX8_toolAt_28 ?_
            refine rN ?_
            refine g_astoreN (L1 := [some (.ref 0), some (.int (iZ a)), some (.int (iZ b)), some (.ref (71 + 4 * a.toNat)), some (.null)]) 13 dX8_same_11 (by decide) rfl rfl rfl ?_
            refine g_aload_n 14 dX8_same_13 rfl rfl ?_
            refine g_ifnull 17 dX8_same_14 rfl ?_
            refine g_aloadN 19 dX8_same_17 rfl rfl ?_
            refine g_ifnonnullN 22 dX8_same_19 rfl ?_
            refine g_iconst (v := iZ (-1)) 23 dX8_same_22 rfl rfl ?_
            refine g_goto 38 dX8_same_23 rfl ?_
            refine g_iret rfl dX8_same_38 ?_
            exact k (-1) (by decide)
          · refine g_iload_n 13 dX8_toolAt_12 rfl rfl ?_
            refine g_bipush (v := iZ (12)) 15 dX8_toolAt_13 (by decide +kernel) rfl ?_
            refine g_icZ_lt 22 18 dX8_toolAt_15 rfl rfl rb (by decide) (fun c12 => ?_) (fun c12 => ?_)
            · refine g_aload_n 23 dX8_toolAt_22 rfl rfl ?_
              refine g_get 26 dX8_toolAt_23 faX8_22_X8 F0 rfl rfl ?_
              refine g_iload_n 27 dX8_toolAt_26 rfl rfl ?_
              refine g_aaldZ 28 dX8_toolAt_27 F4 (by decide) (by omega) (by omega) (by decide) (tls_at (by omega) (by omega)) rfl ?_
              refine g_aret rfl (Or.inr ⟨_, rfl⟩) dX8_toolAt_28 ?_
              refine rR ?_
              refine g_astore (L1 := [some (.ref 0), some (.int (iZ a)), some (.int (iZ b)), some (.ref (71 + 4 * a.toNat)), some (.ref (71 + 4 * b.toNat))]) 13 dX8_same_11 (by decide) rfl rfl rfl ?_
              refine g_aload_n 14 dX8_same_13 rfl rfl ?_
              refine g_ifnull 17 dX8_same_14 rfl ?_
              refine g_aload 19 dX8_same_17 rfl rfl ?_
              refine g_ifnonnull 26 dX8_same_19 rfl ?_
              refine g_aload_n 27 dX8_same_26 rfl rfl ?_
              obtain ⟨M_13, n_13, hw_13, tx_13, bd_13, ck_13, f_13, g_13, hM_13, rn_13, rhw_13, rtx_13, rbd_13, rck_13, of_13, og_13, e0_13, e1_13, e2_13, e3_13⟩ := HL (a.toNat) (by omega)
              refine g_get 30 dX8_same_27 faX8_94_X7 e0_13 rfl rfl ?_
              refine g_aload 32 dX8_same_30 rfl rfl ?_
              obtain ⟨M_14, n_14, hw_14, tx_14, bd_14, ck_14, f_14, g_14, hM_14, rn_14, rhw_14, rtx_14, rbd_14, rck_14, of_14, og_14, e0_14, e1_14, e2_14, e3_14⟩ := HL (b.toNat) (by omega)
              refine g_get 35 dX8_same_32 faX8_94_X7 e0_14 rfl rfl ?_
              refine g_callV (z := mX0_unlike) (As := [.ref (71 + 4 * b.toNat + 1)]) 38 dX8_same_35 mwX0_unlike ⟨by decide, by decide⟩ rfl wlX8_162 wiX0_unlike wsX0_unlike e1_13 rfl rfl rfl (nle rfl) (nle rfl) rfl ?_
              refine w_unl (M := M_13) (N := M_14) e1_13 e2_13 e3_13 e1_14 e2_14 e3_14 of_13 og_13 of_14 og_14 rn_13 rn_14 (by omega) (by omega) (fun z15 rz15 => ?_)
              refine rI ?_
              refine g_iret rfl dX8_same_38 ?_
              exact k (z15) rz15
            · refine g_null 19 dX8_toolAt_18 rfl ?_
              refine g_goto 28 dX8_toolAt_19 rfl ?_
              refine g_aret rfl (Or.inl rfl) dX8_toolAt_28 ?_
              refine rN ?_
              refine g_astoreN (L1 := [some (.ref 0), some (.int (iZ a)), some (.int (iZ b)), some (.ref (71 + 4 * a.toNat)), some (.null)]) 13 dX8_same_11 (by decide) rfl rfl rfl ?_
              refine g_aload_n 14 dX8_same_13 rfl rfl ?_
              refine g_ifnull 17 dX8_same_14 rfl ?_
              refine g_aloadN 19 dX8_same_17 rfl rfl ?_
              refine g_ifnonnullN 22 dX8_same_19 rfl ?_
              refine g_iconst (v := iZ (-1)) 23 dX8_same_22 rfl rfl ?_
              refine g_goto 38 dX8_same_23 rfl ?_
              refine g_iret rfl dX8_same_38 ?_
              exact k (-1) (by decide)
      · refine g_null 19 dX8_toolAt_18 rfl ?_
        refine g_goto 28 dX8_toolAt_19 rfl ?_
        refine g_aret rfl (Or.inl rfl) dX8_toolAt_28 ?_
        refine rN ?_
        refine g_astore_nN (L1 := [some (.ref 0), some (.int (iZ a)), some (.int (iZ b)), some (.null), none]) 6 dX8_same_5 (by decide) rfl rfl rfl ?_
        refine g_aload_n 7 dX8_same_6 rfl rfl ?_
        refine g_iload_n 8 dX8_same_7 rfl rfl ?_
        refine g_callV (z := mX8_toolAt) (As := [.int (iZ b)]) 11 dX8_same_8 mwX8_toolAt ⟨by decide, by decide⟩ rfl wlX8_90 wiX8_toolAt wsX8_toolAt F0 rfl rfl rfl (nle rfl) (nle rfl) rfl ?_
        refine Go.to [some (.ref 0), some (.int (iZ b))] [] rfl rfl ?_
        refine g_iload_n 1 dX8_toolAt_0 rfl rfl ?_
        refine g_ifZ_lt 18 4 dX8_toolAt_1 rfl rfl rb (fun c16 => ?_) (fun c16 => ?_)
        · refine g_null 19 dX8_toolAt_18 rfl ?_
          refine g_goto 28 dX8_toolAt_19 rfl ?_
          refine g_aret rfl (Or.inl rfl) dX8_toolAt_28 ?_
          refine rN ?_
          refine g_astoreN (L1 := [some (.ref 0), some (.int (iZ a)), some (.int (iZ b)), some (.null), some (.null)]) 13 dX8_same_11 (by decide) rfl rfl rfl ?_
          refine g_aload_nN 14 dX8_same_13 rfl rfl ?_
          refine g_ifnullN 22 dX8_same_14 rfl ?_
          refine g_iconst (v := iZ (-1)) 23 dX8_same_22 rfl rfl ?_
          refine g_goto 38 dX8_same_23 rfl ?_
          refine g_iret rfl dX8_same_38 ?_
          exact k (-1) (by decide)
        · refine g_iload_n 5 dX8_toolAt_4 rfl rfl ?_
          refine g_aload_n 6 dX8_toolAt_5 rfl rfl ?_
          refine g_get 9 dX8_toolAt_6 faX8_26_X8 F0 rfl rfl ?_
          refine g_icZ_ge 18 12 dX8_toolAt_9 rfl rfl rb (by omega) (fun c17 => ?_) (fun c17 => ?_)
          · refine g_null 19 dX8_toolAt_18 rfl ?_
            refine g_goto 28 dX8_toolAt_19 rfl ?_
            refine g_aret rfl (Or.inl rfl) dX8_toolAt_28 ?_
            refine rN ?_
            refine g_astoreN (L1 := [some (.ref 0), some (.int (iZ a)), some (.int (iZ b)), some (.null), some (.null)]) 13 dX8_same_11 (by decide) rfl rfl rfl ?_
            refine g_aload_nN 14 dX8_same_13 rfl rfl ?_
            refine g_ifnullN 22 dX8_same_14 rfl ?_
            refine g_iconst (v := iZ (-1)) 23 dX8_same_22 rfl rfl ?_
            refine g_goto 38 dX8_same_23 rfl ?_
            refine g_iret rfl dX8_same_38 ?_
            exact k (-1) (by decide)
          · refine g_iload_n 13 dX8_toolAt_12 rfl rfl ?_
            refine g_bipush (v := iZ (12)) 15 dX8_toolAt_13 (by decide +kernel) rfl ?_
            refine g_icZ_lt 22 18 dX8_toolAt_15 rfl rfl rb (by decide) (fun c18 => ?_) (fun c18 => ?_)
            · refine g_aload_n 23 dX8_toolAt_22 rfl rfl ?_
              refine g_get 26 dX8_toolAt_23 faX8_22_X8 F0 rfl rfl ?_
              refine g_iload_n 27 dX8_toolAt_26 rfl rfl ?_
              refine g_aaldZ 28 dX8_toolAt_27 F4 (by decide) (by omega) (by omega) (by decide) (tls_at (by omega) (by omega)) rfl ?_
              refine g_aret rfl (Or.inr ⟨_, rfl⟩) dX8_toolAt_28 ?_
              refine rR ?_
              refine g_astore (L1 := [some (.ref 0), some (.int (iZ a)), some (.int (iZ b)), some (.null), some (.ref (71 + 4 * b.toNat))]) 13 dX8_same_11 (by decide) rfl rfl rfl ?_
              refine g_aload_nN 14 dX8_same_13 rfl rfl ?_
              refine g_ifnullN 22 dX8_same_14 rfl ?_
              refine g_iconst (v := iZ (-1)) 23 dX8_same_22 rfl rfl ?_
              refine g_goto 38 dX8_same_23 rfl ?_
              refine g_iret rfl dX8_same_38 ?_
              exact k (-1) (by decide)
            · refine g_null 19 dX8_toolAt_18 rfl ?_
              refine g_goto 28 dX8_toolAt_19 rfl ?_
              refine g_aret rfl (Or.inl rfl) dX8_toolAt_28 ?_
              refine rN ?_
              refine g_astoreN (L1 := [some (.ref 0), some (.int (iZ a)), some (.int (iZ b)), some (.null), some (.null)]) 13 dX8_same_11 (by decide) rfl rfl rfl ?_
              refine g_aload_nN 14 dX8_same_13 rfl rfl ?_
              refine g_ifnullN 22 dX8_same_14 rfl ?_
              refine g_iconst (v := iZ (-1)) 23 dX8_same_22 rfl rfl ?_
              refine g_goto 38 dX8_same_23 rfl ?_
              refine g_iret rfl dX8_same_38 ?_
              exact k (-1) (by decide)
set_option maxRecDepth 100000 in
theorem p_chain {l : Launch} {h : MH} {Q : Option Value → MH → Prop} {tc : Nat} {xn : Nat → Int} {xf : Nat → Nat → Int} {i k0 : Int} (HC : CORE h tc xn xf) (ri : rg i) (rk0 : rg k0)  (k : ∀ r : Int, rg r → Q (some (.int (iZ r))) h) : Go l mX8_chain 0 [some (.ref 0), some (.int (iZ i)), some (.int (iZ k0)), none] [] h Q := by
  obtain ⟨⟨tr, F0⟩, F3, F4, htc, HT, HL⟩ := id HC
  refine g_aload_n 1 dX8_chain_0 rfl rfl ?_
  refine g_iload_n 2 dX8_chain_1 rfl rfl ?_
  refine g_callV (z := mX8_toolAt) (As := [.int (iZ i)]) 5 dX8_chain_2 mwX8_toolAt ⟨by decide, by decide⟩ rfl wlX8_90 wiX8_toolAt wsX8_toolAt F0 rfl rfl rfl (nle rfl) (nle rfl) rfl ?_
  refine Go.to [some (.ref 0), some (.int (iZ i))] [] rfl rfl ?_
  refine g_iload_n 1 dX8_toolAt_0 rfl rfl ?_
  refine g_ifZ_lt 18 4 dX8_toolAt_1 rfl rfl ri (fun c1 => ?_) (fun c1 => ?_)
  · refine g_null 19 dX8_toolAt_18 rfl ?_
    refine g_goto 28 dX8_toolAt_19 rfl ?_
    refine g_aret rfl (Or.inl rfl) dX8_toolAt_28 ?_
    refine rN ?_
    refine g_ifnonnullN 8 dX8_chain_5 rfl ?_
    refine g_iconst (v := iZ (-1)) 9 dX8_chain_8 rfl rfl ?_
    refine g_iret rfl dX8_chain_9 ?_
    exact k (-1) (by decide)
  · refine g_iload_n 5 dX8_toolAt_4 rfl rfl ?_
    refine g_aload_n 6 dX8_toolAt_5 rfl rfl ?_
    refine g_get 9 dX8_toolAt_6 faX8_26_X8 F0 rfl rfl ?_
    refine g_icZ_ge 18 12 dX8_toolAt_9 rfl rfl ri (by omega) (fun c2 => ?_) (fun c2 => ?_)
    · refine g_null 19 dX8_toolAt_18 rfl ?_
      refine g_goto 28 dX8_toolAt_19 rfl ?_
      refine g_aret rfl (Or.inl rfl) dX8_toolAt_28 ?_
      refine rN ?_
      refine g_ifnonnullN 8 dX8_chain_5 rfl ?_
      refine g_iconst (v := iZ (-1)) 9 dX8_chain_8 rfl rfl ?_
      refine g_iret rfl dX8_chain_9 ?_
      exact k (-1) (by decide)
    · refine g_iload_n 13 dX8_toolAt_12 rfl rfl ?_
      refine g_bipush (v := iZ (12)) 15 dX8_toolAt_13 (by decide +kernel) rfl ?_
      refine g_icZ_lt 22 18 dX8_toolAt_15 rfl rfl ri (by decide) (fun c3 => ?_) (fun c3 => ?_)
      · refine g_aload_n 23 dX8_toolAt_22 rfl rfl ?_
        refine g_get 26 dX8_toolAt_23 faX8_22_X8 F0 rfl rfl ?_
        refine g_iload_n 27 dX8_toolAt_26 rfl rfl ?_
        refine g_aaldZ 28 dX8_toolAt_27 F4 (by decide) (by omega) (by omega) (by decide) (tls_at (by omega) (by omega)) rfl ?_
        refine g_aret rfl (Or.inr ⟨_, rfl⟩) dX8_toolAt_28 ?_
        refine rR ?_
        refine g_ifnonnull 10 dX8_chain_5 rfl ?_
        refine g_aload_n 11 dX8_chain_10 rfl rfl ?_
        refine g_iload_n 12 dX8_chain_11 rfl rfl ?_
        refine g_callV (z := mX8_chainLength) (As := [.int (iZ i)]) 15 dX8_chain_12 mwX8_chainLength ⟨by decide, by decide⟩ rfl wlX8_170 wiX8_chainLength wsX8_chainLength F0 rfl rfl rfl (nle rfl) (nle rfl) rfl ?_
        refine w_chl HC ri  (fun z4 rz4 => ?_)
        refine rI ?_
        refine g_istore_n (L1 := [some (.ref 0), some (.int (iZ i)), some (.int (iZ k0)), some (.int (iZ z4))]) 16 dX8_chain_15 (by decide) rfl rfl rfl ?_
        refine g_iload_n 17 dX8_chain_16 rfl rfl ?_
        refine g_iconst (v := iZ (-1)) 18 dX8_chain_17 rfl rfl ?_
        refine g_icZ_ne 23 21 dX8_chain_18 rfl rfl rk0 (by decide) (fun c5 => ?_) (fun c5 => ?_)
        · refine g_iload_n 24 dX8_chain_23 rfl rfl ?_
          refine g_ifZ_lt 32 27 dX8_chain_24 rfl rfl rk0 (fun c6 => ?_) (fun c6 => ?_)
          · refine g_iconst (v := iZ (-1)) 33 dX8_chain_32 rfl rfl ?_
            refine g_goto 42 dX8_chain_33 rfl ?_
            refine g_iret rfl dX8_chain_42 ?_
            exact k (-1) (by decide)
          · refine g_iload_n 28 dX8_chain_27 rfl rfl ?_
            refine g_iload_n 29 dX8_chain_28 rfl rfl ?_
            refine g_icZ_lt 36 32 dX8_chain_29 rfl rfl rk0 rz4 (fun c7 => ?_) (fun c7 => ?_)
            · refine g_aload_n 37 dX8_chain_36 rfl rfl ?_
              refine g_iload_n 38 dX8_chain_37 rfl rfl ?_
              refine g_iload_n 39 dX8_chain_38 rfl rfl ?_
              refine g_callV (z := mX8_chainAt) (As := [.int (iZ i), .int (iZ k0)]) 42 dX8_chain_39 mwX8_chainAt ⟨by decide, by decide⟩ rfl wlX8_173 wiX8_chainAt wsX8_chainAt F0 rfl rfl rfl (nle rfl) (nle rfl) rfl ?_
              refine w_cha HC ri rk0  (fun z8 rz8 => ?_)
              refine rI ?_
              refine g_iret rfl dX8_chain_42 ?_
              exact k (z8) rz8
            · refine g_iconst (v := iZ (-1)) 33 dX8_chain_32 rfl rfl ?_
              refine g_goto 42 dX8_chain_33 rfl ?_
              refine g_iret rfl dX8_chain_42 ?_
              exact k (-1) (by decide)
        · refine g_iload_n 22 dX8_chain_21 rfl rfl ?_
          refine g_iret rfl dX8_chain_22 ?_
          exact k (z4) rz4
      · refine g_null 19 dX8_toolAt_18 rfl ?_
        refine g_goto 28 dX8_toolAt_19 rfl ?_
        refine g_aret rfl (Or.inl rfl) dX8_toolAt_28 ?_
        refine rN ?_
        refine g_ifnonnullN 8 dX8_chain_5 rfl ?_
        refine g_iconst (v := iZ (-1)) 9 dX8_chain_8 rfl rfl ?_
        refine g_iret rfl dX8_chain_9 ?_
        exact k (-1) (by decide)
set_option maxRecDepth 100000 in
theorem p_run {l : Launch} {h : MH} {Q : Option Value → MH → Prop} {tc : Nat} {xn : Nat → Int} {xf : Nat → Nat → Int} {t i : Int} (HC : CORE h tc xn xf) (HS : SC h) (rt : rg t) (ri : rg i)  (k : ∀ (h1 : MH) (r : Int), rg r → SC h1 → Scr h h1 → Q (some (.int (iZ r))) h1) : Go l mX8_run 0 [some (.ref 0), some (.int (iZ t)), some (.int (iZ i)), none, none] [] h Q := by
  obtain ⟨⟨tr, F0⟩, F3, F4, htc, HT, HL⟩ := id HC
  refine g_aload_n 1 dX8_run_0 rfl rfl ?_
  refine g_iload_n 2 dX8_run_1 rfl rfl ?_
  refine g_callV (z := mX8_toolAt) (As := [.int (iZ t)]) 5 dX8_run_2 mwX8_toolAt ⟨by decide, by decide⟩ rfl wlX8_90 wiX8_toolAt wsX8_toolAt F0 rfl rfl rfl (nle rfl) (nle rfl) rfl ?_
  refine Go.to [some (.ref 0), some (.int (iZ t))] [] rfl rfl ?_
  refine g_iload_n 1 dX8_toolAt_0 rfl rfl ?_
  refine g_ifZ_lt 18 4 dX8_toolAt_1 rfl rfl rt (fun c1 => ?_) (fun c1 => ?_)
  · refine g_null 19 dX8_toolAt_18 rfl ?_
    refine g_goto 28 dX8_toolAt_19 rfl ?_
    refine g_aret rfl (Or.inl rfl) dX8_toolAt_28 ?_
    refine rN ?_
    refine g_astore_nN (L1 := [some (.ref 0), some (.int (iZ t)), some (.int (iZ i)), some (.null), none]) 6 dX8_run_5 (by decide) rfl rfl rfl ?_
    refine g_aload_n 7 dX8_run_6 rfl rfl ?_
    refine g_iload_n 8 dX8_run_7 rfl rfl ?_
    refine g_callV (z := mX8_textAt) (As := [.int (iZ i)]) 11 dX8_run_8 mwX8_textAt ⟨by decide, by decide⟩ rfl wlX8_74 wiX8_textAt wsX8_textAt F0 rfl rfl rfl (nle rfl) (nle rfl) rfl ?_
    refine Go.to [some (.ref 0), some (.int (iZ i))] [] rfl rfl ?_
    refine g_iload_n 1 dX8_textAt_0 rfl rfl ?_
    refine g_ifZ_lt 10 4 dX8_textAt_1 rfl rfl ri (fun c2 => ?_) (fun c2 => ?_)
    · refine g_null 11 dX8_textAt_10 rfl ?_
      refine g_goto 20 dX8_textAt_11 rfl ?_
      refine g_aret rfl (Or.inl rfl) dX8_textAt_20 ?_
      refine rN ?_
      refine g_astoreN (L1 := [some (.ref 0), some (.int (iZ t)), some (.int (iZ i)), some (.null), some (.null)]) 13 dX8_run_11 (by decide) rfl rfl rfl ?_
      refine g_aload_nN 14 dX8_run_13 rfl rfl ?_
      refine g_ifnullN 22 dX8_run_14 rfl ?_
      refine g_iconst (v := iZ (-1)) 23 dX8_run_22 rfl rfl ?_
      refine g_iret rfl dX8_run_23 ?_
      exact k _ (-1) (by decide) HS (Scr.refl _)
    · refine g_iload_n 5 dX8_textAt_4 rfl rfl ?_
      refine g_bipush (v := iZ (8)) 7 dX8_textAt_5 (by decide +kernel) rfl ?_
      refine g_icZ_lt 14 10 dX8_textAt_7 rfl rfl ri (by decide) (fun c3 => ?_) (fun c3 => ?_)
      · refine g_aload_n 15 dX8_textAt_14 rfl rfl ?_
        refine g_get 18 dX8_textAt_15 faX8_16_X8 F0 rfl rfl ?_
        refine g_iload_n 19 dX8_textAt_18 rfl rfl ?_
        refine g_aaldZ 20 dX8_textAt_19 F3 (by decide) (by omega) (by omega) (by decide) (txs_at (by omega) (by omega)) rfl ?_
        refine g_aret rfl (Or.inr ⟨_, rfl⟩) dX8_textAt_20 ?_
        refine rR ?_
        refine g_astore (L1 := [some (.ref 0), some (.int (iZ t)), some (.int (iZ i)), some (.null), some (.ref (34 + 2 * i.toNat))]) 13 dX8_run_11 (by decide) rfl rfl rfl ?_
        refine g_aload_nN 14 dX8_run_13 rfl rfl ?_
        refine g_ifnullN 22 dX8_run_14 rfl ?_
        refine g_iconst (v := iZ (-1)) 23 dX8_run_22 rfl rfl ?_
        refine g_iret rfl dX8_run_23 ?_
        exact k _ (-1) (by decide) HS (Scr.refl _)
      · refine g_null 11 dX8_textAt_10 rfl ?_
        refine g_goto 20 dX8_textAt_11 rfl ?_
        refine g_aret rfl (Or.inl rfl) dX8_textAt_20 ?_
        refine rN ?_
        refine g_astoreN (L1 := [some (.ref 0), some (.int (iZ t)), some (.int (iZ i)), some (.null), some (.null)]) 13 dX8_run_11 (by decide) rfl rfl rfl ?_
        refine g_aload_nN 14 dX8_run_13 rfl rfl ?_
        refine g_ifnullN 22 dX8_run_14 rfl ?_
        refine g_iconst (v := iZ (-1)) 23 dX8_run_22 rfl rfl ?_
        refine g_iret rfl dX8_run_23 ?_
        exact k _ (-1) (by decide) HS (Scr.refl _)
  · refine g_iload_n 5 dX8_toolAt_4 rfl rfl ?_
    refine g_aload_n 6 dX8_toolAt_5 rfl rfl ?_
    refine g_get 9 dX8_toolAt_6 faX8_26_X8 F0 rfl rfl ?_
    refine g_icZ_ge 18 12 dX8_toolAt_9 rfl rfl rt (by omega) (fun c4 => ?_) (fun c4 => ?_)
    · refine g_null 19 dX8_toolAt_18 rfl ?_
      refine g_goto 28 dX8_toolAt_19 rfl ?_
      refine g_aret rfl (Or.inl rfl) dX8_toolAt_28 ?_
      refine rN ?_
      refine g_astore_nN (L1 := [some (.ref 0), some (.int (iZ t)), some (.int (iZ i)), some (.null), none]) 6 dX8_run_5 (by decide) rfl rfl rfl ?_
      refine g_aload_n 7 dX8_run_6 rfl rfl ?_
      refine g_iload_n 8 dX8_run_7 rfl rfl ?_
      refine g_callV (z := mX8_textAt) (As := [.int (iZ i)]) 11 dX8_run_8 mwX8_textAt ⟨by decide, by decide⟩ rfl wlX8_74 wiX8_textAt wsX8_textAt F0 rfl rfl rfl (nle rfl) (nle rfl) rfl ?_
      refine Go.to [some (.ref 0), some (.int (iZ i))] [] rfl rfl ?_
      refine g_iload_n 1 dX8_textAt_0 rfl rfl ?_
      refine g_ifZ_lt 10 4 dX8_textAt_1 rfl rfl ri (fun c5 => ?_) (fun c5 => ?_)
      · refine g_null 11 dX8_textAt_10 rfl ?_
        refine g_goto 20 dX8_textAt_11 rfl ?_
        refine g_aret rfl (Or.inl rfl) dX8_textAt_20 ?_
        refine rN ?_
        refine g_astoreN (L1 := [some (.ref 0), some (.int (iZ t)), some (.int (iZ i)), some (.null), some (.null)]) 13 dX8_run_11 (by decide) rfl rfl rfl ?_
        refine g_aload_nN 14 dX8_run_13 rfl rfl ?_
        refine g_ifnullN 22 dX8_run_14 rfl ?_
        refine g_iconst (v := iZ (-1)) 23 dX8_run_22 rfl rfl ?_
        refine g_iret rfl dX8_run_23 ?_
        exact k _ (-1) (by decide) HS (Scr.refl _)
      · refine g_iload_n 5 dX8_textAt_4 rfl rfl ?_
        refine g_bipush (v := iZ (8)) 7 dX8_textAt_5 (by decide +kernel) rfl ?_
        refine g_icZ_lt 14 10 dX8_textAt_7 rfl rfl ri (by decide) (fun c6 => ?_) (fun c6 => ?_)
        · refine g_aload_n 15 dX8_textAt_14 rfl rfl ?_
          refine g_get 18 dX8_textAt_15 faX8_16_X8 F0 rfl rfl ?_
          refine g_iload_n 19 dX8_textAt_18 rfl rfl ?_
          refine g_aaldZ 20 dX8_textAt_19 F3 (by decide) (by omega) (by omega) (by decide) (txs_at (by omega) (by omega)) rfl ?_
          refine g_aret rfl (Or.inr ⟨_, rfl⟩) dX8_textAt_20 ?_
          refine rR ?_
          refine g_astore (L1 := [some (.ref 0), some (.int (iZ t)), some (.int (iZ i)), some (.null), some (.ref (34 + 2 * i.toNat))]) 13 dX8_run_11 (by decide) rfl rfl rfl ?_
          refine g_aload_nN 14 dX8_run_13 rfl rfl ?_
          refine g_ifnullN 22 dX8_run_14 rfl ?_
          refine g_iconst (v := iZ (-1)) 23 dX8_run_22 rfl rfl ?_
          refine g_iret rfl dX8_run_23 ?_
          exact k _ (-1) (by decide) HS (Scr.refl _)
        · refine g_null 11 dX8_textAt_10 rfl ?_
          refine g_goto 20 dX8_textAt_11 rfl ?_
          refine g_aret rfl (Or.inl rfl) dX8_textAt_20 ?_
          refine rN ?_
          refine g_astoreN (L1 := [some (.ref 0), some (.int (iZ t)), some (.int (iZ i)), some (.null), some (.null)]) 13 dX8_run_11 (by decide) rfl rfl rfl ?_
          refine g_aload_nN 14 dX8_run_13 rfl rfl ?_
          refine g_ifnullN 22 dX8_run_14 rfl ?_
          refine g_iconst (v := iZ (-1)) 23 dX8_run_22 rfl rfl ?_
          refine g_iret rfl dX8_run_23 ?_
          exact k _ (-1) (by decide) HS (Scr.refl _)
    · refine g_iload_n 13 dX8_toolAt_12 rfl rfl ?_
      refine g_bipush (v := iZ (12)) 15 dX8_toolAt_13 (by decide +kernel) rfl ?_
      refine g_icZ_lt 22 18 dX8_toolAt_15 rfl rfl rt (by decide) (fun c7 => ?_) (fun c7 => ?_)
      · refine g_aload_n 23 dX8_toolAt_22 rfl rfl ?_
        refine g_get 26 dX8_toolAt_23 faX8_22_X8 F0 rfl rfl ?_
        refine g_iload_n 27 dX8_toolAt_26 rfl rfl ?_
        refine g_aaldZ 28 dX8_toolAt_27 F4 (by decide) (by omega) (by omega) (by decide) (tls_at (by omega) (by omega)) rfl ?_
        refine g_aret rfl (Or.inr ⟨_, rfl⟩) dX8_toolAt_28 ?_
        refine rR ?_
        refine g_astore_n (L1 := [some (.ref 0), some (.int (iZ t)), some (.int (iZ i)), some (.ref (71 + 4 * t.toNat)), none]) 6 dX8_run_5 (by decide) rfl rfl rfl ?_
        refine g_aload_n 7 dX8_run_6 rfl rfl ?_
        refine g_iload_n 8 dX8_run_7 rfl rfl ?_
        refine g_callV (z := mX8_textAt) (As := [.int (iZ i)]) 11 dX8_run_8 mwX8_textAt ⟨by decide, by decide⟩ rfl wlX8_74 wiX8_textAt wsX8_textAt F0 rfl rfl rfl (nle rfl) (nle rfl) rfl ?_
        refine Go.to [some (.ref 0), some (.int (iZ i))] [] rfl rfl ?_
        refine g_iload_n 1 dX8_textAt_0 rfl rfl ?_
        refine g_ifZ_lt 10 4 dX8_textAt_1 rfl rfl ri (fun c8 => ?_) (fun c8 => ?_)
        · refine g_null 11 dX8_textAt_10 rfl ?_
          refine g_goto 20 dX8_textAt_11 rfl ?_
          refine g_aret rfl (Or.inl rfl) dX8_textAt_20 ?_
          refine rN ?_
          refine g_astoreN (L1 := [some (.ref 0), some (.int (iZ t)), some (.int (iZ i)), some (.ref (71 + 4 * t.toNat)), some (.null)]) 13 dX8_run_11 (by decide) rfl rfl rfl ?_
          refine g_aload_n 14 dX8_run_13 rfl rfl ?_
          refine g_ifnull 17 dX8_run_14 rfl ?_
          refine g_aloadN 19 dX8_run_17 rfl rfl ?_
          refine g_ifnonnullN 22 dX8_run_19 rfl ?_
          refine g_iconst (v := iZ (-1)) 23 dX8_run_22 rfl rfl ?_
          refine g_iret rfl dX8_run_23 ?_
          exact k _ (-1) (by decide) HS (Scr.refl _)
        · refine g_iload_n 5 dX8_textAt_4 rfl rfl ?_
          refine g_bipush (v := iZ (8)) 7 dX8_textAt_5 (by decide +kernel) rfl ?_
          refine g_icZ_lt 14 10 dX8_textAt_7 rfl rfl ri (by decide) (fun c9 => ?_) (fun c9 => ?_)
          · refine g_aload_n 15 dX8_textAt_14 rfl rfl ?_
            refine g_get 18 dX8_textAt_15 faX8_16_X8 F0 rfl rfl ?_
            refine g_iload_n 19 dX8_textAt_18 rfl rfl ?_
            refine g_aaldZ 20 dX8_textAt_19 F3 (by decide) (by omega) (by omega) (by decide) (txs_at (by omega) (by omega)) rfl ?_
            refine g_aret rfl (Or.inr ⟨_, rfl⟩) dX8_textAt_20 ?_
            refine rR ?_
            refine g_astore (L1 := [some (.ref 0), some (.int (iZ t)), some (.int (iZ i)), some (.ref (71 + 4 * t.toNat)), some (.ref (34 + 2 * i.toNat))]) 13 dX8_run_11 (by decide) rfl rfl rfl ?_
            refine g_aload_n 14 dX8_run_13 rfl rfl ?_
            refine g_ifnull 17 dX8_run_14 rfl ?_
            refine g_aload 19 dX8_run_17 rfl rfl ?_
            refine g_ifnonnull 24 dX8_run_19 rfl ?_
            refine g_aload_n 25 dX8_run_24 rfl rfl ?_
            refine g_get 28 dX8_run_25 faX8_46_X8 F0 rfl rfl ?_
            refine g_aload_n 29 dX8_run_28 rfl rfl ?_
            obtain ⟨M_10, n_10, hw_10, tx_10, bd_10, ck_10, f_10, g_10, hM_10, rn_10, rhw_10, rtx_10, rbd_10, rck_10, of_10, og_10, e0_10, e1_10, e2_10, e3_10⟩ := HL (t.toNat) (by omega)
            refine g_get 32 dX8_run_29 faX8_94_X7 e0_10 rfl rfl ?_
            refine g_aload 34 dX8_run_32 rfl rfl ?_
            obtain ⟨a_11, x_11, p_11, en_11, dn_11, tk_11, hm_11, on_11, mm_11, of_11, og_11, ra_11, rx_11, rp_11, ren_11, rdn_11, rtk_11, rhm_11, ron_11, omm_11, oof_11, oog_11, e0_11, e1_11, e2_11, e3_11, e4_11⟩ := SC.m (m := 15) (by decide) HS
            refine g_callV (z := mX2_goThrough) (As := [.ref (71 + 4 * t.toNat + 1), .ref (34 + 2 * i.toNat)]) 37 dX8_run_34 mwX2_goThrough ⟨by decide, by decide⟩ rfl wlX8_129 wiX2_goThrough wsX2_goThrough e0_11 rfl rfl rfl (nle rfl) (nle rfl) rfl ?_
            obtain ⟨t0_12, t1_12, t2_12, t3_12, t4_12⟩ := HT (i.toNat) (by omega)
            refine sc_go (M := M_10) (by decide) HS e1_10 e2_10 e3_10 of_10 og_10 rn_10 (by omega) (by omega) t0_12 t1_12 (okb_okr t4_12) (by omega) (by omega) (fun h13 H15 s16 => ?_)
            refine rV ?_
            refine g_aload_n 38 dX8_run_37 rfl rfl ?_
            have f17 := (s16.get (by omega) F0)
            refine g_get 41 dX8_run_38 faX8_46_X8 f17 rfl rfl ?_
            obtain ⟨a_18, x_18, p_18, en_18, dn_18, tk_18, hm_18, on_18, mm_18, of_18, og_18, ra_18, rx_18, rp_18, ren_18, rdn_18, rtk_18, rhm_18, ron_18, omm_18, oof_18, oog_18, e0_18, e1_18, e2_18, e3_18, e4_18⟩ := SC.m (m := 15) (by decide) H15
            refine g_get 44 dX8_run_41 faX8_133_X2 e0_18 rfl rfl ?_
            refine g_ifZ_ne 60 47 dX8_run_44 rfl rfl rhm_18 (fun c19 => ?_) (fun c19 => ?_)
            · refine g_bipush (v := iZ (-10)) 62 dX8_run_60 (by decide +kernel) rfl ?_
              refine g_aload_n 63 dX8_run_62 rfl rfl ?_
              refine g_get 66 dX8_run_63 faX8_46_X8 f17 rfl rfl ?_
              refine g_get 69 dX8_run_66 faX8_133_X2 e0_18 rfl rfl ?_
              refine g_isub 70 dX8_run_69 rfl ?_
              refine Go.genZ (fun z20 rz20 => ?_)
              refine g_iret rfl dX8_run_70 ?_
              exact k _ (z20) rz20 H15 s16
            · refine g_aload_n 48 dX8_run_47 rfl rfl ?_
              refine g_get 51 dX8_run_48 faX8_46_X8 f17 rfl rfl ?_
              refine g_get 54 dX8_run_51 faX8_102_X2 e0_18 rfl rfl ?_
              refine g_get 57 dX8_run_54 faX8_109_X0 e2_18 rfl rfl ?_
              refine g_goto 70 dX8_run_57 rfl ?_
              refine g_iret rfl dX8_run_70 ?_
              exact k _ (on_18) ron_18 H15 s16
          · refine g_null 11 dX8_textAt_10 rfl ?_
            refine g_goto 20 dX8_textAt_11 rfl ?_
            refine g_aret rfl (Or.inl rfl) dX8_textAt_20 ?_
            refine rN ?_
            refine g_astoreN (L1 := [some (.ref 0), some (.int (iZ t)), some (.int (iZ i)), some (.ref (71 + 4 * t.toNat)), some (.null)]) 13 dX8_run_11 (by decide) rfl rfl rfl ?_
            refine g_aload_n 14 dX8_run_13 rfl rfl ?_
            refine g_ifnull 17 dX8_run_14 rfl ?_
            refine g_aloadN 19 dX8_run_17 rfl rfl ?_
            refine g_ifnonnullN 22 dX8_run_19 rfl ?_
            refine g_iconst (v := iZ (-1)) 23 dX8_run_22 rfl rfl ?_
            refine g_iret rfl dX8_run_23 ?_
            exact k _ (-1) (by decide) HS (Scr.refl _)
      · refine g_null 19 dX8_toolAt_18 rfl ?_
        refine g_goto 28 dX8_toolAt_19 rfl ?_
        refine g_aret rfl (Or.inl rfl) dX8_toolAt_28 ?_
        refine rN ?_
        refine g_astore_nN (L1 := [some (.ref 0), some (.int (iZ t)), some (.int (iZ i)), some (.null), none]) 6 dX8_run_5 (by decide) rfl rfl rfl ?_
        refine g_aload_n 7 dX8_run_6 rfl rfl ?_
        refine g_iload_n 8 dX8_run_7 rfl rfl ?_
        refine g_callV (z := mX8_textAt) (As := [.int (iZ i)]) 11 dX8_run_8 mwX8_textAt ⟨by decide, by decide⟩ rfl wlX8_74 wiX8_textAt wsX8_textAt F0 rfl rfl rfl (nle rfl) (nle rfl) rfl ?_
        refine Go.to [some (.ref 0), some (.int (iZ i))] [] rfl rfl ?_
        refine g_iload_n 1 dX8_textAt_0 rfl rfl ?_
        refine g_ifZ_lt 10 4 dX8_textAt_1 rfl rfl ri (fun c21 => ?_) (fun c21 => ?_)
        · refine g_null 11 dX8_textAt_10 rfl ?_
          refine g_goto 20 dX8_textAt_11 rfl ?_
          refine g_aret rfl (Or.inl rfl) dX8_textAt_20 ?_
          refine rN ?_
          refine g_astoreN (L1 := [some (.ref 0), some (.int (iZ t)), some (.int (iZ i)), some (.null), some (.null)]) 13 dX8_run_11 (by decide) rfl rfl rfl ?_
          refine g_aload_nN 14 dX8_run_13 rfl rfl ?_
          refine g_ifnullN 22 dX8_run_14 rfl ?_
          refine g_iconst (v := iZ (-1)) 23 dX8_run_22 rfl rfl ?_
          refine g_iret rfl dX8_run_23 ?_
          exact k _ (-1) (by decide) HS (Scr.refl _)
        · refine g_iload_n 5 dX8_textAt_4 rfl rfl ?_
          refine g_bipush (v := iZ (8)) 7 dX8_textAt_5 (by decide +kernel) rfl ?_
          refine g_icZ_lt 14 10 dX8_textAt_7 rfl rfl ri (by decide) (fun c22 => ?_) (fun c22 => ?_)
          · refine g_aload_n 15 dX8_textAt_14 rfl rfl ?_
            refine g_get 18 dX8_textAt_15 faX8_16_X8 F0 rfl rfl ?_
            refine g_iload_n 19 dX8_textAt_18 rfl rfl ?_
            refine g_aaldZ 20 dX8_textAt_19 F3 (by decide) (by omega) (by omega) (by decide) (txs_at (by omega) (by omega)) rfl ?_
            refine g_aret rfl (Or.inr ⟨_, rfl⟩) dX8_textAt_20 ?_
            refine rR ?_
            refine g_astore (L1 := [some (.ref 0), some (.int (iZ t)), some (.int (iZ i)), some (.null), some (.ref (34 + 2 * i.toNat))]) 13 dX8_run_11 (by decide) rfl rfl rfl ?_
            refine g_aload_nN 14 dX8_run_13 rfl rfl ?_
            refine g_ifnullN 22 dX8_run_14 rfl ?_
            refine g_iconst (v := iZ (-1)) 23 dX8_run_22 rfl rfl ?_
            refine g_iret rfl dX8_run_23 ?_
            exact k _ (-1) (by decide) HS (Scr.refl _)
          · refine g_null 11 dX8_textAt_10 rfl ?_
            refine g_goto 20 dX8_textAt_11 rfl ?_
            refine g_aret rfl (Or.inl rfl) dX8_textAt_20 ?_
            refine rN ?_
            refine g_astoreN (L1 := [some (.ref 0), some (.int (iZ t)), some (.int (iZ i)), some (.null), some (.null)]) 13 dX8_run_11 (by decide) rfl rfl rfl ?_
            refine g_aload_nN 14 dX8_run_13 rfl rfl ?_
            refine g_ifnullN 22 dX8_run_14 rfl ?_
            refine g_iconst (v := iZ (-1)) 23 dX8_run_22 rfl rfl ?_
            refine g_iret rfl dX8_run_23 ?_
            exact k _ (-1) (by decide) HS (Scr.refl _)
set_option maxRecDepth 100000 in
theorem p_ran {l : Launch} {h : MH} {Q : Option Value → MH → Prop} {tc : Nat} {xn : Nat → Int} {xf : Nat → Nat → Int} {w : Int} (HC : CORE h tc xn xf) (HS : SC h) (rw : rg w)  (k : ∀ (h1 : MH) (r : Int), rg r → SC h1 → Scr h h1 → Q (some (.int (iZ r))) h1) : Go l mX8_ran 0 [some (.ref 0), some (.int (iZ w))] [] h Q := by
  obtain ⟨⟨tr, F0⟩, F3, F4, htc, HT, HL⟩ := id HC
  refine g_iload_n 1 dX8_ran_0 rfl rfl ?_
  by_cases c1 : w < 0 ∨ 5 < w
  · refine g_tabZO 91 dX8_ran_1 rw c1 rfl ?_
    refine g_iconst (v := iZ (-1)) 92 dX8_ran_91 rfl rfl ?_
    refine g_iret rfl dX8_ran_92 ?_
    exact k _ (-1) (by decide) HS (Scr.refl _)
  · have c2 : w = 0 ∨ w = 1 ∨ w = 2 ∨ w = 3 ∨ w = 4 ∨ w = 5 := by omega
    rcases c2 with c2 | c2 | c2 | c2 | c2 | c2
    · refine g_tabZI (0) 40 dX8_ran_1 rw c2 (by decide) (by decide) rfl rfl ?_
      refine g_aload_n 41 dX8_ran_40 rfl rfl ?_
      refine g_get 44 dX8_ran_41 faX8_46_X8 F0 rfl rfl ?_
      obtain ⟨a_3, x_3, p_3, en_3, dn_3, tk_3, hm_3, on_3, mm_3, of_3, og_3, ra_3, rx_3, rp_3, ren_3, rdn_3, rtk_3, rhm_3, ron_3, omm_3, oof_3, oog_3, e0_3, e1_3, e2_3, e3_3, e4_3⟩ := SC.m (m := 15) (by decide) HS
      refine g_get 47 dX8_ran_44 faX8_136_X2 e0_3 rfl rfl ?_
      refine g_iret rfl dX8_ran_47 ?_
      exact k _ (dn_3) rdn_3 HS (Scr.refl _)
    · refine g_tabZI (1) 48 dX8_ran_1 rw c2 (by decide) (by decide) rfl rfl ?_
      refine g_aload_n 49 dX8_ran_48 rfl rfl ?_
      refine g_get 52 dX8_ran_49 faX8_46_X8 F0 rfl rfl ?_
      obtain ⟨a_4, x_4, p_4, en_4, dn_4, tk_4, hm_4, on_4, mm_4, of_4, og_4, ra_4, rx_4, rp_4, ren_4, rdn_4, rtk_4, rhm_4, ron_4, omm_4, oof_4, oog_4, e0_4, e1_4, e2_4, e3_4, e4_4⟩ := SC.m (m := 15) (by decide) HS
      refine g_get 55 dX8_ran_52 faX8_139_X2 e0_4 rfl rfl ?_
      refine g_iret rfl dX8_ran_55 ?_
      exact k _ (tk_4) rtk_4 HS (Scr.refl _)
    · refine g_tabZI (2) 56 dX8_ran_1 rw c2 (by decide) (by decide) rfl rfl ?_
      refine g_aload_n 57 dX8_ran_56 rfl rfl ?_
      refine g_get 60 dX8_ran_57 faX8_46_X8 F0 rfl rfl ?_
      obtain ⟨a_5, x_5, p_5, en_5, dn_5, tk_5, hm_5, on_5, mm_5, of_5, og_5, ra_5, rx_5, rp_5, ren_5, rdn_5, rtk_5, rhm_5, ron_5, omm_5, oof_5, oog_5, e0_5, e1_5, e2_5, e3_5, e4_5⟩ := SC.m (m := 15) (by decide) HS
      refine g_get 63 dX8_ran_60 faX8_142_X2 e0_5 rfl rfl ?_
      refine g_iret rfl dX8_ran_63 ?_
      exact k _ (a_5) ra_5 HS (Scr.refl _)
    · refine g_tabZI (3) 64 dX8_ran_1 rw c2 (by decide) (by decide) rfl rfl ?_
      refine g_aload_n 65 dX8_ran_64 rfl rfl ?_
      refine g_get 68 dX8_ran_65 faX8_46_X8 F0 rfl rfl ?_
      obtain ⟨a_6, x_6, p_6, en_6, dn_6, tk_6, hm_6, on_6, mm_6, of_6, og_6, ra_6, rx_6, rp_6, ren_6, rdn_6, rtk_6, rhm_6, ron_6, omm_6, oof_6, oog_6, e0_6, e1_6, e2_6, e3_6, e4_6⟩ := SC.m (m := 15) (by decide) HS
      refine g_get 71 dX8_ran_68 faX8_145_X2 e0_6 rfl rfl ?_
      refine g_iret rfl dX8_ran_71 ?_
      exact k _ (x_6) rx_6 HS (Scr.refl _)
    · refine g_tabZI (4) 72 dX8_ran_1 rw c2 (by decide) (by decide) rfl rfl ?_
      refine g_aload_n 73 dX8_ran_72 rfl rfl ?_
      refine g_get 76 dX8_ran_73 faX8_46_X8 F0 rfl rfl ?_
      obtain ⟨a_7, x_7, p_7, en_7, dn_7, tk_7, hm_7, on_7, mm_7, of_7, og_7, ra_7, rx_7, rp_7, ren_7, rdn_7, rtk_7, rhm_7, ron_7, omm_7, oof_7, oog_7, e0_7, e1_7, e2_7, e3_7, e4_7⟩ := SC.m (m := 15) (by decide) HS
      refine g_get 79 dX8_ran_76 faX8_148_X2 e0_7 rfl rfl ?_
      refine g_iret rfl dX8_ran_79 ?_
      exact k _ (p_7) rp_7 HS (Scr.refl _)
    · refine g_tabZI (5) 80 dX8_ran_1 rw c2 (by decide) (by decide) rfl rfl ?_
      refine g_aload_n 81 dX8_ran_80 rfl rfl ?_
      refine g_get 84 dX8_ran_81 faX8_46_X8 F0 rfl rfl ?_
      obtain ⟨a_8, x_8, p_8, en_8, dn_8, tk_8, hm_8, on_8, mm_8, of_8, og_8, ra_8, rx_8, rp_8, ren_8, rdn_8, rtk_8, rhm_8, ron_8, omm_8, oof_8, oog_8, e0_8, e1_8, e2_8, e3_8, e4_8⟩ := SC.m (m := 15) (by decide) HS
      refine g_get 87 dX8_ran_84 faX8_102_X2 e0_8 rfl rfl ?_
      refine g_get 90 dX8_ran_87 faX8_109_X0 e2_8 rfl rfl ?_
      refine g_iret rfl dX8_ran_90 ?_
      exact k _ (on_8) ron_8 HS (Scr.refl _)
set_option maxRecDepth 100000 in
theorem p_tape {l : Launch} {h : MH} {Q : Option Value → MH → Prop} {tc : Nat} {xn : Nat → Int} {xf : Nat → Nat → Int} {a w : Int} (HC : CORE h tc xn xf) (HS : SC h) (ra : rg a) (rw : rg w)  (k : ∀ (h1 : MH) (r : Int), rg r → SC h1 → Scr h h1 → Q (some (.int (iZ r))) h1) : Go l mX8_tape 0 [some (.ref 0), some (.int (iZ a)), some (.int (iZ w))] [] h Q := by
  obtain ⟨⟨tr, F0⟩, F3, F4, htc, HT, HL⟩ := id HC
  refine g_iload_n 1 dX8_tape_0 rfl rfl ?_
  refine g_ifZ_ne 16 4 dX8_tape_1 rfl rfl rw (fun c1 => ?_) (fun c1 => ?_)
  · refine g_iload_n 17 dX8_tape_16 rfl rfl ?_
    refine g_iconst (v := iZ (1)) 18 dX8_tape_17 rfl rfl ?_
    refine g_icZ_ne 32 21 dX8_tape_18 rfl rfl rw (by decide) (fun c2 => ?_) (fun c2 => ?_)
    · refine g_iconst (v := iZ (-1)) 33 dX8_tape_32 rfl rfl ?_
      refine g_iret rfl dX8_tape_33 ?_
      exact k _ (-1) (by decide) HS (Scr.refl _)
    · refine g_aload_n 22 dX8_tape_21 rfl rfl ?_
      refine g_get 25 dX8_tape_22 faX8_46_X8 F0 rfl rfl ?_
      refine g_iload_n 26 dX8_tape_25 rfl rfl ?_
      obtain ⟨a_3, x_3, p_3, en_3, dn_3, tk_3, hm_3, on_3, mm_3, of_3, og_3, ra_3, rx_3, rp_3, ren_3, rdn_3, rtk_3, rhm_3, ron_3, omm_3, oof_3, oog_3, e0_3, e1_3, e2_3, e3_3, e4_3⟩ := SC.m (m := 15) (by decide) HS
      refine g_callV (z := mX2_memoryAt) (As := [.int (iZ a)]) 29 dX8_tape_26 mwX2_memoryAt ⟨by decide, by decide⟩ rfl wlX8_151 wiX2_memoryAt wsX2_memoryAt e0_3 rfl rfl rfl (nle rfl) (nle rfl) rfl ?_
      refine Go.to [some (.ref 15), some (.int (iZ a))] [] rfl rfl ?_
      refine g_iload_n 1 dX2_memoryAt_0 rfl rfl ?_
      refine g_ifZ_lt 11 4 dX2_memoryAt_1 rfl rfl ra (fun c4 => ?_) (fun c4 => ?_)
      · refine g_iconst (v := iZ (-1)) 12 dX2_memoryAt_11 rfl rfl ?_
        refine g_goto 21 dX2_memoryAt_12 rfl ?_
        refine g_iret rfl dX2_memoryAt_21 ?_
        refine rI ?_
        refine g_goto 33 dX8_tape_29 rfl ?_
        refine g_iret rfl dX8_tape_33 ?_
        exact k _ (-1) (by decide) HS (Scr.refl _)
      · refine g_iload_n 5 dX2_memoryAt_4 rfl rfl ?_
        refine g_sipush (v := iZ (256)) 8 dX2_memoryAt_5 (by decide +kernel) rfl ?_
        refine g_icZ_lt 15 11 dX2_memoryAt_8 rfl rfl ra (by decide) (fun c5 => ?_) (fun c5 => ?_)
        · refine g_aload_n 16 dX2_memoryAt_15 rfl rfl ?_
          refine g_get 19 dX2_memoryAt_16 faX2_9_X2 e0_3 rfl rfl ?_
          refine g_iload_n 20 dX2_memoryAt_19 rfl rfl ?_
          refine g_ialdW 21 dX2_memoryAt_20 e1_3 omm_3 (by omega) (by omega) (by decide) rfl (fun v6 rv6 => ?_)
          refine g_iret rfl dX2_memoryAt_21 ?_
          refine rI ?_
          refine g_goto 33 dX8_tape_29 rfl ?_
          refine g_iret rfl dX8_tape_33 ?_
          exact k _ (v6) rv6 HS (Scr.refl _)
        · refine g_iconst (v := iZ (-1)) 12 dX2_memoryAt_11 rfl rfl ?_
          refine g_goto 21 dX2_memoryAt_12 rfl ?_
          refine g_iret rfl dX2_memoryAt_21 ?_
          refine rI ?_
          refine g_goto 33 dX8_tape_29 rfl ?_
          refine g_iret rfl dX8_tape_33 ?_
          exact k _ (-1) (by decide) HS (Scr.refl _)
  · refine g_aload_n 5 dX8_tape_4 rfl rfl ?_
    refine g_get 8 dX8_tape_5 faX8_46_X8 F0 rfl rfl ?_
    obtain ⟨a_7, x_7, p_7, en_7, dn_7, tk_7, hm_7, on_7, mm_7, of_7, og_7, ra_7, rx_7, rp_7, ren_7, rdn_7, rtk_7, rhm_7, ron_7, omm_7, oof_7, oog_7, e0_7, e1_7, e2_7, e3_7, e4_7⟩ := SC.m (m := 15) (by decide) HS
    refine g_get 11 dX8_tape_8 faX8_102_X2 e0_7 rfl rfl ?_
    refine g_iload_n 12 dX8_tape_11 rfl rfl ?_
    refine g_callV (z := mX0_at) (As := [.int (iZ a)]) 15 dX8_tape_12 mwX0_at ⟨by decide, by decide⟩ rfl wlX8_125 wiX0_at wsX0_at e2_7 rfl rfl rfl (nle rfl) (nle rfl) rfl ?_
    refine w_cat (M := 256) e2_7 e3_7 e4_7 oof_7 oog_7 ron_7 ra (by decide) (fun z8 rz8 => ?_)
    refine rI ?_
    refine g_iret rfl dX8_tape_15 ?_
    exact k _ (z8) rz8 HS (Scr.refl _)
set_option maxRecDepth 100000 in
theorem p_rebuilt {l : Launch} {h : MH} {Q : Option Value → MH → Prop} {tc : Nat} {xn : Nat → Int} {xf : Nat → Nat → Int} {t : Int} (HC : CORE h tc xn xf) (HS : SC h) (rt : rg t)  (k : ∀ (h1 : MH) (r : Int), rg r → SC h1 → Scr h h1 → Q (some (.int (iZ r))) h1) : Go l mX8_rebuilt 0 [some (.ref 0), some (.int (iZ t)), none] [] h Q := by
  obtain ⟨⟨tr, F0⟩, F3, F4, htc, HT, HL⟩ := id HC
  refine g_aload_n 1 dX8_rebuilt_0 rfl rfl ?_
  refine g_iload_n 2 dX8_rebuilt_1 rfl rfl ?_
  refine g_callV (z := mX8_toolAt) (As := [.int (iZ t)]) 5 dX8_rebuilt_2 mwX8_toolAt ⟨by decide, by decide⟩ rfl wlX8_90 wiX8_toolAt wsX8_toolAt F0 rfl rfl rfl (nle rfl) (nle rfl) rfl ?_
  refine Go.to [some (.ref 0), some (.int (iZ t))] [] rfl rfl ?_
  refine g_iload_n 1 dX8_toolAt_0 rfl rfl ?_
  refine g_ifZ_lt 18 4 dX8_toolAt_1 rfl rfl rt (fun c1 => ?_) (fun c1 => ?_)
  · refine g_null 19 dX8_toolAt_18 rfl ?_
    refine g_goto 28 dX8_toolAt_19 rfl ?_
    refine g_aret rfl (Or.inl rfl) dX8_toolAt_28 ?_
    refine rN ?_
    refine g_astore_nN (L1 := [some (.ref 0), some (.int (iZ t)), some (.null)]) 6 dX8_rebuilt_5 (by decide) rfl rfl rfl ?_
    refine g_aload_nN 7 dX8_rebuilt_6 rfl rfl ?_
    refine g_ifnonnullN 10 dX8_rebuilt_7 rfl ?_
    refine g_iconst (v := iZ (-1)) 11 dX8_rebuilt_10 rfl rfl ?_
    refine g_goto 19 dX8_rebuilt_11 rfl ?_
    refine g_iret rfl dX8_rebuilt_19 ?_
    exact k _ (-1) (by decide) HS (Scr.refl _)
  · refine g_iload_n 5 dX8_toolAt_4 rfl rfl ?_
    refine g_aload_n 6 dX8_toolAt_5 rfl rfl ?_
    refine g_get 9 dX8_toolAt_6 faX8_26_X8 F0 rfl rfl ?_
    refine g_icZ_ge 18 12 dX8_toolAt_9 rfl rfl rt (by omega) (fun c2 => ?_) (fun c2 => ?_)
    · refine g_null 19 dX8_toolAt_18 rfl ?_
      refine g_goto 28 dX8_toolAt_19 rfl ?_
      refine g_aret rfl (Or.inl rfl) dX8_toolAt_28 ?_
      refine rN ?_
      refine g_astore_nN (L1 := [some (.ref 0), some (.int (iZ t)), some (.null)]) 6 dX8_rebuilt_5 (by decide) rfl rfl rfl ?_
      refine g_aload_nN 7 dX8_rebuilt_6 rfl rfl ?_
      refine g_ifnonnullN 10 dX8_rebuilt_7 rfl ?_
      refine g_iconst (v := iZ (-1)) 11 dX8_rebuilt_10 rfl rfl ?_
      refine g_goto 19 dX8_rebuilt_11 rfl ?_
      refine g_iret rfl dX8_rebuilt_19 ?_
      exact k _ (-1) (by decide) HS (Scr.refl _)
    · refine g_iload_n 13 dX8_toolAt_12 rfl rfl ?_
      refine g_bipush (v := iZ (12)) 15 dX8_toolAt_13 (by decide +kernel) rfl ?_
      refine g_icZ_lt 22 18 dX8_toolAt_15 rfl rfl rt (by decide) (fun c3 => ?_) (fun c3 => ?_)
      · refine g_aload_n 23 dX8_toolAt_22 rfl rfl ?_
        refine g_get 26 dX8_toolAt_23 faX8_22_X8 F0 rfl rfl ?_
        refine g_iload_n 27 dX8_toolAt_26 rfl rfl ?_
        refine g_aaldZ 28 dX8_toolAt_27 F4 (by decide) (by omega) (by omega) (by decide) (tls_at (by omega) (by omega)) rfl ?_
        refine g_aret rfl (Or.inr ⟨_, rfl⟩) dX8_toolAt_28 ?_
        refine rR ?_
        refine g_astore_n (L1 := [some (.ref 0), some (.int (iZ t)), some (.ref (71 + 4 * t.toNat))]) 6 dX8_rebuilt_5 (by decide) rfl rfl rfl ?_
        refine g_aload_n 7 dX8_rebuilt_6 rfl rfl ?_
        refine g_ifnonnull 14 dX8_rebuilt_7 rfl ?_
        refine g_aload_n 15 dX8_rebuilt_14 rfl rfl ?_
        refine g_aload_n 16 dX8_rebuilt_15 rfl rfl ?_
        refine g_callV (z := mX8_madeAgain) (As := [.ref (71 + 4 * t.toNat)]) 19 dX8_rebuilt_16 mwX8_madeAgain ⟨by decide, by decide⟩ rfl wlX8_154 wiX8_madeAgain wsX8_madeAgain F0 rfl rfl rfl (nle rfl) (nle rfl) rfl ?_
        refine w_again HC HS  (by omega) (fun h5 z4 rz4 H6 s7 => ?_)
        refine rI ?_
        refine g_iret rfl dX8_rebuilt_19 ?_
        exact k _ (z4) rz4 H6 s7
      · refine g_null 19 dX8_toolAt_18 rfl ?_
        refine g_goto 28 dX8_toolAt_19 rfl ?_
        refine g_aret rfl (Or.inl rfl) dX8_toolAt_28 ?_
        refine rN ?_
        refine g_astore_nN (L1 := [some (.ref 0), some (.int (iZ t)), some (.null)]) 6 dX8_rebuilt_5 (by decide) rfl rfl rfl ?_
        refine g_aload_nN 7 dX8_rebuilt_6 rfl rfl ?_
        refine g_ifnonnullN 10 dX8_rebuilt_7 rfl ?_
        refine g_iconst (v := iZ (-1)) 11 dX8_rebuilt_10 rfl rfl ?_
        refine g_goto 19 dX8_rebuilt_11 rfl ?_
        refine g_iret rfl dX8_rebuilt_19 ?_
        exact k _ (-1) (by decide) HS (Scr.refl _)
set_option maxRecDepth 100000 in
theorem p_stale {l : Launch} {h : MH} {Q : Option Value → MH → Prop} {tc : Nat} {xn : Nat → Int} {xf : Nat → Nat → Int}  (HC : CORE h tc xn xf) (HS : SC h)   (k : ∀ (h1 : MH) (r : Int), rg r → SC h1 → Scr h h1 → Q (some (.int (iZ r))) h1) : Go l mX8_stale 0 [some (.ref 0)] [] h Q := by
  obtain ⟨⟨tr, F0⟩, F3, F4, htc, HT, HL⟩ := id HC
  refine g_aload_n 1 dX8_stale_0 rfl rfl ?_
  refine g_callV (z := mX8_staleBits) (As := []) 4 dX8_stale_1 mwX8_staleBits ⟨by decide, by decide⟩ rfl wlX8_158 wiX8_staleBits wsX8_staleBits F0 rfl rfl rfl (nle rfl) (nle rfl) rfl ?_
  refine w_stale HC HS   (fun h2 z1 rz1 H3 s4 => ?_)
  refine rI ?_
  refine g_iret rfl dX8_stale_4 ?_
  exact k _ (z1) rz1 H3 s4
set_option maxRecDepth 100000 in
theorem p_settles {l : Launch} {h : MH} {Q : Option Value → MH → Prop} {tc : Nat} {xn : Nat → Int} {xf : Nat → Nat → Int} {t i : Int} (HC : CORE h tc xn xf) (HS : SC h) (rt : rg t) (ri : rg i)  (k : ∀ (h1 : MH) (r : Int), rg r → SC h1 → Scr h h1 → Q (some (.int (iZ r))) h1) : Go l mX8_settles 0 [some (.ref 0), some (.int (iZ t)), some (.int (iZ i)), none, none, none, none, none] [] h Q := by
  obtain ⟨⟨tr, F0⟩, F3, F4, htc, HT, HL⟩ := id HC
  refine g_aload_n 1 dX8_settles_0 rfl rfl ?_
  refine g_iload_n 2 dX8_settles_1 rfl rfl ?_
  refine g_callV (z := mX8_toolAt) (As := [.int (iZ t)]) 5 dX8_settles_2 mwX8_toolAt ⟨by decide, by decide⟩ rfl wlX8_90 wiX8_toolAt wsX8_toolAt F0 rfl rfl rfl (nle rfl) (nle rfl) rfl ?_
  refine Go.to [some (.ref 0), some (.int (iZ t))] [] rfl rfl ?_
  refine g_iload_n 1 dX8_toolAt_0 rfl rfl ?_
  refine g_ifZ_lt 18 4 dX8_toolAt_1 rfl rfl rt (fun c1 => ?_) (fun c1 => ?_)
  · refine g_null 19 dX8_toolAt_18 rfl ?_
    refine g_goto 28 dX8_toolAt_19 rfl ?_
    refine g_aret rfl (Or.inl rfl) dX8_toolAt_28 ?_
    refine rN ?_
    refine g_astore_nN (L1 := [some (.ref 0), some (.int (iZ t)), some (.int (iZ i)), some (.null), none, none, none, none]) 6 dX8_settles_5 (by decide) rfl rfl rfl ?_
    refine g_aload_n 7 dX8_settles_6 rfl rfl ?_
    refine g_iload_n 8 dX8_settles_7 rfl rfl ?_
    refine g_callV (z := mX8_textAt) (As := [.int (iZ i)]) 11 dX8_settles_8 mwX8_textAt ⟨by decide, by decide⟩ rfl wlX8_74 wiX8_textAt wsX8_textAt F0 rfl rfl rfl (nle rfl) (nle rfl) rfl ?_
    refine Go.to [some (.ref 0), some (.int (iZ i))] [] rfl rfl ?_
    refine g_iload_n 1 dX8_textAt_0 rfl rfl ?_
    refine g_ifZ_lt 10 4 dX8_textAt_1 rfl rfl ri (fun c2 => ?_) (fun c2 => ?_)
    · refine g_null 11 dX8_textAt_10 rfl ?_
      refine g_goto 20 dX8_textAt_11 rfl ?_
      refine g_aret rfl (Or.inl rfl) dX8_textAt_20 ?_
      refine rN ?_
      refine g_astoreN (L1 := [some (.ref 0), some (.int (iZ t)), some (.int (iZ i)), some (.null), some (.null), none, none, none]) 13 dX8_settles_11 (by decide) rfl rfl rfl ?_
      refine g_aload_nN 14 dX8_settles_13 rfl rfl ?_
      refine g_ifnullN 22 dX8_settles_14 rfl ?_
      refine g_iconst (v := iZ (-1)) 23 dX8_settles_22 rfl rfl ?_
      refine g_iret rfl dX8_settles_23 ?_
      exact k _ (-1) (by decide) HS (Scr.refl _)
    · refine g_iload_n 5 dX8_textAt_4 rfl rfl ?_
      refine g_bipush (v := iZ (8)) 7 dX8_textAt_5 (by decide +kernel) rfl ?_
      refine g_icZ_lt 14 10 dX8_textAt_7 rfl rfl ri (by decide) (fun c3 => ?_) (fun c3 => ?_)
      · refine g_aload_n 15 dX8_textAt_14 rfl rfl ?_
        refine g_get 18 dX8_textAt_15 faX8_16_X8 F0 rfl rfl ?_
        refine g_iload_n 19 dX8_textAt_18 rfl rfl ?_
        refine g_aaldZ 20 dX8_textAt_19 F3 (by decide) (by omega) (by omega) (by decide) (txs_at (by omega) (by omega)) rfl ?_
        refine g_aret rfl (Or.inr ⟨_, rfl⟩) dX8_textAt_20 ?_
        refine rR ?_
        refine g_astore (L1 := [some (.ref 0), some (.int (iZ t)), some (.int (iZ i)), some (.null), some (.ref (34 + 2 * i.toNat)), none, none, none]) 13 dX8_settles_11 (by decide) rfl rfl rfl ?_
        refine g_aload_nN 14 dX8_settles_13 rfl rfl ?_
        refine g_ifnullN 22 dX8_settles_14 rfl ?_
        refine g_iconst (v := iZ (-1)) 23 dX8_settles_22 rfl rfl ?_
        refine g_iret rfl dX8_settles_23 ?_
        exact k _ (-1) (by decide) HS (Scr.refl _)
      · refine g_null 11 dX8_textAt_10 rfl ?_
        refine g_goto 20 dX8_textAt_11 rfl ?_
        refine g_aret rfl (Or.inl rfl) dX8_textAt_20 ?_
        refine rN ?_
        refine g_astoreN (L1 := [some (.ref 0), some (.int (iZ t)), some (.int (iZ i)), some (.null), some (.null), none, none, none]) 13 dX8_settles_11 (by decide) rfl rfl rfl ?_
        refine g_aload_nN 14 dX8_settles_13 rfl rfl ?_
        refine g_ifnullN 22 dX8_settles_14 rfl ?_
        refine g_iconst (v := iZ (-1)) 23 dX8_settles_22 rfl rfl ?_
        refine g_iret rfl dX8_settles_23 ?_
        exact k _ (-1) (by decide) HS (Scr.refl _)
  · refine g_iload_n 5 dX8_toolAt_4 rfl rfl ?_
    refine g_aload_n 6 dX8_toolAt_5 rfl rfl ?_
    refine g_get 9 dX8_toolAt_6 faX8_26_X8 F0 rfl rfl ?_
    refine g_icZ_ge 18 12 dX8_toolAt_9 rfl rfl rt (by omega) (fun c4 => ?_) (fun c4 => ?_)
    · refine g_null 19 dX8_toolAt_18 rfl ?_
      refine g_goto 28 dX8_toolAt_19 rfl ?_
      refine g_aret rfl (Or.inl rfl) dX8_toolAt_28 ?_
      refine rN ?_
      refine g_astore_nN (L1 := [some (.ref 0), some (.int (iZ t)), some (.int (iZ i)), some (.null), none, none, none, none]) 6 dX8_settles_5 (by decide) rfl rfl rfl ?_
      refine g_aload_n 7 dX8_settles_6 rfl rfl ?_
      refine g_iload_n 8 dX8_settles_7 rfl rfl ?_
      refine g_callV (z := mX8_textAt) (As := [.int (iZ i)]) 11 dX8_settles_8 mwX8_textAt ⟨by decide, by decide⟩ rfl wlX8_74 wiX8_textAt wsX8_textAt F0 rfl rfl rfl (nle rfl) (nle rfl) rfl ?_
      refine Go.to [some (.ref 0), some (.int (iZ i))] [] rfl rfl ?_
      refine g_iload_n 1 dX8_textAt_0 rfl rfl ?_
      refine g_ifZ_lt 10 4 dX8_textAt_1 rfl rfl ri (fun c5 => ?_) (fun c5 => ?_)
      · refine g_null 11 dX8_textAt_10 rfl ?_
        refine g_goto 20 dX8_textAt_11 rfl ?_
        refine g_aret rfl (Or.inl rfl) dX8_textAt_20 ?_
        refine rN ?_
        refine g_astoreN (L1 := [some (.ref 0), some (.int (iZ t)), some (.int (iZ i)), some (.null), some (.null), none, none, none]) 13 dX8_settles_11 (by decide) rfl rfl rfl ?_
        refine g_aload_nN 14 dX8_settles_13 rfl rfl ?_
        refine g_ifnullN 22 dX8_settles_14 rfl ?_
        refine g_iconst (v := iZ (-1)) 23 dX8_settles_22 rfl rfl ?_
        refine g_iret rfl dX8_settles_23 ?_
        exact k _ (-1) (by decide) HS (Scr.refl _)
      · refine g_iload_n 5 dX8_textAt_4 rfl rfl ?_
        refine g_bipush (v := iZ (8)) 7 dX8_textAt_5 (by decide +kernel) rfl ?_
        refine g_icZ_lt 14 10 dX8_textAt_7 rfl rfl ri (by decide) (fun c6 => ?_) (fun c6 => ?_)
        · refine g_aload_n 15 dX8_textAt_14 rfl rfl ?_
          refine g_get 18 dX8_textAt_15 faX8_16_X8 F0 rfl rfl ?_
          refine g_iload_n 19 dX8_textAt_18 rfl rfl ?_
          refine g_aaldZ 20 dX8_textAt_19 F3 (by decide) (by omega) (by omega) (by decide) (txs_at (by omega) (by omega)) rfl ?_
          refine g_aret rfl (Or.inr ⟨_, rfl⟩) dX8_textAt_20 ?_
          refine rR ?_
          refine g_astore (L1 := [some (.ref 0), some (.int (iZ t)), some (.int (iZ i)), some (.null), some (.ref (34 + 2 * i.toNat)), none, none, none]) 13 dX8_settles_11 (by decide) rfl rfl rfl ?_
          refine g_aload_nN 14 dX8_settles_13 rfl rfl ?_
          refine g_ifnullN 22 dX8_settles_14 rfl ?_
          refine g_iconst (v := iZ (-1)) 23 dX8_settles_22 rfl rfl ?_
          refine g_iret rfl dX8_settles_23 ?_
          exact k _ (-1) (by decide) HS (Scr.refl _)
        · refine g_null 11 dX8_textAt_10 rfl ?_
          refine g_goto 20 dX8_textAt_11 rfl ?_
          refine g_aret rfl (Or.inl rfl) dX8_textAt_20 ?_
          refine rN ?_
          refine g_astoreN (L1 := [some (.ref 0), some (.int (iZ t)), some (.int (iZ i)), some (.null), some (.null), none, none, none]) 13 dX8_settles_11 (by decide) rfl rfl rfl ?_
          refine g_aload_nN 14 dX8_settles_13 rfl rfl ?_
          refine g_ifnullN 22 dX8_settles_14 rfl ?_
          refine g_iconst (v := iZ (-1)) 23 dX8_settles_22 rfl rfl ?_
          refine g_iret rfl dX8_settles_23 ?_
          exact k _ (-1) (by decide) HS (Scr.refl _)
    · refine g_iload_n 13 dX8_toolAt_12 rfl rfl ?_
      refine g_bipush (v := iZ (12)) 15 dX8_toolAt_13 (by decide +kernel) rfl ?_
      refine g_icZ_lt 22 18 dX8_toolAt_15 rfl rfl rt (by decide) (fun c7 => ?_) (fun c7 => ?_)
      · refine g_aload_n 23 dX8_toolAt_22 rfl rfl ?_
        refine g_get 26 dX8_toolAt_23 faX8_22_X8 F0 rfl rfl ?_
        refine g_iload_n 27 dX8_toolAt_26 rfl rfl ?_
        refine g_aaldZ 28 dX8_toolAt_27 F4 (by decide) (by omega) (by omega) (by decide) (tls_at (by omega) (by omega)) rfl ?_
        refine g_aret rfl (Or.inr ⟨_, rfl⟩) dX8_toolAt_28 ?_
        refine rR ?_
        refine g_astore_n (L1 := [some (.ref 0), some (.int (iZ t)), some (.int (iZ i)), some (.ref (71 + 4 * t.toNat)), none, none, none, none]) 6 dX8_settles_5 (by decide) rfl rfl rfl ?_
        refine g_aload_n 7 dX8_settles_6 rfl rfl ?_
        refine g_iload_n 8 dX8_settles_7 rfl rfl ?_
        refine g_callV (z := mX8_textAt) (As := [.int (iZ i)]) 11 dX8_settles_8 mwX8_textAt ⟨by decide, by decide⟩ rfl wlX8_74 wiX8_textAt wsX8_textAt F0 rfl rfl rfl (nle rfl) (nle rfl) rfl ?_
        refine Go.to [some (.ref 0), some (.int (iZ i))] [] rfl rfl ?_
        refine g_iload_n 1 dX8_textAt_0 rfl rfl ?_
        refine g_ifZ_lt 10 4 dX8_textAt_1 rfl rfl ri (fun c8 => ?_) (fun c8 => ?_)
        · refine g_null 11 dX8_textAt_10 rfl ?_
          refine g_goto 20 dX8_textAt_11 rfl ?_
          refine g_aret rfl (Or.inl rfl) dX8_textAt_20 ?_
          refine rN ?_
          refine g_astoreN (L1 := [some (.ref 0), some (.int (iZ t)), some (.int (iZ i)), some (.ref (71 + 4 * t.toNat)), some (.null), none, none, none]) 13 dX8_settles_11 (by decide) rfl rfl rfl ?_
          refine g_aload_n 14 dX8_settles_13 rfl rfl ?_
          refine g_ifnull 17 dX8_settles_14 rfl ?_
          refine g_aloadN 19 dX8_settles_17 rfl rfl ?_
          refine g_ifnonnullN 22 dX8_settles_19 rfl ?_
          refine g_iconst (v := iZ (-1)) 23 dX8_settles_22 rfl rfl ?_
          refine g_iret rfl dX8_settles_23 ?_
          exact k _ (-1) (by decide) HS (Scr.refl _)
        · refine g_iload_n 5 dX8_textAt_4 rfl rfl ?_
          refine g_bipush (v := iZ (8)) 7 dX8_textAt_5 (by decide +kernel) rfl ?_
          refine g_icZ_lt 14 10 dX8_textAt_7 rfl rfl ri (by decide) (fun c9 => ?_) (fun c9 => ?_)
          · refine g_aload_n 15 dX8_textAt_14 rfl rfl ?_
            refine g_get 18 dX8_textAt_15 faX8_16_X8 F0 rfl rfl ?_
            refine g_iload_n 19 dX8_textAt_18 rfl rfl ?_
            refine g_aaldZ 20 dX8_textAt_19 F3 (by decide) (by omega) (by omega) (by decide) (txs_at (by omega) (by omega)) rfl ?_
            refine g_aret rfl (Or.inr ⟨_, rfl⟩) dX8_textAt_20 ?_
            refine rR ?_
            refine g_astore (L1 := [some (.ref 0), some (.int (iZ t)), some (.int (iZ i)), some (.ref (71 + 4 * t.toNat)), some (.ref (34 + 2 * i.toNat)), none, none, none]) 13 dX8_settles_11 (by decide) rfl rfl rfl ?_
            refine g_aload_n 14 dX8_settles_13 rfl rfl ?_
            refine g_ifnull 17 dX8_settles_14 rfl ?_
            refine g_aload 19 dX8_settles_17 rfl rfl ?_
            refine g_ifnonnull 24 dX8_settles_19 rfl ?_
            refine g_aload_n 25 dX8_settles_24 rfl rfl ?_
            obtain ⟨M_10, n_10, hw_10, tx_10, bd_10, ck_10, f_10, g_10, hM_10, rn_10, rhw_10, rtx_10, rbd_10, rck_10, of_10, og_10, e0_10, e1_10, e2_10, e3_10⟩ := HL (t.toNat) (by omega)
            refine g_get 28 dX8_settles_25 faX8_94_X7 e0_10 rfl rfl ?_
            refine g_astore (L1 := [some (.ref 0), some (.int (iZ t)), some (.int (iZ i)), some (.ref (71 + 4 * t.toNat)), some (.ref (34 + 2 * i.toNat)), some (.ref (71 + 4 * t.toNat + 1)), none, none]) 30 dX8_settles_28 (by decide) rfl rfl rfl ?_
            refine g_iconst (v := iZ (1)) 31 dX8_settles_30 rfl rfl ?_
            refine g_istore (L1 := [some (.ref 0), some (.int (iZ t)), some (.int (iZ i)), some (.ref (71 + 4 * t.toNat)), some (.ref (34 + 2 * i.toNat)), some (.ref (71 + 4 * t.toNat + 1)), some (.int (iZ 1)), none]) 33 dX8_settles_31 (by decide) rfl rfl rfl ?_
            refine g_iload 35 dX8_settles_33 rfl rfl ?_
            refine g_bipush (v := iZ (6)) 37 dX8_settles_35 (by decide +kernel) rfl ?_
            refine g_icZ_gt 105 40 dX8_settles_37 rfl rfl (by decide) (by decide) (fun q => absurd q (by decide)) (fun _ => ?_)
            refine g_iload 42 dX8_settles_40 rfl rfl ?_
            refine g_iconst (v := iZ (2)) 43 dX8_settles_42 rfl rfl ?_
            refine g_irem 44 dX8_settles_43 (by decide +kernel) rfl ?_
            refine Go.eqI (iZ (1)) (by decide +kernel) ?_
            refine g_iconst (v := iZ (1)) 45 dX8_settles_44 rfl rfl ?_
            refine g_icZ_ne 55 48 dX8_settles_45 rfl rfl (by decide) (by decide) (fun q => absurd q (by decide)) (fun _ => ?_)
            refine g_aload_n 49 dX8_settles_48 rfl rfl ?_
            refine g_get 52 dX8_settles_49 faX8_50_X8 F0 rfl rfl ?_
            refine g_goto 59 dX8_settles_52 rfl ?_
            refine g_astore (L1 := [some (.ref 0), some (.int (iZ t)), some (.int (iZ i)), some (.ref (71 + 4 * t.toNat)), some (.ref (34 + 2 * i.toNat)), some (.ref (71 + 4 * t.toNat + 1)), some (.int (iZ 1)), some (.ref 20)]) 61 dX8_settles_59 (by decide) rfl rfl rfl ?_
            refine g_aload 63 dX8_settles_61 rfl rfl ?_
            refine g_aload 65 dX8_settles_63 rfl rfl ?_
            refine g_aload 67 dX8_settles_65 rfl rfl ?_
            obtain ⟨a_11, x_11, p_11, en_11, dn_11, tk_11, hm_11, on_11, mm_11, of_11, og_11, ra_11, rx_11, rp_11, ren_11, rdn_11, rtk_11, rhm_11, ron_11, omm_11, oof_11, oog_11, e0_11, e1_11, e2_11, e3_11, e4_11⟩ := SC.m (m := 20) (by decide) HS
            refine g_callV (z := mX2_builds) (As := [.ref (71 + 4 * t.toNat + 1), .ref (34 + 2 * i.toNat)]) 70 dX8_settles_67 mwX2_builds ⟨by decide, by decide⟩ rfl wlX8_98 wiX2_builds wsX2_builds e0_11 rfl rfl rfl (nle rfl) (nle rfl) rfl ?_
            obtain ⟨t0_12, t1_12, t2_12, t3_12, t4_12⟩ := HT (i.toNat) (by omega)
            refine sc_bl (M := M_10) (by decide) HS e1_10 e2_10 e3_10 of_10 og_10 rn_10 (by omega) (by omega) t0_12 t1_12 (okb_okr t4_12) (by omega) (by omega) (fun h13 z14 rz14 H15 s16 => ?_)
            refine rI ?_
            refine g_ifZ_ne 76 73 dX8_settles_70 rfl rfl (rg01 rz14) (fun c17 => ?_) (fun c17 => ?_)
            · refine g_aload 78 dX8_settles_76 rfl rfl ?_
              refine g_aload 80 dX8_settles_78 rfl rfl ?_
              obtain ⟨a_18, x_18, p_18, en_18, dn_18, tk_18, hm_18, on_18, mm_18, of_18, og_18, ra_18, rx_18, rp_18, ren_18, rdn_18, rtk_18, rhm_18, ron_18, omm_18, oof_18, oog_18, e0_18, e1_18, e2_18, e3_18, e4_18⟩ := SC.m (m := 20) (by decide) H15
              refine g_get 83 dX8_settles_80 faX8_102_X2 e0_18 rfl rfl ?_
              have f19 := (s16.get (by omega) e1_10)
              refine g_callV (z := mX0_unlike) (As := [.ref 22]) 86 dX8_settles_83 mwX0_unlike ⟨by decide, by decide⟩ rfl wlX8_162 wiX0_unlike wsX0_unlike f19 rfl rfl rfl (nle rfl) (nle rfl) rfl ?_
              have f20 := (s16.get (by omega) e2_10)
              have f21 := (s16.get (by omega) e3_10)
              refine w_unl (M := M_10) (N := 256) f19 f20 f21 e2_18 e3_18 e4_18 of_10 og_10 oof_18 oog_18 rn_10 ron_18 (by omega) (by decide) (fun z22 rz22 => ?_)
              refine rI ?_
              refine g_ifZ_ne 92 89 dX8_settles_86 rfl rfl rz22 (fun c23 => ?_) (fun c23 => ?_)
              · refine g_aload 94 dX8_settles_92 rfl rfl ?_
                refine g_get 97 dX8_settles_94 faX8_102_X2 e0_18 rfl rfl ?_
                refine g_astore (L1 := [some (.ref 0), some (.int (iZ t)), some (.int (iZ i)), some (.ref (71 + 4 * t.toNat)), some (.ref (34 + 2 * i.toNat)), some (.ref 22), some (.int (iZ 1)), some (.ref 20)]) 99 dX8_settles_97 (by decide) rfl rfl rfl ?_
                refine g_iincZ [some (.ref 0), some (.int (iZ t)), some (.int (iZ i)), some (.ref (71 + 4 * t.toNat)), some (.ref (34 + 2 * i.toNat)), some (.ref 22), some (.int (iZ 2)), some (.ref 20)] 102 dX8_settles_99 rfl rfl (by decide) rfl rfl rfl ?_
                refine g_goto 33 dX8_settles_102 rfl ?_
                refine g_iload 35 dX8_settles_33 rfl rfl ?_
                refine g_bipush (v := iZ (6)) 37 dX8_settles_35 (by decide +kernel) rfl ?_
                refine g_icZ_gt 105 40 dX8_settles_37 rfl rfl (by decide) (by decide) (fun q => absurd q (by decide)) (fun _ => ?_)
                refine g_iload 42 dX8_settles_40 rfl rfl ?_
                refine g_iconst (v := iZ (2)) 43 dX8_settles_42 rfl rfl ?_
                refine g_irem 44 dX8_settles_43 (by decide +kernel) rfl ?_
                refine Go.eqI (iZ (0)) (by decide +kernel) ?_
                refine g_iconst (v := iZ (1)) 45 dX8_settles_44 rfl rfl ?_
                refine g_icZ_ne 55 48 dX8_settles_45 rfl rfl (by decide) (by decide) (fun _ => ?_) (fun q => absurd q (by decide))
                refine g_aload_n 56 dX8_settles_55 rfl rfl ?_
                have f24 := (s16.get (by omega) F0)
                refine g_get 59 dX8_settles_56 faX8_53_X8 f24 rfl rfl ?_
                refine g_astore (L1 := [some (.ref 0), some (.int (iZ t)), some (.int (iZ i)), some (.ref (71 + 4 * t.toNat)), some (.ref (34 + 2 * i.toNat)), some (.ref 22), some (.int (iZ 2)), some (.ref 25)]) 61 dX8_settles_59 (by decide) rfl rfl rfl ?_
                refine g_aload 63 dX8_settles_61 rfl rfl ?_
                refine g_aload 65 dX8_settles_63 rfl rfl ?_
                refine g_aload 67 dX8_settles_65 rfl rfl ?_
                obtain ⟨a_25, x_25, p_25, en_25, dn_25, tk_25, hm_25, on_25, mm_25, of_25, og_25, ra_25, rx_25, rp_25, ren_25, rdn_25, rtk_25, rhm_25, ron_25, omm_25, oof_25, oog_25, e0_25, e1_25, e2_25, e3_25, e4_25⟩ := SC.m (m := 25) (by decide) H15
                refine g_callV (z := mX2_builds) (As := [.ref 22, .ref (34 + 2 * i.toNat)]) 70 dX8_settles_67 mwX2_builds ⟨by decide, by decide⟩ rfl wlX8_98 wiX2_builds wsX2_builds e0_25 rfl rfl rfl (nle rfl) (nle rfl) rfl ?_
                have f26 := (s16.get (by omega) t0_12)
                have f27 := (s16.get (by omega) t1_12)
                refine sc_bl (M := 256) (by decide) H15 e2_18 e3_18 e4_18 oof_18 oog_18 ron_18 (by decide) (by omega) f26 f27 (okb_okr t4_12) (by omega) (by omega) (fun h28 z29 rz29 H30 s31 => ?_)
                refine rI ?_
                refine g_ifZ_ne 76 73 dX8_settles_70 rfl rfl (rg01 rz29) (fun c32 => ?_) (fun c32 => ?_)
                · refine g_aload 78 dX8_settles_76 rfl rfl ?_
                  refine g_aload 80 dX8_settles_78 rfl rfl ?_
                  obtain ⟨a_33, x_33, p_33, en_33, dn_33, tk_33, hm_33, on_33, mm_33, of_33, og_33, ra_33, rx_33, rp_33, ren_33, rdn_33, rtk_33, rhm_33, ron_33, omm_33, oof_33, oog_33, e0_33, e1_33, e2_33, e3_33, e4_33⟩ := SC.m (m := 25) (by decide) H30
                  refine g_get 83 dX8_settles_80 faX8_102_X2 e0_33 rfl rfl ?_
                  obtain ⟨a_34, x_34, p_34, en_34, dn_34, tk_34, hm_34, on_34, mm_34, of_34, og_34, ra_34, rx_34, rp_34, ren_34, rdn_34, rtk_34, rhm_34, ron_34, omm_34, oof_34, oog_34, e0_34, e1_34, e2_34, e3_34, e4_34⟩ := SC.m (m := 20) (by decide) H30
                  refine g_callV (z := mX0_unlike) (As := [.ref 27]) 86 dX8_settles_83 mwX0_unlike ⟨by decide, by decide⟩ rfl wlX8_162 wiX0_unlike wsX0_unlike e2_34 rfl rfl rfl (nle rfl) (nle rfl) rfl ?_
                  refine w_unl (M := 256) (N := 256) e2_34 e3_34 e4_34 e2_33 e3_33 e4_33 oof_34 oog_34 oof_33 oog_33 ron_34 ron_33 (by decide) (by decide) (fun z35 rz35 => ?_)
                  refine rI ?_
                  refine g_ifZ_ne 92 89 dX8_settles_86 rfl rfl rz35 (fun c36 => ?_) (fun c36 => ?_)
                  · refine g_aload 94 dX8_settles_92 rfl rfl ?_
                    refine g_get 97 dX8_settles_94 faX8_102_X2 e0_33 rfl rfl ?_
                    refine g_astore (L1 := [some (.ref 0), some (.int (iZ t)), some (.int (iZ i)), some (.ref (71 + 4 * t.toNat)), some (.ref (34 + 2 * i.toNat)), some (.ref 27), some (.int (iZ 2)), some (.ref 25)]) 99 dX8_settles_97 (by decide) rfl rfl rfl ?_
                    refine g_iincZ [some (.ref 0), some (.int (iZ t)), some (.int (iZ i)), some (.ref (71 + 4 * t.toNat)), some (.ref (34 + 2 * i.toNat)), some (.ref 27), some (.int (iZ 3)), some (.ref 25)] 102 dX8_settles_99 rfl rfl (by decide) rfl rfl rfl ?_
                    refine g_goto 33 dX8_settles_102 rfl ?_
                    refine g_iload 35 dX8_settles_33 rfl rfl ?_
                    refine g_bipush (v := iZ (6)) 37 dX8_settles_35 (by decide +kernel) rfl ?_
                    refine g_icZ_gt 105 40 dX8_settles_37 rfl rfl (by decide) (by decide) (fun q => absurd q (by decide)) (fun _ => ?_)
                    refine g_iload 42 dX8_settles_40 rfl rfl ?_
                    refine g_iconst (v := iZ (2)) 43 dX8_settles_42 rfl rfl ?_
                    refine g_irem 44 dX8_settles_43 (by decide +kernel) rfl ?_
                    refine Go.eqI (iZ (1)) (by decide +kernel) ?_
                    refine g_iconst (v := iZ (1)) 45 dX8_settles_44 rfl rfl ?_
                    refine g_icZ_ne 55 48 dX8_settles_45 rfl rfl (by decide) (by decide) (fun q => absurd q (by decide)) (fun _ => ?_)
                    refine g_aload_n 49 dX8_settles_48 rfl rfl ?_
                    have f37 := (s31.get (by omega) f24)
                    refine g_get 52 dX8_settles_49 faX8_50_X8 f37 rfl rfl ?_
                    refine g_goto 59 dX8_settles_52 rfl ?_
                    refine g_astore (L1 := [some (.ref 0), some (.int (iZ t)), some (.int (iZ i)), some (.ref (71 + 4 * t.toNat)), some (.ref (34 + 2 * i.toNat)), some (.ref 27), some (.int (iZ 3)), some (.ref 20)]) 61 dX8_settles_59 (by decide) rfl rfl rfl ?_
                    refine g_aload 63 dX8_settles_61 rfl rfl ?_
                    refine g_aload 65 dX8_settles_63 rfl rfl ?_
                    refine g_aload 67 dX8_settles_65 rfl rfl ?_
                    refine g_callV (z := mX2_builds) (As := [.ref 27, .ref (34 + 2 * i.toNat)]) 70 dX8_settles_67 mwX2_builds ⟨by decide, by decide⟩ rfl wlX8_98 wiX2_builds wsX2_builds e0_34 rfl rfl rfl (nle rfl) (nle rfl) rfl ?_
                    have f38 := (s31.get (by omega) f26)
                    have f39 := (s31.get (by omega) f27)
                    refine sc_bl (M := 256) (by decide) H30 e2_33 e3_33 e4_33 oof_33 oog_33 ron_33 (by decide) (by omega) f38 f39 (okb_okr t4_12) (by omega) (by omega) (fun h40 z41 rz41 H42 s43 => ?_)
                    refine rI ?_
                    refine g_ifZ_ne 76 73 dX8_settles_70 rfl rfl (rg01 rz41) (fun c44 => ?_) (fun c44 => ?_)
                    · refine g_aload 78 dX8_settles_76 rfl rfl ?_
                      refine g_aload 80 dX8_settles_78 rfl rfl ?_
                      obtain ⟨a_45, x_45, p_45, en_45, dn_45, tk_45, hm_45, on_45, mm_45, of_45, og_45, ra_45, rx_45, rp_45, ren_45, rdn_45, rtk_45, rhm_45, ron_45, omm_45, oof_45, oog_45, e0_45, e1_45, e2_45, e3_45, e4_45⟩ := SC.m (m := 20) (by decide) H42
                      refine g_get 83 dX8_settles_80 faX8_102_X2 e0_45 rfl rfl ?_
                      obtain ⟨a_46, x_46, p_46, en_46, dn_46, tk_46, hm_46, on_46, mm_46, of_46, og_46, ra_46, rx_46, rp_46, ren_46, rdn_46, rtk_46, rhm_46, ron_46, omm_46, oof_46, oog_46, e0_46, e1_46, e2_46, e3_46, e4_46⟩ := SC.m (m := 25) (by decide) H42
                      refine g_callV (z := mX0_unlike) (As := [.ref 22]) 86 dX8_settles_83 mwX0_unlike ⟨by decide, by decide⟩ rfl wlX8_162 wiX0_unlike wsX0_unlike e2_46 rfl rfl rfl (nle rfl) (nle rfl) rfl ?_
                      refine w_unl (M := 256) (N := 256) e2_46 e3_46 e4_46 e2_45 e3_45 e4_45 oof_46 oog_46 oof_45 oog_45 ron_46 ron_45 (by decide) (by decide) (fun z47 rz47 => ?_)
                      refine rI ?_
                      refine g_ifZ_ne 92 89 dX8_settles_86 rfl rfl rz47 (fun c48 => ?_) (fun c48 => ?_)
                      · refine g_aload 94 dX8_settles_92 rfl rfl ?_
                        refine g_get 97 dX8_settles_94 faX8_102_X2 e0_45 rfl rfl ?_
                        refine g_astore (L1 := [some (.ref 0), some (.int (iZ t)), some (.int (iZ i)), some (.ref (71 + 4 * t.toNat)), some (.ref (34 + 2 * i.toNat)), some (.ref 22), some (.int (iZ 3)), some (.ref 20)]) 99 dX8_settles_97 (by decide) rfl rfl rfl ?_
                        refine g_iincZ [some (.ref 0), some (.int (iZ t)), some (.int (iZ i)), some (.ref (71 + 4 * t.toNat)), some (.ref (34 + 2 * i.toNat)), some (.ref 22), some (.int (iZ 4)), some (.ref 20)] 102 dX8_settles_99 rfl rfl (by decide) rfl rfl rfl ?_
                        refine g_goto 33 dX8_settles_102 rfl ?_
                        refine g_iload 35 dX8_settles_33 rfl rfl ?_
                        refine g_bipush (v := iZ (6)) 37 dX8_settles_35 (by decide +kernel) rfl ?_
                        refine g_icZ_gt 105 40 dX8_settles_37 rfl rfl (by decide) (by decide) (fun q => absurd q (by decide)) (fun _ => ?_)
                        refine g_iload 42 dX8_settles_40 rfl rfl ?_
                        refine g_iconst (v := iZ (2)) 43 dX8_settles_42 rfl rfl ?_
                        refine g_irem 44 dX8_settles_43 (by decide +kernel) rfl ?_
                        refine Go.eqI (iZ (0)) (by decide +kernel) ?_
                        refine g_iconst (v := iZ (1)) 45 dX8_settles_44 rfl rfl ?_
                        refine g_icZ_ne 55 48 dX8_settles_45 rfl rfl (by decide) (by decide) (fun _ => ?_) (fun q => absurd q (by decide))
                        refine g_aload_n 56 dX8_settles_55 rfl rfl ?_
                        have f49 := (s43.get (by omega) f37)
                        refine g_get 59 dX8_settles_56 faX8_53_X8 f49 rfl rfl ?_
                        refine g_astore (L1 := [some (.ref 0), some (.int (iZ t)), some (.int (iZ i)), some (.ref (71 + 4 * t.toNat)), some (.ref (34 + 2 * i.toNat)), some (.ref 22), some (.int (iZ 4)), some (.ref 25)]) 61 dX8_settles_59 (by decide) rfl rfl rfl ?_
                        refine g_aload 63 dX8_settles_61 rfl rfl ?_
                        refine g_aload 65 dX8_settles_63 rfl rfl ?_
                        refine g_aload 67 dX8_settles_65 rfl rfl ?_
                        refine g_callV (z := mX2_builds) (As := [.ref 22, .ref (34 + 2 * i.toNat)]) 70 dX8_settles_67 mwX2_builds ⟨by decide, by decide⟩ rfl wlX8_98 wiX2_builds wsX2_builds e0_46 rfl rfl rfl (nle rfl) (nle rfl) rfl ?_
                        have f50 := (s43.get (by omega) f38)
                        have f51 := (s43.get (by omega) f39)
                        refine sc_bl (M := 256) (by decide) H42 e2_45 e3_45 e4_45 oof_45 oog_45 ron_45 (by decide) (by omega) f50 f51 (okb_okr t4_12) (by omega) (by omega) (fun h52 z53 rz53 H54 s55 => ?_)
                        refine rI ?_
                        refine g_ifZ_ne 76 73 dX8_settles_70 rfl rfl (rg01 rz53) (fun c56 => ?_) (fun c56 => ?_)
                        · refine g_aload 78 dX8_settles_76 rfl rfl ?_
                          refine g_aload 80 dX8_settles_78 rfl rfl ?_
                          obtain ⟨a_57, x_57, p_57, en_57, dn_57, tk_57, hm_57, on_57, mm_57, of_57, og_57, ra_57, rx_57, rp_57, ren_57, rdn_57, rtk_57, rhm_57, ron_57, omm_57, oof_57, oog_57, e0_57, e1_57, e2_57, e3_57, e4_57⟩ := SC.m (m := 25) (by decide) H54
                          refine g_get 83 dX8_settles_80 faX8_102_X2 e0_57 rfl rfl ?_
                          obtain ⟨a_58, x_58, p_58, en_58, dn_58, tk_58, hm_58, on_58, mm_58, of_58, og_58, ra_58, rx_58, rp_58, ren_58, rdn_58, rtk_58, rhm_58, ron_58, omm_58, oof_58, oog_58, e0_58, e1_58, e2_58, e3_58, e4_58⟩ := SC.m (m := 20) (by decide) H54
                          refine g_callV (z := mX0_unlike) (As := [.ref 27]) 86 dX8_settles_83 mwX0_unlike ⟨by decide, by decide⟩ rfl wlX8_162 wiX0_unlike wsX0_unlike e2_58 rfl rfl rfl (nle rfl) (nle rfl) rfl ?_
                          refine w_unl (M := 256) (N := 256) e2_58 e3_58 e4_58 e2_57 e3_57 e4_57 oof_58 oog_58 oof_57 oog_57 ron_58 ron_57 (by decide) (by decide) (fun z59 rz59 => ?_)
                          refine rI ?_
                          refine g_ifZ_ne 92 89 dX8_settles_86 rfl rfl rz59 (fun c60 => ?_) (fun c60 => ?_)
                          · refine g_aload 94 dX8_settles_92 rfl rfl ?_
                            refine g_get 97 dX8_settles_94 faX8_102_X2 e0_57 rfl rfl ?_
                            refine g_astore (L1 := [some (.ref 0), some (.int (iZ t)), some (.int (iZ i)), some (.ref (71 + 4 * t.toNat)), some (.ref (34 + 2 * i.toNat)), some (.ref 27), some (.int (iZ 4)), some (.ref 25)]) 99 dX8_settles_97 (by decide) rfl rfl rfl ?_
                            refine g_iincZ [some (.ref 0), some (.int (iZ t)), some (.int (iZ i)), some (.ref (71 + 4 * t.toNat)), some (.ref (34 + 2 * i.toNat)), some (.ref 27), some (.int (iZ 5)), some (.ref 25)] 102 dX8_settles_99 rfl rfl (by decide) rfl rfl rfl ?_
                            refine g_goto 33 dX8_settles_102 rfl ?_
                            refine g_iload 35 dX8_settles_33 rfl rfl ?_
                            refine g_bipush (v := iZ (6)) 37 dX8_settles_35 (by decide +kernel) rfl ?_
                            refine g_icZ_gt 105 40 dX8_settles_37 rfl rfl (by decide) (by decide) (fun q => absurd q (by decide)) (fun _ => ?_)
                            refine g_iload 42 dX8_settles_40 rfl rfl ?_
                            refine g_iconst (v := iZ (2)) 43 dX8_settles_42 rfl rfl ?_
                            refine g_irem 44 dX8_settles_43 (by decide +kernel) rfl ?_
                            refine Go.eqI (iZ (1)) (by decide +kernel) ?_
                            refine g_iconst (v := iZ (1)) 45 dX8_settles_44 rfl rfl ?_
                            refine g_icZ_ne 55 48 dX8_settles_45 rfl rfl (by decide) (by decide) (fun q => absurd q (by decide)) (fun _ => ?_)
                            refine g_aload_n 49 dX8_settles_48 rfl rfl ?_
                            have f61 := (s55.get (by omega) f49)
                            refine g_get 52 dX8_settles_49 faX8_50_X8 f61 rfl rfl ?_
                            refine g_goto 59 dX8_settles_52 rfl ?_
                            refine g_astore (L1 := [some (.ref 0), some (.int (iZ t)), some (.int (iZ i)), some (.ref (71 + 4 * t.toNat)), some (.ref (34 + 2 * i.toNat)), some (.ref 27), some (.int (iZ 5)), some (.ref 20)]) 61 dX8_settles_59 (by decide) rfl rfl rfl ?_
                            refine g_aload 63 dX8_settles_61 rfl rfl ?_
                            refine g_aload 65 dX8_settles_63 rfl rfl ?_
                            refine g_aload 67 dX8_settles_65 rfl rfl ?_
                            refine g_callV (z := mX2_builds) (As := [.ref 27, .ref (34 + 2 * i.toNat)]) 70 dX8_settles_67 mwX2_builds ⟨by decide, by decide⟩ rfl wlX8_98 wiX2_builds wsX2_builds e0_58 rfl rfl rfl (nle rfl) (nle rfl) rfl ?_
                            have f62 := (s55.get (by omega) f50)
                            have f63 := (s55.get (by omega) f51)
                            refine sc_bl (M := 256) (by decide) H54 e2_57 e3_57 e4_57 oof_57 oog_57 ron_57 (by decide) (by omega) f62 f63 (okb_okr t4_12) (by omega) (by omega) (fun h64 z65 rz65 H66 s67 => ?_)
                            refine rI ?_
                            refine g_ifZ_ne 76 73 dX8_settles_70 rfl rfl (rg01 rz65) (fun c68 => ?_) (fun c68 => ?_)
                            · refine g_aload 78 dX8_settles_76 rfl rfl ?_
                              refine g_aload 80 dX8_settles_78 rfl rfl ?_
                              obtain ⟨a_69, x_69, p_69, en_69, dn_69, tk_69, hm_69, on_69, mm_69, of_69, og_69, ra_69, rx_69, rp_69, ren_69, rdn_69, rtk_69, rhm_69, ron_69, omm_69, oof_69, oog_69, e0_69, e1_69, e2_69, e3_69, e4_69⟩ := SC.m (m := 20) (by decide) H66
                              refine g_get 83 dX8_settles_80 faX8_102_X2 e0_69 rfl rfl ?_
                              obtain ⟨a_70, x_70, p_70, en_70, dn_70, tk_70, hm_70, on_70, mm_70, of_70, og_70, ra_70, rx_70, rp_70, ren_70, rdn_70, rtk_70, rhm_70, ron_70, omm_70, oof_70, oog_70, e0_70, e1_70, e2_70, e3_70, e4_70⟩ := SC.m (m := 25) (by decide) H66
                              refine g_callV (z := mX0_unlike) (As := [.ref 22]) 86 dX8_settles_83 mwX0_unlike ⟨by decide, by decide⟩ rfl wlX8_162 wiX0_unlike wsX0_unlike e2_70 rfl rfl rfl (nle rfl) (nle rfl) rfl ?_
                              refine w_unl (M := 256) (N := 256) e2_70 e3_70 e4_70 e2_69 e3_69 e4_69 oof_70 oog_70 oof_69 oog_69 ron_70 ron_69 (by decide) (by decide) (fun z71 rz71 => ?_)
                              refine rI ?_
                              refine g_ifZ_ne 92 89 dX8_settles_86 rfl rfl rz71 (fun c72 => ?_) (fun c72 => ?_)
                              · refine g_aload 94 dX8_settles_92 rfl rfl ?_
                                refine g_get 97 dX8_settles_94 faX8_102_X2 e0_69 rfl rfl ?_
                                refine g_astore (L1 := [some (.ref 0), some (.int (iZ t)), some (.int (iZ i)), some (.ref (71 + 4 * t.toNat)), some (.ref (34 + 2 * i.toNat)), some (.ref 22), some (.int (iZ 5)), some (.ref 20)]) 99 dX8_settles_97 (by decide) rfl rfl rfl ?_
                                refine g_iincZ [some (.ref 0), some (.int (iZ t)), some (.int (iZ i)), some (.ref (71 + 4 * t.toNat)), some (.ref (34 + 2 * i.toNat)), some (.ref 22), some (.int (iZ 6)), some (.ref 20)] 102 dX8_settles_99 rfl rfl (by decide) rfl rfl rfl ?_
                                refine g_goto 33 dX8_settles_102 rfl ?_
                                refine g_iload 35 dX8_settles_33 rfl rfl ?_
                                refine g_bipush (v := iZ (6)) 37 dX8_settles_35 (by decide +kernel) rfl ?_
                                refine g_icZ_gt 105 40 dX8_settles_37 rfl rfl (by decide) (by decide) (fun q => absurd q (by decide)) (fun _ => ?_)
                                refine g_iload 42 dX8_settles_40 rfl rfl ?_
                                refine g_iconst (v := iZ (2)) 43 dX8_settles_42 rfl rfl ?_
                                refine g_irem 44 dX8_settles_43 (by decide +kernel) rfl ?_
                                refine Go.eqI (iZ (0)) (by decide +kernel) ?_
                                refine g_iconst (v := iZ (1)) 45 dX8_settles_44 rfl rfl ?_
                                refine g_icZ_ne 55 48 dX8_settles_45 rfl rfl (by decide) (by decide) (fun _ => ?_) (fun q => absurd q (by decide))
                                refine g_aload_n 56 dX8_settles_55 rfl rfl ?_
                                have f73 := (s67.get (by omega) f61)
                                refine g_get 59 dX8_settles_56 faX8_53_X8 f73 rfl rfl ?_
                                refine g_astore (L1 := [some (.ref 0), some (.int (iZ t)), some (.int (iZ i)), some (.ref (71 + 4 * t.toNat)), some (.ref (34 + 2 * i.toNat)), some (.ref 22), some (.int (iZ 6)), some (.ref 25)]) 61 dX8_settles_59 (by decide) rfl rfl rfl ?_
                                refine g_aload 63 dX8_settles_61 rfl rfl ?_
                                refine g_aload 65 dX8_settles_63 rfl rfl ?_
                                refine g_aload 67 dX8_settles_65 rfl rfl ?_
                                refine g_callV (z := mX2_builds) (As := [.ref 22, .ref (34 + 2 * i.toNat)]) 70 dX8_settles_67 mwX2_builds ⟨by decide, by decide⟩ rfl wlX8_98 wiX2_builds wsX2_builds e0_70 rfl rfl rfl (nle rfl) (nle rfl) rfl ?_
                                have f74 := (s67.get (by omega) f62)
                                have f75 := (s67.get (by omega) f63)
                                refine sc_bl (M := 256) (by decide) H66 e2_69 e3_69 e4_69 oof_69 oog_69 ron_69 (by decide) (by omega) f74 f75 (okb_okr t4_12) (by omega) (by omega) (fun h76 z77 rz77 H78 s79 => ?_)
                                refine rI ?_
                                refine g_ifZ_ne 76 73 dX8_settles_70 rfl rfl (rg01 rz77) (fun c80 => ?_) (fun c80 => ?_)
                                · refine g_aload 78 dX8_settles_76 rfl rfl ?_
                                  refine g_aload 80 dX8_settles_78 rfl rfl ?_
                                  obtain ⟨a_81, x_81, p_81, en_81, dn_81, tk_81, hm_81, on_81, mm_81, of_81, og_81, ra_81, rx_81, rp_81, ren_81, rdn_81, rtk_81, rhm_81, ron_81, omm_81, oof_81, oog_81, e0_81, e1_81, e2_81, e3_81, e4_81⟩ := SC.m (m := 25) (by decide) H78
                                  refine g_get 83 dX8_settles_80 faX8_102_X2 e0_81 rfl rfl ?_
                                  obtain ⟨a_82, x_82, p_82, en_82, dn_82, tk_82, hm_82, on_82, mm_82, of_82, og_82, ra_82, rx_82, rp_82, ren_82, rdn_82, rtk_82, rhm_82, ron_82, omm_82, oof_82, oog_82, e0_82, e1_82, e2_82, e3_82, e4_82⟩ := SC.m (m := 20) (by decide) H78
                                  refine g_callV (z := mX0_unlike) (As := [.ref 27]) 86 dX8_settles_83 mwX0_unlike ⟨by decide, by decide⟩ rfl wlX8_162 wiX0_unlike wsX0_unlike e2_82 rfl rfl rfl (nle rfl) (nle rfl) rfl ?_
                                  refine w_unl (M := 256) (N := 256) e2_82 e3_82 e4_82 e2_81 e3_81 e4_81 oof_82 oog_82 oof_81 oog_81 ron_82 ron_81 (by decide) (by decide) (fun z83 rz83 => ?_)
                                  refine rI ?_
                                  refine g_ifZ_ne 92 89 dX8_settles_86 rfl rfl rz83 (fun c84 => ?_) (fun c84 => ?_)
                                  · refine g_aload 94 dX8_settles_92 rfl rfl ?_
                                    refine g_get 97 dX8_settles_94 faX8_102_X2 e0_81 rfl rfl ?_
                                    refine g_astore (L1 := [some (.ref 0), some (.int (iZ t)), some (.int (iZ i)), some (.ref (71 + 4 * t.toNat)), some (.ref (34 + 2 * i.toNat)), some (.ref 27), some (.int (iZ 6)), some (.ref 25)]) 99 dX8_settles_97 (by decide) rfl rfl rfl ?_
                                    refine g_iincZ [some (.ref 0), some (.int (iZ t)), some (.int (iZ i)), some (.ref (71 + 4 * t.toNat)), some (.ref (34 + 2 * i.toNat)), some (.ref 27), some (.int (iZ 7)), some (.ref 25)] 102 dX8_settles_99 rfl rfl (by decide) rfl rfl rfl ?_
                                    refine g_goto 33 dX8_settles_102 rfl ?_
                                    refine g_iload 35 dX8_settles_33 rfl rfl ?_
                                    refine g_bipush (v := iZ (6)) 37 dX8_settles_35 (by decide +kernel) rfl ?_
                                    refine g_icZ_gt 105 40 dX8_settles_37 rfl rfl (by decide) (by decide) (fun _ => ?_) (fun q => absurd q (by decide))
                                    refine g_bipush (v := iZ (-9)) 107 dX8_settles_105 (by decide +kernel) rfl ?_
                                    refine g_iret rfl dX8_settles_107 ?_
                                    exact k _ (-9) (by decide) H78 (((((s16.tr s31).tr s43).tr s55).tr s67).tr s79)
                                  · refine g_iload 91 dX8_settles_89 rfl rfl ?_
                                    refine g_iret rfl dX8_settles_91 ?_
                                    exact k _ (6) (by decide) H78 (((((s16.tr s31).tr s43).tr s55).tr s67).tr s79)
                                · refine g_bipush (v := iZ (-9)) 75 dX8_settles_73 (by decide +kernel) rfl ?_
                                  refine g_iret rfl dX8_settles_75 ?_
                                  exact k _ (-9) (by decide) H78 (((((s16.tr s31).tr s43).tr s55).tr s67).tr s79)
                              · refine g_iload 91 dX8_settles_89 rfl rfl ?_
                                refine g_iret rfl dX8_settles_91 ?_
                                exact k _ (5) (by decide) H66 ((((s16.tr s31).tr s43).tr s55).tr s67)
                            · refine g_bipush (v := iZ (-9)) 75 dX8_settles_73 (by decide +kernel) rfl ?_
                              refine g_iret rfl dX8_settles_75 ?_
                              exact k _ (-9) (by decide) H66 ((((s16.tr s31).tr s43).tr s55).tr s67)
                          · refine g_iload 91 dX8_settles_89 rfl rfl ?_
                            refine g_iret rfl dX8_settles_91 ?_
                            exact k _ (4) (by decide) H54 (((s16.tr s31).tr s43).tr s55)
                        · refine g_bipush (v := iZ (-9)) 75 dX8_settles_73 (by decide +kernel) rfl ?_
                          refine g_iret rfl dX8_settles_75 ?_
                          exact k _ (-9) (by decide) H54 (((s16.tr s31).tr s43).tr s55)
                      · refine g_iload 91 dX8_settles_89 rfl rfl ?_
                        refine g_iret rfl dX8_settles_91 ?_
                        exact k _ (3) (by decide) H42 ((s16.tr s31).tr s43)
                    · refine g_bipush (v := iZ (-9)) 75 dX8_settles_73 (by decide +kernel) rfl ?_
                      refine g_iret rfl dX8_settles_75 ?_
                      exact k _ (-9) (by decide) H42 ((s16.tr s31).tr s43)
                  · refine g_iload 91 dX8_settles_89 rfl rfl ?_
                    refine g_iret rfl dX8_settles_91 ?_
                    exact k _ (2) (by decide) H30 (s16.tr s31)
                · refine g_bipush (v := iZ (-9)) 75 dX8_settles_73 (by decide +kernel) rfl ?_
                  refine g_iret rfl dX8_settles_75 ?_
                  exact k _ (-9) (by decide) H30 (s16.tr s31)
              · refine g_iload 91 dX8_settles_89 rfl rfl ?_
                refine g_iret rfl dX8_settles_91 ?_
                exact k _ (1) (by decide) H15 s16
            · refine g_bipush (v := iZ (-9)) 75 dX8_settles_73 (by decide +kernel) rfl ?_
              refine g_iret rfl dX8_settles_75 ?_
              exact k _ (-9) (by decide) H15 s16
          · refine g_null 11 dX8_textAt_10 rfl ?_
            refine g_goto 20 dX8_textAt_11 rfl ?_
            refine g_aret rfl (Or.inl rfl) dX8_textAt_20 ?_
            refine rN ?_
            refine g_astoreN (L1 := [some (.ref 0), some (.int (iZ t)), some (.int (iZ i)), some (.ref (71 + 4 * t.toNat)), some (.null), none, none, none]) 13 dX8_settles_11 (by decide) rfl rfl rfl ?_
            refine g_aload_n 14 dX8_settles_13 rfl rfl ?_
            refine g_ifnull 17 dX8_settles_14 rfl ?_
            refine g_aloadN 19 dX8_settles_17 rfl rfl ?_
            refine g_ifnonnullN 22 dX8_settles_19 rfl ?_
            refine g_iconst (v := iZ (-1)) 23 dX8_settles_22 rfl rfl ?_
            refine g_iret rfl dX8_settles_23 ?_
            exact k _ (-1) (by decide) HS (Scr.refl _)
      · refine g_null 19 dX8_toolAt_18 rfl ?_
        refine g_goto 28 dX8_toolAt_19 rfl ?_
        refine g_aret rfl (Or.inl rfl) dX8_toolAt_28 ?_
        refine rN ?_
        refine g_astore_nN (L1 := [some (.ref 0), some (.int (iZ t)), some (.int (iZ i)), some (.null), none, none, none, none]) 6 dX8_settles_5 (by decide) rfl rfl rfl ?_
        refine g_aload_n 7 dX8_settles_6 rfl rfl ?_
        refine g_iload_n 8 dX8_settles_7 rfl rfl ?_
        refine g_callV (z := mX8_textAt) (As := [.int (iZ i)]) 11 dX8_settles_8 mwX8_textAt ⟨by decide, by decide⟩ rfl wlX8_74 wiX8_textAt wsX8_textAt F0 rfl rfl rfl (nle rfl) (nle rfl) rfl ?_
        refine Go.to [some (.ref 0), some (.int (iZ i))] [] rfl rfl ?_
        refine g_iload_n 1 dX8_textAt_0 rfl rfl ?_
        refine g_ifZ_lt 10 4 dX8_textAt_1 rfl rfl ri (fun c85 => ?_) (fun c85 => ?_)
        · refine g_null 11 dX8_textAt_10 rfl ?_
          refine g_goto 20 dX8_textAt_11 rfl ?_
          refine g_aret rfl (Or.inl rfl) dX8_textAt_20 ?_
          refine rN ?_
          refine g_astoreN (L1 := [some (.ref 0), some (.int (iZ t)), some (.int (iZ i)), some (.null), some (.null), none, none, none]) 13 dX8_settles_11 (by decide) rfl rfl rfl ?_
          refine g_aload_nN 14 dX8_settles_13 rfl rfl ?_
          refine g_ifnullN 22 dX8_settles_14 rfl ?_
          refine g_iconst (v := iZ (-1)) 23 dX8_settles_22 rfl rfl ?_
          refine g_iret rfl dX8_settles_23 ?_
          exact k _ (-1) (by decide) HS (Scr.refl _)
        · refine g_iload_n 5 dX8_textAt_4 rfl rfl ?_
          refine g_bipush (v := iZ (8)) 7 dX8_textAt_5 (by decide +kernel) rfl ?_
          refine g_icZ_lt 14 10 dX8_textAt_7 rfl rfl ri (by decide) (fun c86 => ?_) (fun c86 => ?_)
          · refine g_aload_n 15 dX8_textAt_14 rfl rfl ?_
            refine g_get 18 dX8_textAt_15 faX8_16_X8 F0 rfl rfl ?_
            refine g_iload_n 19 dX8_textAt_18 rfl rfl ?_
            refine g_aaldZ 20 dX8_textAt_19 F3 (by decide) (by omega) (by omega) (by decide) (txs_at (by omega) (by omega)) rfl ?_
            refine g_aret rfl (Or.inr ⟨_, rfl⟩) dX8_textAt_20 ?_
            refine rR ?_
            refine g_astore (L1 := [some (.ref 0), some (.int (iZ t)), some (.int (iZ i)), some (.null), some (.ref (34 + 2 * i.toNat)), none, none, none]) 13 dX8_settles_11 (by decide) rfl rfl rfl ?_
            refine g_aload_nN 14 dX8_settles_13 rfl rfl ?_
            refine g_ifnullN 22 dX8_settles_14 rfl ?_
            refine g_iconst (v := iZ (-1)) 23 dX8_settles_22 rfl rfl ?_
            refine g_iret rfl dX8_settles_23 ?_
            exact k _ (-1) (by decide) HS (Scr.refl _)
          · refine g_null 11 dX8_textAt_10 rfl ?_
            refine g_goto 20 dX8_textAt_11 rfl ?_
            refine g_aret rfl (Or.inl rfl) dX8_textAt_20 ?_
            refine rN ?_
            refine g_astoreN (L1 := [some (.ref 0), some (.int (iZ t)), some (.int (iZ i)), some (.null), some (.null), none, none, none]) 13 dX8_settles_11 (by decide) rfl rfl rfl ?_
            refine g_aload_nN 14 dX8_settles_13 rfl rfl ?_
            refine g_ifnullN 22 dX8_settles_14 rfl ?_
            refine g_iconst (v := iZ (-1)) 23 dX8_settles_22 rfl rfl ?_
            refine g_iret rfl dX8_settles_23 ?_
            exact k _ (-1) (by decide) HS (Scr.refl _)
set_option maxRecDepth 100000 in
theorem p_round {l : Launch} {h : MH} {Q : Option Value → MH → Prop} {tc : Nat} {xn : Nat → Int} {xf : Nat → Nat → Int} {a b i : Int} (HC : CORE h tc xn xf) (HS : SC h) (ra : rg a) (rb : rg b) (ri : rg i)  (k : ∀ (h1 : MH) (r : Int), rg r → SC h1 → Scr h h1 → Q (some (.int (iZ r))) h1) : Go l mX8_round 0 [some (.ref 0), some (.int (iZ a)), some (.int (iZ b)), some (.int (iZ i)), none, none, none] [] h Q := by
  obtain ⟨⟨tr, F0⟩, F3, F4, htc, HT, HL⟩ := id HC
  refine g_aload_n 1 dX8_round_0 rfl rfl ?_
  refine g_iload_n 2 dX8_round_1 rfl rfl ?_
  refine g_callV (z := mX8_toolAt) (As := [.int (iZ a)]) 5 dX8_round_2 mwX8_toolAt ⟨by decide, by decide⟩ rfl wlX8_90 wiX8_toolAt wsX8_toolAt F0 rfl rfl rfl (nle rfl) (nle rfl) rfl ?_
  refine Go.to [some (.ref 0), some (.int (iZ a))] [] rfl rfl ?_
  refine g_iload_n 1 dX8_toolAt_0 rfl rfl ?_
  refine g_ifZ_lt 18 4 dX8_toolAt_1 rfl rfl ra (fun c1 => ?_) (fun c1 => ?_)
  · refine g_null 19 dX8_toolAt_18 rfl ?_
    refine g_goto 28 dX8_toolAt_19 rfl ?_
    refine g_aret rfl (Or.inl rfl) dX8_toolAt_28 ?_
    refine rN ?_
    refine g_astoreN (L1 := [some (.ref 0), some (.int (iZ a)), some (.int (iZ b)), some (.int (iZ i)), some (.null), none, none]) 7 dX8_round_5 (by decide) rfl rfl rfl ?_
    refine g_aload_n 8 dX8_round_7 rfl rfl ?_
    refine g_iload_n 9 dX8_round_8 rfl rfl ?_
    refine g_callV (z := mX8_toolAt) (As := [.int (iZ b)]) 12 dX8_round_9 mwX8_toolAt ⟨by decide, by decide⟩ rfl wlX8_90 wiX8_toolAt wsX8_toolAt F0 rfl rfl rfl (nle rfl) (nle rfl) rfl ?_
    refine Go.to [some (.ref 0), some (.int (iZ b))] [] rfl rfl ?_
    refine g_iload_n 1 dX8_toolAt_0 rfl rfl ?_
    refine g_ifZ_lt 18 4 dX8_toolAt_1 rfl rfl rb (fun c2 => ?_) (fun c2 => ?_)
    · refine g_null 19 dX8_toolAt_18 rfl ?_
      refine g_goto 28 dX8_toolAt_19 rfl ?_
      refine g_aret rfl (Or.inl rfl) dX8_toolAt_28 ?_
      refine rN ?_
      refine g_astoreN (L1 := [some (.ref 0), some (.int (iZ a)), some (.int (iZ b)), some (.int (iZ i)), some (.null), some (.null), none]) 14 dX8_round_12 (by decide) rfl rfl rfl ?_
      refine g_aload_n 15 dX8_round_14 rfl rfl ?_
      refine g_iload_n 16 dX8_round_15 rfl rfl ?_
      refine g_callV (z := mX8_textAt) (As := [.int (iZ i)]) 19 dX8_round_16 mwX8_textAt ⟨by decide, by decide⟩ rfl wlX8_74 wiX8_textAt wsX8_textAt F0 rfl rfl rfl (nle rfl) (nle rfl) rfl ?_
      refine Go.to [some (.ref 0), some (.int (iZ i))] [] rfl rfl ?_
      refine g_iload_n 1 dX8_textAt_0 rfl rfl ?_
      refine g_ifZ_lt 10 4 dX8_textAt_1 rfl rfl ri (fun c3 => ?_) (fun c3 => ?_)
      · refine g_null 11 dX8_textAt_10 rfl ?_
        refine g_goto 20 dX8_textAt_11 rfl ?_
        refine g_aret rfl (Or.inl rfl) dX8_textAt_20 ?_
        refine rN ?_
        refine g_astoreN (L1 := [some (.ref 0), some (.int (iZ a)), some (.int (iZ b)), some (.int (iZ i)), some (.null), some (.null), some (.null)]) 21 dX8_round_19 (by decide) rfl rfl rfl ?_
        refine g_aloadN 23 dX8_round_21 rfl rfl ?_
        refine g_ifnullN 36 dX8_round_23 rfl ?_
        refine g_iconst (v := iZ (-1)) 37 dX8_round_36 rfl rfl ?_
        refine g_iret rfl dX8_round_37 ?_
        exact k _ (-1) (by decide) HS (Scr.refl _)
      · refine g_iload_n 5 dX8_textAt_4 rfl rfl ?_
        refine g_bipush (v := iZ (8)) 7 dX8_textAt_5 (by decide +kernel) rfl ?_
        refine g_icZ_lt 14 10 dX8_textAt_7 rfl rfl ri (by decide) (fun c4 => ?_) (fun c4 => ?_)
        · refine g_aload_n 15 dX8_textAt_14 rfl rfl ?_
          refine g_get 18 dX8_textAt_15 faX8_16_X8 F0 rfl rfl ?_
          refine g_iload_n 19 dX8_textAt_18 rfl rfl ?_
          refine g_aaldZ 20 dX8_textAt_19 F3 (by decide) (by omega) (by omega) (by decide) (txs_at (by omega) (by omega)) rfl ?_
          refine g_aret rfl (Or.inr ⟨_, rfl⟩) dX8_textAt_20 ?_
          refine rR ?_
          refine g_astore (L1 := [some (.ref 0), some (.int (iZ a)), some (.int (iZ b)), some (.int (iZ i)), some (.null), some (.null), some (.ref (34 + 2 * i.toNat))]) 21 dX8_round_19 (by decide) rfl rfl rfl ?_
          refine g_aloadN 23 dX8_round_21 rfl rfl ?_
          refine g_ifnullN 36 dX8_round_23 rfl ?_
          refine g_iconst (v := iZ (-1)) 37 dX8_round_36 rfl rfl ?_
          refine g_iret rfl dX8_round_37 ?_
          exact k _ (-1) (by decide) HS (Scr.refl _)
        · refine g_null 11 dX8_textAt_10 rfl ?_
          refine g_goto 20 dX8_textAt_11 rfl ?_
          refine g_aret rfl (Or.inl rfl) dX8_textAt_20 ?_
          refine rN ?_
          refine g_astoreN (L1 := [some (.ref 0), some (.int (iZ a)), some (.int (iZ b)), some (.int (iZ i)), some (.null), some (.null), some (.null)]) 21 dX8_round_19 (by decide) rfl rfl rfl ?_
          refine g_aloadN 23 dX8_round_21 rfl rfl ?_
          refine g_ifnullN 36 dX8_round_23 rfl ?_
          refine g_iconst (v := iZ (-1)) 37 dX8_round_36 rfl rfl ?_
          refine g_iret rfl dX8_round_37 ?_
          exact k _ (-1) (by decide) HS (Scr.refl _)
    · refine g_iload_n 5 dX8_toolAt_4 rfl rfl ?_
      refine g_aload_n 6 dX8_toolAt_5 rfl rfl ?_
      refine g_get 9 dX8_toolAt_6 faX8_26_X8 F0 rfl rfl ?_
      refine g_icZ_ge 18 12 dX8_toolAt_9 rfl rfl rb (by omega) (fun c5 => ?_) (fun c5 => ?_)
      · refine g_null 19 dX8_toolAt_18 rfl ?_
        refine g_goto 28 dX8_toolAt_19 rfl ?_
        refine g_aret rfl (Or.inl rfl) dX8_toolAt_28 ?_
        refine rN ?_
        refine g_astoreN (L1 := [some (.ref 0), some (.int (iZ a)), some (.int (iZ b)), some (.int (iZ i)), some (.null), some (.null), none]) 14 dX8_round_12 (by decide) rfl rfl rfl ?_
        refine g_aload_n 15 dX8_round_14 rfl rfl ?_
        refine g_iload_n 16 dX8_round_15 rfl rfl ?_
        refine g_callV (z := mX8_textAt) (As := [.int (iZ i)]) 19 dX8_round_16 mwX8_textAt ⟨by decide, by decide⟩ rfl wlX8_74 wiX8_textAt wsX8_textAt F0 rfl rfl rfl (nle rfl) (nle rfl) rfl ?_
        refine Go.to [some (.ref 0), some (.int (iZ i))] [] rfl rfl ?_
        refine g_iload_n 1 dX8_textAt_0 rfl rfl ?_
        refine g_ifZ_lt 10 4 dX8_textAt_1 rfl rfl ri (fun c6 => ?_) (fun c6 => ?_)
        · refine g_null 11 dX8_textAt_10 rfl ?_
          refine g_goto 20 dX8_textAt_11 rfl ?_
          refine g_aret rfl (Or.inl rfl) dX8_textAt_20 ?_
          refine rN ?_
          refine g_astoreN (L1 := [some (.ref 0), some (.int (iZ a)), some (.int (iZ b)), some (.int (iZ i)), some (.null), some (.null), some (.null)]) 21 dX8_round_19 (by decide) rfl rfl rfl ?_
          refine g_aloadN 23 dX8_round_21 rfl rfl ?_
          refine g_ifnullN 36 dX8_round_23 rfl ?_
          refine g_iconst (v := iZ (-1)) 37 dX8_round_36 rfl rfl ?_
          refine g_iret rfl dX8_round_37 ?_
          exact k _ (-1) (by decide) HS (Scr.refl _)
        · refine g_iload_n 5 dX8_textAt_4 rfl rfl ?_
          refine g_bipush (v := iZ (8)) 7 dX8_textAt_5 (by decide +kernel) rfl ?_
          refine g_icZ_lt 14 10 dX8_textAt_7 rfl rfl ri (by decide) (fun c7 => ?_) (fun c7 => ?_)
          · refine g_aload_n 15 dX8_textAt_14 rfl rfl ?_
            refine g_get 18 dX8_textAt_15 faX8_16_X8 F0 rfl rfl ?_
            refine g_iload_n 19 dX8_textAt_18 rfl rfl ?_
            refine g_aaldZ 20 dX8_textAt_19 F3 (by decide) (by omega) (by omega) (by decide) (txs_at (by omega) (by omega)) rfl ?_
            refine g_aret rfl (Or.inr ⟨_, rfl⟩) dX8_textAt_20 ?_
            refine rR ?_
            refine g_astore (L1 := [some (.ref 0), some (.int (iZ a)), some (.int (iZ b)), some (.int (iZ i)), some (.null), some (.null), some (.ref (34 + 2 * i.toNat))]) 21 dX8_round_19 (by decide) rfl rfl rfl ?_
            refine g_aloadN 23 dX8_round_21 rfl rfl ?_
            refine g_ifnullN 36 dX8_round_23 rfl ?_
            refine g_iconst (v := iZ (-1)) 37 dX8_round_36 rfl rfl ?_
            refine g_iret rfl dX8_round_37 ?_
            exact k _ (-1) (by decide) HS (Scr.refl _)
          · refine g_null 11 dX8_textAt_10 rfl ?_
            refine g_goto 20 dX8_textAt_11 rfl ?_
            refine g_aret rfl (Or.inl rfl) dX8_textAt_20 ?_
            refine rN ?_
            refine g_astoreN (L1 := [some (.ref 0), some (.int (iZ a)), some (.int (iZ b)), some (.int (iZ i)), some (.null), some (.null), some (.null)]) 21 dX8_round_19 (by decide) rfl rfl rfl ?_
            refine g_aloadN 23 dX8_round_21 rfl rfl ?_
            refine g_ifnullN 36 dX8_round_23 rfl ?_
            refine g_iconst (v := iZ (-1)) 37 dX8_round_36 rfl rfl ?_
            refine g_iret rfl dX8_round_37 ?_
            exact k _ (-1) (by decide) HS (Scr.refl _)
      · refine g_iload_n 13 dX8_toolAt_12 rfl rfl ?_
        refine g_bipush (v := iZ (12)) 15 dX8_toolAt_13 (by decide +kernel) rfl ?_
        refine g_icZ_lt 22 18 dX8_toolAt_15 rfl rfl rb (by decide) (fun c8 => ?_) (fun c8 => ?_)
        · refine g_aload_n 23 dX8_toolAt_22 rfl rfl ?_
          refine g_get 26 dX8_toolAt_23 faX8_22_X8 F0 rfl rfl ?_
          refine g_iload_n 27 dX8_toolAt_26 rfl rfl ?_
          refine g_aaldZ 28 dX8_toolAt_27 F4 (by decide) (by omega) (by omega) (by decide) (tls_at (by omega) (by omega)) rfl ?_
          refine g_aret rfl (Or.inr ⟨_, rfl⟩) dX8_toolAt_28 ?_
          refine rR ?_
          refine g_astore (L1 := [some (.ref 0), some (.int (iZ a)), some (.int (iZ b)), some (.int (iZ i)), some (.null), some (.ref (71 + 4 * b.toNat)), none]) 14 dX8_round_12 (by decide) rfl rfl rfl ?_
          refine g_aload_n 15 dX8_round_14 rfl rfl ?_
          refine g_iload_n 16 dX8_round_15 rfl rfl ?_
          refine g_callV (z := mX8_textAt) (As := [.int (iZ i)]) 19 dX8_round_16 mwX8_textAt ⟨by decide, by decide⟩ rfl wlX8_74 wiX8_textAt wsX8_textAt F0 rfl rfl rfl (nle rfl) (nle rfl) rfl ?_
          refine Go.to [some (.ref 0), some (.int (iZ i))] [] rfl rfl ?_
          refine g_iload_n 1 dX8_textAt_0 rfl rfl ?_
          refine g_ifZ_lt 10 4 dX8_textAt_1 rfl rfl ri (fun c9 => ?_) (fun c9 => ?_)
          · refine g_null 11 dX8_textAt_10 rfl ?_
            refine g_goto 20 dX8_textAt_11 rfl ?_
            refine g_aret rfl (Or.inl rfl) dX8_textAt_20 ?_
            refine rN ?_
            refine g_astoreN (L1 := [some (.ref 0), some (.int (iZ a)), some (.int (iZ b)), some (.int (iZ i)), some (.null), some (.ref (71 + 4 * b.toNat)), some (.null)]) 21 dX8_round_19 (by decide) rfl rfl rfl ?_
            refine g_aloadN 23 dX8_round_21 rfl rfl ?_
            refine g_ifnullN 36 dX8_round_23 rfl ?_
            refine g_iconst (v := iZ (-1)) 37 dX8_round_36 rfl rfl ?_
            refine g_iret rfl dX8_round_37 ?_
            exact k _ (-1) (by decide) HS (Scr.refl _)
          · refine g_iload_n 5 dX8_textAt_4 rfl rfl ?_
            refine g_bipush (v := iZ (8)) 7 dX8_textAt_5 (by decide +kernel) rfl ?_
            refine g_icZ_lt 14 10 dX8_textAt_7 rfl rfl ri (by decide) (fun c10 => ?_) (fun c10 => ?_)
            · refine g_aload_n 15 dX8_textAt_14 rfl rfl ?_
              refine g_get 18 dX8_textAt_15 faX8_16_X8 F0 rfl rfl ?_
              refine g_iload_n 19 dX8_textAt_18 rfl rfl ?_
              refine g_aaldZ 20 dX8_textAt_19 F3 (by decide) (by omega) (by omega) (by decide) (txs_at (by omega) (by omega)) rfl ?_
              refine g_aret rfl (Or.inr ⟨_, rfl⟩) dX8_textAt_20 ?_
              refine rR ?_
              refine g_astore (L1 := [some (.ref 0), some (.int (iZ a)), some (.int (iZ b)), some (.int (iZ i)), some (.null), some (.ref (71 + 4 * b.toNat)), some (.ref (34 + 2 * i.toNat))]) 21 dX8_round_19 (by decide) rfl rfl rfl ?_
              refine g_aloadN 23 dX8_round_21 rfl rfl ?_
              refine g_ifnullN 36 dX8_round_23 rfl ?_
              refine g_iconst (v := iZ (-1)) 37 dX8_round_36 rfl rfl ?_
              refine g_iret rfl dX8_round_37 ?_
              exact k _ (-1) (by decide) HS (Scr.refl _)
            · refine g_null 11 dX8_textAt_10 rfl ?_
              refine g_goto 20 dX8_textAt_11 rfl ?_
              refine g_aret rfl (Or.inl rfl) dX8_textAt_20 ?_
              refine rN ?_
              refine g_astoreN (L1 := [some (.ref 0), some (.int (iZ a)), some (.int (iZ b)), some (.int (iZ i)), some (.null), some (.ref (71 + 4 * b.toNat)), some (.null)]) 21 dX8_round_19 (by decide) rfl rfl rfl ?_
              refine g_aloadN 23 dX8_round_21 rfl rfl ?_
              refine g_ifnullN 36 dX8_round_23 rfl ?_
              refine g_iconst (v := iZ (-1)) 37 dX8_round_36 rfl rfl ?_
              refine g_iret rfl dX8_round_37 ?_
              exact k _ (-1) (by decide) HS (Scr.refl _)
        · refine g_null 19 dX8_toolAt_18 rfl ?_
          refine g_goto 28 dX8_toolAt_19 rfl ?_
          refine g_aret rfl (Or.inl rfl) dX8_toolAt_28 ?_
          refine rN ?_
          refine g_astoreN (L1 := [some (.ref 0), some (.int (iZ a)), some (.int (iZ b)), some (.int (iZ i)), some (.null), some (.null), none]) 14 dX8_round_12 (by decide) rfl rfl rfl ?_
          refine g_aload_n 15 dX8_round_14 rfl rfl ?_
          refine g_iload_n 16 dX8_round_15 rfl rfl ?_
          refine g_callV (z := mX8_textAt) (As := [.int (iZ i)]) 19 dX8_round_16 mwX8_textAt ⟨by decide, by decide⟩ rfl wlX8_74 wiX8_textAt wsX8_textAt F0 rfl rfl rfl (nle rfl) (nle rfl) rfl ?_
          refine Go.to [some (.ref 0), some (.int (iZ i))] [] rfl rfl ?_
          refine g_iload_n 1 dX8_textAt_0 rfl rfl ?_
          refine g_ifZ_lt 10 4 dX8_textAt_1 rfl rfl ri (fun c11 => ?_) (fun c11 => ?_)
          · refine g_null 11 dX8_textAt_10 rfl ?_
            refine g_goto 20 dX8_textAt_11 rfl ?_
            refine g_aret rfl (Or.inl rfl) dX8_textAt_20 ?_
            refine rN ?_
            refine g_astoreN (L1 := [some (.ref 0), some (.int (iZ a)), some (.int (iZ b)), some (.int (iZ i)), some (.null), some (.null), some (.null)]) 21 dX8_round_19 (by decide) rfl rfl rfl ?_
            refine g_aloadN 23 dX8_round_21 rfl rfl ?_
            refine g_ifnullN 36 dX8_round_23 rfl ?_
            refine g_iconst (v := iZ (-1)) 37 dX8_round_36 rfl rfl ?_
            refine g_iret rfl dX8_round_37 ?_
            exact k _ (-1) (by decide) HS (Scr.refl _)
          · refine g_iload_n 5 dX8_textAt_4 rfl rfl ?_
            refine g_bipush (v := iZ (8)) 7 dX8_textAt_5 (by decide +kernel) rfl ?_
            refine g_icZ_lt 14 10 dX8_textAt_7 rfl rfl ri (by decide) (fun c12 => ?_) (fun c12 => ?_)
            · refine g_aload_n 15 dX8_textAt_14 rfl rfl ?_
              refine g_get 18 dX8_textAt_15 faX8_16_X8 F0 rfl rfl ?_
              refine g_iload_n 19 dX8_textAt_18 rfl rfl ?_
              refine g_aaldZ 20 dX8_textAt_19 F3 (by decide) (by omega) (by omega) (by decide) (txs_at (by omega) (by omega)) rfl ?_
              refine g_aret rfl (Or.inr ⟨_, rfl⟩) dX8_textAt_20 ?_
              refine rR ?_
              refine g_astore (L1 := [some (.ref 0), some (.int (iZ a)), some (.int (iZ b)), some (.int (iZ i)), some (.null), some (.null), some (.ref (34 + 2 * i.toNat))]) 21 dX8_round_19 (by decide) rfl rfl rfl ?_
              refine g_aloadN 23 dX8_round_21 rfl rfl ?_
              refine g_ifnullN 36 dX8_round_23 rfl ?_
              refine g_iconst (v := iZ (-1)) 37 dX8_round_36 rfl rfl ?_
              refine g_iret rfl dX8_round_37 ?_
              exact k _ (-1) (by decide) HS (Scr.refl _)
            · refine g_null 11 dX8_textAt_10 rfl ?_
              refine g_goto 20 dX8_textAt_11 rfl ?_
              refine g_aret rfl (Or.inl rfl) dX8_textAt_20 ?_
              refine rN ?_
              refine g_astoreN (L1 := [some (.ref 0), some (.int (iZ a)), some (.int (iZ b)), some (.int (iZ i)), some (.null), some (.null), some (.null)]) 21 dX8_round_19 (by decide) rfl rfl rfl ?_
              refine g_aloadN 23 dX8_round_21 rfl rfl ?_
              refine g_ifnullN 36 dX8_round_23 rfl ?_
              refine g_iconst (v := iZ (-1)) 37 dX8_round_36 rfl rfl ?_
              refine g_iret rfl dX8_round_37 ?_
              exact k _ (-1) (by decide) HS (Scr.refl _)
  · refine g_iload_n 5 dX8_toolAt_4 rfl rfl ?_
    refine g_aload_n 6 dX8_toolAt_5 rfl rfl ?_
    refine g_get 9 dX8_toolAt_6 faX8_26_X8 F0 rfl rfl ?_
    refine g_icZ_ge 18 12 dX8_toolAt_9 rfl rfl ra (by omega) (fun c13 => ?_) (fun c13 => ?_)
    · refine g_null 19 dX8_toolAt_18 rfl ?_
      refine g_goto 28 dX8_toolAt_19 rfl ?_
      refine g_aret rfl (Or.inl rfl) dX8_toolAt_28 ?_
      refine rN ?_
      refine g_astoreN (L1 := [some (.ref 0), some (.int (iZ a)), some (.int (iZ b)), some (.int (iZ i)), some (.null), none, none]) 7 dX8_round_5 (by decide) rfl rfl rfl ?_
      refine g_aload_n 8 dX8_round_7 rfl rfl ?_
      refine g_iload_n 9 dX8_round_8 rfl rfl ?_
      refine g_callV (z := mX8_toolAt) (As := [.int (iZ b)]) 12 dX8_round_9 mwX8_toolAt ⟨by decide, by decide⟩ rfl wlX8_90 wiX8_toolAt wsX8_toolAt F0 rfl rfl rfl (nle rfl) (nle rfl) rfl ?_
      refine Go.to [some (.ref 0), some (.int (iZ b))] [] rfl rfl ?_
      refine g_iload_n 1 dX8_toolAt_0 rfl rfl ?_
      refine g_ifZ_lt 18 4 dX8_toolAt_1 rfl rfl rb (fun c14 => ?_) (fun c14 => ?_)
      · refine g_null 19 dX8_toolAt_18 rfl ?_
        refine g_goto 28 dX8_toolAt_19 rfl ?_
        refine g_aret rfl (Or.inl rfl) dX8_toolAt_28 ?_
        refine rN ?_
        refine g_astoreN (L1 := [some (.ref 0), some (.int (iZ a)), some (.int (iZ b)), some (.int (iZ i)), some (.null), some (.null), none]) 14 dX8_round_12 (by decide) rfl rfl rfl ?_
        refine g_aload_n 15 dX8_round_14 rfl rfl ?_
        refine g_iload_n 16 dX8_round_15 rfl rfl ?_
        refine g_callV (z := mX8_textAt) (As := [.int (iZ i)]) 19 dX8_round_16 mwX8_textAt ⟨by decide, by decide⟩ rfl wlX8_74 wiX8_textAt wsX8_textAt F0 rfl rfl rfl (nle rfl) (nle rfl) rfl ?_
        refine Go.to [some (.ref 0), some (.int (iZ i))] [] rfl rfl ?_
        refine g_iload_n 1 dX8_textAt_0 rfl rfl ?_
        refine g_ifZ_lt 10 4 dX8_textAt_1 rfl rfl ri (fun c15 => ?_) (fun c15 => ?_)
        · refine g_null 11 dX8_textAt_10 rfl ?_
          refine g_goto 20 dX8_textAt_11 rfl ?_
          refine g_aret rfl (Or.inl rfl) dX8_textAt_20 ?_
          refine rN ?_
          refine g_astoreN (L1 := [some (.ref 0), some (.int (iZ a)), some (.int (iZ b)), some (.int (iZ i)), some (.null), some (.null), some (.null)]) 21 dX8_round_19 (by decide) rfl rfl rfl ?_
          refine g_aloadN 23 dX8_round_21 rfl rfl ?_
          refine g_ifnullN 36 dX8_round_23 rfl ?_
          refine g_iconst (v := iZ (-1)) 37 dX8_round_36 rfl rfl ?_
          refine g_iret rfl dX8_round_37 ?_
          exact k _ (-1) (by decide) HS (Scr.refl _)
        · refine g_iload_n 5 dX8_textAt_4 rfl rfl ?_
          refine g_bipush (v := iZ (8)) 7 dX8_textAt_5 (by decide +kernel) rfl ?_
          refine g_icZ_lt 14 10 dX8_textAt_7 rfl rfl ri (by decide) (fun c16 => ?_) (fun c16 => ?_)
          · refine g_aload_n 15 dX8_textAt_14 rfl rfl ?_
            refine g_get 18 dX8_textAt_15 faX8_16_X8 F0 rfl rfl ?_
            refine g_iload_n 19 dX8_textAt_18 rfl rfl ?_
            refine g_aaldZ 20 dX8_textAt_19 F3 (by decide) (by omega) (by omega) (by decide) (txs_at (by omega) (by omega)) rfl ?_
            refine g_aret rfl (Or.inr ⟨_, rfl⟩) dX8_textAt_20 ?_
            refine rR ?_
            refine g_astore (L1 := [some (.ref 0), some (.int (iZ a)), some (.int (iZ b)), some (.int (iZ i)), some (.null), some (.null), some (.ref (34 + 2 * i.toNat))]) 21 dX8_round_19 (by decide) rfl rfl rfl ?_
            refine g_aloadN 23 dX8_round_21 rfl rfl ?_
            refine g_ifnullN 36 dX8_round_23 rfl ?_
            refine g_iconst (v := iZ (-1)) 37 dX8_round_36 rfl rfl ?_
            refine g_iret rfl dX8_round_37 ?_
            exact k _ (-1) (by decide) HS (Scr.refl _)
          · refine g_null 11 dX8_textAt_10 rfl ?_
            refine g_goto 20 dX8_textAt_11 rfl ?_
            refine g_aret rfl (Or.inl rfl) dX8_textAt_20 ?_
            refine rN ?_
            refine g_astoreN (L1 := [some (.ref 0), some (.int (iZ a)), some (.int (iZ b)), some (.int (iZ i)), some (.null), some (.null), some (.null)]) 21 dX8_round_19 (by decide) rfl rfl rfl ?_
            refine g_aloadN 23 dX8_round_21 rfl rfl ?_
            refine g_ifnullN 36 dX8_round_23 rfl ?_
            refine g_iconst (v := iZ (-1)) 37 dX8_round_36 rfl rfl ?_
            refine g_iret rfl dX8_round_37 ?_
            exact k _ (-1) (by decide) HS (Scr.refl _)
      · refine g_iload_n 5 dX8_toolAt_4 rfl rfl ?_
        refine g_aload_n 6 dX8_toolAt_5 rfl rfl ?_
        refine g_get 9 dX8_toolAt_6 faX8_26_X8 F0 rfl rfl ?_
        refine g_icZ_ge 18 12 dX8_toolAt_9 rfl rfl rb (by omega) (fun c17 => ?_) (fun c17 => ?_)
        · refine g_null 19 dX8_toolAt_18 rfl ?_
          refine g_goto 28 dX8_toolAt_19 rfl ?_
          refine g_aret rfl (Or.inl rfl) dX8_toolAt_28 ?_
          refine rN ?_
          refine g_astoreN (L1 := [some (.ref 0), some (.int (iZ a)), some (.int (iZ b)), some (.int (iZ i)), some (.null), some (.null), none]) 14 dX8_round_12 (by decide) rfl rfl rfl ?_
          refine g_aload_n 15 dX8_round_14 rfl rfl ?_
          refine g_iload_n 16 dX8_round_15 rfl rfl ?_
          refine g_callV (z := mX8_textAt) (As := [.int (iZ i)]) 19 dX8_round_16 mwX8_textAt ⟨by decide, by decide⟩ rfl wlX8_74 wiX8_textAt wsX8_textAt F0 rfl rfl rfl (nle rfl) (nle rfl) rfl ?_
          refine Go.to [some (.ref 0), some (.int (iZ i))] [] rfl rfl ?_
          refine g_iload_n 1 dX8_textAt_0 rfl rfl ?_
          refine g_ifZ_lt 10 4 dX8_textAt_1 rfl rfl ri (fun c18 => ?_) (fun c18 => ?_)
          · refine g_null 11 dX8_textAt_10 rfl ?_
            refine g_goto 20 dX8_textAt_11 rfl ?_
            refine g_aret rfl (Or.inl rfl) dX8_textAt_20 ?_
            refine rN ?_
            refine g_astoreN (L1 := [some (.ref 0), some (.int (iZ a)), some (.int (iZ b)), some (.int (iZ i)), some (.null), some (.null), some (.null)]) 21 dX8_round_19 (by decide) rfl rfl rfl ?_
            refine g_aloadN 23 dX8_round_21 rfl rfl ?_
            refine g_ifnullN 36 dX8_round_23 rfl ?_
            refine g_iconst (v := iZ (-1)) 37 dX8_round_36 rfl rfl ?_
            refine g_iret rfl dX8_round_37 ?_
            exact k _ (-1) (by decide) HS (Scr.refl _)
          · refine g_iload_n 5 dX8_textAt_4 rfl rfl ?_
            refine g_bipush (v := iZ (8)) 7 dX8_textAt_5 (by decide +kernel) rfl ?_
            refine g_icZ_lt 14 10 dX8_textAt_7 rfl rfl ri (by decide) (fun c19 => ?_) (fun c19 => ?_)
            · refine g_aload_n 15 dX8_textAt_14 rfl rfl ?_
              refine g_get 18 dX8_textAt_15 faX8_16_X8 F0 rfl rfl ?_
              refine g_iload_n 19 dX8_textAt_18 rfl rfl ?_
              refine g_aaldZ 20 dX8_textAt_19 F3 (by decide) (by omega) (by omega) (by decide) (txs_at (by omega) (by omega)) rfl ?_
              refine g_aret rfl (Or.inr ⟨_, rfl⟩) dX8_textAt_20 ?_
              refine rR ?_
              refine g_astore (L1 := [some (.ref 0), some (.int (iZ a)), some (.int (iZ b)), some (.int (iZ i)), some (.null), some (.null), some (.ref (34 + 2 * i.toNat))]) 21 dX8_round_19 (by decide) rfl rfl rfl ?_
              refine g_aloadN 23 dX8_round_21 rfl rfl ?_
              refine g_ifnullN 36 dX8_round_23 rfl ?_
              refine g_iconst (v := iZ (-1)) 37 dX8_round_36 rfl rfl ?_
              refine g_iret rfl dX8_round_37 ?_
              exact k _ (-1) (by decide) HS (Scr.refl _)
            · refine g_null 11 dX8_textAt_10 rfl ?_
              refine g_goto 20 dX8_textAt_11 rfl ?_
              refine g_aret rfl (Or.inl rfl) dX8_textAt_20 ?_
              refine rN ?_
              refine g_astoreN (L1 := [some (.ref 0), some (.int (iZ a)), some (.int (iZ b)), some (.int (iZ i)), some (.null), some (.null), some (.null)]) 21 dX8_round_19 (by decide) rfl rfl rfl ?_
              refine g_aloadN 23 dX8_round_21 rfl rfl ?_
              refine g_ifnullN 36 dX8_round_23 rfl ?_
              refine g_iconst (v := iZ (-1)) 37 dX8_round_36 rfl rfl ?_
              refine g_iret rfl dX8_round_37 ?_
              exact k _ (-1) (by decide) HS (Scr.refl _)
        · refine g_iload_n 13 dX8_toolAt_12 rfl rfl ?_
          refine g_bipush (v := iZ (12)) 15 dX8_toolAt_13 (by decide +kernel) rfl ?_
          refine g_icZ_lt 22 18 dX8_toolAt_15 rfl rfl rb (by decide) (fun c20 => ?_) (fun c20 => ?_)
          · refine g_aload_n 23 dX8_toolAt_22 rfl rfl ?_
            refine g_get 26 dX8_toolAt_23 faX8_22_X8 F0 rfl rfl ?_
            refine g_iload_n 27 dX8_toolAt_26 rfl rfl ?_
            refine g_aaldZ 28 dX8_toolAt_27 F4 (by decide) (by omega) (by omega) (by decide) (tls_at (by omega) (by omega)) rfl ?_
            refine g_aret rfl (Or.inr ⟨_, rfl⟩) dX8_toolAt_28 ?_
            refine rR ?_
            refine g_astore (L1 := [some (.ref 0), some (.int (iZ a)), some (.int (iZ b)), some (.int (iZ i)), some (.null), some (.ref (71 + 4 * b.toNat)), none]) 14 dX8_round_12 (by decide) rfl rfl rfl ?_
            refine g_aload_n 15 dX8_round_14 rfl rfl ?_
            refine g_iload_n 16 dX8_round_15 rfl rfl ?_
            refine g_callV (z := mX8_textAt) (As := [.int (iZ i)]) 19 dX8_round_16 mwX8_textAt ⟨by decide, by decide⟩ rfl wlX8_74 wiX8_textAt wsX8_textAt F0 rfl rfl rfl (nle rfl) (nle rfl) rfl ?_
            refine Go.to [some (.ref 0), some (.int (iZ i))] [] rfl rfl ?_
            refine g_iload_n 1 dX8_textAt_0 rfl rfl ?_
            refine g_ifZ_lt 10 4 dX8_textAt_1 rfl rfl ri (fun c21 => ?_) (fun c21 => ?_)
            · refine g_null 11 dX8_textAt_10 rfl ?_
              refine g_goto 20 dX8_textAt_11 rfl ?_
              refine g_aret rfl (Or.inl rfl) dX8_textAt_20 ?_
              refine rN ?_
              refine g_astoreN (L1 := [some (.ref 0), some (.int (iZ a)), some (.int (iZ b)), some (.int (iZ i)), some (.null), some (.ref (71 + 4 * b.toNat)), some (.null)]) 21 dX8_round_19 (by decide) rfl rfl rfl ?_
              refine g_aloadN 23 dX8_round_21 rfl rfl ?_
              refine g_ifnullN 36 dX8_round_23 rfl ?_
              refine g_iconst (v := iZ (-1)) 37 dX8_round_36 rfl rfl ?_
              refine g_iret rfl dX8_round_37 ?_
              exact k _ (-1) (by decide) HS (Scr.refl _)
            · refine g_iload_n 5 dX8_textAt_4 rfl rfl ?_
              refine g_bipush (v := iZ (8)) 7 dX8_textAt_5 (by decide +kernel) rfl ?_
              refine g_icZ_lt 14 10 dX8_textAt_7 rfl rfl ri (by decide) (fun c22 => ?_) (fun c22 => ?_)
              · refine g_aload_n 15 dX8_textAt_14 rfl rfl ?_
                refine g_get 18 dX8_textAt_15 faX8_16_X8 F0 rfl rfl ?_
                refine g_iload_n 19 dX8_textAt_18 rfl rfl ?_
                refine g_aaldZ 20 dX8_textAt_19 F3 (by decide) (by omega) (by omega) (by decide) (txs_at (by omega) (by omega)) rfl ?_
                refine g_aret rfl (Or.inr ⟨_, rfl⟩) dX8_textAt_20 ?_
                refine rR ?_
                refine g_astore (L1 := [some (.ref 0), some (.int (iZ a)), some (.int (iZ b)), some (.int (iZ i)), some (.null), some (.ref (71 + 4 * b.toNat)), some (.ref (34 + 2 * i.toNat))]) 21 dX8_round_19 (by decide) rfl rfl rfl ?_
                refine g_aloadN 23 dX8_round_21 rfl rfl ?_
                refine g_ifnullN 36 dX8_round_23 rfl ?_
                refine g_iconst (v := iZ (-1)) 37 dX8_round_36 rfl rfl ?_
                refine g_iret rfl dX8_round_37 ?_
                exact k _ (-1) (by decide) HS (Scr.refl _)
              · refine g_null 11 dX8_textAt_10 rfl ?_
                refine g_goto 20 dX8_textAt_11 rfl ?_
                refine g_aret rfl (Or.inl rfl) dX8_textAt_20 ?_
                refine rN ?_
                refine g_astoreN (L1 := [some (.ref 0), some (.int (iZ a)), some (.int (iZ b)), some (.int (iZ i)), some (.null), some (.ref (71 + 4 * b.toNat)), some (.null)]) 21 dX8_round_19 (by decide) rfl rfl rfl ?_
                refine g_aloadN 23 dX8_round_21 rfl rfl ?_
                refine g_ifnullN 36 dX8_round_23 rfl ?_
                refine g_iconst (v := iZ (-1)) 37 dX8_round_36 rfl rfl ?_
                refine g_iret rfl dX8_round_37 ?_
                exact k _ (-1) (by decide) HS (Scr.refl _)
          · refine g_null 19 dX8_toolAt_18 rfl ?_
            refine g_goto 28 dX8_toolAt_19 rfl ?_
            refine g_aret rfl (Or.inl rfl) dX8_toolAt_28 ?_
            refine rN ?_
            refine g_astoreN (L1 := [some (.ref 0), some (.int (iZ a)), some (.int (iZ b)), some (.int (iZ i)), some (.null), some (.null), none]) 14 dX8_round_12 (by decide) rfl rfl rfl ?_
            refine g_aload_n 15 dX8_round_14 rfl rfl ?_
            refine g_iload_n 16 dX8_round_15 rfl rfl ?_
            refine g_callV (z := mX8_textAt) (As := [.int (iZ i)]) 19 dX8_round_16 mwX8_textAt ⟨by decide, by decide⟩ rfl wlX8_74 wiX8_textAt wsX8_textAt F0 rfl rfl rfl (nle rfl) (nle rfl) rfl ?_
            refine Go.to [some (.ref 0), some (.int (iZ i))] [] rfl rfl ?_
            refine g_iload_n 1 dX8_textAt_0 rfl rfl ?_
            refine g_ifZ_lt 10 4 dX8_textAt_1 rfl rfl ri (fun c23 => ?_) (fun c23 => ?_)
            · refine g_null 11 dX8_textAt_10 rfl ?_
              refine g_goto 20 dX8_textAt_11 rfl ?_
              refine g_aret rfl (Or.inl rfl) dX8_textAt_20 ?_
              refine rN ?_
              refine g_astoreN (L1 := [some (.ref 0), some (.int (iZ a)), some (.int (iZ b)), some (.int (iZ i)), some (.null), some (.null), some (.null)]) 21 dX8_round_19 (by decide) rfl rfl rfl ?_
              refine g_aloadN 23 dX8_round_21 rfl rfl ?_
              refine g_ifnullN 36 dX8_round_23 rfl ?_
              refine g_iconst (v := iZ (-1)) 37 dX8_round_36 rfl rfl ?_
              refine g_iret rfl dX8_round_37 ?_
              exact k _ (-1) (by decide) HS (Scr.refl _)
            · refine g_iload_n 5 dX8_textAt_4 rfl rfl ?_
              refine g_bipush (v := iZ (8)) 7 dX8_textAt_5 (by decide +kernel) rfl ?_
              refine g_icZ_lt 14 10 dX8_textAt_7 rfl rfl ri (by decide) (fun c24 => ?_) (fun c24 => ?_)
              · refine g_aload_n 15 dX8_textAt_14 rfl rfl ?_
                refine g_get 18 dX8_textAt_15 faX8_16_X8 F0 rfl rfl ?_
                refine g_iload_n 19 dX8_textAt_18 rfl rfl ?_
                refine g_aaldZ 20 dX8_textAt_19 F3 (by decide) (by omega) (by omega) (by decide) (txs_at (by omega) (by omega)) rfl ?_
                refine g_aret rfl (Or.inr ⟨_, rfl⟩) dX8_textAt_20 ?_
                refine rR ?_
                refine g_astore (L1 := [some (.ref 0), some (.int (iZ a)), some (.int (iZ b)), some (.int (iZ i)), some (.null), some (.null), some (.ref (34 + 2 * i.toNat))]) 21 dX8_round_19 (by decide) rfl rfl rfl ?_
                refine g_aloadN 23 dX8_round_21 rfl rfl ?_
                refine g_ifnullN 36 dX8_round_23 rfl ?_
                refine g_iconst (v := iZ (-1)) 37 dX8_round_36 rfl rfl ?_
                refine g_iret rfl dX8_round_37 ?_
                exact k _ (-1) (by decide) HS (Scr.refl _)
              · refine g_null 11 dX8_textAt_10 rfl ?_
                refine g_goto 20 dX8_textAt_11 rfl ?_
                refine g_aret rfl (Or.inl rfl) dX8_textAt_20 ?_
                refine rN ?_
                refine g_astoreN (L1 := [some (.ref 0), some (.int (iZ a)), some (.int (iZ b)), some (.int (iZ i)), some (.null), some (.null), some (.null)]) 21 dX8_round_19 (by decide) rfl rfl rfl ?_
                refine g_aloadN 23 dX8_round_21 rfl rfl ?_
                refine g_ifnullN 36 dX8_round_23 rfl ?_
                refine g_iconst (v := iZ (-1)) 37 dX8_round_36 rfl rfl ?_
                refine g_iret rfl dX8_round_37 ?_
                exact k _ (-1) (by decide) HS (Scr.refl _)
    · refine g_iload_n 13 dX8_toolAt_12 rfl rfl ?_
      refine g_bipush (v := iZ (12)) 15 dX8_toolAt_13 (by decide +kernel) rfl ?_
      refine g_icZ_lt 22 18 dX8_toolAt_15 rfl rfl ra (by decide) (fun c25 => ?_) (fun c25 => ?_)
      · refine g_aload_n 23 dX8_toolAt_22 rfl rfl ?_
        refine g_get 26 dX8_toolAt_23 faX8_22_X8 F0 rfl rfl ?_
        refine g_iload_n 27 dX8_toolAt_26 rfl rfl ?_
        refine g_aaldZ 28 dX8_toolAt_27 F4 (by decide) (by omega) (by omega) (by decide) (tls_at (by omega) (by omega)) rfl ?_
        refine g_aret rfl (Or.inr ⟨_, rfl⟩) dX8_toolAt_28 ?_
        refine rR ?_
        refine g_astore (L1 := [some (.ref 0), some (.int (iZ a)), some (.int (iZ b)), some (.int (iZ i)), some (.ref (71 + 4 * a.toNat)), none, none]) 7 dX8_round_5 (by decide) rfl rfl rfl ?_
        refine g_aload_n 8 dX8_round_7 rfl rfl ?_
        refine g_iload_n 9 dX8_round_8 rfl rfl ?_
        refine g_callV (z := mX8_toolAt) (As := [.int (iZ b)]) 12 dX8_round_9 mwX8_toolAt ⟨by decide, by decide⟩ rfl wlX8_90 wiX8_toolAt wsX8_toolAt F0 rfl rfl rfl (nle rfl) (nle rfl) rfl ?_
        refine Go.to [some (.ref 0), some (.int (iZ b))] [] rfl rfl ?_
        refine g_iload_n 1 dX8_toolAt_0 rfl rfl ?_
        refine g_ifZ_lt 18 4 dX8_toolAt_1 rfl rfl rb (fun c26 => ?_) (fun c26 => ?_)
        · refine g_null 19 dX8_toolAt_18 rfl ?_
          refine g_goto 28 dX8_toolAt_19 rfl ?_
          refine g_aret rfl (Or.inl rfl) dX8_toolAt_28 ?_
          refine rN ?_
          refine g_astoreN (L1 := [some (.ref 0), some (.int (iZ a)), some (.int (iZ b)), some (.int (iZ i)), some (.ref (71 + 4 * a.toNat)), some (.null), none]) 14 dX8_round_12 (by decide) rfl rfl rfl ?_
          refine g_aload_n 15 dX8_round_14 rfl rfl ?_
          refine g_iload_n 16 dX8_round_15 rfl rfl ?_
          refine g_callV (z := mX8_textAt) (As := [.int (iZ i)]) 19 dX8_round_16 mwX8_textAt ⟨by decide, by decide⟩ rfl wlX8_74 wiX8_textAt wsX8_textAt F0 rfl rfl rfl (nle rfl) (nle rfl) rfl ?_
          refine Go.to [some (.ref 0), some (.int (iZ i))] [] rfl rfl ?_
          refine g_iload_n 1 dX8_textAt_0 rfl rfl ?_
          refine g_ifZ_lt 10 4 dX8_textAt_1 rfl rfl ri (fun c27 => ?_) (fun c27 => ?_)
          · refine g_null 11 dX8_textAt_10 rfl ?_
            refine g_goto 20 dX8_textAt_11 rfl ?_
            refine g_aret rfl (Or.inl rfl) dX8_textAt_20 ?_
            refine rN ?_
            refine g_astoreN (L1 := [some (.ref 0), some (.int (iZ a)), some (.int (iZ b)), some (.int (iZ i)), some (.ref (71 + 4 * a.toNat)), some (.null), some (.null)]) 21 dX8_round_19 (by decide) rfl rfl rfl ?_
            refine g_aload 23 dX8_round_21 rfl rfl ?_
            refine g_ifnull 26 dX8_round_23 rfl ?_
            refine g_aloadN 28 dX8_round_26 rfl rfl ?_
            refine g_ifnullN 36 dX8_round_28 rfl ?_
            refine g_iconst (v := iZ (-1)) 37 dX8_round_36 rfl rfl ?_
            refine g_iret rfl dX8_round_37 ?_
            exact k _ (-1) (by decide) HS (Scr.refl _)
          · refine g_iload_n 5 dX8_textAt_4 rfl rfl ?_
            refine g_bipush (v := iZ (8)) 7 dX8_textAt_5 (by decide +kernel) rfl ?_
            refine g_icZ_lt 14 10 dX8_textAt_7 rfl rfl ri (by decide) (fun c28 => ?_) (fun c28 => ?_)
            · refine g_aload_n 15 dX8_textAt_14 rfl rfl ?_
              refine g_get 18 dX8_textAt_15 faX8_16_X8 F0 rfl rfl ?_
              refine g_iload_n 19 dX8_textAt_18 rfl rfl ?_
              refine g_aaldZ 20 dX8_textAt_19 F3 (by decide) (by omega) (by omega) (by decide) (txs_at (by omega) (by omega)) rfl ?_
              refine g_aret rfl (Or.inr ⟨_, rfl⟩) dX8_textAt_20 ?_
              refine rR ?_
              refine g_astore (L1 := [some (.ref 0), some (.int (iZ a)), some (.int (iZ b)), some (.int (iZ i)), some (.ref (71 + 4 * a.toNat)), some (.null), some (.ref (34 + 2 * i.toNat))]) 21 dX8_round_19 (by decide) rfl rfl rfl ?_
              refine g_aload 23 dX8_round_21 rfl rfl ?_
              refine g_ifnull 26 dX8_round_23 rfl ?_
              refine g_aloadN 28 dX8_round_26 rfl rfl ?_
              refine g_ifnullN 36 dX8_round_28 rfl ?_
              refine g_iconst (v := iZ (-1)) 37 dX8_round_36 rfl rfl ?_
              refine g_iret rfl dX8_round_37 ?_
              exact k _ (-1) (by decide) HS (Scr.refl _)
            · refine g_null 11 dX8_textAt_10 rfl ?_
              refine g_goto 20 dX8_textAt_11 rfl ?_
              refine g_aret rfl (Or.inl rfl) dX8_textAt_20 ?_
              refine rN ?_
              refine g_astoreN (L1 := [some (.ref 0), some (.int (iZ a)), some (.int (iZ b)), some (.int (iZ i)), some (.ref (71 + 4 * a.toNat)), some (.null), some (.null)]) 21 dX8_round_19 (by decide) rfl rfl rfl ?_
              refine g_aload 23 dX8_round_21 rfl rfl ?_
              refine g_ifnull 26 dX8_round_23 rfl ?_
              refine g_aloadN 28 dX8_round_26 rfl rfl ?_
              refine g_ifnullN 36 dX8_round_28 rfl ?_
              refine g_iconst (v := iZ (-1)) 37 dX8_round_36 rfl rfl ?_
              refine g_iret rfl dX8_round_37 ?_
              exact k _ (-1) (by decide) HS (Scr.refl _)
        · refine g_iload_n 5 dX8_toolAt_4 rfl rfl ?_
          refine g_aload_n 6 dX8_toolAt_5 rfl rfl ?_
          refine g_get 9 dX8_toolAt_6 faX8_26_X8 F0 rfl rfl ?_
          refine g_icZ_ge 18 12 dX8_toolAt_9 rfl rfl rb (by omega) (fun c29 => ?_) (fun c29 => ?_)
          · refine g_null 19 dX8_toolAt_18 rfl ?_
            refine g_goto 28 dX8_toolAt_19 rfl ?_
            refine g_aret rfl (Or.inl rfl) dX8_toolAt_28 ?_
            refine rN ?_
            refine g_astoreN (L1 := [some (.ref 0), some (.int (iZ a)), some (.int (iZ b)), some (.int (iZ i)), some (.ref (71 + 4 * a.toNat)), some (.null), none]) 14 dX8_round_12 (by decide) rfl rfl rfl ?_
            refine g_aload_n 15 dX8_round_14 rfl rfl ?_
            refine g_iload_n 16 dX8_round_15 rfl rfl ?_
            refine g_callV (z := mX8_textAt) (As := [.int (iZ i)]) 19 dX8_round_16 mwX8_textAt ⟨by decide, by decide⟩ rfl wlX8_74 wiX8_textAt wsX8_textAt F0 rfl rfl rfl (nle rfl) (nle rfl) rfl ?_
            refine Go.to [some (.ref 0), some (.int (iZ i))] [] rfl rfl ?_
            refine g_iload_n 1 dX8_textAt_0 rfl rfl ?_
            refine g_ifZ_lt 10 4 dX8_textAt_1 rfl rfl ri (fun c30 => ?_) (fun c30 => ?_)
            · refine g_null 11 dX8_textAt_10 rfl ?_
              refine g_goto 20 dX8_textAt_11 rfl ?_
              refine g_aret rfl (Or.inl rfl) dX8_textAt_20 ?_
              refine rN ?_
              refine g_astoreN (L1 := [some (.ref 0), some (.int (iZ a)), some (.int (iZ b)), some (.int (iZ i)), some (.ref (71 + 4 * a.toNat)), some (.null), some (.null)]) 21 dX8_round_19 (by decide) rfl rfl rfl ?_
              refine g_aload 23 dX8_round_21 rfl rfl ?_
              refine g_ifnull 26 dX8_round_23 rfl ?_
              refine g_aloadN 28 dX8_round_26 rfl rfl ?_
              refine g_ifnullN 36 dX8_round_28 rfl ?_
              refine g_iconst (v := iZ (-1)) 37 dX8_round_36 rfl rfl ?_
              refine g_iret rfl dX8_round_37 ?_
              exact k _ (-1) (by decide) HS (Scr.refl _)
            · refine g_iload_n 5 dX8_textAt_4 rfl rfl ?_
              refine g_bipush (v := iZ (8)) 7 dX8_textAt_5 (by decide +kernel) rfl ?_
              refine g_icZ_lt 14 10 dX8_textAt_7 rfl rfl ri (by decide) (fun c31 => ?_) (fun c31 => ?_)
              · refine g_aload_n 15 dX8_textAt_14 rfl rfl ?_
                refine g_get 18 dX8_textAt_15 faX8_16_X8 F0 rfl rfl ?_
                refine g_iload_n 19 dX8_textAt_18 rfl rfl ?_
                refine g_aaldZ 20 dX8_textAt_19 F3 (by decide) (by omega) (by omega) (by decide) (txs_at (by omega) (by omega)) rfl ?_
                refine g_aret rfl (Or.inr ⟨_, rfl⟩) dX8_textAt_20 ?_
                refine rR ?_
                refine g_astore (L1 := [some (.ref 0), some (.int (iZ a)), some (.int (iZ b)), some (.int (iZ i)), some (.ref (71 + 4 * a.toNat)), some (.null), some (.ref (34 + 2 * i.toNat))]) 21 dX8_round_19 (by decide) rfl rfl rfl ?_
                refine g_aload 23 dX8_round_21 rfl rfl ?_
                refine g_ifnull 26 dX8_round_23 rfl ?_
                refine g_aloadN 28 dX8_round_26 rfl rfl ?_
                refine g_ifnullN 36 dX8_round_28 rfl ?_
                refine g_iconst (v := iZ (-1)) 37 dX8_round_36 rfl rfl ?_
                refine g_iret rfl dX8_round_37 ?_
                exact k _ (-1) (by decide) HS (Scr.refl _)
              · refine g_null 11 dX8_textAt_10 rfl ?_
                refine g_goto 20 dX8_textAt_11 rfl ?_
                refine g_aret rfl (Or.inl rfl) dX8_textAt_20 ?_
                refine rN ?_
                refine g_astoreN (L1 := [some (.ref 0), some (.int (iZ a)), some (.int (iZ b)), some (.int (iZ i)), some (.ref (71 + 4 * a.toNat)), some (.null), some (.null)]) 21 dX8_round_19 (by decide) rfl rfl rfl ?_
                refine g_aload 23 dX8_round_21 rfl rfl ?_
                refine g_ifnull 26 dX8_round_23 rfl ?_
                refine g_aloadN 28 dX8_round_26 rfl rfl ?_
                refine g_ifnullN 36 dX8_round_28 rfl ?_
                refine g_iconst (v := iZ (-1)) 37 dX8_round_36 rfl rfl ?_
                refine g_iret rfl dX8_round_37 ?_
                exact k _ (-1) (by decide) HS (Scr.refl _)
          · refine g_iload_n 13 dX8_toolAt_12 rfl rfl ?_
            refine g_bipush (v := iZ (12)) 15 dX8_toolAt_13 (by decide +kernel) rfl ?_
            refine g_icZ_lt 22 18 dX8_toolAt_15 rfl rfl rb (by decide) (fun c32 => ?_) (fun c32 => ?_)
            · refine g_aload_n 23 dX8_toolAt_22 rfl rfl ?_
              refine g_get 26 dX8_toolAt_23 faX8_22_X8 F0 rfl rfl ?_
              refine g_iload_n 27 dX8_toolAt_26 rfl rfl ?_
              refine g_aaldZ 28 dX8_toolAt_27 F4 (by decide) (by omega) (by omega) (by decide) (tls_at (by omega) (by omega)) rfl ?_
              refine g_aret rfl (Or.inr ⟨_, rfl⟩) dX8_toolAt_28 ?_
              refine rR ?_
              refine g_astore (L1 := [some (.ref 0), some (.int (iZ a)), some (.int (iZ b)), some (.int (iZ i)), some (.ref (71 + 4 * a.toNat)), some (.ref (71 + 4 * b.toNat)), none]) 14 dX8_round_12 (by decide) rfl rfl rfl ?_
              refine g_aload_n 15 dX8_round_14 rfl rfl ?_
              refine g_iload_n 16 dX8_round_15 rfl rfl ?_
              refine g_callV (z := mX8_textAt) (As := [.int (iZ i)]) 19 dX8_round_16 mwX8_textAt ⟨by decide, by decide⟩ rfl wlX8_74 wiX8_textAt wsX8_textAt F0 rfl rfl rfl (nle rfl) (nle rfl) rfl ?_
              refine Go.to [some (.ref 0), some (.int (iZ i))] [] rfl rfl ?_
              refine g_iload_n 1 dX8_textAt_0 rfl rfl ?_
              refine g_ifZ_lt 10 4 dX8_textAt_1 rfl rfl ri (fun c33 => ?_) (fun c33 => ?_)
              · refine g_null 11 dX8_textAt_10 rfl ?_
                refine g_goto 20 dX8_textAt_11 rfl ?_
                refine g_aret rfl (Or.inl rfl) dX8_textAt_20 ?_
                refine rN ?_
                refine g_astoreN (L1 := [some (.ref 0), some (.int (iZ a)), some (.int (iZ b)), some (.int (iZ i)), some (.ref (71 + 4 * a.toNat)), some (.ref (71 + 4 * b.toNat)), some (.null)]) 21 dX8_round_19 (by decide) rfl rfl rfl ?_
                refine g_aload 23 dX8_round_21 rfl rfl ?_
                refine g_ifnull 26 dX8_round_23 rfl ?_
                refine g_aload 28 dX8_round_26 rfl rfl ?_
                refine g_ifnull 31 dX8_round_28 rfl ?_
                refine g_aloadN 33 dX8_round_31 rfl rfl ?_
                refine g_ifnonnullN 36 dX8_round_33 rfl ?_
                refine g_iconst (v := iZ (-1)) 37 dX8_round_36 rfl rfl ?_
                refine g_iret rfl dX8_round_37 ?_
                exact k _ (-1) (by decide) HS (Scr.refl _)
              · refine g_iload_n 5 dX8_textAt_4 rfl rfl ?_
                refine g_bipush (v := iZ (8)) 7 dX8_textAt_5 (by decide +kernel) rfl ?_
                refine g_icZ_lt 14 10 dX8_textAt_7 rfl rfl ri (by decide) (fun c34 => ?_) (fun c34 => ?_)
                · refine g_aload_n 15 dX8_textAt_14 rfl rfl ?_
                  refine g_get 18 dX8_textAt_15 faX8_16_X8 F0 rfl rfl ?_
                  refine g_iload_n 19 dX8_textAt_18 rfl rfl ?_
                  refine g_aaldZ 20 dX8_textAt_19 F3 (by decide) (by omega) (by omega) (by decide) (txs_at (by omega) (by omega)) rfl ?_
                  refine g_aret rfl (Or.inr ⟨_, rfl⟩) dX8_textAt_20 ?_
                  refine rR ?_
                  refine g_astore (L1 := [some (.ref 0), some (.int (iZ a)), some (.int (iZ b)), some (.int (iZ i)), some (.ref (71 + 4 * a.toNat)), some (.ref (71 + 4 * b.toNat)), some (.ref (34 + 2 * i.toNat))]) 21 dX8_round_19 (by decide) rfl rfl rfl ?_
                  refine g_aload 23 dX8_round_21 rfl rfl ?_
                  refine g_ifnull 26 dX8_round_23 rfl ?_
                  refine g_aload 28 dX8_round_26 rfl rfl ?_
                  refine g_ifnull 31 dX8_round_28 rfl ?_
                  refine g_aload 33 dX8_round_31 rfl rfl ?_
                  refine g_ifnonnull 38 dX8_round_33 rfl ?_
                  refine g_aload_n 39 dX8_round_38 rfl rfl ?_
                  refine g_aload 41 dX8_round_39 rfl rfl ?_
                  refine g_aload 43 dX8_round_41 rfl rfl ?_
                  refine g_aload 45 dX8_round_43 rfl rfl ?_
                  refine g_callV (z := mX8_goneRound) (As := [.ref (71 + 4 * a.toNat), .ref (71 + 4 * b.toNat), .ref (34 + 2 * i.toNat)]) 48 dX8_round_45 mwX8_goneRound ⟨by decide, by decide⟩ rfl wlX8_166 wiX8_goneRound wsX8_goneRound F0 rfl rfl rfl (nle rfl) (nle rfl) rfl ?_
                  refine w_round HC HS  (by omega) (by omega) (by omega) (fun h36 z35 rz35 H37 s38 => ?_)
                  refine rI ?_
                  refine g_iret rfl dX8_round_48 ?_
                  exact k _ (z35) rz35 H37 s38
                · refine g_null 11 dX8_textAt_10 rfl ?_
                  refine g_goto 20 dX8_textAt_11 rfl ?_
                  refine g_aret rfl (Or.inl rfl) dX8_textAt_20 ?_
                  refine rN ?_
                  refine g_astoreN (L1 := [some (.ref 0), some (.int (iZ a)), some (.int (iZ b)), some (.int (iZ i)), some (.ref (71 + 4 * a.toNat)), some (.ref (71 + 4 * b.toNat)), some (.null)]) 21 dX8_round_19 (by decide) rfl rfl rfl ?_
                  refine g_aload 23 dX8_round_21 rfl rfl ?_
                  refine g_ifnull 26 dX8_round_23 rfl ?_
                  refine g_aload 28 dX8_round_26 rfl rfl ?_
                  refine g_ifnull 31 dX8_round_28 rfl ?_
                  refine g_aloadN 33 dX8_round_31 rfl rfl ?_
                  refine g_ifnonnullN 36 dX8_round_33 rfl ?_
                  refine g_iconst (v := iZ (-1)) 37 dX8_round_36 rfl rfl ?_
                  refine g_iret rfl dX8_round_37 ?_
                  exact k _ (-1) (by decide) HS (Scr.refl _)
            · refine g_null 19 dX8_toolAt_18 rfl ?_
              refine g_goto 28 dX8_toolAt_19 rfl ?_
              refine g_aret rfl (Or.inl rfl) dX8_toolAt_28 ?_
              refine rN ?_
              refine g_astoreN (L1 := [some (.ref 0), some (.int (iZ a)), some (.int (iZ b)), some (.int (iZ i)), some (.ref (71 + 4 * a.toNat)), some (.null), none]) 14 dX8_round_12 (by decide) rfl rfl rfl ?_
              refine g_aload_n 15 dX8_round_14 rfl rfl ?_
              refine g_iload_n 16 dX8_round_15 rfl rfl ?_
              refine g_callV (z := mX8_textAt) (As := [.int (iZ i)]) 19 dX8_round_16 mwX8_textAt ⟨by decide, by decide⟩ rfl wlX8_74 wiX8_textAt wsX8_textAt F0 rfl rfl rfl (nle rfl) (nle rfl) rfl ?_
              refine Go.to [some (.ref 0), some (.int (iZ i))] [] rfl rfl ?_
              refine g_iload_n 1 dX8_textAt_0 rfl rfl ?_
              refine g_ifZ_lt 10 4 dX8_textAt_1 rfl rfl ri (fun c39 => ?_) (fun c39 => ?_)
              · refine g_null 11 dX8_textAt_10 rfl ?_
                refine g_goto 20 dX8_textAt_11 rfl ?_
                refine g_aret rfl (Or.inl rfl) dX8_textAt_20 ?_
                refine rN ?_
                refine g_astoreN (L1 := [some (.ref 0), some (.int (iZ a)), some (.int (iZ b)), some (.int (iZ i)), some (.ref (71 + 4 * a.toNat)), some (.null), some (.null)]) 21 dX8_round_19 (by decide) rfl rfl rfl ?_
                refine g_aload 23 dX8_round_21 rfl rfl ?_
                refine g_ifnull 26 dX8_round_23 rfl ?_
                refine g_aloadN 28 dX8_round_26 rfl rfl ?_
                refine g_ifnullN 36 dX8_round_28 rfl ?_
                refine g_iconst (v := iZ (-1)) 37 dX8_round_36 rfl rfl ?_
                refine g_iret rfl dX8_round_37 ?_
                exact k _ (-1) (by decide) HS (Scr.refl _)
              · refine g_iload_n 5 dX8_textAt_4 rfl rfl ?_
                refine g_bipush (v := iZ (8)) 7 dX8_textAt_5 (by decide +kernel) rfl ?_
                refine g_icZ_lt 14 10 dX8_textAt_7 rfl rfl ri (by decide) (fun c40 => ?_) (fun c40 => ?_)
                · refine g_aload_n 15 dX8_textAt_14 rfl rfl ?_
                  refine g_get 18 dX8_textAt_15 faX8_16_X8 F0 rfl rfl ?_
                  refine g_iload_n 19 dX8_textAt_18 rfl rfl ?_
                  refine g_aaldZ 20 dX8_textAt_19 F3 (by decide) (by omega) (by omega) (by decide) (txs_at (by omega) (by omega)) rfl ?_
                  refine g_aret rfl (Or.inr ⟨_, rfl⟩) dX8_textAt_20 ?_
                  refine rR ?_
                  refine g_astore (L1 := [some (.ref 0), some (.int (iZ a)), some (.int (iZ b)), some (.int (iZ i)), some (.ref (71 + 4 * a.toNat)), some (.null), some (.ref (34 + 2 * i.toNat))]) 21 dX8_round_19 (by decide) rfl rfl rfl ?_
                  refine g_aload 23 dX8_round_21 rfl rfl ?_
                  refine g_ifnull 26 dX8_round_23 rfl ?_
                  refine g_aloadN 28 dX8_round_26 rfl rfl ?_
                  refine g_ifnullN 36 dX8_round_28 rfl ?_
                  refine g_iconst (v := iZ (-1)) 37 dX8_round_36 rfl rfl ?_
                  refine g_iret rfl dX8_round_37 ?_
                  exact k _ (-1) (by decide) HS (Scr.refl _)
                · refine g_null 11 dX8_textAt_10 rfl ?_
                  refine g_goto 20 dX8_textAt_11 rfl ?_
                  refine g_aret rfl (Or.inl rfl) dX8_textAt_20 ?_
                  refine rN ?_
                  refine g_astoreN (L1 := [some (.ref 0), some (.int (iZ a)), some (.int (iZ b)), some (.int (iZ i)), some (.ref (71 + 4 * a.toNat)), some (.null), some (.null)]) 21 dX8_round_19 (by decide) rfl rfl rfl ?_
                  refine g_aload 23 dX8_round_21 rfl rfl ?_
                  refine g_ifnull 26 dX8_round_23 rfl ?_
                  refine g_aloadN 28 dX8_round_26 rfl rfl ?_
                  refine g_ifnullN 36 dX8_round_28 rfl ?_
                  refine g_iconst (v := iZ (-1)) 37 dX8_round_36 rfl rfl ?_
                  refine g_iret rfl dX8_round_37 ?_
                  exact k _ (-1) (by decide) HS (Scr.refl _)
      · refine g_null 19 dX8_toolAt_18 rfl ?_
        refine g_goto 28 dX8_toolAt_19 rfl ?_
        refine g_aret rfl (Or.inl rfl) dX8_toolAt_28 ?_
        refine rN ?_
        refine g_astoreN (L1 := [some (.ref 0), some (.int (iZ a)), some (.int (iZ b)), some (.int (iZ i)), some (.null), none, none]) 7 dX8_round_5 (by decide) rfl rfl rfl ?_
        refine g_aload_n 8 dX8_round_7 rfl rfl ?_
        refine g_iload_n 9 dX8_round_8 rfl rfl ?_
        refine g_callV (z := mX8_toolAt) (As := [.int (iZ b)]) 12 dX8_round_9 mwX8_toolAt ⟨by decide, by decide⟩ rfl wlX8_90 wiX8_toolAt wsX8_toolAt F0 rfl rfl rfl (nle rfl) (nle rfl) rfl ?_
        refine Go.to [some (.ref 0), some (.int (iZ b))] [] rfl rfl ?_
        refine g_iload_n 1 dX8_toolAt_0 rfl rfl ?_
        refine g_ifZ_lt 18 4 dX8_toolAt_1 rfl rfl rb (fun c41 => ?_) (fun c41 => ?_)
        · refine g_null 19 dX8_toolAt_18 rfl ?_
          refine g_goto 28 dX8_toolAt_19 rfl ?_
          refine g_aret rfl (Or.inl rfl) dX8_toolAt_28 ?_
          refine rN ?_
          refine g_astoreN (L1 := [some (.ref 0), some (.int (iZ a)), some (.int (iZ b)), some (.int (iZ i)), some (.null), some (.null), none]) 14 dX8_round_12 (by decide) rfl rfl rfl ?_
          refine g_aload_n 15 dX8_round_14 rfl rfl ?_
          refine g_iload_n 16 dX8_round_15 rfl rfl ?_
          refine g_callV (z := mX8_textAt) (As := [.int (iZ i)]) 19 dX8_round_16 mwX8_textAt ⟨by decide, by decide⟩ rfl wlX8_74 wiX8_textAt wsX8_textAt F0 rfl rfl rfl (nle rfl) (nle rfl) rfl ?_
          refine Go.to [some (.ref 0), some (.int (iZ i))] [] rfl rfl ?_
          refine g_iload_n 1 dX8_textAt_0 rfl rfl ?_
          refine g_ifZ_lt 10 4 dX8_textAt_1 rfl rfl ri (fun c42 => ?_) (fun c42 => ?_)
          · refine g_null 11 dX8_textAt_10 rfl ?_
            refine g_goto 20 dX8_textAt_11 rfl ?_
            refine g_aret rfl (Or.inl rfl) dX8_textAt_20 ?_
            refine rN ?_
            refine g_astoreN (L1 := [some (.ref 0), some (.int (iZ a)), some (.int (iZ b)), some (.int (iZ i)), some (.null), some (.null), some (.null)]) 21 dX8_round_19 (by decide) rfl rfl rfl ?_
            refine g_aloadN 23 dX8_round_21 rfl rfl ?_
            refine g_ifnullN 36 dX8_round_23 rfl ?_
            refine g_iconst (v := iZ (-1)) 37 dX8_round_36 rfl rfl ?_
            refine g_iret rfl dX8_round_37 ?_
            exact k _ (-1) (by decide) HS (Scr.refl _)
          · refine g_iload_n 5 dX8_textAt_4 rfl rfl ?_
            refine g_bipush (v := iZ (8)) 7 dX8_textAt_5 (by decide +kernel) rfl ?_
            refine g_icZ_lt 14 10 dX8_textAt_7 rfl rfl ri (by decide) (fun c43 => ?_) (fun c43 => ?_)
            · refine g_aload_n 15 dX8_textAt_14 rfl rfl ?_
              refine g_get 18 dX8_textAt_15 faX8_16_X8 F0 rfl rfl ?_
              refine g_iload_n 19 dX8_textAt_18 rfl rfl ?_
              refine g_aaldZ 20 dX8_textAt_19 F3 (by decide) (by omega) (by omega) (by decide) (txs_at (by omega) (by omega)) rfl ?_
              refine g_aret rfl (Or.inr ⟨_, rfl⟩) dX8_textAt_20 ?_
              refine rR ?_
              refine g_astore (L1 := [some (.ref 0), some (.int (iZ a)), some (.int (iZ b)), some (.int (iZ i)), some (.null), some (.null), some (.ref (34 + 2 * i.toNat))]) 21 dX8_round_19 (by decide) rfl rfl rfl ?_
              refine g_aloadN 23 dX8_round_21 rfl rfl ?_
              refine g_ifnullN 36 dX8_round_23 rfl ?_
              refine g_iconst (v := iZ (-1)) 37 dX8_round_36 rfl rfl ?_
              refine g_iret rfl dX8_round_37 ?_
              exact k _ (-1) (by decide) HS (Scr.refl _)
            · refine g_null 11 dX8_textAt_10 rfl ?_
              refine g_goto 20 dX8_textAt_11 rfl ?_
              refine g_aret rfl (Or.inl rfl) dX8_textAt_20 ?_
              refine rN ?_
              refine g_astoreN (L1 := [some (.ref 0), some (.int (iZ a)), some (.int (iZ b)), some (.int (iZ i)), some (.null), some (.null), some (.null)]) 21 dX8_round_19 (by decide) rfl rfl rfl ?_
              refine g_aloadN 23 dX8_round_21 rfl rfl ?_
              refine g_ifnullN 36 dX8_round_23 rfl ?_
              refine g_iconst (v := iZ (-1)) 37 dX8_round_36 rfl rfl ?_
              refine g_iret rfl dX8_round_37 ?_
              exact k _ (-1) (by decide) HS (Scr.refl _)
        · refine g_iload_n 5 dX8_toolAt_4 rfl rfl ?_
          refine g_aload_n 6 dX8_toolAt_5 rfl rfl ?_
          refine g_get 9 dX8_toolAt_6 faX8_26_X8 F0 rfl rfl ?_
          refine g_icZ_ge 18 12 dX8_toolAt_9 rfl rfl rb (by omega) (fun c44 => ?_) (fun c44 => ?_)
          · refine g_null 19 dX8_toolAt_18 rfl ?_
            refine g_goto 28 dX8_toolAt_19 rfl ?_
            refine g_aret rfl (Or.inl rfl) dX8_toolAt_28 ?_
            refine rN ?_
            refine g_astoreN (L1 := [some (.ref 0), some (.int (iZ a)), some (.int (iZ b)), some (.int (iZ i)), some (.null), some (.null), none]) 14 dX8_round_12 (by decide) rfl rfl rfl ?_
            refine g_aload_n 15 dX8_round_14 rfl rfl ?_
            refine g_iload_n 16 dX8_round_15 rfl rfl ?_
            refine g_callV (z := mX8_textAt) (As := [.int (iZ i)]) 19 dX8_round_16 mwX8_textAt ⟨by decide, by decide⟩ rfl wlX8_74 wiX8_textAt wsX8_textAt F0 rfl rfl rfl (nle rfl) (nle rfl) rfl ?_
            refine Go.to [some (.ref 0), some (.int (iZ i))] [] rfl rfl ?_
            refine g_iload_n 1 dX8_textAt_0 rfl rfl ?_
            refine g_ifZ_lt 10 4 dX8_textAt_1 rfl rfl ri (fun c45 => ?_) (fun c45 => ?_)
            · refine g_null 11 dX8_textAt_10 rfl ?_
              refine g_goto 20 dX8_textAt_11 rfl ?_
              refine g_aret rfl (Or.inl rfl) dX8_textAt_20 ?_
              refine rN ?_
              refine g_astoreN (L1 := [some (.ref 0), some (.int (iZ a)), some (.int (iZ b)), some (.int (iZ i)), some (.null), some (.null), some (.null)]) 21 dX8_round_19 (by decide) rfl rfl rfl ?_
              refine g_aloadN 23 dX8_round_21 rfl rfl ?_
              refine g_ifnullN 36 dX8_round_23 rfl ?_
              refine g_iconst (v := iZ (-1)) 37 dX8_round_36 rfl rfl ?_
              refine g_iret rfl dX8_round_37 ?_
              exact k _ (-1) (by decide) HS (Scr.refl _)
            · refine g_iload_n 5 dX8_textAt_4 rfl rfl ?_
              refine g_bipush (v := iZ (8)) 7 dX8_textAt_5 (by decide +kernel) rfl ?_
              refine g_icZ_lt 14 10 dX8_textAt_7 rfl rfl ri (by decide) (fun c46 => ?_) (fun c46 => ?_)
              · refine g_aload_n 15 dX8_textAt_14 rfl rfl ?_
                refine g_get 18 dX8_textAt_15 faX8_16_X8 F0 rfl rfl ?_
                refine g_iload_n 19 dX8_textAt_18 rfl rfl ?_
                refine g_aaldZ 20 dX8_textAt_19 F3 (by decide) (by omega) (by omega) (by decide) (txs_at (by omega) (by omega)) rfl ?_
                refine g_aret rfl (Or.inr ⟨_, rfl⟩) dX8_textAt_20 ?_
                refine rR ?_
                refine g_astore (L1 := [some (.ref 0), some (.int (iZ a)), some (.int (iZ b)), some (.int (iZ i)), some (.null), some (.null), some (.ref (34 + 2 * i.toNat))]) 21 dX8_round_19 (by decide) rfl rfl rfl ?_
                refine g_aloadN 23 dX8_round_21 rfl rfl ?_
                refine g_ifnullN 36 dX8_round_23 rfl ?_
                refine g_iconst (v := iZ (-1)) 37 dX8_round_36 rfl rfl ?_
                refine g_iret rfl dX8_round_37 ?_
                exact k _ (-1) (by decide) HS (Scr.refl _)
              · refine g_null 11 dX8_textAt_10 rfl ?_
                refine g_goto 20 dX8_textAt_11 rfl ?_
                refine g_aret rfl (Or.inl rfl) dX8_textAt_20 ?_
                refine rN ?_
                refine g_astoreN (L1 := [some (.ref 0), some (.int (iZ a)), some (.int (iZ b)), some (.int (iZ i)), some (.null), some (.null), some (.null)]) 21 dX8_round_19 (by decide) rfl rfl rfl ?_
                refine g_aloadN 23 dX8_round_21 rfl rfl ?_
                refine g_ifnullN 36 dX8_round_23 rfl ?_
                refine g_iconst (v := iZ (-1)) 37 dX8_round_36 rfl rfl ?_
                refine g_iret rfl dX8_round_37 ?_
                exact k _ (-1) (by decide) HS (Scr.refl _)
          · refine g_iload_n 13 dX8_toolAt_12 rfl rfl ?_
            refine g_bipush (v := iZ (12)) 15 dX8_toolAt_13 (by decide +kernel) rfl ?_
            refine g_icZ_lt 22 18 dX8_toolAt_15 rfl rfl rb (by decide) (fun c47 => ?_) (fun c47 => ?_)
            · refine g_aload_n 23 dX8_toolAt_22 rfl rfl ?_
              refine g_get 26 dX8_toolAt_23 faX8_22_X8 F0 rfl rfl ?_
              refine g_iload_n 27 dX8_toolAt_26 rfl rfl ?_
              refine g_aaldZ 28 dX8_toolAt_27 F4 (by decide) (by omega) (by omega) (by decide) (tls_at (by omega) (by omega)) rfl ?_
              refine g_aret rfl (Or.inr ⟨_, rfl⟩) dX8_toolAt_28 ?_
              refine rR ?_
              refine g_astore (L1 := [some (.ref 0), some (.int (iZ a)), some (.int (iZ b)), some (.int (iZ i)), some (.null), some (.ref (71 + 4 * b.toNat)), none]) 14 dX8_round_12 (by decide) rfl rfl rfl ?_
              refine g_aload_n 15 dX8_round_14 rfl rfl ?_
              refine g_iload_n 16 dX8_round_15 rfl rfl ?_
              refine g_callV (z := mX8_textAt) (As := [.int (iZ i)]) 19 dX8_round_16 mwX8_textAt ⟨by decide, by decide⟩ rfl wlX8_74 wiX8_textAt wsX8_textAt F0 rfl rfl rfl (nle rfl) (nle rfl) rfl ?_
              refine Go.to [some (.ref 0), some (.int (iZ i))] [] rfl rfl ?_
              refine g_iload_n 1 dX8_textAt_0 rfl rfl ?_
              refine g_ifZ_lt 10 4 dX8_textAt_1 rfl rfl ri (fun c48 => ?_) (fun c48 => ?_)
              · refine g_null 11 dX8_textAt_10 rfl ?_
                refine g_goto 20 dX8_textAt_11 rfl ?_
                refine g_aret rfl (Or.inl rfl) dX8_textAt_20 ?_
                refine rN ?_
                refine g_astoreN (L1 := [some (.ref 0), some (.int (iZ a)), some (.int (iZ b)), some (.int (iZ i)), some (.null), some (.ref (71 + 4 * b.toNat)), some (.null)]) 21 dX8_round_19 (by decide) rfl rfl rfl ?_
                refine g_aloadN 23 dX8_round_21 rfl rfl ?_
                refine g_ifnullN 36 dX8_round_23 rfl ?_
                refine g_iconst (v := iZ (-1)) 37 dX8_round_36 rfl rfl ?_
                refine g_iret rfl dX8_round_37 ?_
                exact k _ (-1) (by decide) HS (Scr.refl _)
              · refine g_iload_n 5 dX8_textAt_4 rfl rfl ?_
                refine g_bipush (v := iZ (8)) 7 dX8_textAt_5 (by decide +kernel) rfl ?_
                refine g_icZ_lt 14 10 dX8_textAt_7 rfl rfl ri (by decide) (fun c49 => ?_) (fun c49 => ?_)
                · refine g_aload_n 15 dX8_textAt_14 rfl rfl ?_
                  refine g_get 18 dX8_textAt_15 faX8_16_X8 F0 rfl rfl ?_
                  refine g_iload_n 19 dX8_textAt_18 rfl rfl ?_
                  refine g_aaldZ 20 dX8_textAt_19 F3 (by decide) (by omega) (by omega) (by decide) (txs_at (by omega) (by omega)) rfl ?_
                  refine g_aret rfl (Or.inr ⟨_, rfl⟩) dX8_textAt_20 ?_
                  refine rR ?_
                  refine g_astore (L1 := [some (.ref 0), some (.int (iZ a)), some (.int (iZ b)), some (.int (iZ i)), some (.null), some (.ref (71 + 4 * b.toNat)), some (.ref (34 + 2 * i.toNat))]) 21 dX8_round_19 (by decide) rfl rfl rfl ?_
                  refine g_aloadN 23 dX8_round_21 rfl rfl ?_
                  refine g_ifnullN 36 dX8_round_23 rfl ?_
                  refine g_iconst (v := iZ (-1)) 37 dX8_round_36 rfl rfl ?_
                  refine g_iret rfl dX8_round_37 ?_
                  exact k _ (-1) (by decide) HS (Scr.refl _)
                · refine g_null 11 dX8_textAt_10 rfl ?_
                  refine g_goto 20 dX8_textAt_11 rfl ?_
                  refine g_aret rfl (Or.inl rfl) dX8_textAt_20 ?_
                  refine rN ?_
                  refine g_astoreN (L1 := [some (.ref 0), some (.int (iZ a)), some (.int (iZ b)), some (.int (iZ i)), some (.null), some (.ref (71 + 4 * b.toNat)), some (.null)]) 21 dX8_round_19 (by decide) rfl rfl rfl ?_
                  refine g_aloadN 23 dX8_round_21 rfl rfl ?_
                  refine g_ifnullN 36 dX8_round_23 rfl ?_
                  refine g_iconst (v := iZ (-1)) 37 dX8_round_36 rfl rfl ?_
                  refine g_iret rfl dX8_round_37 ?_
                  exact k _ (-1) (by decide) HS (Scr.refl _)
            · refine g_null 19 dX8_toolAt_18 rfl ?_
              refine g_goto 28 dX8_toolAt_19 rfl ?_
              refine g_aret rfl (Or.inl rfl) dX8_toolAt_28 ?_
              refine rN ?_
              refine g_astoreN (L1 := [some (.ref 0), some (.int (iZ a)), some (.int (iZ b)), some (.int (iZ i)), some (.null), some (.null), none]) 14 dX8_round_12 (by decide) rfl rfl rfl ?_
              refine g_aload_n 15 dX8_round_14 rfl rfl ?_
              refine g_iload_n 16 dX8_round_15 rfl rfl ?_
              refine g_callV (z := mX8_textAt) (As := [.int (iZ i)]) 19 dX8_round_16 mwX8_textAt ⟨by decide, by decide⟩ rfl wlX8_74 wiX8_textAt wsX8_textAt F0 rfl rfl rfl (nle rfl) (nle rfl) rfl ?_
              refine Go.to [some (.ref 0), some (.int (iZ i))] [] rfl rfl ?_
              refine g_iload_n 1 dX8_textAt_0 rfl rfl ?_
              refine g_ifZ_lt 10 4 dX8_textAt_1 rfl rfl ri (fun c50 => ?_) (fun c50 => ?_)
              · refine g_null 11 dX8_textAt_10 rfl ?_
                refine g_goto 20 dX8_textAt_11 rfl ?_
                refine g_aret rfl (Or.inl rfl) dX8_textAt_20 ?_
                refine rN ?_
                refine g_astoreN (L1 := [some (.ref 0), some (.int (iZ a)), some (.int (iZ b)), some (.int (iZ i)), some (.null), some (.null), some (.null)]) 21 dX8_round_19 (by decide) rfl rfl rfl ?_
                refine g_aloadN 23 dX8_round_21 rfl rfl ?_
                refine g_ifnullN 36 dX8_round_23 rfl ?_
                refine g_iconst (v := iZ (-1)) 37 dX8_round_36 rfl rfl ?_
                refine g_iret rfl dX8_round_37 ?_
                exact k _ (-1) (by decide) HS (Scr.refl _)
              · refine g_iload_n 5 dX8_textAt_4 rfl rfl ?_
                refine g_bipush (v := iZ (8)) 7 dX8_textAt_5 (by decide +kernel) rfl ?_
                refine g_icZ_lt 14 10 dX8_textAt_7 rfl rfl ri (by decide) (fun c51 => ?_) (fun c51 => ?_)
                · refine g_aload_n 15 dX8_textAt_14 rfl rfl ?_
                  refine g_get 18 dX8_textAt_15 faX8_16_X8 F0 rfl rfl ?_
                  refine g_iload_n 19 dX8_textAt_18 rfl rfl ?_
                  refine g_aaldZ 20 dX8_textAt_19 F3 (by decide) (by omega) (by omega) (by decide) (txs_at (by omega) (by omega)) rfl ?_
                  refine g_aret rfl (Or.inr ⟨_, rfl⟩) dX8_textAt_20 ?_
                  refine rR ?_
                  refine g_astore (L1 := [some (.ref 0), some (.int (iZ a)), some (.int (iZ b)), some (.int (iZ i)), some (.null), some (.null), some (.ref (34 + 2 * i.toNat))]) 21 dX8_round_19 (by decide) rfl rfl rfl ?_
                  refine g_aloadN 23 dX8_round_21 rfl rfl ?_
                  refine g_ifnullN 36 dX8_round_23 rfl ?_
                  refine g_iconst (v := iZ (-1)) 37 dX8_round_36 rfl rfl ?_
                  refine g_iret rfl dX8_round_37 ?_
                  exact k _ (-1) (by decide) HS (Scr.refl _)
                · refine g_null 11 dX8_textAt_10 rfl ?_
                  refine g_goto 20 dX8_textAt_11 rfl ?_
                  refine g_aret rfl (Or.inl rfl) dX8_textAt_20 ?_
                  refine rN ?_
                  refine g_astoreN (L1 := [some (.ref 0), some (.int (iZ a)), some (.int (iZ b)), some (.int (iZ i)), some (.null), some (.null), some (.null)]) 21 dX8_round_19 (by decide) rfl rfl rfl ?_
                  refine g_aloadN 23 dX8_round_21 rfl rfl ?_
                  refine g_ifnullN 36 dX8_round_23 rfl ?_
                  refine g_iconst (v := iZ (-1)) 37 dX8_round_36 rfl rfl ?_
                  refine g_iret rfl dX8_round_37 ?_
                  exact k _ (-1) (by decide) HS (Scr.refl _)
set_option maxRecDepth 100000 in
theorem p_hides {l : Launch} {h : MH} {Q : Option Value → MH → Prop} {tc : Nat} {xn : Nat → Int} {xf : Nat → Nat → Int} {a b i : Int} (HC : CORE h tc xn xf) (HS : SC h) (ra : rg a) (rb : rg b) (ri : rg i)  (k : ∀ (h1 : MH) (r : Int), rg r → SC h1 → Scr h h1 → Q (some (.int (iZ r))) h1) : Go l mX8_hides 0 [some (.ref 0), some (.int (iZ a)), some (.int (iZ b)), some (.int (iZ i)), none, none, none, none] [] h Q := by
  obtain ⟨⟨tr, F0⟩, F3, F4, htc, HT, HL⟩ := id HC
  refine g_aload_n 1 dX8_hides_0 rfl rfl ?_
  refine g_iload_n 2 dX8_hides_1 rfl rfl ?_
  refine g_callV (z := mX8_toolAt) (As := [.int (iZ a)]) 5 dX8_hides_2 mwX8_toolAt ⟨by decide, by decide⟩ rfl wlX8_90 wiX8_toolAt wsX8_toolAt F0 rfl rfl rfl (nle rfl) (nle rfl) rfl ?_
  refine Go.to [some (.ref 0), some (.int (iZ a))] [] rfl rfl ?_
  refine g_iload_n 1 dX8_toolAt_0 rfl rfl ?_
  refine g_ifZ_lt 18 4 dX8_toolAt_1 rfl rfl ra (fun c1 => ?_) (fun c1 => ?_)
  · refine g_null 19 dX8_toolAt_18 rfl ?_
    refine g_goto 28 dX8_toolAt_19 rfl ?_
    refine g_aret rfl (Or.inl rfl) dX8_toolAt_28 ?_
    refine rN ?_
    refine g_astoreN (L1 := [some (.ref 0), some (.int (iZ a)), some (.int (iZ b)), some (.int (iZ i)), some (.null), none, none, none]) 7 dX8_hides_5 (by decide) rfl rfl rfl ?_
    refine g_aload_n 8 dX8_hides_7 rfl rfl ?_
    refine g_iload_n 9 dX8_hides_8 rfl rfl ?_
    refine g_callV (z := mX8_toolAt) (As := [.int (iZ b)]) 12 dX8_hides_9 mwX8_toolAt ⟨by decide, by decide⟩ rfl wlX8_90 wiX8_toolAt wsX8_toolAt F0 rfl rfl rfl (nle rfl) (nle rfl) rfl ?_
    refine Go.to [some (.ref 0), some (.int (iZ b))] [] rfl rfl ?_
    refine g_iload_n 1 dX8_toolAt_0 rfl rfl ?_
    refine g_ifZ_lt 18 4 dX8_toolAt_1 rfl rfl rb (fun c2 => ?_) (fun c2 => ?_)
    · refine g_null 19 dX8_toolAt_18 rfl ?_
      refine g_goto 28 dX8_toolAt_19 rfl ?_
      refine g_aret rfl (Or.inl rfl) dX8_toolAt_28 ?_
      refine rN ?_
      refine g_astoreN (L1 := [some (.ref 0), some (.int (iZ a)), some (.int (iZ b)), some (.int (iZ i)), some (.null), some (.null), none, none]) 14 dX8_hides_12 (by decide) rfl rfl rfl ?_
      refine g_aload_n 15 dX8_hides_14 rfl rfl ?_
      refine g_iload_n 16 dX8_hides_15 rfl rfl ?_
      refine g_callV (z := mX8_textAt) (As := [.int (iZ i)]) 19 dX8_hides_16 mwX8_textAt ⟨by decide, by decide⟩ rfl wlX8_74 wiX8_textAt wsX8_textAt F0 rfl rfl rfl (nle rfl) (nle rfl) rfl ?_
      refine Go.to [some (.ref 0), some (.int (iZ i))] [] rfl rfl ?_
      refine g_iload_n 1 dX8_textAt_0 rfl rfl ?_
      refine g_ifZ_lt 10 4 dX8_textAt_1 rfl rfl ri (fun c3 => ?_) (fun c3 => ?_)
      · refine g_null 11 dX8_textAt_10 rfl ?_
        refine g_goto 20 dX8_textAt_11 rfl ?_
        refine g_aret rfl (Or.inl rfl) dX8_textAt_20 ?_
        refine rN ?_
        refine g_astoreN (L1 := [some (.ref 0), some (.int (iZ a)), some (.int (iZ b)), some (.int (iZ i)), some (.null), some (.null), some (.null), none]) 21 dX8_hides_19 (by decide) rfl rfl rfl ?_
        refine g_aloadN 23 dX8_hides_21 rfl rfl ?_
        refine g_ifnullN 36 dX8_hides_23 rfl ?_
        refine g_iconst (v := iZ (-1)) 37 dX8_hides_36 rfl rfl ?_
        refine g_iret rfl dX8_hides_37 ?_
        exact k _ (-1) (by decide) HS (Scr.refl _)
      · refine g_iload_n 5 dX8_textAt_4 rfl rfl ?_
        refine g_bipush (v := iZ (8)) 7 dX8_textAt_5 (by decide +kernel) rfl ?_
        refine g_icZ_lt 14 10 dX8_textAt_7 rfl rfl ri (by decide) (fun c4 => ?_) (fun c4 => ?_)
        · refine g_aload_n 15 dX8_textAt_14 rfl rfl ?_
          refine g_get 18 dX8_textAt_15 faX8_16_X8 F0 rfl rfl ?_
          refine g_iload_n 19 dX8_textAt_18 rfl rfl ?_
          refine g_aaldZ 20 dX8_textAt_19 F3 (by decide) (by omega) (by omega) (by decide) (txs_at (by omega) (by omega)) rfl ?_
          refine g_aret rfl (Or.inr ⟨_, rfl⟩) dX8_textAt_20 ?_
          refine rR ?_
          refine g_astore (L1 := [some (.ref 0), some (.int (iZ a)), some (.int (iZ b)), some (.int (iZ i)), some (.null), some (.null), some (.ref (34 + 2 * i.toNat)), none]) 21 dX8_hides_19 (by decide) rfl rfl rfl ?_
          refine g_aloadN 23 dX8_hides_21 rfl rfl ?_
          refine g_ifnullN 36 dX8_hides_23 rfl ?_
          refine g_iconst (v := iZ (-1)) 37 dX8_hides_36 rfl rfl ?_
          refine g_iret rfl dX8_hides_37 ?_
          exact k _ (-1) (by decide) HS (Scr.refl _)
        · refine g_null 11 dX8_textAt_10 rfl ?_
          refine g_goto 20 dX8_textAt_11 rfl ?_
          refine g_aret rfl (Or.inl rfl) dX8_textAt_20 ?_
          refine rN ?_
          refine g_astoreN (L1 := [some (.ref 0), some (.int (iZ a)), some (.int (iZ b)), some (.int (iZ i)), some (.null), some (.null), some (.null), none]) 21 dX8_hides_19 (by decide) rfl rfl rfl ?_
          refine g_aloadN 23 dX8_hides_21 rfl rfl ?_
          refine g_ifnullN 36 dX8_hides_23 rfl ?_
          refine g_iconst (v := iZ (-1)) 37 dX8_hides_36 rfl rfl ?_
          refine g_iret rfl dX8_hides_37 ?_
          exact k _ (-1) (by decide) HS (Scr.refl _)
    · refine g_iload_n 5 dX8_toolAt_4 rfl rfl ?_
      refine g_aload_n 6 dX8_toolAt_5 rfl rfl ?_
      refine g_get 9 dX8_toolAt_6 faX8_26_X8 F0 rfl rfl ?_
      refine g_icZ_ge 18 12 dX8_toolAt_9 rfl rfl rb (by omega) (fun c5 => ?_) (fun c5 => ?_)
      · refine g_null 19 dX8_toolAt_18 rfl ?_
        refine g_goto 28 dX8_toolAt_19 rfl ?_
        refine g_aret rfl (Or.inl rfl) dX8_toolAt_28 ?_
        refine rN ?_
        refine g_astoreN (L1 := [some (.ref 0), some (.int (iZ a)), some (.int (iZ b)), some (.int (iZ i)), some (.null), some (.null), none, none]) 14 dX8_hides_12 (by decide) rfl rfl rfl ?_
        refine g_aload_n 15 dX8_hides_14 rfl rfl ?_
        refine g_iload_n 16 dX8_hides_15 rfl rfl ?_
        refine g_callV (z := mX8_textAt) (As := [.int (iZ i)]) 19 dX8_hides_16 mwX8_textAt ⟨by decide, by decide⟩ rfl wlX8_74 wiX8_textAt wsX8_textAt F0 rfl rfl rfl (nle rfl) (nle rfl) rfl ?_
        refine Go.to [some (.ref 0), some (.int (iZ i))] [] rfl rfl ?_
        refine g_iload_n 1 dX8_textAt_0 rfl rfl ?_
        refine g_ifZ_lt 10 4 dX8_textAt_1 rfl rfl ri (fun c6 => ?_) (fun c6 => ?_)
        · refine g_null 11 dX8_textAt_10 rfl ?_
          refine g_goto 20 dX8_textAt_11 rfl ?_
          refine g_aret rfl (Or.inl rfl) dX8_textAt_20 ?_
          refine rN ?_
          refine g_astoreN (L1 := [some (.ref 0), some (.int (iZ a)), some (.int (iZ b)), some (.int (iZ i)), some (.null), some (.null), some (.null), none]) 21 dX8_hides_19 (by decide) rfl rfl rfl ?_
          refine g_aloadN 23 dX8_hides_21 rfl rfl ?_
          refine g_ifnullN 36 dX8_hides_23 rfl ?_
          refine g_iconst (v := iZ (-1)) 37 dX8_hides_36 rfl rfl ?_
          refine g_iret rfl dX8_hides_37 ?_
          exact k _ (-1) (by decide) HS (Scr.refl _)
        · refine g_iload_n 5 dX8_textAt_4 rfl rfl ?_
          refine g_bipush (v := iZ (8)) 7 dX8_textAt_5 (by decide +kernel) rfl ?_
          refine g_icZ_lt 14 10 dX8_textAt_7 rfl rfl ri (by decide) (fun c7 => ?_) (fun c7 => ?_)
          · refine g_aload_n 15 dX8_textAt_14 rfl rfl ?_
            refine g_get 18 dX8_textAt_15 faX8_16_X8 F0 rfl rfl ?_
            refine g_iload_n 19 dX8_textAt_18 rfl rfl ?_
            refine g_aaldZ 20 dX8_textAt_19 F3 (by decide) (by omega) (by omega) (by decide) (txs_at (by omega) (by omega)) rfl ?_
            refine g_aret rfl (Or.inr ⟨_, rfl⟩) dX8_textAt_20 ?_
            refine rR ?_
            refine g_astore (L1 := [some (.ref 0), some (.int (iZ a)), some (.int (iZ b)), some (.int (iZ i)), some (.null), some (.null), some (.ref (34 + 2 * i.toNat)), none]) 21 dX8_hides_19 (by decide) rfl rfl rfl ?_
            refine g_aloadN 23 dX8_hides_21 rfl rfl ?_
            refine g_ifnullN 36 dX8_hides_23 rfl ?_
            refine g_iconst (v := iZ (-1)) 37 dX8_hides_36 rfl rfl ?_
            refine g_iret rfl dX8_hides_37 ?_
            exact k _ (-1) (by decide) HS (Scr.refl _)
          · refine g_null 11 dX8_textAt_10 rfl ?_
            refine g_goto 20 dX8_textAt_11 rfl ?_
            refine g_aret rfl (Or.inl rfl) dX8_textAt_20 ?_
            refine rN ?_
            refine g_astoreN (L1 := [some (.ref 0), some (.int (iZ a)), some (.int (iZ b)), some (.int (iZ i)), some (.null), some (.null), some (.null), none]) 21 dX8_hides_19 (by decide) rfl rfl rfl ?_
            refine g_aloadN 23 dX8_hides_21 rfl rfl ?_
            refine g_ifnullN 36 dX8_hides_23 rfl ?_
            refine g_iconst (v := iZ (-1)) 37 dX8_hides_36 rfl rfl ?_
            refine g_iret rfl dX8_hides_37 ?_
            exact k _ (-1) (by decide) HS (Scr.refl _)
      · refine g_iload_n 13 dX8_toolAt_12 rfl rfl ?_
        refine g_bipush (v := iZ (12)) 15 dX8_toolAt_13 (by decide +kernel) rfl ?_
        refine g_icZ_lt 22 18 dX8_toolAt_15 rfl rfl rb (by decide) (fun c8 => ?_) (fun c8 => ?_)
        · refine g_aload_n 23 dX8_toolAt_22 rfl rfl ?_
          refine g_get 26 dX8_toolAt_23 faX8_22_X8 F0 rfl rfl ?_
          refine g_iload_n 27 dX8_toolAt_26 rfl rfl ?_
          refine g_aaldZ 28 dX8_toolAt_27 F4 (by decide) (by omega) (by omega) (by decide) (tls_at (by omega) (by omega)) rfl ?_
          refine g_aret rfl (Or.inr ⟨_, rfl⟩) dX8_toolAt_28 ?_
          refine rR ?_
          refine g_astore (L1 := [some (.ref 0), some (.int (iZ a)), some (.int (iZ b)), some (.int (iZ i)), some (.null), some (.ref (71 + 4 * b.toNat)), none, none]) 14 dX8_hides_12 (by decide) rfl rfl rfl ?_
          refine g_aload_n 15 dX8_hides_14 rfl rfl ?_
          refine g_iload_n 16 dX8_hides_15 rfl rfl ?_
          refine g_callV (z := mX8_textAt) (As := [.int (iZ i)]) 19 dX8_hides_16 mwX8_textAt ⟨by decide, by decide⟩ rfl wlX8_74 wiX8_textAt wsX8_textAt F0 rfl rfl rfl (nle rfl) (nle rfl) rfl ?_
          refine Go.to [some (.ref 0), some (.int (iZ i))] [] rfl rfl ?_
          refine g_iload_n 1 dX8_textAt_0 rfl rfl ?_
          refine g_ifZ_lt 10 4 dX8_textAt_1 rfl rfl ri (fun c9 => ?_) (fun c9 => ?_)
          · refine g_null 11 dX8_textAt_10 rfl ?_
            refine g_goto 20 dX8_textAt_11 rfl ?_
            refine g_aret rfl (Or.inl rfl) dX8_textAt_20 ?_
            refine rN ?_
            refine g_astoreN (L1 := [some (.ref 0), some (.int (iZ a)), some (.int (iZ b)), some (.int (iZ i)), some (.null), some (.ref (71 + 4 * b.toNat)), some (.null), none]) 21 dX8_hides_19 (by decide) rfl rfl rfl ?_
            refine g_aloadN 23 dX8_hides_21 rfl rfl ?_
            refine g_ifnullN 36 dX8_hides_23 rfl ?_
            refine g_iconst (v := iZ (-1)) 37 dX8_hides_36 rfl rfl ?_
            refine g_iret rfl dX8_hides_37 ?_
            exact k _ (-1) (by decide) HS (Scr.refl _)
          · refine g_iload_n 5 dX8_textAt_4 rfl rfl ?_
            refine g_bipush (v := iZ (8)) 7 dX8_textAt_5 (by decide +kernel) rfl ?_
            refine g_icZ_lt 14 10 dX8_textAt_7 rfl rfl ri (by decide) (fun c10 => ?_) (fun c10 => ?_)
            · refine g_aload_n 15 dX8_textAt_14 rfl rfl ?_
              refine g_get 18 dX8_textAt_15 faX8_16_X8 F0 rfl rfl ?_
              refine g_iload_n 19 dX8_textAt_18 rfl rfl ?_
              refine g_aaldZ 20 dX8_textAt_19 F3 (by decide) (by omega) (by omega) (by decide) (txs_at (by omega) (by omega)) rfl ?_
              refine g_aret rfl (Or.inr ⟨_, rfl⟩) dX8_textAt_20 ?_
              refine rR ?_
              refine g_astore (L1 := [some (.ref 0), some (.int (iZ a)), some (.int (iZ b)), some (.int (iZ i)), some (.null), some (.ref (71 + 4 * b.toNat)), some (.ref (34 + 2 * i.toNat)), none]) 21 dX8_hides_19 (by decide) rfl rfl rfl ?_
              refine g_aloadN 23 dX8_hides_21 rfl rfl ?_
              refine g_ifnullN 36 dX8_hides_23 rfl ?_
              refine g_iconst (v := iZ (-1)) 37 dX8_hides_36 rfl rfl ?_
              refine g_iret rfl dX8_hides_37 ?_
              exact k _ (-1) (by decide) HS (Scr.refl _)
            · refine g_null 11 dX8_textAt_10 rfl ?_
              refine g_goto 20 dX8_textAt_11 rfl ?_
              refine g_aret rfl (Or.inl rfl) dX8_textAt_20 ?_
              refine rN ?_
              refine g_astoreN (L1 := [some (.ref 0), some (.int (iZ a)), some (.int (iZ b)), some (.int (iZ i)), some (.null), some (.ref (71 + 4 * b.toNat)), some (.null), none]) 21 dX8_hides_19 (by decide) rfl rfl rfl ?_
              refine g_aloadN 23 dX8_hides_21 rfl rfl ?_
              refine g_ifnullN 36 dX8_hides_23 rfl ?_
              refine g_iconst (v := iZ (-1)) 37 dX8_hides_36 rfl rfl ?_
              refine g_iret rfl dX8_hides_37 ?_
              exact k _ (-1) (by decide) HS (Scr.refl _)
        · refine g_null 19 dX8_toolAt_18 rfl ?_
          refine g_goto 28 dX8_toolAt_19 rfl ?_
          refine g_aret rfl (Or.inl rfl) dX8_toolAt_28 ?_
          refine rN ?_
          refine g_astoreN (L1 := [some (.ref 0), some (.int (iZ a)), some (.int (iZ b)), some (.int (iZ i)), some (.null), some (.null), none, none]) 14 dX8_hides_12 (by decide) rfl rfl rfl ?_
          refine g_aload_n 15 dX8_hides_14 rfl rfl ?_
          refine g_iload_n 16 dX8_hides_15 rfl rfl ?_
          refine g_callV (z := mX8_textAt) (As := [.int (iZ i)]) 19 dX8_hides_16 mwX8_textAt ⟨by decide, by decide⟩ rfl wlX8_74 wiX8_textAt wsX8_textAt F0 rfl rfl rfl (nle rfl) (nle rfl) rfl ?_
          refine Go.to [some (.ref 0), some (.int (iZ i))] [] rfl rfl ?_
          refine g_iload_n 1 dX8_textAt_0 rfl rfl ?_
          refine g_ifZ_lt 10 4 dX8_textAt_1 rfl rfl ri (fun c11 => ?_) (fun c11 => ?_)
          · refine g_null 11 dX8_textAt_10 rfl ?_
            refine g_goto 20 dX8_textAt_11 rfl ?_
            refine g_aret rfl (Or.inl rfl) dX8_textAt_20 ?_
            refine rN ?_
            refine g_astoreN (L1 := [some (.ref 0), some (.int (iZ a)), some (.int (iZ b)), some (.int (iZ i)), some (.null), some (.null), some (.null), none]) 21 dX8_hides_19 (by decide) rfl rfl rfl ?_
            refine g_aloadN 23 dX8_hides_21 rfl rfl ?_
            refine g_ifnullN 36 dX8_hides_23 rfl ?_
            refine g_iconst (v := iZ (-1)) 37 dX8_hides_36 rfl rfl ?_
            refine g_iret rfl dX8_hides_37 ?_
            exact k _ (-1) (by decide) HS (Scr.refl _)
          · refine g_iload_n 5 dX8_textAt_4 rfl rfl ?_
            refine g_bipush (v := iZ (8)) 7 dX8_textAt_5 (by decide +kernel) rfl ?_
            refine g_icZ_lt 14 10 dX8_textAt_7 rfl rfl ri (by decide) (fun c12 => ?_) (fun c12 => ?_)
            · refine g_aload_n 15 dX8_textAt_14 rfl rfl ?_
              refine g_get 18 dX8_textAt_15 faX8_16_X8 F0 rfl rfl ?_
              refine g_iload_n 19 dX8_textAt_18 rfl rfl ?_
              refine g_aaldZ 20 dX8_textAt_19 F3 (by decide) (by omega) (by omega) (by decide) (txs_at (by omega) (by omega)) rfl ?_
              refine g_aret rfl (Or.inr ⟨_, rfl⟩) dX8_textAt_20 ?_
              refine rR ?_
              refine g_astore (L1 := [some (.ref 0), some (.int (iZ a)), some (.int (iZ b)), some (.int (iZ i)), some (.null), some (.null), some (.ref (34 + 2 * i.toNat)), none]) 21 dX8_hides_19 (by decide) rfl rfl rfl ?_
              refine g_aloadN 23 dX8_hides_21 rfl rfl ?_
              refine g_ifnullN 36 dX8_hides_23 rfl ?_
              refine g_iconst (v := iZ (-1)) 37 dX8_hides_36 rfl rfl ?_
              refine g_iret rfl dX8_hides_37 ?_
              exact k _ (-1) (by decide) HS (Scr.refl _)
            · refine g_null 11 dX8_textAt_10 rfl ?_
              refine g_goto 20 dX8_textAt_11 rfl ?_
              refine g_aret rfl (Or.inl rfl) dX8_textAt_20 ?_
              refine rN ?_
              refine g_astoreN (L1 := [some (.ref 0), some (.int (iZ a)), some (.int (iZ b)), some (.int (iZ i)), some (.null), some (.null), some (.null), none]) 21 dX8_hides_19 (by decide) rfl rfl rfl ?_
              refine g_aloadN 23 dX8_hides_21 rfl rfl ?_
              refine g_ifnullN 36 dX8_hides_23 rfl ?_
              refine g_iconst (v := iZ (-1)) 37 dX8_hides_36 rfl rfl ?_
              refine g_iret rfl dX8_hides_37 ?_
              exact k _ (-1) (by decide) HS (Scr.refl _)
  · refine g_iload_n 5 dX8_toolAt_4 rfl rfl ?_
    refine g_aload_n 6 dX8_toolAt_5 rfl rfl ?_
    refine g_get 9 dX8_toolAt_6 faX8_26_X8 F0 rfl rfl ?_
    refine g_icZ_ge 18 12 dX8_toolAt_9 rfl rfl ra (by omega) (fun c13 => ?_) (fun c13 => ?_)
    · refine g_null 19 dX8_toolAt_18 rfl ?_
      refine g_goto 28 dX8_toolAt_19 rfl ?_
      refine g_aret rfl (Or.inl rfl) dX8_toolAt_28 ?_
      refine rN ?_
      refine g_astoreN (L1 := [some (.ref 0), some (.int (iZ a)), some (.int (iZ b)), some (.int (iZ i)), some (.null), none, none, none]) 7 dX8_hides_5 (by decide) rfl rfl rfl ?_
      refine g_aload_n 8 dX8_hides_7 rfl rfl ?_
      refine g_iload_n 9 dX8_hides_8 rfl rfl ?_
      refine g_callV (z := mX8_toolAt) (As := [.int (iZ b)]) 12 dX8_hides_9 mwX8_toolAt ⟨by decide, by decide⟩ rfl wlX8_90 wiX8_toolAt wsX8_toolAt F0 rfl rfl rfl (nle rfl) (nle rfl) rfl ?_
      refine Go.to [some (.ref 0), some (.int (iZ b))] [] rfl rfl ?_
      refine g_iload_n 1 dX8_toolAt_0 rfl rfl ?_
      refine g_ifZ_lt 18 4 dX8_toolAt_1 rfl rfl rb (fun c14 => ?_) (fun c14 => ?_)
      · refine g_null 19 dX8_toolAt_18 rfl ?_
        refine g_goto 28 dX8_toolAt_19 rfl ?_
        refine g_aret rfl (Or.inl rfl) dX8_toolAt_28 ?_
        refine rN ?_
        refine g_astoreN (L1 := [some (.ref 0), some (.int (iZ a)), some (.int (iZ b)), some (.int (iZ i)), some (.null), some (.null), none, none]) 14 dX8_hides_12 (by decide) rfl rfl rfl ?_
        refine g_aload_n 15 dX8_hides_14 rfl rfl ?_
        refine g_iload_n 16 dX8_hides_15 rfl rfl ?_
        refine g_callV (z := mX8_textAt) (As := [.int (iZ i)]) 19 dX8_hides_16 mwX8_textAt ⟨by decide, by decide⟩ rfl wlX8_74 wiX8_textAt wsX8_textAt F0 rfl rfl rfl (nle rfl) (nle rfl) rfl ?_
        refine Go.to [some (.ref 0), some (.int (iZ i))] [] rfl rfl ?_
        refine g_iload_n 1 dX8_textAt_0 rfl rfl ?_
        refine g_ifZ_lt 10 4 dX8_textAt_1 rfl rfl ri (fun c15 => ?_) (fun c15 => ?_)
        · refine g_null 11 dX8_textAt_10 rfl ?_
          refine g_goto 20 dX8_textAt_11 rfl ?_
          refine g_aret rfl (Or.inl rfl) dX8_textAt_20 ?_
          refine rN ?_
          refine g_astoreN (L1 := [some (.ref 0), some (.int (iZ a)), some (.int (iZ b)), some (.int (iZ i)), some (.null), some (.null), some (.null), none]) 21 dX8_hides_19 (by decide) rfl rfl rfl ?_
          refine g_aloadN 23 dX8_hides_21 rfl rfl ?_
          refine g_ifnullN 36 dX8_hides_23 rfl ?_
          refine g_iconst (v := iZ (-1)) 37 dX8_hides_36 rfl rfl ?_
          refine g_iret rfl dX8_hides_37 ?_
          exact k _ (-1) (by decide) HS (Scr.refl _)
        · refine g_iload_n 5 dX8_textAt_4 rfl rfl ?_
          refine g_bipush (v := iZ (8)) 7 dX8_textAt_5 (by decide +kernel) rfl ?_
          refine g_icZ_lt 14 10 dX8_textAt_7 rfl rfl ri (by decide) (fun c16 => ?_) (fun c16 => ?_)
          · refine g_aload_n 15 dX8_textAt_14 rfl rfl ?_
            refine g_get 18 dX8_textAt_15 faX8_16_X8 F0 rfl rfl ?_
            refine g_iload_n 19 dX8_textAt_18 rfl rfl ?_
            refine g_aaldZ 20 dX8_textAt_19 F3 (by decide) (by omega) (by omega) (by decide) (txs_at (by omega) (by omega)) rfl ?_
            refine g_aret rfl (Or.inr ⟨_, rfl⟩) dX8_textAt_20 ?_
            refine rR ?_
            refine g_astore (L1 := [some (.ref 0), some (.int (iZ a)), some (.int (iZ b)), some (.int (iZ i)), some (.null), some (.null), some (.ref (34 + 2 * i.toNat)), none]) 21 dX8_hides_19 (by decide) rfl rfl rfl ?_
            refine g_aloadN 23 dX8_hides_21 rfl rfl ?_
            refine g_ifnullN 36 dX8_hides_23 rfl ?_
            refine g_iconst (v := iZ (-1)) 37 dX8_hides_36 rfl rfl ?_
            refine g_iret rfl dX8_hides_37 ?_
            exact k _ (-1) (by decide) HS (Scr.refl _)
          · refine g_null 11 dX8_textAt_10 rfl ?_
            refine g_goto 20 dX8_textAt_11 rfl ?_
            refine g_aret rfl (Or.inl rfl) dX8_textAt_20 ?_
            refine rN ?_
            refine g_astoreN (L1 := [some (.ref 0), some (.int (iZ a)), some (.int (iZ b)), some (.int (iZ i)), some (.null), some (.null), some (.null), none]) 21 dX8_hides_19 (by decide) rfl rfl rfl ?_
            refine g_aloadN 23 dX8_hides_21 rfl rfl ?_
            refine g_ifnullN 36 dX8_hides_23 rfl ?_
            refine g_iconst (v := iZ (-1)) 37 dX8_hides_36 rfl rfl ?_
            refine g_iret rfl dX8_hides_37 ?_
            exact k _ (-1) (by decide) HS (Scr.refl _)
      · refine g_iload_n 5 dX8_toolAt_4 rfl rfl ?_
        refine g_aload_n 6 dX8_toolAt_5 rfl rfl ?_
        refine g_get 9 dX8_toolAt_6 faX8_26_X8 F0 rfl rfl ?_
        refine g_icZ_ge 18 12 dX8_toolAt_9 rfl rfl rb (by omega) (fun c17 => ?_) (fun c17 => ?_)
        · refine g_null 19 dX8_toolAt_18 rfl ?_
          refine g_goto 28 dX8_toolAt_19 rfl ?_
          refine g_aret rfl (Or.inl rfl) dX8_toolAt_28 ?_
          refine rN ?_
          refine g_astoreN (L1 := [some (.ref 0), some (.int (iZ a)), some (.int (iZ b)), some (.int (iZ i)), some (.null), some (.null), none, none]) 14 dX8_hides_12 (by decide) rfl rfl rfl ?_
          refine g_aload_n 15 dX8_hides_14 rfl rfl ?_
          refine g_iload_n 16 dX8_hides_15 rfl rfl ?_
          refine g_callV (z := mX8_textAt) (As := [.int (iZ i)]) 19 dX8_hides_16 mwX8_textAt ⟨by decide, by decide⟩ rfl wlX8_74 wiX8_textAt wsX8_textAt F0 rfl rfl rfl (nle rfl) (nle rfl) rfl ?_
          refine Go.to [some (.ref 0), some (.int (iZ i))] [] rfl rfl ?_
          refine g_iload_n 1 dX8_textAt_0 rfl rfl ?_
          refine g_ifZ_lt 10 4 dX8_textAt_1 rfl rfl ri (fun c18 => ?_) (fun c18 => ?_)
          · refine g_null 11 dX8_textAt_10 rfl ?_
            refine g_goto 20 dX8_textAt_11 rfl ?_
            refine g_aret rfl (Or.inl rfl) dX8_textAt_20 ?_
            refine rN ?_
            refine g_astoreN (L1 := [some (.ref 0), some (.int (iZ a)), some (.int (iZ b)), some (.int (iZ i)), some (.null), some (.null), some (.null), none]) 21 dX8_hides_19 (by decide) rfl rfl rfl ?_
            refine g_aloadN 23 dX8_hides_21 rfl rfl ?_
            refine g_ifnullN 36 dX8_hides_23 rfl ?_
            refine g_iconst (v := iZ (-1)) 37 dX8_hides_36 rfl rfl ?_
            refine g_iret rfl dX8_hides_37 ?_
            exact k _ (-1) (by decide) HS (Scr.refl _)
          · refine g_iload_n 5 dX8_textAt_4 rfl rfl ?_
            refine g_bipush (v := iZ (8)) 7 dX8_textAt_5 (by decide +kernel) rfl ?_
            refine g_icZ_lt 14 10 dX8_textAt_7 rfl rfl ri (by decide) (fun c19 => ?_) (fun c19 => ?_)
            · refine g_aload_n 15 dX8_textAt_14 rfl rfl ?_
              refine g_get 18 dX8_textAt_15 faX8_16_X8 F0 rfl rfl ?_
              refine g_iload_n 19 dX8_textAt_18 rfl rfl ?_
              refine g_aaldZ 20 dX8_textAt_19 F3 (by decide) (by omega) (by omega) (by decide) (txs_at (by omega) (by omega)) rfl ?_
              refine g_aret rfl (Or.inr ⟨_, rfl⟩) dX8_textAt_20 ?_
              refine rR ?_
              refine g_astore (L1 := [some (.ref 0), some (.int (iZ a)), some (.int (iZ b)), some (.int (iZ i)), some (.null), some (.null), some (.ref (34 + 2 * i.toNat)), none]) 21 dX8_hides_19 (by decide) rfl rfl rfl ?_
              refine g_aloadN 23 dX8_hides_21 rfl rfl ?_
              refine g_ifnullN 36 dX8_hides_23 rfl ?_
              refine g_iconst (v := iZ (-1)) 37 dX8_hides_36 rfl rfl ?_
              refine g_iret rfl dX8_hides_37 ?_
              exact k _ (-1) (by decide) HS (Scr.refl _)
            · refine g_null 11 dX8_textAt_10 rfl ?_
              refine g_goto 20 dX8_textAt_11 rfl ?_
              refine g_aret rfl (Or.inl rfl) dX8_textAt_20 ?_
              refine rN ?_
              refine g_astoreN (L1 := [some (.ref 0), some (.int (iZ a)), some (.int (iZ b)), some (.int (iZ i)), some (.null), some (.null), some (.null), none]) 21 dX8_hides_19 (by decide) rfl rfl rfl ?_
              refine g_aloadN 23 dX8_hides_21 rfl rfl ?_
              refine g_ifnullN 36 dX8_hides_23 rfl ?_
              refine g_iconst (v := iZ (-1)) 37 dX8_hides_36 rfl rfl ?_
              refine g_iret rfl dX8_hides_37 ?_
              exact k _ (-1) (by decide) HS (Scr.refl _)
        · refine g_iload_n 13 dX8_toolAt_12 rfl rfl ?_
          refine g_bipush (v := iZ (12)) 15 dX8_toolAt_13 (by decide +kernel) rfl ?_
          refine g_icZ_lt 22 18 dX8_toolAt_15 rfl rfl rb (by decide) (fun c20 => ?_) (fun c20 => ?_)
          · refine g_aload_n 23 dX8_toolAt_22 rfl rfl ?_
            refine g_get 26 dX8_toolAt_23 faX8_22_X8 F0 rfl rfl ?_
            refine g_iload_n 27 dX8_toolAt_26 rfl rfl ?_
            refine g_aaldZ 28 dX8_toolAt_27 F4 (by decide) (by omega) (by omega) (by decide) (tls_at (by omega) (by omega)) rfl ?_
            refine g_aret rfl (Or.inr ⟨_, rfl⟩) dX8_toolAt_28 ?_
            refine rR ?_
            refine g_astore (L1 := [some (.ref 0), some (.int (iZ a)), some (.int (iZ b)), some (.int (iZ i)), some (.null), some (.ref (71 + 4 * b.toNat)), none, none]) 14 dX8_hides_12 (by decide) rfl rfl rfl ?_
            refine g_aload_n 15 dX8_hides_14 rfl rfl ?_
            refine g_iload_n 16 dX8_hides_15 rfl rfl ?_
            refine g_callV (z := mX8_textAt) (As := [.int (iZ i)]) 19 dX8_hides_16 mwX8_textAt ⟨by decide, by decide⟩ rfl wlX8_74 wiX8_textAt wsX8_textAt F0 rfl rfl rfl (nle rfl) (nle rfl) rfl ?_
            refine Go.to [some (.ref 0), some (.int (iZ i))] [] rfl rfl ?_
            refine g_iload_n 1 dX8_textAt_0 rfl rfl ?_
            refine g_ifZ_lt 10 4 dX8_textAt_1 rfl rfl ri (fun c21 => ?_) (fun c21 => ?_)
            · refine g_null 11 dX8_textAt_10 rfl ?_
              refine g_goto 20 dX8_textAt_11 rfl ?_
              refine g_aret rfl (Or.inl rfl) dX8_textAt_20 ?_
              refine rN ?_
              refine g_astoreN (L1 := [some (.ref 0), some (.int (iZ a)), some (.int (iZ b)), some (.int (iZ i)), some (.null), some (.ref (71 + 4 * b.toNat)), some (.null), none]) 21 dX8_hides_19 (by decide) rfl rfl rfl ?_
              refine g_aloadN 23 dX8_hides_21 rfl rfl ?_
              refine g_ifnullN 36 dX8_hides_23 rfl ?_
              refine g_iconst (v := iZ (-1)) 37 dX8_hides_36 rfl rfl ?_
              refine g_iret rfl dX8_hides_37 ?_
              exact k _ (-1) (by decide) HS (Scr.refl _)
            · refine g_iload_n 5 dX8_textAt_4 rfl rfl ?_
              refine g_bipush (v := iZ (8)) 7 dX8_textAt_5 (by decide +kernel) rfl ?_
              refine g_icZ_lt 14 10 dX8_textAt_7 rfl rfl ri (by decide) (fun c22 => ?_) (fun c22 => ?_)
              · refine g_aload_n 15 dX8_textAt_14 rfl rfl ?_
                refine g_get 18 dX8_textAt_15 faX8_16_X8 F0 rfl rfl ?_
                refine g_iload_n 19 dX8_textAt_18 rfl rfl ?_
                refine g_aaldZ 20 dX8_textAt_19 F3 (by decide) (by omega) (by omega) (by decide) (txs_at (by omega) (by omega)) rfl ?_
                refine g_aret rfl (Or.inr ⟨_, rfl⟩) dX8_textAt_20 ?_
                refine rR ?_
                refine g_astore (L1 := [some (.ref 0), some (.int (iZ a)), some (.int (iZ b)), some (.int (iZ i)), some (.null), some (.ref (71 + 4 * b.toNat)), some (.ref (34 + 2 * i.toNat)), none]) 21 dX8_hides_19 (by decide) rfl rfl rfl ?_
                refine g_aloadN 23 dX8_hides_21 rfl rfl ?_
                refine g_ifnullN 36 dX8_hides_23 rfl ?_
                refine g_iconst (v := iZ (-1)) 37 dX8_hides_36 rfl rfl ?_
                refine g_iret rfl dX8_hides_37 ?_
                exact k _ (-1) (by decide) HS (Scr.refl _)
              · refine g_null 11 dX8_textAt_10 rfl ?_
                refine g_goto 20 dX8_textAt_11 rfl ?_
                refine g_aret rfl (Or.inl rfl) dX8_textAt_20 ?_
                refine rN ?_
                refine g_astoreN (L1 := [some (.ref 0), some (.int (iZ a)), some (.int (iZ b)), some (.int (iZ i)), some (.null), some (.ref (71 + 4 * b.toNat)), some (.null), none]) 21 dX8_hides_19 (by decide) rfl rfl rfl ?_
                refine g_aloadN 23 dX8_hides_21 rfl rfl ?_
                refine g_ifnullN 36 dX8_hides_23 rfl ?_
                refine g_iconst (v := iZ (-1)) 37 dX8_hides_36 rfl rfl ?_
                refine g_iret rfl dX8_hides_37 ?_
                exact k _ (-1) (by decide) HS (Scr.refl _)
          · refine g_null 19 dX8_toolAt_18 rfl ?_
            refine g_goto 28 dX8_toolAt_19 rfl ?_
            refine g_aret rfl (Or.inl rfl) dX8_toolAt_28 ?_
            refine rN ?_
            refine g_astoreN (L1 := [some (.ref 0), some (.int (iZ a)), some (.int (iZ b)), some (.int (iZ i)), some (.null), some (.null), none, none]) 14 dX8_hides_12 (by decide) rfl rfl rfl ?_
            refine g_aload_n 15 dX8_hides_14 rfl rfl ?_
            refine g_iload_n 16 dX8_hides_15 rfl rfl ?_
            refine g_callV (z := mX8_textAt) (As := [.int (iZ i)]) 19 dX8_hides_16 mwX8_textAt ⟨by decide, by decide⟩ rfl wlX8_74 wiX8_textAt wsX8_textAt F0 rfl rfl rfl (nle rfl) (nle rfl) rfl ?_
            refine Go.to [some (.ref 0), some (.int (iZ i))] [] rfl rfl ?_
            refine g_iload_n 1 dX8_textAt_0 rfl rfl ?_
            refine g_ifZ_lt 10 4 dX8_textAt_1 rfl rfl ri (fun c23 => ?_) (fun c23 => ?_)
            · refine g_null 11 dX8_textAt_10 rfl ?_
              refine g_goto 20 dX8_textAt_11 rfl ?_
              refine g_aret rfl (Or.inl rfl) dX8_textAt_20 ?_
              refine rN ?_
              refine g_astoreN (L1 := [some (.ref 0), some (.int (iZ a)), some (.int (iZ b)), some (.int (iZ i)), some (.null), some (.null), some (.null), none]) 21 dX8_hides_19 (by decide) rfl rfl rfl ?_
              refine g_aloadN 23 dX8_hides_21 rfl rfl ?_
              refine g_ifnullN 36 dX8_hides_23 rfl ?_
              refine g_iconst (v := iZ (-1)) 37 dX8_hides_36 rfl rfl ?_
              refine g_iret rfl dX8_hides_37 ?_
              exact k _ (-1) (by decide) HS (Scr.refl _)
            · refine g_iload_n 5 dX8_textAt_4 rfl rfl ?_
              refine g_bipush (v := iZ (8)) 7 dX8_textAt_5 (by decide +kernel) rfl ?_
              refine g_icZ_lt 14 10 dX8_textAt_7 rfl rfl ri (by decide) (fun c24 => ?_) (fun c24 => ?_)
              · refine g_aload_n 15 dX8_textAt_14 rfl rfl ?_
                refine g_get 18 dX8_textAt_15 faX8_16_X8 F0 rfl rfl ?_
                refine g_iload_n 19 dX8_textAt_18 rfl rfl ?_
                refine g_aaldZ 20 dX8_textAt_19 F3 (by decide) (by omega) (by omega) (by decide) (txs_at (by omega) (by omega)) rfl ?_
                refine g_aret rfl (Or.inr ⟨_, rfl⟩) dX8_textAt_20 ?_
                refine rR ?_
                refine g_astore (L1 := [some (.ref 0), some (.int (iZ a)), some (.int (iZ b)), some (.int (iZ i)), some (.null), some (.null), some (.ref (34 + 2 * i.toNat)), none]) 21 dX8_hides_19 (by decide) rfl rfl rfl ?_
                refine g_aloadN 23 dX8_hides_21 rfl rfl ?_
                refine g_ifnullN 36 dX8_hides_23 rfl ?_
                refine g_iconst (v := iZ (-1)) 37 dX8_hides_36 rfl rfl ?_
                refine g_iret rfl dX8_hides_37 ?_
                exact k _ (-1) (by decide) HS (Scr.refl _)
              · refine g_null 11 dX8_textAt_10 rfl ?_
                refine g_goto 20 dX8_textAt_11 rfl ?_
                refine g_aret rfl (Or.inl rfl) dX8_textAt_20 ?_
                refine rN ?_
                refine g_astoreN (L1 := [some (.ref 0), some (.int (iZ a)), some (.int (iZ b)), some (.int (iZ i)), some (.null), some (.null), some (.null), none]) 21 dX8_hides_19 (by decide) rfl rfl rfl ?_
                refine g_aloadN 23 dX8_hides_21 rfl rfl ?_
                refine g_ifnullN 36 dX8_hides_23 rfl ?_
                refine g_iconst (v := iZ (-1)) 37 dX8_hides_36 rfl rfl ?_
                refine g_iret rfl dX8_hides_37 ?_
                exact k _ (-1) (by decide) HS (Scr.refl _)
    · refine g_iload_n 13 dX8_toolAt_12 rfl rfl ?_
      refine g_bipush (v := iZ (12)) 15 dX8_toolAt_13 (by decide +kernel) rfl ?_
      refine g_icZ_lt 22 18 dX8_toolAt_15 rfl rfl ra (by decide) (fun c25 => ?_) (fun c25 => ?_)
      · refine g_aload_n 23 dX8_toolAt_22 rfl rfl ?_
        refine g_get 26 dX8_toolAt_23 faX8_22_X8 F0 rfl rfl ?_
        refine g_iload_n 27 dX8_toolAt_26 rfl rfl ?_
        refine g_aaldZ 28 dX8_toolAt_27 F4 (by decide) (by omega) (by omega) (by decide) (tls_at (by omega) (by omega)) rfl ?_
        refine g_aret rfl (Or.inr ⟨_, rfl⟩) dX8_toolAt_28 ?_
        refine rR ?_
        refine g_astore (L1 := [some (.ref 0), some (.int (iZ a)), some (.int (iZ b)), some (.int (iZ i)), some (.ref (71 + 4 * a.toNat)), none, none, none]) 7 dX8_hides_5 (by decide) rfl rfl rfl ?_
        refine g_aload_n 8 dX8_hides_7 rfl rfl ?_
        refine g_iload_n 9 dX8_hides_8 rfl rfl ?_
        refine g_callV (z := mX8_toolAt) (As := [.int (iZ b)]) 12 dX8_hides_9 mwX8_toolAt ⟨by decide, by decide⟩ rfl wlX8_90 wiX8_toolAt wsX8_toolAt F0 rfl rfl rfl (nle rfl) (nle rfl) rfl ?_
        refine Go.to [some (.ref 0), some (.int (iZ b))] [] rfl rfl ?_
        refine g_iload_n 1 dX8_toolAt_0 rfl rfl ?_
        refine g_ifZ_lt 18 4 dX8_toolAt_1 rfl rfl rb (fun c26 => ?_) (fun c26 => ?_)
        · refine g_null 19 dX8_toolAt_18 rfl ?_
          refine g_goto 28 dX8_toolAt_19 rfl ?_
          refine g_aret rfl (Or.inl rfl) dX8_toolAt_28 ?_
          refine rN ?_
          refine g_astoreN (L1 := [some (.ref 0), some (.int (iZ a)), some (.int (iZ b)), some (.int (iZ i)), some (.ref (71 + 4 * a.toNat)), some (.null), none, none]) 14 dX8_hides_12 (by decide) rfl rfl rfl ?_
          refine g_aload_n 15 dX8_hides_14 rfl rfl ?_
          refine g_iload_n 16 dX8_hides_15 rfl rfl ?_
          refine g_callV (z := mX8_textAt) (As := [.int (iZ i)]) 19 dX8_hides_16 mwX8_textAt ⟨by decide, by decide⟩ rfl wlX8_74 wiX8_textAt wsX8_textAt F0 rfl rfl rfl (nle rfl) (nle rfl) rfl ?_
          refine Go.to [some (.ref 0), some (.int (iZ i))] [] rfl rfl ?_
          refine g_iload_n 1 dX8_textAt_0 rfl rfl ?_
          refine g_ifZ_lt 10 4 dX8_textAt_1 rfl rfl ri (fun c27 => ?_) (fun c27 => ?_)
          · refine g_null 11 dX8_textAt_10 rfl ?_
            refine g_goto 20 dX8_textAt_11 rfl ?_
            refine g_aret rfl (Or.inl rfl) dX8_textAt_20 ?_
            refine rN ?_
            refine g_astoreN (L1 := [some (.ref 0), some (.int (iZ a)), some (.int (iZ b)), some (.int (iZ i)), some (.ref (71 + 4 * a.toNat)), some (.null), some (.null), none]) 21 dX8_hides_19 (by decide) rfl rfl rfl ?_
            refine g_aload 23 dX8_hides_21 rfl rfl ?_
            refine g_ifnull 26 dX8_hides_23 rfl ?_
            refine g_aloadN 28 dX8_hides_26 rfl rfl ?_
            refine g_ifnullN 36 dX8_hides_28 rfl ?_
            refine g_iconst (v := iZ (-1)) 37 dX8_hides_36 rfl rfl ?_
            refine g_iret rfl dX8_hides_37 ?_
            exact k _ (-1) (by decide) HS (Scr.refl _)
          · refine g_iload_n 5 dX8_textAt_4 rfl rfl ?_
            refine g_bipush (v := iZ (8)) 7 dX8_textAt_5 (by decide +kernel) rfl ?_
            refine g_icZ_lt 14 10 dX8_textAt_7 rfl rfl ri (by decide) (fun c28 => ?_) (fun c28 => ?_)
            · refine g_aload_n 15 dX8_textAt_14 rfl rfl ?_
              refine g_get 18 dX8_textAt_15 faX8_16_X8 F0 rfl rfl ?_
              refine g_iload_n 19 dX8_textAt_18 rfl rfl ?_
              refine g_aaldZ 20 dX8_textAt_19 F3 (by decide) (by omega) (by omega) (by decide) (txs_at (by omega) (by omega)) rfl ?_
              refine g_aret rfl (Or.inr ⟨_, rfl⟩) dX8_textAt_20 ?_
              refine rR ?_
              refine g_astore (L1 := [some (.ref 0), some (.int (iZ a)), some (.int (iZ b)), some (.int (iZ i)), some (.ref (71 + 4 * a.toNat)), some (.null), some (.ref (34 + 2 * i.toNat)), none]) 21 dX8_hides_19 (by decide) rfl rfl rfl ?_
              refine g_aload 23 dX8_hides_21 rfl rfl ?_
              refine g_ifnull 26 dX8_hides_23 rfl ?_
              refine g_aloadN 28 dX8_hides_26 rfl rfl ?_
              refine g_ifnullN 36 dX8_hides_28 rfl ?_
              refine g_iconst (v := iZ (-1)) 37 dX8_hides_36 rfl rfl ?_
              refine g_iret rfl dX8_hides_37 ?_
              exact k _ (-1) (by decide) HS (Scr.refl _)
            · refine g_null 11 dX8_textAt_10 rfl ?_
              refine g_goto 20 dX8_textAt_11 rfl ?_
              refine g_aret rfl (Or.inl rfl) dX8_textAt_20 ?_
              refine rN ?_
              refine g_astoreN (L1 := [some (.ref 0), some (.int (iZ a)), some (.int (iZ b)), some (.int (iZ i)), some (.ref (71 + 4 * a.toNat)), some (.null), some (.null), none]) 21 dX8_hides_19 (by decide) rfl rfl rfl ?_
              refine g_aload 23 dX8_hides_21 rfl rfl ?_
              refine g_ifnull 26 dX8_hides_23 rfl ?_
              refine g_aloadN 28 dX8_hides_26 rfl rfl ?_
              refine g_ifnullN 36 dX8_hides_28 rfl ?_
              refine g_iconst (v := iZ (-1)) 37 dX8_hides_36 rfl rfl ?_
              refine g_iret rfl dX8_hides_37 ?_
              exact k _ (-1) (by decide) HS (Scr.refl _)
        · refine g_iload_n 5 dX8_toolAt_4 rfl rfl ?_
          refine g_aload_n 6 dX8_toolAt_5 rfl rfl ?_
          refine g_get 9 dX8_toolAt_6 faX8_26_X8 F0 rfl rfl ?_
          refine g_icZ_ge 18 12 dX8_toolAt_9 rfl rfl rb (by omega) (fun c29 => ?_) (fun c29 => ?_)
          · refine g_null 19 dX8_toolAt_18 rfl ?_
            refine g_goto 28 dX8_toolAt_19 rfl ?_
            refine g_aret rfl (Or.inl rfl) dX8_toolAt_28 ?_
            refine rN ?_
            refine g_astoreN (L1 := [some (.ref 0), some (.int (iZ a)), some (.int (iZ b)), some (.int (iZ i)), some (.ref (71 + 4 * a.toNat)), some (.null), none, none]) 14 dX8_hides_12 (by decide) rfl rfl rfl ?_
            refine g_aload_n 15 dX8_hides_14 rfl rfl ?_
            refine g_iload_n 16 dX8_hides_15 rfl rfl ?_
            refine g_callV (z := mX8_textAt) (As := [.int (iZ i)]) 19 dX8_hides_16 mwX8_textAt ⟨by decide, by decide⟩ rfl wlX8_74 wiX8_textAt wsX8_textAt F0 rfl rfl rfl (nle rfl) (nle rfl) rfl ?_
            refine Go.to [some (.ref 0), some (.int (iZ i))] [] rfl rfl ?_
            refine g_iload_n 1 dX8_textAt_0 rfl rfl ?_
            refine g_ifZ_lt 10 4 dX8_textAt_1 rfl rfl ri (fun c30 => ?_) (fun c30 => ?_)
            · refine g_null 11 dX8_textAt_10 rfl ?_
              refine g_goto 20 dX8_textAt_11 rfl ?_
              refine g_aret rfl (Or.inl rfl) dX8_textAt_20 ?_
              refine rN ?_
              refine g_astoreN (L1 := [some (.ref 0), some (.int (iZ a)), some (.int (iZ b)), some (.int (iZ i)), some (.ref (71 + 4 * a.toNat)), some (.null), some (.null), none]) 21 dX8_hides_19 (by decide) rfl rfl rfl ?_
              refine g_aload 23 dX8_hides_21 rfl rfl ?_
              refine g_ifnull 26 dX8_hides_23 rfl ?_
              refine g_aloadN 28 dX8_hides_26 rfl rfl ?_
              refine g_ifnullN 36 dX8_hides_28 rfl ?_
              refine g_iconst (v := iZ (-1)) 37 dX8_hides_36 rfl rfl ?_
              refine g_iret rfl dX8_hides_37 ?_
              exact k _ (-1) (by decide) HS (Scr.refl _)
            · refine g_iload_n 5 dX8_textAt_4 rfl rfl ?_
              refine g_bipush (v := iZ (8)) 7 dX8_textAt_5 (by decide +kernel) rfl ?_
              refine g_icZ_lt 14 10 dX8_textAt_7 rfl rfl ri (by decide) (fun c31 => ?_) (fun c31 => ?_)
              · refine g_aload_n 15 dX8_textAt_14 rfl rfl ?_
                refine g_get 18 dX8_textAt_15 faX8_16_X8 F0 rfl rfl ?_
                refine g_iload_n 19 dX8_textAt_18 rfl rfl ?_
                refine g_aaldZ 20 dX8_textAt_19 F3 (by decide) (by omega) (by omega) (by decide) (txs_at (by omega) (by omega)) rfl ?_
                refine g_aret rfl (Or.inr ⟨_, rfl⟩) dX8_textAt_20 ?_
                refine rR ?_
                refine g_astore (L1 := [some (.ref 0), some (.int (iZ a)), some (.int (iZ b)), some (.int (iZ i)), some (.ref (71 + 4 * a.toNat)), some (.null), some (.ref (34 + 2 * i.toNat)), none]) 21 dX8_hides_19 (by decide) rfl rfl rfl ?_
                refine g_aload 23 dX8_hides_21 rfl rfl ?_
                refine g_ifnull 26 dX8_hides_23 rfl ?_
                refine g_aloadN 28 dX8_hides_26 rfl rfl ?_
                refine g_ifnullN 36 dX8_hides_28 rfl ?_
                refine g_iconst (v := iZ (-1)) 37 dX8_hides_36 rfl rfl ?_
                refine g_iret rfl dX8_hides_37 ?_
                exact k _ (-1) (by decide) HS (Scr.refl _)
              · refine g_null 11 dX8_textAt_10 rfl ?_
                refine g_goto 20 dX8_textAt_11 rfl ?_
                refine g_aret rfl (Or.inl rfl) dX8_textAt_20 ?_
                refine rN ?_
                refine g_astoreN (L1 := [some (.ref 0), some (.int (iZ a)), some (.int (iZ b)), some (.int (iZ i)), some (.ref (71 + 4 * a.toNat)), some (.null), some (.null), none]) 21 dX8_hides_19 (by decide) rfl rfl rfl ?_
                refine g_aload 23 dX8_hides_21 rfl rfl ?_
                refine g_ifnull 26 dX8_hides_23 rfl ?_
                refine g_aloadN 28 dX8_hides_26 rfl rfl ?_
                refine g_ifnullN 36 dX8_hides_28 rfl ?_
                refine g_iconst (v := iZ (-1)) 37 dX8_hides_36 rfl rfl ?_
                refine g_iret rfl dX8_hides_37 ?_
                exact k _ (-1) (by decide) HS (Scr.refl _)
          · refine g_iload_n 13 dX8_toolAt_12 rfl rfl ?_
            refine g_bipush (v := iZ (12)) 15 dX8_toolAt_13 (by decide +kernel) rfl ?_
            refine g_icZ_lt 22 18 dX8_toolAt_15 rfl rfl rb (by decide) (fun c32 => ?_) (fun c32 => ?_)
            · refine g_aload_n 23 dX8_toolAt_22 rfl rfl ?_
              refine g_get 26 dX8_toolAt_23 faX8_22_X8 F0 rfl rfl ?_
              refine g_iload_n 27 dX8_toolAt_26 rfl rfl ?_
              refine g_aaldZ 28 dX8_toolAt_27 F4 (by decide) (by omega) (by omega) (by decide) (tls_at (by omega) (by omega)) rfl ?_
              refine g_aret rfl (Or.inr ⟨_, rfl⟩) dX8_toolAt_28 ?_
              refine rR ?_
              refine g_astore (L1 := [some (.ref 0), some (.int (iZ a)), some (.int (iZ b)), some (.int (iZ i)), some (.ref (71 + 4 * a.toNat)), some (.ref (71 + 4 * b.toNat)), none, none]) 14 dX8_hides_12 (by decide) rfl rfl rfl ?_
              refine g_aload_n 15 dX8_hides_14 rfl rfl ?_
              refine g_iload_n 16 dX8_hides_15 rfl rfl ?_
              refine g_callV (z := mX8_textAt) (As := [.int (iZ i)]) 19 dX8_hides_16 mwX8_textAt ⟨by decide, by decide⟩ rfl wlX8_74 wiX8_textAt wsX8_textAt F0 rfl rfl rfl (nle rfl) (nle rfl) rfl ?_
              refine Go.to [some (.ref 0), some (.int (iZ i))] [] rfl rfl ?_
              refine g_iload_n 1 dX8_textAt_0 rfl rfl ?_
              refine g_ifZ_lt 10 4 dX8_textAt_1 rfl rfl ri (fun c33 => ?_) (fun c33 => ?_)
              · refine g_null 11 dX8_textAt_10 rfl ?_
                refine g_goto 20 dX8_textAt_11 rfl ?_
                refine g_aret rfl (Or.inl rfl) dX8_textAt_20 ?_
                refine rN ?_
                refine g_astoreN (L1 := [some (.ref 0), some (.int (iZ a)), some (.int (iZ b)), some (.int (iZ i)), some (.ref (71 + 4 * a.toNat)), some (.ref (71 + 4 * b.toNat)), some (.null), none]) 21 dX8_hides_19 (by decide) rfl rfl rfl ?_
                refine g_aload 23 dX8_hides_21 rfl rfl ?_
                refine g_ifnull 26 dX8_hides_23 rfl ?_
                refine g_aload 28 dX8_hides_26 rfl rfl ?_
                refine g_ifnull 31 dX8_hides_28 rfl ?_
                refine g_aloadN 33 dX8_hides_31 rfl rfl ?_
                refine g_ifnonnullN 36 dX8_hides_33 rfl ?_
                refine g_iconst (v := iZ (-1)) 37 dX8_hides_36 rfl rfl ?_
                refine g_iret rfl dX8_hides_37 ?_
                exact k _ (-1) (by decide) HS (Scr.refl _)
              · refine g_iload_n 5 dX8_textAt_4 rfl rfl ?_
                refine g_bipush (v := iZ (8)) 7 dX8_textAt_5 (by decide +kernel) rfl ?_
                refine g_icZ_lt 14 10 dX8_textAt_7 rfl rfl ri (by decide) (fun c34 => ?_) (fun c34 => ?_)
                · refine g_aload_n 15 dX8_textAt_14 rfl rfl ?_
                  refine g_get 18 dX8_textAt_15 faX8_16_X8 F0 rfl rfl ?_
                  refine g_iload_n 19 dX8_textAt_18 rfl rfl ?_
                  refine g_aaldZ 20 dX8_textAt_19 F3 (by decide) (by omega) (by omega) (by decide) (txs_at (by omega) (by omega)) rfl ?_
                  refine g_aret rfl (Or.inr ⟨_, rfl⟩) dX8_textAt_20 ?_
                  refine rR ?_
                  refine g_astore (L1 := [some (.ref 0), some (.int (iZ a)), some (.int (iZ b)), some (.int (iZ i)), some (.ref (71 + 4 * a.toNat)), some (.ref (71 + 4 * b.toNat)), some (.ref (34 + 2 * i.toNat)), none]) 21 dX8_hides_19 (by decide) rfl rfl rfl ?_
                  refine g_aload 23 dX8_hides_21 rfl rfl ?_
                  refine g_ifnull 26 dX8_hides_23 rfl ?_
                  refine g_aload 28 dX8_hides_26 rfl rfl ?_
                  refine g_ifnull 31 dX8_hides_28 rfl ?_
                  refine g_aload 33 dX8_hides_31 rfl rfl ?_
                  refine g_ifnonnull 38 dX8_hides_33 rfl ?_
                  refine g_aload_n 39 dX8_hides_38 rfl rfl ?_
                  refine g_aload 41 dX8_hides_39 rfl rfl ?_
                  refine g_aload 43 dX8_hides_41 rfl rfl ?_
                  refine g_aload 45 dX8_hides_43 rfl rfl ?_
                  refine g_callV (z := mX8_goneRound) (As := [.ref (71 + 4 * a.toNat), .ref (71 + 4 * b.toNat), .ref (34 + 2 * i.toNat)]) 48 dX8_hides_45 mwX8_goneRound ⟨by decide, by decide⟩ rfl wlX8_166 wiX8_goneRound wsX8_goneRound F0 rfl rfl rfl (nle rfl) (nle rfl) rfl ?_
                  refine w_round HC HS  (by omega) (by omega) (by omega) (fun h36 z35 rz35 H37 s38 => ?_)
                  refine rI ?_
                  refine g_istore (L1 := [some (.ref 0), some (.int (iZ a)), some (.int (iZ b)), some (.int (iZ i)), some (.ref (71 + 4 * a.toNat)), some (.ref (71 + 4 * b.toNat)), some (.ref (34 + 2 * i.toNat)), some (.int (iZ z35))]) 50 dX8_hides_48 (by decide) rfl rfl rfl ?_
                  refine g_iload 52 dX8_hides_50 rfl rfl ?_
                  refine g_ifZ_gt 58 55 dX8_hides_52 rfl rfl rz35 (fun c39 => ?_) (fun c39 => ?_)
                  · refine g_aload_n 59 dX8_hides_58 rfl rfl ?_
                    have f40 := (s38.get (by omega) F0)
                    refine g_get 62 dX8_hides_59 faX8_50_X8 f40 rfl rfl ?_
                    refine g_aload 64 dX8_hides_62 rfl rfl ?_
                    obtain ⟨M_41, n_41, hw_41, tx_41, bd_41, ck_41, f_41, g_41, hM_41, rn_41, rhw_41, rtx_41, rbd_41, rck_41, of_41, og_41, e0_41, e1_41, e2_41, e3_41⟩ := HL (a.toNat) (by omega)
                    have f42 := (s38.get (by omega) e0_41)
                    refine g_get 67 dX8_hides_64 faX8_94_X7 f42 rfl rfl ?_
                    refine g_aload 69 dX8_hides_67 rfl rfl ?_
                    obtain ⟨a_43, x_43, p_43, en_43, dn_43, tk_43, hm_43, on_43, mm_43, of_43, og_43, ra_43, rx_43, rp_43, ren_43, rdn_43, rtk_43, rhm_43, ron_43, omm_43, oof_43, oog_43, e0_43, e1_43, e2_43, e3_43, e4_43⟩ := SC.m (m := 20) (by decide) H37
                    refine g_callV (z := mX2_builds) (As := [.ref (71 + 4 * a.toNat + 1), .ref (34 + 2 * i.toNat)]) 72 dX8_hides_69 mwX2_builds ⟨by decide, by decide⟩ rfl wlX8_98 wiX2_builds wsX2_builds e0_43 rfl rfl rfl (nle rfl) (nle rfl) rfl ?_
                    obtain ⟨t0_44, t1_44, t2_44, t3_44, t4_44⟩ := HT (i.toNat) (by omega)
                    have f45 := (s38.get (by omega) t0_44)
                    have f46 := (s38.get (by omega) t1_44)
                    have f47 := (s38.get (by omega) e1_41)
                    have f48 := (s38.get (by omega) e2_41)
                    have f49 := (s38.get (by omega) e3_41)
                    refine sc_bl (M := M_41) (by decide) H37 f47 f48 f49 of_41 og_41 rn_41 (by omega) (by omega) f45 f46 (okb_okr t4_44) (by omega) (by omega) (fun h50 z51 rz51 H52 s53 => ?_)
                    refine rI ?_
                    refine g_ifZ_eq 97 75 dX8_hides_72 rfl rfl (rg01 rz51) (fun c54 => ?_) (fun c54 => ?_)
                    · refine g_iconst (v := iZ (0)) 98 dX8_hides_97 rfl rfl ?_
                      refine g_iret rfl dX8_hides_98 ?_
                      exact k _ (0) (by decide) H52 (s38.tr s53)
                    · refine g_aload 77 dX8_hides_75 rfl rfl ?_
                      have f55 := (s53.get (by omega) f42)
                      refine g_get 80 dX8_hides_77 faX8_94_X7 f55 rfl rfl ?_
                      refine g_aload_n 81 dX8_hides_80 rfl rfl ?_
                      have f56 := (s53.get (by omega) f40)
                      refine g_get 84 dX8_hides_81 faX8_50_X8 f56 rfl rfl ?_
                      obtain ⟨a_57, x_57, p_57, en_57, dn_57, tk_57, hm_57, on_57, mm_57, of_57, og_57, ra_57, rx_57, rp_57, ren_57, rdn_57, rtk_57, rhm_57, ron_57, omm_57, oof_57, oog_57, e0_57, e1_57, e2_57, e3_57, e4_57⟩ := SC.m (m := 20) (by decide) H52
                      refine g_get 87 dX8_hides_84 faX8_102_X2 e0_57 rfl rfl ?_
                      have f58 := (s53.get (by omega) f47)
                      refine g_callV (z := mX0_unlike) (As := [.ref 22]) 90 dX8_hides_87 mwX0_unlike ⟨by decide, by decide⟩ rfl wlX8_162 wiX0_unlike wsX0_unlike f58 rfl rfl rfl (nle rfl) (nle rfl) rfl ?_
                      have f59 := (s53.get (by omega) f48)
                      have f60 := (s53.get (by omega) f49)
                      refine w_unl (M := M_41) (N := 256) f58 f59 f60 e2_57 e3_57 e4_57 of_41 og_41 oof_57 oog_57 rn_41 ron_57 (by omega) (by decide) (fun z61 rz61 => ?_)
                      refine rI ?_
                      refine g_ifZ_ne 97 93 dX8_hides_90 rfl rfl rz61 (fun c62 => ?_) (fun c62 => ?_)
                      · refine g_iconst (v := iZ (0)) 98 dX8_hides_97 rfl rfl ?_
                        refine g_iret rfl dX8_hides_98 ?_
                        exact k _ (0) (by decide) H52 (s38.tr s53)
                      · refine g_iconst (v := iZ (1)) 94 dX8_hides_93 rfl rfl ?_
                        refine g_goto 98 dX8_hides_94 rfl ?_
                        refine g_iret rfl dX8_hides_98 ?_
                        exact k _ (1) (by decide) H52 (s38.tr s53)
                  · refine g_iload 57 dX8_hides_55 rfl rfl ?_
                    refine g_iret rfl dX8_hides_57 ?_
                    exact k _ (z35) rz35 H37 s38
                · refine g_null 11 dX8_textAt_10 rfl ?_
                  refine g_goto 20 dX8_textAt_11 rfl ?_
                  refine g_aret rfl (Or.inl rfl) dX8_textAt_20 ?_
                  refine rN ?_
                  refine g_astoreN (L1 := [some (.ref 0), some (.int (iZ a)), some (.int (iZ b)), some (.int (iZ i)), some (.ref (71 + 4 * a.toNat)), some (.ref (71 + 4 * b.toNat)), some (.null), none]) 21 dX8_hides_19 (by decide) rfl rfl rfl ?_
                  refine g_aload 23 dX8_hides_21 rfl rfl ?_
                  refine g_ifnull 26 dX8_hides_23 rfl ?_
                  refine g_aload 28 dX8_hides_26 rfl rfl ?_
                  refine g_ifnull 31 dX8_hides_28 rfl ?_
                  refine g_aloadN 33 dX8_hides_31 rfl rfl ?_
                  refine g_ifnonnullN 36 dX8_hides_33 rfl ?_
                  refine g_iconst (v := iZ (-1)) 37 dX8_hides_36 rfl rfl ?_
                  refine g_iret rfl dX8_hides_37 ?_
                  exact k _ (-1) (by decide) HS (Scr.refl _)
            · refine g_null 19 dX8_toolAt_18 rfl ?_
              refine g_goto 28 dX8_toolAt_19 rfl ?_
              refine g_aret rfl (Or.inl rfl) dX8_toolAt_28 ?_
              refine rN ?_
              refine g_astoreN (L1 := [some (.ref 0), some (.int (iZ a)), some (.int (iZ b)), some (.int (iZ i)), some (.ref (71 + 4 * a.toNat)), some (.null), none, none]) 14 dX8_hides_12 (by decide) rfl rfl rfl ?_
              refine g_aload_n 15 dX8_hides_14 rfl rfl ?_
              refine g_iload_n 16 dX8_hides_15 rfl rfl ?_
              refine g_callV (z := mX8_textAt) (As := [.int (iZ i)]) 19 dX8_hides_16 mwX8_textAt ⟨by decide, by decide⟩ rfl wlX8_74 wiX8_textAt wsX8_textAt F0 rfl rfl rfl (nle rfl) (nle rfl) rfl ?_
              refine Go.to [some (.ref 0), some (.int (iZ i))] [] rfl rfl ?_
              refine g_iload_n 1 dX8_textAt_0 rfl rfl ?_
              refine g_ifZ_lt 10 4 dX8_textAt_1 rfl rfl ri (fun c63 => ?_) (fun c63 => ?_)
              · refine g_null 11 dX8_textAt_10 rfl ?_
                refine g_goto 20 dX8_textAt_11 rfl ?_
                refine g_aret rfl (Or.inl rfl) dX8_textAt_20 ?_
                refine rN ?_
                refine g_astoreN (L1 := [some (.ref 0), some (.int (iZ a)), some (.int (iZ b)), some (.int (iZ i)), some (.ref (71 + 4 * a.toNat)), some (.null), some (.null), none]) 21 dX8_hides_19 (by decide) rfl rfl rfl ?_
                refine g_aload 23 dX8_hides_21 rfl rfl ?_
                refine g_ifnull 26 dX8_hides_23 rfl ?_
                refine g_aloadN 28 dX8_hides_26 rfl rfl ?_
                refine g_ifnullN 36 dX8_hides_28 rfl ?_
                refine g_iconst (v := iZ (-1)) 37 dX8_hides_36 rfl rfl ?_
                refine g_iret rfl dX8_hides_37 ?_
                exact k _ (-1) (by decide) HS (Scr.refl _)
              · refine g_iload_n 5 dX8_textAt_4 rfl rfl ?_
                refine g_bipush (v := iZ (8)) 7 dX8_textAt_5 (by decide +kernel) rfl ?_
                refine g_icZ_lt 14 10 dX8_textAt_7 rfl rfl ri (by decide) (fun c64 => ?_) (fun c64 => ?_)
                · refine g_aload_n 15 dX8_textAt_14 rfl rfl ?_
                  refine g_get 18 dX8_textAt_15 faX8_16_X8 F0 rfl rfl ?_
                  refine g_iload_n 19 dX8_textAt_18 rfl rfl ?_
                  refine g_aaldZ 20 dX8_textAt_19 F3 (by decide) (by omega) (by omega) (by decide) (txs_at (by omega) (by omega)) rfl ?_
                  refine g_aret rfl (Or.inr ⟨_, rfl⟩) dX8_textAt_20 ?_
                  refine rR ?_
                  refine g_astore (L1 := [some (.ref 0), some (.int (iZ a)), some (.int (iZ b)), some (.int (iZ i)), some (.ref (71 + 4 * a.toNat)), some (.null), some (.ref (34 + 2 * i.toNat)), none]) 21 dX8_hides_19 (by decide) rfl rfl rfl ?_
                  refine g_aload 23 dX8_hides_21 rfl rfl ?_
                  refine g_ifnull 26 dX8_hides_23 rfl ?_
                  refine g_aloadN 28 dX8_hides_26 rfl rfl ?_
                  refine g_ifnullN 36 dX8_hides_28 rfl ?_
                  refine g_iconst (v := iZ (-1)) 37 dX8_hides_36 rfl rfl ?_
                  refine g_iret rfl dX8_hides_37 ?_
                  exact k _ (-1) (by decide) HS (Scr.refl _)
                · refine g_null 11 dX8_textAt_10 rfl ?_
                  refine g_goto 20 dX8_textAt_11 rfl ?_
                  refine g_aret rfl (Or.inl rfl) dX8_textAt_20 ?_
                  refine rN ?_
                  refine g_astoreN (L1 := [some (.ref 0), some (.int (iZ a)), some (.int (iZ b)), some (.int (iZ i)), some (.ref (71 + 4 * a.toNat)), some (.null), some (.null), none]) 21 dX8_hides_19 (by decide) rfl rfl rfl ?_
                  refine g_aload 23 dX8_hides_21 rfl rfl ?_
                  refine g_ifnull 26 dX8_hides_23 rfl ?_
                  refine g_aloadN 28 dX8_hides_26 rfl rfl ?_
                  refine g_ifnullN 36 dX8_hides_28 rfl ?_
                  refine g_iconst (v := iZ (-1)) 37 dX8_hides_36 rfl rfl ?_
                  refine g_iret rfl dX8_hides_37 ?_
                  exact k _ (-1) (by decide) HS (Scr.refl _)
      · refine g_null 19 dX8_toolAt_18 rfl ?_
        refine g_goto 28 dX8_toolAt_19 rfl ?_
        refine g_aret rfl (Or.inl rfl) dX8_toolAt_28 ?_
        refine rN ?_
        refine g_astoreN (L1 := [some (.ref 0), some (.int (iZ a)), some (.int (iZ b)), some (.int (iZ i)), some (.null), none, none, none]) 7 dX8_hides_5 (by decide) rfl rfl rfl ?_
        refine g_aload_n 8 dX8_hides_7 rfl rfl ?_
        refine g_iload_n 9 dX8_hides_8 rfl rfl ?_
        refine g_callV (z := mX8_toolAt) (As := [.int (iZ b)]) 12 dX8_hides_9 mwX8_toolAt ⟨by decide, by decide⟩ rfl wlX8_90 wiX8_toolAt wsX8_toolAt F0 rfl rfl rfl (nle rfl) (nle rfl) rfl ?_
        refine Go.to [some (.ref 0), some (.int (iZ b))] [] rfl rfl ?_
        refine g_iload_n 1 dX8_toolAt_0 rfl rfl ?_
        refine g_ifZ_lt 18 4 dX8_toolAt_1 rfl rfl rb (fun c65 => ?_) (fun c65 => ?_)
        · refine g_null 19 dX8_toolAt_18 rfl ?_
          refine g_goto 28 dX8_toolAt_19 rfl ?_
          refine g_aret rfl (Or.inl rfl) dX8_toolAt_28 ?_
          refine rN ?_
          refine g_astoreN (L1 := [some (.ref 0), some (.int (iZ a)), some (.int (iZ b)), some (.int (iZ i)), some (.null), some (.null), none, none]) 14 dX8_hides_12 (by decide) rfl rfl rfl ?_
          refine g_aload_n 15 dX8_hides_14 rfl rfl ?_
          refine g_iload_n 16 dX8_hides_15 rfl rfl ?_
          refine g_callV (z := mX8_textAt) (As := [.int (iZ i)]) 19 dX8_hides_16 mwX8_textAt ⟨by decide, by decide⟩ rfl wlX8_74 wiX8_textAt wsX8_textAt F0 rfl rfl rfl (nle rfl) (nle rfl) rfl ?_
          refine Go.to [some (.ref 0), some (.int (iZ i))] [] rfl rfl ?_
          refine g_iload_n 1 dX8_textAt_0 rfl rfl ?_
          refine g_ifZ_lt 10 4 dX8_textAt_1 rfl rfl ri (fun c66 => ?_) (fun c66 => ?_)
          · refine g_null 11 dX8_textAt_10 rfl ?_
            refine g_goto 20 dX8_textAt_11 rfl ?_
            refine g_aret rfl (Or.inl rfl) dX8_textAt_20 ?_
            refine rN ?_
            refine g_astoreN (L1 := [some (.ref 0), some (.int (iZ a)), some (.int (iZ b)), some (.int (iZ i)), some (.null), some (.null), some (.null), none]) 21 dX8_hides_19 (by decide) rfl rfl rfl ?_
            refine g_aloadN 23 dX8_hides_21 rfl rfl ?_
            refine g_ifnullN 36 dX8_hides_23 rfl ?_
            refine g_iconst (v := iZ (-1)) 37 dX8_hides_36 rfl rfl ?_
            refine g_iret rfl dX8_hides_37 ?_
            exact k _ (-1) (by decide) HS (Scr.refl _)
          · refine g_iload_n 5 dX8_textAt_4 rfl rfl ?_
            refine g_bipush (v := iZ (8)) 7 dX8_textAt_5 (by decide +kernel) rfl ?_
            refine g_icZ_lt 14 10 dX8_textAt_7 rfl rfl ri (by decide) (fun c67 => ?_) (fun c67 => ?_)
            · refine g_aload_n 15 dX8_textAt_14 rfl rfl ?_
              refine g_get 18 dX8_textAt_15 faX8_16_X8 F0 rfl rfl ?_
              refine g_iload_n 19 dX8_textAt_18 rfl rfl ?_
              refine g_aaldZ 20 dX8_textAt_19 F3 (by decide) (by omega) (by omega) (by decide) (txs_at (by omega) (by omega)) rfl ?_
              refine g_aret rfl (Or.inr ⟨_, rfl⟩) dX8_textAt_20 ?_
              refine rR ?_
              refine g_astore (L1 := [some (.ref 0), some (.int (iZ a)), some (.int (iZ b)), some (.int (iZ i)), some (.null), some (.null), some (.ref (34 + 2 * i.toNat)), none]) 21 dX8_hides_19 (by decide) rfl rfl rfl ?_
              refine g_aloadN 23 dX8_hides_21 rfl rfl ?_
              refine g_ifnullN 36 dX8_hides_23 rfl ?_
              refine g_iconst (v := iZ (-1)) 37 dX8_hides_36 rfl rfl ?_
              refine g_iret rfl dX8_hides_37 ?_
              exact k _ (-1) (by decide) HS (Scr.refl _)
            · refine g_null 11 dX8_textAt_10 rfl ?_
              refine g_goto 20 dX8_textAt_11 rfl ?_
              refine g_aret rfl (Or.inl rfl) dX8_textAt_20 ?_
              refine rN ?_
              refine g_astoreN (L1 := [some (.ref 0), some (.int (iZ a)), some (.int (iZ b)), some (.int (iZ i)), some (.null), some (.null), some (.null), none]) 21 dX8_hides_19 (by decide) rfl rfl rfl ?_
              refine g_aloadN 23 dX8_hides_21 rfl rfl ?_
              refine g_ifnullN 36 dX8_hides_23 rfl ?_
              refine g_iconst (v := iZ (-1)) 37 dX8_hides_36 rfl rfl ?_
              refine g_iret rfl dX8_hides_37 ?_
              exact k _ (-1) (by decide) HS (Scr.refl _)
        · refine g_iload_n 5 dX8_toolAt_4 rfl rfl ?_
          refine g_aload_n 6 dX8_toolAt_5 rfl rfl ?_
          refine g_get 9 dX8_toolAt_6 faX8_26_X8 F0 rfl rfl ?_
          refine g_icZ_ge 18 12 dX8_toolAt_9 rfl rfl rb (by omega) (fun c68 => ?_) (fun c68 => ?_)
          · refine g_null 19 dX8_toolAt_18 rfl ?_
            refine g_goto 28 dX8_toolAt_19 rfl ?_
            refine g_aret rfl (Or.inl rfl) dX8_toolAt_28 ?_
            refine rN ?_
            refine g_astoreN (L1 := [some (.ref 0), some (.int (iZ a)), some (.int (iZ b)), some (.int (iZ i)), some (.null), some (.null), none, none]) 14 dX8_hides_12 (by decide) rfl rfl rfl ?_
            refine g_aload_n 15 dX8_hides_14 rfl rfl ?_
            refine g_iload_n 16 dX8_hides_15 rfl rfl ?_
            refine g_callV (z := mX8_textAt) (As := [.int (iZ i)]) 19 dX8_hides_16 mwX8_textAt ⟨by decide, by decide⟩ rfl wlX8_74 wiX8_textAt wsX8_textAt F0 rfl rfl rfl (nle rfl) (nle rfl) rfl ?_
            refine Go.to [some (.ref 0), some (.int (iZ i))] [] rfl rfl ?_
            refine g_iload_n 1 dX8_textAt_0 rfl rfl ?_
            refine g_ifZ_lt 10 4 dX8_textAt_1 rfl rfl ri (fun c69 => ?_) (fun c69 => ?_)
            · refine g_null 11 dX8_textAt_10 rfl ?_
              refine g_goto 20 dX8_textAt_11 rfl ?_
              refine g_aret rfl (Or.inl rfl) dX8_textAt_20 ?_
              refine rN ?_
              refine g_astoreN (L1 := [some (.ref 0), some (.int (iZ a)), some (.int (iZ b)), some (.int (iZ i)), some (.null), some (.null), some (.null), none]) 21 dX8_hides_19 (by decide) rfl rfl rfl ?_
              refine g_aloadN 23 dX8_hides_21 rfl rfl ?_
              refine g_ifnullN 36 dX8_hides_23 rfl ?_
              refine g_iconst (v := iZ (-1)) 37 dX8_hides_36 rfl rfl ?_
              refine g_iret rfl dX8_hides_37 ?_
              exact k _ (-1) (by decide) HS (Scr.refl _)
            · refine g_iload_n 5 dX8_textAt_4 rfl rfl ?_
              refine g_bipush (v := iZ (8)) 7 dX8_textAt_5 (by decide +kernel) rfl ?_
              refine g_icZ_lt 14 10 dX8_textAt_7 rfl rfl ri (by decide) (fun c70 => ?_) (fun c70 => ?_)
              · refine g_aload_n 15 dX8_textAt_14 rfl rfl ?_
                refine g_get 18 dX8_textAt_15 faX8_16_X8 F0 rfl rfl ?_
                refine g_iload_n 19 dX8_textAt_18 rfl rfl ?_
                refine g_aaldZ 20 dX8_textAt_19 F3 (by decide) (by omega) (by omega) (by decide) (txs_at (by omega) (by omega)) rfl ?_
                refine g_aret rfl (Or.inr ⟨_, rfl⟩) dX8_textAt_20 ?_
                refine rR ?_
                refine g_astore (L1 := [some (.ref 0), some (.int (iZ a)), some (.int (iZ b)), some (.int (iZ i)), some (.null), some (.null), some (.ref (34 + 2 * i.toNat)), none]) 21 dX8_hides_19 (by decide) rfl rfl rfl ?_
                refine g_aloadN 23 dX8_hides_21 rfl rfl ?_
                refine g_ifnullN 36 dX8_hides_23 rfl ?_
                refine g_iconst (v := iZ (-1)) 37 dX8_hides_36 rfl rfl ?_
                refine g_iret rfl dX8_hides_37 ?_
                exact k _ (-1) (by decide) HS (Scr.refl _)
              · refine g_null 11 dX8_textAt_10 rfl ?_
                refine g_goto 20 dX8_textAt_11 rfl ?_
                refine g_aret rfl (Or.inl rfl) dX8_textAt_20 ?_
                refine rN ?_
                refine g_astoreN (L1 := [some (.ref 0), some (.int (iZ a)), some (.int (iZ b)), some (.int (iZ i)), some (.null), some (.null), some (.null), none]) 21 dX8_hides_19 (by decide) rfl rfl rfl ?_
                refine g_aloadN 23 dX8_hides_21 rfl rfl ?_
                refine g_ifnullN 36 dX8_hides_23 rfl ?_
                refine g_iconst (v := iZ (-1)) 37 dX8_hides_36 rfl rfl ?_
                refine g_iret rfl dX8_hides_37 ?_
                exact k _ (-1) (by decide) HS (Scr.refl _)
          · refine g_iload_n 13 dX8_toolAt_12 rfl rfl ?_
            refine g_bipush (v := iZ (12)) 15 dX8_toolAt_13 (by decide +kernel) rfl ?_
            refine g_icZ_lt 22 18 dX8_toolAt_15 rfl rfl rb (by decide) (fun c71 => ?_) (fun c71 => ?_)
            · refine g_aload_n 23 dX8_toolAt_22 rfl rfl ?_
              refine g_get 26 dX8_toolAt_23 faX8_22_X8 F0 rfl rfl ?_
              refine g_iload_n 27 dX8_toolAt_26 rfl rfl ?_
              refine g_aaldZ 28 dX8_toolAt_27 F4 (by decide) (by omega) (by omega) (by decide) (tls_at (by omega) (by omega)) rfl ?_
              refine g_aret rfl (Or.inr ⟨_, rfl⟩) dX8_toolAt_28 ?_
              refine rR ?_
              refine g_astore (L1 := [some (.ref 0), some (.int (iZ a)), some (.int (iZ b)), some (.int (iZ i)), some (.null), some (.ref (71 + 4 * b.toNat)), none, none]) 14 dX8_hides_12 (by decide) rfl rfl rfl ?_
              refine g_aload_n 15 dX8_hides_14 rfl rfl ?_
              refine g_iload_n 16 dX8_hides_15 rfl rfl ?_
              refine g_callV (z := mX8_textAt) (As := [.int (iZ i)]) 19 dX8_hides_16 mwX8_textAt ⟨by decide, by decide⟩ rfl wlX8_74 wiX8_textAt wsX8_textAt F0 rfl rfl rfl (nle rfl) (nle rfl) rfl ?_
              refine Go.to [some (.ref 0), some (.int (iZ i))] [] rfl rfl ?_
              refine g_iload_n 1 dX8_textAt_0 rfl rfl ?_
              refine g_ifZ_lt 10 4 dX8_textAt_1 rfl rfl ri (fun c72 => ?_) (fun c72 => ?_)
              · refine g_null 11 dX8_textAt_10 rfl ?_
                refine g_goto 20 dX8_textAt_11 rfl ?_
                refine g_aret rfl (Or.inl rfl) dX8_textAt_20 ?_
                refine rN ?_
                refine g_astoreN (L1 := [some (.ref 0), some (.int (iZ a)), some (.int (iZ b)), some (.int (iZ i)), some (.null), some (.ref (71 + 4 * b.toNat)), some (.null), none]) 21 dX8_hides_19 (by decide) rfl rfl rfl ?_
                refine g_aloadN 23 dX8_hides_21 rfl rfl ?_
                refine g_ifnullN 36 dX8_hides_23 rfl ?_
                refine g_iconst (v := iZ (-1)) 37 dX8_hides_36 rfl rfl ?_
                refine g_iret rfl dX8_hides_37 ?_
                exact k _ (-1) (by decide) HS (Scr.refl _)
              · refine g_iload_n 5 dX8_textAt_4 rfl rfl ?_
                refine g_bipush (v := iZ (8)) 7 dX8_textAt_5 (by decide +kernel) rfl ?_
                refine g_icZ_lt 14 10 dX8_textAt_7 rfl rfl ri (by decide) (fun c73 => ?_) (fun c73 => ?_)
                · refine g_aload_n 15 dX8_textAt_14 rfl rfl ?_
                  refine g_get 18 dX8_textAt_15 faX8_16_X8 F0 rfl rfl ?_
                  refine g_iload_n 19 dX8_textAt_18 rfl rfl ?_
                  refine g_aaldZ 20 dX8_textAt_19 F3 (by decide) (by omega) (by omega) (by decide) (txs_at (by omega) (by omega)) rfl ?_
                  refine g_aret rfl (Or.inr ⟨_, rfl⟩) dX8_textAt_20 ?_
                  refine rR ?_
                  refine g_astore (L1 := [some (.ref 0), some (.int (iZ a)), some (.int (iZ b)), some (.int (iZ i)), some (.null), some (.ref (71 + 4 * b.toNat)), some (.ref (34 + 2 * i.toNat)), none]) 21 dX8_hides_19 (by decide) rfl rfl rfl ?_
                  refine g_aloadN 23 dX8_hides_21 rfl rfl ?_
                  refine g_ifnullN 36 dX8_hides_23 rfl ?_
                  refine g_iconst (v := iZ (-1)) 37 dX8_hides_36 rfl rfl ?_
                  refine g_iret rfl dX8_hides_37 ?_
                  exact k _ (-1) (by decide) HS (Scr.refl _)
                · refine g_null 11 dX8_textAt_10 rfl ?_
                  refine g_goto 20 dX8_textAt_11 rfl ?_
                  refine g_aret rfl (Or.inl rfl) dX8_textAt_20 ?_
                  refine rN ?_
                  refine g_astoreN (L1 := [some (.ref 0), some (.int (iZ a)), some (.int (iZ b)), some (.int (iZ i)), some (.null), some (.ref (71 + 4 * b.toNat)), some (.null), none]) 21 dX8_hides_19 (by decide) rfl rfl rfl ?_
                  refine g_aloadN 23 dX8_hides_21 rfl rfl ?_
                  refine g_ifnullN 36 dX8_hides_23 rfl ?_
                  refine g_iconst (v := iZ (-1)) 37 dX8_hides_36 rfl rfl ?_
                  refine g_iret rfl dX8_hides_37 ?_
                  exact k _ (-1) (by decide) HS (Scr.refl _)
            · refine g_null 19 dX8_toolAt_18 rfl ?_
              refine g_goto 28 dX8_toolAt_19 rfl ?_
              refine g_aret rfl (Or.inl rfl) dX8_toolAt_28 ?_
              refine rN ?_
              refine g_astoreN (L1 := [some (.ref 0), some (.int (iZ a)), some (.int (iZ b)), some (.int (iZ i)), some (.null), some (.null), none, none]) 14 dX8_hides_12 (by decide) rfl rfl rfl ?_
              refine g_aload_n 15 dX8_hides_14 rfl rfl ?_
              refine g_iload_n 16 dX8_hides_15 rfl rfl ?_
              refine g_callV (z := mX8_textAt) (As := [.int (iZ i)]) 19 dX8_hides_16 mwX8_textAt ⟨by decide, by decide⟩ rfl wlX8_74 wiX8_textAt wsX8_textAt F0 rfl rfl rfl (nle rfl) (nle rfl) rfl ?_
              refine Go.to [some (.ref 0), some (.int (iZ i))] [] rfl rfl ?_
              refine g_iload_n 1 dX8_textAt_0 rfl rfl ?_
              refine g_ifZ_lt 10 4 dX8_textAt_1 rfl rfl ri (fun c74 => ?_) (fun c74 => ?_)
              · refine g_null 11 dX8_textAt_10 rfl ?_
                refine g_goto 20 dX8_textAt_11 rfl ?_
                refine g_aret rfl (Or.inl rfl) dX8_textAt_20 ?_
                refine rN ?_
                refine g_astoreN (L1 := [some (.ref 0), some (.int (iZ a)), some (.int (iZ b)), some (.int (iZ i)), some (.null), some (.null), some (.null), none]) 21 dX8_hides_19 (by decide) rfl rfl rfl ?_
                refine g_aloadN 23 dX8_hides_21 rfl rfl ?_
                refine g_ifnullN 36 dX8_hides_23 rfl ?_
                refine g_iconst (v := iZ (-1)) 37 dX8_hides_36 rfl rfl ?_
                refine g_iret rfl dX8_hides_37 ?_
                exact k _ (-1) (by decide) HS (Scr.refl _)
              · refine g_iload_n 5 dX8_textAt_4 rfl rfl ?_
                refine g_bipush (v := iZ (8)) 7 dX8_textAt_5 (by decide +kernel) rfl ?_
                refine g_icZ_lt 14 10 dX8_textAt_7 rfl rfl ri (by decide) (fun c75 => ?_) (fun c75 => ?_)
                · refine g_aload_n 15 dX8_textAt_14 rfl rfl ?_
                  refine g_get 18 dX8_textAt_15 faX8_16_X8 F0 rfl rfl ?_
                  refine g_iload_n 19 dX8_textAt_18 rfl rfl ?_
                  refine g_aaldZ 20 dX8_textAt_19 F3 (by decide) (by omega) (by omega) (by decide) (txs_at (by omega) (by omega)) rfl ?_
                  refine g_aret rfl (Or.inr ⟨_, rfl⟩) dX8_textAt_20 ?_
                  refine rR ?_
                  refine g_astore (L1 := [some (.ref 0), some (.int (iZ a)), some (.int (iZ b)), some (.int (iZ i)), some (.null), some (.null), some (.ref (34 + 2 * i.toNat)), none]) 21 dX8_hides_19 (by decide) rfl rfl rfl ?_
                  refine g_aloadN 23 dX8_hides_21 rfl rfl ?_
                  refine g_ifnullN 36 dX8_hides_23 rfl ?_
                  refine g_iconst (v := iZ (-1)) 37 dX8_hides_36 rfl rfl ?_
                  refine g_iret rfl dX8_hides_37 ?_
                  exact k _ (-1) (by decide) HS (Scr.refl _)
                · refine g_null 11 dX8_textAt_10 rfl ?_
                  refine g_goto 20 dX8_textAt_11 rfl ?_
                  refine g_aret rfl (Or.inl rfl) dX8_textAt_20 ?_
                  refine rN ?_
                  refine g_astoreN (L1 := [some (.ref 0), some (.int (iZ a)), some (.int (iZ b)), some (.int (iZ i)), some (.null), some (.null), some (.null), none]) 21 dX8_hides_19 (by decide) rfl rfl rfl ?_
                  refine g_aloadN 23 dX8_hides_21 rfl rfl ?_
                  refine g_ifnullN 36 dX8_hides_23 rfl ?_
                  refine g_iconst (v := iZ (-1)) 37 dX8_hides_36 rfl rfl ?_
                  refine g_iret rfl dX8_hides_37 ?_
                  exact k _ (-1) (by decide) HS (Scr.refl _)
set_option maxRecDepth 100000 in
theorem p_sealed {l : Launch} {h : MH} {Q : Option Value → MH → Prop} {tc : Nat} {xn : Nat → Int} {xf : Nat → Nat → Int} {t : Int} (HC : CORE h tc xn xf) (HS : SC h) (rt : rg t)  (k : ∀ (h1 : MH) (r : Int), rg r → SC h1 → Scr h h1 → Q (some (.int (iZ r))) h1) : Go l mX8_sealed 0 [some (.ref 0), some (.int (iZ t))] [] h Q := by
  obtain ⟨⟨tr, F0⟩, F3, F4, htc, HT, HL⟩ := id HC
  refine g_aload_n 1 dX8_sealed_0 rfl rfl ?_
  refine g_iload_n 2 dX8_sealed_1 rfl rfl ?_
  refine g_callV (z := mX8_toolAt) (As := [.int (iZ t)]) 5 dX8_sealed_2 mwX8_toolAt ⟨by decide, by decide⟩ rfl wlX8_90 wiX8_toolAt wsX8_toolAt F0 rfl rfl rfl (nle rfl) (nle rfl) rfl ?_
  refine Go.to [some (.ref 0), some (.int (iZ t))] [] rfl rfl ?_
  refine g_iload_n 1 dX8_toolAt_0 rfl rfl ?_
  refine g_ifZ_lt 18 4 dX8_toolAt_1 rfl rfl rt (fun c1 => ?_) (fun c1 => ?_)
  · refine g_null 19 dX8_toolAt_18 rfl ?_
    refine g_goto 28 dX8_toolAt_19 rfl ?_
    refine g_aret rfl (Or.inl rfl) dX8_toolAt_28 ?_
    refine rN ?_
    refine g_ifnonnullN 8 dX8_sealed_5 rfl ?_
    refine g_iconst (v := iZ (-1)) 9 dX8_sealed_8 rfl rfl ?_
    refine g_iret rfl dX8_sealed_9 ?_
    exact k _ (-1) (by decide) HS (Scr.refl _)
  · refine g_iload_n 5 dX8_toolAt_4 rfl rfl ?_
    refine g_aload_n 6 dX8_toolAt_5 rfl rfl ?_
    refine g_get 9 dX8_toolAt_6 faX8_26_X8 F0 rfl rfl ?_
    refine g_icZ_ge 18 12 dX8_toolAt_9 rfl rfl rt (by omega) (fun c2 => ?_) (fun c2 => ?_)
    · refine g_null 19 dX8_toolAt_18 rfl ?_
      refine g_goto 28 dX8_toolAt_19 rfl ?_
      refine g_aret rfl (Or.inl rfl) dX8_toolAt_28 ?_
      refine rN ?_
      refine g_ifnonnullN 8 dX8_sealed_5 rfl ?_
      refine g_iconst (v := iZ (-1)) 9 dX8_sealed_8 rfl rfl ?_
      refine g_iret rfl dX8_sealed_9 ?_
      exact k _ (-1) (by decide) HS (Scr.refl _)
    · refine g_iload_n 13 dX8_toolAt_12 rfl rfl ?_
      refine g_bipush (v := iZ (12)) 15 dX8_toolAt_13 (by decide +kernel) rfl ?_
      refine g_icZ_lt 22 18 dX8_toolAt_15 rfl rfl rt (by decide) (fun c3 => ?_) (fun c3 => ?_)
      · refine g_aload_n 23 dX8_toolAt_22 rfl rfl ?_
        refine g_get 26 dX8_toolAt_23 faX8_22_X8 F0 rfl rfl ?_
        refine g_iload_n 27 dX8_toolAt_26 rfl rfl ?_
        refine g_aaldZ 28 dX8_toolAt_27 F4 (by decide) (by omega) (by omega) (by decide) (tls_at (by omega) (by omega)) rfl ?_
        refine g_aret rfl (Or.inr ⟨_, rfl⟩) dX8_toolAt_28 ?_
        refine rR ?_
        refine g_ifnonnull 10 dX8_sealed_5 rfl ?_
        refine g_aload_n 11 dX8_sealed_10 rfl rfl ?_
        refine g_iload_n 12 dX8_sealed_11 rfl rfl ?_
        refine g_aload_n 13 dX8_sealed_12 rfl rfl ?_
        refine g_callV (z := mX8_staleBits) (As := []) 16 dX8_sealed_13 mwX8_staleBits ⟨by decide, by decide⟩ rfl wlX8_158 wiX8_staleBits wsX8_staleBits F0 rfl rfl rfl (nle rfl) (nle rfl) rfl ?_
        refine w_stale HC HS   (fun h5 z4 rz4 H6 s7 => ?_)
        refine rI ?_
        have f8 := (s7.get (by omega) F0)
        refine g_callV (z := mX8_isSealed) (As := [.int (iZ t), .int (iZ z4)]) 19 dX8_sealed_16 mwX8_isSealed ⟨by decide, by decide⟩ rfl wlX8_176 wiX8_isSealed wsX8_isSealed f8 rfl rfl rfl (nle rfl) (nle rfl) rfl ?_
        refine w_seal (HC.scr s7) rt rz4  (fun z9 rz9 => ?_)
        refine rI ?_
        refine g_ifZ_eq 26 22 dX8_sealed_19 rfl rfl (rg01 rz9) (fun c10 => ?_) (fun c10 => ?_)
        · refine g_iconst (v := iZ (0)) 27 dX8_sealed_26 rfl rfl ?_
          refine g_iret rfl dX8_sealed_27 ?_
          exact k _ (0) (by decide) H6 s7
        · refine g_iconst (v := iZ (1)) 23 dX8_sealed_22 rfl rfl ?_
          refine g_goto 27 dX8_sealed_23 rfl ?_
          refine g_iret rfl dX8_sealed_27 ?_
          exact k _ (1) (by decide) H6 s7
      · refine g_null 19 dX8_toolAt_18 rfl ?_
        refine g_goto 28 dX8_toolAt_19 rfl ?_
        refine g_aret rfl (Or.inl rfl) dX8_toolAt_28 ?_
        refine rN ?_
        refine g_ifnonnullN 8 dX8_sealed_5 rfl ?_
        refine g_iconst (v := iZ (-1)) 9 dX8_sealed_8 rfl rfl ?_
        refine g_iret rfl dX8_sealed_9 ?_
        exact k _ (-1) (by decide) HS (Scr.refl _)
set_option maxRecDepth 100000 in
theorem p_least_l {l : Launch} {Q : Option Value → MH → Prop} {tc : Nat} {xn : Nat → Int} {xf : Nat → Nat → Int}    : ∀ (m0 : Nat) (h : MH) (fr : Int) (b : Int) (j : Int), (12 - j).toNat = m0 → CORE h tc xn xf → SC h → (rg fr) → (rg b) → (0 ≤ j ∧ j ≤ 12) → (∀ (h1 : MH) (r : Int), rg r → SC h1 → Scr h h1 → Q (some (.int (iZ r))) h1) → Go l mX8_least 30 [some (.ref 0), none, some (.int (iZ fr)), some (.int (iZ b)), some (.int (iZ j)), none, none] [] h Q := by
  intro m0
  induction m0 using Nat.strongRecOn with
  | ind m0 ih =>
    intro h fr b j hmz HC HS rfr rb hj k
    obtain ⟨⟨tr, F0⟩, F3, F4, htc, HT, HL⟩ := id HC
    refine g_iload 32 dX8_least_30 rfl rfl ?_
    refine g_bipush (v := iZ (12)) 34 dX8_least_32 (by decide +kernel) rfl ?_
    refine g_icZ_ge 96 37 dX8_least_34 rfl rfl (by omega) (by decide) (fun c1 => ?_) (fun c1 => ?_)
    · refine g_iload_n 97 dX8_least_96 rfl rfl ?_
      refine g_iret rfl dX8_least_97 ?_
      exact k _ (b) rb HS (Scr.refl _)
    · refine g_iload_n 38 dX8_least_37 rfl rfl ?_
      refine g_iload 40 dX8_least_38 rfl rfl ?_
      refine g_callS (z := mX8_hasBit) (As := [.int (iZ fr), .int (iZ j)]) 43 dX8_least_40 mwX8_hasBit ⟨by decide, by decide⟩ rfl wlX8_180 wtX8_hasBit rfl (nle rfl) (nle rfl) rfl ?_
      refine w_hb  rfr (by omega) (fun z2 rz2 => ?_)
      refine rI ?_
      refine g_ifZ_eq 90 46 dX8_least_43 rfl rfl (rg01 rz2) (fun c3 => ?_) (fun c3 => ?_)
      · refine g_iincZ [some (.ref 0), none, some (.int (iZ fr)), some (.int (iZ b)), some (.int (iZ (j + 1))), none, none] 93 dX8_least_90 rfl (by omega) (by decide) rfl rfl rfl ?_
        refine g_goto 30 dX8_least_93 rfl ?_
        exact ih _ (by omega) _ (fr) (b) (j + 1) rfl HC HS rfr rb (by omega) k
      · refine g_aload_n 47 dX8_least_46 rfl rfl ?_
        refine g_iload 49 dX8_least_47 rfl rfl ?_
        refine g_callV (z := mX8_chainEnd) (As := [.int (iZ j)]) 52 dX8_least_49 mwX8_chainEnd ⟨by decide, by decide⟩ rfl wlX8_183 wiX8_chainEnd wsX8_chainEnd F0 rfl rfl rfl (nle rfl) (nle rfl) rfl ?_
        refine w_che HC (by omega)  (fun z4 rz4 => ?_)
        refine rI ?_
        refine g_istore (L1 := [some (.ref 0), none, some (.int (iZ fr)), some (.int (iZ b)), some (.int (iZ j)), some (.int (iZ z4)), none]) 54 dX8_least_52 (by decide) rfl rfl rfl ?_
        refine g_aload_n 55 dX8_least_54 rfl rfl ?_
        refine g_iload 57 dX8_least_55 rfl rfl ?_
        refine g_callV (z := mX8_toolAt) (As := [.int (iZ z4)]) 60 dX8_least_57 mwX8_toolAt ⟨by decide, by decide⟩ rfl wlX8_90 wiX8_toolAt wsX8_toolAt F0 rfl rfl rfl (nle rfl) (nle rfl) rfl ?_
        refine Go.to [some (.ref 0), some (.int (iZ z4))] [] rfl rfl ?_
        refine g_iload_n 1 dX8_toolAt_0 rfl rfl ?_
        refine g_ifZ_lt 18 4 dX8_toolAt_1 rfl rfl rz4 (fun c5 => ?_) (fun c5 => ?_)
        · refine g_null 19 dX8_toolAt_18 rfl ?_
          refine g_goto 28 dX8_toolAt_19 rfl ?_
          refine g_aret rfl (Or.inl rfl) dX8_toolAt_28 ?_
          refine rN ?_
          refine g_astoreN (L1 := [some (.ref 0), none, some (.int (iZ fr)), some (.int (iZ b)), some (.int (iZ j)), some (.int (iZ z4)), some (.null)]) 62 dX8_least_60 (by decide) rfl rfl rfl ?_
          refine g_aloadN 64 dX8_least_62 rfl rfl ?_
          refine g_ifnullN 90 dX8_least_64 rfl ?_
          refine g_iincZ [some (.ref 0), none, some (.int (iZ fr)), some (.int (iZ b)), some (.int (iZ (j + 1))), some (.int (iZ z4)), some (.null)] 93 dX8_least_90 rfl (by omega) (by decide) rfl rfl rfl ?_
          refine g_goto 30 dX8_least_93 rfl ?_
          refine Go.fgt 5 ?_
          refine Go.fgt 6 ?_
          exact ih _ (by omega) _ (fr) (b) (j + 1) rfl HC HS rfr rb (by omega) k
        · refine g_iload_n 5 dX8_toolAt_4 rfl rfl ?_
          refine g_aload_n 6 dX8_toolAt_5 rfl rfl ?_
          refine g_get 9 dX8_toolAt_6 faX8_26_X8 F0 rfl rfl ?_
          refine g_icZ_ge 18 12 dX8_toolAt_9 rfl rfl rz4 (by omega) (fun c6 => ?_) (fun c6 => ?_)
          · refine g_null 19 dX8_toolAt_18 rfl ?_
            refine g_goto 28 dX8_toolAt_19 rfl ?_
            refine g_aret rfl (Or.inl rfl) dX8_toolAt_28 ?_
            refine rN ?_
            refine g_astoreN (L1 := [some (.ref 0), none, some (.int (iZ fr)), some (.int (iZ b)), some (.int (iZ j)), some (.int (iZ z4)), some (.null)]) 62 dX8_least_60 (by decide) rfl rfl rfl ?_
            refine g_aloadN 64 dX8_least_62 rfl rfl ?_
            refine g_ifnullN 90 dX8_least_64 rfl ?_
            refine g_iincZ [some (.ref 0), none, some (.int (iZ fr)), some (.int (iZ b)), some (.int (iZ (j + 1))), some (.int (iZ z4)), some (.null)] 93 dX8_least_90 rfl (by omega) (by decide) rfl rfl rfl ?_
            refine g_goto 30 dX8_least_93 rfl ?_
            refine Go.fgt 5 ?_
            refine Go.fgt 6 ?_
            exact ih _ (by omega) _ (fr) (b) (j + 1) rfl HC HS rfr rb (by omega) k
          · refine g_iload_n 13 dX8_toolAt_12 rfl rfl ?_
            refine g_bipush (v := iZ (12)) 15 dX8_toolAt_13 (by decide +kernel) rfl ?_
            refine g_icZ_lt 22 18 dX8_toolAt_15 rfl rfl rz4 (by decide) (fun c7 => ?_) (fun c7 => ?_)
            · refine g_aload_n 23 dX8_toolAt_22 rfl rfl ?_
              refine g_get 26 dX8_toolAt_23 faX8_22_X8 F0 rfl rfl ?_
              refine g_iload_n 27 dX8_toolAt_26 rfl rfl ?_
              refine g_aaldZ 28 dX8_toolAt_27 F4 (by decide) (by omega) (by omega) (by decide) (tls_at (by omega) (by omega)) rfl ?_
              refine g_aret rfl (Or.inr ⟨_, rfl⟩) dX8_toolAt_28 ?_
              refine rR ?_
              refine g_astore (L1 := [some (.ref 0), none, some (.int (iZ fr)), some (.int (iZ b)), some (.int (iZ j)), some (.int (iZ z4)), some (.ref (71 + 4 * z4.toNat))]) 62 dX8_least_60 (by decide) rfl rfl rfl ?_
              refine g_aload 64 dX8_least_62 rfl rfl ?_
              refine g_ifnull 67 dX8_least_64 rfl ?_
              refine g_aload 69 dX8_least_67 rfl rfl ?_
              obtain ⟨M_8, n_8, hw_8, tx_8, bd_8, ck_8, f_8, g_8, hM_8, rn_8, rhw_8, rtx_8, rbd_8, rck_8, of_8, og_8, e0_8, e1_8, e2_8, e3_8⟩ := HL (z4.toNat) (by omega)
              refine g_get 72 dX8_least_69 faX8_112_X7 e0_8 rfl rfl ?_
              refine g_ifZ_ne 90 75 dX8_least_72 rfl rfl rhw_8 (fun c9 => ?_) (fun c9 => ?_)
              · refine g_iincZ [some (.ref 0), none, some (.int (iZ fr)), some (.int (iZ b)), some (.int (iZ (j + 1))), some (.int (iZ z4)), some (.ref (71 + 4 * z4.toNat))] 93 dX8_least_90 rfl (by omega) (by decide) rfl rfl rfl ?_
                refine g_goto 30 dX8_least_93 rfl ?_
                refine Go.fgt 5 ?_
                refine Go.fgt 6 ?_
                exact ih _ (by omega) _ (fr) (b) (j + 1) rfl HC HS rfr rb (by omega) k
              · refine g_aload 77 dX8_least_75 rfl rfl ?_
                refine g_get 80 dX8_least_77 faX8_121_X7 e0_8 rfl rfl ?_
                refine g_ifZ_ne 90 83 dX8_least_80 rfl rfl (rg01 rck_8) (fun c10 => ?_) (fun c10 => ?_)
                · refine g_iincZ [some (.ref 0), none, some (.int (iZ fr)), some (.int (iZ b)), some (.int (iZ (j + 1))), some (.int (iZ z4)), some (.ref (71 + 4 * z4.toNat))] 93 dX8_least_90 rfl (by omega) (by decide) rfl rfl rfl ?_
                  refine g_goto 30 dX8_least_93 rfl ?_
                  refine Go.fgt 5 ?_
                  refine Go.fgt 6 ?_
                  exact ih _ (by omega) _ (fr) (b) (j + 1) rfl HC HS rfr rb (by omega) k
                · refine g_iload_n 84 dX8_least_83 rfl rfl ?_
                  refine g_iconst (v := iZ (1)) 85 dX8_least_84 rfl rfl ?_
                  refine g_iload 87 dX8_least_85 rfl rfl ?_
                  refine g_ishl 88 dX8_least_87 rfl ?_
                  refine Go.genZ (fun z11 rz11 => ?_)
                  refine g_ior 89 dX8_least_88 rfl ?_
                  refine Go.genZ (fun z12 rz12 => ?_)
                  refine g_istore_n (L1 := [some (.ref 0), none, some (.int (iZ fr)), some (.int (iZ z12)), some (.int (iZ j)), some (.int (iZ z4)), some (.ref (71 + 4 * z4.toNat))]) 90 dX8_least_89 (by decide) rfl rfl rfl ?_
                  refine g_iincZ [some (.ref 0), none, some (.int (iZ fr)), some (.int (iZ z12)), some (.int (iZ (j + 1))), some (.int (iZ z4)), some (.ref (71 + 4 * z4.toNat))] 93 dX8_least_90 rfl (by omega) (by decide) rfl rfl rfl ?_
                  refine g_goto 30 dX8_least_93 rfl ?_
                  refine Go.fgt 5 ?_
                  refine Go.fgt 6 ?_
                  exact ih _ (by omega) _ (fr) (z12) (j + 1) rfl HC HS rfr rz12 (by omega) k
            · refine g_null 19 dX8_toolAt_18 rfl ?_
              refine g_goto 28 dX8_toolAt_19 rfl ?_
              refine g_aret rfl (Or.inl rfl) dX8_toolAt_28 ?_
              refine rN ?_
              refine g_astoreN (L1 := [some (.ref 0), none, some (.int (iZ fr)), some (.int (iZ b)), some (.int (iZ j)), some (.int (iZ z4)), some (.null)]) 62 dX8_least_60 (by decide) rfl rfl rfl ?_
              refine g_aloadN 64 dX8_least_62 rfl rfl ?_
              refine g_ifnullN 90 dX8_least_64 rfl ?_
              refine g_iincZ [some (.ref 0), none, some (.int (iZ fr)), some (.int (iZ b)), some (.int (iZ (j + 1))), some (.int (iZ z4)), some (.null)] 93 dX8_least_90 rfl (by omega) (by decide) rfl rfl rfl ?_
              refine g_goto 30 dX8_least_93 rfl ?_
              refine Go.fgt 5 ?_
              refine Go.fgt 6 ?_
              exact ih _ (by omega) _ (fr) (b) (j + 1) rfl HC HS rfr rb (by omega) k
set_option maxRecDepth 100000 in
theorem p_least {l : Launch} {h : MH} {Q : Option Value → MH → Prop} {tc : Nat} {xn : Nat → Int} {xf : Nat → Nat → Int} {z0 : Int} (HC : CORE h tc xn xf) (HS : SC h) (rz0 : rg z0)  (k : ∀ (h1 : MH) (r : Int), rg r → SC h1 → Scr h h1 → Q (some (.int (iZ r))) h1) : Go l mX8_least 0 [some (.ref 0), some (.int (iZ z0)), none, none, none, none, none] [] h Q := by
  obtain ⟨⟨tr, F0⟩, F3, F4, htc, HT, HL⟩ := id HC
  refine g_iload_n 1 dX8_least_0 rfl rfl ?_
  refine g_ifZ_lt 14 4 dX8_least_1 rfl rfl rz0 (fun c1 => ?_) (fun c1 => ?_)
  · refine g_iconst (v := iZ (-1)) 15 dX8_least_14 rfl rfl ?_
    refine g_iret rfl dX8_least_15 ?_
    exact k _ (-1) (by decide) HS (Scr.refl _)
  · refine g_iload_n 5 dX8_least_4 rfl rfl ?_
    refine g_iconst (v := iZ (1)) 6 dX8_least_5 rfl rfl ?_
    refine g_aload_n 7 dX8_least_6 rfl rfl ?_
    refine g_get 10 dX8_least_7 faX8_26_X8 F0 rfl rfl ?_
    refine g_ishl 11 dX8_least_10 rfl ?_
    refine Go.genZ (fun z2 rz2 => ?_)
    refine g_icZ_lt 16 14 dX8_least_11 rfl rfl rz0 rz2 (fun c3 => ?_) (fun c3 => ?_)
    · refine g_iload_n 17 dX8_least_16 rfl rfl ?_
      refine g_aload_n 18 dX8_least_17 rfl rfl ?_
      refine g_callV (z := mX8_staleBits) (As := []) 21 dX8_least_18 mwX8_staleBits ⟨by decide, by decide⟩ rfl wlX8_158 wiX8_staleBits wsX8_staleBits F0 rfl rfl rfl (nle rfl) (nle rfl) rfl ?_
      refine w_stale HC HS   (fun h5 z4 rz4 H6 s7 => ?_)
      refine rI ?_
      refine g_iconst (v := iZ (-1)) 22 dX8_least_21 rfl rfl ?_
      refine g_ixor 23 dX8_least_22 rfl ?_
      refine Go.genZ (fun z8 rz8 => ?_)
      refine g_iand 24 dX8_least_23 rfl ?_
      refine Go.genZ (fun z9 rz9 => ?_)
      refine g_istore_n (L1 := [some (.ref 0), some (.int (iZ z0)), some (.int (iZ z9)), none, none, none, none]) 25 dX8_least_24 (by decide) rfl rfl rfl ?_
      refine g_iconst (v := iZ (0)) 26 dX8_least_25 rfl rfl ?_
      refine g_istore_n (L1 := [some (.ref 0), some (.int (iZ z0)), some (.int (iZ z9)), some (.int (iZ 0)), none, none, none]) 27 dX8_least_26 (by decide) rfl rfl rfl ?_
      refine g_iconst (v := iZ (0)) 28 dX8_least_27 rfl rfl ?_
      refine g_istore (L1 := [some (.ref 0), some (.int (iZ z0)), some (.int (iZ z9)), some (.int (iZ 0)), some (.int (iZ 0)), none, none]) 30 dX8_least_28 (by decide) rfl rfl rfl ?_
      refine Go.fgt 1 ?_
      exact p_least_l   _ _ (z9) (0) (0) rfl (HC.scr s7) H6 rz9 (by decide) (by omega) (fun h9 r9 y9 a9 b9 => k h9 r9 y9 a9 (s7.tr b9))
    · refine g_iconst (v := iZ (-1)) 15 dX8_least_14 rfl rfl ?_
      refine g_iret rfl dX8_least_15 ?_
      exact k _ (-1) (by decide) HS (Scr.refl _)
